section
-- ===== PART A: goes FIRST, ahead of the names: the tables' words, and 'selects' of the private methods out of them =====
/-- a private method of a class that the tables say can be made, by its rows of tables_1 -/
def lw_okq (q : MethodName × Nat) : Prop := (q.1.cls ≠ "java/lang/invoke/MethodHandle" ∧ q.1.cls ≠ "java/lang/invoke/VarHandle") ∧ Cond.instantiable q.1.cls q.2 ∈ tables_1 ∧ Cond.privateMethod q.1 ∈ tables_1 ∧ Cond.instanceMethod q.1 ∈ tables_1
theorem lw_p0 : lw_okq (⟨"EchoRow$Layers", "fillRow", "(III)V"⟩, 5) := ⟨⟨by decide +kernel, by decide +kernel⟩, List.mem_of_getElem? (i := 20) (by decide +kernel), List.mem_of_getElem? (i := 30) (by decide +kernel), List.mem_of_getElem? (i := 31) (by decide +kernel)⟩
theorem lw_p1 : lw_okq (⟨"EchoRow", "elementNumbered", "(I)LEchoRow$Element;"⟩, 11) := ⟨⟨by decide +kernel, by decide +kernel⟩, List.mem_of_getElem? (i := 12) (by decide +kernel), List.mem_of_getElem? (i := 153) (by decide +kernel), List.mem_of_getElem? (i := 154) (by decide +kernel)⟩
theorem lw_p2 : lw_okq (⟨"EchoRow", "countWorking", "()I"⟩, 11) := ⟨⟨by decide +kernel, by decide +kernel⟩, List.mem_of_getElem? (i := 12) (by decide +kernel), List.mem_of_getElem? (i := 157) (by decide +kernel), List.mem_of_getElem? (i := 158) (by decide +kernel)⟩
theorem lw_p3 : lw_okq (⟨"EchoRow", "targetNumbered", "(I)LEchoRow$Target;"⟩, 11) := ⟨⟨by decide +kernel, by decide +kernel⟩, List.mem_of_getElem? (i := 12) (by decide +kernel), List.mem_of_getElem? (i := 210) (by decide +kernel), List.mem_of_getElem? (i := 211) (by decide +kernel)⟩
theorem lw_p4 : lw_okq (⟨"EchoRow", "found", "(I)I"⟩, 11) := ⟨⟨by decide +kernel, by decide +kernel⟩, List.mem_of_getElem? (i := 12) (by decide +kernel), List.mem_of_getElem? (i := 214) (by decide +kernel), List.mem_of_getElem? (i := 215) (by decide +kernel)⟩
theorem lw_p5 : lw_okq (⟨"EchoRow", "depthOf", "(LEchoRow$Target;)I"⟩, 11) := ⟨⟨by decide +kernel, by decide +kernel⟩, List.mem_of_getElem? (i := 12) (by decide +kernel), List.mem_of_getElem? (i := 218) (by decide +kernel), List.mem_of_getElem? (i := 219) (by decide +kernel)⟩
theorem lw_p6 : lw_okq (⟨"EchoRow", "timeTo", "(LEchoRow$Element;II)I"⟩, 11) := ⟨⟨by decide +kernel, by decide +kernel⟩, List.mem_of_getElem? (i := 12) (by decide +kernel), List.mem_of_getElem? (i := 226) (by decide +kernel), List.mem_of_getElem? (i := 227) (by decide +kernel)⟩
theorem lw_p7 : lw_okq (⟨"EchoRow", "echoTimeBy", "(LEchoRow$Element;LEchoRow$Element;LEchoRow$Target;)I"⟩, 11) := ⟨⟨by decide +kernel, by decide +kernel⟩, List.mem_of_getElem? (i := 12) (by decide +kernel), List.mem_of_getElem? (i := 259) (by decide +kernel), List.mem_of_getElem? (i := 260) (by decide +kernel)⟩
theorem lw_p8 : lw_okq (⟨"EchoRow", "echoAt", "(LEchoRow$Element;LEchoRow$Element;J)I"⟩, 11) := ⟨⟨by decide +kernel, by decide +kernel⟩, List.mem_of_getElem? (i := 12) (by decide +kernel), List.mem_of_getElem? (i := 278) (by decide +kernel), List.mem_of_getElem? (i := 279) (by decide +kernel)⟩
theorem lw_p9 : lw_okq (⟨"EchoRow", "heardBy", "(LEchoRow$Element;J)I"⟩, 11) := ⟨⟨by decide +kernel, by decide +kernel⟩, List.mem_of_getElem? (i := 12) (by decide +kernel), List.mem_of_getElem? (i := 299) (by decide +kernel), List.mem_of_getElem? (i := 300) (by decide +kernel)⟩
theorem lw_p10 : lw_okq (⟨"EchoRow", "fits", "(III)Z"⟩, 11) := ⟨⟨by decide +kernel, by decide +kernel⟩, List.mem_of_getElem? (i := 12) (by decide +kernel), List.mem_of_getElem? (i := 341) (by decide +kernel), List.mem_of_getElem? (i := 342) (by decide +kernel)⟩
theorem lw_p11 : lw_okq (⟨"EchoRow", "countSheets", "()I"⟩, 11) := ⟨⟨by decide +kernel, by decide +kernel⟩, List.mem_of_getElem? (i := 12) (by decide +kernel), List.mem_of_getElem? (i := 422) (by decide +kernel), List.mem_of_getElem? (i := 423) (by decide +kernel)⟩
theorem lw_p12 : lw_okq (⟨"EchoRowModel", "unmake", "()V"⟩, 28) := ⟨⟨by decide +kernel, by decide +kernel⟩, List.mem_of_getElem? (i := 426) (by decide +kernel), List.mem_of_getElem? (i := 527) (by decide +kernel), List.mem_of_getElem? (i := 528) (by decide +kernel)⟩
theorem lw_p13 : lw_okq (⟨"EchoRowModel", "floor", "()I"⟩, 28) := ⟨⟨by decide +kernel, by decide +kernel⟩, List.mem_of_getElem? (i := 426) (by decide +kernel), List.mem_of_getElem? (i := 531) (by decide +kernel), List.mem_of_getElem? (i := 532) (by decide +kernel)⟩
theorem lw_p14 : lw_okq (⟨"EchoRowModel", "noElement", "(I)Z"⟩, 28) := ⟨⟨by decide +kernel, by decide +kernel⟩, List.mem_of_getElem? (i := 426) (by decide +kernel), List.mem_of_getElem? (i := 544) (by decide +kernel), List.mem_of_getElem? (i := 545) (by decide +kernel)⟩
theorem lw_p15 : lw_okq (⟨"EchoRowModel", "working", "()I"⟩, 28) := ⟨⟨by decide +kernel, by decide +kernel⟩, List.mem_of_getElem? (i := 426) (by decide +kernel), List.mem_of_getElem? (i := 548) (by decide +kernel), List.mem_of_getElem? (i := 549) (by decide +kernel)⟩
def lw_privs_1 : List (MethodName × Nat) := [(⟨"EchoRow$Layers", "fillRow", "(III)V"⟩, 5), (⟨"EchoRow", "elementNumbered", "(I)LEchoRow$Element;"⟩, 11), (⟨"EchoRow", "countWorking", "()I"⟩, 11), (⟨"EchoRow", "targetNumbered", "(I)LEchoRow$Target;"⟩, 11), (⟨"EchoRow", "found", "(I)I"⟩, 11), (⟨"EchoRow", "depthOf", "(LEchoRow$Target;)I"⟩, 11), (⟨"EchoRow", "timeTo", "(LEchoRow$Element;II)I"⟩, 11), (⟨"EchoRow", "echoTimeBy", "(LEchoRow$Element;LEchoRow$Element;LEchoRow$Target;)I"⟩, 11), (⟨"EchoRow", "echoAt", "(LEchoRow$Element;LEchoRow$Element;J)I"⟩, 11), (⟨"EchoRow", "heardBy", "(LEchoRow$Element;J)I"⟩, 11), (⟨"EchoRow", "fits", "(III)Z"⟩, 11), (⟨"EchoRow", "countSheets", "()I"⟩, 11), (⟨"EchoRowModel", "unmake", "()V"⟩, 28), (⟨"EchoRowModel", "floor", "()I"⟩, 28), (⟨"EchoRowModel", "noElement", "(I)Z"⟩, 28), (⟨"EchoRowModel", "working", "()I"⟩, 28)]
theorem lw_r1 : ∀ q ∈ lw_privs_1, lw_okq q := List.forall_mem_cons.mpr ⟨lw_p0, List.forall_mem_cons.mpr ⟨lw_p1, List.forall_mem_cons.mpr ⟨lw_p2, List.forall_mem_cons.mpr ⟨lw_p3, List.forall_mem_cons.mpr ⟨lw_p4, List.forall_mem_cons.mpr ⟨lw_p5, List.forall_mem_cons.mpr ⟨lw_p6, List.forall_mem_cons.mpr ⟨lw_p7, List.forall_mem_cons.mpr ⟨lw_p8, List.forall_mem_cons.mpr ⟨lw_p9, List.forall_mem_cons.mpr ⟨lw_p10, List.forall_mem_cons.mpr ⟨lw_p11, List.forall_mem_cons.mpr ⟨lw_p12, List.forall_mem_cons.mpr ⟨lw_p13, List.forall_mem_cons.mpr ⟨lw_p14, List.forall_mem_cons.mpr ⟨lw_p15, fun _ h => absurd h List.not_mem_nil⟩⟩⟩⟩⟩⟩⟩⟩⟩⟩⟩⟩⟩⟩⟩⟩
theorem lw_p16 : lw_okq (⟨"EchoRowModel", "isPlace", "(II)Z"⟩, 28) := ⟨⟨by decide +kernel, by decide +kernel⟩, List.mem_of_getElem? (i := 426) (by decide +kernel), List.mem_of_getElem? (i := 557) (by decide +kernel), List.mem_of_getElem? (i := 558) (by decide +kernel)⟩
theorem lw_p17 : lw_okq (⟨"EchoRowModel", "finds", "(I)I"⟩, 28) := ⟨⟨by decide +kernel, by decide +kernel⟩, List.mem_of_getElem? (i := 426) (by decide +kernel), List.mem_of_getElem? (i := 572) (by decide +kernel), List.mem_of_getElem? (i := 573) (by decide +kernel)⟩
theorem lw_p18 : lw_okq (⟨"EchoRowModel", "depthOf", "(I)I"⟩, 28) := ⟨⟨by decide +kernel, by decide +kernel⟩, List.mem_of_getElem? (i := 426) (by decide +kernel), List.mem_of_getElem? (i := 576) (by decide +kernel), List.mem_of_getElem? (i := 577) (by decide +kernel)⟩
theorem lw_p19 : lw_okq (⟨"EchoRowModel", "timeOf", "(III)I"⟩, 28) := ⟨⟨by decide +kernel, by decide +kernel⟩, List.mem_of_getElem? (i := 426) (by decide +kernel), List.mem_of_getElem? (i := 584) (by decide +kernel), List.mem_of_getElem? (i := 585) (by decide +kernel)⟩
theorem lw_p20 : lw_okq (⟨"EchoRowModel", "make", "(II)V"⟩, 28) := ⟨⟨by decide +kernel, by decide +kernel⟩, List.mem_of_getElem? (i := 426) (by decide +kernel), List.mem_of_getElem? (i := 588) (by decide +kernel), List.mem_of_getElem? (i := 589) (by decide +kernel)⟩
theorem lw_p21 : lw_okq (⟨"EchoRowModel", "echoOf", "(III)I"⟩, 28) := ⟨⟨by decide +kernel, by decide +kernel⟩, List.mem_of_getElem? (i := 426) (by decide +kernel), List.mem_of_getElem? (i := 603) (by decide +kernel), List.mem_of_getElem? (i := 604) (by decide +kernel)⟩
theorem lw_p22 : lw_okq (⟨"EchoRowModel", "least", "(IIIII)I"⟩, 28) := ⟨⟨by decide +kernel, by decide +kernel⟩, List.mem_of_getElem? (i := 426) (by decide +kernel), List.mem_of_getElem? (i := 607) (by decide +kernel), List.mem_of_getElem? (i := 608) (by decide +kernel)⟩
theorem lw_p23 : lw_okq (⟨"EchoRowModel", "echoAt", "(IIJ)I"⟩, 28) := ⟨⟨by decide +kernel, by decide +kernel⟩, List.mem_of_getElem? (i := 426) (by decide +kernel), List.mem_of_getElem? (i := 619) (by decide +kernel), List.mem_of_getElem? (i := 620) (by decide +kernel)⟩
theorem lw_p24 : lw_okq (⟨"EchoRowModel", "heardAt", "(IJ)I"⟩, 28) := ⟨⟨by decide +kernel, by decide +kernel⟩, List.mem_of_getElem? (i := 426) (by decide +kernel), List.mem_of_getElem? (i := 640) (by decide +kernel), List.mem_of_getElem? (i := 641) (by decide +kernel)⟩
theorem lw_p25 : lw_okq (⟨"EchoRowModel", "near", "(II)I"⟩, 28) := ⟨⟨by decide +kernel, by decide +kernel⟩, List.mem_of_getElem? (i := 426) (by decide +kernel), List.mem_of_getElem? (i := 666) (by decide +kernel), List.mem_of_getElem? (i := 667) (by decide +kernel)⟩
theorem lw_p26 : lw_okq (⟨"EchoRowModel", "isNear", "(III)Z"⟩, 28) := ⟨⟨by decide +kernel, by decide +kernel⟩, List.mem_of_getElem? (i := 426) (by decide +kernel), List.mem_of_getElem? (i := 670) (by decide +kernel), List.mem_of_getElem? (i := 671) (by decide +kernel)⟩
def lw_privs_2 : List (MethodName × Nat) := [(⟨"EchoRowModel", "isPlace", "(II)Z"⟩, 28), (⟨"EchoRowModel", "finds", "(I)I"⟩, 28), (⟨"EchoRowModel", "depthOf", "(I)I"⟩, 28), (⟨"EchoRowModel", "timeOf", "(III)I"⟩, 28), (⟨"EchoRowModel", "make", "(II)V"⟩, 28), (⟨"EchoRowModel", "echoOf", "(III)I"⟩, 28), (⟨"EchoRowModel", "least", "(IIIII)I"⟩, 28), (⟨"EchoRowModel", "echoAt", "(IIJ)I"⟩, 28), (⟨"EchoRowModel", "heardAt", "(IJ)I"⟩, 28), (⟨"EchoRowModel", "near", "(II)I"⟩, 28), (⟨"EchoRowModel", "isNear", "(III)Z"⟩, 28)]
theorem lw_r2 : ∀ q ∈ lw_privs_2, lw_okq q := List.forall_mem_cons.mpr ⟨lw_p16, List.forall_mem_cons.mpr ⟨lw_p17, List.forall_mem_cons.mpr ⟨lw_p18, List.forall_mem_cons.mpr ⟨lw_p19, List.forall_mem_cons.mpr ⟨lw_p20, List.forall_mem_cons.mpr ⟨lw_p21, List.forall_mem_cons.mpr ⟨lw_p22, List.forall_mem_cons.mpr ⟨lw_p23, List.forall_mem_cons.mpr ⟨lw_p24, List.forall_mem_cons.mpr ⟨lw_p25, List.forall_mem_cons.mpr ⟨lw_p26, fun _ h => absurd h List.not_mem_nil⟩⟩⟩⟩⟩⟩⟩⟩⟩⟩⟩
def lw_privs : List (MethodName × Nat) := lw_privs_1 ++ (lw_privs_2)
def lw_tbl : List Cond := k2_sels lw_privs ++ tables_1
theorem lw_privs_ok : ∀ q ∈ lw_privs, lw_okq q := by
  show ∀ q ∈ lw_privs_1 ++ (lw_privs_2), lw_okq q
  exact List.forall_mem_append.mpr ⟨lw_r1, lw_r2⟩
end
section
/-! ===== BEGIN words of one list among another's, by their places ===== -/
theorem goodIn_r {big : List Cond} (ws : List Cond) (ps : List Nat) (hp : ws = ps.filterMap (fun i => big[i]?)) (h : ws.all goodWord = true) : GoodIn big ws := by
  intro w hw
  have h1 := List.all_eq_true.mp h w hw
  rw [hp] at hw
  obtain ⟨i, -, hi⟩ := List.mem_filterMap.mp hw
  have hm : w ∈ big := by first | exact List.mem_of_getElem? hi | exact List.getElem?_mem hi
  exact ⟨hm, good_of_word h1⟩
theorem goodIn_app {big a b : List Cond} (ha : GoodIn big a) (hb : GoodIn big b) : GoodIn big (a ++ b) := fun w h => (List.mem_append.mp h).elim (ha w) (hb w)
theorem goodIn_ca {big a b : List Cond} {c : Cond} (ha : GoodIn big (c :: a)) (hb : GoodIn big b) : GoodIn big (c :: (a ++ b)) := fun w h => (List.mem_cons.mp h).elim (fun e => ha w (List.mem_cons.mpr (Or.inl e))) (fun h => (List.mem_append.mp h).elim (fun h => ha w (List.mem_cons.mpr (Or.inr h))) (hb w))
theorem goodIn_sub {big ws : List Cond} (hm : ∀ w ∈ ws, w ∈ big) (h : ws.all goodWord = true) : GoodIn big ws := fun w hw => ⟨hm w hw, good_of_word (List.all_eq_true.mp h w hw)⟩
/-! ===== END ===== -/


def RX0 : String := "EchoRow$Element"
def TX0 : u_T := fun k => match k with
  | 0 => ("EchoRow$Element", "number", "I", true)
  | 1 => ("EchoRow$Element", "x", "I", true)
  | 2 => ("EchoRow$Element", "works", "Z", false)
  | 3 => ("EchoRow$Element", "wait", "I", false)
  | _ => ("EchoRow$Element", "times", "[I", true)
def tyX0 : Nat → FieldType := fun k => match k with
  | 0 => .int
  | 1 => .int
  | 2 => .boolean
  | 3 => .int
  | _ => .array .int
abbrev wsX00 : List Cond := u_ws RX0 TX0 5
theorem nmX0 : ∀ a, a < 5 → ∀ b, b < 5 → a ≠ b → (TX0 a).2.1 ≠ (TX0 b).2.1 := by decide +kernel
theorem tyX0_ok : ∀ k, k < 5 → parseFieldDescriptor (TX0 k).2.2.1 = some (tyX0 k) := by decide +kernel
abbrev cX0_init : ByteArray := prog_2_method_1_code
def yX0_init : MethodName := ⟨RX0, "<init>", "(II)V"⟩
abbrev cX0_forgetTimes : ByteArray := prog_2_method_2_code
def yX0_forgetTimes : MethodName := ⟨RX0, "forgetTimes", "()V"⟩
def RX1 : String := "EchoRow$Layers"
def TX1 : u_T := fun k => match k with
  | 0 => ("EchoRow$Layers", "wedge", "I", false)
  | 1 => ("EchoRow$Layers", "plate", "I", false)
  | 2 => ("EchoRow$Layers", "plateSlowness", "I", false)
  | 3 => ("EchoRow$Layers", "legs", "[I", true)
  | _ => ("EchoRow$Layers", "ready", "[Z", true)
def tyX1 : Nat → FieldType := fun k => match k with
  | 0 => .int
  | 1 => .int
  | 2 => .int
  | 3 => .array .int
  | _ => .array .boolean
abbrev wsX10 : List Cond := u_ws RX1 TX1 5
theorem nmX1 : ∀ a, a < 5 → ∀ b, b < 5 → a ≠ b → (TX1 a).2.1 ≠ (TX1 b).2.1 := by decide +kernel
theorem tyX1_ok : ∀ k, k < 5 → parseFieldDescriptor (TX1 k).2.2.1 = some (tyX1 k) := by decide +kernel
abbrev cX1_init : ByteArray := prog_3_method_1_code
def yX1_init : MethodName := ⟨RX1, "<init>", "()V"⟩
abbrev cX1_lay : ByteArray := prog_3_method_2_code
def yX1_lay : MethodName := ⟨RX1, "lay", "(IIII)V"⟩
abbrev cX1_floor : ByteArray := prog_3_method_3_code
def yX1_floor : MethodName := ⟨RX1, "floor", "()I"⟩
abbrev cX1_holds : ByteArray := prog_3_method_4_code
def yX1_holds : MethodName := ⟨RX1, "holds", "(II)Z"⟩
abbrev cX1_leastTicks : ByteArray := prog_3_method_5_code
def yX1_leastTicks : MethodName := ⟨RX1, "leastTicks", "(III)I"⟩
abbrev cX1_leastBend : ByteArray := prog_3_method_6_code
def yX1_leastBend : MethodName := ⟨RX1, "leastBend", "(III)I"⟩
abbrev cX1_wallTicks : ByteArray := prog_3_method_7_code
def yX1_wallTicks : MethodName := ⟨RX1, "wallTicks", "(III)I"⟩
abbrev cX1_fillRow : ByteArray := prog_3_method_8_code
def yX1_fillRow : MethodName := ⟨RX1, "fillRow", "(III)V"⟩
def RX2 : String := "EchoRow$Sheet"
def TX2 : u_T := fun k => match k with
  | 0 => ("EchoRow$Sheet", "lane", "I", true)
  | _ => ("EchoRow$Sheet", "numbers", "[I", true)
def tyX2 : Nat → FieldType := fun k => match k with
  | 0 => .int
  | _ => .array .int
abbrev wsX20 : List Cond := u_ws RX2 TX2 2
theorem nmX2 : ∀ a, a < 2 → ∀ b, b < 2 → a ≠ b → (TX2 a).2.1 ≠ (TX2 b).2.1 := by decide +kernel
theorem tyX2_ok : ∀ k, k < 2 → parseFieldDescriptor (TX2 k).2.2.1 = some (tyX2 k) := by decide +kernel
abbrev cX2_init : ByteArray := prog_4_method_1_code
def yX2_init : MethodName := ⟨RX2, "<init>", "(II)V"⟩
abbrev cX2_hasRun : ByteArray := prog_4_method_2_code
def yX2_hasRun : MethodName := ⟨RX2, "hasRun", "(II)Z"⟩
abbrev cX2_nearestTo : ByteArray := prog_4_method_3_code
def yX2_nearestTo : MethodName := ⟨RX2, "nearestTo", "(J)I"⟩
def RX3 : String := "EchoRow$Target"
def TX3 : u_T := fun k => match k with
  | 0 => ("EchoRow$Target", "kind", "I", true)
  | 1 => ("EchoRow$Target", "x", "I", true)
  | 2 => ("EchoRow$Target", "z", "I", true)
  | 3 => ("EchoRow$Target", "y", "I", true)
  | 4 => ("EchoRow$Target", "strength", "I", true)
  | _ => ("EchoRow$Target", "times", "[I", true)
def tyX3 : Nat → FieldType := fun k => match k with
  | 0 => .int
  | 1 => .int
  | 2 => .int
  | 3 => .int
  | 4 => .int
  | _ => .array .int
abbrev wsX30 : List Cond := u_ws RX3 TX3 6
theorem nmX3 : ∀ a, a < 6 → ∀ b, b < 6 → a ≠ b → (TX3 a).2.1 ≠ (TX3 b).2.1 := by decide +kernel
theorem tyX3_ok : ∀ k, k < 6 → parseFieldDescriptor (TX3 k).2.2.1 = some (tyX3 k) := by decide +kernel
abbrev cX3_init : ByteArray := prog_5_method_1_code
def yX3_init : MethodName := ⟨RX3, "<init>", "(IIIII)V"⟩
abbrev cX3_forgetTimes : ByteArray := prog_5_method_2_code
def yX3_forgetTimes : MethodName := ⟨RX3, "forgetTimes", "()V"⟩
def RX4 : String := "EchoRow$Told"
def TX4 : u_T := fun k => match k with
  | 0 => ("EchoRow$Told", "a", "LEchoRow$Element;", true)
  | 1 => ("EchoRow$Told", "b", "LEchoRow$Element;", true)
  | _ => ("EchoRow$Told", "tick", "I", true)
def tyX4 : Nat → FieldType := fun k => match k with
  | 0 => .object "EchoRow$Element"
  | 1 => .object "EchoRow$Element"
  | _ => .int
abbrev wsX40 : List Cond := u_ws RX4 TX4 3
theorem nmX4 : ∀ a, a < 3 → ∀ b, b < 3 → a ≠ b → (TX4 a).2.1 ≠ (TX4 b).2.1 := by decide +kernel
theorem tyX4_ok : ∀ k, k < 3 → parseFieldDescriptor (TX4 k).2.2.1 = some (tyX4 k) := by decide +kernel
abbrev cX4_init : ByteArray := prog_6_method_1_code
def yX4_init : MethodName := ⟨RX4, "<init>", "(LEchoRow$Element;LEchoRow$Element;I)V"⟩
def RX5 : String := "EchoRow"
def TX5 : u_T := fun k => match k with
  | 0 => ("EchoRow", "layers", "LEchoRow$Layers;", true)
  | 1 => ("EchoRow", "elements", "[LEchoRow$Element;", true)
  | 2 => ("EchoRow", "targets", "[LEchoRow$Target;", true)
  | 3 => ("EchoRow", "tolds", "[LEchoRow$Told;", true)
  | 4 => ("EchoRow", "sheets", "[LEchoRow$Sheet;", true)
  | 5 => ("EchoRow", "ahead", "[I", true)
  | 6 => ("EchoRow", "elementCount", "I", false)
  | 7 => ("EchoRow", "targetCount", "I", false)
  | 8 => ("EchoRow", "toldCount", "I", false)
  | 9 => ("EchoRow", "findings", "I", false)
  | _ => ("EchoRow", "focused", "Z", false)
def tyX5 : Nat → FieldType := fun k => match k with
  | 0 => .object "EchoRow$Layers"
  | 1 => .array (.object "EchoRow$Element")
  | 2 => .array (.object "EchoRow$Target")
  | 3 => .array (.object "EchoRow$Told")
  | 4 => .array (.object "EchoRow$Sheet")
  | 5 => .array .int
  | 6 => .int
  | 7 => .int
  | 8 => .int
  | 9 => .int
  | _ => .boolean
abbrev wsX50 : List Cond := u_ws RX5 TX5 11
theorem nmX5 : ∀ a, a < 11 → ∀ b, b < 11 → a ≠ b → (TX5 a).2.1 ≠ (TX5 b).2.1 := by decide +kernel
theorem tyX5_ok : ∀ k, k < 11 → parseFieldDescriptor (TX5 k).2.2.1 = some (tyX5 k) := by decide +kernel
abbrev cX5_init : ByteArray := prog_1_method_1_code
def yX5_init : MethodName := ⟨RX5, "<init>", "()V"⟩
abbrev cX5_body : ByteArray := prog_1_method_2_code
def yX5_body : MethodName := ⟨RX5, "body", "(IIII)I"⟩
abbrev cX5_element : ByteArray := prog_1_method_3_code
def yX5_element : MethodName := ⟨RX5, "element", "(I)I"⟩
abbrev cX5_lose : ByteArray := prog_1_method_4_code
def yX5_lose : MethodName := ⟨RX5, "lose", "(IZ)I"⟩
abbrev cX5_target : ByteArray := prog_1_method_5_code
def yX5_target : MethodName := ⟨RX5, "target", "(IIIII)I"⟩
abbrev cX5_drop : ByteArray := prog_1_method_6_code
def yX5_drop : MethodName := ⟨RX5, "drop", "()I"⟩
abbrev cX5_taken : ByteArray := prog_1_method_7_code
def yX5_taken : MethodName := ⟨RX5, "taken", "(III)I"⟩
abbrev cX5_time : ByteArray := prog_1_method_8_code
def yX5_time : MethodName := ⟨RX5, "time", "(III)I"⟩
abbrev cX5_bend : ByteArray := prog_1_method_9_code
def yX5_bend : MethodName := ⟨RX5, "bend", "(III)I"⟩
abbrev cX5_echoTime : ByteArray := prog_1_method_10_code
def yX5_echoTime : MethodName := ⟨RX5, "echoTime", "(III)I"⟩
abbrev cX5_slowness : ByteArray := prog_1_method_11_code
def yX5_slowness : MethodName := ⟨RX5, "slowness", "(III)I"⟩
abbrev cX5_echo : ByteArray := prog_1_method_12_code
def yX5_echo : MethodName := ⟨RX5, "echo", "(III)I"⟩
abbrev cX5_gate : ByteArray := prog_1_method_13_code
def yX5_gate : MethodName := ⟨RX5, "gate", "(IIIII)I"⟩
abbrev cX5_focus : ByteArray := prog_1_method_14_code
def yX5_focus : MethodName := ⟨RX5, "focus", "(II)I"⟩
abbrev cX5_delay : ByteArray := prog_1_method_15_code
def yX5_delay : MethodName := ⟨RX5, "delay", "(I)I"⟩
abbrev cX5_heard : ByteArray := prog_1_method_16_code
def yX5_heard : MethodName := ⟨RX5, "heard", "(II)I"⟩
abbrev cX5_sum : ByteArray := prog_1_method_17_code
def yX5_sum : MethodName := ⟨RX5, "sum", "(I)I"⟩
abbrev cX5_board : ByteArray := prog_1_method_18_code
def yX5_board : MethodName := ⟨RX5, "board", "(II)I"⟩
abbrev cX5_tell : ByteArray := prog_1_method_19_code
def yX5_tell : MethodName := ⟨RX5, "tell", "(III)I"⟩
abbrev cX5_forget : ByteArray := prog_1_method_20_code
def yX5_forget : MethodName := ⟨RX5, "forget", "()I"⟩
abbrev cX5_places : ByteArray := prog_1_method_21_code
def yX5_places : MethodName := ⟨RX5, "places", "(I)I"⟩
abbrev cX5_place : ByteArray := prog_1_method_22_code
def yX5_place : MethodName := ⟨RX5, "place", "(II)I"⟩
abbrev cX5_sheet : ByteArray := prog_1_method_23_code
def yX5_sheet : MethodName := ⟨RX5, "sheet", "(III)I"⟩
abbrev cX5_tear : ByteArray := prog_1_method_24_code
def yX5_tear : MethodName := ⟨RX5, "tear", "(I)I"⟩
abbrev cX5_record : ByteArray := prog_1_method_25_code
def yX5_record : MethodName := ⟨RX5, "record", "(IIII)I"⟩
abbrev cX5_add : ByteArray := prog_1_method_26_code
def yX5_add : MethodName := ⟨RX5, "add", "(III)I"⟩
abbrev cX5_copy : ByteArray := prog_1_method_27_code
def yX5_copy : MethodName := ⟨RX5, "copy", "(IIIII)I"⟩
abbrev cX5_at : ByteArray := prog_1_method_28_code
def yX5_at : MethodName := ⟨RX5, "at", "(II)I"⟩
abbrev cX5_peak : ByteArray := prog_1_method_29_code
def yX5_peak : MethodName := ⟨RX5, "peak", "(I)I"⟩
abbrev cX5_total : ByteArray := prog_1_method_30_code
def yX5_total : MethodName := ⟨RX5, "total", "(I)I"⟩
abbrev cX5_outside : ByteArray := prog_1_method_31_code
def yX5_outside : MethodName := ⟨RX5, "outside", "(III)Z"⟩
abbrev cX5_noSheet : ByteArray := prog_1_method_32_code
def yX5_noSheet : MethodName := ⟨RX5, "noSheet", "(I)Z"⟩
abbrev cX5_found : ByteArray := prog_1_method_33_code
def yX5_found : MethodName := ⟨RX5, "found", "(I)I"⟩
abbrev cX5_elementNumbered : ByteArray := prog_1_method_34_code
def yX5_elementNumbered : MethodName := ⟨RX5, "elementNumbered", "(I)LEchoRow$Element;"⟩
abbrev cX5_targetNumbered : ByteArray := prog_1_method_35_code
def yX5_targetNumbered : MethodName := ⟨RX5, "targetNumbered", "(I)LEchoRow$Target;"⟩
abbrev cX5_newTarget : ByteArray := prog_1_method_36_code
def yX5_newTarget : MethodName := ⟨RX5, "newTarget", "(IIIII)LEchoRow$Target;"⟩
abbrev cX5_depthOf : ByteArray := prog_1_method_37_code
def yX5_depthOf : MethodName := ⟨RX5, "depthOf", "(LEchoRow$Target;)I"⟩
abbrev cX5_countWorking : ByteArray := prog_1_method_38_code
def yX5_countWorking : MethodName := ⟨RX5, "countWorking", "()I"⟩
abbrev cX5_countSheets : ByteArray := prog_1_method_39_code
def yX5_countSheets : MethodName := ⟨RX5, "countSheets", "()I"⟩
abbrev cX5_timeTo : ByteArray := prog_1_method_40_code
def yX5_timeTo : MethodName := ⟨RX5, "timeTo", "(LEchoRow$Element;II)I"⟩
abbrev cX5_echoTimeBy : ByteArray := prog_1_method_41_code
def yX5_echoTimeBy : MethodName := ⟨RX5, "echoTimeBy", "(LEchoRow$Element;LEchoRow$Element;LEchoRow$Target;)I"⟩
abbrev cX5_echoAt : ByteArray := prog_1_method_42_code
def yX5_echoAt : MethodName := ⟨RX5, "echoAt", "(LEchoRow$Element;LEchoRow$Element;J)I"⟩
abbrev cX5_heardBy : ByteArray := prog_1_method_43_code
def yX5_heardBy : MethodName := ⟨RX5, "heardBy", "(LEchoRow$Element;J)I"⟩
abbrev cX5_fits : ByteArray := prog_1_method_44_code
def yX5_fits : MethodName := ⟨RX5, "fits", "(III)Z"⟩
def RX6 : String := "EchoRowModel"
def TX6 : u_T := fun k => match k with
  | 0 => ("EchoRowModel", "thrown", "I", false)
  | 1 => ("EchoRowModel", "wedge", "I", false)
  | 2 => ("EchoRowModel", "plate", "I", false)
  | 3 => ("EchoRowModel", "slowWedge", "I", false)
  | 4 => ("EchoRowModel", "slow", "I", false)
  | 5 => ("EchoRowModel", "elements", "I", false)
  | 6 => ("EchoRowModel", "at", "[I", true)
  | 7 => ("EchoRowModel", "isLost", "[Z", true)
  | 8 => ("EchoRowModel", "targets", "I", false)
  | 9 => ("EchoRowModel", "kind", "[I", true)
  | 10 => ("EchoRowModel", "fromX", "[I", true)
  | 11 => ("EchoRowModel", "toX", "[I", true)
  | 12 => ("EchoRowModel", "depth", "[I", true)
  | 13 => ("EchoRowModel", "strength", "[I", true)
  | 14 => ("EchoRowModel", "time", "[I", true)
  | 15 => ("EchoRowModel", "bend", "[I", true)
  | 16 => ("EchoRowModel", "isMade", "[Z", true)
  | 17 => ("EchoRowModel", "hasFocus", "Z", false)
  | 18 => ("EchoRowModel", "delay", "[I", true)
  | 19 => ("EchoRowModel", "told", "I", false)
  | 20 => ("EchoRowModel", "one", "[I", true)
  | 21 => ("EchoRowModel", "other", "[I", true)
  | 22 => ("EchoRowModel", "when", "[I", true)
  | 23 => ("EchoRowModel", "length", "[I", true)
  | 24 => ("EchoRowModel", "lane", "[I", true)
  | 25 => ("EchoRowModel", "number", "[I", true)
  | 26 => ("EchoRowModel", "spare", "[I", true)
  | _ => ("EchoRowModel", "findings", "I", false)
def tyX6 : Nat → FieldType := fun k => match k with
  | 0 => .int
  | 1 => .int
  | 2 => .int
  | 3 => .int
  | 4 => .int
  | 5 => .int
  | 6 => .array .int
  | 7 => .array .boolean
  | 8 => .int
  | 9 => .array .int
  | 10 => .array .int
  | 11 => .array .int
  | 12 => .array .int
  | 13 => .array .int
  | 14 => .array .int
  | 15 => .array .int
  | 16 => .array .boolean
  | 17 => .boolean
  | 18 => .array .int
  | 19 => .int
  | 20 => .array .int
  | 21 => .array .int
  | 22 => .array .int
  | 23 => .array .int
  | 24 => .array .int
  | 25 => .array .int
  | 26 => .array .int
  | _ => .int
abbrev wsX60 : List Cond := u_ws RX6 TX6 28
theorem nmX6 : ∀ a, a < 28 → ∀ b, b < 28 → a ≠ b → (TX6 a).2.1 ≠ (TX6 b).2.1 := by decide +kernel
theorem tyX6_ok : ∀ k, k < 28 → parseFieldDescriptor (TX6 k).2.2.1 = some (tyX6 k) := by decide +kernel
abbrev cX6_init : ByteArray := prog_8_method_1_code
def yX6_init : MethodName := ⟨RX6, "<init>", "()V"⟩
abbrev cX6_in : ByteArray := prog_8_method_3_code
def yX6_in : MethodName := ⟨RX6, "in", "(JJJ)Z"⟩
abbrev cX6_finds : ByteArray := prog_8_method_4_code
def yX6_finds : MethodName := ⟨RX6, "finds", "(I)I"⟩
abbrev cX6_floor : ByteArray := prog_8_method_5_code
def yX6_floor : MethodName := ⟨RX6, "floor", "()I"⟩
abbrev cX6_isPlace : ByteArray := prog_8_method_6_code
def yX6_isPlace : MethodName := ⟨RX6, "isPlace", "(II)Z"⟩
abbrev cX6_noElement : ByteArray := prog_8_method_7_code
def yX6_noElement : MethodName := ⟨RX6, "noElement", "(I)Z"⟩
abbrev cX6_working : ByteArray := prog_8_method_8_code
def yX6_working : MethodName := ⟨RX6, "working", "()I"⟩
abbrev cX6_ticks : ByteArray := prog_8_method_9_code
def yX6_ticks : MethodName := ⟨RX6, "ticks", "(III)I"⟩
abbrev cX6_unmake : ByteArray := prog_8_method_10_code
def yX6_unmake : MethodName := ⟨RX6, "unmake", "()V"⟩
abbrev cX6_make : ByteArray := prog_8_method_11_code
def yX6_make : MethodName := ⟨RX6, "make", "(II)V"⟩
abbrev cX6_timeOf : ByteArray := prog_8_method_12_code
def yX6_timeOf : MethodName := ⟨RX6, "timeOf", "(III)I"⟩
abbrev cX6_least : ByteArray := prog_8_method_13_code
def yX6_least : MethodName := ⟨RX6, "least", "(IIIII)I"⟩
abbrev cX6_depthOf : ByteArray := prog_8_method_14_code
def yX6_depthOf : MethodName := ⟨RX6, "depthOf", "(I)I"⟩
abbrev cX6_echoOf : ByteArray := prog_8_method_15_code
def yX6_echoOf : MethodName := ⟨RX6, "echoOf", "(III)I"⟩
abbrev cX6_echoAt : ByteArray := prog_8_method_16_code
def yX6_echoAt : MethodName := ⟨RX6, "echoAt", "(IIJ)I"⟩
abbrev cX6_body : ByteArray := prog_8_method_17_code
def yX6_body : MethodName := ⟨RX6, "body", "(IIII)I"⟩
abbrev cX6_element : ByteArray := prog_8_method_18_code
def yX6_element : MethodName := ⟨RX6, "element", "(I)I"⟩
abbrev cX6_lose : ByteArray := prog_8_method_19_code
def yX6_lose : MethodName := ⟨RX6, "lose", "(IZ)I"⟩
abbrev cX6_target : ByteArray := prog_8_method_20_code
def yX6_target : MethodName := ⟨RX6, "target", "(IIIII)I"⟩
abbrev cX6_drop : ByteArray := prog_8_method_21_code
def yX6_drop : MethodName := ⟨RX6, "drop", "()I"⟩
abbrev cX6_taken : ByteArray := prog_8_method_22_code
def yX6_taken : MethodName := ⟨RX6, "taken", "(III)I"⟩
abbrev cX6_time : ByteArray := prog_8_method_23_code
def yX6_time : MethodName := ⟨RX6, "time", "(III)I"⟩
abbrev cX6_bend : ByteArray := prog_8_method_24_code
def yX6_bend : MethodName := ⟨RX6, "bend", "(III)I"⟩
abbrev cX6_echoTime : ByteArray := prog_8_method_25_code
def yX6_echoTime : MethodName := ⟨RX6, "echoTime", "(III)I"⟩
abbrev cX6_slowness : ByteArray := prog_8_method_26_code
def yX6_slowness : MethodName := ⟨RX6, "slowness", "(III)I"⟩
abbrev cX6_echo : ByteArray := prog_8_method_27_code
def yX6_echo : MethodName := ⟨RX6, "echo", "(III)I"⟩
abbrev cX6_gate : ByteArray := prog_8_method_28_code
def yX6_gate : MethodName := ⟨RX6, "gate", "(IIIII)I"⟩
abbrev cX6_focus : ByteArray := prog_8_method_29_code
def yX6_focus : MethodName := ⟨RX6, "focus", "(II)I"⟩
abbrev cX6_delay : ByteArray := prog_8_method_30_code
def yX6_delay : MethodName := ⟨RX6, "delay", "(I)I"⟩
abbrev cX6_heardAt : ByteArray := prog_8_method_31_code
def yX6_heardAt : MethodName := ⟨RX6, "heardAt", "(IJ)I"⟩
abbrev cX6_heard : ByteArray := prog_8_method_32_code
def yX6_heard : MethodName := ⟨RX6, "heard", "(II)I"⟩
abbrev cX6_sum : ByteArray := prog_8_method_33_code
def yX6_sum : MethodName := ⟨RX6, "sum", "(I)I"⟩
abbrev cX6_board : ByteArray := prog_8_method_34_code
def yX6_board : MethodName := ⟨RX6, "board", "(II)I"⟩
abbrev cX6_tell : ByteArray := prog_8_method_35_code
def yX6_tell : MethodName := ⟨RX6, "tell", "(III)I"⟩
abbrev cX6_forget : ByteArray := prog_8_method_36_code
def yX6_forget : MethodName := ⟨RX6, "forget", "()I"⟩
abbrev cX6_isNear : ByteArray := prog_8_method_37_code
def yX6_isNear : MethodName := ⟨RX6, "isNear", "(III)Z"⟩
abbrev cX6_near : ByteArray := prog_8_method_38_code
def yX6_near : MethodName := ⟨RX6, "near", "(II)I"⟩
abbrev cX6_places : ByteArray := prog_8_method_39_code
def yX6_places : MethodName := ⟨RX6, "places", "(I)I"⟩
abbrev cX6_place : ByteArray := prog_8_method_40_code
def yX6_place : MethodName := ⟨RX6, "place", "(II)I"⟩
abbrev cX6_isSheet : ByteArray := prog_8_method_41_code
def yX6_isSheet : MethodName := ⟨RX6, "isSheet", "(I)Z"⟩
abbrev cX6_as : ByteArray := prog_8_method_42_code
def yX6_as : MethodName := ⟨RX6, "as", "(IJ)I"⟩
abbrev cX6_sheet : ByteArray := prog_8_method_43_code
def yX6_sheet : MethodName := ⟨RX6, "sheet", "(III)I"⟩
abbrev cX6_tear : ByteArray := prog_8_method_44_code
def yX6_tear : MethodName := ⟨RX6, "tear", "(I)I"⟩
abbrev cX6_record : ByteArray := prog_8_method_45_code
def yX6_record : MethodName := ⟨RX6, "record", "(IIII)I"⟩
abbrev cX6_add : ByteArray := prog_8_method_46_code
def yX6_add : MethodName := ⟨RX6, "add", "(III)I"⟩
abbrev cX6_copy : ByteArray := prog_8_method_47_code
def yX6_copy : MethodName := ⟨RX6, "copy", "(IIIII)I"⟩
abbrev cX6_at : ByteArray := prog_8_method_48_code
def yX6_at : MethodName := ⟨RX6, "at", "(II)I"⟩
abbrev cX6_peak : ByteArray := prog_8_method_49_code
def yX6_peak : MethodName := ⟨RX6, "peak", "(I)I"⟩
abbrev cX6_total : ByteArray := prog_8_method_50_code
def yX6_total : MethodName := ⟨RX6, "total", "(I)I"⟩
def RJ9 : String := "java/lang/Math"
def TJ9 : u_T := fun k => match k with
  | _ => ("", "", "", false)
def tyJ9 : Nat → FieldType := fun k => match k with
  | _ => .int
abbrev wsJ90 : List Cond := u_ws RJ9 TJ9 0
theorem nmJ9 : ∀ a, a < 0 → ∀ b, b < 0 → a ≠ b → (TJ9 a).2.1 ≠ (TJ9 b).2.1 := by decide +kernel
theorem tyJ9_ok : ∀ k, k < 0 → parseFieldDescriptor (TJ9 k).2.2.1 = some (tyJ9 k) := by decide +kernel
abbrev cJ9_abs_0f7a4 : ByteArray := prog_9_method_59_code
def yJ9_abs_0f7a4 : MethodName := ⟨RJ9, "abs", "(I)I"⟩
abbrev cJ9_abs_067f4 : ByteArray := prog_9_method_61_code
def yJ9_abs_067f4 : MethodName := ⟨RJ9, "abs", "(J)J"⟩
abbrev cJ9_max_7cf53 : ByteArray := prog_9_method_65_code
def yJ9_max_7cf53 : MethodName := ⟨RJ9, "max", "(II)I"⟩
abbrev cJ9_max_f86c9 : ByteArray := prog_9_method_66_code
def yJ9_max_f86c9 : MethodName := ⟨RJ9, "max", "(JJ)J"⟩
abbrev cJ9_min_7cf53 : ByteArray := prog_9_method_69_code
def yJ9_min_7cf53 : MethodName := ⟨RJ9, "min", "(II)I"⟩
abbrev cJ9_min_f86c9 : ByteArray := prog_9_method_70_code
def yJ9_min_f86c9 : MethodName := ⟨RJ9, "min", "(JJ)J"⟩
def RJ10 : String := "java/lang/System"
def TJ10 : u_T := fun k => match k with
  | _ => ("", "", "", false)
def tyJ10 : Nat → FieldType := fun k => match k with
  | _ => .int
abbrev wsJ100 : List Cond := u_ws RJ10 TJ10 0
theorem nmJ10 : ∀ a, a < 0 → ∀ b, b < 0 → a ≠ b → (TJ10 a).2.1 ≠ (TJ10 b).2.1 := by decide +kernel
theorem tyJ10_ok : ∀ k, k < 0 → parseFieldDescriptor (TJ10 k).2.2.1 = some (tyJ10 k) := by decide +kernel
def RJ7 : String := "java/util/Arrays"
def TJ7 : u_T := fun k => match k with
  | _ => ("", "", "", false)
def tyJ7 : Nat → FieldType := fun k => match k with
  | _ => .int
abbrev wsJ70 : List Cond := u_ws RJ7 TJ7 0
theorem nmJ7 : ∀ a, a < 0 → ∀ b, b < 0 → a ≠ b → (TJ7 a).2.1 ≠ (TJ7 b).2.1 := by decide +kernel
theorem tyJ7_ok : ∀ k, k < 0 → parseFieldDescriptor (TJ7 k).2.2.1 = some (tyJ7 k) := by decide +kernel
abbrev cJ7_fill_53178 : ByteArray := prog_11_method_103_code
def yJ7_fill_53178 : MethodName := ⟨RJ7, "fill", "([II)V"⟩
def RL : String := "EchoRowLaw"
abbrev cL_law : ByteArray := code
def yL_law : MethodName := ⟨RL, "law", "([I)Z"⟩
def wsJ7_fill_53178 : List Cond := .code yJ7_fill_53178 cJ7_fill_53178 4 none :: ([])
def wsX0_init : List Cond := .code yX0_init cX0_init 3 none :: ([.methodLink RX0 3 objectInit, .instanceMethod objectInit, .code objectInit ⟨#[0xb1]⟩ 1 none, .fieldLink RX0 9 "EchoRow$Element" "number" "I", .fieldLink RX0 15 "EchoRow$Element" "x" "I", .fieldLink RX0 18 "EchoRow$Element" "works" "Z", .arrayClass .int, .fieldLink RX0 22 "EchoRow$Element" "times" "[I", .methodLink RX0 26 yJ7_fill_53178, .static yJ7_fill_53178, .initialized RJ7, .code yJ7_fill_53178 cJ7_fill_53178 4 none] ++ wsX00)
def wsX0_forgetTimes : List Cond := .code yX0_forgetTimes cX0_forgetTimes 1 none :: ([.fieldLink RX0 22 "EchoRow$Element" "times" "[I", .methodLink RX0 26 yJ7_fill_53178, .static yJ7_fill_53178, .initialized RJ7, .code yJ7_fill_53178 cJ7_fill_53178 4 none] ++ wsX00)
def wsX5_outside : List Cond := .code yX5_outside cX5_outside 3 (some .boolean) :: ([])
def wsX1_fillRow : List Cond := .code yX1_fillRow cX1_fillRow 7 none :: ([.fieldLink RX1 11 "EchoRow$Layers" "legs" "[I", .fieldLink RX1 15 "EchoRow$Layers" "ready" "[Z", .static yX5_outside, .initialized RX5, .code yX5_outside cX5_outside 3 (some .boolean)] ++ wsX10)
def wsX1_lay : List Cond := .code yX1_lay cX1_lay 6 none :: ([.fieldLink RX1 23 "EchoRow$Layers" "wedge" "I", .fieldLink RX1 27 "EchoRow$Layers" "plate" "I", .fieldLink RX1 30 "EchoRow$Layers" "plateSlowness" "I", .fieldLink RX1 15 "EchoRow$Layers" "ready" "[Z", .methodLink RX1 33 yX1_fillRow, .instanceMethod yX1_fillRow, .selects RX1 yX1_fillRow yX1_fillRow, .initialized RX1, .code yX1_fillRow cX1_fillRow 7 none, .fieldLink RX1 11 "EchoRow$Layers" "legs" "[I", .static yX5_outside, .initialized RX5, .code yX5_outside cX5_outside 3 (some .boolean)] ++ wsX10)
def wsX1_init : List Cond := .code yX1_init cX1_init 1 none :: ([.methodLink RX1 3 objectInit, .instanceMethod objectInit, .code objectInit ⟨#[0xb1]⟩ 1 none, .arrayClass .int, .fieldLink RX1 11 "EchoRow$Layers" "legs" "[I", .arrayClass .boolean, .fieldLink RX1 15 "EchoRow$Layers" "ready" "[Z", .methodLink RX1 19 yX1_lay, .instanceMethod yX1_lay, .selects RX1 yX1_lay yX1_lay, .initialized RX1, .code yX1_lay cX1_lay 6 none, .fieldLink RX1 23 "EchoRow$Layers" "wedge" "I", .fieldLink RX1 27 "EchoRow$Layers" "plate" "I", .fieldLink RX1 30 "EchoRow$Layers" "plateSlowness" "I", .methodLink RX1 33 yX1_fillRow, .instanceMethod yX1_fillRow, .selects RX1 yX1_fillRow yX1_fillRow, .code yX1_fillRow cX1_fillRow 7 none, .static yX5_outside, .initialized RX5, .code yX5_outside cX5_outside 3 (some .boolean)] ++ wsX10)
def wsX1_floor : List Cond := .code yX1_floor cX1_floor 1 (some .int) :: ([.fieldLink RX1 23 "EchoRow$Layers" "wedge" "I", .fieldLink RX1 27 "EchoRow$Layers" "plate" "I"] ++ wsX10)
def wsX1_holds : List Cond := .code yX1_holds cX1_holds 3 (some .boolean) :: ([.fieldLink RX1 23 "EchoRow$Layers" "wedge" "I", .fieldLink RX1 27 "EchoRow$Layers" "plate" "I", .static yX5_outside, .initialized RX5, .code yX5_outside cX5_outside 3 (some .boolean)] ++ wsX10)
def wsX1_leastTicks : List Cond := .code yX1_leastTicks cX1_leastTicks 9 (some .int) :: ([.constant RX1 41 (-99999), .fieldLink RX1 15 "EchoRow$Layers" "ready" "[Z", .fieldLink RX1 30 "EchoRow$Layers" "plateSlowness" "I", .constant RX1 42 (2147483647), .methodLink RX1 43 Lib.Math.max.name, .static Lib.Math.max.name, .initialized "java/lang/Math", .code Lib.Math.max.name Lib.Math.max.code 2 (some .int), .methodLink RX1 49 Lib.Math.min.name, .static Lib.Math.min.name, .code Lib.Math.min.name Lib.Math.min.code 2 (some .int), .fieldLink RX1 11 "EchoRow$Layers" "legs" "[I", .methodLink RX1 52 Lib.Math.abs.name, .static Lib.Math.abs.name, .code Lib.Math.abs.name Lib.Math.abs.code 1 (some .int), .static yX5_outside, .initialized RX5, .code yX5_outside cX5_outside 3 (some .boolean), .methodLink RX1 33 yX1_fillRow, .instanceMethod yX1_fillRow, .selects RX1 yX1_fillRow yX1_fillRow, .initialized RX1, .code yX1_fillRow cX1_fillRow 7 none] ++ wsX10)
def wsX1_leastBend_r1 : List Cond := [Cond.constant RX1 41 (-99999), Cond.fieldLink RX1 11 "EchoRow$Layers" "legs" "[I", Cond.methodLink RX1 52 Lib.Math.abs.name, Cond.static Lib.Math.abs.name, Cond.initialized "java/lang/Math", Cond.code Lib.Math.abs.name Lib.Math.abs.code 1 (some .int), Cond.methodLink RX1 56 yX1_leastTicks, Cond.instanceMethod yX1_leastTicks, Cond.selects RX1 yX1_leastTicks yX1_leastTicks, Cond.initialized RX1, Cond.code yX1_leastTicks cX1_leastTicks 9 (some .int), Cond.fieldLink RX1 15 "EchoRow$Layers" "ready" "[Z", Cond.fieldLink RX1 30 "EchoRow$Layers" "plateSlowness" "I", Cond.constant RX1 42 (2147483647), Cond.methodLink RX1 43 Lib.Math.max.name, Cond.static Lib.Math.max.name, Cond.code Lib.Math.max.name Lib.Math.max.code 2 (some .int), Cond.methodLink RX1 49 Lib.Math.min.name, Cond.static Lib.Math.min.name, Cond.code Lib.Math.min.name Lib.Math.min.code 2 (some .int), Cond.static yX5_outside, Cond.initialized RX5, Cond.code yX5_outside cX5_outside 3 (some .boolean), Cond.methodLink RX1 33 yX1_fillRow]
def wsX1_leastBend_r2 : List Cond := [Cond.instanceMethod yX1_fillRow, Cond.selects RX1 yX1_fillRow yX1_fillRow, Cond.code yX1_fillRow cX1_fillRow 7 none]
def wsX1_leastBend : List Cond := .code yX1_leastBend cX1_leastBend 8 (some .int) :: ((wsX1_leastBend_r1 ++ wsX1_leastBend_r2) ++ wsX10)
def wsX1_wallTicks_r1 : List Cond := [Cond.fieldLink RX1 27 "EchoRow$Layers" "plate" "I", Cond.constant RX1 42 (2147483647), Cond.methodLink RX1 49 Lib.Math.min.name, Cond.static Lib.Math.min.name, Cond.initialized "java/lang/Math", Cond.code Lib.Math.min.name Lib.Math.min.code 2 (some .int), Cond.methodLink RX1 33 yX1_fillRow, Cond.instanceMethod yX1_fillRow, Cond.selects RX1 yX1_fillRow yX1_fillRow, Cond.initialized RX1, Cond.code yX1_fillRow cX1_fillRow 7 none, Cond.fieldLink RX1 11 "EchoRow$Layers" "legs" "[I", Cond.fieldLink RX1 15 "EchoRow$Layers" "ready" "[Z", Cond.static yX5_outside, Cond.initialized RX5, Cond.code yX5_outside cX5_outside 3 (some .boolean), Cond.methodLink RX1 56 yX1_leastTicks, Cond.instanceMethod yX1_leastTicks, Cond.selects RX1 yX1_leastTicks yX1_leastTicks, Cond.code yX1_leastTicks cX1_leastTicks 9 (some .int), Cond.constant RX1 41 (-99999), Cond.fieldLink RX1 30 "EchoRow$Layers" "plateSlowness" "I", Cond.methodLink RX1 43 Lib.Math.max.name, Cond.static Lib.Math.max.name]
def wsX1_wallTicks_r2 : List Cond := [Cond.code Lib.Math.max.name Lib.Math.max.code 2 (some .int), Cond.methodLink RX1 52 Lib.Math.abs.name, Cond.static Lib.Math.abs.name, Cond.code Lib.Math.abs.name Lib.Math.abs.code 1 (some .int)]
def wsX1_wallTicks : List Cond := .code yX1_wallTicks cX1_wallTicks 6 (some .int) :: ((wsX1_wallTicks_r1 ++ wsX1_wallTicks_r2) ++ wsX10)
def wsX2_init : List Cond := .code yX2_init cX2_init 3 none :: ([.methodLink RX2 3 objectInit, .instanceMethod objectInit, .code objectInit ⟨#[0xb1]⟩ 1 none, .fieldLink RX2 9 "EchoRow$Sheet" "lane" "I", .arrayClass .int, .fieldLink RX2 15 "EchoRow$Sheet" "numbers" "[I"] ++ wsX20)
def wsX2_hasRun : List Cond := .code yX2_hasRun cX2_hasRun 3 (some .boolean) :: ([.fieldLink RX2 15 "EchoRow$Sheet" "numbers" "[I"] ++ wsX20)
def wsX2_nearestTo : List Cond := .code yX2_nearestTo cX2_nearestTo 7 (some .int) :: ([.fieldLink RX2 9 "EchoRow$Sheet" "lane" "I", .constantLong RX2 19 (127), .constantLong RX2 21 (32767), .constantLong RX2 23 (2147483647), .methodLink RX2 25 Lib.MathLoose.min_long.x, .static Lib.MathLoose.min_long.x, .initialized "java/lang/Math", .code Lib.MathLoose.min_long.x Lib.MathLoose.min_long.code 4 (some .long), .methodLink RX2 31 Lib.MathLoose.max_long.x, .static Lib.MathLoose.max_long.x, .code Lib.MathLoose.max_long.x Lib.MathLoose.max_long.code 4 (some .long)] ++ wsX20)
def wsX3_init : List Cond := .code yX3_init cX3_init 6 none :: ([.methodLink RX3 3 objectInit, .instanceMethod objectInit, .code objectInit ⟨#[0xb1]⟩ 1 none, .fieldLink RX3 9 "EchoRow$Target" "kind" "I", .fieldLink RX3 15 "EchoRow$Target" "x" "I", .fieldLink RX3 18 "EchoRow$Target" "z" "I", .fieldLink RX3 21 "EchoRow$Target" "y" "I", .fieldLink RX3 24 "EchoRow$Target" "strength" "I", .arrayClass .int, .fieldLink RX3 27 "EchoRow$Target" "times" "[I", .methodLink RX3 31 yJ7_fill_53178, .static yJ7_fill_53178, .initialized RJ7, .code yJ7_fill_53178 cJ7_fill_53178 4 none] ++ wsX30)
def wsX3_forgetTimes : List Cond := .code yX3_forgetTimes cX3_forgetTimes 1 none :: ([.fieldLink RX3 27 "EchoRow$Target" "times" "[I", .methodLink RX3 31 yJ7_fill_53178, .static yJ7_fill_53178, .initialized RJ7, .code yJ7_fill_53178 cJ7_fill_53178 4 none] ++ wsX30)
def wsX4_init : List Cond := .code yX4_init cX4_init 4 none :: ([.methodLink RX4 1 objectInit, .instanceMethod objectInit, .code objectInit ⟨#[0xb1]⟩ 1 none, .fieldLink RX4 7 "EchoRow$Told" "a" "LEchoRow$Element;", .fieldLink RX4 13 "EchoRow$Told" "b" "LEchoRow$Element;", .fieldLink RX4 16 "EchoRow$Told" "tick" "I"] ++ wsX40)
def wsX5_init_r1 : List Cond := [Cond.methodLink RX5 3 objectInit, Cond.instanceMethod objectInit, Cond.code objectInit ⟨#[0xb1]⟩ 1 none, Cond.classLink RX5 9 RX1, Cond.instantiable RX1 5, Cond.initialized RX1, Cond.fieldLink RX5 12 "EchoRow" "layers" "LEchoRow$Layers;", Cond.classLink RX5 16 RX0, Cond.fieldLink RX5 18 "EchoRow" "elements" "[LEchoRow$Element;", Cond.classLink RX5 22 RX3, Cond.fieldLink RX5 24 "EchoRow" "targets" "[LEchoRow$Target;", Cond.classLink RX5 28 RX4, Cond.fieldLink RX5 30 "EchoRow" "tolds" "[LEchoRow$Told;", Cond.classLink RX5 34 RX2, Cond.fieldLink RX5 36 "EchoRow" "sheets" "[LEchoRow$Sheet;", Cond.arrayClass .int, Cond.fieldLink RX5 40 "EchoRow" "ahead" "[I", Cond.methodLink RX5 11 yX1_init, Cond.instanceMethod yX1_init, Cond.code yX1_init cX1_init 1 none, Cond.methodLink RX1 3 objectInit, Cond.fieldLink RX1 11 "EchoRow$Layers" "legs" "[I", Cond.arrayClass .boolean, Cond.fieldLink RX1 15 "EchoRow$Layers" "ready" "[Z"]
def wsX5_init_r2 : List Cond := [Cond.methodLink RX1 19 yX1_lay, Cond.instanceMethod yX1_lay, Cond.selects RX1 yX1_lay yX1_lay, Cond.code yX1_lay cX1_lay 6 none, Cond.fieldLink RX1 23 "EchoRow$Layers" "wedge" "I", Cond.fieldLink RX1 27 "EchoRow$Layers" "plate" "I", Cond.fieldLink RX1 30 "EchoRow$Layers" "plateSlowness" "I", Cond.methodLink RX1 33 yX1_fillRow, Cond.instanceMethod yX1_fillRow, Cond.selects RX1 yX1_fillRow yX1_fillRow, Cond.code yX1_fillRow cX1_fillRow 7 none, Cond.static yX5_outside, Cond.initialized RX5, Cond.code yX5_outside cX5_outside 3 (some .boolean)]
def wsX5_init : List Cond := .code yX5_init cX5_init 1 none :: ((wsX5_init_r1 ++ wsX5_init_r2) ++ wsX10 ++ wsX50)
def wsX5_body_r1 : List Cond := [Cond.fieldLink RX5 24 "EchoRow" "targets" "[LEchoRow$Target;", Cond.fieldLink RX5 48 "EchoRow$Target" "kind" "I", Cond.fieldLink RX5 52 "EchoRow$Target" "y" "I", Cond.fieldLink RX5 12 "EchoRow" "layers" "LEchoRow$Layers;", Cond.fieldLink RX5 18 "EchoRow" "elements" "[LEchoRow$Element;", Cond.fieldLink RX5 63 "EchoRow" "focused" "Z", Cond.methodLink RX5 44 yX5_outside, Cond.static yX5_outside, Cond.initialized RX5, Cond.code yX5_outside cX5_outside 3 (some .boolean), Cond.methodLink RX5 55 yX1_lay, Cond.instanceMethod yX1_lay, Cond.selects RX1 yX1_lay yX1_lay, Cond.initialized RX1, Cond.code yX1_lay cX1_lay 6 none, Cond.fieldLink RX1 23 "EchoRow$Layers" "wedge" "I", Cond.fieldLink RX1 27 "EchoRow$Layers" "plate" "I", Cond.fieldLink RX1 30 "EchoRow$Layers" "plateSlowness" "I", Cond.fieldLink RX1 15 "EchoRow$Layers" "ready" "[Z", Cond.methodLink RX1 33 yX1_fillRow, Cond.instanceMethod yX1_fillRow, Cond.selects RX1 yX1_fillRow yX1_fillRow, Cond.code yX1_fillRow cX1_fillRow 7 none, Cond.fieldLink RX1 11 "EchoRow$Layers" "legs" "[I"]
def wsX5_body_r2 : List Cond := [Cond.methodLink RX5 59 yX0_forgetTimes, Cond.instanceMethod yX0_forgetTimes, Cond.selects RX0 yX0_forgetTimes yX0_forgetTimes, Cond.initialized RX0, Cond.code yX0_forgetTimes cX0_forgetTimes 1 none, Cond.fieldLink RX0 22 "EchoRow$Element" "times" "[I", Cond.methodLink RX0 26 yJ7_fill_53178, Cond.static yJ7_fill_53178, Cond.initialized RJ7, Cond.code yJ7_fill_53178 cJ7_fill_53178 4 none, Cond.methodLink RX5 62 yX3_forgetTimes, Cond.instanceMethod yX3_forgetTimes, Cond.selects RX3 yX3_forgetTimes yX3_forgetTimes, Cond.initialized RX3, Cond.code yX3_forgetTimes cX3_forgetTimes 1 none, Cond.fieldLink RX3 27 "EchoRow$Target" "times" "[I", Cond.methodLink RX3 31 yJ7_fill_53178, Cond.methodLink RX5 67 yX1_floor, Cond.instanceMethod yX1_floor, Cond.selects RX1 yX1_floor yX1_floor, Cond.code yX1_floor cX1_floor 1 (some .int)]
def wsX5_body : List Cond := .code yX5_body cX5_body 9 (some .int) :: ((wsX5_body_r1 ++ wsX5_body_r2) ++ wsX50 ++ wsX30 ++ wsX10 ++ wsX00)
def wsX5_element_r1 : List Cond := [Cond.fieldLink RX5 71 "EchoRow" "elementCount" "I", Cond.fieldLink RX5 18 "EchoRow" "elements" "[LEchoRow$Element;", Cond.classLink RX5 16 RX0, Cond.instantiable RX0 5, Cond.initialized RX0, Cond.fieldLink RX5 63 "EchoRow" "focused" "Z", Cond.methodLink RX5 44 yX5_outside, Cond.static yX5_outside, Cond.initialized RX5, Cond.code yX5_outside cX5_outside 3 (some .boolean), Cond.methodLink RX5 74 yX0_init, Cond.instanceMethod yX0_init, Cond.code yX0_init cX0_init 3 none, Cond.methodLink RX0 3 objectInit, Cond.instanceMethod objectInit, Cond.code objectInit ⟨#[0xb1]⟩ 1 none, Cond.fieldLink RX0 9 "EchoRow$Element" "number" "I", Cond.fieldLink RX0 15 "EchoRow$Element" "x" "I", Cond.fieldLink RX0 18 "EchoRow$Element" "works" "Z", Cond.arrayClass .int, Cond.fieldLink RX0 22 "EchoRow$Element" "times" "[I", Cond.methodLink RX0 26 yJ7_fill_53178, Cond.static yJ7_fill_53178, Cond.initialized RJ7]
def wsX5_element_r2 : List Cond := [Cond.code yJ7_fill_53178 cJ7_fill_53178 4 none]
def wsX5_element : List Cond := .code yX5_element cX5_element 2 (some .int) :: ((wsX5_element_r1 ++ wsX5_element_r2) ++ wsX50 ++ wsX00)
def wsX5_elementNumbered : List Cond := .code yX5_elementNumbered cX5_elementNumbered 2 (some (.object "EchoRow$Element")) :: ([.fieldLink RX5 18 "EchoRow" "elements" "[LEchoRow$Element;"] ++ wsX50)
def wsX5_countWorking : List Cond := .code yX5_countWorking cX5_countWorking 6 (some .int) :: ([.fieldLink RX5 18 "EchoRow" "elements" "[LEchoRow$Element;", .fieldLink RX5 81 "EchoRow$Element" "works" "Z"] ++ wsX50 ++ wsX00)
def wsX5_lose : List Cond := .code yX5_lose cX5_lose 4 (some .int) :: ([.fieldLink RX5 81 "EchoRow$Element" "works" "Z", .fieldLink RX5 63 "EchoRow" "focused" "Z", .methodLink RX5 77 yX5_elementNumbered, .instanceMethod yX5_elementNumbered, .selects RX5 yX5_elementNumbered yX5_elementNumbered, .initialized RX5, .code yX5_elementNumbered cX5_elementNumbered 2 (some (.object "EchoRow$Element")), .fieldLink RX5 18 "EchoRow" "elements" "[LEchoRow$Element;", .methodLink RX5 84 yX5_countWorking, .instanceMethod yX5_countWorking, .selects RX5 yX5_countWorking yX5_countWorking, .code yX5_countWorking cX5_countWorking 6 (some .int)] ++ wsX00 ++ wsX50)
def wsX5_newTarget : List Cond := .code yX5_newTarget cX5_newTarget 5 (some (.object "EchoRow$Target")) :: ([.classLink RX5 22 RX3, .instantiable RX3 6, .initialized RX3, .methodLink RX5 207 yX3_init, .instanceMethod yX3_init, .code yX3_init cX3_init 6 none, .methodLink RX3 3 objectInit, .instanceMethod objectInit, .code objectInit ⟨#[0xb1]⟩ 1 none, .fieldLink RX3 9 "EchoRow$Target" "kind" "I", .fieldLink RX3 15 "EchoRow$Target" "x" "I", .fieldLink RX3 18 "EchoRow$Target" "z" "I", .fieldLink RX3 21 "EchoRow$Target" "y" "I", .fieldLink RX3 24 "EchoRow$Target" "strength" "I", .arrayClass .int, .fieldLink RX3 27 "EchoRow$Target" "times" "[I", .methodLink RX3 31 yJ7_fill_53178, .static yJ7_fill_53178, .initialized RJ7, .code yJ7_fill_53178 cJ7_fill_53178 4 none] ++ wsX30)
def wsX5_target_r1 : List Cond := [Cond.fieldLink RX5 12 "EchoRow" "layers" "LEchoRow$Layers;", Cond.fieldLink RX5 91 "EchoRow" "targetCount" "I", Cond.fieldLink RX5 24 "EchoRow" "targets" "[LEchoRow$Target;", Cond.methodLink RX5 44 yX5_outside, Cond.static yX5_outside, Cond.initialized RX5, Cond.code yX5_outside cX5_outside 3 (some .boolean), Cond.methodLink RX5 87 yX1_holds, Cond.instanceMethod yX1_holds, Cond.selects RX1 yX1_holds yX1_holds, Cond.initialized RX1, Cond.code yX1_holds cX1_holds 3 (some .boolean), Cond.fieldLink RX1 23 "EchoRow$Layers" "wedge" "I", Cond.fieldLink RX1 27 "EchoRow$Layers" "plate" "I", Cond.methodLink RX5 94 yX5_newTarget, Cond.static yX5_newTarget, Cond.code yX5_newTarget cX5_newTarget 5 (some (.object "EchoRow$Target")), Cond.classLink RX5 22 RX3, Cond.instantiable RX3 6, Cond.initialized RX3, Cond.methodLink RX5 207 yX3_init, Cond.instanceMethod yX3_init, Cond.code yX3_init cX3_init 6 none, Cond.methodLink RX3 3 objectInit]
def wsX5_target_r2 : List Cond := [Cond.instanceMethod objectInit, Cond.code objectInit ⟨#[0xb1]⟩ 1 none, Cond.fieldLink RX3 9 "EchoRow$Target" "kind" "I", Cond.fieldLink RX3 15 "EchoRow$Target" "x" "I", Cond.fieldLink RX3 18 "EchoRow$Target" "z" "I", Cond.fieldLink RX3 21 "EchoRow$Target" "y" "I", Cond.fieldLink RX3 24 "EchoRow$Target" "strength" "I", Cond.arrayClass .int, Cond.fieldLink RX3 27 "EchoRow$Target" "times" "[I", Cond.methodLink RX3 31 yJ7_fill_53178, Cond.static yJ7_fill_53178, Cond.initialized RJ7, Cond.code yJ7_fill_53178 cJ7_fill_53178 4 none]
def wsX5_target : List Cond := .code yX5_target cX5_target 6 (some .int) :: ((wsX5_target_r1 ++ wsX5_target_r2) ++ wsX50 ++ wsX10 ++ wsX30)
def wsX5_drop : List Cond := .code yX5_drop cX5_drop 1 (some .int) :: ([.fieldLink RX5 91 "EchoRow" "targetCount" "I", .fieldLink RX5 24 "EchoRow" "targets" "[LEchoRow$Target;"] ++ wsX50)
def wsX5_targetNumbered : List Cond := .code yX5_targetNumbered cX5_targetNumbered 2 (some (.object "EchoRow$Target")) :: ([.fieldLink RX5 24 "EchoRow" "targets" "[LEchoRow$Target;"] ++ wsX50)
def wsX5_found : List Cond := .code yX5_found cX5_found 2 (some .int) :: ([.fieldLink RX5 201 "EchoRow" "findings" "I"] ++ wsX50)
def wsX5_depthOf : List Cond := .code yX5_depthOf cX5_depthOf 2 (some .int) :: ([.fieldLink RX5 48 "EchoRow$Target" "kind" "I", .fieldLink RX5 12 "EchoRow" "layers" "LEchoRow$Layers;", .fieldLink RX5 52 "EchoRow$Target" "y" "I", .methodLink RX5 67 yX1_floor, .instanceMethod yX1_floor, .selects RX1 yX1_floor yX1_floor, .initialized RX1, .code yX1_floor cX1_floor 1 (some .int), .fieldLink RX1 23 "EchoRow$Layers" "wedge" "I", .fieldLink RX1 27 "EchoRow$Layers" "plate" "I"] ++ wsX30 ++ wsX50 ++ wsX10)
def wsX5_taken_r1 : List Cond := [Cond.fieldLink RX5 48 "EchoRow$Target" "kind" "I", Cond.fieldLink RX5 106 "EchoRow$Target" "strength" "I", Cond.fieldLink RX5 109 "EchoRow$Target" "x" "I", Cond.fieldLink RX5 116 "EchoRow$Target" "z" "I", Cond.methodLink RX5 98 yX5_targetNumbered, Cond.instanceMethod yX5_targetNumbered, Cond.selects RX5 yX5_targetNumbered yX5_targetNumbered, Cond.initialized RX5, Cond.code yX5_targetNumbered cX5_targetNumbered 2 (some (.object "EchoRow$Target")), Cond.fieldLink RX5 24 "EchoRow" "targets" "[LEchoRow$Target;", Cond.methodLink RX5 44 yX5_outside, Cond.static yX5_outside, Cond.code yX5_outside cX5_outside 3 (some .boolean), Cond.methodLink RX5 102 yX5_found, Cond.instanceMethod yX5_found, Cond.selects RX5 yX5_found yX5_found, Cond.code yX5_found cX5_found 2 (some .int), Cond.fieldLink RX5 201 "EchoRow" "findings" "I", Cond.methodLink RX5 112 yX5_depthOf, Cond.instanceMethod yX5_depthOf, Cond.selects RX5 yX5_depthOf yX5_depthOf, Cond.code yX5_depthOf cX5_depthOf 2 (some .int), Cond.fieldLink RX5 12 "EchoRow" "layers" "LEchoRow$Layers;", Cond.fieldLink RX5 52 "EchoRow$Target" "y" "I"]
def wsX5_taken_r2 : List Cond := [Cond.methodLink RX5 67 yX1_floor, Cond.instanceMethod yX1_floor, Cond.selects RX1 yX1_floor yX1_floor, Cond.initialized RX1, Cond.code yX1_floor cX1_floor 1 (some .int), Cond.fieldLink RX1 23 "EchoRow$Layers" "wedge" "I", Cond.fieldLink RX1 27 "EchoRow$Layers" "plate" "I"]
def wsX5_taken : List Cond := .code yX5_taken cX5_taken 5 (some .int) :: ((wsX5_taken_r1 ++ wsX5_taken_r2) ++ wsX30 ++ wsX50 ++ wsX10)
def wsX5_timeTo_r1 : List Cond := [Cond.fieldLink RX5 12 "EchoRow" "layers" "LEchoRow$Layers;", Cond.fieldLink RX5 124 "EchoRow$Layers" "wedge" "I", Cond.fieldLink RX5 210 "EchoRow$Element" "times" "[I", Cond.constant RX5 148 (-99999), Cond.fieldLink RX5 123 "EchoRow$Element" "x" "I", Cond.methodLink RX5 213 yX1_leastTicks, Cond.instanceMethod yX1_leastTicks, Cond.selects RX1 yX1_leastTicks yX1_leastTicks, Cond.initialized RX1, Cond.code yX1_leastTicks cX1_leastTicks 9 (some .int), Cond.constant RX1 41 (-99999), Cond.fieldLink RX1 15 "EchoRow$Layers" "ready" "[Z", Cond.fieldLink RX1 30 "EchoRow$Layers" "plateSlowness" "I", Cond.constant RX1 42 (2147483647), Cond.methodLink RX1 43 Lib.Math.max.name, Cond.static Lib.Math.max.name, Cond.initialized "java/lang/Math", Cond.code Lib.Math.max.name Lib.Math.max.code 2 (some .int), Cond.methodLink RX1 49 Lib.Math.min.name, Cond.static Lib.Math.min.name, Cond.code Lib.Math.min.name Lib.Math.min.code 2 (some .int), Cond.fieldLink RX1 11 "EchoRow$Layers" "legs" "[I", Cond.methodLink RX1 52 Lib.Math.abs.name, Cond.static Lib.Math.abs.name]
def wsX5_timeTo_r2 : List Cond := [Cond.code Lib.Math.abs.name Lib.Math.abs.code 1 (some .int), Cond.static yX5_outside, Cond.initialized RX5, Cond.code yX5_outside cX5_outside 3 (some .boolean), Cond.methodLink RX1 33 yX1_fillRow, Cond.instanceMethod yX1_fillRow, Cond.selects RX1 yX1_fillRow yX1_fillRow, Cond.code yX1_fillRow cX1_fillRow 7 none]
def wsX5_timeTo : List Cond := .code yX5_timeTo cX5_timeTo 6 (some .int) :: ((wsX5_timeTo_r1 ++ wsX5_timeTo_r2) ++ wsX50 ++ wsX10 ++ wsX00)
def wsX5_time_r1 : List Cond := [Cond.fieldLink RX5 12 "EchoRow" "layers" "LEchoRow$Layers;", Cond.methodLink RX5 77 yX5_elementNumbered, Cond.instanceMethod yX5_elementNumbered, Cond.selects RX5 yX5_elementNumbered yX5_elementNumbered, Cond.initialized RX5, Cond.code yX5_elementNumbered cX5_elementNumbered 2 (some (.object "EchoRow$Element")), Cond.fieldLink RX5 18 "EchoRow" "elements" "[LEchoRow$Element;", Cond.methodLink RX5 87 yX1_holds, Cond.instanceMethod yX1_holds, Cond.selects RX1 yX1_holds yX1_holds, Cond.initialized RX1, Cond.code yX1_holds cX1_holds 3 (some .boolean), Cond.fieldLink RX1 23 "EchoRow$Layers" "wedge" "I", Cond.fieldLink RX1 27 "EchoRow$Layers" "plate" "I", Cond.static yX5_outside, Cond.code yX5_outside cX5_outside 3 (some .boolean), Cond.methodLink RX5 119 yX5_timeTo, Cond.instanceMethod yX5_timeTo, Cond.selects RX5 yX5_timeTo yX5_timeTo, Cond.code yX5_timeTo cX5_timeTo 6 (some .int), Cond.fieldLink RX5 124 "EchoRow$Layers" "wedge" "I", Cond.fieldLink RX5 210 "EchoRow$Element" "times" "[I", Cond.constant RX5 148 (-99999), Cond.fieldLink RX5 123 "EchoRow$Element" "x" "I"]
def wsX5_time_r2 : List Cond := [Cond.methodLink RX5 213 yX1_leastTicks, Cond.instanceMethod yX1_leastTicks, Cond.selects RX1 yX1_leastTicks yX1_leastTicks, Cond.code yX1_leastTicks cX1_leastTicks 9 (some .int), Cond.constant RX1 41 (-99999), Cond.fieldLink RX1 15 "EchoRow$Layers" "ready" "[Z", Cond.fieldLink RX1 30 "EchoRow$Layers" "plateSlowness" "I", Cond.constant RX1 42 (2147483647), Cond.methodLink RX1 43 Lib.Math.max.name, Cond.static Lib.Math.max.name, Cond.initialized "java/lang/Math", Cond.code Lib.Math.max.name Lib.Math.max.code 2 (some .int), Cond.methodLink RX1 49 Lib.Math.min.name, Cond.static Lib.Math.min.name, Cond.code Lib.Math.min.name Lib.Math.min.code 2 (some .int), Cond.fieldLink RX1 11 "EchoRow$Layers" "legs" "[I", Cond.methodLink RX1 52 Lib.Math.abs.name, Cond.static Lib.Math.abs.name, Cond.code Lib.Math.abs.name Lib.Math.abs.code 1 (some .int), Cond.methodLink RX1 33 yX1_fillRow, Cond.instanceMethod yX1_fillRow, Cond.selects RX1 yX1_fillRow yX1_fillRow, Cond.code yX1_fillRow cX1_fillRow 7 none]
def wsX5_time : List Cond := .code yX5_time cX5_time 5 (some .int) :: ((wsX5_time_r1 ++ wsX5_time_r2) ++ wsX50 ++ wsX10 ++ wsX00)
def wsX5_bend_r1 : List Cond := [Cond.fieldLink RX5 12 "EchoRow" "layers" "LEchoRow$Layers;", Cond.fieldLink RX5 123 "EchoRow$Element" "x" "I", Cond.fieldLink RX5 124 "EchoRow$Layers" "wedge" "I", Cond.methodLink RX5 77 yX5_elementNumbered, Cond.instanceMethod yX5_elementNumbered, Cond.selects RX5 yX5_elementNumbered yX5_elementNumbered, Cond.initialized RX5, Cond.code yX5_elementNumbered cX5_elementNumbered 2 (some (.object "EchoRow$Element")), Cond.fieldLink RX5 18 "EchoRow" "elements" "[LEchoRow$Element;", Cond.methodLink RX5 87 yX1_holds, Cond.instanceMethod yX1_holds, Cond.selects RX1 yX1_holds yX1_holds, Cond.initialized RX1, Cond.code yX1_holds cX1_holds 3 (some .boolean), Cond.fieldLink RX1 23 "EchoRow$Layers" "wedge" "I", Cond.fieldLink RX1 27 "EchoRow$Layers" "plate" "I", Cond.static yX5_outside, Cond.code yX5_outside cX5_outside 3 (some .boolean), Cond.methodLink RX5 127 yX1_leastBend, Cond.instanceMethod yX1_leastBend, Cond.selects RX1 yX1_leastBend yX1_leastBend, Cond.code yX1_leastBend cX1_leastBend 8 (some .int), Cond.constant RX1 41 (-99999), Cond.fieldLink RX1 11 "EchoRow$Layers" "legs" "[I"]
def wsX5_bend_r2 : List Cond := [Cond.methodLink RX1 52 Lib.Math.abs.name, Cond.static Lib.Math.abs.name, Cond.initialized "java/lang/Math", Cond.code Lib.Math.abs.name Lib.Math.abs.code 1 (some .int), Cond.methodLink RX1 56 yX1_leastTicks, Cond.instanceMethod yX1_leastTicks, Cond.selects RX1 yX1_leastTicks yX1_leastTicks, Cond.code yX1_leastTicks cX1_leastTicks 9 (some .int), Cond.fieldLink RX1 15 "EchoRow$Layers" "ready" "[Z", Cond.fieldLink RX1 30 "EchoRow$Layers" "plateSlowness" "I", Cond.constant RX1 42 (2147483647), Cond.methodLink RX1 43 Lib.Math.max.name, Cond.static Lib.Math.max.name, Cond.code Lib.Math.max.name Lib.Math.max.code 2 (some .int), Cond.methodLink RX1 49 Lib.Math.min.name, Cond.static Lib.Math.min.name, Cond.code Lib.Math.min.name Lib.Math.min.code 2 (some .int), Cond.methodLink RX1 33 yX1_fillRow, Cond.instanceMethod yX1_fillRow, Cond.selects RX1 yX1_fillRow yX1_fillRow, Cond.code yX1_fillRow cX1_fillRow 7 none]
def wsX5_bend : List Cond := .code yX5_bend cX5_bend 5 (some .int) :: ((wsX5_bend_r1 ++ wsX5_bend_r2) ++ wsX50 ++ wsX00 ++ wsX10)
def wsX5_echoTimeBy_r1 : List Cond := [Cond.fieldLink RX5 216 "EchoRow$Element" "number" "I", Cond.fieldLink RX5 219 "EchoRow$Target" "times" "[I", Cond.constant RX5 148 (-99999), Cond.constant RX5 135 (2147483647), Cond.fieldLink RX5 109 "EchoRow$Target" "x" "I", Cond.fieldLink RX5 116 "EchoRow$Target" "z" "I", Cond.methodLink RX5 181 Lib.Math.min.name, Cond.static Lib.Math.min.name, Cond.initialized "java/lang/Math", Cond.code Lib.Math.min.name Lib.Math.min.code 2 (some .int), Cond.methodLink RX5 112 yX5_depthOf, Cond.instanceMethod yX5_depthOf, Cond.selects RX5 yX5_depthOf yX5_depthOf, Cond.initialized RX5, Cond.code yX5_depthOf cX5_depthOf 2 (some .int), Cond.fieldLink RX5 48 "EchoRow$Target" "kind" "I", Cond.fieldLink RX5 12 "EchoRow" "layers" "LEchoRow$Layers;", Cond.fieldLink RX5 52 "EchoRow$Target" "y" "I", Cond.methodLink RX5 67 yX1_floor, Cond.instanceMethod yX1_floor, Cond.selects RX1 yX1_floor yX1_floor, Cond.initialized RX1, Cond.code yX1_floor cX1_floor 1 (some .int), Cond.fieldLink RX1 23 "EchoRow$Layers" "wedge" "I"]
def wsX5_echoTimeBy_r2 : List Cond := [Cond.fieldLink RX1 27 "EchoRow$Layers" "plate" "I", Cond.methodLink RX5 119 yX5_timeTo, Cond.instanceMethod yX5_timeTo, Cond.selects RX5 yX5_timeTo yX5_timeTo, Cond.code yX5_timeTo cX5_timeTo 6 (some .int), Cond.fieldLink RX5 124 "EchoRow$Layers" "wedge" "I", Cond.fieldLink RX5 210 "EchoRow$Element" "times" "[I", Cond.fieldLink RX5 123 "EchoRow$Element" "x" "I", Cond.methodLink RX5 213 yX1_leastTicks, Cond.instanceMethod yX1_leastTicks, Cond.selects RX1 yX1_leastTicks yX1_leastTicks, Cond.code yX1_leastTicks cX1_leastTicks 9 (some .int), Cond.constant RX1 41 (-99999), Cond.fieldLink RX1 15 "EchoRow$Layers" "ready" "[Z", Cond.fieldLink RX1 30 "EchoRow$Layers" "plateSlowness" "I", Cond.constant RX1 42 (2147483647), Cond.methodLink RX1 43 Lib.Math.max.name, Cond.static Lib.Math.max.name, Cond.code Lib.Math.max.name Lib.Math.max.code 2 (some .int), Cond.methodLink RX1 49 Lib.Math.min.name, Cond.fieldLink RX1 11 "EchoRow$Layers" "legs" "[I", Cond.methodLink RX1 52 Lib.Math.abs.name, Cond.static Lib.Math.abs.name, Cond.code Lib.Math.abs.name Lib.Math.abs.code 1 (some .int)]
def wsX5_echoTimeBy_r3 : List Cond := [Cond.static yX5_outside, Cond.code yX5_outside cX5_outside 3 (some .boolean), Cond.methodLink RX1 33 yX1_fillRow, Cond.instanceMethod yX1_fillRow, Cond.selects RX1 yX1_fillRow yX1_fillRow, Cond.code yX1_fillRow cX1_fillRow 7 none]
def wsX5_echoTimeBy : List Cond := .code yX5_echoTimeBy cX5_echoTimeBy 8 (some .int) :: ((wsX5_echoTimeBy_r1 ++ (wsX5_echoTimeBy_r2 ++ wsX5_echoTimeBy_r3)) ++ wsX00 ++ wsX30 ++ wsX50 ++ wsX10)
def wsX5_echoTime_r1 : List Cond := [Cond.methodLink RX5 77 yX5_elementNumbered, Cond.instanceMethod yX5_elementNumbered, Cond.selects RX5 yX5_elementNumbered yX5_elementNumbered, Cond.initialized RX5, Cond.code yX5_elementNumbered cX5_elementNumbered 2 (some (.object "EchoRow$Element")), Cond.fieldLink RX5 18 "EchoRow" "elements" "[LEchoRow$Element;", Cond.methodLink RX5 98 yX5_targetNumbered, Cond.instanceMethod yX5_targetNumbered, Cond.selects RX5 yX5_targetNumbered yX5_targetNumbered, Cond.code yX5_targetNumbered cX5_targetNumbered 2 (some (.object "EchoRow$Target")), Cond.fieldLink RX5 24 "EchoRow" "targets" "[LEchoRow$Target;", Cond.methodLink RX5 131 yX5_echoTimeBy, Cond.instanceMethod yX5_echoTimeBy, Cond.selects RX5 yX5_echoTimeBy yX5_echoTimeBy, Cond.code yX5_echoTimeBy cX5_echoTimeBy 8 (some .int), Cond.fieldLink RX5 216 "EchoRow$Element" "number" "I", Cond.fieldLink RX5 219 "EchoRow$Target" "times" "[I", Cond.constant RX5 148 (-99999), Cond.constant RX5 135 (2147483647), Cond.fieldLink RX5 109 "EchoRow$Target" "x" "I", Cond.fieldLink RX5 116 "EchoRow$Target" "z" "I", Cond.methodLink RX5 181 Lib.Math.min.name, Cond.static Lib.Math.min.name, Cond.initialized "java/lang/Math"]
def wsX5_echoTime_r2 : List Cond := [Cond.code Lib.Math.min.name Lib.Math.min.code 2 (some .int), Cond.methodLink RX5 112 yX5_depthOf, Cond.instanceMethod yX5_depthOf, Cond.selects RX5 yX5_depthOf yX5_depthOf, Cond.code yX5_depthOf cX5_depthOf 2 (some .int), Cond.fieldLink RX5 48 "EchoRow$Target" "kind" "I", Cond.fieldLink RX5 12 "EchoRow" "layers" "LEchoRow$Layers;", Cond.fieldLink RX5 52 "EchoRow$Target" "y" "I", Cond.methodLink RX5 67 yX1_floor, Cond.instanceMethod yX1_floor, Cond.selects RX1 yX1_floor yX1_floor, Cond.initialized RX1, Cond.code yX1_floor cX1_floor 1 (some .int), Cond.fieldLink RX1 23 "EchoRow$Layers" "wedge" "I", Cond.fieldLink RX1 27 "EchoRow$Layers" "plate" "I", Cond.methodLink RX5 119 yX5_timeTo, Cond.instanceMethod yX5_timeTo, Cond.selects RX5 yX5_timeTo yX5_timeTo, Cond.code yX5_timeTo cX5_timeTo 6 (some .int), Cond.fieldLink RX5 124 "EchoRow$Layers" "wedge" "I", Cond.fieldLink RX5 210 "EchoRow$Element" "times" "[I", Cond.fieldLink RX5 123 "EchoRow$Element" "x" "I", Cond.methodLink RX5 213 yX1_leastTicks, Cond.instanceMethod yX1_leastTicks]
def wsX5_echoTime_r3 : List Cond := [Cond.selects RX1 yX1_leastTicks yX1_leastTicks, Cond.code yX1_leastTicks cX1_leastTicks 9 (some .int), Cond.constant RX1 41 (-99999), Cond.fieldLink RX1 15 "EchoRow$Layers" "ready" "[Z", Cond.fieldLink RX1 30 "EchoRow$Layers" "plateSlowness" "I", Cond.constant RX1 42 (2147483647), Cond.methodLink RX1 43 Lib.Math.max.name, Cond.static Lib.Math.max.name, Cond.code Lib.Math.max.name Lib.Math.max.code 2 (some .int), Cond.methodLink RX1 49 Lib.Math.min.name, Cond.fieldLink RX1 11 "EchoRow$Layers" "legs" "[I", Cond.methodLink RX1 52 Lib.Math.abs.name, Cond.static Lib.Math.abs.name, Cond.code Lib.Math.abs.name Lib.Math.abs.code 1 (some .int), Cond.static yX5_outside, Cond.code yX5_outside cX5_outside 3 (some .boolean), Cond.methodLink RX1 33 yX1_fillRow, Cond.instanceMethod yX1_fillRow, Cond.selects RX1 yX1_fillRow yX1_fillRow, Cond.code yX1_fillRow cX1_fillRow 7 none]
def wsX5_echoTime : List Cond := .code yX5_echoTime cX5_echoTime 7 (some .int) :: ((wsX5_echoTime_r1 ++ (wsX5_echoTime_r2 ++ wsX5_echoTime_r3)) ++ wsX50 ++ wsX00 ++ wsX30 ++ wsX10)
def wsX5_slowness_r1 : List Cond := [Cond.constant RX5 135 (2147483647), Cond.fieldLink RX5 12 "EchoRow" "layers" "LEchoRow$Layers;", Cond.fieldLink RX5 123 "EchoRow$Element" "x" "I", Cond.methodLink RX5 139 Lib.Math.abs.name, Cond.static Lib.Math.abs.name, Cond.initialized "java/lang/Math", Cond.code Lib.Math.abs.name Lib.Math.abs.code 1 (some .int), Cond.methodLink RX5 77 yX5_elementNumbered, Cond.instanceMethod yX5_elementNumbered, Cond.selects RX5 yX5_elementNumbered yX5_elementNumbered, Cond.initialized RX5, Cond.code yX5_elementNumbered cX5_elementNumbered 2 (some (.object "EchoRow$Element")), Cond.fieldLink RX5 18 "EchoRow" "elements" "[LEchoRow$Element;", Cond.methodLink RX5 136 yX1_wallTicks, Cond.instanceMethod yX1_wallTicks, Cond.selects RX1 yX1_wallTicks yX1_wallTicks, Cond.initialized RX1, Cond.code yX1_wallTicks cX1_wallTicks 6 (some .int), Cond.fieldLink RX1 27 "EchoRow$Layers" "plate" "I", Cond.constant RX1 42 (2147483647), Cond.methodLink RX1 49 Lib.Math.min.name, Cond.static Lib.Math.min.name, Cond.code Lib.Math.min.name Lib.Math.min.code 2 (some .int), Cond.methodLink RX1 33 yX1_fillRow]
def wsX5_slowness_r2 : List Cond := [Cond.instanceMethod yX1_fillRow, Cond.selects RX1 yX1_fillRow yX1_fillRow, Cond.code yX1_fillRow cX1_fillRow 7 none, Cond.fieldLink RX1 11 "EchoRow$Layers" "legs" "[I", Cond.fieldLink RX1 15 "EchoRow$Layers" "ready" "[Z", Cond.static yX5_outside, Cond.code yX5_outside cX5_outside 3 (some .boolean), Cond.methodLink RX1 56 yX1_leastTicks, Cond.instanceMethod yX1_leastTicks, Cond.selects RX1 yX1_leastTicks yX1_leastTicks, Cond.code yX1_leastTicks cX1_leastTicks 9 (some .int), Cond.constant RX1 41 (-99999), Cond.fieldLink RX1 30 "EchoRow$Layers" "plateSlowness" "I", Cond.methodLink RX1 43 Lib.Math.max.name, Cond.static Lib.Math.max.name, Cond.code Lib.Math.max.name Lib.Math.max.code 2 (some .int), Cond.methodLink RX1 52 Lib.Math.abs.name]
def wsX5_slowness : List Cond := .code yX5_slowness cX5_slowness 10 (some .int) :: ((wsX5_slowness_r1 ++ wsX5_slowness_r2) ++ wsX50 ++ wsX00 ++ wsX10)
def wsX5_echoAt_r1 : List Cond := [Cond.fieldLink RX5 81 "EchoRow$Element" "works" "Z", Cond.fieldLink RX5 24 "EchoRow" "targets" "[LEchoRow$Target;", Cond.fieldLink RX5 106 "EchoRow$Target" "strength" "I", Cond.methodLink RX5 131 yX5_echoTimeBy, Cond.instanceMethod yX5_echoTimeBy, Cond.selects RX5 yX5_echoTimeBy yX5_echoTimeBy, Cond.initialized RX5, Cond.code yX5_echoTimeBy cX5_echoTimeBy 8 (some .int), Cond.fieldLink RX5 216 "EchoRow$Element" "number" "I", Cond.fieldLink RX5 219 "EchoRow$Target" "times" "[I", Cond.constant RX5 148 (-99999), Cond.constant RX5 135 (2147483647), Cond.fieldLink RX5 109 "EchoRow$Target" "x" "I", Cond.fieldLink RX5 116 "EchoRow$Target" "z" "I", Cond.methodLink RX5 181 Lib.Math.min.name, Cond.static Lib.Math.min.name, Cond.initialized "java/lang/Math", Cond.code Lib.Math.min.name Lib.Math.min.code 2 (some .int), Cond.methodLink RX5 112 yX5_depthOf, Cond.instanceMethod yX5_depthOf, Cond.selects RX5 yX5_depthOf yX5_depthOf, Cond.code yX5_depthOf cX5_depthOf 2 (some .int), Cond.fieldLink RX5 48 "EchoRow$Target" "kind" "I", Cond.fieldLink RX5 12 "EchoRow" "layers" "LEchoRow$Layers;"]
def wsX5_echoAt_r2 : List Cond := [Cond.fieldLink RX5 52 "EchoRow$Target" "y" "I", Cond.methodLink RX5 67 yX1_floor, Cond.instanceMethod yX1_floor, Cond.selects RX1 yX1_floor yX1_floor, Cond.initialized RX1, Cond.code yX1_floor cX1_floor 1 (some .int), Cond.fieldLink RX1 23 "EchoRow$Layers" "wedge" "I", Cond.fieldLink RX1 27 "EchoRow$Layers" "plate" "I", Cond.methodLink RX5 119 yX5_timeTo, Cond.instanceMethod yX5_timeTo, Cond.selects RX5 yX5_timeTo yX5_timeTo, Cond.code yX5_timeTo cX5_timeTo 6 (some .int), Cond.fieldLink RX5 124 "EchoRow$Layers" "wedge" "I", Cond.fieldLink RX5 210 "EchoRow$Element" "times" "[I", Cond.fieldLink RX5 123 "EchoRow$Element" "x" "I", Cond.methodLink RX5 213 yX1_leastTicks, Cond.instanceMethod yX1_leastTicks, Cond.selects RX1 yX1_leastTicks yX1_leastTicks, Cond.code yX1_leastTicks cX1_leastTicks 9 (some .int), Cond.constant RX1 41 (-99999), Cond.fieldLink RX1 15 "EchoRow$Layers" "ready" "[Z", Cond.fieldLink RX1 30 "EchoRow$Layers" "plateSlowness" "I", Cond.constant RX1 42 (2147483647), Cond.methodLink RX1 43 Lib.Math.max.name]
def wsX5_echoAt_r3 : List Cond := [Cond.static Lib.Math.max.name, Cond.code Lib.Math.max.name Lib.Math.max.code 2 (some .int), Cond.methodLink RX1 49 Lib.Math.min.name, Cond.fieldLink RX1 11 "EchoRow$Layers" "legs" "[I", Cond.methodLink RX1 52 Lib.Math.abs.name, Cond.static Lib.Math.abs.name, Cond.code Lib.Math.abs.name Lib.Math.abs.code 1 (some .int), Cond.static yX5_outside, Cond.code yX5_outside cX5_outside 3 (some .boolean), Cond.methodLink RX1 33 yX1_fillRow, Cond.instanceMethod yX1_fillRow, Cond.selects RX1 yX1_fillRow yX1_fillRow, Cond.code yX1_fillRow cX1_fillRow 7 none]
def wsX5_echoAt : List Cond := .code yX5_echoAt cX5_echoAt 10 (some .int) :: ((wsX5_echoAt_r1 ++ (wsX5_echoAt_r2 ++ wsX5_echoAt_r3)) ++ wsX00 ++ wsX50 ++ wsX30 ++ wsX10)
def wsX5_echo_r1 : List Cond := [Cond.methodLink RX5 77 yX5_elementNumbered, Cond.instanceMethod yX5_elementNumbered, Cond.selects RX5 yX5_elementNumbered yX5_elementNumbered, Cond.initialized RX5, Cond.code yX5_elementNumbered cX5_elementNumbered 2 (some (.object "EchoRow$Element")), Cond.fieldLink RX5 18 "EchoRow" "elements" "[LEchoRow$Element;", Cond.methodLink RX5 144 yX5_echoAt, Cond.instanceMethod yX5_echoAt, Cond.selects RX5 yX5_echoAt yX5_echoAt, Cond.code yX5_echoAt cX5_echoAt 10 (some .int), Cond.fieldLink RX5 81 "EchoRow$Element" "works" "Z", Cond.fieldLink RX5 24 "EchoRow" "targets" "[LEchoRow$Target;", Cond.fieldLink RX5 106 "EchoRow$Target" "strength" "I", Cond.methodLink RX5 131 yX5_echoTimeBy, Cond.instanceMethod yX5_echoTimeBy, Cond.selects RX5 yX5_echoTimeBy yX5_echoTimeBy, Cond.code yX5_echoTimeBy cX5_echoTimeBy 8 (some .int), Cond.fieldLink RX5 216 "EchoRow$Element" "number" "I", Cond.fieldLink RX5 219 "EchoRow$Target" "times" "[I", Cond.constant RX5 148 (-99999), Cond.constant RX5 135 (2147483647), Cond.fieldLink RX5 109 "EchoRow$Target" "x" "I", Cond.fieldLink RX5 116 "EchoRow$Target" "z" "I", Cond.methodLink RX5 181 Lib.Math.min.name]
def wsX5_echo_r2 : List Cond := [Cond.static Lib.Math.min.name, Cond.initialized "java/lang/Math", Cond.code Lib.Math.min.name Lib.Math.min.code 2 (some .int), Cond.methodLink RX5 112 yX5_depthOf, Cond.instanceMethod yX5_depthOf, Cond.selects RX5 yX5_depthOf yX5_depthOf, Cond.code yX5_depthOf cX5_depthOf 2 (some .int), Cond.fieldLink RX5 48 "EchoRow$Target" "kind" "I", Cond.fieldLink RX5 12 "EchoRow" "layers" "LEchoRow$Layers;", Cond.fieldLink RX5 52 "EchoRow$Target" "y" "I", Cond.methodLink RX5 67 yX1_floor, Cond.instanceMethod yX1_floor, Cond.selects RX1 yX1_floor yX1_floor, Cond.initialized RX1, Cond.code yX1_floor cX1_floor 1 (some .int), Cond.fieldLink RX1 23 "EchoRow$Layers" "wedge" "I", Cond.fieldLink RX1 27 "EchoRow$Layers" "plate" "I", Cond.methodLink RX5 119 yX5_timeTo, Cond.instanceMethod yX5_timeTo, Cond.selects RX5 yX5_timeTo yX5_timeTo, Cond.code yX5_timeTo cX5_timeTo 6 (some .int), Cond.fieldLink RX5 124 "EchoRow$Layers" "wedge" "I", Cond.fieldLink RX5 210 "EchoRow$Element" "times" "[I", Cond.fieldLink RX5 123 "EchoRow$Element" "x" "I"]
def wsX5_echo_r3 : List Cond := [Cond.methodLink RX5 213 yX1_leastTicks, Cond.instanceMethod yX1_leastTicks, Cond.selects RX1 yX1_leastTicks yX1_leastTicks, Cond.code yX1_leastTicks cX1_leastTicks 9 (some .int), Cond.constant RX1 41 (-99999), Cond.fieldLink RX1 15 "EchoRow$Layers" "ready" "[Z", Cond.fieldLink RX1 30 "EchoRow$Layers" "plateSlowness" "I", Cond.constant RX1 42 (2147483647), Cond.methodLink RX1 43 Lib.Math.max.name, Cond.static Lib.Math.max.name, Cond.code Lib.Math.max.name Lib.Math.max.code 2 (some .int), Cond.methodLink RX1 49 Lib.Math.min.name, Cond.fieldLink RX1 11 "EchoRow$Layers" "legs" "[I", Cond.methodLink RX1 52 Lib.Math.abs.name, Cond.static Lib.Math.abs.name, Cond.code Lib.Math.abs.name Lib.Math.abs.code 1 (some .int), Cond.static yX5_outside, Cond.code yX5_outside cX5_outside 3 (some .boolean), Cond.methodLink RX1 33 yX1_fillRow, Cond.instanceMethod yX1_fillRow, Cond.selects RX1 yX1_fillRow yX1_fillRow, Cond.code yX1_fillRow cX1_fillRow 7 none]
def wsX5_echo : List Cond := .code yX5_echo cX5_echo 6 (some .int) :: ((wsX5_echo_r1 ++ (wsX5_echo_r2 ++ wsX5_echo_r3)) ++ wsX50 ++ wsX00 ++ wsX30 ++ wsX10)
def wsX5_gate_r1 : List Cond := [Cond.constant RX5 148 (-99999), Cond.fieldLink RX5 24 "EchoRow" "targets" "[LEchoRow$Target;", Cond.methodLink RX5 139 Lib.Math.abs.name, Cond.static Lib.Math.abs.name, Cond.initialized "java/lang/Math", Cond.code Lib.Math.abs.name Lib.Math.abs.code 1 (some .int), Cond.methodLink RX5 77 yX5_elementNumbered, Cond.instanceMethod yX5_elementNumbered, Cond.selects RX5 yX5_elementNumbered yX5_elementNumbered, Cond.initialized RX5, Cond.code yX5_elementNumbered cX5_elementNumbered 2 (some (.object "EchoRow$Element")), Cond.fieldLink RX5 18 "EchoRow" "elements" "[LEchoRow$Element;", Cond.methodLink RX5 44 yX5_outside, Cond.static yX5_outside, Cond.code yX5_outside cX5_outside 3 (some .boolean), Cond.methodLink RX5 131 yX5_echoTimeBy, Cond.instanceMethod yX5_echoTimeBy, Cond.selects RX5 yX5_echoTimeBy yX5_echoTimeBy, Cond.code yX5_echoTimeBy cX5_echoTimeBy 8 (some .int), Cond.fieldLink RX5 216 "EchoRow$Element" "number" "I", Cond.fieldLink RX5 219 "EchoRow$Target" "times" "[I", Cond.constant RX5 135 (2147483647), Cond.fieldLink RX5 109 "EchoRow$Target" "x" "I", Cond.fieldLink RX5 116 "EchoRow$Target" "z" "I"]
def wsX5_gate_r2 : List Cond := [Cond.methodLink RX5 181 Lib.Math.min.name, Cond.static Lib.Math.min.name, Cond.code Lib.Math.min.name Lib.Math.min.code 2 (some .int), Cond.methodLink RX5 112 yX5_depthOf, Cond.instanceMethod yX5_depthOf, Cond.selects RX5 yX5_depthOf yX5_depthOf, Cond.code yX5_depthOf cX5_depthOf 2 (some .int), Cond.fieldLink RX5 48 "EchoRow$Target" "kind" "I", Cond.fieldLink RX5 12 "EchoRow" "layers" "LEchoRow$Layers;", Cond.fieldLink RX5 52 "EchoRow$Target" "y" "I", Cond.methodLink RX5 67 yX1_floor, Cond.instanceMethod yX1_floor, Cond.selects RX1 yX1_floor yX1_floor, Cond.initialized RX1, Cond.code yX1_floor cX1_floor 1 (some .int), Cond.fieldLink RX1 23 "EchoRow$Layers" "wedge" "I", Cond.fieldLink RX1 27 "EchoRow$Layers" "plate" "I", Cond.methodLink RX5 119 yX5_timeTo, Cond.instanceMethod yX5_timeTo, Cond.selects RX5 yX5_timeTo yX5_timeTo, Cond.code yX5_timeTo cX5_timeTo 6 (some .int), Cond.fieldLink RX5 124 "EchoRow$Layers" "wedge" "I", Cond.fieldLink RX5 210 "EchoRow$Element" "times" "[I", Cond.fieldLink RX5 123 "EchoRow$Element" "x" "I"]
def wsX5_gate_r3 : List Cond := [Cond.methodLink RX5 213 yX1_leastTicks, Cond.instanceMethod yX1_leastTicks, Cond.selects RX1 yX1_leastTicks yX1_leastTicks, Cond.code yX1_leastTicks cX1_leastTicks 9 (some .int), Cond.constant RX1 41 (-99999), Cond.fieldLink RX1 15 "EchoRow$Layers" "ready" "[Z", Cond.fieldLink RX1 30 "EchoRow$Layers" "plateSlowness" "I", Cond.constant RX1 42 (2147483647), Cond.methodLink RX1 43 Lib.Math.max.name, Cond.static Lib.Math.max.name, Cond.code Lib.Math.max.name Lib.Math.max.code 2 (some .int), Cond.methodLink RX1 49 Lib.Math.min.name, Cond.fieldLink RX1 11 "EchoRow$Layers" "legs" "[I", Cond.methodLink RX1 52 Lib.Math.abs.name, Cond.methodLink RX1 33 yX1_fillRow, Cond.instanceMethod yX1_fillRow, Cond.selects RX1 yX1_fillRow yX1_fillRow, Cond.code yX1_fillRow cX1_fillRow 7 none, Cond.methodLink RX5 144 yX5_echoAt, Cond.instanceMethod yX5_echoAt, Cond.selects RX5 yX5_echoAt yX5_echoAt, Cond.code yX5_echoAt cX5_echoAt 10 (some .int), Cond.fieldLink RX5 81 "EchoRow$Element" "works" "Z", Cond.fieldLink RX5 106 "EchoRow$Target" "strength" "I"]
def wsX5_gate : List Cond := .code yX5_gate cX5_gate 15 (some .int) :: ((wsX5_gate_r1 ++ (wsX5_gate_r2 ++ wsX5_gate_r3)) ++ wsX50 ++ wsX00 ++ wsX30 ++ wsX10)
def wsX5_focus_r1 : List Cond := [Cond.fieldLink RX5 12 "EchoRow" "layers" "LEchoRow$Layers;", Cond.fieldLink RX5 18 "EchoRow" "elements" "[LEchoRow$Element;", Cond.fieldLink RX5 81 "EchoRow$Element" "works" "Z", Cond.methodLink RX5 149 Lib.Math.max.name, Cond.static Lib.Math.max.name, Cond.initialized "java/lang/Math", Cond.code Lib.Math.max.name Lib.Math.max.code 2 (some .int), Cond.fieldLink RX5 153 "EchoRow$Element" "wait" "I", Cond.fieldLink RX5 63 "EchoRow" "focused" "Z", Cond.methodLink RX5 87 yX1_holds, Cond.instanceMethod yX1_holds, Cond.selects RX1 yX1_holds yX1_holds, Cond.initialized RX1, Cond.code yX1_holds cX1_holds 3 (some .boolean), Cond.fieldLink RX1 23 "EchoRow$Layers" "wedge" "I", Cond.fieldLink RX1 27 "EchoRow$Layers" "plate" "I", Cond.static yX5_outside, Cond.initialized RX5, Cond.code yX5_outside cX5_outside 3 (some .boolean), Cond.methodLink RX5 84 yX5_countWorking, Cond.instanceMethod yX5_countWorking, Cond.selects RX5 yX5_countWorking yX5_countWorking, Cond.code yX5_countWorking cX5_countWorking 6 (some .int), Cond.methodLink RX5 119 yX5_timeTo]
def wsX5_focus_r2 : List Cond := [Cond.instanceMethod yX5_timeTo, Cond.selects RX5 yX5_timeTo yX5_timeTo, Cond.code yX5_timeTo cX5_timeTo 6 (some .int), Cond.fieldLink RX5 124 "EchoRow$Layers" "wedge" "I", Cond.fieldLink RX5 210 "EchoRow$Element" "times" "[I", Cond.constant RX5 148 (-99999), Cond.fieldLink RX5 123 "EchoRow$Element" "x" "I", Cond.methodLink RX5 213 yX1_leastTicks, Cond.instanceMethod yX1_leastTicks, Cond.selects RX1 yX1_leastTicks yX1_leastTicks, Cond.code yX1_leastTicks cX1_leastTicks 9 (some .int), Cond.constant RX1 41 (-99999), Cond.fieldLink RX1 15 "EchoRow$Layers" "ready" "[Z", Cond.fieldLink RX1 30 "EchoRow$Layers" "plateSlowness" "I", Cond.constant RX1 42 (2147483647), Cond.methodLink RX1 43 Lib.Math.max.name, Cond.methodLink RX1 49 Lib.Math.min.name, Cond.static Lib.Math.min.name, Cond.code Lib.Math.min.name Lib.Math.min.code 2 (some .int), Cond.fieldLink RX1 11 "EchoRow$Layers" "legs" "[I", Cond.methodLink RX1 52 Lib.Math.abs.name, Cond.static Lib.Math.abs.name, Cond.code Lib.Math.abs.name Lib.Math.abs.code 1 (some .int), Cond.methodLink RX1 33 yX1_fillRow]
def wsX5_focus_r3 : List Cond := [Cond.instanceMethod yX1_fillRow, Cond.selects RX1 yX1_fillRow yX1_fillRow, Cond.code yX1_fillRow cX1_fillRow 7 none]
def wsX5_focus : List Cond := .code yX5_focus cX5_focus 8 (some .int) :: ((wsX5_focus_r1 ++ (wsX5_focus_r2 ++ wsX5_focus_r3)) ++ wsX50 ++ wsX00 ++ wsX10)
def wsX5_delay : List Cond := .code yX5_delay cX5_delay 3 (some .int) :: ([.fieldLink RX5 63 "EchoRow" "focused" "Z", .fieldLink RX5 81 "EchoRow$Element" "works" "Z", .fieldLink RX5 153 "EchoRow$Element" "wait" "I", .constant RX5 148 (-99999), .methodLink RX5 77 yX5_elementNumbered, .instanceMethod yX5_elementNumbered, .selects RX5 yX5_elementNumbered yX5_elementNumbered, .initialized RX5, .code yX5_elementNumbered cX5_elementNumbered 2 (some (.object "EchoRow$Element")), .fieldLink RX5 18 "EchoRow" "elements" "[LEchoRow$Element;"] ++ wsX50 ++ wsX00)
def wsX5_heardBy_r1 : List Cond := [Cond.fieldLink RX5 18 "EchoRow" "elements" "[LEchoRow$Element;", Cond.fieldLink RX5 81 "EchoRow$Element" "works" "Z", Cond.fieldLink RX5 153 "EchoRow$Element" "wait" "I", Cond.methodLink RX5 144 yX5_echoAt, Cond.instanceMethod yX5_echoAt, Cond.selects RX5 yX5_echoAt yX5_echoAt, Cond.initialized RX5, Cond.code yX5_echoAt cX5_echoAt 10 (some .int), Cond.fieldLink RX5 24 "EchoRow" "targets" "[LEchoRow$Target;", Cond.fieldLink RX5 106 "EchoRow$Target" "strength" "I", Cond.methodLink RX5 131 yX5_echoTimeBy, Cond.instanceMethod yX5_echoTimeBy, Cond.selects RX5 yX5_echoTimeBy yX5_echoTimeBy, Cond.code yX5_echoTimeBy cX5_echoTimeBy 8 (some .int), Cond.fieldLink RX5 216 "EchoRow$Element" "number" "I", Cond.fieldLink RX5 219 "EchoRow$Target" "times" "[I", Cond.constant RX5 148 (-99999), Cond.constant RX5 135 (2147483647), Cond.fieldLink RX5 109 "EchoRow$Target" "x" "I", Cond.fieldLink RX5 116 "EchoRow$Target" "z" "I", Cond.methodLink RX5 181 Lib.Math.min.name, Cond.static Lib.Math.min.name, Cond.initialized "java/lang/Math", Cond.code Lib.Math.min.name Lib.Math.min.code 2 (some .int)]
def wsX5_heardBy_r2 : List Cond := [Cond.methodLink RX5 112 yX5_depthOf, Cond.instanceMethod yX5_depthOf, Cond.selects RX5 yX5_depthOf yX5_depthOf, Cond.code yX5_depthOf cX5_depthOf 2 (some .int), Cond.fieldLink RX5 48 "EchoRow$Target" "kind" "I", Cond.fieldLink RX5 12 "EchoRow" "layers" "LEchoRow$Layers;", Cond.fieldLink RX5 52 "EchoRow$Target" "y" "I", Cond.methodLink RX5 67 yX1_floor, Cond.instanceMethod yX1_floor, Cond.selects RX1 yX1_floor yX1_floor, Cond.initialized RX1, Cond.code yX1_floor cX1_floor 1 (some .int), Cond.fieldLink RX1 23 "EchoRow$Layers" "wedge" "I", Cond.fieldLink RX1 27 "EchoRow$Layers" "plate" "I", Cond.methodLink RX5 119 yX5_timeTo, Cond.instanceMethod yX5_timeTo, Cond.selects RX5 yX5_timeTo yX5_timeTo, Cond.code yX5_timeTo cX5_timeTo 6 (some .int), Cond.fieldLink RX5 124 "EchoRow$Layers" "wedge" "I", Cond.fieldLink RX5 210 "EchoRow$Element" "times" "[I", Cond.fieldLink RX5 123 "EchoRow$Element" "x" "I", Cond.methodLink RX5 213 yX1_leastTicks, Cond.instanceMethod yX1_leastTicks, Cond.selects RX1 yX1_leastTicks yX1_leastTicks]
def wsX5_heardBy_r3 : List Cond := [Cond.code yX1_leastTicks cX1_leastTicks 9 (some .int), Cond.constant RX1 41 (-99999), Cond.fieldLink RX1 15 "EchoRow$Layers" "ready" "[Z", Cond.fieldLink RX1 30 "EchoRow$Layers" "plateSlowness" "I", Cond.constant RX1 42 (2147483647), Cond.methodLink RX1 43 Lib.Math.max.name, Cond.static Lib.Math.max.name, Cond.code Lib.Math.max.name Lib.Math.max.code 2 (some .int), Cond.methodLink RX1 49 Lib.Math.min.name, Cond.fieldLink RX1 11 "EchoRow$Layers" "legs" "[I", Cond.methodLink RX1 52 Lib.Math.abs.name, Cond.static Lib.Math.abs.name, Cond.code Lib.Math.abs.name Lib.Math.abs.code 1 (some .int), Cond.static yX5_outside, Cond.code yX5_outside cX5_outside 3 (some .boolean), Cond.methodLink RX1 33 yX1_fillRow, Cond.instanceMethod yX1_fillRow, Cond.selects RX1 yX1_fillRow yX1_fillRow, Cond.code yX1_fillRow cX1_fillRow 7 none]
def wsX5_heardBy : List Cond := .code yX5_heardBy cX5_heardBy 9 (some .int) :: ((wsX5_heardBy_r1 ++ (wsX5_heardBy_r2 ++ wsX5_heardBy_r3)) ++ wsX50 ++ wsX00 ++ wsX30 ++ wsX10)
def wsX5_heard_r1 : List Cond := [Cond.fieldLink RX5 63 "EchoRow" "focused" "Z", Cond.methodLink RX5 77 yX5_elementNumbered, Cond.instanceMethod yX5_elementNumbered, Cond.selects RX5 yX5_elementNumbered yX5_elementNumbered, Cond.initialized RX5, Cond.code yX5_elementNumbered cX5_elementNumbered 2 (some (.object "EchoRow$Element")), Cond.fieldLink RX5 18 "EchoRow" "elements" "[LEchoRow$Element;", Cond.methodLink RX5 156 yX5_heardBy, Cond.instanceMethod yX5_heardBy, Cond.selects RX5 yX5_heardBy yX5_heardBy, Cond.code yX5_heardBy cX5_heardBy 9 (some .int), Cond.fieldLink RX5 81 "EchoRow$Element" "works" "Z", Cond.fieldLink RX5 153 "EchoRow$Element" "wait" "I", Cond.methodLink RX5 144 yX5_echoAt, Cond.instanceMethod yX5_echoAt, Cond.selects RX5 yX5_echoAt yX5_echoAt, Cond.code yX5_echoAt cX5_echoAt 10 (some .int), Cond.fieldLink RX5 24 "EchoRow" "targets" "[LEchoRow$Target;", Cond.fieldLink RX5 106 "EchoRow$Target" "strength" "I", Cond.methodLink RX5 131 yX5_echoTimeBy, Cond.instanceMethod yX5_echoTimeBy, Cond.selects RX5 yX5_echoTimeBy yX5_echoTimeBy, Cond.code yX5_echoTimeBy cX5_echoTimeBy 8 (some .int), Cond.fieldLink RX5 216 "EchoRow$Element" "number" "I"]
def wsX5_heard_r2 : List Cond := [Cond.fieldLink RX5 219 "EchoRow$Target" "times" "[I", Cond.constant RX5 148 (-99999), Cond.constant RX5 135 (2147483647), Cond.fieldLink RX5 109 "EchoRow$Target" "x" "I", Cond.fieldLink RX5 116 "EchoRow$Target" "z" "I", Cond.methodLink RX5 181 Lib.Math.min.name, Cond.static Lib.Math.min.name, Cond.initialized "java/lang/Math", Cond.code Lib.Math.min.name Lib.Math.min.code 2 (some .int), Cond.methodLink RX5 112 yX5_depthOf, Cond.instanceMethod yX5_depthOf, Cond.selects RX5 yX5_depthOf yX5_depthOf, Cond.code yX5_depthOf cX5_depthOf 2 (some .int), Cond.fieldLink RX5 48 "EchoRow$Target" "kind" "I", Cond.fieldLink RX5 12 "EchoRow" "layers" "LEchoRow$Layers;", Cond.fieldLink RX5 52 "EchoRow$Target" "y" "I", Cond.methodLink RX5 67 yX1_floor, Cond.instanceMethod yX1_floor, Cond.selects RX1 yX1_floor yX1_floor, Cond.initialized RX1, Cond.code yX1_floor cX1_floor 1 (some .int), Cond.fieldLink RX1 23 "EchoRow$Layers" "wedge" "I", Cond.fieldLink RX1 27 "EchoRow$Layers" "plate" "I", Cond.methodLink RX5 119 yX5_timeTo]
def wsX5_heard_r3 : List Cond := [Cond.instanceMethod yX5_timeTo, Cond.selects RX5 yX5_timeTo yX5_timeTo, Cond.code yX5_timeTo cX5_timeTo 6 (some .int), Cond.fieldLink RX5 124 "EchoRow$Layers" "wedge" "I", Cond.fieldLink RX5 210 "EchoRow$Element" "times" "[I", Cond.fieldLink RX5 123 "EchoRow$Element" "x" "I", Cond.methodLink RX5 213 yX1_leastTicks, Cond.instanceMethod yX1_leastTicks, Cond.selects RX1 yX1_leastTicks yX1_leastTicks, Cond.code yX1_leastTicks cX1_leastTicks 9 (some .int), Cond.constant RX1 41 (-99999), Cond.fieldLink RX1 15 "EchoRow$Layers" "ready" "[Z", Cond.fieldLink RX1 30 "EchoRow$Layers" "plateSlowness" "I", Cond.constant RX1 42 (2147483647), Cond.methodLink RX1 43 Lib.Math.max.name, Cond.static Lib.Math.max.name, Cond.code Lib.Math.max.name Lib.Math.max.code 2 (some .int), Cond.methodLink RX1 49 Lib.Math.min.name, Cond.fieldLink RX1 11 "EchoRow$Layers" "legs" "[I", Cond.methodLink RX1 52 Lib.Math.abs.name, Cond.static Lib.Math.abs.name, Cond.code Lib.Math.abs.name Lib.Math.abs.code 1 (some .int), Cond.static yX5_outside, Cond.code yX5_outside cX5_outside 3 (some .boolean)]
def wsX5_heard_r4 : List Cond := [Cond.methodLink RX1 33 yX1_fillRow, Cond.instanceMethod yX1_fillRow, Cond.selects RX1 yX1_fillRow yX1_fillRow, Cond.code yX1_fillRow cX1_fillRow 7 none]
def wsX5_heard : List Cond := .code yX5_heard cX5_heard 4 (some .int) :: ((wsX5_heard_r1 ++ (wsX5_heard_r2 ++ (wsX5_heard_r3 ++ wsX5_heard_r4))) ++ wsX50 ++ wsX00 ++ wsX30 ++ wsX10)
def wsX5_sum_r1 : List Cond := [Cond.fieldLink RX5 63 "EchoRow" "focused" "Z", Cond.fieldLink RX5 18 "EchoRow" "elements" "[LEchoRow$Element;", Cond.fieldLink RX5 81 "EchoRow$Element" "works" "Z", Cond.fieldLink RX5 153 "EchoRow$Element" "wait" "I", Cond.methodLink RX5 156 yX5_heardBy, Cond.instanceMethod yX5_heardBy, Cond.selects RX5 yX5_heardBy yX5_heardBy, Cond.initialized RX5, Cond.code yX5_heardBy cX5_heardBy 9 (some .int), Cond.methodLink RX5 144 yX5_echoAt, Cond.instanceMethod yX5_echoAt, Cond.selects RX5 yX5_echoAt yX5_echoAt, Cond.code yX5_echoAt cX5_echoAt 10 (some .int), Cond.fieldLink RX5 24 "EchoRow" "targets" "[LEchoRow$Target;", Cond.fieldLink RX5 106 "EchoRow$Target" "strength" "I", Cond.methodLink RX5 131 yX5_echoTimeBy, Cond.instanceMethod yX5_echoTimeBy, Cond.selects RX5 yX5_echoTimeBy yX5_echoTimeBy, Cond.code yX5_echoTimeBy cX5_echoTimeBy 8 (some .int), Cond.fieldLink RX5 216 "EchoRow$Element" "number" "I", Cond.fieldLink RX5 219 "EchoRow$Target" "times" "[I", Cond.constant RX5 148 (-99999), Cond.constant RX5 135 (2147483647), Cond.fieldLink RX5 109 "EchoRow$Target" "x" "I"]
def wsX5_sum_r2 : List Cond := [Cond.fieldLink RX5 116 "EchoRow$Target" "z" "I", Cond.methodLink RX5 181 Lib.Math.min.name, Cond.static Lib.Math.min.name, Cond.initialized "java/lang/Math", Cond.code Lib.Math.min.name Lib.Math.min.code 2 (some .int), Cond.methodLink RX5 112 yX5_depthOf, Cond.instanceMethod yX5_depthOf, Cond.selects RX5 yX5_depthOf yX5_depthOf, Cond.code yX5_depthOf cX5_depthOf 2 (some .int), Cond.fieldLink RX5 48 "EchoRow$Target" "kind" "I", Cond.fieldLink RX5 12 "EchoRow" "layers" "LEchoRow$Layers;", Cond.fieldLink RX5 52 "EchoRow$Target" "y" "I", Cond.methodLink RX5 67 yX1_floor, Cond.instanceMethod yX1_floor, Cond.selects RX1 yX1_floor yX1_floor, Cond.initialized RX1, Cond.code yX1_floor cX1_floor 1 (some .int), Cond.fieldLink RX1 23 "EchoRow$Layers" "wedge" "I", Cond.fieldLink RX1 27 "EchoRow$Layers" "plate" "I", Cond.methodLink RX5 119 yX5_timeTo, Cond.instanceMethod yX5_timeTo, Cond.selects RX5 yX5_timeTo yX5_timeTo, Cond.code yX5_timeTo cX5_timeTo 6 (some .int), Cond.fieldLink RX5 124 "EchoRow$Layers" "wedge" "I"]
def wsX5_sum_r3 : List Cond := [Cond.fieldLink RX5 210 "EchoRow$Element" "times" "[I", Cond.fieldLink RX5 123 "EchoRow$Element" "x" "I", Cond.methodLink RX5 213 yX1_leastTicks, Cond.instanceMethod yX1_leastTicks, Cond.selects RX1 yX1_leastTicks yX1_leastTicks, Cond.code yX1_leastTicks cX1_leastTicks 9 (some .int), Cond.constant RX1 41 (-99999), Cond.fieldLink RX1 15 "EchoRow$Layers" "ready" "[Z", Cond.fieldLink RX1 30 "EchoRow$Layers" "plateSlowness" "I", Cond.constant RX1 42 (2147483647), Cond.methodLink RX1 43 Lib.Math.max.name, Cond.static Lib.Math.max.name, Cond.code Lib.Math.max.name Lib.Math.max.code 2 (some .int), Cond.methodLink RX1 49 Lib.Math.min.name, Cond.fieldLink RX1 11 "EchoRow$Layers" "legs" "[I", Cond.methodLink RX1 52 Lib.Math.abs.name, Cond.static Lib.Math.abs.name, Cond.code Lib.Math.abs.name Lib.Math.abs.code 1 (some .int), Cond.static yX5_outside, Cond.code yX5_outside cX5_outside 3 (some .boolean), Cond.methodLink RX1 33 yX1_fillRow, Cond.instanceMethod yX1_fillRow, Cond.selects RX1 yX1_fillRow yX1_fillRow, Cond.code yX1_fillRow cX1_fillRow 7 none]
def wsX5_sum : List Cond := .code yX5_sum cX5_sum 7 (some .int) :: ((wsX5_sum_r1 ++ (wsX5_sum_r2 ++ wsX5_sum_r3)) ++ wsX50 ++ wsX00 ++ wsX30 ++ wsX10)
def wsX5_board_r1 : List Cond := [Cond.fieldLink RX5 12 "EchoRow" "layers" "LEchoRow$Layers;", Cond.fieldLink RX5 18 "EchoRow" "elements" "[LEchoRow$Element;", Cond.fieldLink RX5 81 "EchoRow$Element" "works" "Z", Cond.methodLink RX5 87 yX1_holds, Cond.instanceMethod yX1_holds, Cond.selects RX1 yX1_holds yX1_holds, Cond.initialized RX1, Cond.code yX1_holds cX1_holds 3 (some .boolean), Cond.fieldLink RX1 23 "EchoRow$Layers" "wedge" "I", Cond.fieldLink RX1 27 "EchoRow$Layers" "plate" "I", Cond.static yX5_outside, Cond.initialized RX5, Cond.code yX5_outside cX5_outside 3 (some .boolean), Cond.methodLink RX5 119 yX5_timeTo, Cond.instanceMethod yX5_timeTo, Cond.selects RX5 yX5_timeTo yX5_timeTo, Cond.code yX5_timeTo cX5_timeTo 6 (some .int), Cond.fieldLink RX5 124 "EchoRow$Layers" "wedge" "I", Cond.fieldLink RX5 210 "EchoRow$Element" "times" "[I", Cond.constant RX5 148 (-99999), Cond.fieldLink RX5 123 "EchoRow$Element" "x" "I", Cond.methodLink RX5 213 yX1_leastTicks, Cond.instanceMethod yX1_leastTicks, Cond.selects RX1 yX1_leastTicks yX1_leastTicks]
def wsX5_board_r2 : List Cond := [Cond.code yX1_leastTicks cX1_leastTicks 9 (some .int), Cond.constant RX1 41 (-99999), Cond.fieldLink RX1 15 "EchoRow$Layers" "ready" "[Z", Cond.fieldLink RX1 30 "EchoRow$Layers" "plateSlowness" "I", Cond.constant RX1 42 (2147483647), Cond.methodLink RX1 43 Lib.Math.max.name, Cond.static Lib.Math.max.name, Cond.initialized "java/lang/Math", Cond.code Lib.Math.max.name Lib.Math.max.code 2 (some .int), Cond.methodLink RX1 49 Lib.Math.min.name, Cond.static Lib.Math.min.name, Cond.code Lib.Math.min.name Lib.Math.min.code 2 (some .int), Cond.fieldLink RX1 11 "EchoRow$Layers" "legs" "[I", Cond.methodLink RX1 52 Lib.Math.abs.name, Cond.static Lib.Math.abs.name, Cond.code Lib.Math.abs.name Lib.Math.abs.code 1 (some .int), Cond.methodLink RX1 33 yX1_fillRow, Cond.instanceMethod yX1_fillRow, Cond.selects RX1 yX1_fillRow yX1_fillRow, Cond.code yX1_fillRow cX1_fillRow 7 none, Cond.methodLink RX5 144 yX5_echoAt, Cond.instanceMethod yX5_echoAt, Cond.selects RX5 yX5_echoAt yX5_echoAt, Cond.code yX5_echoAt cX5_echoAt 10 (some .int)]
def wsX5_board_r3 : List Cond := [Cond.fieldLink RX5 24 "EchoRow" "targets" "[LEchoRow$Target;", Cond.fieldLink RX5 106 "EchoRow$Target" "strength" "I", Cond.methodLink RX5 131 yX5_echoTimeBy, Cond.instanceMethod yX5_echoTimeBy, Cond.selects RX5 yX5_echoTimeBy yX5_echoTimeBy, Cond.code yX5_echoTimeBy cX5_echoTimeBy 8 (some .int), Cond.fieldLink RX5 216 "EchoRow$Element" "number" "I", Cond.fieldLink RX5 219 "EchoRow$Target" "times" "[I", Cond.constant RX5 135 (2147483647), Cond.fieldLink RX5 109 "EchoRow$Target" "x" "I", Cond.fieldLink RX5 116 "EchoRow$Target" "z" "I", Cond.methodLink RX5 181 Lib.Math.min.name, Cond.methodLink RX5 112 yX5_depthOf, Cond.instanceMethod yX5_depthOf, Cond.selects RX5 yX5_depthOf yX5_depthOf, Cond.code yX5_depthOf cX5_depthOf 2 (some .int), Cond.fieldLink RX5 48 "EchoRow$Target" "kind" "I", Cond.fieldLink RX5 52 "EchoRow$Target" "y" "I", Cond.methodLink RX5 67 yX1_floor, Cond.instanceMethod yX1_floor, Cond.selects RX1 yX1_floor yX1_floor, Cond.code yX1_floor cX1_floor 1 (some .int)]
def wsX5_board : List Cond := .code yX5_board cX5_board 12 (some .int) :: ((wsX5_board_r1 ++ (wsX5_board_r2 ++ wsX5_board_r3)) ++ wsX50 ++ wsX00 ++ wsX10 ++ wsX30)
def wsX5_tell : List Cond := .code yX5_tell cX5_tell 6 (some .int) :: ([.fieldLink RX5 160 "EchoRow" "toldCount" "I", .fieldLink RX5 30 "EchoRow" "tolds" "[LEchoRow$Told;", .classLink RX5 28 RX4, .instantiable RX4 3, .initialized RX4, .methodLink RX5 77 yX5_elementNumbered, .instanceMethod yX5_elementNumbered, .selects RX5 yX5_elementNumbered yX5_elementNumbered, .initialized RX5, .code yX5_elementNumbered cX5_elementNumbered 2 (some (.object "EchoRow$Element")), .fieldLink RX5 18 "EchoRow" "elements" "[LEchoRow$Element;", .methodLink RX5 44 yX5_outside, .static yX5_outside, .code yX5_outside cX5_outside 3 (some .boolean), .methodLink RX5 163 yX4_init, .instanceMethod yX4_init, .code yX4_init cX4_init 4 none, .methodLink RX4 1 objectInit, .instanceMethod objectInit, .code objectInit ⟨#[0xb1]⟩ 1 none, .fieldLink RX4 7 "EchoRow$Told" "a" "LEchoRow$Element;", .fieldLink RX4 13 "EchoRow$Told" "b" "LEchoRow$Element;", .fieldLink RX4 16 "EchoRow$Told" "tick" "I"] ++ wsX50 ++ wsX40)
def wsX5_forget : List Cond := .code yX5_forget cX5_forget 3 (some .int) :: ([.fieldLink RX5 160 "EchoRow" "toldCount" "I", .fieldLink RX5 30 "EchoRow" "tolds" "[LEchoRow$Told;"] ++ wsX50)
def wsX5_fits_r1 : List Cond := [Cond.fieldLink RX5 30 "EchoRow" "tolds" "[LEchoRow$Told;", Cond.fieldLink RX5 220 "EchoRow$Told" "a" "LEchoRow$Element;", Cond.fieldLink RX5 224 "EchoRow$Told" "b" "LEchoRow$Element;", Cond.fieldLink RX5 227 "EchoRow$Told" "tick" "I", Cond.methodLink RX5 139 Lib.Math.abs.name, Cond.static Lib.Math.abs.name, Cond.initialized "java/lang/Math", Cond.code Lib.Math.abs.name Lib.Math.abs.code 1 (some .int), Cond.methodLink RX5 119 yX5_timeTo, Cond.instanceMethod yX5_timeTo, Cond.selects RX5 yX5_timeTo yX5_timeTo, Cond.initialized RX5, Cond.code yX5_timeTo cX5_timeTo 6 (some .int), Cond.fieldLink RX5 12 "EchoRow" "layers" "LEchoRow$Layers;", Cond.fieldLink RX5 124 "EchoRow$Layers" "wedge" "I", Cond.fieldLink RX5 210 "EchoRow$Element" "times" "[I", Cond.constant RX5 148 (-99999), Cond.fieldLink RX5 123 "EchoRow$Element" "x" "I", Cond.methodLink RX5 213 yX1_leastTicks, Cond.instanceMethod yX1_leastTicks, Cond.selects RX1 yX1_leastTicks yX1_leastTicks, Cond.initialized RX1, Cond.code yX1_leastTicks cX1_leastTicks 9 (some .int), Cond.constant RX1 41 (-99999)]
def wsX5_fits_r2 : List Cond := [Cond.fieldLink RX1 15 "EchoRow$Layers" "ready" "[Z", Cond.fieldLink RX1 30 "EchoRow$Layers" "plateSlowness" "I", Cond.constant RX1 42 (2147483647), Cond.methodLink RX1 43 Lib.Math.max.name, Cond.static Lib.Math.max.name, Cond.code Lib.Math.max.name Lib.Math.max.code 2 (some .int), Cond.methodLink RX1 49 Lib.Math.min.name, Cond.static Lib.Math.min.name, Cond.code Lib.Math.min.name Lib.Math.min.code 2 (some .int), Cond.fieldLink RX1 11 "EchoRow$Layers" "legs" "[I", Cond.methodLink RX1 52 Lib.Math.abs.name, Cond.static yX5_outside, Cond.code yX5_outside cX5_outside 3 (some .boolean), Cond.methodLink RX1 33 yX1_fillRow, Cond.instanceMethod yX1_fillRow, Cond.selects RX1 yX1_fillRow yX1_fillRow, Cond.code yX1_fillRow cX1_fillRow 7 none]
def wsX5_fits : List Cond := .code yX5_fits cX5_fits 9 (some .boolean) :: ((wsX5_fits_r1 ++ wsX5_fits_r2) ++ wsX50 ++ wsX40 ++ wsX10 ++ wsX00)
def wsX5_places_r1 : List Cond := [Cond.fieldLink RX5 12 "EchoRow" "layers" "LEchoRow$Layers;", Cond.fieldLink RX5 124 "EchoRow$Layers" "wedge" "I", Cond.methodLink RX5 44 yX5_outside, Cond.static yX5_outside, Cond.initialized RX5, Cond.code yX5_outside cX5_outside 3 (some .boolean), Cond.methodLink RX5 67 yX1_floor, Cond.instanceMethod yX1_floor, Cond.selects RX1 yX1_floor yX1_floor, Cond.initialized RX1, Cond.code yX1_floor cX1_floor 1 (some .int), Cond.fieldLink RX1 23 "EchoRow$Layers" "wedge" "I", Cond.fieldLink RX1 27 "EchoRow$Layers" "plate" "I", Cond.methodLink RX5 166 yX5_fits, Cond.instanceMethod yX5_fits, Cond.selects RX5 yX5_fits yX5_fits, Cond.code yX5_fits cX5_fits 9 (some .boolean), Cond.fieldLink RX5 30 "EchoRow" "tolds" "[LEchoRow$Told;", Cond.fieldLink RX5 220 "EchoRow$Told" "a" "LEchoRow$Element;", Cond.fieldLink RX5 224 "EchoRow$Told" "b" "LEchoRow$Element;", Cond.fieldLink RX5 227 "EchoRow$Told" "tick" "I", Cond.methodLink RX5 139 Lib.Math.abs.name, Cond.static Lib.Math.abs.name, Cond.initialized "java/lang/Math"]
def wsX5_places_r2 : List Cond := [Cond.code Lib.Math.abs.name Lib.Math.abs.code 1 (some .int), Cond.methodLink RX5 119 yX5_timeTo, Cond.instanceMethod yX5_timeTo, Cond.selects RX5 yX5_timeTo yX5_timeTo, Cond.code yX5_timeTo cX5_timeTo 6 (some .int), Cond.fieldLink RX5 210 "EchoRow$Element" "times" "[I", Cond.constant RX5 148 (-99999), Cond.fieldLink RX5 123 "EchoRow$Element" "x" "I", Cond.methodLink RX5 213 yX1_leastTicks, Cond.instanceMethod yX1_leastTicks, Cond.selects RX1 yX1_leastTicks yX1_leastTicks, Cond.code yX1_leastTicks cX1_leastTicks 9 (some .int), Cond.constant RX1 41 (-99999), Cond.fieldLink RX1 15 "EchoRow$Layers" "ready" "[Z", Cond.fieldLink RX1 30 "EchoRow$Layers" "plateSlowness" "I", Cond.constant RX1 42 (2147483647), Cond.methodLink RX1 43 Lib.Math.max.name, Cond.static Lib.Math.max.name, Cond.code Lib.Math.max.name Lib.Math.max.code 2 (some .int), Cond.methodLink RX1 49 Lib.Math.min.name, Cond.static Lib.Math.min.name, Cond.code Lib.Math.min.name Lib.Math.min.code 2 (some .int), Cond.fieldLink RX1 11 "EchoRow$Layers" "legs" "[I", Cond.methodLink RX1 52 Lib.Math.abs.name]
def wsX5_places_r3 : List Cond := [Cond.methodLink RX1 33 yX1_fillRow, Cond.instanceMethod yX1_fillRow, Cond.selects RX1 yX1_fillRow yX1_fillRow, Cond.code yX1_fillRow cX1_fillRow 7 none]
def wsX5_places : List Cond := .code yX5_places cX5_places 5 (some .int) :: ((wsX5_places_r1 ++ (wsX5_places_r2 ++ wsX5_places_r3)) ++ wsX50 ++ wsX10 ++ wsX40 ++ wsX00)
def wsX5_place_r1 : List Cond := [Cond.constant RX5 148 (-99999), Cond.fieldLink RX5 12 "EchoRow" "layers" "LEchoRow$Layers;", Cond.fieldLink RX5 124 "EchoRow$Layers" "wedge" "I", Cond.methodLink RX5 44 yX5_outside, Cond.static yX5_outside, Cond.initialized RX5, Cond.code yX5_outside cX5_outside 3 (some .boolean), Cond.methodLink RX5 67 yX1_floor, Cond.instanceMethod yX1_floor, Cond.selects RX1 yX1_floor yX1_floor, Cond.initialized RX1, Cond.code yX1_floor cX1_floor 1 (some .int), Cond.fieldLink RX1 23 "EchoRow$Layers" "wedge" "I", Cond.fieldLink RX1 27 "EchoRow$Layers" "plate" "I", Cond.methodLink RX5 166 yX5_fits, Cond.instanceMethod yX5_fits, Cond.selects RX5 yX5_fits yX5_fits, Cond.code yX5_fits cX5_fits 9 (some .boolean), Cond.fieldLink RX5 30 "EchoRow" "tolds" "[LEchoRow$Told;", Cond.fieldLink RX5 220 "EchoRow$Told" "a" "LEchoRow$Element;", Cond.fieldLink RX5 224 "EchoRow$Told" "b" "LEchoRow$Element;", Cond.fieldLink RX5 227 "EchoRow$Told" "tick" "I", Cond.methodLink RX5 139 Lib.Math.abs.name, Cond.static Lib.Math.abs.name]
def wsX5_place_r2 : List Cond := [Cond.initialized "java/lang/Math", Cond.code Lib.Math.abs.name Lib.Math.abs.code 1 (some .int), Cond.methodLink RX5 119 yX5_timeTo, Cond.instanceMethod yX5_timeTo, Cond.selects RX5 yX5_timeTo yX5_timeTo, Cond.code yX5_timeTo cX5_timeTo 6 (some .int), Cond.fieldLink RX5 210 "EchoRow$Element" "times" "[I", Cond.fieldLink RX5 123 "EchoRow$Element" "x" "I", Cond.methodLink RX5 213 yX1_leastTicks, Cond.instanceMethod yX1_leastTicks, Cond.selects RX1 yX1_leastTicks yX1_leastTicks, Cond.code yX1_leastTicks cX1_leastTicks 9 (some .int), Cond.constant RX1 41 (-99999), Cond.fieldLink RX1 15 "EchoRow$Layers" "ready" "[Z", Cond.fieldLink RX1 30 "EchoRow$Layers" "plateSlowness" "I", Cond.constant RX1 42 (2147483647), Cond.methodLink RX1 43 Lib.Math.max.name, Cond.static Lib.Math.max.name, Cond.code Lib.Math.max.name Lib.Math.max.code 2 (some .int), Cond.methodLink RX1 49 Lib.Math.min.name, Cond.static Lib.Math.min.name, Cond.code Lib.Math.min.name Lib.Math.min.code 2 (some .int), Cond.fieldLink RX1 11 "EchoRow$Layers" "legs" "[I", Cond.methodLink RX1 52 Lib.Math.abs.name]
def wsX5_place_r3 : List Cond := [Cond.methodLink RX1 33 yX1_fillRow, Cond.instanceMethod yX1_fillRow, Cond.selects RX1 yX1_fillRow yX1_fillRow, Cond.code yX1_fillRow cX1_fillRow 7 none]
def wsX5_place : List Cond := .code yX5_place cX5_place 6 (some .int) :: ((wsX5_place_r1 ++ (wsX5_place_r2 ++ wsX5_place_r3)) ++ wsX50 ++ wsX10 ++ wsX40 ++ wsX00)
def wsX5_noSheet : List Cond := .code yX5_noSheet cX5_noSheet 1 (some .boolean) :: ([.methodLink RX5 44 yX5_outside, .static yX5_outside, .initialized RX5, .code yX5_outside cX5_outside 3 (some .boolean)])
def wsX5_sheet_r1 : List Cond := [Cond.fieldLink RX5 36 "EchoRow" "sheets" "[LEchoRow$Sheet;", Cond.classLink RX5 34 RX2, Cond.instantiable RX2 2, Cond.initialized RX2, Cond.methodLink RX5 169 yX5_noSheet, Cond.static yX5_noSheet, Cond.initialized RX5, Cond.code yX5_noSheet cX5_noSheet 1 (some .boolean), Cond.methodLink RX5 44 yX5_outside, Cond.static yX5_outside, Cond.code yX5_outside cX5_outside 3 (some .boolean), Cond.methodLink RX5 102 yX5_found, Cond.instanceMethod yX5_found, Cond.selects RX5 yX5_found yX5_found, Cond.code yX5_found cX5_found 2 (some .int), Cond.fieldLink RX5 201 "EchoRow" "findings" "I", Cond.methodLink RX5 173 yX2_init, Cond.instanceMethod yX2_init, Cond.code yX2_init cX2_init 3 none, Cond.methodLink RX2 3 objectInit, Cond.instanceMethod objectInit, Cond.code objectInit ⟨#[0xb1]⟩ 1 none, Cond.fieldLink RX2 9 "EchoRow$Sheet" "lane" "I", Cond.arrayClass .int]
def wsX5_sheet_r2 : List Cond := [Cond.fieldLink RX2 15 "EchoRow$Sheet" "numbers" "[I"]
def wsX5_sheet : List Cond := .code yX5_sheet cX5_sheet 4 (some .int) :: ((wsX5_sheet_r1 ++ wsX5_sheet_r2) ++ wsX50 ++ wsX20)
def wsX5_tear : List Cond := .code yX5_tear cX5_tear 3 (some .int) :: ([.fieldLink RX5 36 "EchoRow" "sheets" "[LEchoRow$Sheet;", .methodLink RX5 169 yX5_noSheet, .static yX5_noSheet, .initialized RX5, .code yX5_noSheet cX5_noSheet 1 (some .boolean), .methodLink RX5 44 yX5_outside, .static yX5_outside, .code yX5_outside cX5_outside 3 (some .boolean), .methodLink RX5 102 yX5_found, .instanceMethod yX5_found, .selects RX5 yX5_found yX5_found, .code yX5_found cX5_found 2 (some .int), .fieldLink RX5 201 "EchoRow" "findings" "I"] ++ wsX50)
def wsX5_record_r1 : List Cond := [Cond.fieldLink RX5 36 "EchoRow" "sheets" "[LEchoRow$Sheet;", Cond.fieldLink RX5 174 "EchoRow$Sheet" "numbers" "[I", Cond.methodLink RX5 169 yX5_noSheet, Cond.static yX5_noSheet, Cond.initialized RX5, Cond.code yX5_noSheet cX5_noSheet 1 (some .boolean), Cond.methodLink RX5 44 yX5_outside, Cond.static yX5_outside, Cond.code yX5_outside cX5_outside 3 (some .boolean), Cond.methodLink RX5 102 yX5_found, Cond.instanceMethod yX5_found, Cond.selects RX5 yX5_found yX5_found, Cond.code yX5_found cX5_found 2 (some .int), Cond.fieldLink RX5 201 "EchoRow" "findings" "I", Cond.methodLink RX5 77 yX5_elementNumbered, Cond.instanceMethod yX5_elementNumbered, Cond.selects RX5 yX5_elementNumbered yX5_elementNumbered, Cond.code yX5_elementNumbered cX5_elementNumbered 2 (some (.object "EchoRow$Element")), Cond.fieldLink RX5 18 "EchoRow" "elements" "[LEchoRow$Element;", Cond.methodLink RX5 144 yX5_echoAt, Cond.instanceMethod yX5_echoAt, Cond.selects RX5 yX5_echoAt yX5_echoAt, Cond.code yX5_echoAt cX5_echoAt 10 (some .int), Cond.fieldLink RX5 81 "EchoRow$Element" "works" "Z"]
def wsX5_record_r2 : List Cond := [Cond.fieldLink RX5 24 "EchoRow" "targets" "[LEchoRow$Target;", Cond.fieldLink RX5 106 "EchoRow$Target" "strength" "I", Cond.methodLink RX5 131 yX5_echoTimeBy, Cond.instanceMethod yX5_echoTimeBy, Cond.selects RX5 yX5_echoTimeBy yX5_echoTimeBy, Cond.code yX5_echoTimeBy cX5_echoTimeBy 8 (some .int), Cond.fieldLink RX5 216 "EchoRow$Element" "number" "I", Cond.fieldLink RX5 219 "EchoRow$Target" "times" "[I", Cond.constant RX5 148 (-99999), Cond.constant RX5 135 (2147483647), Cond.fieldLink RX5 109 "EchoRow$Target" "x" "I", Cond.fieldLink RX5 116 "EchoRow$Target" "z" "I", Cond.methodLink RX5 181 Lib.Math.min.name, Cond.static Lib.Math.min.name, Cond.initialized "java/lang/Math", Cond.code Lib.Math.min.name Lib.Math.min.code 2 (some .int), Cond.methodLink RX5 112 yX5_depthOf, Cond.instanceMethod yX5_depthOf, Cond.selects RX5 yX5_depthOf yX5_depthOf, Cond.code yX5_depthOf cX5_depthOf 2 (some .int), Cond.fieldLink RX5 48 "EchoRow$Target" "kind" "I", Cond.fieldLink RX5 12 "EchoRow" "layers" "LEchoRow$Layers;", Cond.fieldLink RX5 52 "EchoRow$Target" "y" "I", Cond.methodLink RX5 67 yX1_floor]
def wsX5_record_r3 : List Cond := [Cond.instanceMethod yX1_floor, Cond.selects RX1 yX1_floor yX1_floor, Cond.initialized RX1, Cond.code yX1_floor cX1_floor 1 (some .int), Cond.fieldLink RX1 23 "EchoRow$Layers" "wedge" "I", Cond.fieldLink RX1 27 "EchoRow$Layers" "plate" "I", Cond.methodLink RX5 119 yX5_timeTo, Cond.instanceMethod yX5_timeTo, Cond.selects RX5 yX5_timeTo yX5_timeTo, Cond.code yX5_timeTo cX5_timeTo 6 (some .int), Cond.fieldLink RX5 124 "EchoRow$Layers" "wedge" "I", Cond.fieldLink RX5 210 "EchoRow$Element" "times" "[I", Cond.fieldLink RX5 123 "EchoRow$Element" "x" "I", Cond.methodLink RX5 213 yX1_leastTicks, Cond.instanceMethod yX1_leastTicks, Cond.selects RX1 yX1_leastTicks yX1_leastTicks, Cond.code yX1_leastTicks cX1_leastTicks 9 (some .int), Cond.constant RX1 41 (-99999), Cond.fieldLink RX1 15 "EchoRow$Layers" "ready" "[Z", Cond.fieldLink RX1 30 "EchoRow$Layers" "plateSlowness" "I", Cond.constant RX1 42 (2147483647), Cond.methodLink RX1 43 Lib.Math.max.name, Cond.static Lib.Math.max.name, Cond.code Lib.Math.max.name Lib.Math.max.code 2 (some .int)]
def wsX5_record_r4 : List Cond := [Cond.methodLink RX1 49 Lib.Math.min.name, Cond.fieldLink RX1 11 "EchoRow$Layers" "legs" "[I", Cond.methodLink RX1 52 Lib.Math.abs.name, Cond.static Lib.Math.abs.name, Cond.code Lib.Math.abs.name Lib.Math.abs.code 1 (some .int), Cond.methodLink RX1 33 yX1_fillRow, Cond.instanceMethod yX1_fillRow, Cond.selects RX1 yX1_fillRow yX1_fillRow, Cond.code yX1_fillRow cX1_fillRow 7 none, Cond.methodLink RX5 177 yX2_nearestTo, Cond.instanceMethod yX2_nearestTo, Cond.selects RX2 yX2_nearestTo yX2_nearestTo, Cond.initialized RX2, Cond.code yX2_nearestTo cX2_nearestTo 7 (some .int), Cond.fieldLink RX2 9 "EchoRow$Sheet" "lane" "I", Cond.constantLong RX2 19 (127), Cond.constantLong RX2 21 (32767), Cond.constantLong RX2 23 (2147483647), Cond.methodLink RX2 25 Lib.MathLoose.min_long.x, Cond.static Lib.MathLoose.min_long.x, Cond.code Lib.MathLoose.min_long.x Lib.MathLoose.min_long.code 4 (some .long), Cond.methodLink RX2 31 Lib.MathLoose.max_long.x, Cond.static Lib.MathLoose.max_long.x, Cond.code Lib.MathLoose.max_long.x Lib.MathLoose.max_long.code 4 (some .long)]
def wsX5_record : List Cond := .code yX5_record cX5_record 9 (some .int) :: ((wsX5_record_r1 ++ (wsX5_record_r2 ++ (wsX5_record_r3 ++ wsX5_record_r4))) ++ wsX50 ++ wsX20 ++ wsX00 ++ wsX30 ++ wsX10)
def wsX5_add_r1 : List Cond := [Cond.fieldLink RX5 36 "EchoRow" "sheets" "[LEchoRow$Sheet;", Cond.fieldLink RX5 174 "EchoRow$Sheet" "numbers" "[I", Cond.fieldLink RX5 40 "EchoRow" "ahead" "[I", Cond.methodLink RX5 181 Lib.Math.min.name, Cond.static Lib.Math.min.name, Cond.initialized "java/lang/Math", Cond.code Lib.Math.min.name Lib.Math.min.code 2 (some .int), Cond.methodLink RX5 184 arraycopyName, Cond.native arraycopyName, Cond.static arraycopyName, Cond.initialized "java/lang/System", Cond.methodLink RX5 169 yX5_noSheet, Cond.static yX5_noSheet, Cond.initialized RX5, Cond.code yX5_noSheet cX5_noSheet 1 (some .boolean), Cond.methodLink RX5 44 yX5_outside, Cond.static yX5_outside, Cond.code yX5_outside cX5_outside 3 (some .boolean), Cond.methodLink RX5 102 yX5_found, Cond.instanceMethod yX5_found, Cond.selects RX5 yX5_found yX5_found, Cond.code yX5_found cX5_found 2 (some .int), Cond.fieldLink RX5 201 "EchoRow" "findings" "I", Cond.methodLink RX5 177 yX2_nearestTo]
def wsX5_add_r2 : List Cond := [Cond.instanceMethod yX2_nearestTo, Cond.selects RX2 yX2_nearestTo yX2_nearestTo, Cond.initialized RX2, Cond.code yX2_nearestTo cX2_nearestTo 7 (some .int), Cond.fieldLink RX2 9 "EchoRow$Sheet" "lane" "I", Cond.constantLong RX2 19 (127), Cond.constantLong RX2 21 (32767), Cond.constantLong RX2 23 (2147483647), Cond.methodLink RX2 25 Lib.MathLoose.min_long.x, Cond.static Lib.MathLoose.min_long.x, Cond.code Lib.MathLoose.min_long.x Lib.MathLoose.min_long.code 4 (some .long), Cond.methodLink RX2 31 Lib.MathLoose.max_long.x, Cond.static Lib.MathLoose.max_long.x, Cond.code Lib.MathLoose.max_long.x Lib.MathLoose.max_long.code 4 (some .long)]
def wsX5_add : List Cond := .code yX5_add cX5_add 12 (some .int) :: ((wsX5_add_r1 ++ wsX5_add_r2) ++ wsX50 ++ wsX20)
def wsX5_copy_r1 : List Cond := [Cond.fieldLink RX5 36 "EchoRow" "sheets" "[LEchoRow$Sheet;", Cond.fieldLink RX5 190 "EchoRow$Sheet" "lane" "I", Cond.fieldLink RX5 174 "EchoRow$Sheet" "numbers" "[I", Cond.methodLink RX5 184 arraycopyName, Cond.native arraycopyName, Cond.static arraycopyName, Cond.initialized "java/lang/System", Cond.methodLink RX5 169 yX5_noSheet, Cond.static yX5_noSheet, Cond.initialized RX5, Cond.code yX5_noSheet cX5_noSheet 1 (some .boolean), Cond.methodLink RX5 44 yX5_outside, Cond.static yX5_outside, Cond.code yX5_outside cX5_outside 3 (some .boolean), Cond.methodLink RX5 102 yX5_found, Cond.instanceMethod yX5_found, Cond.selects RX5 yX5_found yX5_found, Cond.code yX5_found cX5_found 2 (some .int), Cond.fieldLink RX5 201 "EchoRow" "findings" "I", Cond.methodLink RX5 193 yX2_hasRun, Cond.instanceMethod yX2_hasRun, Cond.selects RX2 yX2_hasRun yX2_hasRun, Cond.initialized RX2, Cond.code yX2_hasRun cX2_hasRun 3 (some .boolean)]
def wsX5_copy_r2 : List Cond := [Cond.fieldLink RX2 15 "EchoRow$Sheet" "numbers" "[I"]
def wsX5_copy : List Cond := .code yX5_copy cX5_copy 8 (some .int) :: ((wsX5_copy_r1 ++ wsX5_copy_r2) ++ wsX50 ++ wsX20)
def wsX5_at : List Cond := .code yX5_at cX5_at 4 (some .int) :: ([.fieldLink RX5 36 "EchoRow" "sheets" "[LEchoRow$Sheet;", .fieldLink RX5 174 "EchoRow$Sheet" "numbers" "[I", .methodLink RX5 169 yX5_noSheet, .static yX5_noSheet, .initialized RX5, .code yX5_noSheet cX5_noSheet 1 (some .boolean), .methodLink RX5 44 yX5_outside, .static yX5_outside, .code yX5_outside cX5_outside 3 (some .boolean), .methodLink RX5 102 yX5_found, .instanceMethod yX5_found, .selects RX5 yX5_found yX5_found, .code yX5_found cX5_found 2 (some .int), .fieldLink RX5 201 "EchoRow" "findings" "I"] ++ wsX50 ++ wsX20)
def wsX5_peak : List Cond := .code yX5_peak cX5_peak 9 (some .int) :: ([.fieldLink RX5 36 "EchoRow" "sheets" "[LEchoRow$Sheet;", .constant RX5 148 (-99999), .constantLong RX5 196 (-1), .fieldLink RX5 174 "EchoRow$Sheet" "numbers" "[I", .methodLink RX5 198 Lib.MathLoose.abs_long.x, .static Lib.MathLoose.abs_long.x, .initialized "java/lang/Math", .code Lib.MathLoose.abs_long.x Lib.MathLoose.abs_long.code 2 (some .long), .methodLink RX5 169 yX5_noSheet, .static yX5_noSheet, .initialized RX5, .code yX5_noSheet cX5_noSheet 1 (some .boolean), .methodLink RX5 44 yX5_outside, .static yX5_outside, .code yX5_outside cX5_outside 3 (some .boolean), .methodLink RX5 102 yX5_found, .instanceMethod yX5_found, .selects RX5 yX5_found yX5_found, .code yX5_found cX5_found 2 (some .int), .fieldLink RX5 201 "EchoRow" "findings" "I"] ++ wsX50 ++ wsX20)
def wsX5_countSheets : List Cond := .code yX5_countSheets cX5_countSheets 6 (some .int) :: ([.fieldLink RX5 36 "EchoRow" "sheets" "[LEchoRow$Sheet;"] ++ wsX50)
def wsX5_total_r1 : List Cond := [Cond.fieldLink RX5 71 "EchoRow" "elementCount" "I", Cond.fieldLink RX5 91 "EchoRow" "targetCount" "I", Cond.fieldLink RX5 160 "EchoRow" "toldCount" "I", Cond.fieldLink RX5 201 "EchoRow" "findings" "I", Cond.fieldLink RX5 12 "EchoRow" "layers" "LEchoRow$Layers;", Cond.fieldLink RX5 63 "EchoRow" "focused" "Z", Cond.methodLink RX5 84 yX5_countWorking, Cond.instanceMethod yX5_countWorking, Cond.selects RX5 yX5_countWorking yX5_countWorking, Cond.initialized RX5, Cond.code yX5_countWorking cX5_countWorking 6 (some .int), Cond.fieldLink RX5 18 "EchoRow" "elements" "[LEchoRow$Element;", Cond.fieldLink RX5 81 "EchoRow$Element" "works" "Z", Cond.methodLink RX5 204 yX5_countSheets, Cond.instanceMethod yX5_countSheets, Cond.selects RX5 yX5_countSheets yX5_countSheets, Cond.code yX5_countSheets cX5_countSheets 6 (some .int), Cond.fieldLink RX5 36 "EchoRow" "sheets" "[LEchoRow$Sheet;", Cond.methodLink RX5 67 yX1_floor, Cond.instanceMethod yX1_floor, Cond.selects RX1 yX1_floor yX1_floor, Cond.initialized RX1, Cond.code yX1_floor cX1_floor 1 (some .int), Cond.fieldLink RX1 23 "EchoRow$Layers" "wedge" "I"]
def wsX5_total_r2 : List Cond := [Cond.fieldLink RX1 27 "EchoRow$Layers" "plate" "I"]
def wsX5_total : List Cond := .code yX5_total cX5_total 2 (some .int) :: ((wsX5_total_r1 ++ wsX5_total_r2) ++ wsX50 ++ wsX00 ++ wsX10)
def wsX6_init_r1 : List Cond := [Cond.methodLink RX6 1 objectInit, Cond.instanceMethod objectInit, Cond.code objectInit ⟨#[0xb1]⟩ 1 none, Cond.fieldLink RX6 7 "EchoRowModel" "plate" "I", Cond.fieldLink RX6 13 "EchoRowModel" "slowWedge" "I", Cond.fieldLink RX6 16 "EchoRowModel" "slow" "I", Cond.arrayClass .int, Cond.fieldLink RX6 19 "EchoRowModel" "at" "[I", Cond.arrayClass .boolean, Cond.fieldLink RX6 23 "EchoRowModel" "isLost" "[Z", Cond.fieldLink RX6 27 "EchoRowModel" "kind" "[I", Cond.fieldLink RX6 30 "EchoRowModel" "fromX" "[I", Cond.fieldLink RX6 33 "EchoRowModel" "toX" "[I", Cond.fieldLink RX6 36 "EchoRowModel" "depth" "[I", Cond.fieldLink RX6 39 "EchoRowModel" "strength" "[I", Cond.fieldLink RX6 42 "EchoRowModel" "time" "[I", Cond.fieldLink RX6 45 "EchoRowModel" "bend" "[I", Cond.fieldLink RX6 48 "EchoRowModel" "isMade" "[Z", Cond.fieldLink RX6 51 "EchoRowModel" "delay" "[I", Cond.fieldLink RX6 54 "EchoRowModel" "one" "[I", Cond.fieldLink RX6 57 "EchoRowModel" "other" "[I", Cond.fieldLink RX6 60 "EchoRowModel" "when" "[I", Cond.fieldLink RX6 63 "EchoRowModel" "length" "[I", Cond.fieldLink RX6 66 "EchoRowModel" "lane" "[I"]
def wsX6_init_r2 : List Cond := [Cond.fieldLink RX6 69 "EchoRowModel" "number" "[I", Cond.fieldLink RX6 72 "EchoRowModel" "spare" "[I"]
def wsX6_init : List Cond := .code yX6_init cX6_init 1 none :: ((wsX6_init_r1 ++ wsX6_init_r2) ++ wsX60)
def wsX6_in : List Cond := .code yX6_in cX6_in 6 (some .boolean) :: ([])
def wsX6_finds : List Cond := .code yX6_finds cX6_finds 2 (some .int) :: ([.fieldLink RX6 78 "EchoRowModel" "findings" "I"] ++ wsX60)
def wsX6_floor : List Cond := .code yX6_floor cX6_floor 1 (some .int) :: ([.fieldLink RX6 81 "EchoRowModel" "wedge" "I", .fieldLink RX6 7 "EchoRowModel" "plate" "I"] ++ wsX60)
def wsX6_isPlace : List Cond := .code yX6_isPlace cX6_isPlace 3 (some .boolean) :: ([.constantLong RX6 84 (50), .fieldLink RX6 81 "EchoRowModel" "wedge" "I", .methodLink RX6 86 yX6_in, .static yX6_in, .initialized RX6, .code yX6_in cX6_in 6 (some .boolean), .methodLink RX6 90 yX6_floor, .instanceMethod yX6_floor, .selects RX6 yX6_floor yX6_floor, .code yX6_floor cX6_floor 1 (some .int), .fieldLink RX6 7 "EchoRowModel" "plate" "I"] ++ wsX60)
def wsX6_noElement : List Cond := .code yX6_noElement cX6_noElement 2 (some .boolean) :: ([.fieldLink RX6 94 "EchoRowModel" "elements" "I", .methodLink RX6 86 yX6_in, .static yX6_in, .initialized RX6, .code yX6_in cX6_in 6 (some .boolean)] ++ wsX60)
def wsX6_working : List Cond := .code yX6_working cX6_working 3 (some .int) :: ([.fieldLink RX6 94 "EchoRowModel" "elements" "I", .fieldLink RX6 23 "EchoRowModel" "isLost" "[Z"] ++ wsX60)
def wsX6_ticks : List Cond := .code yX6_ticks cX6_ticks 6 (some .int) :: ([])
def wsX6_unmake : List Cond := .code yX6_unmake cX6_unmake 2 none :: ([.fieldLink RX6 48 "EchoRowModel" "isMade" "[Z"] ++ wsX60)
def wsX6_make : List Cond := .code yX6_make cX6_make 7 none :: ([.fieldLink RX6 48 "EchoRowModel" "isMade" "[Z", .fieldLink RX6 13 "EchoRowModel" "slowWedge" "I", .fieldLink RX6 19 "EchoRowModel" "at" "[I", .fieldLink RX6 81 "EchoRowModel" "wedge" "I", .fieldLink RX6 16 "EchoRowModel" "slow" "I", .fieldLink RX6 42 "EchoRowModel" "time" "[I", .fieldLink RX6 45 "EchoRowModel" "bend" "[I", .methodLink RX6 97 yX6_ticks, .static yX6_ticks, .initialized RX6, .code yX6_ticks cX6_ticks 6 (some .int)] ++ wsX60)
def wsX6_timeOf : List Cond := .code yX6_timeOf cX6_timeOf 4 (some .int) :: ([.fieldLink RX6 42 "EchoRowModel" "time" "[I", .methodLink RX6 101 yX6_make, .instanceMethod yX6_make, .selects RX6 yX6_make yX6_make, .initialized RX6, .code yX6_make cX6_make 7 none, .fieldLink RX6 48 "EchoRowModel" "isMade" "[Z", .fieldLink RX6 13 "EchoRowModel" "slowWedge" "I", .fieldLink RX6 19 "EchoRowModel" "at" "[I", .fieldLink RX6 81 "EchoRowModel" "wedge" "I", .fieldLink RX6 16 "EchoRowModel" "slow" "I", .fieldLink RX6 45 "EchoRowModel" "bend" "[I", .methodLink RX6 97 yX6_ticks, .static yX6_ticks, .code yX6_ticks cX6_ticks 6 (some .int)] ++ wsX60)
def wsX6_least : List Cond := .code yX6_least cX6_least 9 (some .int) :: ([.methodLink RX6 105 yX6_timeOf, .instanceMethod yX6_timeOf, .selects RX6 yX6_timeOf yX6_timeOf, .initialized RX6, .code yX6_timeOf cX6_timeOf 4 (some .int), .fieldLink RX6 42 "EchoRowModel" "time" "[I", .methodLink RX6 101 yX6_make, .instanceMethod yX6_make, .selects RX6 yX6_make yX6_make, .code yX6_make cX6_make 7 none, .fieldLink RX6 48 "EchoRowModel" "isMade" "[Z", .fieldLink RX6 13 "EchoRowModel" "slowWedge" "I", .fieldLink RX6 19 "EchoRowModel" "at" "[I", .fieldLink RX6 81 "EchoRowModel" "wedge" "I", .fieldLink RX6 16 "EchoRowModel" "slow" "I", .fieldLink RX6 45 "EchoRowModel" "bend" "[I", .methodLink RX6 97 yX6_ticks, .static yX6_ticks, .code yX6_ticks cX6_ticks 6 (some .int)] ++ wsX60)
def wsX6_depthOf : List Cond := .code yX6_depthOf cX6_depthOf 2 (some .int) :: ([.fieldLink RX6 27 "EchoRowModel" "kind" "[I", .fieldLink RX6 36 "EchoRowModel" "depth" "[I", .methodLink RX6 90 yX6_floor, .instanceMethod yX6_floor, .selects RX6 yX6_floor yX6_floor, .initialized RX6, .code yX6_floor cX6_floor 1 (some .int), .fieldLink RX6 81 "EchoRowModel" "wedge" "I", .fieldLink RX6 7 "EchoRowModel" "plate" "I"] ++ wsX60)
def wsX6_echoOf_r1 : List Cond := [Cond.fieldLink RX6 30 "EchoRowModel" "fromX" "[I", Cond.fieldLink RX6 33 "EchoRowModel" "toX" "[I", Cond.methodLink RX6 108 yX6_depthOf, Cond.instanceMethod yX6_depthOf, Cond.selects RX6 yX6_depthOf yX6_depthOf, Cond.initialized RX6, Cond.code yX6_depthOf cX6_depthOf 2 (some .int), Cond.fieldLink RX6 27 "EchoRowModel" "kind" "[I", Cond.fieldLink RX6 36 "EchoRowModel" "depth" "[I", Cond.methodLink RX6 90 yX6_floor, Cond.instanceMethod yX6_floor, Cond.selects RX6 yX6_floor yX6_floor, Cond.code yX6_floor cX6_floor 1 (some .int), Cond.fieldLink RX6 81 "EchoRowModel" "wedge" "I", Cond.fieldLink RX6 7 "EchoRowModel" "plate" "I", Cond.methodLink RX6 112 yX6_least, Cond.instanceMethod yX6_least, Cond.selects RX6 yX6_least yX6_least, Cond.code yX6_least cX6_least 9 (some .int), Cond.methodLink RX6 105 yX6_timeOf, Cond.instanceMethod yX6_timeOf, Cond.selects RX6 yX6_timeOf yX6_timeOf, Cond.code yX6_timeOf cX6_timeOf 4 (some .int), Cond.fieldLink RX6 42 "EchoRowModel" "time" "[I"]
def wsX6_echoOf_r2 : List Cond := [Cond.methodLink RX6 101 yX6_make, Cond.instanceMethod yX6_make, Cond.selects RX6 yX6_make yX6_make, Cond.code yX6_make cX6_make 7 none, Cond.fieldLink RX6 48 "EchoRowModel" "isMade" "[Z", Cond.fieldLink RX6 13 "EchoRowModel" "slowWedge" "I", Cond.fieldLink RX6 19 "EchoRowModel" "at" "[I", Cond.fieldLink RX6 16 "EchoRowModel" "slow" "I", Cond.fieldLink RX6 45 "EchoRowModel" "bend" "[I", Cond.methodLink RX6 97 yX6_ticks, Cond.static yX6_ticks, Cond.code yX6_ticks cX6_ticks 6 (some .int)]
def wsX6_echoOf : List Cond := .code yX6_echoOf cX6_echoOf 4 (some .int) :: ((wsX6_echoOf_r1 ++ wsX6_echoOf_r2) ++ wsX60)
def wsX6_echoAt_r1 : List Cond := [Cond.fieldLink RX6 116 "EchoRowModel" "targets" "I", Cond.fieldLink RX6 23 "EchoRowModel" "isLost" "[Z", Cond.fieldLink RX6 39 "EchoRowModel" "strength" "[I", Cond.methodLink RX6 119 yX6_echoOf, Cond.instanceMethod yX6_echoOf, Cond.selects RX6 yX6_echoOf yX6_echoOf, Cond.initialized RX6, Cond.code yX6_echoOf cX6_echoOf 4 (some .int), Cond.fieldLink RX6 30 "EchoRowModel" "fromX" "[I", Cond.fieldLink RX6 33 "EchoRowModel" "toX" "[I", Cond.methodLink RX6 108 yX6_depthOf, Cond.instanceMethod yX6_depthOf, Cond.selects RX6 yX6_depthOf yX6_depthOf, Cond.code yX6_depthOf cX6_depthOf 2 (some .int), Cond.fieldLink RX6 27 "EchoRowModel" "kind" "[I", Cond.fieldLink RX6 36 "EchoRowModel" "depth" "[I", Cond.methodLink RX6 90 yX6_floor, Cond.instanceMethod yX6_floor, Cond.selects RX6 yX6_floor yX6_floor, Cond.code yX6_floor cX6_floor 1 (some .int), Cond.fieldLink RX6 81 "EchoRowModel" "wedge" "I", Cond.fieldLink RX6 7 "EchoRowModel" "plate" "I", Cond.methodLink RX6 112 yX6_least, Cond.instanceMethod yX6_least]
def wsX6_echoAt_r2 : List Cond := [Cond.selects RX6 yX6_least yX6_least, Cond.code yX6_least cX6_least 9 (some .int), Cond.methodLink RX6 105 yX6_timeOf, Cond.instanceMethod yX6_timeOf, Cond.selects RX6 yX6_timeOf yX6_timeOf, Cond.code yX6_timeOf cX6_timeOf 4 (some .int), Cond.fieldLink RX6 42 "EchoRowModel" "time" "[I", Cond.methodLink RX6 101 yX6_make, Cond.instanceMethod yX6_make, Cond.selects RX6 yX6_make yX6_make, Cond.code yX6_make cX6_make 7 none, Cond.fieldLink RX6 48 "EchoRowModel" "isMade" "[Z", Cond.fieldLink RX6 13 "EchoRowModel" "slowWedge" "I", Cond.fieldLink RX6 19 "EchoRowModel" "at" "[I", Cond.fieldLink RX6 16 "EchoRowModel" "slow" "I", Cond.fieldLink RX6 45 "EchoRowModel" "bend" "[I", Cond.methodLink RX6 97 yX6_ticks, Cond.static yX6_ticks, Cond.code yX6_ticks cX6_ticks 6 (some .int)]
def wsX6_echoAt : List Cond := .code yX6_echoAt cX6_echoAt 7 (some .int) :: ((wsX6_echoAt_r1 ++ wsX6_echoAt_r2) ++ wsX60)
def wsX6_body_r1 : List Cond := [Cond.fieldLink RX6 75 "EchoRowModel" "thrown" "I", Cond.constantLong RX6 122 (20), Cond.constantLong RX6 124 (30), Cond.constantLong RX6 126 (8), Cond.fieldLink RX6 116 "EchoRowModel" "targets" "I", Cond.fieldLink RX6 27 "EchoRowModel" "kind" "[I", Cond.fieldLink RX6 36 "EchoRowModel" "depth" "[I", Cond.fieldLink RX6 81 "EchoRowModel" "wedge" "I", Cond.fieldLink RX6 7 "EchoRowModel" "plate" "I", Cond.fieldLink RX6 13 "EchoRowModel" "slowWedge" "I", Cond.fieldLink RX6 16 "EchoRowModel" "slow" "I", Cond.fieldLink RX6 128 "EchoRowModel" "hasFocus" "Z", Cond.methodLink RX6 86 yX6_in, Cond.static yX6_in, Cond.initialized RX6, Cond.code yX6_in cX6_in 6 (some .boolean), Cond.methodLink RX6 132 yX6_unmake, Cond.instanceMethod yX6_unmake, Cond.selects RX6 yX6_unmake yX6_unmake, Cond.code yX6_unmake cX6_unmake 2 none, Cond.fieldLink RX6 48 "EchoRowModel" "isMade" "[Z", Cond.methodLink RX6 90 yX6_floor, Cond.instanceMethod yX6_floor, Cond.selects RX6 yX6_floor yX6_floor]
def wsX6_body_r2 : List Cond := [Cond.code yX6_floor cX6_floor 1 (some .int)]
def wsX6_body : List Cond := .code yX6_body cX6_body 6 (some .int) :: ((wsX6_body_r1 ++ wsX6_body_r2) ++ wsX60)
def wsX6_element : List Cond := .code yX6_element cX6_element 2 (some .int) :: ([.fieldLink RX6 75 "EchoRowModel" "thrown" "I", .constantLong RX6 84 (50), .fieldLink RX6 94 "EchoRowModel" "elements" "I", .fieldLink RX6 19 "EchoRowModel" "at" "[I", .fieldLink RX6 23 "EchoRowModel" "isLost" "[Z", .fieldLink RX6 128 "EchoRowModel" "hasFocus" "Z", .methodLink RX6 86 yX6_in, .static yX6_in, .initialized RX6, .code yX6_in cX6_in 6 (some .boolean)] ++ wsX60)
def wsX6_lose : List Cond := .code yX6_lose cX6_lose 3 (some .int) :: ([.fieldLink RX6 75 "EchoRowModel" "thrown" "I", .fieldLink RX6 23 "EchoRowModel" "isLost" "[Z", .fieldLink RX6 128 "EchoRowModel" "hasFocus" "Z", .methodLink RX6 135 yX6_noElement, .instanceMethod yX6_noElement, .selects RX6 yX6_noElement yX6_noElement, .initialized RX6, .code yX6_noElement cX6_noElement 2 (some .boolean), .fieldLink RX6 94 "EchoRowModel" "elements" "I", .methodLink RX6 86 yX6_in, .static yX6_in, .code yX6_in cX6_in 6 (some .boolean), .methodLink RX6 139 yX6_working, .instanceMethod yX6_working, .selects RX6 yX6_working yX6_working, .code yX6_working cX6_working 3 (some .int)] ++ wsX60)
def wsX6_target_r1 : List Cond := [Cond.fieldLink RX6 75 "EchoRowModel" "thrown" "I", Cond.constantLong RX6 142 (2), Cond.constantLong RX6 84 (50), Cond.constantLong RX6 148 (-1000), Cond.constantLong RX6 150 (1000), Cond.fieldLink RX6 116 "EchoRowModel" "targets" "I", Cond.fieldLink RX6 27 "EchoRowModel" "kind" "[I", Cond.fieldLink RX6 30 "EchoRowModel" "fromX" "[I", Cond.fieldLink RX6 33 "EchoRowModel" "toX" "[I", Cond.fieldLink RX6 36 "EchoRowModel" "depth" "[I", Cond.fieldLink RX6 39 "EchoRowModel" "strength" "[I", Cond.methodLink RX6 86 yX6_in, Cond.static yX6_in, Cond.initialized RX6, Cond.code yX6_in cX6_in 6 (some .boolean), Cond.methodLink RX6 144 yX6_isPlace, Cond.instanceMethod yX6_isPlace, Cond.selects RX6 yX6_isPlace yX6_isPlace, Cond.code yX6_isPlace cX6_isPlace 3 (some .boolean), Cond.fieldLink RX6 81 "EchoRowModel" "wedge" "I", Cond.methodLink RX6 90 yX6_floor, Cond.instanceMethod yX6_floor, Cond.selects RX6 yX6_floor yX6_floor, Cond.code yX6_floor cX6_floor 1 (some .int)]
def wsX6_target_r2 : List Cond := [Cond.fieldLink RX6 7 "EchoRowModel" "plate" "I"]
def wsX6_target : List Cond := .code yX6_target cX6_target 6 (some .int) :: ((wsX6_target_r1 ++ wsX6_target_r2) ++ wsX60)
def wsX6_drop : List Cond := .code yX6_drop cX6_drop 1 (some .int) :: ([.fieldLink RX6 75 "EchoRowModel" "thrown" "I", .fieldLink RX6 116 "EchoRowModel" "targets" "I"] ++ wsX60)
def wsX6_taken_r1 : List Cond := [Cond.fieldLink RX6 75 "EchoRowModel" "thrown" "I", Cond.fieldLink RX6 116 "EchoRowModel" "targets" "I", Cond.constantLong RX6 142 (2), Cond.constantLong RX6 152 (3), Cond.fieldLink RX6 27 "EchoRowModel" "kind" "[I", Cond.fieldLink RX6 39 "EchoRowModel" "strength" "[I", Cond.fieldLink RX6 30 "EchoRowModel" "fromX" "[I", Cond.fieldLink RX6 33 "EchoRowModel" "toX" "[I", Cond.methodLink RX6 86 yX6_in, Cond.static yX6_in, Cond.initialized RX6, Cond.code yX6_in cX6_in 6 (some .boolean), Cond.methodLink RX6 154 yX6_finds, Cond.instanceMethod yX6_finds, Cond.selects RX6 yX6_finds yX6_finds, Cond.code yX6_finds cX6_finds 2 (some .int), Cond.fieldLink RX6 78 "EchoRowModel" "findings" "I", Cond.methodLink RX6 108 yX6_depthOf, Cond.instanceMethod yX6_depthOf, Cond.selects RX6 yX6_depthOf yX6_depthOf, Cond.code yX6_depthOf cX6_depthOf 2 (some .int), Cond.fieldLink RX6 36 "EchoRowModel" "depth" "[I", Cond.methodLink RX6 90 yX6_floor, Cond.instanceMethod yX6_floor]
def wsX6_taken_r2 : List Cond := [Cond.selects RX6 yX6_floor yX6_floor, Cond.code yX6_floor cX6_floor 1 (some .int), Cond.fieldLink RX6 81 "EchoRowModel" "wedge" "I", Cond.fieldLink RX6 7 "EchoRowModel" "plate" "I"]
def wsX6_taken : List Cond := .code yX6_taken cX6_taken 4 (some .int) :: ((wsX6_taken_r1 ++ wsX6_taken_r2) ++ wsX60)
def wsX6_time_r1 : List Cond := [Cond.fieldLink RX6 75 "EchoRowModel" "thrown" "I", Cond.methodLink RX6 135 yX6_noElement, Cond.instanceMethod yX6_noElement, Cond.selects RX6 yX6_noElement yX6_noElement, Cond.initialized RX6, Cond.code yX6_noElement cX6_noElement 2 (some .boolean), Cond.fieldLink RX6 94 "EchoRowModel" "elements" "I", Cond.methodLink RX6 86 yX6_in, Cond.static yX6_in, Cond.code yX6_in cX6_in 6 (some .boolean), Cond.methodLink RX6 144 yX6_isPlace, Cond.instanceMethod yX6_isPlace, Cond.selects RX6 yX6_isPlace yX6_isPlace, Cond.code yX6_isPlace cX6_isPlace 3 (some .boolean), Cond.constantLong RX6 84 (50), Cond.fieldLink RX6 81 "EchoRowModel" "wedge" "I", Cond.methodLink RX6 90 yX6_floor, Cond.instanceMethod yX6_floor, Cond.selects RX6 yX6_floor yX6_floor, Cond.code yX6_floor cX6_floor 1 (some .int), Cond.fieldLink RX6 7 "EchoRowModel" "plate" "I", Cond.methodLink RX6 105 yX6_timeOf, Cond.instanceMethod yX6_timeOf, Cond.selects RX6 yX6_timeOf yX6_timeOf]
def wsX6_time_r2 : List Cond := [Cond.code yX6_timeOf cX6_timeOf 4 (some .int), Cond.fieldLink RX6 42 "EchoRowModel" "time" "[I", Cond.methodLink RX6 101 yX6_make, Cond.instanceMethod yX6_make, Cond.selects RX6 yX6_make yX6_make, Cond.code yX6_make cX6_make 7 none, Cond.fieldLink RX6 48 "EchoRowModel" "isMade" "[Z", Cond.fieldLink RX6 13 "EchoRowModel" "slowWedge" "I", Cond.fieldLink RX6 19 "EchoRowModel" "at" "[I", Cond.fieldLink RX6 16 "EchoRowModel" "slow" "I", Cond.fieldLink RX6 45 "EchoRowModel" "bend" "[I", Cond.methodLink RX6 97 yX6_ticks, Cond.static yX6_ticks, Cond.code yX6_ticks cX6_ticks 6 (some .int)]
def wsX6_time : List Cond := .code yX6_time cX6_time 4 (some .int) :: ((wsX6_time_r1 ++ wsX6_time_r2) ++ wsX60)
def wsX6_bend_r1 : List Cond := [Cond.fieldLink RX6 75 "EchoRowModel" "thrown" "I", Cond.fieldLink RX6 45 "EchoRowModel" "bend" "[I", Cond.methodLink RX6 135 yX6_noElement, Cond.instanceMethod yX6_noElement, Cond.selects RX6 yX6_noElement yX6_noElement, Cond.initialized RX6, Cond.code yX6_noElement cX6_noElement 2 (some .boolean), Cond.fieldLink RX6 94 "EchoRowModel" "elements" "I", Cond.methodLink RX6 86 yX6_in, Cond.static yX6_in, Cond.code yX6_in cX6_in 6 (some .boolean), Cond.methodLink RX6 144 yX6_isPlace, Cond.instanceMethod yX6_isPlace, Cond.selects RX6 yX6_isPlace yX6_isPlace, Cond.code yX6_isPlace cX6_isPlace 3 (some .boolean), Cond.constantLong RX6 84 (50), Cond.fieldLink RX6 81 "EchoRowModel" "wedge" "I", Cond.methodLink RX6 90 yX6_floor, Cond.instanceMethod yX6_floor, Cond.selects RX6 yX6_floor yX6_floor, Cond.code yX6_floor cX6_floor 1 (some .int), Cond.fieldLink RX6 7 "EchoRowModel" "plate" "I", Cond.methodLink RX6 101 yX6_make, Cond.instanceMethod yX6_make]
def wsX6_bend_r2 : List Cond := [Cond.selects RX6 yX6_make yX6_make, Cond.code yX6_make cX6_make 7 none, Cond.fieldLink RX6 48 "EchoRowModel" "isMade" "[Z", Cond.fieldLink RX6 13 "EchoRowModel" "slowWedge" "I", Cond.fieldLink RX6 19 "EchoRowModel" "at" "[I", Cond.fieldLink RX6 16 "EchoRowModel" "slow" "I", Cond.fieldLink RX6 42 "EchoRowModel" "time" "[I", Cond.methodLink RX6 97 yX6_ticks, Cond.static yX6_ticks, Cond.code yX6_ticks cX6_ticks 6 (some .int)]
def wsX6_bend : List Cond := .code yX6_bend cX6_bend 4 (some .int) :: ((wsX6_bend_r1 ++ wsX6_bend_r2) ++ wsX60)
def wsX6_echoTime_r1 : List Cond := [Cond.fieldLink RX6 75 "EchoRowModel" "thrown" "I", Cond.fieldLink RX6 116 "EchoRowModel" "targets" "I", Cond.methodLink RX6 135 yX6_noElement, Cond.instanceMethod yX6_noElement, Cond.selects RX6 yX6_noElement yX6_noElement, Cond.initialized RX6, Cond.code yX6_noElement cX6_noElement 2 (some .boolean), Cond.fieldLink RX6 94 "EchoRowModel" "elements" "I", Cond.methodLink RX6 86 yX6_in, Cond.static yX6_in, Cond.code yX6_in cX6_in 6 (some .boolean), Cond.methodLink RX6 119 yX6_echoOf, Cond.instanceMethod yX6_echoOf, Cond.selects RX6 yX6_echoOf yX6_echoOf, Cond.code yX6_echoOf cX6_echoOf 4 (some .int), Cond.fieldLink RX6 30 "EchoRowModel" "fromX" "[I", Cond.fieldLink RX6 33 "EchoRowModel" "toX" "[I", Cond.methodLink RX6 108 yX6_depthOf, Cond.instanceMethod yX6_depthOf, Cond.selects RX6 yX6_depthOf yX6_depthOf, Cond.code yX6_depthOf cX6_depthOf 2 (some .int), Cond.fieldLink RX6 27 "EchoRowModel" "kind" "[I", Cond.fieldLink RX6 36 "EchoRowModel" "depth" "[I", Cond.methodLink RX6 90 yX6_floor]
def wsX6_echoTime_r2 : List Cond := [Cond.instanceMethod yX6_floor, Cond.selects RX6 yX6_floor yX6_floor, Cond.code yX6_floor cX6_floor 1 (some .int), Cond.fieldLink RX6 81 "EchoRowModel" "wedge" "I", Cond.fieldLink RX6 7 "EchoRowModel" "plate" "I", Cond.methodLink RX6 112 yX6_least, Cond.instanceMethod yX6_least, Cond.selects RX6 yX6_least yX6_least, Cond.code yX6_least cX6_least 9 (some .int), Cond.methodLink RX6 105 yX6_timeOf, Cond.instanceMethod yX6_timeOf, Cond.selects RX6 yX6_timeOf yX6_timeOf, Cond.code yX6_timeOf cX6_timeOf 4 (some .int), Cond.fieldLink RX6 42 "EchoRowModel" "time" "[I", Cond.methodLink RX6 101 yX6_make, Cond.instanceMethod yX6_make, Cond.selects RX6 yX6_make yX6_make, Cond.code yX6_make cX6_make 7 none, Cond.fieldLink RX6 48 "EchoRowModel" "isMade" "[Z", Cond.fieldLink RX6 13 "EchoRowModel" "slowWedge" "I", Cond.fieldLink RX6 19 "EchoRowModel" "at" "[I", Cond.fieldLink RX6 16 "EchoRowModel" "slow" "I", Cond.fieldLink RX6 45 "EchoRowModel" "bend" "[I", Cond.methodLink RX6 97 yX6_ticks]
def wsX6_echoTime_r3 : List Cond := [Cond.static yX6_ticks, Cond.code yX6_ticks cX6_ticks 6 (some .int)]
def wsX6_echoTime : List Cond := .code yX6_echoTime cX6_echoTime 4 (some .int) :: ((wsX6_echoTime_r1 ++ (wsX6_echoTime_r2 ++ wsX6_echoTime_r3)) ++ wsX60)
def wsX6_slowness_r1 : List Cond := [Cond.fieldLink RX6 75 "EchoRowModel" "thrown" "I", Cond.fieldLink RX6 16 "EchoRowModel" "slow" "I", Cond.methodLink RX6 135 yX6_noElement, Cond.instanceMethod yX6_noElement, Cond.selects RX6 yX6_noElement yX6_noElement, Cond.initialized RX6, Cond.code yX6_noElement cX6_noElement 2 (some .boolean), Cond.fieldLink RX6 94 "EchoRowModel" "elements" "I", Cond.methodLink RX6 86 yX6_in, Cond.static yX6_in, Cond.code yX6_in cX6_in 6 (some .boolean), Cond.methodLink RX6 132 yX6_unmake, Cond.instanceMethod yX6_unmake, Cond.selects RX6 yX6_unmake yX6_unmake, Cond.code yX6_unmake cX6_unmake 2 none, Cond.fieldLink RX6 48 "EchoRowModel" "isMade" "[Z", Cond.methodLink RX6 90 yX6_floor, Cond.instanceMethod yX6_floor, Cond.selects RX6 yX6_floor yX6_floor, Cond.code yX6_floor cX6_floor 1 (some .int), Cond.fieldLink RX6 81 "EchoRowModel" "wedge" "I", Cond.fieldLink RX6 7 "EchoRowModel" "plate" "I", Cond.methodLink RX6 112 yX6_least, Cond.instanceMethod yX6_least]
def wsX6_slowness_r2 : List Cond := [Cond.selects RX6 yX6_least yX6_least, Cond.code yX6_least cX6_least 9 (some .int), Cond.methodLink RX6 105 yX6_timeOf, Cond.instanceMethod yX6_timeOf, Cond.selects RX6 yX6_timeOf yX6_timeOf, Cond.code yX6_timeOf cX6_timeOf 4 (some .int), Cond.fieldLink RX6 42 "EchoRowModel" "time" "[I", Cond.methodLink RX6 101 yX6_make, Cond.instanceMethod yX6_make, Cond.selects RX6 yX6_make yX6_make, Cond.code yX6_make cX6_make 7 none, Cond.fieldLink RX6 13 "EchoRowModel" "slowWedge" "I", Cond.fieldLink RX6 19 "EchoRowModel" "at" "[I", Cond.fieldLink RX6 45 "EchoRowModel" "bend" "[I", Cond.methodLink RX6 97 yX6_ticks, Cond.static yX6_ticks, Cond.code yX6_ticks cX6_ticks 6 (some .int)]
def wsX6_slowness : List Cond := .code yX6_slowness cX6_slowness 11 (some .int) :: ((wsX6_slowness_r1 ++ wsX6_slowness_r2) ++ wsX60)
def wsX6_echo_r1 : List Cond := [Cond.fieldLink RX6 75 "EchoRowModel" "thrown" "I", Cond.methodLink RX6 135 yX6_noElement, Cond.instanceMethod yX6_noElement, Cond.selects RX6 yX6_noElement yX6_noElement, Cond.initialized RX6, Cond.code yX6_noElement cX6_noElement 2 (some .boolean), Cond.fieldLink RX6 94 "EchoRowModel" "elements" "I", Cond.methodLink RX6 86 yX6_in, Cond.static yX6_in, Cond.code yX6_in cX6_in 6 (some .boolean), Cond.methodLink RX6 157 yX6_echoAt, Cond.instanceMethod yX6_echoAt, Cond.selects RX6 yX6_echoAt yX6_echoAt, Cond.code yX6_echoAt cX6_echoAt 7 (some .int), Cond.fieldLink RX6 116 "EchoRowModel" "targets" "I", Cond.fieldLink RX6 23 "EchoRowModel" "isLost" "[Z", Cond.fieldLink RX6 39 "EchoRowModel" "strength" "[I", Cond.methodLink RX6 119 yX6_echoOf, Cond.instanceMethod yX6_echoOf, Cond.selects RX6 yX6_echoOf yX6_echoOf, Cond.code yX6_echoOf cX6_echoOf 4 (some .int), Cond.fieldLink RX6 30 "EchoRowModel" "fromX" "[I", Cond.fieldLink RX6 33 "EchoRowModel" "toX" "[I", Cond.methodLink RX6 108 yX6_depthOf]
def wsX6_echo_r2 : List Cond := [Cond.instanceMethod yX6_depthOf, Cond.selects RX6 yX6_depthOf yX6_depthOf, Cond.code yX6_depthOf cX6_depthOf 2 (some .int), Cond.fieldLink RX6 27 "EchoRowModel" "kind" "[I", Cond.fieldLink RX6 36 "EchoRowModel" "depth" "[I", Cond.methodLink RX6 90 yX6_floor, Cond.instanceMethod yX6_floor, Cond.selects RX6 yX6_floor yX6_floor, Cond.code yX6_floor cX6_floor 1 (some .int), Cond.fieldLink RX6 81 "EchoRowModel" "wedge" "I", Cond.fieldLink RX6 7 "EchoRowModel" "plate" "I", Cond.methodLink RX6 112 yX6_least, Cond.instanceMethod yX6_least, Cond.selects RX6 yX6_least yX6_least, Cond.code yX6_least cX6_least 9 (some .int), Cond.methodLink RX6 105 yX6_timeOf, Cond.instanceMethod yX6_timeOf, Cond.selects RX6 yX6_timeOf yX6_timeOf, Cond.code yX6_timeOf cX6_timeOf 4 (some .int), Cond.fieldLink RX6 42 "EchoRowModel" "time" "[I", Cond.methodLink RX6 101 yX6_make, Cond.instanceMethod yX6_make, Cond.selects RX6 yX6_make yX6_make, Cond.code yX6_make cX6_make 7 none]
def wsX6_echo_r3 : List Cond := [Cond.fieldLink RX6 48 "EchoRowModel" "isMade" "[Z", Cond.fieldLink RX6 13 "EchoRowModel" "slowWedge" "I", Cond.fieldLink RX6 19 "EchoRowModel" "at" "[I", Cond.fieldLink RX6 16 "EchoRowModel" "slow" "I", Cond.fieldLink RX6 45 "EchoRowModel" "bend" "[I", Cond.methodLink RX6 97 yX6_ticks, Cond.static yX6_ticks, Cond.code yX6_ticks cX6_ticks 6 (some .int)]
def wsX6_echo : List Cond := .code yX6_echo cX6_echo 4 (some .int) :: ((wsX6_echo_r1 ++ (wsX6_echo_r2 ++ wsX6_echo_r3)) ++ wsX60)
def wsX6_gate_r1 : List Cond := [Cond.fieldLink RX6 75 "EchoRowModel" "thrown" "I", Cond.constant RX6 161 (-99999), Cond.fieldLink RX6 116 "EchoRowModel" "targets" "I", Cond.methodLink RX6 135 yX6_noElement, Cond.instanceMethod yX6_noElement, Cond.selects RX6 yX6_noElement yX6_noElement, Cond.initialized RX6, Cond.code yX6_noElement cX6_noElement 2 (some .boolean), Cond.fieldLink RX6 94 "EchoRowModel" "elements" "I", Cond.methodLink RX6 86 yX6_in, Cond.static yX6_in, Cond.code yX6_in cX6_in 6 (some .boolean), Cond.methodLink RX6 119 yX6_echoOf, Cond.instanceMethod yX6_echoOf, Cond.selects RX6 yX6_echoOf yX6_echoOf, Cond.code yX6_echoOf cX6_echoOf 4 (some .int), Cond.fieldLink RX6 30 "EchoRowModel" "fromX" "[I", Cond.fieldLink RX6 33 "EchoRowModel" "toX" "[I", Cond.methodLink RX6 108 yX6_depthOf, Cond.instanceMethod yX6_depthOf, Cond.selects RX6 yX6_depthOf yX6_depthOf, Cond.code yX6_depthOf cX6_depthOf 2 (some .int), Cond.fieldLink RX6 27 "EchoRowModel" "kind" "[I", Cond.fieldLink RX6 36 "EchoRowModel" "depth" "[I"]
def wsX6_gate_r2 : List Cond := [Cond.methodLink RX6 90 yX6_floor, Cond.instanceMethod yX6_floor, Cond.selects RX6 yX6_floor yX6_floor, Cond.code yX6_floor cX6_floor 1 (some .int), Cond.fieldLink RX6 81 "EchoRowModel" "wedge" "I", Cond.fieldLink RX6 7 "EchoRowModel" "plate" "I", Cond.methodLink RX6 112 yX6_least, Cond.instanceMethod yX6_least, Cond.selects RX6 yX6_least yX6_least, Cond.code yX6_least cX6_least 9 (some .int), Cond.methodLink RX6 105 yX6_timeOf, Cond.instanceMethod yX6_timeOf, Cond.selects RX6 yX6_timeOf yX6_timeOf, Cond.code yX6_timeOf cX6_timeOf 4 (some .int), Cond.fieldLink RX6 42 "EchoRowModel" "time" "[I", Cond.methodLink RX6 101 yX6_make, Cond.instanceMethod yX6_make, Cond.selects RX6 yX6_make yX6_make, Cond.code yX6_make cX6_make 7 none, Cond.fieldLink RX6 48 "EchoRowModel" "isMade" "[Z", Cond.fieldLink RX6 13 "EchoRowModel" "slowWedge" "I", Cond.fieldLink RX6 19 "EchoRowModel" "at" "[I", Cond.fieldLink RX6 16 "EchoRowModel" "slow" "I", Cond.fieldLink RX6 45 "EchoRowModel" "bend" "[I"]
def wsX6_gate_r3 : List Cond := [Cond.methodLink RX6 97 yX6_ticks, Cond.static yX6_ticks, Cond.code yX6_ticks cX6_ticks 6 (some .int), Cond.methodLink RX6 157 yX6_echoAt, Cond.instanceMethod yX6_echoAt, Cond.selects RX6 yX6_echoAt yX6_echoAt, Cond.code yX6_echoAt cX6_echoAt 7 (some .int), Cond.fieldLink RX6 23 "EchoRowModel" "isLost" "[Z", Cond.fieldLink RX6 39 "EchoRowModel" "strength" "[I"]
def wsX6_gate : List Cond := .code yX6_gate cX6_gate 11 (some .int) :: ((wsX6_gate_r1 ++ (wsX6_gate_r2 ++ wsX6_gate_r3)) ++ wsX60)
def wsX6_focus_r1 : List Cond := [Cond.fieldLink RX6 75 "EchoRowModel" "thrown" "I", Cond.fieldLink RX6 94 "EchoRowModel" "elements" "I", Cond.fieldLink RX6 23 "EchoRowModel" "isLost" "[Z", Cond.fieldLink RX6 51 "EchoRowModel" "delay" "[I", Cond.fieldLink RX6 128 "EchoRowModel" "hasFocus" "Z", Cond.methodLink RX6 144 yX6_isPlace, Cond.instanceMethod yX6_isPlace, Cond.selects RX6 yX6_isPlace yX6_isPlace, Cond.initialized RX6, Cond.code yX6_isPlace cX6_isPlace 3 (some .boolean), Cond.constantLong RX6 84 (50), Cond.fieldLink RX6 81 "EchoRowModel" "wedge" "I", Cond.methodLink RX6 86 yX6_in, Cond.static yX6_in, Cond.code yX6_in cX6_in 6 (some .boolean), Cond.methodLink RX6 90 yX6_floor, Cond.instanceMethod yX6_floor, Cond.selects RX6 yX6_floor yX6_floor, Cond.code yX6_floor cX6_floor 1 (some .int), Cond.fieldLink RX6 7 "EchoRowModel" "plate" "I", Cond.methodLink RX6 139 yX6_working, Cond.instanceMethod yX6_working, Cond.selects RX6 yX6_working yX6_working, Cond.code yX6_working cX6_working 3 (some .int)]
def wsX6_focus_r2 : List Cond := [Cond.methodLink RX6 105 yX6_timeOf, Cond.instanceMethod yX6_timeOf, Cond.selects RX6 yX6_timeOf yX6_timeOf, Cond.code yX6_timeOf cX6_timeOf 4 (some .int), Cond.fieldLink RX6 42 "EchoRowModel" "time" "[I", Cond.methodLink RX6 101 yX6_make, Cond.instanceMethod yX6_make, Cond.selects RX6 yX6_make yX6_make, Cond.code yX6_make cX6_make 7 none, Cond.fieldLink RX6 48 "EchoRowModel" "isMade" "[Z", Cond.fieldLink RX6 13 "EchoRowModel" "slowWedge" "I", Cond.fieldLink RX6 19 "EchoRowModel" "at" "[I", Cond.fieldLink RX6 16 "EchoRowModel" "slow" "I", Cond.fieldLink RX6 45 "EchoRowModel" "bend" "[I", Cond.methodLink RX6 97 yX6_ticks, Cond.static yX6_ticks, Cond.code yX6_ticks cX6_ticks 6 (some .int)]
def wsX6_focus : List Cond := .code yX6_focus cX6_focus 5 (some .int) :: ((wsX6_focus_r1 ++ wsX6_focus_r2) ++ wsX60)
def wsX6_delay : List Cond := .code yX6_delay cX6_delay 2 (some .int) :: ([.fieldLink RX6 75 "EchoRowModel" "thrown" "I", .fieldLink RX6 128 "EchoRowModel" "hasFocus" "Z", .fieldLink RX6 23 "EchoRowModel" "isLost" "[Z", .constant RX6 161 (-99999), .fieldLink RX6 51 "EchoRowModel" "delay" "[I", .methodLink RX6 135 yX6_noElement, .instanceMethod yX6_noElement, .selects RX6 yX6_noElement yX6_noElement, .initialized RX6, .code yX6_noElement cX6_noElement 2 (some .boolean), .fieldLink RX6 94 "EchoRowModel" "elements" "I", .methodLink RX6 86 yX6_in, .static yX6_in, .code yX6_in cX6_in 6 (some .boolean)] ++ wsX60)
def wsX6_heardAt_r1 : List Cond := [Cond.fieldLink RX6 94 "EchoRowModel" "elements" "I", Cond.fieldLink RX6 23 "EchoRowModel" "isLost" "[Z", Cond.fieldLink RX6 51 "EchoRowModel" "delay" "[I", Cond.methodLink RX6 157 yX6_echoAt, Cond.instanceMethod yX6_echoAt, Cond.selects RX6 yX6_echoAt yX6_echoAt, Cond.initialized RX6, Cond.code yX6_echoAt cX6_echoAt 7 (some .int), Cond.fieldLink RX6 116 "EchoRowModel" "targets" "I", Cond.fieldLink RX6 39 "EchoRowModel" "strength" "[I", Cond.methodLink RX6 119 yX6_echoOf, Cond.instanceMethod yX6_echoOf, Cond.selects RX6 yX6_echoOf yX6_echoOf, Cond.code yX6_echoOf cX6_echoOf 4 (some .int), Cond.fieldLink RX6 30 "EchoRowModel" "fromX" "[I", Cond.fieldLink RX6 33 "EchoRowModel" "toX" "[I", Cond.methodLink RX6 108 yX6_depthOf, Cond.instanceMethod yX6_depthOf, Cond.selects RX6 yX6_depthOf yX6_depthOf, Cond.code yX6_depthOf cX6_depthOf 2 (some .int), Cond.fieldLink RX6 27 "EchoRowModel" "kind" "[I", Cond.fieldLink RX6 36 "EchoRowModel" "depth" "[I", Cond.methodLink RX6 90 yX6_floor, Cond.instanceMethod yX6_floor]
def wsX6_heardAt_r2 : List Cond := [Cond.selects RX6 yX6_floor yX6_floor, Cond.code yX6_floor cX6_floor 1 (some .int), Cond.fieldLink RX6 81 "EchoRowModel" "wedge" "I", Cond.fieldLink RX6 7 "EchoRowModel" "plate" "I", Cond.methodLink RX6 112 yX6_least, Cond.instanceMethod yX6_least, Cond.selects RX6 yX6_least yX6_least, Cond.code yX6_least cX6_least 9 (some .int), Cond.methodLink RX6 105 yX6_timeOf, Cond.instanceMethod yX6_timeOf, Cond.selects RX6 yX6_timeOf yX6_timeOf, Cond.code yX6_timeOf cX6_timeOf 4 (some .int), Cond.fieldLink RX6 42 "EchoRowModel" "time" "[I", Cond.methodLink RX6 101 yX6_make, Cond.instanceMethod yX6_make, Cond.selects RX6 yX6_make yX6_make, Cond.code yX6_make cX6_make 7 none, Cond.fieldLink RX6 48 "EchoRowModel" "isMade" "[Z", Cond.fieldLink RX6 13 "EchoRowModel" "slowWedge" "I", Cond.fieldLink RX6 19 "EchoRowModel" "at" "[I", Cond.fieldLink RX6 16 "EchoRowModel" "slow" "I", Cond.fieldLink RX6 45 "EchoRowModel" "bend" "[I", Cond.methodLink RX6 97 yX6_ticks, Cond.static yX6_ticks]
def wsX6_heardAt_r3 : List Cond := [Cond.code yX6_ticks cX6_ticks 6 (some .int)]
def wsX6_heardAt : List Cond := .code yX6_heardAt cX6_heardAt 6 (some .int) :: ((wsX6_heardAt_r1 ++ (wsX6_heardAt_r2 ++ wsX6_heardAt_r3)) ++ wsX60)
def wsX6_heard_r1 : List Cond := [Cond.fieldLink RX6 75 "EchoRowModel" "thrown" "I", Cond.fieldLink RX6 128 "EchoRowModel" "hasFocus" "Z", Cond.methodLink RX6 135 yX6_noElement, Cond.instanceMethod yX6_noElement, Cond.selects RX6 yX6_noElement yX6_noElement, Cond.initialized RX6, Cond.code yX6_noElement cX6_noElement 2 (some .boolean), Cond.fieldLink RX6 94 "EchoRowModel" "elements" "I", Cond.methodLink RX6 86 yX6_in, Cond.static yX6_in, Cond.code yX6_in cX6_in 6 (some .boolean), Cond.methodLink RX6 162 yX6_heardAt, Cond.instanceMethod yX6_heardAt, Cond.selects RX6 yX6_heardAt yX6_heardAt, Cond.code yX6_heardAt cX6_heardAt 6 (some .int), Cond.fieldLink RX6 23 "EchoRowModel" "isLost" "[Z", Cond.fieldLink RX6 51 "EchoRowModel" "delay" "[I", Cond.methodLink RX6 157 yX6_echoAt, Cond.instanceMethod yX6_echoAt, Cond.selects RX6 yX6_echoAt yX6_echoAt, Cond.code yX6_echoAt cX6_echoAt 7 (some .int), Cond.fieldLink RX6 116 "EchoRowModel" "targets" "I", Cond.fieldLink RX6 39 "EchoRowModel" "strength" "[I", Cond.methodLink RX6 119 yX6_echoOf]
def wsX6_heard_r2 : List Cond := [Cond.instanceMethod yX6_echoOf, Cond.selects RX6 yX6_echoOf yX6_echoOf, Cond.code yX6_echoOf cX6_echoOf 4 (some .int), Cond.fieldLink RX6 30 "EchoRowModel" "fromX" "[I", Cond.fieldLink RX6 33 "EchoRowModel" "toX" "[I", Cond.methodLink RX6 108 yX6_depthOf, Cond.instanceMethod yX6_depthOf, Cond.selects RX6 yX6_depthOf yX6_depthOf, Cond.code yX6_depthOf cX6_depthOf 2 (some .int), Cond.fieldLink RX6 27 "EchoRowModel" "kind" "[I", Cond.fieldLink RX6 36 "EchoRowModel" "depth" "[I", Cond.methodLink RX6 90 yX6_floor, Cond.instanceMethod yX6_floor, Cond.selects RX6 yX6_floor yX6_floor, Cond.code yX6_floor cX6_floor 1 (some .int), Cond.fieldLink RX6 81 "EchoRowModel" "wedge" "I", Cond.fieldLink RX6 7 "EchoRowModel" "plate" "I", Cond.methodLink RX6 112 yX6_least, Cond.instanceMethod yX6_least, Cond.selects RX6 yX6_least yX6_least, Cond.code yX6_least cX6_least 9 (some .int), Cond.methodLink RX6 105 yX6_timeOf, Cond.instanceMethod yX6_timeOf, Cond.selects RX6 yX6_timeOf yX6_timeOf]
def wsX6_heard_r3 : List Cond := [Cond.code yX6_timeOf cX6_timeOf 4 (some .int), Cond.fieldLink RX6 42 "EchoRowModel" "time" "[I", Cond.methodLink RX6 101 yX6_make, Cond.instanceMethod yX6_make, Cond.selects RX6 yX6_make yX6_make, Cond.code yX6_make cX6_make 7 none, Cond.fieldLink RX6 48 "EchoRowModel" "isMade" "[Z", Cond.fieldLink RX6 13 "EchoRowModel" "slowWedge" "I", Cond.fieldLink RX6 19 "EchoRowModel" "at" "[I", Cond.fieldLink RX6 16 "EchoRowModel" "slow" "I", Cond.fieldLink RX6 45 "EchoRowModel" "bend" "[I", Cond.methodLink RX6 97 yX6_ticks, Cond.static yX6_ticks, Cond.code yX6_ticks cX6_ticks 6 (some .int)]
def wsX6_heard : List Cond := .code yX6_heard cX6_heard 3 (some .int) :: ((wsX6_heard_r1 ++ (wsX6_heard_r2 ++ wsX6_heard_r3)) ++ wsX60)
def wsX6_sum_r1 : List Cond := [Cond.fieldLink RX6 75 "EchoRowModel" "thrown" "I", Cond.fieldLink RX6 128 "EchoRowModel" "hasFocus" "Z", Cond.fieldLink RX6 94 "EchoRowModel" "elements" "I", Cond.fieldLink RX6 23 "EchoRowModel" "isLost" "[Z", Cond.fieldLink RX6 51 "EchoRowModel" "delay" "[I", Cond.methodLink RX6 162 yX6_heardAt, Cond.instanceMethod yX6_heardAt, Cond.selects RX6 yX6_heardAt yX6_heardAt, Cond.initialized RX6, Cond.code yX6_heardAt cX6_heardAt 6 (some .int), Cond.methodLink RX6 157 yX6_echoAt, Cond.instanceMethod yX6_echoAt, Cond.selects RX6 yX6_echoAt yX6_echoAt, Cond.code yX6_echoAt cX6_echoAt 7 (some .int), Cond.fieldLink RX6 116 "EchoRowModel" "targets" "I", Cond.fieldLink RX6 39 "EchoRowModel" "strength" "[I", Cond.methodLink RX6 119 yX6_echoOf, Cond.instanceMethod yX6_echoOf, Cond.selects RX6 yX6_echoOf yX6_echoOf, Cond.code yX6_echoOf cX6_echoOf 4 (some .int), Cond.fieldLink RX6 30 "EchoRowModel" "fromX" "[I", Cond.fieldLink RX6 33 "EchoRowModel" "toX" "[I", Cond.methodLink RX6 108 yX6_depthOf, Cond.instanceMethod yX6_depthOf]
def wsX6_sum_r2 : List Cond := [Cond.selects RX6 yX6_depthOf yX6_depthOf, Cond.code yX6_depthOf cX6_depthOf 2 (some .int), Cond.fieldLink RX6 27 "EchoRowModel" "kind" "[I", Cond.fieldLink RX6 36 "EchoRowModel" "depth" "[I", Cond.methodLink RX6 90 yX6_floor, Cond.instanceMethod yX6_floor, Cond.selects RX6 yX6_floor yX6_floor, Cond.code yX6_floor cX6_floor 1 (some .int), Cond.fieldLink RX6 81 "EchoRowModel" "wedge" "I", Cond.fieldLink RX6 7 "EchoRowModel" "plate" "I", Cond.methodLink RX6 112 yX6_least, Cond.instanceMethod yX6_least, Cond.selects RX6 yX6_least yX6_least, Cond.code yX6_least cX6_least 9 (some .int), Cond.methodLink RX6 105 yX6_timeOf, Cond.instanceMethod yX6_timeOf, Cond.selects RX6 yX6_timeOf yX6_timeOf, Cond.code yX6_timeOf cX6_timeOf 4 (some .int), Cond.fieldLink RX6 42 "EchoRowModel" "time" "[I", Cond.methodLink RX6 101 yX6_make, Cond.instanceMethod yX6_make, Cond.selects RX6 yX6_make yX6_make, Cond.code yX6_make cX6_make 7 none, Cond.fieldLink RX6 48 "EchoRowModel" "isMade" "[Z"]
def wsX6_sum_r3 : List Cond := [Cond.fieldLink RX6 13 "EchoRowModel" "slowWedge" "I", Cond.fieldLink RX6 19 "EchoRowModel" "at" "[I", Cond.fieldLink RX6 16 "EchoRowModel" "slow" "I", Cond.fieldLink RX6 45 "EchoRowModel" "bend" "[I", Cond.methodLink RX6 97 yX6_ticks, Cond.static yX6_ticks, Cond.code yX6_ticks cX6_ticks 6 (some .int)]
def wsX6_sum : List Cond := .code yX6_sum cX6_sum 4 (some .int) :: ((wsX6_sum_r1 ++ (wsX6_sum_r2 ++ wsX6_sum_r3)) ++ wsX60)
def wsX6_board_r1 : List Cond := [Cond.fieldLink RX6 75 "EchoRowModel" "thrown" "I", Cond.fieldLink RX6 94 "EchoRowModel" "elements" "I", Cond.methodLink RX6 144 yX6_isPlace, Cond.instanceMethod yX6_isPlace, Cond.selects RX6 yX6_isPlace yX6_isPlace, Cond.initialized RX6, Cond.code yX6_isPlace cX6_isPlace 3 (some .boolean), Cond.constantLong RX6 84 (50), Cond.fieldLink RX6 81 "EchoRowModel" "wedge" "I", Cond.methodLink RX6 86 yX6_in, Cond.static yX6_in, Cond.code yX6_in cX6_in 6 (some .boolean), Cond.methodLink RX6 90 yX6_floor, Cond.instanceMethod yX6_floor, Cond.selects RX6 yX6_floor yX6_floor, Cond.code yX6_floor cX6_floor 1 (some .int), Cond.fieldLink RX6 7 "EchoRowModel" "plate" "I", Cond.methodLink RX6 105 yX6_timeOf, Cond.instanceMethod yX6_timeOf, Cond.selects RX6 yX6_timeOf yX6_timeOf, Cond.code yX6_timeOf cX6_timeOf 4 (some .int), Cond.fieldLink RX6 42 "EchoRowModel" "time" "[I", Cond.methodLink RX6 101 yX6_make, Cond.instanceMethod yX6_make]
def wsX6_board_r2 : List Cond := [Cond.selects RX6 yX6_make yX6_make, Cond.code yX6_make cX6_make 7 none, Cond.fieldLink RX6 48 "EchoRowModel" "isMade" "[Z", Cond.fieldLink RX6 13 "EchoRowModel" "slowWedge" "I", Cond.fieldLink RX6 19 "EchoRowModel" "at" "[I", Cond.fieldLink RX6 16 "EchoRowModel" "slow" "I", Cond.fieldLink RX6 45 "EchoRowModel" "bend" "[I", Cond.methodLink RX6 97 yX6_ticks, Cond.static yX6_ticks, Cond.code yX6_ticks cX6_ticks 6 (some .int), Cond.methodLink RX6 157 yX6_echoAt, Cond.instanceMethod yX6_echoAt, Cond.selects RX6 yX6_echoAt yX6_echoAt, Cond.code yX6_echoAt cX6_echoAt 7 (some .int), Cond.fieldLink RX6 116 "EchoRowModel" "targets" "I", Cond.fieldLink RX6 23 "EchoRowModel" "isLost" "[Z", Cond.fieldLink RX6 39 "EchoRowModel" "strength" "[I", Cond.methodLink RX6 119 yX6_echoOf, Cond.instanceMethod yX6_echoOf, Cond.selects RX6 yX6_echoOf yX6_echoOf, Cond.code yX6_echoOf cX6_echoOf 4 (some .int), Cond.fieldLink RX6 30 "EchoRowModel" "fromX" "[I", Cond.fieldLink RX6 33 "EchoRowModel" "toX" "[I", Cond.methodLink RX6 108 yX6_depthOf]
def wsX6_board_r3 : List Cond := [Cond.instanceMethod yX6_depthOf, Cond.selects RX6 yX6_depthOf yX6_depthOf, Cond.code yX6_depthOf cX6_depthOf 2 (some .int), Cond.fieldLink RX6 27 "EchoRowModel" "kind" "[I", Cond.fieldLink RX6 36 "EchoRowModel" "depth" "[I", Cond.methodLink RX6 112 yX6_least, Cond.instanceMethod yX6_least, Cond.selects RX6 yX6_least yX6_least, Cond.code yX6_least cX6_least 9 (some .int)]
def wsX6_board : List Cond := .code yX6_board cX6_board 6 (some .int) :: ((wsX6_board_r1 ++ (wsX6_board_r2 ++ wsX6_board_r3)) ++ wsX60)
def wsX6_tell : List Cond := .code yX6_tell cX6_tell 4 (some .int) :: ([.fieldLink RX6 75 "EchoRowModel" "thrown" "I", .constantLong RX6 166 (4000), .fieldLink RX6 168 "EchoRowModel" "told" "I", .fieldLink RX6 54 "EchoRowModel" "one" "[I", .fieldLink RX6 57 "EchoRowModel" "other" "[I", .fieldLink RX6 60 "EchoRowModel" "when" "[I", .methodLink RX6 135 yX6_noElement, .instanceMethod yX6_noElement, .selects RX6 yX6_noElement yX6_noElement, .initialized RX6, .code yX6_noElement cX6_noElement 2 (some .boolean), .fieldLink RX6 94 "EchoRowModel" "elements" "I", .methodLink RX6 86 yX6_in, .static yX6_in, .code yX6_in cX6_in 6 (some .boolean)] ++ wsX60)
def wsX6_forget : List Cond := .code yX6_forget cX6_forget 2 (some .int) :: ([.fieldLink RX6 75 "EchoRowModel" "thrown" "I", .fieldLink RX6 168 "EchoRowModel" "told" "I"] ++ wsX60)
def wsX6_isNear_r1 : List Cond := [Cond.fieldLink RX6 168 "EchoRowModel" "told" "I", Cond.fieldLink RX6 54 "EchoRowModel" "one" "[I", Cond.fieldLink RX6 57 "EchoRowModel" "other" "[I", Cond.fieldLink RX6 60 "EchoRowModel" "when" "[I", Cond.methodLink RX6 105 yX6_timeOf, Cond.instanceMethod yX6_timeOf, Cond.selects RX6 yX6_timeOf yX6_timeOf, Cond.initialized RX6, Cond.code yX6_timeOf cX6_timeOf 4 (some .int), Cond.fieldLink RX6 42 "EchoRowModel" "time" "[I", Cond.methodLink RX6 101 yX6_make, Cond.instanceMethod yX6_make, Cond.selects RX6 yX6_make yX6_make, Cond.code yX6_make cX6_make 7 none, Cond.fieldLink RX6 48 "EchoRowModel" "isMade" "[Z", Cond.fieldLink RX6 13 "EchoRowModel" "slowWedge" "I", Cond.fieldLink RX6 19 "EchoRowModel" "at" "[I", Cond.fieldLink RX6 81 "EchoRowModel" "wedge" "I", Cond.fieldLink RX6 16 "EchoRowModel" "slow" "I", Cond.fieldLink RX6 45 "EchoRowModel" "bend" "[I", Cond.methodLink RX6 97 yX6_ticks, Cond.static yX6_ticks, Cond.code yX6_ticks cX6_ticks 6 (some .int), Cond.methodLink RX6 86 yX6_in]
def wsX6_isNear_r2 : List Cond := [Cond.static yX6_in, Cond.code yX6_in cX6_in 6 (some .boolean)]
def wsX6_isNear : List Cond := .code yX6_isNear cX6_isNear 6 (some .boolean) :: ((wsX6_isNear_r1 ++ wsX6_isNear_r2) ++ wsX60)
def wsX6_near_r1 : List Cond := [Cond.fieldLink RX6 81 "EchoRowModel" "wedge" "I", Cond.constant RX6 161 (-99999), Cond.methodLink RX6 90 yX6_floor, Cond.instanceMethod yX6_floor, Cond.selects RX6 yX6_floor yX6_floor, Cond.initialized RX6, Cond.code yX6_floor cX6_floor 1 (some .int), Cond.fieldLink RX6 7 "EchoRowModel" "plate" "I", Cond.methodLink RX6 171 yX6_isNear, Cond.instanceMethod yX6_isNear, Cond.selects RX6 yX6_isNear yX6_isNear, Cond.code yX6_isNear cX6_isNear 6 (some .boolean), Cond.fieldLink RX6 168 "EchoRowModel" "told" "I", Cond.fieldLink RX6 54 "EchoRowModel" "one" "[I", Cond.fieldLink RX6 57 "EchoRowModel" "other" "[I", Cond.fieldLink RX6 60 "EchoRowModel" "when" "[I", Cond.methodLink RX6 105 yX6_timeOf, Cond.instanceMethod yX6_timeOf, Cond.selects RX6 yX6_timeOf yX6_timeOf, Cond.code yX6_timeOf cX6_timeOf 4 (some .int), Cond.fieldLink RX6 42 "EchoRowModel" "time" "[I", Cond.methodLink RX6 101 yX6_make, Cond.instanceMethod yX6_make, Cond.selects RX6 yX6_make yX6_make]
def wsX6_near_r2 : List Cond := [Cond.code yX6_make cX6_make 7 none, Cond.fieldLink RX6 48 "EchoRowModel" "isMade" "[Z", Cond.fieldLink RX6 13 "EchoRowModel" "slowWedge" "I", Cond.fieldLink RX6 19 "EchoRowModel" "at" "[I", Cond.fieldLink RX6 16 "EchoRowModel" "slow" "I", Cond.fieldLink RX6 45 "EchoRowModel" "bend" "[I", Cond.methodLink RX6 97 yX6_ticks, Cond.static yX6_ticks, Cond.code yX6_ticks cX6_ticks 6 (some .int), Cond.methodLink RX6 86 yX6_in, Cond.static yX6_in, Cond.code yX6_in cX6_in 6 (some .boolean)]
def wsX6_near : List Cond := .code yX6_near cX6_near 6 (some .int) :: ((wsX6_near_r1 ++ wsX6_near_r2) ++ wsX60)
def wsX6_places_r1 : List Cond := [Cond.fieldLink RX6 75 "EchoRowModel" "thrown" "I", Cond.constantLong RX6 175 (100), Cond.methodLink RX6 86 yX6_in, Cond.static yX6_in, Cond.initialized RX6, Cond.code yX6_in cX6_in 6 (some .boolean), Cond.methodLink RX6 177 yX6_near, Cond.instanceMethod yX6_near, Cond.selects RX6 yX6_near yX6_near, Cond.code yX6_near cX6_near 6 (some .int), Cond.fieldLink RX6 81 "EchoRowModel" "wedge" "I", Cond.constant RX6 161 (-99999), Cond.methodLink RX6 90 yX6_floor, Cond.instanceMethod yX6_floor, Cond.selects RX6 yX6_floor yX6_floor, Cond.code yX6_floor cX6_floor 1 (some .int), Cond.fieldLink RX6 7 "EchoRowModel" "plate" "I", Cond.methodLink RX6 171 yX6_isNear, Cond.instanceMethod yX6_isNear, Cond.selects RX6 yX6_isNear yX6_isNear, Cond.code yX6_isNear cX6_isNear 6 (some .boolean), Cond.fieldLink RX6 168 "EchoRowModel" "told" "I", Cond.fieldLink RX6 54 "EchoRowModel" "one" "[I", Cond.fieldLink RX6 57 "EchoRowModel" "other" "[I"]
def wsX6_places_r2 : List Cond := [Cond.fieldLink RX6 60 "EchoRowModel" "when" "[I", Cond.methodLink RX6 105 yX6_timeOf, Cond.instanceMethod yX6_timeOf, Cond.selects RX6 yX6_timeOf yX6_timeOf, Cond.code yX6_timeOf cX6_timeOf 4 (some .int), Cond.fieldLink RX6 42 "EchoRowModel" "time" "[I", Cond.methodLink RX6 101 yX6_make, Cond.instanceMethod yX6_make, Cond.selects RX6 yX6_make yX6_make, Cond.code yX6_make cX6_make 7 none, Cond.fieldLink RX6 48 "EchoRowModel" "isMade" "[Z", Cond.fieldLink RX6 13 "EchoRowModel" "slowWedge" "I", Cond.fieldLink RX6 19 "EchoRowModel" "at" "[I", Cond.fieldLink RX6 16 "EchoRowModel" "slow" "I", Cond.fieldLink RX6 45 "EchoRowModel" "bend" "[I", Cond.methodLink RX6 97 yX6_ticks, Cond.static yX6_ticks, Cond.code yX6_ticks cX6_ticks 6 (some .int)]
def wsX6_places : List Cond := .code yX6_places cX6_places 2 (some .int) :: ((wsX6_places_r1 ++ wsX6_places_r2) ++ wsX60)
def wsX6_place_r1 : List Cond := [Cond.fieldLink RX6 75 "EchoRowModel" "thrown" "I", Cond.constantLong RX6 175 (100), Cond.constant RX6 161 (-99999), Cond.methodLink RX6 86 yX6_in, Cond.static yX6_in, Cond.initialized RX6, Cond.code yX6_in cX6_in 6 (some .boolean), Cond.methodLink RX6 177 yX6_near, Cond.instanceMethod yX6_near, Cond.selects RX6 yX6_near yX6_near, Cond.code yX6_near cX6_near 6 (some .int), Cond.fieldLink RX6 81 "EchoRowModel" "wedge" "I", Cond.methodLink RX6 90 yX6_floor, Cond.instanceMethod yX6_floor, Cond.selects RX6 yX6_floor yX6_floor, Cond.code yX6_floor cX6_floor 1 (some .int), Cond.fieldLink RX6 7 "EchoRowModel" "plate" "I", Cond.methodLink RX6 171 yX6_isNear, Cond.instanceMethod yX6_isNear, Cond.selects RX6 yX6_isNear yX6_isNear, Cond.code yX6_isNear cX6_isNear 6 (some .boolean), Cond.fieldLink RX6 168 "EchoRowModel" "told" "I", Cond.fieldLink RX6 54 "EchoRowModel" "one" "[I", Cond.fieldLink RX6 57 "EchoRowModel" "other" "[I"]
def wsX6_place_r2 : List Cond := [Cond.fieldLink RX6 60 "EchoRowModel" "when" "[I", Cond.methodLink RX6 105 yX6_timeOf, Cond.instanceMethod yX6_timeOf, Cond.selects RX6 yX6_timeOf yX6_timeOf, Cond.code yX6_timeOf cX6_timeOf 4 (some .int), Cond.fieldLink RX6 42 "EchoRowModel" "time" "[I", Cond.methodLink RX6 101 yX6_make, Cond.instanceMethod yX6_make, Cond.selects RX6 yX6_make yX6_make, Cond.code yX6_make cX6_make 7 none, Cond.fieldLink RX6 48 "EchoRowModel" "isMade" "[Z", Cond.fieldLink RX6 13 "EchoRowModel" "slowWedge" "I", Cond.fieldLink RX6 19 "EchoRowModel" "at" "[I", Cond.fieldLink RX6 16 "EchoRowModel" "slow" "I", Cond.fieldLink RX6 45 "EchoRowModel" "bend" "[I", Cond.methodLink RX6 97 yX6_ticks, Cond.static yX6_ticks, Cond.code yX6_ticks cX6_ticks 6 (some .int)]
def wsX6_place : List Cond := .code yX6_place cX6_place 3 (some .int) :: ((wsX6_place_r1 ++ wsX6_place_r2) ++ wsX60)
def wsX6_isSheet : List Cond := .code yX6_isSheet cX6_isSheet 1 (some .boolean) :: ([.constantLong RX6 181 (5), .methodLink RX6 86 yX6_in, .static yX6_in, .initialized RX6, .code yX6_in cX6_in 6 (some .boolean)])
def wsX6_as : List Cond := .code yX6_as cX6_as 5 (some .int) :: ([.constantLong RX6 183 (127), .constantLong RX6 185 (32767), .constantLong RX6 187 (2147483647)])
def wsX6_sheet : List Cond := .code yX6_sheet cX6_sheet 5 (some .int) :: ([.fieldLink RX6 75 "EchoRowModel" "thrown" "I", .constantLong RX6 142 (2), .fieldLink RX6 63 "EchoRowModel" "length" "[I", .fieldLink RX6 66 "EchoRowModel" "lane" "[I", .fieldLink RX6 69 "EchoRowModel" "number" "[I", .methodLink RX6 189 yX6_isSheet, .static yX6_isSheet, .initialized RX6, .code yX6_isSheet cX6_isSheet 1 (some .boolean), .constantLong RX6 181 (5), .methodLink RX6 86 yX6_in, .static yX6_in, .code yX6_in cX6_in 6 (some .boolean), .methodLink RX6 154 yX6_finds, .instanceMethod yX6_finds, .selects RX6 yX6_finds yX6_finds, .code yX6_finds cX6_finds 2 (some .int), .fieldLink RX6 78 "EchoRowModel" "findings" "I"] ++ wsX60)
def wsX6_tear : List Cond := .code yX6_tear cX6_tear 3 (some .int) :: ([.fieldLink RX6 75 "EchoRowModel" "thrown" "I", .fieldLink RX6 63 "EchoRowModel" "length" "[I", .methodLink RX6 189 yX6_isSheet, .static yX6_isSheet, .initialized RX6, .code yX6_isSheet cX6_isSheet 1 (some .boolean), .constantLong RX6 181 (5), .methodLink RX6 86 yX6_in, .static yX6_in, .code yX6_in cX6_in 6 (some .boolean), .methodLink RX6 154 yX6_finds, .instanceMethod yX6_finds, .selects RX6 yX6_finds yX6_finds, .code yX6_finds cX6_finds 2 (some .int), .fieldLink RX6 78 "EchoRowModel" "findings" "I"] ++ wsX60)
def wsX6_record_r1 : List Cond := [Cond.fieldLink RX6 75 "EchoRowModel" "thrown" "I", Cond.fieldLink RX6 63 "EchoRowModel" "length" "[I", Cond.fieldLink RX6 69 "EchoRowModel" "number" "[I", Cond.fieldLink RX6 66 "EchoRowModel" "lane" "[I", Cond.methodLink RX6 189 yX6_isSheet, Cond.static yX6_isSheet, Cond.initialized RX6, Cond.code yX6_isSheet cX6_isSheet 1 (some .boolean), Cond.constantLong RX6 181 (5), Cond.methodLink RX6 86 yX6_in, Cond.static yX6_in, Cond.code yX6_in cX6_in 6 (some .boolean), Cond.methodLink RX6 154 yX6_finds, Cond.instanceMethod yX6_finds, Cond.selects RX6 yX6_finds yX6_finds, Cond.code yX6_finds cX6_finds 2 (some .int), Cond.fieldLink RX6 78 "EchoRowModel" "findings" "I", Cond.methodLink RX6 135 yX6_noElement, Cond.instanceMethod yX6_noElement, Cond.selects RX6 yX6_noElement yX6_noElement, Cond.code yX6_noElement cX6_noElement 2 (some .boolean), Cond.fieldLink RX6 94 "EchoRowModel" "elements" "I", Cond.methodLink RX6 157 yX6_echoAt, Cond.instanceMethod yX6_echoAt]
def wsX6_record_r2 : List Cond := [Cond.selects RX6 yX6_echoAt yX6_echoAt, Cond.code yX6_echoAt cX6_echoAt 7 (some .int), Cond.fieldLink RX6 116 "EchoRowModel" "targets" "I", Cond.fieldLink RX6 23 "EchoRowModel" "isLost" "[Z", Cond.fieldLink RX6 39 "EchoRowModel" "strength" "[I", Cond.methodLink RX6 119 yX6_echoOf, Cond.instanceMethod yX6_echoOf, Cond.selects RX6 yX6_echoOf yX6_echoOf, Cond.code yX6_echoOf cX6_echoOf 4 (some .int), Cond.fieldLink RX6 30 "EchoRowModel" "fromX" "[I", Cond.fieldLink RX6 33 "EchoRowModel" "toX" "[I", Cond.methodLink RX6 108 yX6_depthOf, Cond.instanceMethod yX6_depthOf, Cond.selects RX6 yX6_depthOf yX6_depthOf, Cond.code yX6_depthOf cX6_depthOf 2 (some .int), Cond.fieldLink RX6 27 "EchoRowModel" "kind" "[I", Cond.fieldLink RX6 36 "EchoRowModel" "depth" "[I", Cond.methodLink RX6 90 yX6_floor, Cond.instanceMethod yX6_floor, Cond.selects RX6 yX6_floor yX6_floor, Cond.code yX6_floor cX6_floor 1 (some .int), Cond.fieldLink RX6 81 "EchoRowModel" "wedge" "I", Cond.fieldLink RX6 7 "EchoRowModel" "plate" "I", Cond.methodLink RX6 112 yX6_least]
def wsX6_record_r3 : List Cond := [Cond.instanceMethod yX6_least, Cond.selects RX6 yX6_least yX6_least, Cond.code yX6_least cX6_least 9 (some .int), Cond.methodLink RX6 105 yX6_timeOf, Cond.instanceMethod yX6_timeOf, Cond.selects RX6 yX6_timeOf yX6_timeOf, Cond.code yX6_timeOf cX6_timeOf 4 (some .int), Cond.fieldLink RX6 42 "EchoRowModel" "time" "[I", Cond.methodLink RX6 101 yX6_make, Cond.instanceMethod yX6_make, Cond.selects RX6 yX6_make yX6_make, Cond.code yX6_make cX6_make 7 none, Cond.fieldLink RX6 48 "EchoRowModel" "isMade" "[Z", Cond.fieldLink RX6 13 "EchoRowModel" "slowWedge" "I", Cond.fieldLink RX6 19 "EchoRowModel" "at" "[I", Cond.fieldLink RX6 16 "EchoRowModel" "slow" "I", Cond.fieldLink RX6 45 "EchoRowModel" "bend" "[I", Cond.methodLink RX6 97 yX6_ticks, Cond.static yX6_ticks, Cond.code yX6_ticks cX6_ticks 6 (some .int), Cond.methodLink RX6 192 yX6_as, Cond.static yX6_as, Cond.code yX6_as cX6_as 5 (some .int), Cond.constantLong RX6 183 (127)]
def wsX6_record_r4 : List Cond := [Cond.constantLong RX6 185 (32767), Cond.constantLong RX6 187 (2147483647)]
def wsX6_record : List Cond := .code yX6_record cX6_record 6 (some .int) :: ((wsX6_record_r1 ++ (wsX6_record_r2 ++ (wsX6_record_r3 ++ wsX6_record_r4))) ++ wsX60)
def wsX6_add : List Cond := .code yX6_add cX6_add 9 (some .int) :: ([.fieldLink RX6 75 "EchoRowModel" "thrown" "I", .fieldLink RX6 63 "EchoRowModel" "length" "[I", .fieldLink RX6 72 "EchoRowModel" "spare" "[I", .fieldLink RX6 69 "EchoRowModel" "number" "[I", .fieldLink RX6 66 "EchoRowModel" "lane" "[I", .methodLink RX6 189 yX6_isSheet, .static yX6_isSheet, .initialized RX6, .code yX6_isSheet cX6_isSheet 1 (some .boolean), .constantLong RX6 181 (5), .methodLink RX6 86 yX6_in, .static yX6_in, .code yX6_in cX6_in 6 (some .boolean), .methodLink RX6 154 yX6_finds, .instanceMethod yX6_finds, .selects RX6 yX6_finds yX6_finds, .code yX6_finds cX6_finds 2 (some .int), .fieldLink RX6 78 "EchoRowModel" "findings" "I", .methodLink RX6 192 yX6_as, .static yX6_as, .code yX6_as cX6_as 5 (some .int), .constantLong RX6 183 (127), .constantLong RX6 185 (32767), .constantLong RX6 187 (2147483647)] ++ wsX60)
def wsX6_copy : List Cond := .code yX6_copy cX6_copy 7 (some .int) :: ([.fieldLink RX6 75 "EchoRowModel" "thrown" "I", .fieldLink RX6 63 "EchoRowModel" "length" "[I", .fieldLink RX6 66 "EchoRowModel" "lane" "[I", .fieldLink RX6 72 "EchoRowModel" "spare" "[I", .fieldLink RX6 69 "EchoRowModel" "number" "[I", .methodLink RX6 189 yX6_isSheet, .static yX6_isSheet, .initialized RX6, .code yX6_isSheet cX6_isSheet 1 (some .boolean), .constantLong RX6 181 (5), .methodLink RX6 86 yX6_in, .static yX6_in, .code yX6_in cX6_in 6 (some .boolean), .methodLink RX6 154 yX6_finds, .instanceMethod yX6_finds, .selects RX6 yX6_finds yX6_finds, .code yX6_finds cX6_finds 2 (some .int), .fieldLink RX6 78 "EchoRowModel" "findings" "I"] ++ wsX60)
def wsX6_at : List Cond := .code yX6_at cX6_at 3 (some .int) :: ([.fieldLink RX6 75 "EchoRowModel" "thrown" "I", .fieldLink RX6 63 "EchoRowModel" "length" "[I", .fieldLink RX6 69 "EchoRowModel" "number" "[I", .methodLink RX6 189 yX6_isSheet, .static yX6_isSheet, .initialized RX6, .code yX6_isSheet cX6_isSheet 1 (some .boolean), .constantLong RX6 181 (5), .methodLink RX6 86 yX6_in, .static yX6_in, .code yX6_in cX6_in 6 (some .boolean), .methodLink RX6 154 yX6_finds, .instanceMethod yX6_finds, .selects RX6 yX6_finds yX6_finds, .code yX6_finds cX6_finds 2 (some .int), .fieldLink RX6 78 "EchoRowModel" "findings" "I"] ++ wsX60)
def wsX6_peak : List Cond := .code yX6_peak cX6_peak 8 (some .int) :: ([.fieldLink RX6 75 "EchoRowModel" "thrown" "I", .fieldLink RX6 63 "EchoRowModel" "length" "[I", .constant RX6 161 (-99999), .constantLong RX6 195 (-1), .fieldLink RX6 69 "EchoRowModel" "number" "[I", .methodLink RX6 189 yX6_isSheet, .static yX6_isSheet, .initialized RX6, .code yX6_isSheet cX6_isSheet 1 (some .boolean), .constantLong RX6 181 (5), .methodLink RX6 86 yX6_in, .static yX6_in, .code yX6_in cX6_in 6 (some .boolean), .methodLink RX6 154 yX6_finds, .instanceMethod yX6_finds, .selects RX6 yX6_finds yX6_finds, .code yX6_finds cX6_finds 2 (some .int), .fieldLink RX6 78 "EchoRowModel" "findings" "I"] ++ wsX60)
def wsX6_total : List Cond := .code yX6_total cX6_total 4 (some .int) :: ([.fieldLink RX6 75 "EchoRowModel" "thrown" "I", .fieldLink RX6 63 "EchoRowModel" "length" "[I", .fieldLink RX6 94 "EchoRowModel" "elements" "I", .fieldLink RX6 116 "EchoRowModel" "targets" "I", .fieldLink RX6 168 "EchoRowModel" "told" "I", .fieldLink RX6 78 "EchoRowModel" "findings" "I", .fieldLink RX6 128 "EchoRowModel" "hasFocus" "Z", .methodLink RX6 139 yX6_working, .instanceMethod yX6_working, .selects RX6 yX6_working yX6_working, .initialized RX6, .code yX6_working cX6_working 3 (some .int), .fieldLink RX6 23 "EchoRowModel" "isLost" "[Z", .methodLink RX6 90 yX6_floor, .instanceMethod yX6_floor, .selects RX6 yX6_floor yX6_floor, .code yX6_floor cX6_floor 1 (some .int), .fieldLink RX6 81 "EchoRowModel" "wedge" "I", .fieldLink RX6 7 "EchoRowModel" "plate" "I"] ++ wsX60)
def wsJ9_abs_0f7a4 : List Cond := .code yJ9_abs_0f7a4 cJ9_abs_0f7a4 1 (some .int) :: ([])
def wsJ9_abs_067f4 : List Cond := .code yJ9_abs_067f4 cJ9_abs_067f4 2 (some .long) :: ([])
def wsJ9_max_7cf53 : List Cond := .code yJ9_max_7cf53 cJ9_max_7cf53 2 (some .int) :: ([])
def wsJ9_max_f86c9 : List Cond := .code yJ9_max_f86c9 cJ9_max_f86c9 4 (some .long) :: ([])
def wsJ9_min_7cf53 : List Cond := .code yJ9_min_7cf53 cJ9_min_7cf53 2 (some .int) :: ([])
def wsJ9_min_f86c9 : List Cond := .code yJ9_min_f86c9 cJ9_min_f86c9 4 (some .long) :: ([])
def wsL_law_r1 : List Cond := [Cond.classLink RL 7 RX5, Cond.instantiable RX5 11, Cond.initialized RX5, Cond.classLink RL 10 RX6, Cond.instantiable RX6 28, Cond.initialized RX6, Cond.methodLink RL 9 yX5_init, Cond.instanceMethod yX5_init, Cond.code yX5_init cX5_init 1 none, Cond.methodLink RX5 3 objectInit, Cond.instanceMethod objectInit, Cond.code objectInit ⟨#[0xb1]⟩ 1 none, Cond.classLink RX5 9 RX1, Cond.instantiable RX1 5, Cond.initialized RX1, Cond.fieldLink RX5 12 "EchoRow" "layers" "LEchoRow$Layers;", Cond.classLink RX5 16 RX0, Cond.fieldLink RX5 18 "EchoRow" "elements" "[LEchoRow$Element;", Cond.classLink RX5 22 RX3, Cond.fieldLink RX5 24 "EchoRow" "targets" "[LEchoRow$Target;", Cond.classLink RX5 28 RX4, Cond.fieldLink RX5 30 "EchoRow" "tolds" "[LEchoRow$Told;", Cond.classLink RX5 34 RX2, Cond.fieldLink RX5 36 "EchoRow" "sheets" "[LEchoRow$Sheet;"]
def wsL_law_r2 : List Cond := [Cond.arrayClass .int, Cond.fieldLink RX5 40 "EchoRow" "ahead" "[I", Cond.methodLink RX5 11 yX1_init, Cond.instanceMethod yX1_init, Cond.code yX1_init cX1_init 1 none, Cond.methodLink RX1 3 objectInit, Cond.fieldLink RX1 11 "EchoRow$Layers" "legs" "[I", Cond.arrayClass .boolean, Cond.fieldLink RX1 15 "EchoRow$Layers" "ready" "[Z", Cond.methodLink RX1 19 yX1_lay, Cond.instanceMethod yX1_lay, Cond.selects RX1 yX1_lay yX1_lay, Cond.code yX1_lay cX1_lay 6 none, Cond.fieldLink RX1 23 "EchoRow$Layers" "wedge" "I", Cond.fieldLink RX1 27 "EchoRow$Layers" "plate" "I", Cond.fieldLink RX1 30 "EchoRow$Layers" "plateSlowness" "I", Cond.methodLink RX1 33 yX1_fillRow, Cond.instanceMethod yX1_fillRow, Cond.selects RX1 yX1_fillRow yX1_fillRow, Cond.code yX1_fillRow cX1_fillRow 7 none, Cond.static yX5_outside, Cond.code yX5_outside cX5_outside 3 (some .boolean), Cond.methodLink RL 12 yX6_init, Cond.instanceMethod yX6_init]
def wsL_law_r3 : List Cond := [Cond.code yX6_init cX6_init 1 none, Cond.methodLink RX6 1 objectInit, Cond.fieldLink RX6 7 "EchoRowModel" "plate" "I", Cond.fieldLink RX6 13 "EchoRowModel" "slowWedge" "I", Cond.fieldLink RX6 16 "EchoRowModel" "slow" "I", Cond.fieldLink RX6 19 "EchoRowModel" "at" "[I", Cond.fieldLink RX6 23 "EchoRowModel" "isLost" "[Z", Cond.fieldLink RX6 27 "EchoRowModel" "kind" "[I", Cond.fieldLink RX6 30 "EchoRowModel" "fromX" "[I", Cond.fieldLink RX6 33 "EchoRowModel" "toX" "[I", Cond.fieldLink RX6 36 "EchoRowModel" "depth" "[I", Cond.fieldLink RX6 39 "EchoRowModel" "strength" "[I", Cond.fieldLink RX6 42 "EchoRowModel" "time" "[I", Cond.fieldLink RX6 45 "EchoRowModel" "bend" "[I", Cond.fieldLink RX6 48 "EchoRowModel" "isMade" "[Z", Cond.fieldLink RX6 51 "EchoRowModel" "delay" "[I", Cond.fieldLink RX6 54 "EchoRowModel" "one" "[I", Cond.fieldLink RX6 57 "EchoRowModel" "other" "[I", Cond.fieldLink RX6 60 "EchoRowModel" "when" "[I", Cond.fieldLink RX6 63 "EchoRowModel" "length" "[I", Cond.fieldLink RX6 66 "EchoRowModel" "lane" "[I", Cond.fieldLink RX6 69 "EchoRowModel" "number" "[I", Cond.fieldLink RX6 72 "EchoRowModel" "spare" "[I", Cond.methodLink RL 13 yX5_body]
def wsL_law_r4 : List Cond := [Cond.instanceMethod yX5_body, Cond.selects RX5 yX5_body yX5_body, Cond.code yX5_body cX5_body 9 (some .int), Cond.fieldLink RX5 48 "EchoRow$Target" "kind" "I", Cond.fieldLink RX5 52 "EchoRow$Target" "y" "I", Cond.fieldLink RX5 63 "EchoRow" "focused" "Z", Cond.methodLink RX5 44 yX5_outside, Cond.methodLink RX5 55 yX1_lay, Cond.methodLink RX5 59 yX0_forgetTimes, Cond.instanceMethod yX0_forgetTimes, Cond.selects RX0 yX0_forgetTimes yX0_forgetTimes, Cond.initialized RX0, Cond.code yX0_forgetTimes cX0_forgetTimes 1 none, Cond.fieldLink RX0 22 "EchoRow$Element" "times" "[I", Cond.methodLink RX0 26 yJ7_fill_53178, Cond.static yJ7_fill_53178, Cond.initialized RJ7, Cond.code yJ7_fill_53178 cJ7_fill_53178 4 none, Cond.methodLink RX5 62 yX3_forgetTimes, Cond.instanceMethod yX3_forgetTimes, Cond.selects RX3 yX3_forgetTimes yX3_forgetTimes, Cond.initialized RX3, Cond.code yX3_forgetTimes cX3_forgetTimes 1 none, Cond.fieldLink RX3 27 "EchoRow$Target" "times" "[I"]
def wsL_law_r5 : List Cond := [Cond.methodLink RX3 31 yJ7_fill_53178, Cond.methodLink RX5 67 yX1_floor, Cond.instanceMethod yX1_floor, Cond.selects RX1 yX1_floor yX1_floor, Cond.code yX1_floor cX1_floor 1 (some .int), Cond.methodLink RL 17 yX6_body, Cond.instanceMethod yX6_body, Cond.selects RX6 yX6_body yX6_body, Cond.code yX6_body cX6_body 6 (some .int), Cond.fieldLink RX6 75 "EchoRowModel" "thrown" "I", Cond.constantLong RX6 122 (20), Cond.constantLong RX6 124 (30), Cond.constantLong RX6 126 (8), Cond.fieldLink RX6 116 "EchoRowModel" "targets" "I", Cond.fieldLink RX6 81 "EchoRowModel" "wedge" "I", Cond.fieldLink RX6 128 "EchoRowModel" "hasFocus" "Z", Cond.methodLink RX6 86 yX6_in, Cond.static yX6_in, Cond.code yX6_in cX6_in 6 (some .boolean), Cond.methodLink RX6 132 yX6_unmake, Cond.instanceMethod yX6_unmake, Cond.selects RX6 yX6_unmake yX6_unmake, Cond.code yX6_unmake cX6_unmake 2 none, Cond.methodLink RX6 90 yX6_floor]
def wsL_law_r6 : List Cond := [Cond.instanceMethod yX6_floor, Cond.selects RX6 yX6_floor yX6_floor, Cond.code yX6_floor cX6_floor 1 (some .int), Cond.methodLink RL 18 yX5_element, Cond.instanceMethod yX5_element, Cond.selects RX5 yX5_element yX5_element, Cond.code yX5_element cX5_element 2 (some .int), Cond.fieldLink RX5 71 "EchoRow" "elementCount" "I", Cond.instantiable RX0 5, Cond.methodLink RX5 74 yX0_init, Cond.instanceMethod yX0_init, Cond.code yX0_init cX0_init 3 none, Cond.methodLink RX0 3 objectInit, Cond.fieldLink RX0 9 "EchoRow$Element" "number" "I", Cond.fieldLink RX0 15 "EchoRow$Element" "x" "I", Cond.fieldLink RX0 18 "EchoRow$Element" "works" "Z", Cond.methodLink RL 22 yX6_element, Cond.instanceMethod yX6_element, Cond.selects RX6 yX6_element yX6_element, Cond.code yX6_element cX6_element 2 (some .int), Cond.constantLong RX6 84 (50), Cond.fieldLink RX6 94 "EchoRowModel" "elements" "I", Cond.methodLink RL 23 yX5_lose, Cond.instanceMethod yX5_lose]
def wsL_law_r7 : List Cond := [Cond.selects RX5 yX5_lose yX5_lose, Cond.code yX5_lose cX5_lose 4 (some .int), Cond.fieldLink RX5 81 "EchoRow$Element" "works" "Z", Cond.methodLink RX5 77 yX5_elementNumbered, Cond.instanceMethod yX5_elementNumbered, Cond.selects RX5 yX5_elementNumbered yX5_elementNumbered, Cond.code yX5_elementNumbered cX5_elementNumbered 2 (some (.object "EchoRow$Element")), Cond.methodLink RX5 84 yX5_countWorking, Cond.instanceMethod yX5_countWorking, Cond.selects RX5 yX5_countWorking yX5_countWorking, Cond.code yX5_countWorking cX5_countWorking 6 (some .int), Cond.methodLink RL 27 yX6_lose, Cond.instanceMethod yX6_lose, Cond.selects RX6 yX6_lose yX6_lose, Cond.code yX6_lose cX6_lose 3 (some .int), Cond.methodLink RX6 135 yX6_noElement, Cond.instanceMethod yX6_noElement, Cond.selects RX6 yX6_noElement yX6_noElement, Cond.code yX6_noElement cX6_noElement 2 (some .boolean), Cond.methodLink RX6 139 yX6_working, Cond.instanceMethod yX6_working, Cond.selects RX6 yX6_working yX6_working, Cond.code yX6_working cX6_working 3 (some .int), Cond.methodLink RL 28 yX5_target]
def wsL_law_r8 : List Cond := [Cond.instanceMethod yX5_target, Cond.selects RX5 yX5_target yX5_target, Cond.code yX5_target cX5_target 6 (some .int), Cond.fieldLink RX5 91 "EchoRow" "targetCount" "I", Cond.methodLink RX5 87 yX1_holds, Cond.instanceMethod yX1_holds, Cond.selects RX1 yX1_holds yX1_holds, Cond.code yX1_holds cX1_holds 3 (some .boolean), Cond.methodLink RX5 94 yX5_newTarget, Cond.static yX5_newTarget, Cond.code yX5_newTarget cX5_newTarget 5 (some (.object "EchoRow$Target")), Cond.instantiable RX3 6, Cond.methodLink RX5 207 yX3_init, Cond.instanceMethod yX3_init, Cond.code yX3_init cX3_init 6 none, Cond.methodLink RX3 3 objectInit, Cond.fieldLink RX3 9 "EchoRow$Target" "kind" "I", Cond.fieldLink RX3 15 "EchoRow$Target" "x" "I", Cond.fieldLink RX3 18 "EchoRow$Target" "z" "I", Cond.fieldLink RX3 21 "EchoRow$Target" "y" "I", Cond.fieldLink RX3 24 "EchoRow$Target" "strength" "I", Cond.methodLink RL 32 yX6_target, Cond.instanceMethod yX6_target, Cond.selects RX6 yX6_target yX6_target]
def wsL_law_r9 : List Cond := [Cond.code yX6_target cX6_target 6 (some .int), Cond.constantLong RX6 142 (2), Cond.constantLong RX6 148 (-1000), Cond.constantLong RX6 150 (1000), Cond.methodLink RX6 144 yX6_isPlace, Cond.instanceMethod yX6_isPlace, Cond.selects RX6 yX6_isPlace yX6_isPlace, Cond.code yX6_isPlace cX6_isPlace 3 (some .boolean), Cond.methodLink RL 33 yX5_drop, Cond.instanceMethod yX5_drop, Cond.selects RX5 yX5_drop yX5_drop, Cond.code yX5_drop cX5_drop 1 (some .int), Cond.methodLink RL 37 yX6_drop, Cond.instanceMethod yX6_drop, Cond.selects RX6 yX6_drop yX6_drop, Cond.code yX6_drop cX6_drop 1 (some .int), Cond.methodLink RL 38 yX5_taken, Cond.instanceMethod yX5_taken, Cond.selects RX5 yX5_taken yX5_taken, Cond.code yX5_taken cX5_taken 5 (some .int), Cond.fieldLink RX5 106 "EchoRow$Target" "strength" "I", Cond.fieldLink RX5 109 "EchoRow$Target" "x" "I", Cond.fieldLink RX5 116 "EchoRow$Target" "z" "I", Cond.methodLink RX5 98 yX5_targetNumbered]
def wsL_law_r10 : List Cond := [Cond.instanceMethod yX5_targetNumbered, Cond.selects RX5 yX5_targetNumbered yX5_targetNumbered, Cond.code yX5_targetNumbered cX5_targetNumbered 2 (some (.object "EchoRow$Target")), Cond.methodLink RX5 102 yX5_found, Cond.instanceMethod yX5_found, Cond.selects RX5 yX5_found yX5_found, Cond.code yX5_found cX5_found 2 (some .int), Cond.fieldLink RX5 201 "EchoRow" "findings" "I", Cond.methodLink RX5 112 yX5_depthOf, Cond.instanceMethod yX5_depthOf, Cond.selects RX5 yX5_depthOf yX5_depthOf, Cond.code yX5_depthOf cX5_depthOf 2 (some .int), Cond.methodLink RL 42 yX6_taken, Cond.instanceMethod yX6_taken, Cond.selects RX6 yX6_taken yX6_taken, Cond.code yX6_taken cX6_taken 4 (some .int), Cond.constantLong RX6 152 (3), Cond.methodLink RX6 154 yX6_finds, Cond.instanceMethod yX6_finds, Cond.selects RX6 yX6_finds yX6_finds, Cond.code yX6_finds cX6_finds 2 (some .int), Cond.fieldLink RX6 78 "EchoRowModel" "findings" "I", Cond.methodLink RX6 108 yX6_depthOf, Cond.instanceMethod yX6_depthOf]
def wsL_law_r11 : List Cond := [Cond.selects RX6 yX6_depthOf yX6_depthOf, Cond.code yX6_depthOf cX6_depthOf 2 (some .int), Cond.methodLink RL 43 yX5_time, Cond.instanceMethod yX5_time, Cond.selects RX5 yX5_time yX5_time, Cond.code yX5_time cX5_time 5 (some .int), Cond.methodLink RX5 119 yX5_timeTo, Cond.instanceMethod yX5_timeTo, Cond.selects RX5 yX5_timeTo yX5_timeTo, Cond.code yX5_timeTo cX5_timeTo 6 (some .int), Cond.fieldLink RX5 124 "EchoRow$Layers" "wedge" "I", Cond.fieldLink RX5 210 "EchoRow$Element" "times" "[I", Cond.constant RX5 148 (-99999), Cond.fieldLink RX5 123 "EchoRow$Element" "x" "I", Cond.methodLink RX5 213 yX1_leastTicks, Cond.instanceMethod yX1_leastTicks, Cond.selects RX1 yX1_leastTicks yX1_leastTicks, Cond.code yX1_leastTicks cX1_leastTicks 9 (some .int), Cond.constant RX1 41 (-99999), Cond.constant RX1 42 (2147483647), Cond.methodLink RX1 43 Lib.Math.max.name, Cond.static Lib.Math.max.name, Cond.initialized "java/lang/Math", Cond.code Lib.Math.max.name Lib.Math.max.code 2 (some .int)]
def wsL_law_r12 : List Cond := [Cond.methodLink RX1 49 Lib.Math.min.name, Cond.static Lib.Math.min.name, Cond.code Lib.Math.min.name Lib.Math.min.code 2 (some .int), Cond.methodLink RX1 52 Lib.Math.abs.name, Cond.static Lib.Math.abs.name, Cond.code Lib.Math.abs.name Lib.Math.abs.code 1 (some .int), Cond.methodLink RL 46 yX6_time, Cond.instanceMethod yX6_time, Cond.selects RX6 yX6_time yX6_time, Cond.code yX6_time cX6_time 4 (some .int), Cond.methodLink RX6 105 yX6_timeOf, Cond.instanceMethod yX6_timeOf, Cond.selects RX6 yX6_timeOf yX6_timeOf, Cond.code yX6_timeOf cX6_timeOf 4 (some .int), Cond.methodLink RX6 101 yX6_make, Cond.instanceMethod yX6_make, Cond.selects RX6 yX6_make yX6_make, Cond.code yX6_make cX6_make 7 none, Cond.methodLink RX6 97 yX6_ticks, Cond.static yX6_ticks, Cond.code yX6_ticks cX6_ticks 6 (some .int), Cond.methodLink RL 47 yX5_bend, Cond.instanceMethod yX5_bend, Cond.selects RX5 yX5_bend yX5_bend]
def wsL_law_r13 : List Cond := [Cond.code yX5_bend cX5_bend 5 (some .int), Cond.methodLink RX5 127 yX1_leastBend, Cond.instanceMethod yX1_leastBend, Cond.selects RX1 yX1_leastBend yX1_leastBend, Cond.code yX1_leastBend cX1_leastBend 8 (some .int), Cond.methodLink RX1 56 yX1_leastTicks, Cond.methodLink RL 50 yX6_bend, Cond.instanceMethod yX6_bend, Cond.selects RX6 yX6_bend yX6_bend, Cond.code yX6_bend cX6_bend 4 (some .int), Cond.methodLink RL 51 yX5_echoTime, Cond.instanceMethod yX5_echoTime, Cond.selects RX5 yX5_echoTime yX5_echoTime, Cond.code yX5_echoTime cX5_echoTime 7 (some .int), Cond.methodLink RX5 131 yX5_echoTimeBy, Cond.instanceMethod yX5_echoTimeBy, Cond.selects RX5 yX5_echoTimeBy yX5_echoTimeBy, Cond.code yX5_echoTimeBy cX5_echoTimeBy 8 (some .int), Cond.fieldLink RX5 216 "EchoRow$Element" "number" "I", Cond.fieldLink RX5 219 "EchoRow$Target" "times" "[I", Cond.constant RX5 135 (2147483647), Cond.methodLink RX5 181 Lib.Math.min.name, Cond.methodLink RL 54 yX6_echoTime, Cond.instanceMethod yX6_echoTime]
def wsL_law_r14 : List Cond := [Cond.selects RX6 yX6_echoTime yX6_echoTime, Cond.code yX6_echoTime cX6_echoTime 4 (some .int), Cond.methodLink RX6 119 yX6_echoOf, Cond.instanceMethod yX6_echoOf, Cond.selects RX6 yX6_echoOf yX6_echoOf, Cond.code yX6_echoOf cX6_echoOf 4 (some .int), Cond.methodLink RX6 112 yX6_least, Cond.instanceMethod yX6_least, Cond.selects RX6 yX6_least yX6_least, Cond.code yX6_least cX6_least 9 (some .int), Cond.methodLink RL 55 yX5_slowness, Cond.instanceMethod yX5_slowness, Cond.selects RX5 yX5_slowness yX5_slowness, Cond.code yX5_slowness cX5_slowness 10 (some .int), Cond.methodLink RX5 139 Lib.Math.abs.name, Cond.methodLink RX5 136 yX1_wallTicks, Cond.instanceMethod yX1_wallTicks, Cond.selects RX1 yX1_wallTicks yX1_wallTicks, Cond.code yX1_wallTicks cX1_wallTicks 6 (some .int), Cond.methodLink RL 58 yX6_slowness, Cond.instanceMethod yX6_slowness, Cond.selects RX6 yX6_slowness yX6_slowness, Cond.code yX6_slowness cX6_slowness 11 (some .int), Cond.methodLink RL 59 yX5_echo]
def wsL_law_r15 : List Cond := [Cond.instanceMethod yX5_echo, Cond.selects RX5 yX5_echo yX5_echo, Cond.code yX5_echo cX5_echo 6 (some .int), Cond.methodLink RX5 144 yX5_echoAt, Cond.instanceMethod yX5_echoAt, Cond.selects RX5 yX5_echoAt yX5_echoAt, Cond.code yX5_echoAt cX5_echoAt 10 (some .int), Cond.methodLink RL 62 yX6_echo, Cond.instanceMethod yX6_echo, Cond.selects RX6 yX6_echo yX6_echo, Cond.code yX6_echo cX6_echo 4 (some .int), Cond.methodLink RX6 157 yX6_echoAt, Cond.instanceMethod yX6_echoAt, Cond.selects RX6 yX6_echoAt yX6_echoAt, Cond.code yX6_echoAt cX6_echoAt 7 (some .int), Cond.methodLink RL 63 yX5_gate, Cond.instanceMethod yX5_gate, Cond.selects RX5 yX5_gate yX5_gate, Cond.code yX5_gate cX5_gate 15 (some .int), Cond.methodLink RL 66 yX6_gate, Cond.instanceMethod yX6_gate, Cond.selects RX6 yX6_gate yX6_gate, Cond.code yX6_gate cX6_gate 11 (some .int), Cond.constant RX6 161 (-99999)]
def wsL_law_r16 : List Cond := [Cond.methodLink RL 67 yX5_focus, Cond.instanceMethod yX5_focus, Cond.selects RX5 yX5_focus yX5_focus, Cond.code yX5_focus cX5_focus 8 (some .int), Cond.methodLink RX5 149 Lib.Math.max.name, Cond.fieldLink RX5 153 "EchoRow$Element" "wait" "I", Cond.methodLink RL 71 yX6_focus, Cond.instanceMethod yX6_focus, Cond.selects RX6 yX6_focus yX6_focus, Cond.code yX6_focus cX6_focus 5 (some .int), Cond.methodLink RL 72 yX5_delay, Cond.instanceMethod yX5_delay, Cond.selects RX5 yX5_delay yX5_delay, Cond.code yX5_delay cX5_delay 3 (some .int), Cond.methodLink RL 75 yX6_delay, Cond.instanceMethod yX6_delay, Cond.selects RX6 yX6_delay yX6_delay, Cond.code yX6_delay cX6_delay 2 (some .int), Cond.methodLink RL 76 yX5_heard, Cond.instanceMethod yX5_heard, Cond.selects RX5 yX5_heard yX5_heard, Cond.code yX5_heard cX5_heard 4 (some .int), Cond.methodLink RX5 156 yX5_heardBy, Cond.instanceMethod yX5_heardBy]
def wsL_law_r17 : List Cond := [Cond.selects RX5 yX5_heardBy yX5_heardBy, Cond.code yX5_heardBy cX5_heardBy 9 (some .int), Cond.methodLink RL 79 yX6_heard, Cond.instanceMethod yX6_heard, Cond.selects RX6 yX6_heard yX6_heard, Cond.code yX6_heard cX6_heard 3 (some .int), Cond.methodLink RX6 162 yX6_heardAt, Cond.instanceMethod yX6_heardAt, Cond.selects RX6 yX6_heardAt yX6_heardAt, Cond.code yX6_heardAt cX6_heardAt 6 (some .int), Cond.methodLink RL 80 yX5_sum, Cond.instanceMethod yX5_sum, Cond.selects RX5 yX5_sum yX5_sum, Cond.code yX5_sum cX5_sum 7 (some .int), Cond.methodLink RL 83 yX6_sum, Cond.instanceMethod yX6_sum, Cond.selects RX6 yX6_sum yX6_sum, Cond.code yX6_sum cX6_sum 4 (some .int), Cond.methodLink RL 84 yX5_board, Cond.instanceMethod yX5_board, Cond.selects RX5 yX5_board yX5_board, Cond.code yX5_board cX5_board 12 (some .int), Cond.methodLink RL 87 yX6_board, Cond.instanceMethod yX6_board]
def wsL_law_r18 : List Cond := [Cond.selects RX6 yX6_board yX6_board, Cond.code yX6_board cX6_board 6 (some .int), Cond.methodLink RL 88 yX5_tell, Cond.instanceMethod yX5_tell, Cond.selects RX5 yX5_tell yX5_tell, Cond.code yX5_tell cX5_tell 6 (some .int), Cond.fieldLink RX5 160 "EchoRow" "toldCount" "I", Cond.instantiable RX4 3, Cond.initialized RX4, Cond.methodLink RX5 163 yX4_init, Cond.instanceMethod yX4_init, Cond.code yX4_init cX4_init 4 none, Cond.methodLink RX4 1 objectInit, Cond.fieldLink RX4 7 "EchoRow$Told" "a" "LEchoRow$Element;", Cond.fieldLink RX4 13 "EchoRow$Told" "b" "LEchoRow$Element;", Cond.fieldLink RX4 16 "EchoRow$Told" "tick" "I", Cond.methodLink RL 91 yX6_tell, Cond.instanceMethod yX6_tell, Cond.selects RX6 yX6_tell yX6_tell, Cond.code yX6_tell cX6_tell 4 (some .int), Cond.constantLong RX6 166 (4000), Cond.fieldLink RX6 168 "EchoRowModel" "told" "I", Cond.methodLink RL 92 yX5_forget, Cond.instanceMethod yX5_forget]
def wsL_law_r19 : List Cond := [Cond.selects RX5 yX5_forget yX5_forget, Cond.code yX5_forget cX5_forget 3 (some .int), Cond.methodLink RL 95 yX6_forget, Cond.instanceMethod yX6_forget, Cond.selects RX6 yX6_forget yX6_forget, Cond.code yX6_forget cX6_forget 2 (some .int), Cond.methodLink RL 96 yX5_places, Cond.instanceMethod yX5_places, Cond.selects RX5 yX5_places yX5_places, Cond.code yX5_places cX5_places 5 (some .int), Cond.methodLink RX5 166 yX5_fits, Cond.instanceMethod yX5_fits, Cond.selects RX5 yX5_fits yX5_fits, Cond.code yX5_fits cX5_fits 9 (some .boolean), Cond.fieldLink RX5 220 "EchoRow$Told" "a" "LEchoRow$Element;", Cond.fieldLink RX5 224 "EchoRow$Told" "b" "LEchoRow$Element;", Cond.fieldLink RX5 227 "EchoRow$Told" "tick" "I", Cond.methodLink RL 99 yX6_places, Cond.instanceMethod yX6_places, Cond.selects RX6 yX6_places yX6_places, Cond.code yX6_places cX6_places 2 (some .int), Cond.constantLong RX6 175 (100), Cond.methodLink RX6 177 yX6_near, Cond.instanceMethod yX6_near]
def wsL_law_r20 : List Cond := [Cond.selects RX6 yX6_near yX6_near, Cond.code yX6_near cX6_near 6 (some .int), Cond.methodLink RX6 171 yX6_isNear, Cond.instanceMethod yX6_isNear, Cond.selects RX6 yX6_isNear yX6_isNear, Cond.code yX6_isNear cX6_isNear 6 (some .boolean), Cond.methodLink RL 100 yX5_place, Cond.instanceMethod yX5_place, Cond.selects RX5 yX5_place yX5_place, Cond.code yX5_place cX5_place 6 (some .int), Cond.methodLink RL 103 yX6_place, Cond.instanceMethod yX6_place, Cond.selects RX6 yX6_place yX6_place, Cond.code yX6_place cX6_place 3 (some .int), Cond.methodLink RL 104 yX5_sheet, Cond.instanceMethod yX5_sheet, Cond.selects RX5 yX5_sheet yX5_sheet, Cond.code yX5_sheet cX5_sheet 4 (some .int), Cond.instantiable RX2 2, Cond.initialized RX2, Cond.methodLink RX5 169 yX5_noSheet, Cond.static yX5_noSheet, Cond.code yX5_noSheet cX5_noSheet 1 (some .boolean), Cond.methodLink RX5 173 yX2_init]
def wsL_law_r21 : List Cond := [Cond.instanceMethod yX2_init, Cond.code yX2_init cX2_init 3 none, Cond.methodLink RX2 3 objectInit, Cond.fieldLink RX2 9 "EchoRow$Sheet" "lane" "I", Cond.fieldLink RX2 15 "EchoRow$Sheet" "numbers" "[I", Cond.methodLink RL 107 yX6_sheet, Cond.instanceMethod yX6_sheet, Cond.selects RX6 yX6_sheet yX6_sheet, Cond.code yX6_sheet cX6_sheet 5 (some .int), Cond.methodLink RX6 189 yX6_isSheet, Cond.static yX6_isSheet, Cond.code yX6_isSheet cX6_isSheet 1 (some .boolean), Cond.constantLong RX6 181 (5), Cond.methodLink RL 108 yX5_tear, Cond.instanceMethod yX5_tear, Cond.selects RX5 yX5_tear yX5_tear, Cond.code yX5_tear cX5_tear 3 (some .int), Cond.methodLink RL 111 yX6_tear, Cond.instanceMethod yX6_tear, Cond.selects RX6 yX6_tear yX6_tear, Cond.code yX6_tear cX6_tear 3 (some .int), Cond.methodLink RL 112 yX5_record, Cond.instanceMethod yX5_record, Cond.selects RX5 yX5_record yX5_record]
def wsL_law_r22 : List Cond := [Cond.code yX5_record cX5_record 9 (some .int), Cond.fieldLink RX5 174 "EchoRow$Sheet" "numbers" "[I", Cond.methodLink RX5 177 yX2_nearestTo, Cond.instanceMethod yX2_nearestTo, Cond.selects RX2 yX2_nearestTo yX2_nearestTo, Cond.code yX2_nearestTo cX2_nearestTo 7 (some .int), Cond.constantLong RX2 19 (127), Cond.constantLong RX2 21 (32767), Cond.constantLong RX2 23 (2147483647), Cond.methodLink RX2 25 Lib.MathLoose.min_long.x, Cond.static Lib.MathLoose.min_long.x, Cond.code Lib.MathLoose.min_long.x Lib.MathLoose.min_long.code 4 (some .long), Cond.methodLink RX2 31 Lib.MathLoose.max_long.x, Cond.static Lib.MathLoose.max_long.x, Cond.code Lib.MathLoose.max_long.x Lib.MathLoose.max_long.code 4 (some .long), Cond.methodLink RL 115 yX6_record, Cond.instanceMethod yX6_record, Cond.selects RX6 yX6_record yX6_record, Cond.code yX6_record cX6_record 6 (some .int), Cond.methodLink RX6 192 yX6_as, Cond.static yX6_as, Cond.code yX6_as cX6_as 5 (some .int), Cond.constantLong RX6 183 (127), Cond.constantLong RX6 185 (32767)]
def wsL_law_r23 : List Cond := [Cond.constantLong RX6 187 (2147483647), Cond.methodLink RL 116 yX5_add, Cond.instanceMethod yX5_add, Cond.selects RX5 yX5_add yX5_add, Cond.code yX5_add cX5_add 12 (some .int), Cond.methodLink RX5 184 arraycopyName, Cond.native arraycopyName, Cond.static arraycopyName, Cond.initialized "java/lang/System", Cond.methodLink RL 119 yX6_add, Cond.instanceMethod yX6_add, Cond.selects RX6 yX6_add yX6_add, Cond.code yX6_add cX6_add 9 (some .int), Cond.methodLink RL 120 yX5_copy, Cond.instanceMethod yX5_copy, Cond.selects RX5 yX5_copy yX5_copy, Cond.code yX5_copy cX5_copy 8 (some .int), Cond.fieldLink RX5 190 "EchoRow$Sheet" "lane" "I", Cond.methodLink RX5 193 yX2_hasRun, Cond.instanceMethod yX2_hasRun, Cond.selects RX2 yX2_hasRun yX2_hasRun, Cond.code yX2_hasRun cX2_hasRun 3 (some .boolean), Cond.methodLink RL 123 yX6_copy, Cond.instanceMethod yX6_copy]
def wsL_law_r24 : List Cond := [Cond.selects RX6 yX6_copy yX6_copy, Cond.code yX6_copy cX6_copy 7 (some .int), Cond.methodLink RL 124 yX5_at, Cond.instanceMethod yX5_at, Cond.selects RX5 yX5_at yX5_at, Cond.code yX5_at cX5_at 4 (some .int), Cond.methodLink RL 127 yX6_at, Cond.instanceMethod yX6_at, Cond.selects RX6 yX6_at yX6_at, Cond.code yX6_at cX6_at 3 (some .int), Cond.methodLink RL 128 yX5_peak, Cond.instanceMethod yX5_peak, Cond.selects RX5 yX5_peak yX5_peak, Cond.code yX5_peak cX5_peak 9 (some .int), Cond.constantLong RX5 196 (-1), Cond.methodLink RX5 198 Lib.MathLoose.abs_long.x, Cond.static Lib.MathLoose.abs_long.x, Cond.code Lib.MathLoose.abs_long.x Lib.MathLoose.abs_long.code 2 (some .long), Cond.methodLink RL 131 yX6_peak, Cond.instanceMethod yX6_peak, Cond.selects RX6 yX6_peak yX6_peak, Cond.code yX6_peak cX6_peak 8 (some .int), Cond.constantLong RX6 195 (-1), Cond.methodLink RL 132 yX5_total]
def wsL_law_r25 : List Cond := [Cond.instanceMethod yX5_total, Cond.selects RX5 yX5_total yX5_total, Cond.code yX5_total cX5_total 2 (some .int), Cond.methodLink RX5 204 yX5_countSheets, Cond.instanceMethod yX5_countSheets, Cond.selects RX5 yX5_countSheets yX5_countSheets, Cond.code yX5_countSheets cX5_countSheets 6 (some .int), Cond.methodLink RL 135 yX6_total, Cond.instanceMethod yX6_total, Cond.selects RX6 yX6_total yX6_total, Cond.code yX6_total cX6_total 4 (some .int)]
def wsL_law : List Cond := (wsL_law_r1 ++ (wsL_law_r2 ++ (wsL_law_r3 ++ (wsL_law_r4 ++ (wsL_law_r5 ++ (wsL_law_r6 ++ (wsL_law_r7 ++ (wsL_law_r8 ++ (wsL_law_r9 ++ (wsL_law_r10 ++ (wsL_law_r11 ++ (wsL_law_r12 ++ (wsL_law_r13 ++ (wsL_law_r14 ++ (wsL_law_r15 ++ (wsL_law_r16 ++ (wsL_law_r17 ++ (wsL_law_r18 ++ (wsL_law_r19 ++ (wsL_law_r20 ++ (wsL_law_r21 ++ (wsL_law_r22 ++ (wsL_law_r23 ++ (wsL_law_r24 ++ wsL_law_r25)))))))))))))))))))))))) ++ wsX50 ++ wsX60 ++ wsX10 ++ wsX30 ++ wsX00 ++ wsX40 ++ wsX20 ++ ([] : List Cond)
theorem inJ9 : ∀ w ∈ wsJ90, w ∈ lw_tbl := by decide +kernel
theorem inJ10 : ∀ w ∈ wsJ100, w ∈ lw_tbl := by decide +kernel
theorem inJ7 : ∀ w ∈ wsJ70, w ∈ lw_tbl := by decide +kernel
set_option maxRecDepth 20000 in
theorem ggX0_init_J7_fill_53178 : GoodIn wsX0_init wsJ7_fill_53178 := goodIn_r _ [12] (by decide +kernel) (by decide +kernel)
set_option maxRecDepth 20000 in
theorem gX0_init_J7_fill_53178 : GoodIn wsX0_init (va_wsS RX0 26 yJ7_fill_53178 wsJ7_fill_53178) := goodIn_app (goodIn_of _ (by decide +kernel)) ggX0_init_J7_fill_53178
theorem dX0_init_0 : decode cX0_init 0 = .ok (.aload_n 0, 1) := by decide +kernel
theorem dX0_init_1 : decode cX0_init 1 = .ok (.invokespecial 3, 3) := by decide +kernel
theorem dX0_init_4 : decode cX0_init 4 = .ok (.aload_n 0, 1) := by decide +kernel
theorem dX0_init_5 : decode cX0_init 5 = .ok (.iload_n 1, 1) := by decide +kernel
theorem dX0_init_6 : decode cX0_init 6 = .ok (.putfield 9, 3) := by decide +kernel
theorem dX0_init_9 : decode cX0_init 9 = .ok (.aload_n 0, 1) := by decide +kernel
theorem dX0_init_10 : decode cX0_init 10 = .ok (.iload_n 2, 1) := by decide +kernel
theorem dX0_init_11 : decode cX0_init 11 = .ok (.putfield 15, 3) := by decide +kernel
theorem dX0_init_14 : decode cX0_init 14 = .ok (.aload_n 0, 1) := by decide +kernel
theorem dX0_init_15 : decode cX0_init 15 = .ok (.iconst 1, 1) := by decide +kernel
theorem dX0_init_16 : decode cX0_init 16 = .ok (.putfield 18, 3) := by decide +kernel
theorem dX0_init_19 : decode cX0_init 19 = .ok (.aload_n 0, 1) := by decide +kernel
theorem dX0_init_20 : decode cX0_init 20 = .ok (.sipush 1581, 3) := by decide +kernel
theorem dX0_init_23 : decode cX0_init 23 = .ok (.newarray .int, 2) := by decide +kernel
theorem dX0_init_25 : decode cX0_init 25 = .ok (.putfield 22, 3) := by decide +kernel
theorem dX0_init_28 : decode cX0_init 28 = .ok (.aload_n 0, 1) := by decide +kernel
theorem dX0_init_29 : decode cX0_init 29 = .ok (.getfield 22, 3) := by decide +kernel
theorem dX0_init_32 : decode cX0_init 32 = .ok (.iconst (-1), 1) := by decide +kernel
theorem dX0_init_33 : decode cX0_init 33 = .ok (.invokestatic 26, 3) := by decide +kernel
theorem dX0_init_36 : decode cX0_init 36 = .ok (.return_, 1) := by decide +kernel
set_option maxRecDepth 20000 in
theorem ggX0_forgetTimes_J7_fill_53178 : GoodIn wsX0_forgetTimes wsJ7_fill_53178 := goodIn_r _ [5] (by decide +kernel) (by decide +kernel)
set_option maxRecDepth 20000 in
theorem gX0_forgetTimes_J7_fill_53178 : GoodIn wsX0_forgetTimes (va_wsS RX0 26 yJ7_fill_53178 wsJ7_fill_53178) := goodIn_app (goodIn_of _ (by decide +kernel)) ggX0_forgetTimes_J7_fill_53178
theorem dX0_forgetTimes_0 : decode cX0_forgetTimes 0 = .ok (.aload_n 0, 1) := by decide +kernel
theorem dX0_forgetTimes_1 : decode cX0_forgetTimes 1 = .ok (.getfield 22, 3) := by decide +kernel
theorem dX0_forgetTimes_4 : decode cX0_forgetTimes 4 = .ok (.iconst (-1), 1) := by decide +kernel
theorem dX0_forgetTimes_5 : decode cX0_forgetTimes 5 = .ok (.invokestatic 26, 3) := by decide +kernel
theorem dX0_forgetTimes_8 : decode cX0_forgetTimes 8 = .ok (.return_, 1) := by decide +kernel
set_option maxRecDepth 20000 in
theorem ggX1_init_X1_lay : GoodIn wsX1_init wsX1_lay := goodIn_r _ [12, 13, 14, 15, 7, 16, 17, 18, 11, 19, 5, 20, 21, 22, 23, 24, 25, 26, 27] (by decide +kernel) (by decide +kernel)
set_option maxRecDepth 20000 in
theorem gX1_init_X1_lay : GoodIn wsX1_init (wsV RX1 19 RX1 yX1_lay wsX1_lay) := goodIn_app (goodIn_of _ (by decide +kernel)) ggX1_init_X1_lay
theorem dX1_init_0 : decode cX1_init 0 = .ok (.aload_n 0, 1) := by decide +kernel
theorem dX1_init_1 : decode cX1_init 1 = .ok (.invokespecial 3, 3) := by decide +kernel
theorem dX1_init_4 : decode cX1_init 4 = .ok (.aload_n 0, 1) := by decide +kernel
theorem dX1_init_5 : decode cX1_init 5 = .ok (.sipush 1683, 3) := by decide +kernel
theorem dX1_init_8 : decode cX1_init 8 = .ok (.newarray .int, 2) := by decide +kernel
theorem dX1_init_10 : decode cX1_init 10 = .ok (.putfield 11, 3) := by decide +kernel
theorem dX1_init_13 : decode cX1_init 13 = .ok (.aload_n 0, 1) := by decide +kernel
theorem dX1_init_14 : decode cX1_init 14 = .ok (.bipush 33, 2) := by decide +kernel
theorem dX1_init_16 : decode cX1_init 16 = .ok (.newarray .boolean, 2) := by decide +kernel
theorem dX1_init_18 : decode cX1_init 18 = .ok (.putfield 15, 3) := by decide +kernel
theorem dX1_init_21 : decode cX1_init 21 = .ok (.aload_n 0, 1) := by decide +kernel
theorem dX1_init_22 : decode cX1_init 22 = .ok (.iconst 0, 1) := by decide +kernel
theorem dX1_init_23 : decode cX1_init 23 = .ok (.bipush 30, 2) := by decide +kernel
theorem dX1_init_25 : decode cX1_init 25 = .ok (.iconst 1, 1) := by decide +kernel
theorem dX1_init_26 : decode cX1_init 26 = .ok (.iconst 1, 1) := by decide +kernel
theorem dX1_init_27 : decode cX1_init 27 = .ok (.invokevirtual 19, 3) := by decide +kernel
theorem dX1_init_30 : decode cX1_init 30 = .ok (.return_, 1) := by decide +kernel
set_option maxRecDepth 20000 in
theorem ggX1_lay_X1_fillRow : GoodIn wsX1_lay wsX1_fillRow := goodIn_r _ [9, 10, 4, 11, 12, 13, 14, 15, 16, 17, 18] (by decide +kernel) (by decide +kernel)
set_option maxRecDepth 20000 in
theorem gX1_lay_X1_fillRow : GoodIn wsX1_lay (wsV RX1 33 RX1 yX1_fillRow wsX1_fillRow) := goodIn_app (goodIn_of _ (by decide +kernel)) ggX1_lay_X1_fillRow
theorem dX1_lay_0 : decode cX1_lay 0 = .ok (.aload_n 0, 1) := by decide +kernel
theorem dX1_lay_1 : decode cX1_lay 1 = .ok (.iload_n 1, 1) := by decide +kernel
theorem dX1_lay_2 : decode cX1_lay 2 = .ok (.putfield 23, 3) := by decide +kernel
theorem dX1_lay_5 : decode cX1_lay 5 = .ok (.aload_n 0, 1) := by decide +kernel
theorem dX1_lay_6 : decode cX1_lay 6 = .ok (.iload_n 2, 1) := by decide +kernel
theorem dX1_lay_7 : decode cX1_lay 7 = .ok (.putfield 27, 3) := by decide +kernel
theorem dX1_lay_10 : decode cX1_lay 10 = .ok (.aload_n 0, 1) := by decide +kernel
theorem dX1_lay_11 : decode cX1_lay 11 = .ok (.iload 4, 2) := by decide +kernel
theorem dX1_lay_13 : decode cX1_lay 13 = .ok (.putfield 30, 3) := by decide +kernel
theorem dX1_lay_16 : decode cX1_lay 16 = .ok (.iconst 0, 1) := by decide +kernel
theorem dX1_lay_17 : decode cX1_lay 17 = .ok (.istore 5, 2) := by decide +kernel
theorem dX1_lay_19 : decode cX1_lay 19 = .ok (.iload 5, 2) := by decide +kernel
theorem dX1_lay_21 : decode cX1_lay 21 = .ok (.aload_n 0, 1) := by decide +kernel
theorem dX1_lay_22 : decode cX1_lay 22 = .ok (.getfield 15, 3) := by decide +kernel
theorem dX1_lay_25 : decode cX1_lay 25 = .ok (.arraylength, 1) := by decide +kernel
theorem dX1_lay_26 : decode cX1_lay 26 = .ok (.if_icmp .ge 17, 3) := by decide +kernel
theorem dX1_lay_29 : decode cX1_lay 29 = .ok (.aload_n 0, 1) := by decide +kernel
theorem dX1_lay_30 : decode cX1_lay 30 = .ok (.getfield 15, 3) := by decide +kernel
theorem dX1_lay_33 : decode cX1_lay 33 = .ok (.iload 5, 2) := by decide +kernel
theorem dX1_lay_35 : decode cX1_lay 35 = .ok (.iconst 0, 1) := by decide +kernel
theorem dX1_lay_36 : decode cX1_lay 36 = .ok (.bastore, 1) := by decide +kernel
theorem dX1_lay_37 : decode cX1_lay 37 = .ok (.iinc 5 1, 3) := by decide +kernel
theorem dX1_lay_40 : decode cX1_lay 40 = .ok (.goto (-21), 3) := by decide +kernel
theorem dX1_lay_43 : decode cX1_lay 43 = .ok (.aload_n 0, 1) := by decide +kernel
theorem dX1_lay_44 : decode cX1_lay 44 = .ok (.bipush 32, 2) := by decide +kernel
theorem dX1_lay_46 : decode cX1_lay 46 = .ok (.iload_n 1, 1) := by decide +kernel
theorem dX1_lay_47 : decode cX1_lay 47 = .ok (.iload_n 3, 1) := by decide +kernel
theorem dX1_lay_48 : decode cX1_lay 48 = .ok (.invokevirtual 33, 3) := by decide +kernel
theorem dX1_lay_51 : decode cX1_lay 51 = .ok (.return_, 1) := by decide +kernel
theorem dX1_floor_0 : decode cX1_floor 0 = .ok (.aload_n 0, 1) := by decide +kernel
theorem dX1_floor_1 : decode cX1_floor 1 = .ok (.getfield 23, 3) := by decide +kernel
theorem dX1_floor_4 : decode cX1_floor 4 = .ok (.aload_n 0, 1) := by decide +kernel
theorem dX1_floor_5 : decode cX1_floor 5 = .ok (.getfield 27, 3) := by decide +kernel
theorem dX1_floor_8 : decode cX1_floor 8 = .ok (.iadd, 1) := by decide +kernel
theorem dX1_floor_9 : decode cX1_floor 9 = .ok (.ireturn, 1) := by decide +kernel
set_option maxRecDepth 20000 in
theorem ggX1_holds_X5_outside : GoodIn wsX1_holds wsX5_outside := goodIn_r _ [5] (by decide +kernel) (by decide +kernel)
set_option maxRecDepth 20000 in
theorem gX1_holds_X5_outside_n37 : GoodIn wsX1_holds (wsX5_outside) := ggX1_holds_X5_outside
theorem dX1_holds_0 : decode cX1_holds 0 = .ok (.iload_n 1, 1) := by decide +kernel
theorem dX1_holds_1 : decode cX1_holds 1 = .ok (.iconst 0, 1) := by decide +kernel
theorem dX1_holds_2 : decode cX1_holds 2 = .ok (.bipush 50, 2) := by decide +kernel
theorem dX1_holds_4 : decode cX1_holds 4 = .ok (.invokestatic 37, 3) := by decide +kernel
theorem dX1_holds_7 : decode cX1_holds 7 = .ok (.ifCond .ne 27, 3) := by decide +kernel
theorem dX1_holds_10 : decode cX1_holds 10 = .ok (.iload_n 2, 1) := by decide +kernel
theorem dX1_holds_11 : decode cX1_holds 11 = .ok (.aload_n 0, 1) := by decide +kernel
theorem dX1_holds_12 : decode cX1_holds 12 = .ok (.getfield 23, 3) := by decide +kernel
theorem dX1_holds_15 : decode cX1_holds 15 = .ok (.aload_n 0, 1) := by decide +kernel
theorem dX1_holds_16 : decode cX1_holds 16 = .ok (.getfield 23, 3) := by decide +kernel
theorem dX1_holds_19 : decode cX1_holds 19 = .ok (.aload_n 0, 1) := by decide +kernel
theorem dX1_holds_20 : decode cX1_holds 20 = .ok (.getfield 27, 3) := by decide +kernel
theorem dX1_holds_23 : decode cX1_holds 23 = .ok (.iadd, 1) := by decide +kernel
theorem dX1_holds_24 : decode cX1_holds 24 = .ok (.invokestatic 37, 3) := by decide +kernel
theorem dX1_holds_27 : decode cX1_holds 27 = .ok (.ifCond .ne 7, 3) := by decide +kernel
theorem dX1_holds_30 : decode cX1_holds 30 = .ok (.iconst 1, 1) := by decide +kernel
theorem dX1_holds_31 : decode cX1_holds 31 = .ok (.goto 4, 3) := by decide +kernel
theorem dX1_holds_34 : decode cX1_holds 34 = .ok (.iconst 0, 1) := by decide +kernel
theorem dX1_holds_35 : decode cX1_holds 35 = .ok (.ireturn, 1) := by decide +kernel
set_option maxRecDepth 20000 in
theorem ggX1_leastTicks_X5_outside : GoodIn wsX1_leastTicks wsX5_outside := goodIn_r _ [18] (by decide +kernel) (by decide +kernel)
set_option maxRecDepth 20000 in
theorem gX1_leastTicks_X5_outside_n37 : GoodIn wsX1_leastTicks (wsX5_outside) := ggX1_leastTicks_X5_outside
set_option maxRecDepth 20000 in
theorem ggX1_leastTicks_X1_fillRow : GoodIn wsX1_leastTicks wsX1_fillRow := goodIn_r _ [23, 12, 2, 16, 17, 18, 24, 25, 26, 27, 28] (by decide +kernel) (by decide +kernel)
set_option maxRecDepth 20000 in
theorem gX1_leastTicks_X1_fillRow : GoodIn wsX1_leastTicks (wsV RX1 33 RX1 yX1_fillRow wsX1_fillRow) := goodIn_app (goodIn_of _ (by decide +kernel)) ggX1_leastTicks_X1_fillRow
theorem dX1_leastTicks_0 : decode cX1_leastTicks 0 = .ok (.iload_n 1, 1) := by decide +kernel
theorem dX1_leastTicks_1 : decode cX1_leastTicks 1 = .ok (.iconst 0, 1) := by decide +kernel
theorem dX1_leastTicks_2 : decode cX1_leastTicks 2 = .ok (.bipush 50, 2) := by decide +kernel
theorem dX1_leastTicks_4 : decode cX1_leastTicks 4 = .ok (.invokestatic 37, 3) := by decide +kernel
theorem dX1_leastTicks_7 : decode cX1_leastTicks 7 = .ok (.ifCond .ne 23, 3) := by decide +kernel
theorem dX1_leastTicks_10 : decode cX1_leastTicks 10 = .ok (.iload_n 2, 1) := by decide +kernel
theorem dX1_leastTicks_11 : decode cX1_leastTicks 11 = .ok (.iconst 0, 1) := by decide +kernel
theorem dX1_leastTicks_12 : decode cX1_leastTicks 12 = .ok (.bipush 50, 2) := by decide +kernel
theorem dX1_leastTicks_14 : decode cX1_leastTicks 14 = .ok (.invokestatic 37, 3) := by decide +kernel
theorem dX1_leastTicks_17 : decode cX1_leastTicks 17 = .ok (.ifCond .ne 13, 3) := by decide +kernel
theorem dX1_leastTicks_20 : decode cX1_leastTicks 20 = .ok (.iload_n 3, 1) := by decide +kernel
theorem dX1_leastTicks_21 : decode cX1_leastTicks 21 = .ok (.iconst 0, 1) := by decide +kernel
theorem dX1_leastTicks_22 : decode cX1_leastTicks 22 = .ok (.bipush 31, 2) := by decide +kernel
theorem dX1_leastTicks_24 : decode cX1_leastTicks 24 = .ok (.invokestatic 37, 3) := by decide +kernel
theorem dX1_leastTicks_27 : decode cX1_leastTicks 27 = .ok (.ifCond .eq 6, 3) := by decide +kernel
theorem dX1_leastTicks_30 : decode cX1_leastTicks 30 = .ok (.ldc 41, 2) := by decide +kernel
theorem dX1_leastTicks_32 : decode cX1_leastTicks 32 = .ok (.ireturn, 1) := by decide +kernel
theorem dX1_leastTicks_33 : decode cX1_leastTicks 33 = .ok (.aload_n 0, 1) := by decide +kernel
theorem dX1_leastTicks_34 : decode cX1_leastTicks 34 = .ok (.getfield 15, 3) := by decide +kernel
theorem dX1_leastTicks_37 : decode cX1_leastTicks 37 = .ok (.iload_n 3, 1) := by decide +kernel
theorem dX1_leastTicks_38 : decode cX1_leastTicks 38 = .ok (.baload, 1) := by decide +kernel
theorem dX1_leastTicks_39 : decode cX1_leastTicks 39 = .ok (.ifCond .ne 13, 3) := by decide +kernel
theorem dX1_leastTicks_42 : decode cX1_leastTicks 42 = .ok (.aload_n 0, 1) := by decide +kernel
theorem dX1_leastTicks_43 : decode cX1_leastTicks 43 = .ok (.iload_n 3, 1) := by decide +kernel
theorem dX1_leastTicks_44 : decode cX1_leastTicks 44 = .ok (.iload_n 3, 1) := by decide +kernel
theorem dX1_leastTicks_45 : decode cX1_leastTicks 45 = .ok (.aload_n 0, 1) := by decide +kernel
theorem dX1_leastTicks_46 : decode cX1_leastTicks 46 = .ok (.getfield 30, 3) := by decide +kernel
theorem dX1_leastTicks_49 : decode cX1_leastTicks 49 = .ok (.invokevirtual 33, 3) := by decide +kernel
theorem dX1_leastTicks_52 : decode cX1_leastTicks 52 = .ok (.ldc 42, 2) := by decide +kernel
theorem dX1_leastTicks_54 : decode cX1_leastTicks 54 = .ok (.istore 4, 2) := by decide +kernel
theorem dX1_leastTicks_56 : decode cX1_leastTicks 56 = .ok (.iload_n 1, 1) := by decide +kernel
theorem dX1_leastTicks_57 : decode cX1_leastTicks 57 = .ok (.iload_n 2, 1) := by decide +kernel
theorem dX1_leastTicks_58 : decode cX1_leastTicks 58 = .ok (.invokestatic 43, 3) := by decide +kernel
theorem dX1_leastTicks_61 : decode cX1_leastTicks 61 = .ok (.istore 5, 2) := by decide +kernel
theorem dX1_leastTicks_63 : decode cX1_leastTicks 63 = .ok (.iload_n 1, 1) := by decide +kernel
theorem dX1_leastTicks_64 : decode cX1_leastTicks 64 = .ok (.iload_n 2, 1) := by decide +kernel
theorem dX1_leastTicks_65 : decode cX1_leastTicks 65 = .ok (.invokestatic 49, 3) := by decide +kernel
theorem dX1_leastTicks_68 : decode cX1_leastTicks 68 = .ok (.istore 6, 2) := by decide +kernel
theorem dX1_leastTicks_70 : decode cX1_leastTicks 70 = .ok (.iload 6, 2) := by decide +kernel
theorem dX1_leastTicks_72 : decode cX1_leastTicks 72 = .ok (.iload 5, 2) := by decide +kernel
theorem dX1_leastTicks_74 : decode cX1_leastTicks 74 = .ok (.if_icmp .gt 58, 3) := by decide +kernel
theorem dX1_leastTicks_77 : decode cX1_leastTicks 77 = .ok (.aload_n 0, 1) := by decide +kernel
theorem dX1_leastTicks_78 : decode cX1_leastTicks 78 = .ok (.getfield 11, 3) := by decide +kernel
theorem dX1_leastTicks_81 : decode cX1_leastTicks 81 = .ok (.sipush 1632, 3) := by decide +kernel
theorem dX1_leastTicks_84 : decode cX1_leastTicks 84 = .ok (.iload_n 1, 1) := by decide +kernel
theorem dX1_leastTicks_85 : decode cX1_leastTicks 85 = .ok (.iload 6, 2) := by decide +kernel
theorem dX1_leastTicks_87 : decode cX1_leastTicks 87 = .ok (.isub, 1) := by decide +kernel
theorem dX1_leastTicks_88 : decode cX1_leastTicks 88 = .ok (.invokestatic 52, 3) := by decide +kernel
theorem dX1_leastTicks_91 : decode cX1_leastTicks 91 = .ok (.iadd, 1) := by decide +kernel
theorem dX1_leastTicks_92 : decode cX1_leastTicks 92 = .ok (.iaload, 1) := by decide +kernel
theorem dX1_leastTicks_93 : decode cX1_leastTicks 93 = .ok (.istore 7, 2) := by decide +kernel
theorem dX1_leastTicks_95 : decode cX1_leastTicks 95 = .ok (.aload_n 0, 1) := by decide +kernel
theorem dX1_leastTicks_96 : decode cX1_leastTicks 96 = .ok (.getfield 11, 3) := by decide +kernel
theorem dX1_leastTicks_99 : decode cX1_leastTicks 99 = .ok (.iload_n 3, 1) := by decide +kernel
theorem dX1_leastTicks_100 : decode cX1_leastTicks 100 = .ok (.bipush 51, 2) := by decide +kernel
theorem dX1_leastTicks_102 : decode cX1_leastTicks 102 = .ok (.imul, 1) := by decide +kernel
theorem dX1_leastTicks_103 : decode cX1_leastTicks 103 = .ok (.iload 6, 2) := by decide +kernel
theorem dX1_leastTicks_105 : decode cX1_leastTicks 105 = .ok (.iload_n 2, 1) := by decide +kernel
theorem dX1_leastTicks_106 : decode cX1_leastTicks 106 = .ok (.isub, 1) := by decide +kernel
theorem dX1_leastTicks_107 : decode cX1_leastTicks 107 = .ok (.invokestatic 52, 3) := by decide +kernel
theorem dX1_leastTicks_110 : decode cX1_leastTicks 110 = .ok (.iadd, 1) := by decide +kernel
theorem dX1_leastTicks_111 : decode cX1_leastTicks 111 = .ok (.iaload, 1) := by decide +kernel
theorem dX1_leastTicks_112 : decode cX1_leastTicks 112 = .ok (.istore 8, 2) := by decide +kernel
theorem dX1_leastTicks_114 : decode cX1_leastTicks 114 = .ok (.iload 4, 2) := by decide +kernel
theorem dX1_leastTicks_116 : decode cX1_leastTicks 116 = .ok (.iload 7, 2) := by decide +kernel
theorem dX1_leastTicks_118 : decode cX1_leastTicks 118 = .ok (.iload 8, 2) := by decide +kernel
theorem dX1_leastTicks_120 : decode cX1_leastTicks 120 = .ok (.iadd, 1) := by decide +kernel
theorem dX1_leastTicks_121 : decode cX1_leastTicks 121 = .ok (.invokestatic 49, 3) := by decide +kernel
theorem dX1_leastTicks_124 : decode cX1_leastTicks 124 = .ok (.istore 4, 2) := by decide +kernel
theorem dX1_leastTicks_126 : decode cX1_leastTicks 126 = .ok (.iinc 6 1, 3) := by decide +kernel
theorem dX1_leastTicks_129 : decode cX1_leastTicks 129 = .ok (.goto (-59), 3) := by decide +kernel
theorem dX1_leastTicks_132 : decode cX1_leastTicks 132 = .ok (.iload 4, 2) := by decide +kernel
theorem dX1_leastTicks_134 : decode cX1_leastTicks 134 = .ok (.ireturn, 1) := by decide +kernel
set_option maxRecDepth 20000 in
theorem ggX1_leastBend_X1_leastTicks : GoodIn wsX1_leastBend wsX1_leastTicks := goodIn_r _ [11, 1, 12, 13, 14, 15, 16, 5, 17, 18, 19, 20, 2, 3, 4, 6, 21, 22, 23, 24, 25, 26, 10, 27, 28, 29, 30, 31, 32] (by decide +kernel) (by decide +kernel)
set_option maxRecDepth 20000 in
theorem gX1_leastBend_X1_leastTicks : GoodIn wsX1_leastBend (wsV RX1 56 RX1 yX1_leastTicks wsX1_leastTicks) := goodIn_app (goodIn_of _ (by decide +kernel)) ggX1_leastBend_X1_leastTicks
theorem dX1_leastBend_0 : decode cX1_leastBend 0 = .ok (.aload_n 0, 1) := by decide +kernel
theorem dX1_leastBend_1 : decode cX1_leastBend 1 = .ok (.iload_n 1, 1) := by decide +kernel
theorem dX1_leastBend_2 : decode cX1_leastBend 2 = .ok (.iload_n 2, 1) := by decide +kernel
theorem dX1_leastBend_3 : decode cX1_leastBend 3 = .ok (.iload_n 3, 1) := by decide +kernel
theorem dX1_leastBend_4 : decode cX1_leastBend 4 = .ok (.invokevirtual 56, 3) := by decide +kernel
theorem dX1_leastBend_7 : decode cX1_leastBend 7 = .ok (.istore 4, 2) := by decide +kernel
theorem dX1_leastBend_9 : decode cX1_leastBend 9 = .ok (.iload 4, 2) := by decide +kernel
theorem dX1_leastBend_11 : decode cX1_leastBend 11 = .ok (.ifCond .ge 6, 3) := by decide +kernel
theorem dX1_leastBend_14 : decode cX1_leastBend 14 = .ok (.ldc 41, 2) := by decide +kernel
theorem dX1_leastBend_16 : decode cX1_leastBend 16 = .ok (.ireturn, 1) := by decide +kernel
theorem dX1_leastBend_17 : decode cX1_leastBend 17 = .ok (.iconst 0, 1) := by decide +kernel
theorem dX1_leastBend_18 : decode cX1_leastBend 18 = .ok (.istore 5, 2) := by decide +kernel
theorem dX1_leastBend_20 : decode cX1_leastBend 20 = .ok (.iload 5, 2) := by decide +kernel
theorem dX1_leastBend_22 : decode cX1_leastBend 22 = .ok (.bipush 50, 2) := by decide +kernel
theorem dX1_leastBend_24 : decode cX1_leastBend 24 = .ok (.if_icmp .gt 59, 3) := by decide +kernel
theorem dX1_leastBend_27 : decode cX1_leastBend 27 = .ok (.aload_n 0, 1) := by decide +kernel
theorem dX1_leastBend_28 : decode cX1_leastBend 28 = .ok (.getfield 11, 3) := by decide +kernel
theorem dX1_leastBend_31 : decode cX1_leastBend 31 = .ok (.sipush 1632, 3) := by decide +kernel
theorem dX1_leastBend_34 : decode cX1_leastBend 34 = .ok (.iload_n 1, 1) := by decide +kernel
theorem dX1_leastBend_35 : decode cX1_leastBend 35 = .ok (.iload 5, 2) := by decide +kernel
theorem dX1_leastBend_37 : decode cX1_leastBend 37 = .ok (.isub, 1) := by decide +kernel
theorem dX1_leastBend_38 : decode cX1_leastBend 38 = .ok (.invokestatic 52, 3) := by decide +kernel
theorem dX1_leastBend_41 : decode cX1_leastBend 41 = .ok (.iadd, 1) := by decide +kernel
theorem dX1_leastBend_42 : decode cX1_leastBend 42 = .ok (.iaload, 1) := by decide +kernel
theorem dX1_leastBend_43 : decode cX1_leastBend 43 = .ok (.istore 6, 2) := by decide +kernel
theorem dX1_leastBend_45 : decode cX1_leastBend 45 = .ok (.aload_n 0, 1) := by decide +kernel
theorem dX1_leastBend_46 : decode cX1_leastBend 46 = .ok (.getfield 11, 3) := by decide +kernel
theorem dX1_leastBend_49 : decode cX1_leastBend 49 = .ok (.iload_n 3, 1) := by decide +kernel
theorem dX1_leastBend_50 : decode cX1_leastBend 50 = .ok (.bipush 51, 2) := by decide +kernel
theorem dX1_leastBend_52 : decode cX1_leastBend 52 = .ok (.imul, 1) := by decide +kernel
theorem dX1_leastBend_53 : decode cX1_leastBend 53 = .ok (.iload 5, 2) := by decide +kernel
theorem dX1_leastBend_55 : decode cX1_leastBend 55 = .ok (.iload_n 2, 1) := by decide +kernel
theorem dX1_leastBend_56 : decode cX1_leastBend 56 = .ok (.isub, 1) := by decide +kernel
theorem dX1_leastBend_57 : decode cX1_leastBend 57 = .ok (.invokestatic 52, 3) := by decide +kernel
theorem dX1_leastBend_60 : decode cX1_leastBend 60 = .ok (.iadd, 1) := by decide +kernel
theorem dX1_leastBend_61 : decode cX1_leastBend 61 = .ok (.iaload, 1) := by decide +kernel
theorem dX1_leastBend_62 : decode cX1_leastBend 62 = .ok (.istore 7, 2) := by decide +kernel
theorem dX1_leastBend_64 : decode cX1_leastBend 64 = .ok (.iload 6, 2) := by decide +kernel
theorem dX1_leastBend_66 : decode cX1_leastBend 66 = .ok (.iload 7, 2) := by decide +kernel
theorem dX1_leastBend_68 : decode cX1_leastBend 68 = .ok (.iadd, 1) := by decide +kernel
theorem dX1_leastBend_69 : decode cX1_leastBend 69 = .ok (.iload 4, 2) := by decide +kernel
theorem dX1_leastBend_71 : decode cX1_leastBend 71 = .ok (.if_icmp .ne 6, 3) := by decide +kernel
theorem dX1_leastBend_74 : decode cX1_leastBend 74 = .ok (.iload 5, 2) := by decide +kernel
theorem dX1_leastBend_76 : decode cX1_leastBend 76 = .ok (.ireturn, 1) := by decide +kernel
theorem dX1_leastBend_77 : decode cX1_leastBend 77 = .ok (.iinc 5 1, 3) := by decide +kernel
theorem dX1_leastBend_80 : decode cX1_leastBend 80 = .ok (.goto (-60), 3) := by decide +kernel
theorem dX1_leastBend_83 : decode cX1_leastBend 83 = .ok (.ldc 41, 2) := by decide +kernel
theorem dX1_leastBend_85 : decode cX1_leastBend 85 = .ok (.ireturn, 1) := by decide +kernel
set_option maxRecDepth 20000 in
theorem ggX1_wallTicks_X1_fillRow : GoodIn wsX1_wallTicks wsX1_fillRow := goodIn_r _ [11, 12, 13, 14, 15, 16, 29, 30, 31, 32, 33] (by decide +kernel) (by decide +kernel)
set_option maxRecDepth 20000 in
theorem gX1_wallTicks_X1_fillRow : GoodIn wsX1_wallTicks (wsV RX1 33 RX1 yX1_fillRow wsX1_fillRow) := goodIn_app (goodIn_of _ (by decide +kernel)) ggX1_wallTicks_X1_fillRow
set_option maxRecDepth 20000 in
theorem ggX1_wallTicks_X1_leastTicks : GoodIn wsX1_wallTicks wsX1_leastTicks := goodIn_r _ [20, 21, 13, 22, 2, 23, 24, 5, 25, 3, 4, 6, 12, 26, 27, 28, 14, 15, 16, 7, 8, 9, 10, 11, 29, 30, 31, 32, 33] (by decide +kernel) (by decide +kernel)
set_option maxRecDepth 20000 in
theorem gX1_wallTicks_X1_leastTicks : GoodIn wsX1_wallTicks (wsV RX1 56 RX1 yX1_leastTicks wsX1_leastTicks) := goodIn_app (goodIn_of _ (by decide +kernel)) ggX1_wallTicks_X1_leastTicks
theorem dX1_wallTicks_0 : decode cX1_wallTicks 0 = .ok (.aload_n 0, 1) := by decide +kernel
theorem dX1_wallTicks_1 : decode cX1_wallTicks 1 = .ok (.bipush 31, 2) := by decide +kernel
theorem dX1_wallTicks_3 : decode cX1_wallTicks 3 = .ok (.aload_n 0, 1) := by decide +kernel
theorem dX1_wallTicks_4 : decode cX1_wallTicks 4 = .ok (.getfield 27, 3) := by decide +kernel
theorem dX1_wallTicks_7 : decode cX1_wallTicks 7 = .ok (.iload_n 3, 1) := by decide +kernel
theorem dX1_wallTicks_8 : decode cX1_wallTicks 8 = .ok (.invokevirtual 33, 3) := by decide +kernel
theorem dX1_wallTicks_11 : decode cX1_wallTicks 11 = .ok (.ldc 42, 2) := by decide +kernel
theorem dX1_wallTicks_13 : decode cX1_wallTicks 13 = .ok (.istore 4, 2) := by decide +kernel
theorem dX1_wallTicks_15 : decode cX1_wallTicks 15 = .ok (.iconst 0, 1) := by decide +kernel
theorem dX1_wallTicks_16 : decode cX1_wallTicks 16 = .ok (.istore 5, 2) := by decide +kernel
theorem dX1_wallTicks_18 : decode cX1_wallTicks 18 = .ok (.iload 5, 2) := by decide +kernel
theorem dX1_wallTicks_20 : decode cX1_wallTicks 20 = .ok (.bipush 50, 2) := by decide +kernel
theorem dX1_wallTicks_22 : decode cX1_wallTicks 22 = .ok (.if_icmp .gt 35, 3) := by decide +kernel
theorem dX1_wallTicks_25 : decode cX1_wallTicks 25 = .ok (.iload 4, 2) := by decide +kernel
theorem dX1_wallTicks_27 : decode cX1_wallTicks 27 = .ok (.aload_n 0, 1) := by decide +kernel
theorem dX1_wallTicks_28 : decode cX1_wallTicks 28 = .ok (.iload_n 1, 1) := by decide +kernel
theorem dX1_wallTicks_29 : decode cX1_wallTicks 29 = .ok (.iload 5, 2) := by decide +kernel
theorem dX1_wallTicks_31 : decode cX1_wallTicks 31 = .ok (.bipush 31, 2) := by decide +kernel
theorem dX1_wallTicks_33 : decode cX1_wallTicks 33 = .ok (.invokevirtual 56, 3) := by decide +kernel
theorem dX1_wallTicks_36 : decode cX1_wallTicks 36 = .ok (.aload_n 0, 1) := by decide +kernel
theorem dX1_wallTicks_37 : decode cX1_wallTicks 37 = .ok (.iload_n 2, 1) := by decide +kernel
theorem dX1_wallTicks_38 : decode cX1_wallTicks 38 = .ok (.iload 5, 2) := by decide +kernel
theorem dX1_wallTicks_40 : decode cX1_wallTicks 40 = .ok (.bipush 31, 2) := by decide +kernel
theorem dX1_wallTicks_42 : decode cX1_wallTicks 42 = .ok (.invokevirtual 56, 3) := by decide +kernel
theorem dX1_wallTicks_45 : decode cX1_wallTicks 45 = .ok (.iadd, 1) := by decide +kernel
theorem dX1_wallTicks_46 : decode cX1_wallTicks 46 = .ok (.invokestatic 49, 3) := by decide +kernel
theorem dX1_wallTicks_49 : decode cX1_wallTicks 49 = .ok (.istore 4, 2) := by decide +kernel
theorem dX1_wallTicks_51 : decode cX1_wallTicks 51 = .ok (.iinc 5 1, 3) := by decide +kernel
theorem dX1_wallTicks_54 : decode cX1_wallTicks 54 = .ok (.goto (-36), 3) := by decide +kernel
theorem dX1_wallTicks_57 : decode cX1_wallTicks 57 = .ok (.iload 4, 2) := by decide +kernel
theorem dX1_wallTicks_59 : decode cX1_wallTicks 59 = .ok (.ireturn, 1) := by decide +kernel
set_option maxRecDepth 20000 in
theorem ggX1_fillRow_X5_outside : GoodIn wsX1_fillRow wsX5_outside := goodIn_r _ [5] (by decide +kernel) (by decide +kernel)
set_option maxRecDepth 20000 in
theorem gX1_fillRow_X5_outside_n37 : GoodIn wsX1_fillRow (wsX5_outside) := ggX1_fillRow_X5_outside
theorem dX1_fillRow_0 : decode cX1_fillRow 0 = .ok (.iload_n 1, 1) := by decide +kernel
theorem dX1_fillRow_1 : decode cX1_fillRow 1 = .ok (.iconst 0, 1) := by decide +kernel
theorem dX1_fillRow_2 : decode cX1_fillRow 2 = .ok (.bipush 32, 2) := by decide +kernel
theorem dX1_fillRow_4 : decode cX1_fillRow 4 = .ok (.invokestatic 37, 3) := by decide +kernel
theorem dX1_fillRow_7 : decode cX1_fillRow 7 = .ok (.ifCond .eq 4, 3) := by decide +kernel
theorem dX1_fillRow_10 : decode cX1_fillRow 10 = .ok (.return_, 1) := by decide +kernel
theorem dX1_fillRow_11 : decode cX1_fillRow 11 = .ok (.iload_n 3, 1) := by decide +kernel
theorem dX1_fillRow_12 : decode cX1_fillRow 12 = .ok (.iload_n 2, 1) := by decide +kernel
theorem dX1_fillRow_13 : decode cX1_fillRow 13 = .ok (.imul, 1) := by decide +kernel
theorem dX1_fillRow_14 : decode cX1_fillRow 14 = .ok (.istore 4, 2) := by decide +kernel
theorem dX1_fillRow_16 : decode cX1_fillRow 16 = .ok (.iconst 0, 1) := by decide +kernel
theorem dX1_fillRow_17 : decode cX1_fillRow 17 = .ok (.istore 5, 2) := by decide +kernel
theorem dX1_fillRow_19 : decode cX1_fillRow 19 = .ok (.iload 5, 2) := by decide +kernel
theorem dX1_fillRow_21 : decode cX1_fillRow 21 = .ok (.bipush 50, 2) := by decide +kernel
theorem dX1_fillRow_23 : decode cX1_fillRow 23 = .ok (.if_icmp .gt 58, 3) := by decide +kernel
theorem dX1_fillRow_26 : decode cX1_fillRow 26 = .ok (.iload_n 3, 1) := by decide +kernel
theorem dX1_fillRow_27 : decode cX1_fillRow 27 = .ok (.iload_n 3, 1) := by decide +kernel
theorem dX1_fillRow_28 : decode cX1_fillRow 28 = .ok (.imul, 1) := by decide +kernel
theorem dX1_fillRow_29 : decode cX1_fillRow 29 = .ok (.iload 5, 2) := by decide +kernel
theorem dX1_fillRow_31 : decode cX1_fillRow 31 = .ok (.iload 5, 2) := by decide +kernel
theorem dX1_fillRow_33 : decode cX1_fillRow 33 = .ok (.imul, 1) := by decide +kernel
theorem dX1_fillRow_34 : decode cX1_fillRow 34 = .ok (.iload_n 2, 1) := by decide +kernel
theorem dX1_fillRow_35 : decode cX1_fillRow 35 = .ok (.iload_n 2, 1) := by decide +kernel
theorem dX1_fillRow_36 : decode cX1_fillRow 36 = .ok (.imul, 1) := by decide +kernel
theorem dX1_fillRow_37 : decode cX1_fillRow 37 = .ok (.iadd, 1) := by decide +kernel
theorem dX1_fillRow_38 : decode cX1_fillRow 38 = .ok (.imul, 1) := by decide +kernel
theorem dX1_fillRow_39 : decode cX1_fillRow 39 = .ok (.istore 6, 2) := by decide +kernel
theorem dX1_fillRow_41 : decode cX1_fillRow 41 = .ok (.iload 4, 2) := by decide +kernel
theorem dX1_fillRow_43 : decode cX1_fillRow 43 = .ok (.iconst 1, 1) := by decide +kernel
theorem dX1_fillRow_44 : decode cX1_fillRow 44 = .ok (.iadd, 1) := by decide +kernel
theorem dX1_fillRow_45 : decode cX1_fillRow 45 = .ok (.iload 4, 2) := by decide +kernel
theorem dX1_fillRow_47 : decode cX1_fillRow 47 = .ok (.iconst 1, 1) := by decide +kernel
theorem dX1_fillRow_48 : decode cX1_fillRow 48 = .ok (.iadd, 1) := by decide +kernel
theorem dX1_fillRow_49 : decode cX1_fillRow 49 = .ok (.imul, 1) := by decide +kernel
theorem dX1_fillRow_50 : decode cX1_fillRow 50 = .ok (.iload 6, 2) := by decide +kernel
theorem dX1_fillRow_52 : decode cX1_fillRow 52 = .ok (.if_icmp .gt 9, 3) := by decide +kernel
theorem dX1_fillRow_55 : decode cX1_fillRow 55 = .ok (.iinc 4 1, 3) := by decide +kernel
theorem dX1_fillRow_58 : decode cX1_fillRow 58 = .ok (.goto (-17), 3) := by decide +kernel
theorem dX1_fillRow_61 : decode cX1_fillRow 61 = .ok (.aload_n 0, 1) := by decide +kernel
theorem dX1_fillRow_62 : decode cX1_fillRow 62 = .ok (.getfield 11, 3) := by decide +kernel
theorem dX1_fillRow_65 : decode cX1_fillRow 65 = .ok (.iload_n 1, 1) := by decide +kernel
theorem dX1_fillRow_66 : decode cX1_fillRow 66 = .ok (.bipush 51, 2) := by decide +kernel
theorem dX1_fillRow_68 : decode cX1_fillRow 68 = .ok (.imul, 1) := by decide +kernel
theorem dX1_fillRow_69 : decode cX1_fillRow 69 = .ok (.iload 5, 2) := by decide +kernel
theorem dX1_fillRow_71 : decode cX1_fillRow 71 = .ok (.iadd, 1) := by decide +kernel
theorem dX1_fillRow_72 : decode cX1_fillRow 72 = .ok (.iload 4, 2) := by decide +kernel
theorem dX1_fillRow_74 : decode cX1_fillRow 74 = .ok (.iastore, 1) := by decide +kernel
theorem dX1_fillRow_75 : decode cX1_fillRow 75 = .ok (.iinc 5 1, 3) := by decide +kernel
theorem dX1_fillRow_78 : decode cX1_fillRow 78 = .ok (.goto (-59), 3) := by decide +kernel
theorem dX1_fillRow_81 : decode cX1_fillRow 81 = .ok (.aload_n 0, 1) := by decide +kernel
theorem dX1_fillRow_82 : decode cX1_fillRow 82 = .ok (.getfield 15, 3) := by decide +kernel
theorem dX1_fillRow_85 : decode cX1_fillRow 85 = .ok (.iload_n 1, 1) := by decide +kernel
theorem dX1_fillRow_86 : decode cX1_fillRow 86 = .ok (.iconst 1, 1) := by decide +kernel
theorem dX1_fillRow_87 : decode cX1_fillRow 87 = .ok (.bastore, 1) := by decide +kernel
theorem dX1_fillRow_88 : decode cX1_fillRow 88 = .ok (.return_, 1) := by decide +kernel
theorem dX2_init_0 : decode cX2_init 0 = .ok (.aload_n 0, 1) := by decide +kernel
theorem dX2_init_1 : decode cX2_init 1 = .ok (.invokespecial 3, 3) := by decide +kernel
theorem dX2_init_4 : decode cX2_init 4 = .ok (.aload_n 0, 1) := by decide +kernel
theorem dX2_init_5 : decode cX2_init 5 = .ok (.iload_n 1, 1) := by decide +kernel
theorem dX2_init_6 : decode cX2_init 6 = .ok (.putfield 9, 3) := by decide +kernel
theorem dX2_init_9 : decode cX2_init 9 = .ok (.aload_n 0, 1) := by decide +kernel
theorem dX2_init_10 : decode cX2_init 10 = .ok (.iload_n 2, 1) := by decide +kernel
theorem dX2_init_11 : decode cX2_init 11 = .ok (.newarray .int, 2) := by decide +kernel
theorem dX2_init_13 : decode cX2_init 13 = .ok (.putfield 15, 3) := by decide +kernel
theorem dX2_init_16 : decode cX2_init 16 = .ok (.return_, 1) := by decide +kernel
theorem dX2_hasRun_0 : decode cX2_hasRun 0 = .ok (.iload_n 1, 1) := by decide +kernel
theorem dX2_hasRun_1 : decode cX2_hasRun 1 = .ok (.ifCond .lt 22, 3) := by decide +kernel
theorem dX2_hasRun_4 : decode cX2_hasRun 4 = .ok (.iload_n 1, 1) := by decide +kernel
theorem dX2_hasRun_5 : decode cX2_hasRun 5 = .ok (.i2l, 1) := by decide +kernel
theorem dX2_hasRun_6 : decode cX2_hasRun 6 = .ok (.iload_n 2, 1) := by decide +kernel
theorem dX2_hasRun_7 : decode cX2_hasRun 7 = .ok (.i2l, 1) := by decide +kernel
theorem dX2_hasRun_8 : decode cX2_hasRun 8 = .ok (.ladd, 1) := by decide +kernel
theorem dX2_hasRun_9 : decode cX2_hasRun 9 = .ok (.aload_n 0, 1) := by decide +kernel
theorem dX2_hasRun_10 : decode cX2_hasRun 10 = .ok (.getfield 15, 3) := by decide +kernel
theorem dX2_hasRun_13 : decode cX2_hasRun 13 = .ok (.arraylength, 1) := by decide +kernel
theorem dX2_hasRun_14 : decode cX2_hasRun 14 = .ok (.i2l, 1) := by decide +kernel
theorem dX2_hasRun_15 : decode cX2_hasRun 15 = .ok (.lcmp, 1) := by decide +kernel
theorem dX2_hasRun_16 : decode cX2_hasRun 16 = .ok (.ifCond .gt 7, 3) := by decide +kernel
theorem dX2_hasRun_19 : decode cX2_hasRun 19 = .ok (.iconst 1, 1) := by decide +kernel
theorem dX2_hasRun_20 : decode cX2_hasRun 20 = .ok (.goto 4, 3) := by decide +kernel
theorem dX2_hasRun_23 : decode cX2_hasRun 23 = .ok (.iconst 0, 1) := by decide +kernel
theorem dX2_hasRun_24 : decode cX2_hasRun 24 = .ok (.ireturn, 1) := by decide +kernel
theorem dX2_nearestTo_0 : decode cX2_nearestTo 0 = .ok (.aload_n 0, 1) := by decide +kernel
theorem dX2_nearestTo_1 : decode cX2_nearestTo 1 = .ok (.getfield 9, 3) := by decide +kernel
theorem dX2_nearestTo_4 : decode cX2_nearestTo 4 = .ok (.ifCond .ne 9, 3) := by decide +kernel
theorem dX2_nearestTo_7 : decode cX2_nearestTo 7 = .ok (.ldc2_w 19, 3) := by decide +kernel
theorem dX2_nearestTo_10 : decode cX2_nearestTo 10 = .ok (.goto 20, 3) := by decide +kernel
theorem dX2_nearestTo_13 : decode cX2_nearestTo 13 = .ok (.aload_n 0, 1) := by decide +kernel
theorem dX2_nearestTo_14 : decode cX2_nearestTo 14 = .ok (.getfield 9, 3) := by decide +kernel
theorem dX2_nearestTo_17 : decode cX2_nearestTo 17 = .ok (.iconst 1, 1) := by decide +kernel
theorem dX2_nearestTo_18 : decode cX2_nearestTo 18 = .ok (.if_icmp .ne 9, 3) := by decide +kernel
theorem dX2_nearestTo_21 : decode cX2_nearestTo 21 = .ok (.ldc2_w 21, 3) := by decide +kernel
theorem dX2_nearestTo_24 : decode cX2_nearestTo 24 = .ok (.goto 6, 3) := by decide +kernel
theorem dX2_nearestTo_27 : decode cX2_nearestTo 27 = .ok (.ldc2_w 23, 3) := by decide +kernel
theorem dX2_nearestTo_30 : decode cX2_nearestTo 30 = .ok (.lstore_n 3, 1) := by decide +kernel
theorem dX2_nearestTo_31 : decode cX2_nearestTo 31 = .ok (.lload_n 3, 1) := by decide +kernel
theorem dX2_nearestTo_32 : decode cX2_nearestTo 32 = .ok (.lneg, 1) := by decide +kernel
theorem dX2_nearestTo_33 : decode cX2_nearestTo 33 = .ok (.lconst 1, 1) := by decide +kernel
theorem dX2_nearestTo_34 : decode cX2_nearestTo 34 = .ok (.lsub, 1) := by decide +kernel
theorem dX2_nearestTo_35 : decode cX2_nearestTo 35 = .ok (.lstore 5, 2) := by decide +kernel
theorem dX2_nearestTo_37 : decode cX2_nearestTo 37 = .ok (.lload 5, 2) := by decide +kernel
theorem dX2_nearestTo_39 : decode cX2_nearestTo 39 = .ok (.lload_n 3, 1) := by decide +kernel
theorem dX2_nearestTo_40 : decode cX2_nearestTo 40 = .ok (.lload_n 1, 1) := by decide +kernel
theorem dX2_nearestTo_41 : decode cX2_nearestTo 41 = .ok (.invokestatic 25, 3) := by decide +kernel
theorem dX2_nearestTo_44 : decode cX2_nearestTo 44 = .ok (.invokestatic 31, 3) := by decide +kernel
theorem dX2_nearestTo_47 : decode cX2_nearestTo 47 = .ok (.l2i, 1) := by decide +kernel
theorem dX2_nearestTo_48 : decode cX2_nearestTo 48 = .ok (.ireturn, 1) := by decide +kernel
set_option maxRecDepth 20000 in
theorem ggX3_init_J7_fill_53178 : GoodIn wsX3_init wsJ7_fill_53178 := goodIn_r _ [14] (by decide +kernel) (by decide +kernel)
set_option maxRecDepth 20000 in
theorem gX3_init_J7_fill_53178 : GoodIn wsX3_init (va_wsS RX3 31 yJ7_fill_53178 wsJ7_fill_53178) := goodIn_app (goodIn_of _ (by decide +kernel)) ggX3_init_J7_fill_53178
theorem dX3_init_0 : decode cX3_init 0 = .ok (.aload_n 0, 1) := by decide +kernel
theorem dX3_init_1 : decode cX3_init 1 = .ok (.invokespecial 3, 3) := by decide +kernel
theorem dX3_init_4 : decode cX3_init 4 = .ok (.aload_n 0, 1) := by decide +kernel
theorem dX3_init_5 : decode cX3_init 5 = .ok (.iload_n 1, 1) := by decide +kernel
theorem dX3_init_6 : decode cX3_init 6 = .ok (.putfield 9, 3) := by decide +kernel
theorem dX3_init_9 : decode cX3_init 9 = .ok (.aload_n 0, 1) := by decide +kernel
theorem dX3_init_10 : decode cX3_init 10 = .ok (.iload_n 2, 1) := by decide +kernel
theorem dX3_init_11 : decode cX3_init 11 = .ok (.putfield 15, 3) := by decide +kernel
theorem dX3_init_14 : decode cX3_init 14 = .ok (.aload_n 0, 1) := by decide +kernel
theorem dX3_init_15 : decode cX3_init 15 = .ok (.iload_n 3, 1) := by decide +kernel
theorem dX3_init_16 : decode cX3_init 16 = .ok (.putfield 18, 3) := by decide +kernel
theorem dX3_init_19 : decode cX3_init 19 = .ok (.aload_n 0, 1) := by decide +kernel
theorem dX3_init_20 : decode cX3_init 20 = .ok (.iload 4, 2) := by decide +kernel
theorem dX3_init_22 : decode cX3_init 22 = .ok (.putfield 21, 3) := by decide +kernel
theorem dX3_init_25 : decode cX3_init 25 = .ok (.aload_n 0, 1) := by decide +kernel
theorem dX3_init_26 : decode cX3_init 26 = .ok (.iload 5, 2) := by decide +kernel
theorem dX3_init_28 : decode cX3_init 28 = .ok (.putfield 24, 3) := by decide +kernel
theorem dX3_init_31 : decode cX3_init 31 = .ok (.aload_n 0, 1) := by decide +kernel
theorem dX3_init_32 : decode cX3_init 32 = .ok (.bipush 64, 2) := by decide +kernel
theorem dX3_init_34 : decode cX3_init 34 = .ok (.newarray .int, 2) := by decide +kernel
theorem dX3_init_36 : decode cX3_init 36 = .ok (.putfield 27, 3) := by decide +kernel
theorem dX3_init_39 : decode cX3_init 39 = .ok (.aload_n 0, 1) := by decide +kernel
theorem dX3_init_40 : decode cX3_init 40 = .ok (.getfield 27, 3) := by decide +kernel
theorem dX3_init_43 : decode cX3_init 43 = .ok (.iconst (-1), 1) := by decide +kernel
theorem dX3_init_44 : decode cX3_init 44 = .ok (.invokestatic 31, 3) := by decide +kernel
theorem dX3_init_47 : decode cX3_init 47 = .ok (.return_, 1) := by decide +kernel
set_option maxRecDepth 20000 in
theorem ggX3_forgetTimes_J7_fill_53178 : GoodIn wsX3_forgetTimes wsJ7_fill_53178 := goodIn_r _ [5] (by decide +kernel) (by decide +kernel)
set_option maxRecDepth 20000 in
theorem gX3_forgetTimes_J7_fill_53178 : GoodIn wsX3_forgetTimes (va_wsS RX3 31 yJ7_fill_53178 wsJ7_fill_53178) := goodIn_app (goodIn_of _ (by decide +kernel)) ggX3_forgetTimes_J7_fill_53178
theorem dX3_forgetTimes_0 : decode cX3_forgetTimes 0 = .ok (.aload_n 0, 1) := by decide +kernel
theorem dX3_forgetTimes_1 : decode cX3_forgetTimes 1 = .ok (.getfield 27, 3) := by decide +kernel
theorem dX3_forgetTimes_4 : decode cX3_forgetTimes 4 = .ok (.iconst (-1), 1) := by decide +kernel
theorem dX3_forgetTimes_5 : decode cX3_forgetTimes 5 = .ok (.invokestatic 31, 3) := by decide +kernel
theorem dX3_forgetTimes_8 : decode cX3_forgetTimes 8 = .ok (.return_, 1) := by decide +kernel
theorem dX4_init_0 : decode cX4_init 0 = .ok (.aload_n 0, 1) := by decide +kernel
theorem dX4_init_1 : decode cX4_init 1 = .ok (.invokespecial 1, 3) := by decide +kernel
theorem dX4_init_4 : decode cX4_init 4 = .ok (.aload_n 0, 1) := by decide +kernel
theorem dX4_init_5 : decode cX4_init 5 = .ok (.aload_n 1, 1) := by decide +kernel
theorem dX4_init_6 : decode cX4_init 6 = .ok (.putfield 7, 3) := by decide +kernel
theorem dX4_init_9 : decode cX4_init 9 = .ok (.aload_n 0, 1) := by decide +kernel
theorem dX4_init_10 : decode cX4_init 10 = .ok (.aload_n 2, 1) := by decide +kernel
theorem dX4_init_11 : decode cX4_init 11 = .ok (.putfield 13, 3) := by decide +kernel
theorem dX4_init_14 : decode cX4_init 14 = .ok (.aload_n 0, 1) := by decide +kernel
theorem dX4_init_15 : decode cX4_init 15 = .ok (.iload_n 3, 1) := by decide +kernel
theorem dX4_init_16 : decode cX4_init 16 = .ok (.putfield 16, 3) := by decide +kernel
theorem dX4_init_19 : decode cX4_init 19 = .ok (.return_, 1) := by decide +kernel
abbrev vwCl : List vw_C := [(RX0, TX0, 5), (RX1, TX1, 5), (RX2, TX2, 2), (RX3, TX3, 6), (RX4, TX4, 3), (RX5, TX5, 11), (RX6, TX6, 28)]
end
section
set_option maxRecDepth 20000 in
theorem ggX5_init_X1_init : GoodIn wsX5_init wsX1_init := goodIn_r _ [20, 21, 2, 3, 16, 22, 23, 24, 25, 26, 27, 6, 28, 29, 30, 31, 32, 33, 34, 35, 36, 37, 38, 39, 40, 41, 42, 43] (by decide +kernel) (by decide +kernel)
set_option maxRecDepth 20000 in
theorem gX5_init_X1_init : GoodIn wsX5_init (wsX1_init) := ggX5_init_X1_init
theorem dX5_init_0 : decode cX5_init 0 = .ok (.aload_n 0, 1) := by decide +kernel
theorem dX5_init_1 : decode cX5_init 1 = .ok (.invokespecial 3, 3) := by decide +kernel
theorem dX5_init_4 : decode cX5_init 4 = .ok (.aload_n 0, 1) := by decide +kernel
theorem dX5_init_5 : decode cX5_init 5 = .ok (.new 9, 3) := by decide +kernel
theorem dX5_init_8 : decode cX5_init 8 = .ok (.dup, 1) := by decide +kernel
theorem dX5_init_9 : decode cX5_init 9 = .ok (.invokespecial 11, 3) := by decide +kernel
theorem dX5_init_12 : decode cX5_init 12 = .ok (.putfield 12, 3) := by decide +kernel
theorem dX5_init_15 : decode cX5_init 15 = .ok (.aload_n 0, 1) := by decide +kernel
theorem dX5_init_16 : decode cX5_init 16 = .ok (.bipush 8, 2) := by decide +kernel
theorem dX5_init_18 : decode cX5_init 18 = .ok (.anewarray 16, 3) := by decide +kernel
theorem dX5_init_21 : decode cX5_init 21 = .ok (.putfield 18, 3) := by decide +kernel
theorem dX5_init_24 : decode cX5_init 24 = .ok (.aload_n 0, 1) := by decide +kernel
theorem dX5_init_25 : decode cX5_init 25 = .ok (.bipush 8, 2) := by decide +kernel
theorem dX5_init_27 : decode cX5_init 27 = .ok (.anewarray 22, 3) := by decide +kernel
theorem dX5_init_30 : decode cX5_init 30 = .ok (.putfield 24, 3) := by decide +kernel
theorem dX5_init_33 : decode cX5_init 33 = .ok (.aload_n 0, 1) := by decide +kernel
theorem dX5_init_34 : decode cX5_init 34 = .ok (.bipush 6, 2) := by decide +kernel
theorem dX5_init_36 : decode cX5_init 36 = .ok (.anewarray 28, 3) := by decide +kernel
theorem dX5_init_39 : decode cX5_init 39 = .ok (.putfield 30, 3) := by decide +kernel
theorem dX5_init_42 : decode cX5_init 42 = .ok (.aload_n 0, 1) := by decide +kernel
theorem dX5_init_43 : decode cX5_init 43 = .ok (.bipush 6, 2) := by decide +kernel
theorem dX5_init_45 : decode cX5_init 45 = .ok (.anewarray 34, 3) := by decide +kernel
theorem dX5_init_48 : decode cX5_init 48 = .ok (.putfield 36, 3) := by decide +kernel
theorem dX5_init_51 : decode cX5_init 51 = .ok (.aload_n 0, 1) := by decide +kernel
theorem dX5_init_52 : decode cX5_init 52 = .ok (.bipush 64, 2) := by decide +kernel
theorem dX5_init_54 : decode cX5_init 54 = .ok (.newarray .int, 2) := by decide +kernel
theorem dX5_init_56 : decode cX5_init 56 = .ok (.putfield 40, 3) := by decide +kernel
theorem dX5_init_59 : decode cX5_init 59 = .ok (.return_, 1) := by decide +kernel
set_option maxRecDepth 20000 in
theorem ggX5_body_X5_outside : GoodIn wsX5_body wsX5_outside := goodIn_r _ [10] (by decide +kernel) (by decide +kernel)
set_option maxRecDepth 20000 in
theorem gX5_body_X5_outside : GoodIn wsX5_body (va_wsS RX5 44 yX5_outside wsX5_outside) := goodIn_app (goodIn_of _ (by decide +kernel)) ggX5_body_X5_outside
set_option maxRecDepth 20000 in
theorem ggX5_body_X1_lay : GoodIn wsX5_body wsX1_lay := goodIn_r _ [15, 16, 17, 18, 19, 20, 21, 22, 14, 23, 24, 8, 9, 10, 63, 64, 65, 66, 67] (by decide +kernel) (by decide +kernel)
set_option maxRecDepth 20000 in
theorem gX5_body_X1_lay : GoodIn wsX5_body (wsV RX5 55 RX1 yX1_lay wsX1_lay) := goodIn_app (goodIn_of _ (by decide +kernel)) ggX5_body_X1_lay
set_option maxRecDepth 20000 in
theorem ggX5_body_X0_forgetTimes : GoodIn wsX5_body wsX0_forgetTimes := goodIn_r _ [29, 30, 31, 32, 33, 34, 68, 69, 70, 71, 72] (by decide +kernel) (by decide +kernel)
set_option maxRecDepth 20000 in
theorem gX5_body_X0_forgetTimes : GoodIn wsX5_body (wsV RX5 59 RX0 yX0_forgetTimes wsX0_forgetTimes) := goodIn_app (goodIn_of _ (by decide +kernel)) ggX5_body_X0_forgetTimes
set_option maxRecDepth 20000 in
theorem ggX5_body_X3_forgetTimes : GoodIn wsX5_body wsX3_forgetTimes := goodIn_r _ [39, 40, 41, 32, 33, 34, 57, 58, 59, 60, 61, 62] (by decide +kernel) (by decide +kernel)
set_option maxRecDepth 20000 in
theorem gX5_body_X3_forgetTimes : GoodIn wsX5_body (wsV RX5 62 RX3 yX3_forgetTimes wsX3_forgetTimes) := goodIn_app (goodIn_of _ (by decide +kernel)) ggX5_body_X3_forgetTimes
set_option maxRecDepth 20000 in
theorem ggX5_body_X1_floor : GoodIn wsX5_body wsX1_floor := goodIn_r _ [45, 16, 17, 63, 64, 65, 66, 67] (by decide +kernel) (by decide +kernel)
set_option maxRecDepth 20000 in
theorem gX5_body_X1_floor : GoodIn wsX5_body (wsV RX5 67 RX1 yX1_floor wsX1_floor) := goodIn_app (goodIn_of _ (by decide +kernel)) ggX5_body_X1_floor
theorem dX5_body_0 : decode cX5_body 0 = .ok (.iload_n 1, 1) := by decide +kernel
theorem dX5_body_1 : decode cX5_body 1 = .ok (.iconst 0, 1) := by decide +kernel
theorem dX5_body_2 : decode cX5_body 2 = .ok (.bipush 20, 2) := by decide +kernel
theorem dX5_body_4 : decode cX5_body 4 = .ok (.invokestatic 44, 3) := by decide +kernel
theorem dX5_body_7 : decode cX5_body 7 = .ok (.ifCond .ne 13, 3) := by decide +kernel
theorem dX5_body_10 : decode cX5_body 10 = .ok (.iload_n 2, 1) := by decide +kernel
theorem dX5_body_11 : decode cX5_body 11 = .ok (.iconst 1, 1) := by decide +kernel
theorem dX5_body_12 : decode cX5_body 12 = .ok (.bipush 30, 2) := by decide +kernel
theorem dX5_body_14 : decode cX5_body 14 = .ok (.invokestatic 44, 3) := by decide +kernel
theorem dX5_body_17 : decode cX5_body 17 = .ok (.ifCond .eq 6, 3) := by decide +kernel
theorem dX5_body_20 : decode cX5_body 20 = .ok (.bipush (-2), 2) := by decide +kernel
theorem dX5_body_22 : decode cX5_body 22 = .ok (.ireturn, 1) := by decide +kernel
theorem dX5_body_23 : decode cX5_body 23 = .ok (.iload_n 3, 1) := by decide +kernel
theorem dX5_body_24 : decode cX5_body 24 = .ok (.iconst 1, 1) := by decide +kernel
theorem dX5_body_25 : decode cX5_body 25 = .ok (.bipush 8, 2) := by decide +kernel
theorem dX5_body_27 : decode cX5_body 27 = .ok (.invokestatic 44, 3) := by decide +kernel
theorem dX5_body_30 : decode cX5_body 30 = .ok (.ifCond .ne 14, 3) := by decide +kernel
theorem dX5_body_33 : decode cX5_body 33 = .ok (.iload 4, 2) := by decide +kernel
theorem dX5_body_35 : decode cX5_body 35 = .ok (.iconst 1, 1) := by decide +kernel
theorem dX5_body_36 : decode cX5_body 36 = .ok (.bipush 8, 2) := by decide +kernel
theorem dX5_body_38 : decode cX5_body 38 = .ok (.invokestatic 44, 3) := by decide +kernel
theorem dX5_body_41 : decode cX5_body 41 = .ok (.ifCond .eq 6, 3) := by decide +kernel
theorem dX5_body_44 : decode cX5_body 44 = .ok (.bipush (-2), 2) := by decide +kernel
theorem dX5_body_46 : decode cX5_body 46 = .ok (.ireturn, 1) := by decide +kernel
theorem dX5_body_47 : decode cX5_body 47 = .ok (.aload_n 0, 1) := by decide +kernel
theorem dX5_body_48 : decode cX5_body 48 = .ok (.getfield 24, 3) := by decide +kernel
theorem dX5_body_51 : decode cX5_body 51 = .ok (.astore 5, 2) := by decide +kernel
theorem dX5_body_53 : decode cX5_body 53 = .ok (.aload 5, 2) := by decide +kernel
theorem dX5_body_55 : decode cX5_body 55 = .ok (.arraylength, 1) := by decide +kernel
theorem dX5_body_56 : decode cX5_body 56 = .ok (.istore 6, 2) := by decide +kernel
theorem dX5_body_58 : decode cX5_body 58 = .ok (.iconst 0, 1) := by decide +kernel
theorem dX5_body_59 : decode cX5_body 59 = .ok (.istore 7, 2) := by decide +kernel
theorem dX5_body_61 : decode cX5_body 61 = .ok (.iload 7, 2) := by decide +kernel
theorem dX5_body_63 : decode cX5_body 63 = .ok (.iload 6, 2) := by decide +kernel
theorem dX5_body_65 : decode cX5_body 65 = .ok (.if_icmp .ge 48, 3) := by decide +kernel
theorem dX5_body_68 : decode cX5_body 68 = .ok (.aload 5, 2) := by decide +kernel
theorem dX5_body_70 : decode cX5_body 70 = .ok (.iload 7, 2) := by decide +kernel
theorem dX5_body_72 : decode cX5_body 72 = .ok (.aaload, 1) := by decide +kernel
theorem dX5_body_73 : decode cX5_body 73 = .ok (.astore 8, 2) := by decide +kernel
theorem dX5_body_75 : decode cX5_body 75 = .ok (.aload 8, 2) := by decide +kernel
theorem dX5_body_77 : decode cX5_body 77 = .ok (.ifnull 30, 3) := by decide +kernel
theorem dX5_body_80 : decode cX5_body 80 = .ok (.aload 8, 2) := by decide +kernel
theorem dX5_body_82 : decode cX5_body 82 = .ok (.getfield 48, 3) := by decide +kernel
theorem dX5_body_85 : decode cX5_body 85 = .ok (.iconst 2, 1) := by decide +kernel
theorem dX5_body_86 : decode cX5_body 86 = .ok (.if_icmp .eq 21, 3) := by decide +kernel
theorem dX5_body_89 : decode cX5_body 89 = .ok (.aload 8, 2) := by decide +kernel
theorem dX5_body_91 : decode cX5_body 91 = .ok (.getfield 52, 3) := by decide +kernel
theorem dX5_body_94 : decode cX5_body 94 = .ok (.iload_n 1, 1) := by decide +kernel
theorem dX5_body_95 : decode cX5_body 95 = .ok (.iload_n 1, 1) := by decide +kernel
theorem dX5_body_96 : decode cX5_body 96 = .ok (.iload_n 2, 1) := by decide +kernel
theorem dX5_body_97 : decode cX5_body 97 = .ok (.iadd, 1) := by decide +kernel
theorem dX5_body_98 : decode cX5_body 98 = .ok (.invokestatic 44, 3) := by decide +kernel
theorem dX5_body_101 : decode cX5_body 101 = .ok (.ifCond .eq 6, 3) := by decide +kernel
theorem dX5_body_104 : decode cX5_body 104 = .ok (.bipush (-3), 2) := by decide +kernel
theorem dX5_body_106 : decode cX5_body 106 = .ok (.ireturn, 1) := by decide +kernel
theorem dX5_body_107 : decode cX5_body 107 = .ok (.iinc 7 1, 3) := by decide +kernel
theorem dX5_body_110 : decode cX5_body 110 = .ok (.goto (-49), 3) := by decide +kernel
theorem dX5_body_113 : decode cX5_body 113 = .ok (.aload_n 0, 1) := by decide +kernel
theorem dX5_body_114 : decode cX5_body 114 = .ok (.getfield 12, 3) := by decide +kernel
theorem dX5_body_117 : decode cX5_body 117 = .ok (.iload_n 1, 1) := by decide +kernel
theorem dX5_body_118 : decode cX5_body 118 = .ok (.iload_n 2, 1) := by decide +kernel
theorem dX5_body_119 : decode cX5_body 119 = .ok (.iload_n 3, 1) := by decide +kernel
theorem dX5_body_120 : decode cX5_body 120 = .ok (.iload 4, 2) := by decide +kernel
theorem dX5_body_122 : decode cX5_body 122 = .ok (.invokevirtual 55, 3) := by decide +kernel
theorem dX5_body_125 : decode cX5_body 125 = .ok (.aload_n 0, 1) := by decide +kernel
theorem dX5_body_126 : decode cX5_body 126 = .ok (.getfield 18, 3) := by decide +kernel
theorem dX5_body_129 : decode cX5_body 129 = .ok (.astore 5, 2) := by decide +kernel
theorem dX5_body_131 : decode cX5_body 131 = .ok (.aload 5, 2) := by decide +kernel
theorem dX5_body_133 : decode cX5_body 133 = .ok (.arraylength, 1) := by decide +kernel
theorem dX5_body_134 : decode cX5_body 134 = .ok (.istore 6, 2) := by decide +kernel
theorem dX5_body_136 : decode cX5_body 136 = .ok (.iconst 0, 1) := by decide +kernel
theorem dX5_body_137 : decode cX5_body 137 = .ok (.istore 7, 2) := by decide +kernel
theorem dX5_body_139 : decode cX5_body 139 = .ok (.iload 7, 2) := by decide +kernel
theorem dX5_body_141 : decode cX5_body 141 = .ok (.iload 6, 2) := by decide +kernel
theorem dX5_body_143 : decode cX5_body 143 = .ok (.if_icmp .ge 26, 3) := by decide +kernel
theorem dX5_body_146 : decode cX5_body 146 = .ok (.aload 5, 2) := by decide +kernel
theorem dX5_body_148 : decode cX5_body 148 = .ok (.iload 7, 2) := by decide +kernel
theorem dX5_body_150 : decode cX5_body 150 = .ok (.aaload, 1) := by decide +kernel
theorem dX5_body_151 : decode cX5_body 151 = .ok (.astore 8, 2) := by decide +kernel
theorem dX5_body_153 : decode cX5_body 153 = .ok (.aload 8, 2) := by decide +kernel
theorem dX5_body_155 : decode cX5_body 155 = .ok (.ifnull 8, 3) := by decide +kernel
theorem dX5_body_158 : decode cX5_body 158 = .ok (.aload 8, 2) := by decide +kernel
theorem dX5_body_160 : decode cX5_body 160 = .ok (.invokevirtual 59, 3) := by decide +kernel
theorem dX5_body_163 : decode cX5_body 163 = .ok (.iinc 7 1, 3) := by decide +kernel
theorem dX5_body_166 : decode cX5_body 166 = .ok (.goto (-27), 3) := by decide +kernel
theorem dX5_body_169 : decode cX5_body 169 = .ok (.aload_n 0, 1) := by decide +kernel
theorem dX5_body_170 : decode cX5_body 170 = .ok (.getfield 24, 3) := by decide +kernel
theorem dX5_body_173 : decode cX5_body 173 = .ok (.astore 5, 2) := by decide +kernel
theorem dX5_body_175 : decode cX5_body 175 = .ok (.aload 5, 2) := by decide +kernel
theorem dX5_body_177 : decode cX5_body 177 = .ok (.arraylength, 1) := by decide +kernel
theorem dX5_body_178 : decode cX5_body 178 = .ok (.istore 6, 2) := by decide +kernel
theorem dX5_body_180 : decode cX5_body 180 = .ok (.iconst 0, 1) := by decide +kernel
theorem dX5_body_181 : decode cX5_body 181 = .ok (.istore 7, 2) := by decide +kernel
theorem dX5_body_183 : decode cX5_body 183 = .ok (.iload 7, 2) := by decide +kernel
theorem dX5_body_185 : decode cX5_body 185 = .ok (.iload 6, 2) := by decide +kernel
theorem dX5_body_187 : decode cX5_body 187 = .ok (.if_icmp .ge 26, 3) := by decide +kernel
theorem dX5_body_190 : decode cX5_body 190 = .ok (.aload 5, 2) := by decide +kernel
theorem dX5_body_192 : decode cX5_body 192 = .ok (.iload 7, 2) := by decide +kernel
theorem dX5_body_194 : decode cX5_body 194 = .ok (.aaload, 1) := by decide +kernel
theorem dX5_body_195 : decode cX5_body 195 = .ok (.astore 8, 2) := by decide +kernel
theorem dX5_body_197 : decode cX5_body 197 = .ok (.aload 8, 2) := by decide +kernel
theorem dX5_body_199 : decode cX5_body 199 = .ok (.ifnull 8, 3) := by decide +kernel
theorem dX5_body_202 : decode cX5_body 202 = .ok (.aload 8, 2) := by decide +kernel
theorem dX5_body_204 : decode cX5_body 204 = .ok (.invokevirtual 62, 3) := by decide +kernel
theorem dX5_body_207 : decode cX5_body 207 = .ok (.iinc 7 1, 3) := by decide +kernel
theorem dX5_body_210 : decode cX5_body 210 = .ok (.goto (-27), 3) := by decide +kernel
theorem dX5_body_213 : decode cX5_body 213 = .ok (.aload_n 0, 1) := by decide +kernel
theorem dX5_body_214 : decode cX5_body 214 = .ok (.iconst 0, 1) := by decide +kernel
theorem dX5_body_215 : decode cX5_body 215 = .ok (.putfield 63, 3) := by decide +kernel
theorem dX5_body_218 : decode cX5_body 218 = .ok (.aload_n 0, 1) := by decide +kernel
theorem dX5_body_219 : decode cX5_body 219 = .ok (.getfield 12, 3) := by decide +kernel
theorem dX5_body_222 : decode cX5_body 222 = .ok (.invokevirtual 67, 3) := by decide +kernel
theorem dX5_body_225 : decode cX5_body 225 = .ok (.ireturn, 1) := by decide +kernel
set_option maxRecDepth 20000 in
theorem ggX5_element_X5_outside : GoodIn wsX5_element wsX5_outside := goodIn_r _ [10] (by decide +kernel) (by decide +kernel)
set_option maxRecDepth 20000 in
theorem gX5_element_X5_outside : GoodIn wsX5_element (va_wsS RX5 44 yX5_outside wsX5_outside) := goodIn_app (goodIn_of _ (by decide +kernel)) ggX5_element_X5_outside
set_option maxRecDepth 20000 in
theorem ggX5_element_X0_init : GoodIn wsX5_element wsX0_init := goodIn_r _ [13, 14, 15, 16, 17, 18, 19, 20, 21, 22, 23, 24, 25, 37, 38, 39, 40, 41] (by decide +kernel) (by decide +kernel)
set_option maxRecDepth 20000 in
theorem gX5_element_X0_init : GoodIn wsX5_element (wsX0_init) := ggX5_element_X0_init
theorem dX5_element_0 : decode cX5_element 0 = .ok (.iload_n 1, 1) := by decide +kernel
theorem dX5_element_1 : decode cX5_element 1 = .ok (.iconst 0, 1) := by decide +kernel
theorem dX5_element_2 : decode cX5_element 2 = .ok (.bipush 50, 2) := by decide +kernel
theorem dX5_element_4 : decode cX5_element 4 = .ok (.invokestatic 44, 3) := by decide +kernel
theorem dX5_element_7 : decode cX5_element 7 = .ok (.ifCond .eq 6, 3) := by decide +kernel
theorem dX5_element_10 : decode cX5_element 10 = .ok (.bipush (-2), 2) := by decide +kernel
theorem dX5_element_12 : decode cX5_element 12 = .ok (.ireturn, 1) := by decide +kernel
theorem dX5_element_13 : decode cX5_element 13 = .ok (.aload_n 0, 1) := by decide +kernel
theorem dX5_element_14 : decode cX5_element 14 = .ok (.getfield 71, 3) := by decide +kernel
theorem dX5_element_17 : decode cX5_element 17 = .ok (.bipush 8, 2) := by decide +kernel
theorem dX5_element_19 : decode cX5_element 19 = .ok (.if_icmp .lt 6, 3) := by decide +kernel
theorem dX5_element_22 : decode cX5_element 22 = .ok (.bipush (-4), 2) := by decide +kernel
theorem dX5_element_24 : decode cX5_element 24 = .ok (.ireturn, 1) := by decide +kernel
theorem dX5_element_25 : decode cX5_element 25 = .ok (.aload_n 0, 1) := by decide +kernel
theorem dX5_element_26 : decode cX5_element 26 = .ok (.getfield 18, 3) := by decide +kernel
theorem dX5_element_29 : decode cX5_element 29 = .ok (.aload_n 0, 1) := by decide +kernel
theorem dX5_element_30 : decode cX5_element 30 = .ok (.getfield 71, 3) := by decide +kernel
theorem dX5_element_33 : decode cX5_element 33 = .ok (.new 16, 3) := by decide +kernel
theorem dX5_element_36 : decode cX5_element 36 = .ok (.dup, 1) := by decide +kernel
theorem dX5_element_37 : decode cX5_element 37 = .ok (.aload_n 0, 1) := by decide +kernel
theorem dX5_element_38 : decode cX5_element 38 = .ok (.getfield 71, 3) := by decide +kernel
theorem dX5_element_41 : decode cX5_element 41 = .ok (.iload_n 1, 1) := by decide +kernel
theorem dX5_element_42 : decode cX5_element 42 = .ok (.invokespecial 74, 3) := by decide +kernel
theorem dX5_element_45 : decode cX5_element 45 = .ok (.aastore, 1) := by decide +kernel
theorem dX5_element_46 : decode cX5_element 46 = .ok (.aload_n 0, 1) := by decide +kernel
theorem dX5_element_47 : decode cX5_element 47 = .ok (.dup, 1) := by decide +kernel
theorem dX5_element_48 : decode cX5_element 48 = .ok (.getfield 71, 3) := by decide +kernel
theorem dX5_element_51 : decode cX5_element 51 = .ok (.iconst 1, 1) := by decide +kernel
theorem dX5_element_52 : decode cX5_element 52 = .ok (.iadd, 1) := by decide +kernel
theorem dX5_element_53 : decode cX5_element 53 = .ok (.putfield 71, 3) := by decide +kernel
theorem dX5_element_56 : decode cX5_element 56 = .ok (.aload_n 0, 1) := by decide +kernel
theorem dX5_element_57 : decode cX5_element 57 = .ok (.iconst 0, 1) := by decide +kernel
theorem dX5_element_58 : decode cX5_element 58 = .ok (.putfield 63, 3) := by decide +kernel
theorem dX5_element_61 : decode cX5_element 61 = .ok (.aload_n 0, 1) := by decide +kernel
theorem dX5_element_62 : decode cX5_element 62 = .ok (.getfield 71, 3) := by decide +kernel
theorem dX5_element_65 : decode cX5_element 65 = .ok (.iconst 1, 1) := by decide +kernel
theorem dX5_element_66 : decode cX5_element 66 = .ok (.isub, 1) := by decide +kernel
theorem dX5_element_67 : decode cX5_element 67 = .ok (.ireturn, 1) := by decide +kernel
set_option maxRecDepth 20000 in
theorem ggX5_lose_X5_elementNumbered : GoodIn wsX5_lose wsX5_elementNumbered := goodIn_r _ [7, 8, 18, 19, 20, 21, 22, 23, 24, 25, 26, 27, 28] (by decide +kernel) (by decide +kernel)
set_option maxRecDepth 20000 in
theorem gX5_lose_X5_elementNumbered : GoodIn wsX5_lose (wsV RX5 77 RX5 yX5_elementNumbered wsX5_elementNumbered) := goodIn_app (goodIn_of _ (by decide +kernel)) ggX5_lose_X5_elementNumbered
set_option maxRecDepth 20000 in
theorem ggX5_lose_X5_countWorking : GoodIn wsX5_lose wsX5_countWorking := goodIn_r _ [12, 8, 1, 18, 19, 20, 21, 22, 23, 24, 25, 26, 27, 28, 13, 14, 15, 16, 17] (by decide +kernel) (by decide +kernel)
set_option maxRecDepth 20000 in
theorem gX5_lose_X5_countWorking : GoodIn wsX5_lose (wsV RX5 84 RX5 yX5_countWorking wsX5_countWorking) := goodIn_app (goodIn_of _ (by decide +kernel)) ggX5_lose_X5_countWorking
theorem dX5_lose_0 : decode cX5_lose 0 = .ok (.aload_n 0, 1) := by decide +kernel
theorem dX5_lose_1 : decode cX5_lose 1 = .ok (.iload_n 1, 1) := by decide +kernel
theorem dX5_lose_2 : decode cX5_lose 2 = .ok (.invokevirtual 77, 3) := by decide +kernel
theorem dX5_lose_5 : decode cX5_lose 5 = .ok (.astore_n 3, 1) := by decide +kernel
theorem dX5_lose_6 : decode cX5_lose 6 = .ok (.aload_n 3, 1) := by decide +kernel
theorem dX5_lose_7 : decode cX5_lose 7 = .ok (.ifnonnull 5, 3) := by decide +kernel
theorem dX5_lose_10 : decode cX5_lose 10 = .ok (.iconst (-1), 1) := by decide +kernel
theorem dX5_lose_11 : decode cX5_lose 11 = .ok (.ireturn, 1) := by decide +kernel
theorem dX5_lose_12 : decode cX5_lose 12 = .ok (.aload_n 3, 1) := by decide +kernel
theorem dX5_lose_13 : decode cX5_lose 13 = .ok (.iload_n 2, 1) := by decide +kernel
theorem dX5_lose_14 : decode cX5_lose 14 = .ok (.ifCond .ne 7, 3) := by decide +kernel
theorem dX5_lose_17 : decode cX5_lose 17 = .ok (.iconst 1, 1) := by decide +kernel
theorem dX5_lose_18 : decode cX5_lose 18 = .ok (.goto 4, 3) := by decide +kernel
theorem dX5_lose_21 : decode cX5_lose 21 = .ok (.iconst 0, 1) := by decide +kernel
theorem dX5_lose_22 : decode cX5_lose 22 = .ok (.putfield 81, 3) := by decide +kernel
theorem dX5_lose_25 : decode cX5_lose 25 = .ok (.aload_n 0, 1) := by decide +kernel
theorem dX5_lose_26 : decode cX5_lose 26 = .ok (.iconst 0, 1) := by decide +kernel
theorem dX5_lose_27 : decode cX5_lose 27 = .ok (.putfield 63, 3) := by decide +kernel
theorem dX5_lose_30 : decode cX5_lose 30 = .ok (.aload_n 0, 1) := by decide +kernel
theorem dX5_lose_31 : decode cX5_lose 31 = .ok (.invokevirtual 84, 3) := by decide +kernel
theorem dX5_lose_34 : decode cX5_lose 34 = .ok (.ireturn, 1) := by decide +kernel
set_option maxRecDepth 20000 in
theorem ggX5_target_X5_outside : GoodIn wsX5_target wsX5_outside := goodIn_r _ [7] (by decide +kernel) (by decide +kernel)
set_option maxRecDepth 20000 in
theorem gX5_target_X5_outside : GoodIn wsX5_target (va_wsS RX5 44 yX5_outside wsX5_outside) := goodIn_app (goodIn_of _ (by decide +kernel)) ggX5_target_X5_outside
set_option maxRecDepth 20000 in
theorem ggX5_target_X1_holds : GoodIn wsX5_target wsX1_holds := goodIn_r _ [12, 13, 14, 5, 6, 7, 49, 50, 51, 52, 53] (by decide +kernel) (by decide +kernel)
set_option maxRecDepth 20000 in
theorem gX5_target_X1_holds : GoodIn wsX5_target (wsV RX5 87 RX1 yX1_holds wsX1_holds) := goodIn_app (goodIn_of _ (by decide +kernel)) ggX5_target_X1_holds
set_option maxRecDepth 20000 in
theorem ggX5_target_X5_newTarget : GoodIn wsX5_target wsX5_newTarget := goodIn_r _ [17, 18, 19, 20, 21, 22, 23, 24, 25, 26, 27, 28, 29, 30, 31, 32, 33, 34, 35, 36, 37, 54, 55, 56, 57, 58, 59] (by decide +kernel) (by decide +kernel)
set_option maxRecDepth 20000 in
theorem gX5_target_X5_newTarget : GoodIn wsX5_target (va_wsS RX5 94 yX5_newTarget wsX5_newTarget) := goodIn_app (goodIn_of _ (by decide +kernel)) ggX5_target_X5_newTarget
theorem dX5_target_0 : decode cX5_target 0 = .ok (.iload_n 1, 1) := by decide +kernel
theorem dX5_target_1 : decode cX5_target 1 = .ok (.iconst 0, 1) := by decide +kernel
theorem dX5_target_2 : decode cX5_target 2 = .ok (.iconst 2, 1) := by decide +kernel
theorem dX5_target_3 : decode cX5_target 3 = .ok (.invokestatic 44, 3) := by decide +kernel
theorem dX5_target_6 : decode cX5_target 6 = .ok (.ifCond .ne 17, 3) := by decide +kernel
theorem dX5_target_9 : decode cX5_target 9 = .ok (.iload 5, 2) := by decide +kernel
theorem dX5_target_11 : decode cX5_target 11 = .ok (.sipush (-1000), 3) := by decide +kernel
theorem dX5_target_14 : decode cX5_target 14 = .ok (.sipush 1000, 3) := by decide +kernel
theorem dX5_target_17 : decode cX5_target 17 = .ok (.invokestatic 44, 3) := by decide +kernel
theorem dX5_target_20 : decode cX5_target 20 = .ok (.ifCond .eq 6, 3) := by decide +kernel
theorem dX5_target_23 : decode cX5_target 23 = .ok (.bipush (-2), 2) := by decide +kernel
theorem dX5_target_25 : decode cX5_target 25 = .ok (.ireturn, 1) := by decide +kernel
theorem dX5_target_26 : decode cX5_target 26 = .ok (.iload_n 1, 1) := by decide +kernel
theorem dX5_target_27 : decode cX5_target 27 = .ok (.iconst 2, 1) := by decide +kernel
theorem dX5_target_28 : decode cX5_target 28 = .ok (.if_icmp .eq 19, 3) := by decide +kernel
theorem dX5_target_31 : decode cX5_target 31 = .ok (.aload_n 0, 1) := by decide +kernel
theorem dX5_target_32 : decode cX5_target 32 = .ok (.getfield 12, 3) := by decide +kernel
theorem dX5_target_35 : decode cX5_target 35 = .ok (.iload_n 2, 1) := by decide +kernel
theorem dX5_target_36 : decode cX5_target 36 = .ok (.iload 4, 2) := by decide +kernel
theorem dX5_target_38 : decode cX5_target 38 = .ok (.invokevirtual 87, 3) := by decide +kernel
theorem dX5_target_41 : decode cX5_target 41 = .ok (.ifCond .ne 6, 3) := by decide +kernel
theorem dX5_target_44 : decode cX5_target 44 = .ok (.bipush (-2), 2) := by decide +kernel
theorem dX5_target_46 : decode cX5_target 46 = .ok (.ireturn, 1) := by decide +kernel
theorem dX5_target_47 : decode cX5_target 47 = .ok (.iload_n 1, 1) := by decide +kernel
theorem dX5_target_48 : decode cX5_target 48 = .ok (.iconst 1, 1) := by decide +kernel
theorem dX5_target_49 : decode cX5_target 49 = .ok (.if_icmp .ne 16, 3) := by decide +kernel
theorem dX5_target_52 : decode cX5_target 52 = .ok (.iload_n 3, 1) := by decide +kernel
theorem dX5_target_53 : decode cX5_target 53 = .ok (.iload_n 2, 1) := by decide +kernel
theorem dX5_target_54 : decode cX5_target 54 = .ok (.bipush 50, 2) := by decide +kernel
theorem dX5_target_56 : decode cX5_target 56 = .ok (.invokestatic 44, 3) := by decide +kernel
theorem dX5_target_59 : decode cX5_target 59 = .ok (.ifCond .eq 6, 3) := by decide +kernel
theorem dX5_target_62 : decode cX5_target 62 = .ok (.bipush (-2), 2) := by decide +kernel
theorem dX5_target_64 : decode cX5_target 64 = .ok (.ireturn, 1) := by decide +kernel
theorem dX5_target_65 : decode cX5_target 65 = .ok (.aload_n 0, 1) := by decide +kernel
theorem dX5_target_66 : decode cX5_target 66 = .ok (.getfield 91, 3) := by decide +kernel
theorem dX5_target_69 : decode cX5_target 69 = .ok (.bipush 8, 2) := by decide +kernel
theorem dX5_target_71 : decode cX5_target 71 = .ok (.if_icmp .lt 6, 3) := by decide +kernel
theorem dX5_target_74 : decode cX5_target 74 = .ok (.bipush (-4), 2) := by decide +kernel
theorem dX5_target_76 : decode cX5_target 76 = .ok (.ireturn, 1) := by decide +kernel
theorem dX5_target_77 : decode cX5_target 77 = .ok (.aload_n 0, 1) := by decide +kernel
theorem dX5_target_78 : decode cX5_target 78 = .ok (.getfield 24, 3) := by decide +kernel
theorem dX5_target_81 : decode cX5_target 81 = .ok (.aload_n 0, 1) := by decide +kernel
theorem dX5_target_82 : decode cX5_target 82 = .ok (.getfield 91, 3) := by decide +kernel
theorem dX5_target_85 : decode cX5_target 85 = .ok (.iload_n 1, 1) := by decide +kernel
theorem dX5_target_86 : decode cX5_target 86 = .ok (.iload_n 2, 1) := by decide +kernel
theorem dX5_target_87 : decode cX5_target 87 = .ok (.iload_n 3, 1) := by decide +kernel
theorem dX5_target_88 : decode cX5_target 88 = .ok (.iload 4, 2) := by decide +kernel
theorem dX5_target_90 : decode cX5_target 90 = .ok (.iload 5, 2) := by decide +kernel
theorem dX5_target_92 : decode cX5_target 92 = .ok (.invokestatic 94, 3) := by decide +kernel
theorem dX5_target_95 : decode cX5_target 95 = .ok (.aastore, 1) := by decide +kernel
theorem dX5_target_96 : decode cX5_target 96 = .ok (.aload_n 0, 1) := by decide +kernel
theorem dX5_target_97 : decode cX5_target 97 = .ok (.dup, 1) := by decide +kernel
theorem dX5_target_98 : decode cX5_target 98 = .ok (.getfield 91, 3) := by decide +kernel
theorem dX5_target_101 : decode cX5_target 101 = .ok (.iconst 1, 1) := by decide +kernel
theorem dX5_target_102 : decode cX5_target 102 = .ok (.iadd, 1) := by decide +kernel
theorem dX5_target_103 : decode cX5_target 103 = .ok (.putfield 91, 3) := by decide +kernel
theorem dX5_target_106 : decode cX5_target 106 = .ok (.aload_n 0, 1) := by decide +kernel
theorem dX5_target_107 : decode cX5_target 107 = .ok (.getfield 91, 3) := by decide +kernel
theorem dX5_target_110 : decode cX5_target 110 = .ok (.iconst 1, 1) := by decide +kernel
theorem dX5_target_111 : decode cX5_target 111 = .ok (.isub, 1) := by decide +kernel
theorem dX5_target_112 : decode cX5_target 112 = .ok (.ireturn, 1) := by decide +kernel
theorem dX5_drop_0 : decode cX5_drop 0 = .ok (.aload_n 0, 1) := by decide +kernel
theorem dX5_drop_1 : decode cX5_drop 1 = .ok (.getfield 91, 3) := by decide +kernel
theorem dX5_drop_4 : decode cX5_drop 4 = .ok (.iconst 1, 1) := by decide +kernel
theorem dX5_drop_5 : decode cX5_drop 5 = .ok (.if_icmp .ge 6, 3) := by decide +kernel
theorem dX5_drop_8 : decode cX5_drop 8 = .ok (.bipush (-3), 2) := by decide +kernel
theorem dX5_drop_10 : decode cX5_drop 10 = .ok (.ireturn, 1) := by decide +kernel
theorem dX5_drop_11 : decode cX5_drop 11 = .ok (.aload_n 0, 1) := by decide +kernel
theorem dX5_drop_12 : decode cX5_drop 12 = .ok (.dup, 1) := by decide +kernel
theorem dX5_drop_13 : decode cX5_drop 13 = .ok (.getfield 91, 3) := by decide +kernel
theorem dX5_drop_16 : decode cX5_drop 16 = .ok (.iconst 1, 1) := by decide +kernel
theorem dX5_drop_17 : decode cX5_drop 17 = .ok (.isub, 1) := by decide +kernel
theorem dX5_drop_18 : decode cX5_drop 18 = .ok (.putfield 91, 3) := by decide +kernel
theorem dX5_drop_21 : decode cX5_drop 21 = .ok (.aload_n 0, 1) := by decide +kernel
theorem dX5_drop_22 : decode cX5_drop 22 = .ok (.getfield 24, 3) := by decide +kernel
theorem dX5_drop_25 : decode cX5_drop 25 = .ok (.aload_n 0, 1) := by decide +kernel
theorem dX5_drop_26 : decode cX5_drop 26 = .ok (.getfield 91, 3) := by decide +kernel
theorem dX5_drop_29 : decode cX5_drop 29 = .ok (.aconst_null, 1) := by decide +kernel
theorem dX5_drop_30 : decode cX5_drop 30 = .ok (.aastore, 1) := by decide +kernel
theorem dX5_drop_31 : decode cX5_drop 31 = .ok (.aload_n 0, 1) := by decide +kernel
theorem dX5_drop_32 : decode cX5_drop 32 = .ok (.getfield 91, 3) := by decide +kernel
theorem dX5_drop_35 : decode cX5_drop 35 = .ok (.ireturn, 1) := by decide +kernel
set_option maxRecDepth 20000 in
theorem ggX5_taken_X5_targetNumbered : GoodIn wsX5_taken wsX5_targetNumbered := goodIn_r _ [9, 10, 38, 39, 40, 41, 42, 43, 44, 45, 46, 47, 48] (by decide +kernel) (by decide +kernel)
set_option maxRecDepth 20000 in
theorem gX5_taken_X5_targetNumbered : GoodIn wsX5_taken (wsV RX5 98 RX5 yX5_targetNumbered wsX5_targetNumbered) := goodIn_app (goodIn_of _ (by decide +kernel)) ggX5_taken_X5_targetNumbered
set_option maxRecDepth 20000 in
theorem ggX5_taken_X5_outside : GoodIn wsX5_taken wsX5_outside := goodIn_r _ [13] (by decide +kernel) (by decide +kernel)
set_option maxRecDepth 20000 in
theorem gX5_taken_X5_outside : GoodIn wsX5_taken (va_wsS RX5 44 yX5_outside wsX5_outside) := goodIn_app (goodIn_of _ (by decide +kernel)) ggX5_taken_X5_outside
set_option maxRecDepth 20000 in
theorem ggX5_taken_X5_found : GoodIn wsX5_taken wsX5_found := goodIn_r _ [17, 18, 38, 39, 40, 41, 42, 43, 44, 45, 46, 47, 48] (by decide +kernel) (by decide +kernel)
set_option maxRecDepth 20000 in
theorem gX5_taken_X5_found : GoodIn wsX5_taken (wsV RX5 102 RX5 yX5_found wsX5_found) := goodIn_app (goodIn_of _ (by decide +kernel)) ggX5_taken_X5_found
set_option maxRecDepth 20000 in
theorem ggX5_taken_X5_depthOf : GoodIn wsX5_taken wsX5_depthOf := goodIn_r _ [22, 1, 23, 24, 25, 26, 27, 28, 29, 30, 31, 32, 33, 34, 35, 36, 37, 38, 39, 40, 41, 42, 43, 44, 45, 46, 47, 48, 49, 50, 51, 52, 53] (by decide +kernel) (by decide +kernel)
set_option maxRecDepth 20000 in
theorem gX5_taken_X5_depthOf : GoodIn wsX5_taken (wsV RX5 112 RX5 yX5_depthOf wsX5_depthOf) := goodIn_app (goodIn_of _ (by decide +kernel)) ggX5_taken_X5_depthOf
theorem dX5_taken_0 : decode cX5_taken 0 = .ok (.aload_n 0, 1) := by decide +kernel
theorem dX5_taken_1 : decode cX5_taken 1 = .ok (.iload_n 1, 1) := by decide +kernel
theorem dX5_taken_2 : decode cX5_taken 2 = .ok (.invokevirtual 98, 3) := by decide +kernel
theorem dX5_taken_5 : decode cX5_taken 5 = .ok (.astore 4, 2) := by decide +kernel
theorem dX5_taken_7 : decode cX5_taken 7 = .ok (.aload 4, 2) := by decide +kernel
theorem dX5_taken_9 : decode cX5_taken 9 = .ok (.ifnonnull 5, 3) := by decide +kernel
theorem dX5_taken_12 : decode cX5_taken 12 = .ok (.iconst (-1), 1) := by decide +kernel
theorem dX5_taken_13 : decode cX5_taken 13 = .ok (.ireturn, 1) := by decide +kernel
theorem dX5_taken_14 : decode cX5_taken 14 = .ok (.iload_n 2, 1) := by decide +kernel
theorem dX5_taken_15 : decode cX5_taken 15 = .ok (.iconst 0, 1) := by decide +kernel
theorem dX5_taken_16 : decode cX5_taken 16 = .ok (.iconst 2, 1) := by decide +kernel
theorem dX5_taken_17 : decode cX5_taken 17 = .ok (.invokestatic 44, 3) := by decide +kernel
theorem dX5_taken_20 : decode cX5_taken 20 = .ok (.ifCond .ne 20, 3) := by decide +kernel
theorem dX5_taken_23 : decode cX5_taken 23 = .ok (.iload_n 3, 1) := by decide +kernel
theorem dX5_taken_24 : decode cX5_taken 24 = .ok (.iconst 0, 1) := by decide +kernel
theorem dX5_taken_25 : decode cX5_taken 25 = .ok (.iload_n 2, 1) := by decide +kernel
theorem dX5_taken_26 : decode cX5_taken 26 = .ok (.ifCond .ne 7, 3) := by decide +kernel
theorem dX5_taken_29 : decode cX5_taken 29 = .ok (.iconst 2, 1) := by decide +kernel
theorem dX5_taken_30 : decode cX5_taken 30 = .ok (.goto 4, 3) := by decide +kernel
theorem dX5_taken_33 : decode cX5_taken 33 = .ok (.iconst 3, 1) := by decide +kernel
theorem dX5_taken_34 : decode cX5_taken 34 = .ok (.invokestatic 44, 3) := by decide +kernel
theorem dX5_taken_37 : decode cX5_taken 37 = .ok (.ifCond .eq 6, 3) := by decide +kernel
theorem dX5_taken_40 : decode cX5_taken 40 = .ok (.bipush (-2), 2) := by decide +kernel
theorem dX5_taken_42 : decode cX5_taken 42 = .ok (.ireturn, 1) := by decide +kernel
theorem dX5_taken_43 : decode cX5_taken 43 = .ok (.aload 4, 2) := by decide +kernel
theorem dX5_taken_45 : decode cX5_taken 45 = .ok (.getfield 48, 3) := by decide +kernel
theorem dX5_taken_48 : decode cX5_taken 48 = .ok (.iload_n 2, 1) := by decide +kernel
theorem dX5_taken_49 : decode cX5_taken 49 = .ok (.if_icmp .ge 10, 3) := by decide +kernel
theorem dX5_taken_52 : decode cX5_taken 52 = .ok (.aload_n 0, 1) := by decide +kernel
theorem dX5_taken_53 : decode cX5_taken 53 = .ok (.bipush (-13), 2) := by decide +kernel
theorem dX5_taken_55 : decode cX5_taken 55 = .ok (.invokevirtual 102, 3) := by decide +kernel
theorem dX5_taken_58 : decode cX5_taken 58 = .ok (.ireturn, 1) := by decide +kernel
theorem dX5_taken_59 : decode cX5_taken 59 = .ok (.iload_n 3, 1) := by decide +kernel
theorem dX5_taken_60 : decode cX5_taken 60 = .ok (.tableswitch 47 0 2 #[28, 34, 40], 28) := by decide +kernel
theorem dX5_taken_88 : decode cX5_taken 88 = .ok (.aload 4, 2) := by decide +kernel
theorem dX5_taken_90 : decode cX5_taken 90 = .ok (.getfield 106, 3) := by decide +kernel
theorem dX5_taken_93 : decode cX5_taken 93 = .ok (.ireturn, 1) := by decide +kernel
theorem dX5_taken_94 : decode cX5_taken 94 = .ok (.aload 4, 2) := by decide +kernel
theorem dX5_taken_96 : decode cX5_taken 96 = .ok (.getfield 109, 3) := by decide +kernel
theorem dX5_taken_99 : decode cX5_taken 99 = .ok (.ireturn, 1) := by decide +kernel
theorem dX5_taken_100 : decode cX5_taken 100 = .ok (.aload_n 0, 1) := by decide +kernel
theorem dX5_taken_101 : decode cX5_taken 101 = .ok (.aload 4, 2) := by decide +kernel
theorem dX5_taken_103 : decode cX5_taken 103 = .ok (.invokevirtual 112, 3) := by decide +kernel
theorem dX5_taken_106 : decode cX5_taken 106 = .ok (.ireturn, 1) := by decide +kernel
theorem dX5_taken_107 : decode cX5_taken 107 = .ok (.aload 4, 2) := by decide +kernel
theorem dX5_taken_109 : decode cX5_taken 109 = .ok (.getfield 116, 3) := by decide +kernel
theorem dX5_taken_112 : decode cX5_taken 112 = .ok (.ireturn, 1) := by decide +kernel
set_option maxRecDepth 20000 in
theorem ggX5_time_X5_elementNumbered : GoodIn wsX5_time wsX5_elementNumbered := goodIn_r _ [6, 7, 48, 49, 50, 51, 52, 53, 54, 55, 56, 57, 58] (by decide +kernel) (by decide +kernel)
set_option maxRecDepth 20000 in
theorem gX5_time_X5_elementNumbered : GoodIn wsX5_time (wsV RX5 77 RX5 yX5_elementNumbered wsX5_elementNumbered) := goodIn_app (goodIn_of _ (by decide +kernel)) ggX5_time_X5_elementNumbered
set_option maxRecDepth 20000 in
theorem ggX5_time_X1_holds : GoodIn wsX5_time wsX1_holds := goodIn_r _ [12, 13, 14, 15, 5, 16, 59, 60, 61, 62, 63] (by decide +kernel) (by decide +kernel)
set_option maxRecDepth 20000 in
theorem gX5_time_X1_holds : GoodIn wsX5_time (wsV RX5 87 RX1 yX1_holds wsX1_holds) := goodIn_app (goodIn_of _ (by decide +kernel)) ggX5_time_X1_holds
set_option maxRecDepth 20000 in
theorem ggX5_time_X5_timeTo : GoodIn wsX5_time wsX5_timeTo := goodIn_r _ [20, 1, 21, 22, 23, 24, 25, 26, 27, 11, 28, 29, 30, 31, 32, 33, 34, 35, 36, 37, 38, 39, 40, 41, 42, 43, 15, 5, 16, 44, 45, 46, 47, 48, 49, 50, 51, 52, 53, 54, 55, 56, 57, 58, 59, 60, 61, 62, 63, 64, 65, 66, 67, 68] (by decide +kernel) (by decide +kernel)
set_option maxRecDepth 20000 in
theorem gX5_time_X5_timeTo : GoodIn wsX5_time (wsV RX5 119 RX5 yX5_timeTo wsX5_timeTo) := goodIn_app (goodIn_of _ (by decide +kernel)) ggX5_time_X5_timeTo
theorem dX5_time_0 : decode cX5_time 0 = .ok (.aload_n 0, 1) := by decide +kernel
theorem dX5_time_1 : decode cX5_time 1 = .ok (.iload_n 1, 1) := by decide +kernel
theorem dX5_time_2 : decode cX5_time 2 = .ok (.invokevirtual 77, 3) := by decide +kernel
theorem dX5_time_5 : decode cX5_time 5 = .ok (.astore 4, 2) := by decide +kernel
theorem dX5_time_7 : decode cX5_time 7 = .ok (.aload 4, 2) := by decide +kernel
theorem dX5_time_9 : decode cX5_time 9 = .ok (.ifnonnull 5, 3) := by decide +kernel
theorem dX5_time_12 : decode cX5_time 12 = .ok (.iconst (-1), 1) := by decide +kernel
theorem dX5_time_13 : decode cX5_time 13 = .ok (.ireturn, 1) := by decide +kernel
theorem dX5_time_14 : decode cX5_time 14 = .ok (.aload_n 0, 1) := by decide +kernel
theorem dX5_time_15 : decode cX5_time 15 = .ok (.getfield 12, 3) := by decide +kernel
theorem dX5_time_18 : decode cX5_time 18 = .ok (.iload_n 2, 1) := by decide +kernel
theorem dX5_time_19 : decode cX5_time 19 = .ok (.iload_n 3, 1) := by decide +kernel
theorem dX5_time_20 : decode cX5_time 20 = .ok (.invokevirtual 87, 3) := by decide +kernel
theorem dX5_time_23 : decode cX5_time 23 = .ok (.ifCond .eq 14, 3) := by decide +kernel
theorem dX5_time_26 : decode cX5_time 26 = .ok (.aload_n 0, 1) := by decide +kernel
theorem dX5_time_27 : decode cX5_time 27 = .ok (.aload 4, 2) := by decide +kernel
theorem dX5_time_29 : decode cX5_time 29 = .ok (.iload_n 2, 1) := by decide +kernel
theorem dX5_time_30 : decode cX5_time 30 = .ok (.iload_n 3, 1) := by decide +kernel
theorem dX5_time_31 : decode cX5_time 31 = .ok (.invokevirtual 119, 3) := by decide +kernel
theorem dX5_time_34 : decode cX5_time 34 = .ok (.goto 5, 3) := by decide +kernel
theorem dX5_time_37 : decode cX5_time 37 = .ok (.bipush (-2), 2) := by decide +kernel
theorem dX5_time_39 : decode cX5_time 39 = .ok (.ireturn, 1) := by decide +kernel
set_option maxRecDepth 20000 in
theorem ggX5_bend_X5_elementNumbered : GoodIn wsX5_bend wsX5_elementNumbered := goodIn_r _ [8, 9, 46, 47, 48, 49, 50, 51, 52, 53, 54, 55, 56] (by decide +kernel) (by decide +kernel)
set_option maxRecDepth 20000 in
theorem gX5_bend_X5_elementNumbered : GoodIn wsX5_bend (wsV RX5 77 RX5 yX5_elementNumbered wsX5_elementNumbered) := goodIn_app (goodIn_of _ (by decide +kernel)) ggX5_bend_X5_elementNumbered
set_option maxRecDepth 20000 in
theorem ggX5_bend_X1_holds : GoodIn wsX5_bend wsX1_holds := goodIn_r _ [14, 15, 16, 17, 7, 18, 62, 63, 64, 65, 66] (by decide +kernel) (by decide +kernel)
set_option maxRecDepth 20000 in
theorem gX5_bend_X1_holds : GoodIn wsX5_bend (wsV RX5 87 RX1 yX1_holds wsX1_holds) := goodIn_app (goodIn_of _ (by decide +kernel)) ggX5_bend_X1_holds
set_option maxRecDepth 20000 in
theorem ggX5_bend_X1_leastBend : GoodIn wsX5_bend wsX1_leastBend := goodIn_r _ [22, 23, 24, 25, 26, 27, 28, 29, 30, 31, 13, 32, 33, 34, 35, 36, 37, 38, 39, 40, 41, 17, 7, 18, 42, 43, 44, 45, 62, 63, 64, 65, 66] (by decide +kernel) (by decide +kernel)
set_option maxRecDepth 20000 in
theorem gX5_bend_X1_leastBend : GoodIn wsX5_bend (wsV RX5 127 RX1 yX1_leastBend wsX1_leastBend) := goodIn_app (goodIn_of _ (by decide +kernel)) ggX5_bend_X1_leastBend
theorem dX5_bend_0 : decode cX5_bend 0 = .ok (.aload_n 0, 1) := by decide +kernel
theorem dX5_bend_1 : decode cX5_bend 1 = .ok (.iload_n 1, 1) := by decide +kernel
theorem dX5_bend_2 : decode cX5_bend 2 = .ok (.invokevirtual 77, 3) := by decide +kernel
theorem dX5_bend_5 : decode cX5_bend 5 = .ok (.astore 4, 2) := by decide +kernel
theorem dX5_bend_7 : decode cX5_bend 7 = .ok (.aload 4, 2) := by decide +kernel
theorem dX5_bend_9 : decode cX5_bend 9 = .ok (.ifnonnull 5, 3) := by decide +kernel
theorem dX5_bend_12 : decode cX5_bend 12 = .ok (.iconst (-1), 1) := by decide +kernel
theorem dX5_bend_13 : decode cX5_bend 13 = .ok (.ireturn, 1) := by decide +kernel
theorem dX5_bend_14 : decode cX5_bend 14 = .ok (.aload_n 0, 1) := by decide +kernel
theorem dX5_bend_15 : decode cX5_bend 15 = .ok (.getfield 12, 3) := by decide +kernel
theorem dX5_bend_18 : decode cX5_bend 18 = .ok (.iload_n 2, 1) := by decide +kernel
theorem dX5_bend_19 : decode cX5_bend 19 = .ok (.iload_n 3, 1) := by decide +kernel
theorem dX5_bend_20 : decode cX5_bend 20 = .ok (.invokevirtual 87, 3) := by decide +kernel
theorem dX5_bend_23 : decode cX5_bend 23 = .ok (.ifCond .eq 28, 3) := by decide +kernel
theorem dX5_bend_26 : decode cX5_bend 26 = .ok (.aload_n 0, 1) := by decide +kernel
theorem dX5_bend_27 : decode cX5_bend 27 = .ok (.getfield 12, 3) := by decide +kernel
theorem dX5_bend_30 : decode cX5_bend 30 = .ok (.aload 4, 2) := by decide +kernel
theorem dX5_bend_32 : decode cX5_bend 32 = .ok (.getfield 123, 3) := by decide +kernel
theorem dX5_bend_35 : decode cX5_bend 35 = .ok (.iload_n 2, 1) := by decide +kernel
theorem dX5_bend_36 : decode cX5_bend 36 = .ok (.iload_n 3, 1) := by decide +kernel
theorem dX5_bend_37 : decode cX5_bend 37 = .ok (.aload_n 0, 1) := by decide +kernel
theorem dX5_bend_38 : decode cX5_bend 38 = .ok (.getfield 12, 3) := by decide +kernel
theorem dX5_bend_41 : decode cX5_bend 41 = .ok (.getfield 124, 3) := by decide +kernel
theorem dX5_bend_44 : decode cX5_bend 44 = .ok (.isub, 1) := by decide +kernel
theorem dX5_bend_45 : decode cX5_bend 45 = .ok (.invokevirtual 127, 3) := by decide +kernel
theorem dX5_bend_48 : decode cX5_bend 48 = .ok (.goto 5, 3) := by decide +kernel
theorem dX5_bend_51 : decode cX5_bend 51 = .ok (.bipush (-2), 2) := by decide +kernel
theorem dX5_bend_53 : decode cX5_bend 53 = .ok (.ireturn, 1) := by decide +kernel
set_option maxRecDepth 20000 in
theorem ggX5_echoTime_X5_elementNumbered : GoodIn wsX5_echoTime wsX5_elementNumbered := goodIn_r _ [5, 6, 69, 70, 71, 72, 73, 74, 75, 76, 77, 78, 79] (by decide +kernel) (by decide +kernel)
set_option maxRecDepth 20000 in
theorem gX5_echoTime_X5_elementNumbered : GoodIn wsX5_echoTime (wsV RX5 77 RX5 yX5_elementNumbered wsX5_elementNumbered) := goodIn_app (goodIn_of _ (by decide +kernel)) ggX5_echoTime_X5_elementNumbered
set_option maxRecDepth 20000 in
theorem ggX5_echoTime_X5_targetNumbered : GoodIn wsX5_echoTime wsX5_targetNumbered := goodIn_r _ [10, 11, 69, 70, 71, 72, 73, 74, 75, 76, 77, 78, 79] (by decide +kernel) (by decide +kernel)
set_option maxRecDepth 20000 in
theorem gX5_echoTime_X5_targetNumbered : GoodIn wsX5_echoTime (wsV RX5 98 RX5 yX5_targetNumbered wsX5_targetNumbered) := goodIn_app (goodIn_of _ (by decide +kernel)) ggX5_echoTime_X5_targetNumbered
set_option maxRecDepth 20000 in
theorem ggX5_echoTime_X5_echoTimeBy : GoodIn wsX5_echoTime wsX5_echoTimeBy := goodIn_r _ [15, 16, 17, 18, 19, 20, 21, 22, 23, 24, 25, 26, 27, 28, 4, 29, 30, 31, 32, 33, 34, 35, 36, 37, 38, 39, 40, 41, 42, 43, 44, 45, 46, 47, 48, 49, 50, 51, 52, 53, 54, 55, 56, 57, 58, 59, 60, 61, 62, 63, 64, 65, 66, 67, 68, 80, 81, 82, 83, 84, 85, 86, 87, 88, 89, 90, 69, 70, 71, 72, 73, 74, 75, 76, 77, 78, 79, 91, 92, 93, 94, 95] (by decide +kernel) (by decide +kernel)
set_option maxRecDepth 20000 in
theorem gX5_echoTime_X5_echoTimeBy : GoodIn wsX5_echoTime (wsV RX5 131 RX5 yX5_echoTimeBy wsX5_echoTimeBy) := goodIn_app (goodIn_of _ (by decide +kernel)) ggX5_echoTime_X5_echoTimeBy
theorem dX5_echoTime_0 : decode cX5_echoTime 0 = .ok (.aload_n 0, 1) := by decide +kernel
theorem dX5_echoTime_1 : decode cX5_echoTime 1 = .ok (.iload_n 1, 1) := by decide +kernel
theorem dX5_echoTime_2 : decode cX5_echoTime 2 = .ok (.invokevirtual 77, 3) := by decide +kernel
theorem dX5_echoTime_5 : decode cX5_echoTime 5 = .ok (.astore 4, 2) := by decide +kernel
theorem dX5_echoTime_7 : decode cX5_echoTime 7 = .ok (.aload_n 0, 1) := by decide +kernel
theorem dX5_echoTime_8 : decode cX5_echoTime 8 = .ok (.iload_n 2, 1) := by decide +kernel
theorem dX5_echoTime_9 : decode cX5_echoTime 9 = .ok (.invokevirtual 77, 3) := by decide +kernel
theorem dX5_echoTime_12 : decode cX5_echoTime 12 = .ok (.astore 5, 2) := by decide +kernel
theorem dX5_echoTime_14 : decode cX5_echoTime 14 = .ok (.aload_n 0, 1) := by decide +kernel
theorem dX5_echoTime_15 : decode cX5_echoTime 15 = .ok (.iload_n 3, 1) := by decide +kernel
theorem dX5_echoTime_16 : decode cX5_echoTime 16 = .ok (.invokevirtual 98, 3) := by decide +kernel
theorem dX5_echoTime_19 : decode cX5_echoTime 19 = .ok (.astore 6, 2) := by decide +kernel
theorem dX5_echoTime_21 : decode cX5_echoTime 21 = .ok (.aload 4, 2) := by decide +kernel
theorem dX5_echoTime_23 : decode cX5_echoTime 23 = .ok (.ifnull 13, 3) := by decide +kernel
theorem dX5_echoTime_26 : decode cX5_echoTime 26 = .ok (.aload 5, 2) := by decide +kernel
theorem dX5_echoTime_28 : decode cX5_echoTime 28 = .ok (.ifnull 8, 3) := by decide +kernel
theorem dX5_echoTime_31 : decode cX5_echoTime 31 = .ok (.aload 6, 2) := by decide +kernel
theorem dX5_echoTime_33 : decode cX5_echoTime 33 = .ok (.ifnonnull 5, 3) := by decide +kernel
theorem dX5_echoTime_36 : decode cX5_echoTime 36 = .ok (.iconst (-1), 1) := by decide +kernel
theorem dX5_echoTime_37 : decode cX5_echoTime 37 = .ok (.ireturn, 1) := by decide +kernel
theorem dX5_echoTime_38 : decode cX5_echoTime 38 = .ok (.aload_n 0, 1) := by decide +kernel
theorem dX5_echoTime_39 : decode cX5_echoTime 39 = .ok (.aload 4, 2) := by decide +kernel
theorem dX5_echoTime_41 : decode cX5_echoTime 41 = .ok (.aload 5, 2) := by decide +kernel
theorem dX5_echoTime_43 : decode cX5_echoTime 43 = .ok (.aload 6, 2) := by decide +kernel
theorem dX5_echoTime_45 : decode cX5_echoTime 45 = .ok (.invokevirtual 131, 3) := by decide +kernel
theorem dX5_echoTime_48 : decode cX5_echoTime 48 = .ok (.ireturn, 1) := by decide +kernel
set_option maxRecDepth 20000 in
theorem ggX5_slowness_X5_elementNumbered : GoodIn wsX5_slowness wsX5_elementNumbered := goodIn_r _ [12, 13, 42, 43, 44, 45, 46, 47, 48, 49, 50, 51, 52] (by decide +kernel) (by decide +kernel)
set_option maxRecDepth 20000 in
theorem gX5_slowness_X5_elementNumbered : GoodIn wsX5_slowness (wsV RX5 77 RX5 yX5_elementNumbered wsX5_elementNumbered) := goodIn_app (goodIn_of _ (by decide +kernel)) ggX5_slowness_X5_elementNumbered
set_option maxRecDepth 20000 in
theorem ggX5_slowness_X1_wallTicks : GoodIn wsX5_slowness wsX1_wallTicks := goodIn_r _ [18, 19, 20, 21, 22, 6, 23, 24, 25, 26, 17, 27, 28, 29, 30, 11, 31, 32, 33, 34, 35, 36, 37, 38, 39, 40, 41, 5, 7, 58, 59, 60, 61, 62] (by decide +kernel) (by decide +kernel)
set_option maxRecDepth 20000 in
theorem gX5_slowness_X1_wallTicks : GoodIn wsX5_slowness (wsV RX5 136 RX1 yX1_wallTicks wsX1_wallTicks) := goodIn_app (goodIn_of _ (by decide +kernel)) ggX5_slowness_X1_wallTicks
theorem dX5_slowness_0 : decode cX5_slowness 0 = .ok (.aload_n 0, 1) := by decide +kernel
theorem dX5_slowness_1 : decode cX5_slowness 1 = .ok (.iload_n 1, 1) := by decide +kernel
theorem dX5_slowness_2 : decode cX5_slowness 2 = .ok (.invokevirtual 77, 3) := by decide +kernel
theorem dX5_slowness_5 : decode cX5_slowness 5 = .ok (.astore 4, 2) := by decide +kernel
theorem dX5_slowness_7 : decode cX5_slowness 7 = .ok (.aload_n 0, 1) := by decide +kernel
theorem dX5_slowness_8 : decode cX5_slowness 8 = .ok (.iload_n 2, 1) := by decide +kernel
theorem dX5_slowness_9 : decode cX5_slowness 9 = .ok (.invokevirtual 77, 3) := by decide +kernel
theorem dX5_slowness_12 : decode cX5_slowness 12 = .ok (.astore 5, 2) := by decide +kernel
theorem dX5_slowness_14 : decode cX5_slowness 14 = .ok (.aload 4, 2) := by decide +kernel
theorem dX5_slowness_16 : decode cX5_slowness 16 = .ok (.ifnull 8, 3) := by decide +kernel
theorem dX5_slowness_19 : decode cX5_slowness 19 = .ok (.aload 5, 2) := by decide +kernel
theorem dX5_slowness_21 : decode cX5_slowness 21 = .ok (.ifnonnull 5, 3) := by decide +kernel
theorem dX5_slowness_24 : decode cX5_slowness 24 = .ok (.iconst (-1), 1) := by decide +kernel
theorem dX5_slowness_25 : decode cX5_slowness 25 = .ok (.ireturn, 1) := by decide +kernel
theorem dX5_slowness_26 : decode cX5_slowness 26 = .ok (.iload_n 3, 1) := by decide +kernel
theorem dX5_slowness_27 : decode cX5_slowness 27 = .ok (.ifCond .ge 6, 3) := by decide +kernel
theorem dX5_slowness_30 : decode cX5_slowness 30 = .ok (.bipush (-2), 2) := by decide +kernel
theorem dX5_slowness_32 : decode cX5_slowness 32 = .ok (.ireturn, 1) := by decide +kernel
theorem dX5_slowness_33 : decode cX5_slowness 33 = .ok (.iconst 1, 1) := by decide +kernel
theorem dX5_slowness_34 : decode cX5_slowness 34 = .ok (.istore 6, 2) := by decide +kernel
theorem dX5_slowness_36 : decode cX5_slowness 36 = .ok (.ldc 135, 2) := by decide +kernel
theorem dX5_slowness_38 : decode cX5_slowness 38 = .ok (.istore 7, 2) := by decide +kernel
theorem dX5_slowness_40 : decode cX5_slowness 40 = .ok (.iconst 1, 1) := by decide +kernel
theorem dX5_slowness_41 : decode cX5_slowness 41 = .ok (.istore 8, 2) := by decide +kernel
theorem dX5_slowness_43 : decode cX5_slowness 43 = .ok (.iload 8, 2) := by decide +kernel
theorem dX5_slowness_45 : decode cX5_slowness 45 = .ok (.bipush 8, 2) := by decide +kernel
theorem dX5_slowness_47 : decode cX5_slowness 47 = .ok (.if_icmp .gt 50, 3) := by decide +kernel
theorem dX5_slowness_50 : decode cX5_slowness 50 = .ok (.aload_n 0, 1) := by decide +kernel
theorem dX5_slowness_51 : decode cX5_slowness 51 = .ok (.getfield 12, 3) := by decide +kernel
theorem dX5_slowness_54 : decode cX5_slowness 54 = .ok (.aload 4, 2) := by decide +kernel
theorem dX5_slowness_56 : decode cX5_slowness 56 = .ok (.getfield 123, 3) := by decide +kernel
theorem dX5_slowness_59 : decode cX5_slowness 59 = .ok (.aload 5, 2) := by decide +kernel
theorem dX5_slowness_61 : decode cX5_slowness 61 = .ok (.getfield 123, 3) := by decide +kernel
theorem dX5_slowness_64 : decode cX5_slowness 64 = .ok (.iload 8, 2) := by decide +kernel
theorem dX5_slowness_66 : decode cX5_slowness 66 = .ok (.invokevirtual 136, 3) := by decide +kernel
theorem dX5_slowness_69 : decode cX5_slowness 69 = .ok (.iload_n 3, 1) := by decide +kernel
theorem dX5_slowness_70 : decode cX5_slowness 70 = .ok (.isub, 1) := by decide +kernel
theorem dX5_slowness_71 : decode cX5_slowness 71 = .ok (.invokestatic 139, 3) := by decide +kernel
theorem dX5_slowness_74 : decode cX5_slowness 74 = .ok (.istore 9, 2) := by decide +kernel
theorem dX5_slowness_76 : decode cX5_slowness 76 = .ok (.iload 9, 2) := by decide +kernel
theorem dX5_slowness_78 : decode cX5_slowness 78 = .ok (.iload 7, 2) := by decide +kernel
theorem dX5_slowness_80 : decode cX5_slowness 80 = .ok (.if_icmp .ge 11, 3) := by decide +kernel
theorem dX5_slowness_83 : decode cX5_slowness 83 = .ok (.iload 9, 2) := by decide +kernel
theorem dX5_slowness_85 : decode cX5_slowness 85 = .ok (.istore 7, 2) := by decide +kernel
theorem dX5_slowness_87 : decode cX5_slowness 87 = .ok (.iload 8, 2) := by decide +kernel
theorem dX5_slowness_89 : decode cX5_slowness 89 = .ok (.istore 6, 2) := by decide +kernel
theorem dX5_slowness_91 : decode cX5_slowness 91 = .ok (.iinc 8 1, 3) := by decide +kernel
theorem dX5_slowness_94 : decode cX5_slowness 94 = .ok (.goto (-51), 3) := by decide +kernel
theorem dX5_slowness_97 : decode cX5_slowness 97 = .ok (.iload 6, 2) := by decide +kernel
theorem dX5_slowness_99 : decode cX5_slowness 99 = .ok (.ireturn, 1) := by decide +kernel
set_option maxRecDepth 20000 in
theorem ggX5_echo_X5_elementNumbered : GoodIn wsX5_echo wsX5_elementNumbered := goodIn_r _ [5, 6, 71, 72, 73, 74, 75, 76, 77, 78, 79, 80, 81] (by decide +kernel) (by decide +kernel)
set_option maxRecDepth 20000 in
theorem gX5_echo_X5_elementNumbered : GoodIn wsX5_echo (wsV RX5 77 RX5 yX5_elementNumbered wsX5_elementNumbered) := goodIn_app (goodIn_of _ (by decide +kernel)) ggX5_echo_X5_elementNumbered
set_option maxRecDepth 20000 in
theorem ggX5_echo_X5_echoAt : GoodIn wsX5_echo wsX5_echoAt := goodIn_r _ [10, 11, 12, 13, 14, 15, 16, 4, 17, 18, 19, 20, 21, 22, 23, 24, 25, 26, 27, 28, 29, 30, 31, 32, 33, 34, 35, 36, 37, 38, 39, 40, 41, 42, 43, 44, 45, 46, 47, 48, 49, 50, 51, 52, 53, 54, 55, 56, 57, 58, 59, 60, 61, 62, 63, 64, 65, 66, 67, 68, 69, 70, 82, 83, 84, 85, 86, 71, 72, 73, 74, 75, 76, 77, 78, 79, 80, 81, 87, 88, 89, 90, 91, 92, 93, 94, 95, 96, 97] (by decide +kernel) (by decide +kernel)
set_option maxRecDepth 20000 in
theorem gX5_echo_X5_echoAt : GoodIn wsX5_echo (wsV RX5 144 RX5 yX5_echoAt wsX5_echoAt) := goodIn_app (goodIn_of _ (by decide +kernel)) ggX5_echo_X5_echoAt
theorem dX5_echo_0 : decode cX5_echo 0 = .ok (.aload_n 0, 1) := by decide +kernel
theorem dX5_echo_1 : decode cX5_echo 1 = .ok (.iload_n 1, 1) := by decide +kernel
theorem dX5_echo_2 : decode cX5_echo 2 = .ok (.invokevirtual 77, 3) := by decide +kernel
theorem dX5_echo_5 : decode cX5_echo 5 = .ok (.astore 4, 2) := by decide +kernel
theorem dX5_echo_7 : decode cX5_echo 7 = .ok (.aload_n 0, 1) := by decide +kernel
theorem dX5_echo_8 : decode cX5_echo 8 = .ok (.iload_n 2, 1) := by decide +kernel
theorem dX5_echo_9 : decode cX5_echo 9 = .ok (.invokevirtual 77, 3) := by decide +kernel
theorem dX5_echo_12 : decode cX5_echo 12 = .ok (.astore 5, 2) := by decide +kernel
theorem dX5_echo_14 : decode cX5_echo 14 = .ok (.aload 4, 2) := by decide +kernel
theorem dX5_echo_16 : decode cX5_echo 16 = .ok (.ifnull 8, 3) := by decide +kernel
theorem dX5_echo_19 : decode cX5_echo 19 = .ok (.aload 5, 2) := by decide +kernel
theorem dX5_echo_21 : decode cX5_echo 21 = .ok (.ifnonnull 5, 3) := by decide +kernel
theorem dX5_echo_24 : decode cX5_echo 24 = .ok (.iconst (-1), 1) := by decide +kernel
theorem dX5_echo_25 : decode cX5_echo 25 = .ok (.ireturn, 1) := by decide +kernel
theorem dX5_echo_26 : decode cX5_echo 26 = .ok (.aload_n 0, 1) := by decide +kernel
theorem dX5_echo_27 : decode cX5_echo 27 = .ok (.aload 4, 2) := by decide +kernel
theorem dX5_echo_29 : decode cX5_echo 29 = .ok (.aload 5, 2) := by decide +kernel
theorem dX5_echo_31 : decode cX5_echo 31 = .ok (.iload_n 3, 1) := by decide +kernel
theorem dX5_echo_32 : decode cX5_echo 32 = .ok (.i2l, 1) := by decide +kernel
theorem dX5_echo_33 : decode cX5_echo 33 = .ok (.invokevirtual 144, 3) := by decide +kernel
theorem dX5_echo_36 : decode cX5_echo 36 = .ok (.ireturn, 1) := by decide +kernel
set_option maxRecDepth 20000 in
theorem ggX5_gate_X5_elementNumbered : GoodIn wsX5_gate wsX5_elementNumbered := goodIn_r _ [11, 12, 73, 74, 75, 76, 77, 78, 79, 80, 81, 82, 83] (by decide +kernel) (by decide +kernel)
set_option maxRecDepth 20000 in
theorem gX5_gate_X5_elementNumbered : GoodIn wsX5_gate (wsV RX5 77 RX5 yX5_elementNumbered wsX5_elementNumbered) := goodIn_app (goodIn_of _ (by decide +kernel)) ggX5_gate_X5_elementNumbered
set_option maxRecDepth 20000 in
theorem ggX5_gate_X5_outside : GoodIn wsX5_gate wsX5_outside := goodIn_r _ [15] (by decide +kernel) (by decide +kernel)
set_option maxRecDepth 20000 in
theorem gX5_gate_X5_outside : GoodIn wsX5_gate (va_wsS RX5 44 yX5_outside wsX5_outside) := goodIn_app (goodIn_of _ (by decide +kernel)) ggX5_gate_X5_outside
set_option maxRecDepth 20000 in
theorem ggX5_gate_X5_echoTimeBy : GoodIn wsX5_gate wsX5_echoTimeBy := goodIn_r _ [19, 20, 21, 1, 22, 23, 24, 25, 26, 5, 27, 28, 29, 30, 10, 31, 32, 33, 34, 35, 36, 37, 38, 39, 40, 41, 42, 43, 44, 45, 46, 47, 48, 49, 50, 51, 52, 53, 54, 55, 56, 57, 58, 59, 60, 61, 62, 4, 6, 14, 15, 63, 64, 65, 66, 84, 85, 86, 87, 88, 89, 90, 91, 92, 93, 94, 73, 74, 75, 76, 77, 78, 79, 80, 81, 82, 83, 95, 96, 97, 98, 99] (by decide +kernel) (by decide +kernel)
set_option maxRecDepth 20000 in
theorem gX5_gate_X5_echoTimeBy : GoodIn wsX5_gate (wsV RX5 131 RX5 yX5_echoTimeBy wsX5_echoTimeBy) := goodIn_app (goodIn_of _ (by decide +kernel)) ggX5_gate_X5_echoTimeBy
set_option maxRecDepth 20000 in
theorem ggX5_gate_X5_echoAt : GoodIn wsX5_gate wsX5_echoAt := goodIn_r _ [70, 71, 2, 72, 16, 17, 18, 10, 19, 20, 21, 1, 22, 23, 24, 25, 26, 5, 27, 28, 29, 30, 31, 32, 33, 34, 35, 36, 37, 38, 39, 40, 41, 42, 43, 44, 45, 46, 47, 48, 49, 50, 51, 52, 53, 54, 55, 56, 57, 58, 59, 60, 61, 62, 4, 6, 14, 15, 63, 64, 65, 66, 84, 85, 86, 87, 88, 73, 74, 75, 76, 77, 78, 79, 80, 81, 82, 83, 89, 90, 91, 92, 93, 94, 95, 96, 97, 98, 99] (by decide +kernel) (by decide +kernel)
set_option maxRecDepth 20000 in
theorem gX5_gate_X5_echoAt : GoodIn wsX5_gate (wsV RX5 144 RX5 yX5_echoAt wsX5_echoAt) := goodIn_app (goodIn_of _ (by decide +kernel)) ggX5_gate_X5_echoAt
theorem dX5_gate_0 : decode cX5_gate 0 = .ok (.aload_n 0, 1) := by decide +kernel
theorem dX5_gate_1 : decode cX5_gate 1 = .ok (.iload_n 1, 1) := by decide +kernel
theorem dX5_gate_2 : decode cX5_gate 2 = .ok (.invokevirtual 77, 3) := by decide +kernel
theorem dX5_gate_5 : decode cX5_gate 5 = .ok (.astore 6, 2) := by decide +kernel
theorem dX5_gate_7 : decode cX5_gate 7 = .ok (.aload_n 0, 1) := by decide +kernel
theorem dX5_gate_8 : decode cX5_gate 8 = .ok (.iload_n 2, 1) := by decide +kernel
theorem dX5_gate_9 : decode cX5_gate 9 = .ok (.invokevirtual 77, 3) := by decide +kernel
theorem dX5_gate_12 : decode cX5_gate 12 = .ok (.astore 7, 2) := by decide +kernel
theorem dX5_gate_14 : decode cX5_gate 14 = .ok (.aload 6, 2) := by decide +kernel
theorem dX5_gate_16 : decode cX5_gate 16 = .ok (.ifnull 8, 3) := by decide +kernel
theorem dX5_gate_19 : decode cX5_gate 19 = .ok (.aload 7, 2) := by decide +kernel
theorem dX5_gate_21 : decode cX5_gate 21 = .ok (.ifnonnull 5, 3) := by decide +kernel
theorem dX5_gate_24 : decode cX5_gate 24 = .ok (.iconst (-1), 1) := by decide +kernel
theorem dX5_gate_25 : decode cX5_gate 25 = .ok (.ireturn, 1) := by decide +kernel
theorem dX5_gate_26 : decode cX5_gate 26 = .ok (.iload_n 3, 1) := by decide +kernel
theorem dX5_gate_27 : decode cX5_gate 27 = .ok (.iconst 0, 1) := by decide +kernel
theorem dX5_gate_28 : decode cX5_gate 28 = .ok (.iload 4, 2) := by decide +kernel
theorem dX5_gate_30 : decode cX5_gate 30 = .ok (.invokestatic 44, 3) := by decide +kernel
theorem dX5_gate_33 : decode cX5_gate 33 = .ok (.ifCond .ne 17, 3) := by decide +kernel
theorem dX5_gate_36 : decode cX5_gate 36 = .ok (.iload 4, 2) := by decide +kernel
theorem dX5_gate_38 : decode cX5_gate 38 = .ok (.sipush 4000, 3) := by decide +kernel
theorem dX5_gate_41 : decode cX5_gate 41 = .ok (.if_icmp .gt 9, 3) := by decide +kernel
theorem dX5_gate_44 : decode cX5_gate 44 = .ok (.iload 5, 2) := by decide +kernel
theorem dX5_gate_46 : decode cX5_gate 46 = .ok (.iconst 1, 1) := by decide +kernel
theorem dX5_gate_47 : decode cX5_gate 47 = .ok (.if_icmp .ge 6, 3) := by decide +kernel
theorem dX5_gate_50 : decode cX5_gate 50 = .ok (.bipush (-2), 2) := by decide +kernel
theorem dX5_gate_52 : decode cX5_gate 52 = .ok (.ireturn, 1) := by decide +kernel
theorem dX5_gate_53 : decode cX5_gate 53 = .ok (.ldc 148, 2) := by decide +kernel
theorem dX5_gate_55 : decode cX5_gate 55 = .ok (.istore 8, 2) := by decide +kernel
theorem dX5_gate_57 : decode cX5_gate 57 = .ok (.aload_n 0, 1) := by decide +kernel
theorem dX5_gate_58 : decode cX5_gate 58 = .ok (.getfield 24, 3) := by decide +kernel
theorem dX5_gate_61 : decode cX5_gate 61 = .ok (.astore 9, 2) := by decide +kernel
theorem dX5_gate_63 : decode cX5_gate 63 = .ok (.aload 9, 2) := by decide +kernel
theorem dX5_gate_65 : decode cX5_gate 65 = .ok (.arraylength, 1) := by decide +kernel
theorem dX5_gate_66 : decode cX5_gate 66 = .ok (.istore 10, 2) := by decide +kernel
theorem dX5_gate_68 : decode cX5_gate 68 = .ok (.iconst 0, 1) := by decide +kernel
theorem dX5_gate_69 : decode cX5_gate 69 = .ok (.istore 11, 2) := by decide +kernel
theorem dX5_gate_71 : decode cX5_gate 71 = .ok (.iload 11, 2) := by decide +kernel
theorem dX5_gate_73 : decode cX5_gate 73 = .ok (.iload 10, 2) := by decide +kernel
theorem dX5_gate_75 : decode cX5_gate 75 = .ok (.if_icmp .ge 93, 3) := by decide +kernel
theorem dX5_gate_78 : decode cX5_gate 78 = .ok (.aload 9, 2) := by decide +kernel
theorem dX5_gate_80 : decode cX5_gate 80 = .ok (.iload 11, 2) := by decide +kernel
theorem dX5_gate_82 : decode cX5_gate 82 = .ok (.aaload, 1) := by decide +kernel
theorem dX5_gate_83 : decode cX5_gate 83 = .ok (.astore 12, 2) := by decide +kernel
theorem dX5_gate_85 : decode cX5_gate 85 = .ok (.aload 12, 2) := by decide +kernel
theorem dX5_gate_87 : decode cX5_gate 87 = .ok (.ifnull 75, 3) := by decide +kernel
theorem dX5_gate_90 : decode cX5_gate 90 = .ok (.aload_n 0, 1) := by decide +kernel
theorem dX5_gate_91 : decode cX5_gate 91 = .ok (.aload 6, 2) := by decide +kernel
theorem dX5_gate_93 : decode cX5_gate 93 = .ok (.aload 7, 2) := by decide +kernel
theorem dX5_gate_95 : decode cX5_gate 95 = .ok (.aload 12, 2) := by decide +kernel
theorem dX5_gate_97 : decode cX5_gate 97 = .ok (.invokevirtual 131, 3) := by decide +kernel
theorem dX5_gate_100 : decode cX5_gate 100 = .ok (.istore 13, 2) := by decide +kernel
theorem dX5_gate_102 : decode cX5_gate 102 = .ok (.iload 8, 2) := by decide +kernel
theorem dX5_gate_104 : decode cX5_gate 104 = .ok (.ldc 148, 2) := by decide +kernel
theorem dX5_gate_106 : decode cX5_gate 106 = .ok (.if_icmp .eq 10, 3) := by decide +kernel
theorem dX5_gate_109 : decode cX5_gate 109 = .ok (.iload 13, 2) := by decide +kernel
theorem dX5_gate_111 : decode cX5_gate 111 = .ok (.iload 8, 2) := by decide +kernel
theorem dX5_gate_113 : decode cX5_gate 113 = .ok (.if_icmp .ge 7, 3) := by decide +kernel
theorem dX5_gate_116 : decode cX5_gate 116 = .ok (.iconst 1, 1) := by decide +kernel
theorem dX5_gate_117 : decode cX5_gate 117 = .ok (.goto 4, 3) := by decide +kernel
theorem dX5_gate_120 : decode cX5_gate 120 = .ok (.iconst 0, 1) := by decide +kernel
theorem dX5_gate_121 : decode cX5_gate 121 = .ok (.istore 14, 2) := by decide +kernel
theorem dX5_gate_123 : decode cX5_gate 123 = .ok (.iload 14, 2) := by decide +kernel
theorem dX5_gate_125 : decode cX5_gate 125 = .ok (.ifCond .eq 37, 3) := by decide +kernel
theorem dX5_gate_128 : decode cX5_gate 128 = .ok (.iload 13, 2) := by decide +kernel
theorem dX5_gate_130 : decode cX5_gate 130 = .ok (.iload_n 3, 1) := by decide +kernel
theorem dX5_gate_131 : decode cX5_gate 131 = .ok (.iload 4, 2) := by decide +kernel
theorem dX5_gate_133 : decode cX5_gate 133 = .ok (.invokestatic 44, 3) := by decide +kernel
theorem dX5_gate_136 : decode cX5_gate 136 = .ok (.ifCond .ne 26, 3) := by decide +kernel
theorem dX5_gate_139 : decode cX5_gate 139 = .ok (.aload_n 0, 1) := by decide +kernel
theorem dX5_gate_140 : decode cX5_gate 140 = .ok (.aload 6, 2) := by decide +kernel
theorem dX5_gate_142 : decode cX5_gate 142 = .ok (.aload 7, 2) := by decide +kernel
theorem dX5_gate_144 : decode cX5_gate 144 = .ok (.iload 13, 2) := by decide +kernel
theorem dX5_gate_146 : decode cX5_gate 146 = .ok (.i2l, 1) := by decide +kernel
theorem dX5_gate_147 : decode cX5_gate 147 = .ok (.invokevirtual 144, 3) := by decide +kernel
theorem dX5_gate_150 : decode cX5_gate 150 = .ok (.invokestatic 139, 3) := by decide +kernel
theorem dX5_gate_153 : decode cX5_gate 153 = .ok (.iload 5, 2) := by decide +kernel
theorem dX5_gate_155 : decode cX5_gate 155 = .ok (.if_icmp .lt 7, 3) := by decide +kernel
theorem dX5_gate_158 : decode cX5_gate 158 = .ok (.iload 13, 2) := by decide +kernel
theorem dX5_gate_160 : decode cX5_gate 160 = .ok (.istore 8, 2) := by decide +kernel
theorem dX5_gate_162 : decode cX5_gate 162 = .ok (.iinc 11 1, 3) := by decide +kernel
theorem dX5_gate_165 : decode cX5_gate 165 = .ok (.goto (-94), 3) := by decide +kernel
theorem dX5_gate_168 : decode cX5_gate 168 = .ok (.iload 8, 2) := by decide +kernel
theorem dX5_gate_170 : decode cX5_gate 170 = .ok (.ireturn, 1) := by decide +kernel
set_option maxRecDepth 20000 in
theorem ggX5_focus_X1_holds : GoodIn wsX5_focus wsX1_holds := goodIn_r _ [14, 15, 16, 17, 18, 19, 68, 69, 70, 71, 72] (by decide +kernel) (by decide +kernel)
set_option maxRecDepth 20000 in
theorem gX5_focus_X1_holds : GoodIn wsX5_focus (wsV RX5 87 RX1 yX1_holds wsX1_holds) := goodIn_app (goodIn_of _ (by decide +kernel)) ggX5_focus_X1_holds
set_option maxRecDepth 20000 in
theorem ggX5_focus_X5_countWorking : GoodIn wsX5_focus wsX5_countWorking := goodIn_r _ [23, 2, 3, 52, 53, 54, 55, 56, 57, 58, 59, 60, 61, 62, 63, 64, 65, 66, 67] (by decide +kernel) (by decide +kernel)
set_option maxRecDepth 20000 in
theorem gX5_focus_X5_countWorking : GoodIn wsX5_focus (wsV RX5 84 RX5 yX5_countWorking wsX5_countWorking) := goodIn_app (goodIn_of _ (by decide +kernel)) ggX5_focus_X5_countWorking
set_option maxRecDepth 20000 in
theorem ggX5_focus_X5_timeTo : GoodIn wsX5_focus wsX5_timeTo := goodIn_r _ [27, 1, 28, 29, 30, 31, 32, 33, 34, 13, 35, 36, 37, 38, 39, 40, 5, 6, 7, 41, 42, 43, 44, 45, 46, 47, 17, 18, 19, 48, 49, 50, 51, 52, 53, 54, 55, 56, 57, 58, 59, 60, 61, 62, 68, 69, 70, 71, 72, 63, 64, 65, 66, 67] (by decide +kernel) (by decide +kernel)
set_option maxRecDepth 20000 in
theorem gX5_focus_X5_timeTo : GoodIn wsX5_focus (wsV RX5 119 RX5 yX5_timeTo wsX5_timeTo) := goodIn_app (goodIn_of _ (by decide +kernel)) ggX5_focus_X5_timeTo
theorem dX5_focus_0 : decode cX5_focus 0 = .ok (.aload_n 0, 1) := by decide +kernel
theorem dX5_focus_1 : decode cX5_focus 1 = .ok (.getfield 12, 3) := by decide +kernel
theorem dX5_focus_4 : decode cX5_focus 4 = .ok (.iload_n 1, 1) := by decide +kernel
theorem dX5_focus_5 : decode cX5_focus 5 = .ok (.iload_n 2, 1) := by decide +kernel
theorem dX5_focus_6 : decode cX5_focus 6 = .ok (.invokevirtual 87, 3) := by decide +kernel
theorem dX5_focus_9 : decode cX5_focus 9 = .ok (.ifCond .ne 6, 3) := by decide +kernel
theorem dX5_focus_12 : decode cX5_focus 12 = .ok (.bipush (-2), 2) := by decide +kernel
theorem dX5_focus_14 : decode cX5_focus 14 = .ok (.ireturn, 1) := by decide +kernel
theorem dX5_focus_15 : decode cX5_focus 15 = .ok (.aload_n 0, 1) := by decide +kernel
theorem dX5_focus_16 : decode cX5_focus 16 = .ok (.invokevirtual 84, 3) := by decide +kernel
theorem dX5_focus_19 : decode cX5_focus 19 = .ok (.iconst 1, 1) := by decide +kernel
theorem dX5_focus_20 : decode cX5_focus 20 = .ok (.if_icmp .ge 6, 3) := by decide +kernel
theorem dX5_focus_23 : decode cX5_focus 23 = .ok (.bipush (-3), 2) := by decide +kernel
theorem dX5_focus_25 : decode cX5_focus 25 = .ok (.ireturn, 1) := by decide +kernel
theorem dX5_focus_26 : decode cX5_focus 26 = .ok (.iconst 0, 1) := by decide +kernel
theorem dX5_focus_27 : decode cX5_focus 27 = .ok (.istore_n 3, 1) := by decide +kernel
theorem dX5_focus_28 : decode cX5_focus 28 = .ok (.aload_n 0, 1) := by decide +kernel
theorem dX5_focus_29 : decode cX5_focus 29 = .ok (.getfield 18, 3) := by decide +kernel
theorem dX5_focus_32 : decode cX5_focus 32 = .ok (.astore 4, 2) := by decide +kernel
theorem dX5_focus_34 : decode cX5_focus 34 = .ok (.aload 4, 2) := by decide +kernel
theorem dX5_focus_36 : decode cX5_focus 36 = .ok (.arraylength, 1) := by decide +kernel
theorem dX5_focus_37 : decode cX5_focus 37 = .ok (.istore 5, 2) := by decide +kernel
theorem dX5_focus_39 : decode cX5_focus 39 = .ok (.iconst 0, 1) := by decide +kernel
theorem dX5_focus_40 : decode cX5_focus 40 = .ok (.istore 6, 2) := by decide +kernel
theorem dX5_focus_42 : decode cX5_focus 42 = .ok (.iload 6, 2) := by decide +kernel
theorem dX5_focus_44 : decode cX5_focus 44 = .ok (.iload 5, 2) := by decide +kernel
theorem dX5_focus_46 : decode cX5_focus 46 = .ok (.if_icmp .ge 42, 3) := by decide +kernel
theorem dX5_focus_49 : decode cX5_focus 49 = .ok (.aload 4, 2) := by decide +kernel
theorem dX5_focus_51 : decode cX5_focus 51 = .ok (.iload 6, 2) := by decide +kernel
theorem dX5_focus_53 : decode cX5_focus 53 = .ok (.aaload, 1) := by decide +kernel
theorem dX5_focus_54 : decode cX5_focus 54 = .ok (.astore 7, 2) := by decide +kernel
theorem dX5_focus_56 : decode cX5_focus 56 = .ok (.aload 7, 2) := by decide +kernel
theorem dX5_focus_58 : decode cX5_focus 58 = .ok (.ifnull 24, 3) := by decide +kernel
theorem dX5_focus_61 : decode cX5_focus 61 = .ok (.aload 7, 2) := by decide +kernel
theorem dX5_focus_63 : decode cX5_focus 63 = .ok (.getfield 81, 3) := by decide +kernel
theorem dX5_focus_66 : decode cX5_focus 66 = .ok (.ifCond .eq 16, 3) := by decide +kernel
theorem dX5_focus_69 : decode cX5_focus 69 = .ok (.iload_n 3, 1) := by decide +kernel
theorem dX5_focus_70 : decode cX5_focus 70 = .ok (.aload_n 0, 1) := by decide +kernel
theorem dX5_focus_71 : decode cX5_focus 71 = .ok (.aload 7, 2) := by decide +kernel
theorem dX5_focus_73 : decode cX5_focus 73 = .ok (.iload_n 1, 1) := by decide +kernel
theorem dX5_focus_74 : decode cX5_focus 74 = .ok (.iload_n 2, 1) := by decide +kernel
theorem dX5_focus_75 : decode cX5_focus 75 = .ok (.invokevirtual 119, 3) := by decide +kernel
theorem dX5_focus_78 : decode cX5_focus 78 = .ok (.invokestatic 149, 3) := by decide +kernel
theorem dX5_focus_81 : decode cX5_focus 81 = .ok (.istore_n 3, 1) := by decide +kernel
theorem dX5_focus_82 : decode cX5_focus 82 = .ok (.iinc 6 1, 3) := by decide +kernel
theorem dX5_focus_85 : decode cX5_focus 85 = .ok (.goto (-43), 3) := by decide +kernel
theorem dX5_focus_88 : decode cX5_focus 88 = .ok (.aload_n 0, 1) := by decide +kernel
theorem dX5_focus_89 : decode cX5_focus 89 = .ok (.getfield 18, 3) := by decide +kernel
theorem dX5_focus_92 : decode cX5_focus 92 = .ok (.astore 4, 2) := by decide +kernel
theorem dX5_focus_94 : decode cX5_focus 94 = .ok (.aload 4, 2) := by decide +kernel
theorem dX5_focus_96 : decode cX5_focus 96 = .ok (.arraylength, 1) := by decide +kernel
theorem dX5_focus_97 : decode cX5_focus 97 = .ok (.istore 5, 2) := by decide +kernel
theorem dX5_focus_99 : decode cX5_focus 99 = .ok (.iconst 0, 1) := by decide +kernel
theorem dX5_focus_100 : decode cX5_focus 100 = .ok (.istore 6, 2) := by decide +kernel
theorem dX5_focus_102 : decode cX5_focus 102 = .ok (.iload 6, 2) := by decide +kernel
theorem dX5_focus_104 : decode cX5_focus 104 = .ok (.iload 5, 2) := by decide +kernel
theorem dX5_focus_106 : decode cX5_focus 106 = .ok (.if_icmp .ge 44, 3) := by decide +kernel
theorem dX5_focus_109 : decode cX5_focus 109 = .ok (.aload 4, 2) := by decide +kernel
theorem dX5_focus_111 : decode cX5_focus 111 = .ok (.iload 6, 2) := by decide +kernel
theorem dX5_focus_113 : decode cX5_focus 113 = .ok (.aaload, 1) := by decide +kernel
theorem dX5_focus_114 : decode cX5_focus 114 = .ok (.astore 7, 2) := by decide +kernel
theorem dX5_focus_116 : decode cX5_focus 116 = .ok (.aload 7, 2) := by decide +kernel
theorem dX5_focus_118 : decode cX5_focus 118 = .ok (.ifnull 26, 3) := by decide +kernel
theorem dX5_focus_121 : decode cX5_focus 121 = .ok (.aload 7, 2) := by decide +kernel
theorem dX5_focus_123 : decode cX5_focus 123 = .ok (.getfield 81, 3) := by decide +kernel
theorem dX5_focus_126 : decode cX5_focus 126 = .ok (.ifCond .eq 18, 3) := by decide +kernel
theorem dX5_focus_129 : decode cX5_focus 129 = .ok (.aload 7, 2) := by decide +kernel
theorem dX5_focus_131 : decode cX5_focus 131 = .ok (.iload_n 3, 1) := by decide +kernel
theorem dX5_focus_132 : decode cX5_focus 132 = .ok (.aload_n 0, 1) := by decide +kernel
theorem dX5_focus_133 : decode cX5_focus 133 = .ok (.aload 7, 2) := by decide +kernel
theorem dX5_focus_135 : decode cX5_focus 135 = .ok (.iload_n 1, 1) := by decide +kernel
theorem dX5_focus_136 : decode cX5_focus 136 = .ok (.iload_n 2, 1) := by decide +kernel
theorem dX5_focus_137 : decode cX5_focus 137 = .ok (.invokevirtual 119, 3) := by decide +kernel
theorem dX5_focus_140 : decode cX5_focus 140 = .ok (.isub, 1) := by decide +kernel
theorem dX5_focus_141 : decode cX5_focus 141 = .ok (.putfield 153, 3) := by decide +kernel
theorem dX5_focus_144 : decode cX5_focus 144 = .ok (.iinc 6 1, 3) := by decide +kernel
theorem dX5_focus_147 : decode cX5_focus 147 = .ok (.goto (-45), 3) := by decide +kernel
theorem dX5_focus_150 : decode cX5_focus 150 = .ok (.aload_n 0, 1) := by decide +kernel
theorem dX5_focus_151 : decode cX5_focus 151 = .ok (.iconst 1, 1) := by decide +kernel
theorem dX5_focus_152 : decode cX5_focus 152 = .ok (.putfield 63, 3) := by decide +kernel
theorem dX5_focus_155 : decode cX5_focus 155 = .ok (.iload_n 3, 1) := by decide +kernel
theorem dX5_focus_156 : decode cX5_focus 156 = .ok (.ireturn, 1) := by decide +kernel
set_option maxRecDepth 20000 in
theorem ggX5_delay_X5_elementNumbered : GoodIn wsX5_delay wsX5_elementNumbered := goodIn_r _ [9, 10, 11, 12, 13, 14, 15, 16, 17, 18, 19, 20, 21] (by decide +kernel) (by decide +kernel)
set_option maxRecDepth 20000 in
theorem gX5_delay_X5_elementNumbered : GoodIn wsX5_delay (wsV RX5 77 RX5 yX5_elementNumbered wsX5_elementNumbered) := goodIn_app (goodIn_of _ (by decide +kernel)) ggX5_delay_X5_elementNumbered
theorem dX5_delay_0 : decode cX5_delay 0 = .ok (.aload_n 0, 1) := by decide +kernel
theorem dX5_delay_1 : decode cX5_delay 1 = .ok (.iload_n 1, 1) := by decide +kernel
theorem dX5_delay_2 : decode cX5_delay 2 = .ok (.invokevirtual 77, 3) := by decide +kernel
theorem dX5_delay_5 : decode cX5_delay 5 = .ok (.astore_n 2, 1) := by decide +kernel
theorem dX5_delay_6 : decode cX5_delay 6 = .ok (.aload_n 2, 1) := by decide +kernel
theorem dX5_delay_7 : decode cX5_delay 7 = .ok (.ifnonnull 5, 3) := by decide +kernel
theorem dX5_delay_10 : decode cX5_delay 10 = .ok (.iconst (-1), 1) := by decide +kernel
theorem dX5_delay_11 : decode cX5_delay 11 = .ok (.ireturn, 1) := by decide +kernel
theorem dX5_delay_12 : decode cX5_delay 12 = .ok (.aload_n 0, 1) := by decide +kernel
theorem dX5_delay_13 : decode cX5_delay 13 = .ok (.getfield 63, 3) := by decide +kernel
theorem dX5_delay_16 : decode cX5_delay 16 = .ok (.ifCond .ne 6, 3) := by decide +kernel
theorem dX5_delay_19 : decode cX5_delay 19 = .ok (.bipush (-3), 2) := by decide +kernel
theorem dX5_delay_21 : decode cX5_delay 21 = .ok (.ireturn, 1) := by decide +kernel
theorem dX5_delay_22 : decode cX5_delay 22 = .ok (.aload_n 2, 1) := by decide +kernel
theorem dX5_delay_23 : decode cX5_delay 23 = .ok (.getfield 81, 3) := by decide +kernel
theorem dX5_delay_26 : decode cX5_delay 26 = .ok (.ifCond .eq 10, 3) := by decide +kernel
theorem dX5_delay_29 : decode cX5_delay 29 = .ok (.aload_n 2, 1) := by decide +kernel
theorem dX5_delay_30 : decode cX5_delay 30 = .ok (.getfield 153, 3) := by decide +kernel
theorem dX5_delay_33 : decode cX5_delay 33 = .ok (.goto 5, 3) := by decide +kernel
theorem dX5_delay_36 : decode cX5_delay 36 = .ok (.ldc 148, 2) := by decide +kernel
theorem dX5_delay_38 : decode cX5_delay 38 = .ok (.ireturn, 1) := by decide +kernel
set_option maxRecDepth 20000 in
theorem ggX5_heard_X5_elementNumbered : GoodIn wsX5_heard wsX5_elementNumbered := goodIn_r _ [6, 7, 77, 78, 79, 80, 81, 82, 83, 84, 85, 86, 87] (by decide +kernel) (by decide +kernel)
set_option maxRecDepth 20000 in
theorem gX5_heard_X5_elementNumbered : GoodIn wsX5_heard (wsV RX5 77 RX5 yX5_elementNumbered wsX5_elementNumbered) := goodIn_app (goodIn_of _ (by decide +kernel)) ggX5_heard_X5_elementNumbered
set_option maxRecDepth 20000 in
theorem ggX5_heard_X5_heardBy : GoodIn wsX5_heard wsX5_heardBy := goodIn_r _ [11, 7, 12, 13, 14, 15, 16, 5, 17, 18, 19, 20, 21, 22, 23, 24, 25, 26, 27, 28, 29, 30, 31, 32, 33, 34, 35, 36, 37, 38, 39, 40, 41, 42, 43, 44, 45, 46, 47, 48, 49, 50, 51, 52, 53, 54, 55, 56, 57, 58, 59, 60, 61, 62, 63, 64, 65, 66, 67, 68, 69, 70, 71, 72, 73, 74, 75, 76, 77, 78, 79, 80, 81, 82, 83, 84, 85, 86, 87, 88, 89, 90, 91, 92, 93, 94, 95, 96, 97, 98, 99, 100, 101, 102, 103] (by decide +kernel) (by decide +kernel)
set_option maxRecDepth 20000 in
theorem gX5_heard_X5_heardBy : GoodIn wsX5_heard (wsV RX5 156 RX5 yX5_heardBy wsX5_heardBy) := goodIn_app (goodIn_of _ (by decide +kernel)) ggX5_heard_X5_heardBy
theorem dX5_heard_0 : decode cX5_heard 0 = .ok (.aload_n 0, 1) := by decide +kernel
theorem dX5_heard_1 : decode cX5_heard 1 = .ok (.iload_n 1, 1) := by decide +kernel
theorem dX5_heard_2 : decode cX5_heard 2 = .ok (.invokevirtual 77, 3) := by decide +kernel
theorem dX5_heard_5 : decode cX5_heard 5 = .ok (.astore_n 3, 1) := by decide +kernel
theorem dX5_heard_6 : decode cX5_heard 6 = .ok (.aload_n 3, 1) := by decide +kernel
theorem dX5_heard_7 : decode cX5_heard 7 = .ok (.ifnonnull 5, 3) := by decide +kernel
theorem dX5_heard_10 : decode cX5_heard 10 = .ok (.iconst (-1), 1) := by decide +kernel
theorem dX5_heard_11 : decode cX5_heard 11 = .ok (.ireturn, 1) := by decide +kernel
theorem dX5_heard_12 : decode cX5_heard 12 = .ok (.aload_n 0, 1) := by decide +kernel
theorem dX5_heard_13 : decode cX5_heard 13 = .ok (.getfield 63, 3) := by decide +kernel
theorem dX5_heard_16 : decode cX5_heard 16 = .ok (.ifCond .eq 13, 3) := by decide +kernel
theorem dX5_heard_19 : decode cX5_heard 19 = .ok (.aload_n 0, 1) := by decide +kernel
theorem dX5_heard_20 : decode cX5_heard 20 = .ok (.aload_n 3, 1) := by decide +kernel
theorem dX5_heard_21 : decode cX5_heard 21 = .ok (.iload_n 2, 1) := by decide +kernel
theorem dX5_heard_22 : decode cX5_heard 22 = .ok (.i2l, 1) := by decide +kernel
theorem dX5_heard_23 : decode cX5_heard 23 = .ok (.invokevirtual 156, 3) := by decide +kernel
theorem dX5_heard_26 : decode cX5_heard 26 = .ok (.goto 5, 3) := by decide +kernel
theorem dX5_heard_29 : decode cX5_heard 29 = .ok (.bipush (-3), 2) := by decide +kernel
theorem dX5_heard_31 : decode cX5_heard 31 = .ok (.ireturn, 1) := by decide +kernel
set_option maxRecDepth 20000 in
theorem ggX5_sum_X5_heardBy : GoodIn wsX5_sum wsX5_heardBy := goodIn_r _ [9, 2, 3, 4, 10, 11, 12, 8, 13, 14, 15, 16, 17, 18, 19, 20, 21, 22, 23, 24, 25, 26, 27, 28, 29, 30, 31, 32, 33, 34, 35, 36, 37, 38, 39, 40, 41, 42, 43, 44, 45, 46, 47, 48, 49, 50, 51, 52, 53, 54, 55, 56, 57, 58, 59, 60, 61, 62, 63, 64, 65, 66, 67, 68, 69, 70, 71, 72, 73, 74, 75, 76, 77, 78, 79, 80, 81, 82, 83, 84, 85, 86, 87, 88, 89, 90, 91, 92, 93, 94, 95, 96, 97, 98, 99] (by decide +kernel) (by decide +kernel)
set_option maxRecDepth 20000 in
theorem gX5_sum_X5_heardBy : GoodIn wsX5_sum (wsV RX5 156 RX5 yX5_heardBy wsX5_heardBy) := goodIn_app (goodIn_of _ (by decide +kernel)) ggX5_sum_X5_heardBy
theorem dX5_sum_0 : decode cX5_sum 0 = .ok (.aload_n 0, 1) := by decide +kernel
theorem dX5_sum_1 : decode cX5_sum 1 = .ok (.getfield 63, 3) := by decide +kernel
theorem dX5_sum_4 : decode cX5_sum 4 = .ok (.ifCond .ne 6, 3) := by decide +kernel
theorem dX5_sum_7 : decode cX5_sum 7 = .ok (.bipush (-3), 2) := by decide +kernel
theorem dX5_sum_9 : decode cX5_sum 9 = .ok (.ireturn, 1) := by decide +kernel
theorem dX5_sum_10 : decode cX5_sum 10 = .ok (.iconst 0, 1) := by decide +kernel
theorem dX5_sum_11 : decode cX5_sum 11 = .ok (.istore_n 2, 1) := by decide +kernel
theorem dX5_sum_12 : decode cX5_sum 12 = .ok (.aload_n 0, 1) := by decide +kernel
theorem dX5_sum_13 : decode cX5_sum 13 = .ok (.getfield 18, 3) := by decide +kernel
theorem dX5_sum_16 : decode cX5_sum 16 = .ok (.astore_n 3, 1) := by decide +kernel
theorem dX5_sum_17 : decode cX5_sum 17 = .ok (.aload_n 3, 1) := by decide +kernel
theorem dX5_sum_18 : decode cX5_sum 18 = .ok (.arraylength, 1) := by decide +kernel
theorem dX5_sum_19 : decode cX5_sum 19 = .ok (.istore 4, 2) := by decide +kernel
theorem dX5_sum_21 : decode cX5_sum 21 = .ok (.iconst 0, 1) := by decide +kernel
theorem dX5_sum_22 : decode cX5_sum 22 = .ok (.istore 5, 2) := by decide +kernel
theorem dX5_sum_24 : decode cX5_sum 24 = .ok (.iload 5, 2) := by decide +kernel
theorem dX5_sum_26 : decode cX5_sum 26 = .ok (.iload 4, 2) := by decide +kernel
theorem dX5_sum_28 : decode cX5_sum 28 = .ok (.if_icmp .ge 46, 3) := by decide +kernel
theorem dX5_sum_31 : decode cX5_sum 31 = .ok (.aload_n 3, 1) := by decide +kernel
theorem dX5_sum_32 : decode cX5_sum 32 = .ok (.iload 5, 2) := by decide +kernel
theorem dX5_sum_34 : decode cX5_sum 34 = .ok (.aaload, 1) := by decide +kernel
theorem dX5_sum_35 : decode cX5_sum 35 = .ok (.astore 6, 2) := by decide +kernel
theorem dX5_sum_37 : decode cX5_sum 37 = .ok (.aload 6, 2) := by decide +kernel
theorem dX5_sum_39 : decode cX5_sum 39 = .ok (.ifnull 29, 3) := by decide +kernel
theorem dX5_sum_42 : decode cX5_sum 42 = .ok (.aload 6, 2) := by decide +kernel
theorem dX5_sum_44 : decode cX5_sum 44 = .ok (.getfield 81, 3) := by decide +kernel
theorem dX5_sum_47 : decode cX5_sum 47 = .ok (.ifCond .eq 21, 3) := by decide +kernel
theorem dX5_sum_50 : decode cX5_sum 50 = .ok (.iload_n 2, 1) := by decide +kernel
theorem dX5_sum_51 : decode cX5_sum 51 = .ok (.aload_n 0, 1) := by decide +kernel
theorem dX5_sum_52 : decode cX5_sum 52 = .ok (.aload 6, 2) := by decide +kernel
theorem dX5_sum_54 : decode cX5_sum 54 = .ok (.iload_n 1, 1) := by decide +kernel
theorem dX5_sum_55 : decode cX5_sum 55 = .ok (.i2l, 1) := by decide +kernel
theorem dX5_sum_56 : decode cX5_sum 56 = .ok (.aload 6, 2) := by decide +kernel
theorem dX5_sum_58 : decode cX5_sum 58 = .ok (.getfield 153, 3) := by decide +kernel
theorem dX5_sum_61 : decode cX5_sum 61 = .ok (.i2l, 1) := by decide +kernel
theorem dX5_sum_62 : decode cX5_sum 62 = .ok (.lsub, 1) := by decide +kernel
theorem dX5_sum_63 : decode cX5_sum 63 = .ok (.invokevirtual 156, 3) := by decide +kernel
theorem dX5_sum_66 : decode cX5_sum 66 = .ok (.iadd, 1) := by decide +kernel
theorem dX5_sum_67 : decode cX5_sum 67 = .ok (.istore_n 2, 1) := by decide +kernel
theorem dX5_sum_68 : decode cX5_sum 68 = .ok (.iinc 5 1, 3) := by decide +kernel
theorem dX5_sum_71 : decode cX5_sum 71 = .ok (.goto (-47), 3) := by decide +kernel
theorem dX5_sum_74 : decode cX5_sum 74 = .ok (.iload_n 2, 1) := by decide +kernel
theorem dX5_sum_75 : decode cX5_sum 75 = .ok (.ireturn, 1) := by decide +kernel
set_option maxRecDepth 20000 in
theorem ggX5_board_X1_holds : GoodIn wsX5_board wsX1_holds := goodIn_r _ [8, 9, 10, 11, 12, 13, 87, 88, 89, 90, 91] (by decide +kernel) (by decide +kernel)
set_option maxRecDepth 20000 in
theorem gX5_board_X1_holds : GoodIn wsX5_board (wsV RX5 87 RX1 yX1_holds wsX1_holds) := goodIn_app (goodIn_of _ (by decide +kernel)) ggX5_board_X1_holds
set_option maxRecDepth 20000 in
theorem ggX5_board_X5_timeTo : GoodIn wsX5_board wsX5_timeTo := goodIn_r _ [17, 1, 18, 19, 20, 21, 22, 23, 24, 7, 25, 26, 27, 28, 29, 30, 31, 32, 33, 34, 35, 36, 37, 38, 39, 40, 11, 12, 13, 41, 42, 43, 44, 71, 72, 73, 74, 75, 76, 77, 78, 79, 80, 81, 87, 88, 89, 90, 91, 82, 83, 84, 85, 86] (by decide +kernel) (by decide +kernel)
set_option maxRecDepth 20000 in
theorem gX5_board_X5_timeTo : GoodIn wsX5_board (wsV RX5 119 RX5 yX5_timeTo wsX5_timeTo) := goodIn_app (goodIn_of _ (by decide +kernel)) ggX5_board_X5_timeTo
set_option maxRecDepth 20000 in
theorem ggX5_board_X5_echoAt : GoodIn wsX5_board wsX5_echoAt := goodIn_r _ [48, 3, 49, 50, 51, 52, 53, 12, 54, 55, 56, 20, 57, 58, 59, 60, 35, 32, 36, 61, 62, 63, 64, 65, 1, 66, 67, 68, 69, 7, 70, 9, 10, 14, 15, 16, 17, 18, 19, 21, 22, 23, 24, 25, 26, 27, 28, 29, 30, 31, 33, 34, 37, 38, 39, 40, 11, 13, 41, 42, 43, 44, 82, 83, 84, 85, 86, 71, 72, 73, 74, 75, 76, 77, 78, 79, 80, 81, 92, 93, 94, 95, 96, 97, 87, 88, 89, 90, 91] (by decide +kernel) (by decide +kernel)
set_option maxRecDepth 20000 in
theorem gX5_board_X5_echoAt : GoodIn wsX5_board (wsV RX5 144 RX5 yX5_echoAt wsX5_echoAt) := goodIn_app (goodIn_of _ (by decide +kernel)) ggX5_board_X5_echoAt
theorem dX5_board_0 : decode cX5_board 0 = .ok (.aload_n 0, 1) := by decide +kernel
theorem dX5_board_1 : decode cX5_board 1 = .ok (.getfield 12, 3) := by decide +kernel
theorem dX5_board_4 : decode cX5_board 4 = .ok (.iload_n 1, 1) := by decide +kernel
theorem dX5_board_5 : decode cX5_board 5 = .ok (.iload_n 2, 1) := by decide +kernel
theorem dX5_board_6 : decode cX5_board 6 = .ok (.invokevirtual 87, 3) := by decide +kernel
theorem dX5_board_9 : decode cX5_board 9 = .ok (.ifCond .ne 6, 3) := by decide +kernel
theorem dX5_board_12 : decode cX5_board 12 = .ok (.bipush (-2), 2) := by decide +kernel
theorem dX5_board_14 : decode cX5_board 14 = .ok (.ireturn, 1) := by decide +kernel
theorem dX5_board_15 : decode cX5_board 15 = .ok (.iconst 0, 1) := by decide +kernel
theorem dX5_board_16 : decode cX5_board 16 = .ok (.istore_n 3, 1) := by decide +kernel
theorem dX5_board_17 : decode cX5_board 17 = .ok (.aload_n 0, 1) := by decide +kernel
theorem dX5_board_18 : decode cX5_board 18 = .ok (.getfield 18, 3) := by decide +kernel
theorem dX5_board_21 : decode cX5_board 21 = .ok (.astore 4, 2) := by decide +kernel
theorem dX5_board_23 : decode cX5_board 23 = .ok (.aload 4, 2) := by decide +kernel
theorem dX5_board_25 : decode cX5_board 25 = .ok (.arraylength, 1) := by decide +kernel
theorem dX5_board_26 : decode cX5_board 26 = .ok (.istore 5, 2) := by decide +kernel
theorem dX5_board_28 : decode cX5_board 28 = .ok (.iconst 0, 1) := by decide +kernel
theorem dX5_board_29 : decode cX5_board 29 = .ok (.istore 6, 2) := by decide +kernel
theorem dX5_board_31 : decode cX5_board 31 = .ok (.iload 6, 2) := by decide +kernel
theorem dX5_board_33 : decode cX5_board 33 = .ok (.iload 5, 2) := by decide +kernel
theorem dX5_board_35 : decode cX5_board 35 = .ok (.if_icmp .ge 105, 3) := by decide +kernel
theorem dX5_board_38 : decode cX5_board 38 = .ok (.aload 4, 2) := by decide +kernel
theorem dX5_board_40 : decode cX5_board 40 = .ok (.iload 6, 2) := by decide +kernel
theorem dX5_board_42 : decode cX5_board 42 = .ok (.aaload, 1) := by decide +kernel
theorem dX5_board_43 : decode cX5_board 43 = .ok (.astore 7, 2) := by decide +kernel
theorem dX5_board_45 : decode cX5_board 45 = .ok (.aload_n 0, 1) := by decide +kernel
theorem dX5_board_46 : decode cX5_board 46 = .ok (.getfield 18, 3) := by decide +kernel
theorem dX5_board_49 : decode cX5_board 49 = .ok (.astore 8, 2) := by decide +kernel
theorem dX5_board_51 : decode cX5_board 51 = .ok (.aload 8, 2) := by decide +kernel
theorem dX5_board_53 : decode cX5_board 53 = .ok (.arraylength, 1) := by decide +kernel
theorem dX5_board_54 : decode cX5_board 54 = .ok (.istore 9, 2) := by decide +kernel
theorem dX5_board_56 : decode cX5_board 56 = .ok (.iconst 0, 1) := by decide +kernel
theorem dX5_board_57 : decode cX5_board 57 = .ok (.istore 10, 2) := by decide +kernel
theorem dX5_board_59 : decode cX5_board 59 = .ok (.iload 10, 2) := by decide +kernel
theorem dX5_board_61 : decode cX5_board 61 = .ok (.iload 9, 2) := by decide +kernel
theorem dX5_board_63 : decode cX5_board 63 = .ok (.if_icmp .ge 71, 3) := by decide +kernel
theorem dX5_board_66 : decode cX5_board 66 = .ok (.aload 8, 2) := by decide +kernel
theorem dX5_board_68 : decode cX5_board 68 = .ok (.iload 10, 2) := by decide +kernel
theorem dX5_board_70 : decode cX5_board 70 = .ok (.aaload, 1) := by decide +kernel
theorem dX5_board_71 : decode cX5_board 71 = .ok (.astore 11, 2) := by decide +kernel
theorem dX5_board_73 : decode cX5_board 73 = .ok (.aload 7, 2) := by decide +kernel
theorem dX5_board_75 : decode cX5_board 75 = .ok (.ifnull 53, 3) := by decide +kernel
theorem dX5_board_78 : decode cX5_board 78 = .ok (.aload 11, 2) := by decide +kernel
theorem dX5_board_80 : decode cX5_board 80 = .ok (.ifnull 48, 3) := by decide +kernel
theorem dX5_board_83 : decode cX5_board 83 = .ok (.aload 7, 2) := by decide +kernel
theorem dX5_board_85 : decode cX5_board 85 = .ok (.getfield 81, 3) := by decide +kernel
theorem dX5_board_88 : decode cX5_board 88 = .ok (.ifCond .eq 40, 3) := by decide +kernel
theorem dX5_board_91 : decode cX5_board 91 = .ok (.aload 11, 2) := by decide +kernel
theorem dX5_board_93 : decode cX5_board 93 = .ok (.getfield 81, 3) := by decide +kernel
theorem dX5_board_96 : decode cX5_board 96 = .ok (.ifCond .eq 32, 3) := by decide +kernel
theorem dX5_board_99 : decode cX5_board 99 = .ok (.iload_n 3, 1) := by decide +kernel
theorem dX5_board_100 : decode cX5_board 100 = .ok (.aload_n 0, 1) := by decide +kernel
theorem dX5_board_101 : decode cX5_board 101 = .ok (.aload 7, 2) := by decide +kernel
theorem dX5_board_103 : decode cX5_board 103 = .ok (.aload 11, 2) := by decide +kernel
theorem dX5_board_105 : decode cX5_board 105 = .ok (.aload_n 0, 1) := by decide +kernel
theorem dX5_board_106 : decode cX5_board 106 = .ok (.aload 7, 2) := by decide +kernel
theorem dX5_board_108 : decode cX5_board 108 = .ok (.iload_n 1, 1) := by decide +kernel
theorem dX5_board_109 : decode cX5_board 109 = .ok (.iload_n 2, 1) := by decide +kernel
theorem dX5_board_110 : decode cX5_board 110 = .ok (.invokevirtual 119, 3) := by decide +kernel
theorem dX5_board_113 : decode cX5_board 113 = .ok (.aload_n 0, 1) := by decide +kernel
theorem dX5_board_114 : decode cX5_board 114 = .ok (.aload 11, 2) := by decide +kernel
theorem dX5_board_116 : decode cX5_board 116 = .ok (.iload_n 1, 1) := by decide +kernel
theorem dX5_board_117 : decode cX5_board 117 = .ok (.iload_n 2, 1) := by decide +kernel
theorem dX5_board_118 : decode cX5_board 118 = .ok (.invokevirtual 119, 3) := by decide +kernel
theorem dX5_board_121 : decode cX5_board 121 = .ok (.iadd, 1) := by decide +kernel
theorem dX5_board_122 : decode cX5_board 122 = .ok (.i2l, 1) := by decide +kernel
theorem dX5_board_123 : decode cX5_board 123 = .ok (.invokevirtual 144, 3) := by decide +kernel
theorem dX5_board_126 : decode cX5_board 126 = .ok (.iadd, 1) := by decide +kernel
theorem dX5_board_127 : decode cX5_board 127 = .ok (.istore_n 3, 1) := by decide +kernel
theorem dX5_board_128 : decode cX5_board 128 = .ok (.iinc 10 1, 3) := by decide +kernel
theorem dX5_board_131 : decode cX5_board 131 = .ok (.goto (-72), 3) := by decide +kernel
theorem dX5_board_134 : decode cX5_board 134 = .ok (.iinc 6 1, 3) := by decide +kernel
theorem dX5_board_137 : decode cX5_board 137 = .ok (.goto (-106), 3) := by decide +kernel
theorem dX5_board_140 : decode cX5_board 140 = .ok (.iload_n 3, 1) := by decide +kernel
theorem dX5_board_141 : decode cX5_board 141 = .ok (.ireturn, 1) := by decide +kernel
set_option maxRecDepth 20000 in
theorem ggX5_tell_X5_elementNumbered : GoodIn wsX5_tell wsX5_elementNumbered := goodIn_r _ [10, 11, 24, 25, 26, 27, 28, 29, 30, 31, 32, 33, 34] (by decide +kernel) (by decide +kernel)
set_option maxRecDepth 20000 in
theorem gX5_tell_X5_elementNumbered : GoodIn wsX5_tell (wsV RX5 77 RX5 yX5_elementNumbered wsX5_elementNumbered) := goodIn_app (goodIn_of _ (by decide +kernel)) ggX5_tell_X5_elementNumbered
set_option maxRecDepth 20000 in
theorem ggX5_tell_X5_outside : GoodIn wsX5_tell wsX5_outside := goodIn_r _ [14] (by decide +kernel) (by decide +kernel)
set_option maxRecDepth 20000 in
theorem gX5_tell_X5_outside : GoodIn wsX5_tell (va_wsS RX5 44 yX5_outside wsX5_outside) := goodIn_app (goodIn_of _ (by decide +kernel)) ggX5_tell_X5_outside
set_option maxRecDepth 20000 in
theorem ggX5_tell_X4_init : GoodIn wsX5_tell wsX4_init := goodIn_r _ [17, 18, 19, 20, 21, 22, 23, 35, 36, 37] (by decide +kernel) (by decide +kernel)
set_option maxRecDepth 20000 in
theorem gX5_tell_X4_init : GoodIn wsX5_tell (wsX4_init) := ggX5_tell_X4_init
theorem dX5_tell_0 : decode cX5_tell 0 = .ok (.aload_n 0, 1) := by decide +kernel
theorem dX5_tell_1 : decode cX5_tell 1 = .ok (.iload_n 1, 1) := by decide +kernel
theorem dX5_tell_2 : decode cX5_tell 2 = .ok (.invokevirtual 77, 3) := by decide +kernel
theorem dX5_tell_5 : decode cX5_tell 5 = .ok (.astore 4, 2) := by decide +kernel
theorem dX5_tell_7 : decode cX5_tell 7 = .ok (.aload_n 0, 1) := by decide +kernel
theorem dX5_tell_8 : decode cX5_tell 8 = .ok (.iload_n 2, 1) := by decide +kernel
theorem dX5_tell_9 : decode cX5_tell 9 = .ok (.invokevirtual 77, 3) := by decide +kernel
theorem dX5_tell_12 : decode cX5_tell 12 = .ok (.astore 5, 2) := by decide +kernel
theorem dX5_tell_14 : decode cX5_tell 14 = .ok (.aload 4, 2) := by decide +kernel
theorem dX5_tell_16 : decode cX5_tell 16 = .ok (.ifnull 8, 3) := by decide +kernel
theorem dX5_tell_19 : decode cX5_tell 19 = .ok (.aload 5, 2) := by decide +kernel
theorem dX5_tell_21 : decode cX5_tell 21 = .ok (.ifnonnull 5, 3) := by decide +kernel
theorem dX5_tell_24 : decode cX5_tell 24 = .ok (.iconst (-1), 1) := by decide +kernel
theorem dX5_tell_25 : decode cX5_tell 25 = .ok (.ireturn, 1) := by decide +kernel
theorem dX5_tell_26 : decode cX5_tell 26 = .ok (.iload_n 3, 1) := by decide +kernel
theorem dX5_tell_27 : decode cX5_tell 27 = .ok (.iconst 0, 1) := by decide +kernel
theorem dX5_tell_28 : decode cX5_tell 28 = .ok (.sipush 4000, 3) := by decide +kernel
theorem dX5_tell_31 : decode cX5_tell 31 = .ok (.invokestatic 44, 3) := by decide +kernel
theorem dX5_tell_34 : decode cX5_tell 34 = .ok (.ifCond .eq 6, 3) := by decide +kernel
theorem dX5_tell_37 : decode cX5_tell 37 = .ok (.bipush (-2), 2) := by decide +kernel
theorem dX5_tell_39 : decode cX5_tell 39 = .ok (.ireturn, 1) := by decide +kernel
theorem dX5_tell_40 : decode cX5_tell 40 = .ok (.aload_n 0, 1) := by decide +kernel
theorem dX5_tell_41 : decode cX5_tell 41 = .ok (.getfield 160, 3) := by decide +kernel
theorem dX5_tell_44 : decode cX5_tell 44 = .ok (.bipush 6, 2) := by decide +kernel
theorem dX5_tell_46 : decode cX5_tell 46 = .ok (.if_icmp .lt 6, 3) := by decide +kernel
theorem dX5_tell_49 : decode cX5_tell 49 = .ok (.bipush (-4), 2) := by decide +kernel
theorem dX5_tell_51 : decode cX5_tell 51 = .ok (.ireturn, 1) := by decide +kernel
theorem dX5_tell_52 : decode cX5_tell 52 = .ok (.aload_n 0, 1) := by decide +kernel
theorem dX5_tell_53 : decode cX5_tell 53 = .ok (.getfield 30, 3) := by decide +kernel
theorem dX5_tell_56 : decode cX5_tell 56 = .ok (.aload_n 0, 1) := by decide +kernel
theorem dX5_tell_57 : decode cX5_tell 57 = .ok (.getfield 160, 3) := by decide +kernel
theorem dX5_tell_60 : decode cX5_tell 60 = .ok (.new 28, 3) := by decide +kernel
theorem dX5_tell_63 : decode cX5_tell 63 = .ok (.dup, 1) := by decide +kernel
theorem dX5_tell_64 : decode cX5_tell 64 = .ok (.aload 4, 2) := by decide +kernel
theorem dX5_tell_66 : decode cX5_tell 66 = .ok (.aload 5, 2) := by decide +kernel
theorem dX5_tell_68 : decode cX5_tell 68 = .ok (.iload_n 3, 1) := by decide +kernel
theorem dX5_tell_69 : decode cX5_tell 69 = .ok (.invokespecial 163, 3) := by decide +kernel
theorem dX5_tell_72 : decode cX5_tell 72 = .ok (.aastore, 1) := by decide +kernel
theorem dX5_tell_73 : decode cX5_tell 73 = .ok (.aload_n 0, 1) := by decide +kernel
theorem dX5_tell_74 : decode cX5_tell 74 = .ok (.dup, 1) := by decide +kernel
theorem dX5_tell_75 : decode cX5_tell 75 = .ok (.getfield 160, 3) := by decide +kernel
theorem dX5_tell_78 : decode cX5_tell 78 = .ok (.iconst 1, 1) := by decide +kernel
theorem dX5_tell_79 : decode cX5_tell 79 = .ok (.iadd, 1) := by decide +kernel
theorem dX5_tell_80 : decode cX5_tell 80 = .ok (.putfield 160, 3) := by decide +kernel
theorem dX5_tell_83 : decode cX5_tell 83 = .ok (.aload_n 0, 1) := by decide +kernel
theorem dX5_tell_84 : decode cX5_tell 84 = .ok (.getfield 160, 3) := by decide +kernel
theorem dX5_tell_87 : decode cX5_tell 87 = .ok (.ireturn, 1) := by decide +kernel
theorem dX5_forget_0 : decode cX5_forget 0 = .ok (.aload_n 0, 1) := by decide +kernel
theorem dX5_forget_1 : decode cX5_forget 1 = .ok (.getfield 160, 3) := by decide +kernel
theorem dX5_forget_4 : decode cX5_forget 4 = .ok (.istore_n 1, 1) := by decide +kernel
theorem dX5_forget_5 : decode cX5_forget 5 = .ok (.iconst 0, 1) := by decide +kernel
theorem dX5_forget_6 : decode cX5_forget 6 = .ok (.istore_n 2, 1) := by decide +kernel
theorem dX5_forget_7 : decode cX5_forget 7 = .ok (.iload_n 2, 1) := by decide +kernel
theorem dX5_forget_8 : decode cX5_forget 8 = .ok (.aload_n 0, 1) := by decide +kernel
theorem dX5_forget_9 : decode cX5_forget 9 = .ok (.getfield 30, 3) := by decide +kernel
theorem dX5_forget_12 : decode cX5_forget 12 = .ok (.arraylength, 1) := by decide +kernel
theorem dX5_forget_13 : decode cX5_forget 13 = .ok (.if_icmp .ge 16, 3) := by decide +kernel
theorem dX5_forget_16 : decode cX5_forget 16 = .ok (.aload_n 0, 1) := by decide +kernel
theorem dX5_forget_17 : decode cX5_forget 17 = .ok (.getfield 30, 3) := by decide +kernel
theorem dX5_forget_20 : decode cX5_forget 20 = .ok (.iload_n 2, 1) := by decide +kernel
theorem dX5_forget_21 : decode cX5_forget 21 = .ok (.aconst_null, 1) := by decide +kernel
theorem dX5_forget_22 : decode cX5_forget 22 = .ok (.aastore, 1) := by decide +kernel
theorem dX5_forget_23 : decode cX5_forget 23 = .ok (.iinc 2 1, 3) := by decide +kernel
theorem dX5_forget_26 : decode cX5_forget 26 = .ok (.goto (-19), 3) := by decide +kernel
theorem dX5_forget_29 : decode cX5_forget 29 = .ok (.aload_n 0, 1) := by decide +kernel
theorem dX5_forget_30 : decode cX5_forget 30 = .ok (.iconst 0, 1) := by decide +kernel
theorem dX5_forget_31 : decode cX5_forget 31 = .ok (.putfield 160, 3) := by decide +kernel
theorem dX5_forget_34 : decode cX5_forget 34 = .ok (.iload_n 1, 1) := by decide +kernel
theorem dX5_forget_35 : decode cX5_forget 35 = .ok (.ireturn, 1) := by decide +kernel
set_option maxRecDepth 20000 in
theorem ggX5_places_X5_outside : GoodIn wsX5_places wsX5_outside := goodIn_r _ [6] (by decide +kernel) (by decide +kernel)
set_option maxRecDepth 20000 in
theorem gX5_places_X5_outside : GoodIn wsX5_places (va_wsS RX5 44 yX5_outside wsX5_outside) := goodIn_app (goodIn_of _ (by decide +kernel)) ggX5_places_X5_outside
set_option maxRecDepth 20000 in
theorem ggX5_places_X1_floor : GoodIn wsX5_places wsX1_floor := goodIn_r _ [11, 12, 13, 64, 65, 66, 67, 68] (by decide +kernel) (by decide +kernel)
set_option maxRecDepth 20000 in
theorem gX5_places_X1_floor : GoodIn wsX5_places (wsV RX5 67 RX1 yX1_floor wsX1_floor) := goodIn_app (goodIn_of _ (by decide +kernel)) ggX5_places_X1_floor
set_option maxRecDepth 20000 in
theorem ggX5_places_X5_fits : GoodIn wsX5_places wsX5_fits := goodIn_r _ [17, 18, 19, 20, 21, 22, 23, 24, 25, 26, 27, 28, 5, 29, 1, 2, 30, 31, 32, 33, 34, 35, 10, 36, 37, 38, 39, 40, 41, 42, 43, 44, 45, 46, 47, 48, 4, 6, 49, 50, 51, 52, 53, 54, 55, 56, 57, 58, 59, 60, 61, 62, 63, 69, 70, 71, 64, 65, 66, 67, 68, 72, 73, 74, 75, 76] (by decide +kernel) (by decide +kernel)
set_option maxRecDepth 20000 in
theorem gX5_places_X5_fits : GoodIn wsX5_places (wsV RX5 166 RX5 yX5_fits wsX5_fits) := goodIn_app (goodIn_of _ (by decide +kernel)) ggX5_places_X5_fits
theorem dX5_places_0 : decode cX5_places 0 = .ok (.iload_n 1, 1) := by decide +kernel
theorem dX5_places_1 : decode cX5_places 1 = .ok (.iconst 0, 1) := by decide +kernel
theorem dX5_places_2 : decode cX5_places 2 = .ok (.bipush 100, 2) := by decide +kernel
theorem dX5_places_4 : decode cX5_places 4 = .ok (.invokestatic 44, 3) := by decide +kernel
theorem dX5_places_7 : decode cX5_places 7 = .ok (.ifCond .eq 6, 3) := by decide +kernel
theorem dX5_places_10 : decode cX5_places 10 = .ok (.bipush (-2), 2) := by decide +kernel
theorem dX5_places_12 : decode cX5_places 12 = .ok (.ireturn, 1) := by decide +kernel
theorem dX5_places_13 : decode cX5_places 13 = .ok (.iconst 0, 1) := by decide +kernel
theorem dX5_places_14 : decode cX5_places 14 = .ok (.istore_n 2, 1) := by decide +kernel
theorem dX5_places_15 : decode cX5_places 15 = .ok (.aload_n 0, 1) := by decide +kernel
theorem dX5_places_16 : decode cX5_places 16 = .ok (.getfield 12, 3) := by decide +kernel
theorem dX5_places_19 : decode cX5_places 19 = .ok (.getfield 124, 3) := by decide +kernel
theorem dX5_places_22 : decode cX5_places 22 = .ok (.istore_n 3, 1) := by decide +kernel
theorem dX5_places_23 : decode cX5_places 23 = .ok (.iload_n 3, 1) := by decide +kernel
theorem dX5_places_24 : decode cX5_places 24 = .ok (.aload_n 0, 1) := by decide +kernel
theorem dX5_places_25 : decode cX5_places 25 = .ok (.getfield 12, 3) := by decide +kernel
theorem dX5_places_28 : decode cX5_places 28 = .ok (.invokevirtual 67, 3) := by decide +kernel
theorem dX5_places_31 : decode cX5_places 31 = .ok (.if_icmp .gt 39, 3) := by decide +kernel
theorem dX5_places_34 : decode cX5_places 34 = .ok (.iconst 0, 1) := by decide +kernel
theorem dX5_places_35 : decode cX5_places 35 = .ok (.istore 4, 2) := by decide +kernel
theorem dX5_places_37 : decode cX5_places 37 = .ok (.iload 4, 2) := by decide +kernel
theorem dX5_places_39 : decode cX5_places 39 = .ok (.bipush 50, 2) := by decide +kernel
theorem dX5_places_41 : decode cX5_places 41 = .ok (.if_icmp .gt 23, 3) := by decide +kernel
theorem dX5_places_44 : decode cX5_places 44 = .ok (.aload_n 0, 1) := by decide +kernel
theorem dX5_places_45 : decode cX5_places 45 = .ok (.iload 4, 2) := by decide +kernel
theorem dX5_places_47 : decode cX5_places 47 = .ok (.iload_n 3, 1) := by decide +kernel
theorem dX5_places_48 : decode cX5_places 48 = .ok (.iload_n 1, 1) := by decide +kernel
theorem dX5_places_49 : decode cX5_places 49 = .ok (.invokevirtual 166, 3) := by decide +kernel
theorem dX5_places_52 : decode cX5_places 52 = .ok (.ifCond .eq 6, 3) := by decide +kernel
theorem dX5_places_55 : decode cX5_places 55 = .ok (.iinc 2 1, 3) := by decide +kernel
theorem dX5_places_58 : decode cX5_places 58 = .ok (.iinc 4 1, 3) := by decide +kernel
theorem dX5_places_61 : decode cX5_places 61 = .ok (.goto (-24), 3) := by decide +kernel
theorem dX5_places_64 : decode cX5_places 64 = .ok (.iinc 3 1, 3) := by decide +kernel
theorem dX5_places_67 : decode cX5_places 67 = .ok (.goto (-44), 3) := by decide +kernel
theorem dX5_places_70 : decode cX5_places 70 = .ok (.iload_n 2, 1) := by decide +kernel
theorem dX5_places_71 : decode cX5_places 71 = .ok (.ireturn, 1) := by decide +kernel
set_option maxRecDepth 20000 in
theorem ggX5_place_X5_outside : GoodIn wsX5_place wsX5_outside := goodIn_r _ [7] (by decide +kernel) (by decide +kernel)
set_option maxRecDepth 20000 in
theorem gX5_place_X5_outside : GoodIn wsX5_place (va_wsS RX5 44 yX5_outside wsX5_outside) := goodIn_app (goodIn_of _ (by decide +kernel)) ggX5_place_X5_outside
set_option maxRecDepth 20000 in
theorem ggX5_place_X1_floor : GoodIn wsX5_place wsX1_floor := goodIn_r _ [12, 13, 14, 64, 65, 66, 67, 68] (by decide +kernel) (by decide +kernel)
set_option maxRecDepth 20000 in
theorem gX5_place_X1_floor : GoodIn wsX5_place (wsV RX5 67 RX1 yX1_floor wsX1_floor) := goodIn_app (goodIn_of _ (by decide +kernel)) ggX5_place_X1_floor
set_option maxRecDepth 20000 in
theorem ggX5_place_X5_fits : GoodIn wsX5_place wsX5_fits := goodIn_r _ [18, 19, 20, 21, 22, 23, 24, 25, 26, 27, 28, 29, 6, 30, 2, 3, 31, 1, 32, 33, 34, 35, 11, 36, 37, 38, 39, 40, 41, 42, 43, 44, 45, 46, 47, 48, 5, 7, 49, 50, 51, 52, 53, 54, 55, 56, 57, 58, 59, 60, 61, 62, 63, 69, 70, 71, 64, 65, 66, 67, 68, 72, 73, 74, 75, 76] (by decide +kernel) (by decide +kernel)
set_option maxRecDepth 20000 in
theorem gX5_place_X5_fits : GoodIn wsX5_place (wsV RX5 166 RX5 yX5_fits wsX5_fits) := goodIn_app (goodIn_of _ (by decide +kernel)) ggX5_place_X5_fits
theorem dX5_place_0 : decode cX5_place 0 = .ok (.iload_n 1, 1) := by decide +kernel
theorem dX5_place_1 : decode cX5_place 1 = .ok (.iconst 0, 1) := by decide +kernel
theorem dX5_place_2 : decode cX5_place 2 = .ok (.bipush 100, 2) := by decide +kernel
theorem dX5_place_4 : decode cX5_place 4 = .ok (.invokestatic 44, 3) := by decide +kernel
theorem dX5_place_7 : decode cX5_place 7 = .ok (.ifCond .eq 6, 3) := by decide +kernel
theorem dX5_place_10 : decode cX5_place 10 = .ok (.bipush (-2), 2) := by decide +kernel
theorem dX5_place_12 : decode cX5_place 12 = .ok (.ireturn, 1) := by decide +kernel
theorem dX5_place_13 : decode cX5_place 13 = .ok (.iload_n 2, 1) := by decide +kernel
theorem dX5_place_14 : decode cX5_place 14 = .ok (.iconst 0, 1) := by decide +kernel
theorem dX5_place_15 : decode cX5_place 15 = .ok (.sipush 1580, 3) := by decide +kernel
theorem dX5_place_18 : decode cX5_place 18 = .ok (.invokestatic 44, 3) := by decide +kernel
theorem dX5_place_21 : decode cX5_place 21 = .ok (.ifCond .eq 6, 3) := by decide +kernel
theorem dX5_place_24 : decode cX5_place 24 = .ok (.ldc 148, 2) := by decide +kernel
theorem dX5_place_26 : decode cX5_place 26 = .ok (.ireturn, 1) := by decide +kernel
theorem dX5_place_27 : decode cX5_place 27 = .ok (.iload_n 2, 1) := by decide +kernel
theorem dX5_place_28 : decode cX5_place 28 = .ok (.istore_n 3, 1) := by decide +kernel
theorem dX5_place_29 : decode cX5_place 29 = .ok (.aload_n 0, 1) := by decide +kernel
theorem dX5_place_30 : decode cX5_place 30 = .ok (.getfield 12, 3) := by decide +kernel
theorem dX5_place_33 : decode cX5_place 33 = .ok (.getfield 124, 3) := by decide +kernel
theorem dX5_place_36 : decode cX5_place 36 = .ok (.istore 4, 2) := by decide +kernel
theorem dX5_place_38 : decode cX5_place 38 = .ok (.iload 4, 2) := by decide +kernel
theorem dX5_place_40 : decode cX5_place 40 = .ok (.aload_n 0, 1) := by decide +kernel
theorem dX5_place_41 : decode cX5_place 41 = .ok (.getfield 12, 3) := by decide +kernel
theorem dX5_place_44 : decode cX5_place 44 = .ok (.invokevirtual 67, 3) := by decide +kernel
theorem dX5_place_47 : decode cX5_place 47 = .ok (.if_icmp .gt 54, 3) := by decide +kernel
theorem dX5_place_50 : decode cX5_place 50 = .ok (.iconst 0, 1) := by decide +kernel
theorem dX5_place_51 : decode cX5_place 51 = .ok (.istore 5, 2) := by decide +kernel
theorem dX5_place_53 : decode cX5_place 53 = .ok (.iload 5, 2) := by decide +kernel
theorem dX5_place_55 : decode cX5_place 55 = .ok (.bipush 50, 2) := by decide +kernel
theorem dX5_place_57 : decode cX5_place 57 = .ok (.if_icmp .gt 38, 3) := by decide +kernel
theorem dX5_place_60 : decode cX5_place 60 = .ok (.aload_n 0, 1) := by decide +kernel
theorem dX5_place_61 : decode cX5_place 61 = .ok (.iload 5, 2) := by decide +kernel
theorem dX5_place_63 : decode cX5_place 63 = .ok (.iload 4, 2) := by decide +kernel
theorem dX5_place_65 : decode cX5_place 65 = .ok (.iload_n 1, 1) := by decide +kernel
theorem dX5_place_66 : decode cX5_place 66 = .ok (.invokevirtual 166, 3) := by decide +kernel
theorem dX5_place_69 : decode cX5_place 69 = .ok (.ifCond .eq 20, 3) := by decide +kernel
theorem dX5_place_72 : decode cX5_place 72 = .ok (.iload_n 3, 1) := by decide +kernel
theorem dX5_place_73 : decode cX5_place 73 = .ok (.ifCond .ne 13, 3) := by decide +kernel
theorem dX5_place_76 : decode cX5_place 76 = .ok (.sipush 1000, 3) := by decide +kernel
theorem dX5_place_79 : decode cX5_place 79 = .ok (.iload 5, 2) := by decide +kernel
theorem dX5_place_81 : decode cX5_place 81 = .ok (.imul, 1) := by decide +kernel
theorem dX5_place_82 : decode cX5_place 82 = .ok (.iload 4, 2) := by decide +kernel
theorem dX5_place_84 : decode cX5_place 84 = .ok (.iadd, 1) := by decide +kernel
theorem dX5_place_85 : decode cX5_place 85 = .ok (.ireturn, 1) := by decide +kernel
theorem dX5_place_86 : decode cX5_place 86 = .ok (.iinc 3 (-1), 3) := by decide +kernel
theorem dX5_place_89 : decode cX5_place 89 = .ok (.iinc 5 1, 3) := by decide +kernel
theorem dX5_place_92 : decode cX5_place 92 = .ok (.goto (-39), 3) := by decide +kernel
theorem dX5_place_95 : decode cX5_place 95 = .ok (.iinc 4 1, 3) := by decide +kernel
theorem dX5_place_98 : decode cX5_place 98 = .ok (.goto (-60), 3) := by decide +kernel
theorem dX5_place_101 : decode cX5_place 101 = .ok (.ldc 148, 2) := by decide +kernel
theorem dX5_place_103 : decode cX5_place 103 = .ok (.ireturn, 1) := by decide +kernel
set_option maxRecDepth 20000 in
theorem ggX5_sheet_X5_noSheet : GoodIn wsX5_sheet wsX5_noSheet := goodIn_r _ [8, 9, 10, 7, 11] (by decide +kernel) (by decide +kernel)
set_option maxRecDepth 20000 in
theorem gX5_sheet_X5_noSheet : GoodIn wsX5_sheet (va_wsS RX5 169 yX5_noSheet wsX5_noSheet) := goodIn_app (goodIn_of _ (by decide +kernel)) ggX5_sheet_X5_noSheet
set_option maxRecDepth 20000 in
theorem ggX5_sheet_X5_found : GoodIn wsX5_sheet wsX5_found := goodIn_r _ [15, 16, 26, 27, 28, 29, 30, 31, 32, 33, 34, 35, 36] (by decide +kernel) (by decide +kernel)
set_option maxRecDepth 20000 in
theorem gX5_sheet_X5_found : GoodIn wsX5_sheet (wsV RX5 102 RX5 yX5_found wsX5_found) := goodIn_app (goodIn_of _ (by decide +kernel)) ggX5_sheet_X5_found
set_option maxRecDepth 20000 in
theorem ggX5_sheet_X5_outside : GoodIn wsX5_sheet wsX5_outside := goodIn_r _ [11] (by decide +kernel) (by decide +kernel)
set_option maxRecDepth 20000 in
theorem gX5_sheet_X5_outside : GoodIn wsX5_sheet (va_wsS RX5 44 yX5_outside wsX5_outside) := goodIn_app (goodIn_of _ (by decide +kernel)) ggX5_sheet_X5_outside
set_option maxRecDepth 20000 in
theorem ggX5_sheet_X2_init : GoodIn wsX5_sheet wsX2_init := goodIn_r _ [19, 20, 21, 22, 23, 24, 25, 37, 38] (by decide +kernel) (by decide +kernel)
set_option maxRecDepth 20000 in
theorem gX5_sheet_X2_init : GoodIn wsX5_sheet (wsX2_init) := ggX5_sheet_X2_init
theorem dX5_sheet_0 : decode cX5_sheet 0 = .ok (.iload_n 1, 1) := by decide +kernel
theorem dX5_sheet_1 : decode cX5_sheet 1 = .ok (.invokestatic 169, 3) := by decide +kernel
theorem dX5_sheet_4 : decode cX5_sheet 4 = .ok (.ifCond .eq 10, 3) := by decide +kernel
theorem dX5_sheet_7 : decode cX5_sheet 7 = .ok (.aload_n 0, 1) := by decide +kernel
theorem dX5_sheet_8 : decode cX5_sheet 8 = .ok (.bipush (-12), 2) := by decide +kernel
theorem dX5_sheet_10 : decode cX5_sheet 10 = .ok (.invokevirtual 102, 3) := by decide +kernel
theorem dX5_sheet_13 : decode cX5_sheet 13 = .ok (.ireturn, 1) := by decide +kernel
theorem dX5_sheet_14 : decode cX5_sheet 14 = .ok (.iload_n 2, 1) := by decide +kernel
theorem dX5_sheet_15 : decode cX5_sheet 15 = .ok (.iconst 0, 1) := by decide +kernel
theorem dX5_sheet_16 : decode cX5_sheet 16 = .ok (.iconst 2, 1) := by decide +kernel
theorem dX5_sheet_17 : decode cX5_sheet 17 = .ok (.invokestatic 44, 3) := by decide +kernel
theorem dX5_sheet_20 : decode cX5_sheet 20 = .ok (.ifCond .ne 9, 3) := by decide +kernel
theorem dX5_sheet_23 : decode cX5_sheet 23 = .ok (.iload_n 3, 1) := by decide +kernel
theorem dX5_sheet_24 : decode cX5_sheet 24 = .ok (.bipush 64, 2) := by decide +kernel
theorem dX5_sheet_26 : decode cX5_sheet 26 = .ok (.if_icmp .le 6, 3) := by decide +kernel
theorem dX5_sheet_29 : decode cX5_sheet 29 = .ok (.bipush (-2), 2) := by decide +kernel
theorem dX5_sheet_31 : decode cX5_sheet 31 = .ok (.ireturn, 1) := by decide +kernel
theorem dX5_sheet_32 : decode cX5_sheet 32 = .ok (.iload_n 3, 1) := by decide +kernel
theorem dX5_sheet_33 : decode cX5_sheet 33 = .ok (.ifCond .ge 10, 3) := by decide +kernel
theorem dX5_sheet_36 : decode cX5_sheet 36 = .ok (.aload_n 0, 1) := by decide +kernel
theorem dX5_sheet_37 : decode cX5_sheet 37 = .ok (.bipush (-14), 2) := by decide +kernel
theorem dX5_sheet_39 : decode cX5_sheet 39 = .ok (.invokevirtual 102, 3) := by decide +kernel
theorem dX5_sheet_42 : decode cX5_sheet 42 = .ok (.ireturn, 1) := by decide +kernel
theorem dX5_sheet_43 : decode cX5_sheet 43 = .ok (.aload_n 0, 1) := by decide +kernel
theorem dX5_sheet_44 : decode cX5_sheet 44 = .ok (.getfield 36, 3) := by decide +kernel
theorem dX5_sheet_47 : decode cX5_sheet 47 = .ok (.iload_n 1, 1) := by decide +kernel
theorem dX5_sheet_48 : decode cX5_sheet 48 = .ok (.new 34, 3) := by decide +kernel
theorem dX5_sheet_51 : decode cX5_sheet 51 = .ok (.dup, 1) := by decide +kernel
theorem dX5_sheet_52 : decode cX5_sheet 52 = .ok (.iload_n 2, 1) := by decide +kernel
theorem dX5_sheet_53 : decode cX5_sheet 53 = .ok (.iload_n 3, 1) := by decide +kernel
theorem dX5_sheet_54 : decode cX5_sheet 54 = .ok (.invokespecial 173, 3) := by decide +kernel
theorem dX5_sheet_57 : decode cX5_sheet 57 = .ok (.aastore, 1) := by decide +kernel
theorem dX5_sheet_58 : decode cX5_sheet 58 = .ok (.iload_n 3, 1) := by decide +kernel
theorem dX5_sheet_59 : decode cX5_sheet 59 = .ok (.ireturn, 1) := by decide +kernel
set_option maxRecDepth 20000 in
theorem ggX5_tear_X5_noSheet : GoodIn wsX5_tear wsX5_noSheet := goodIn_r _ [5, 6, 7, 4, 8] (by decide +kernel) (by decide +kernel)
set_option maxRecDepth 20000 in
theorem gX5_tear_X5_noSheet : GoodIn wsX5_tear (va_wsS RX5 169 yX5_noSheet wsX5_noSheet) := goodIn_app (goodIn_of _ (by decide +kernel)) ggX5_tear_X5_noSheet
set_option maxRecDepth 20000 in
theorem ggX5_tear_X5_found : GoodIn wsX5_tear wsX5_found := goodIn_r _ [12, 13, 14, 15, 16, 17, 18, 19, 20, 21, 22, 23, 24] (by decide +kernel) (by decide +kernel)
set_option maxRecDepth 20000 in
theorem gX5_tear_X5_found : GoodIn wsX5_tear (wsV RX5 102 RX5 yX5_found wsX5_found) := goodIn_app (goodIn_of _ (by decide +kernel)) ggX5_tear_X5_found
theorem dX5_tear_0 : decode cX5_tear 0 = .ok (.iload_n 1, 1) := by decide +kernel
theorem dX5_tear_1 : decode cX5_tear 1 = .ok (.invokestatic 169, 3) := by decide +kernel
theorem dX5_tear_4 : decode cX5_tear 4 = .ok (.ifCond .eq 10, 3) := by decide +kernel
theorem dX5_tear_7 : decode cX5_tear 7 = .ok (.aload_n 0, 1) := by decide +kernel
theorem dX5_tear_8 : decode cX5_tear 8 = .ok (.bipush (-12), 2) := by decide +kernel
theorem dX5_tear_10 : decode cX5_tear 10 = .ok (.invokevirtual 102, 3) := by decide +kernel
theorem dX5_tear_13 : decode cX5_tear 13 = .ok (.ireturn, 1) := by decide +kernel
theorem dX5_tear_14 : decode cX5_tear 14 = .ok (.aload_n 0, 1) := by decide +kernel
theorem dX5_tear_15 : decode cX5_tear 15 = .ok (.getfield 36, 3) := by decide +kernel
theorem dX5_tear_18 : decode cX5_tear 18 = .ok (.iload_n 1, 1) := by decide +kernel
theorem dX5_tear_19 : decode cX5_tear 19 = .ok (.aaload, 1) := by decide +kernel
theorem dX5_tear_20 : decode cX5_tear 20 = .ok (.ifnonnull 7, 3) := by decide +kernel
theorem dX5_tear_23 : decode cX5_tear 23 = .ok (.iconst 1, 1) := by decide +kernel
theorem dX5_tear_24 : decode cX5_tear 24 = .ok (.goto 4, 3) := by decide +kernel
theorem dX5_tear_27 : decode cX5_tear 27 = .ok (.iconst 0, 1) := by decide +kernel
theorem dX5_tear_28 : decode cX5_tear 28 = .ok (.istore_n 2, 1) := by decide +kernel
theorem dX5_tear_29 : decode cX5_tear 29 = .ok (.aload_n 0, 1) := by decide +kernel
theorem dX5_tear_30 : decode cX5_tear 30 = .ok (.getfield 36, 3) := by decide +kernel
theorem dX5_tear_33 : decode cX5_tear 33 = .ok (.iload_n 1, 1) := by decide +kernel
theorem dX5_tear_34 : decode cX5_tear 34 = .ok (.aconst_null, 1) := by decide +kernel
theorem dX5_tear_35 : decode cX5_tear 35 = .ok (.aastore, 1) := by decide +kernel
theorem dX5_tear_36 : decode cX5_tear 36 = .ok (.iload_n 2, 1) := by decide +kernel
theorem dX5_tear_37 : decode cX5_tear 37 = .ok (.ireturn, 1) := by decide +kernel
set_option maxRecDepth 20000 in
theorem ggX5_record_X5_noSheet : GoodIn wsX5_record wsX5_noSheet := goodIn_r _ [6, 7, 8, 5, 9] (by decide +kernel) (by decide +kernel)
set_option maxRecDepth 20000 in
theorem gX5_record_X5_noSheet : GoodIn wsX5_record (va_wsS RX5 169 yX5_noSheet wsX5_noSheet) := goodIn_app (goodIn_of _ (by decide +kernel)) ggX5_record_X5_noSheet
set_option maxRecDepth 20000 in
theorem ggX5_record_X5_found : GoodIn wsX5_record wsX5_found := goodIn_r _ [13, 14, 97, 98, 99, 100, 101, 102, 103, 104, 105, 106, 107] (by decide +kernel) (by decide +kernel)
set_option maxRecDepth 20000 in
theorem gX5_record_X5_found : GoodIn wsX5_record (wsV RX5 102 RX5 yX5_found wsX5_found) := goodIn_app (goodIn_of _ (by decide +kernel)) ggX5_record_X5_found
set_option maxRecDepth 20000 in
theorem ggX5_record_X5_elementNumbered : GoodIn wsX5_record wsX5_elementNumbered := goodIn_r _ [18, 19, 97, 98, 99, 100, 101, 102, 103, 104, 105, 106, 107] (by decide +kernel) (by decide +kernel)
set_option maxRecDepth 20000 in
theorem gX5_record_X5_elementNumbered : GoodIn wsX5_record (wsV RX5 77 RX5 yX5_elementNumbered wsX5_elementNumbered) := goodIn_app (goodIn_of _ (by decide +kernel)) ggX5_record_X5_elementNumbered
set_option maxRecDepth 20000 in
theorem ggX5_record_X5_echoAt : GoodIn wsX5_record wsX5_echoAt := goodIn_r _ [23, 24, 25, 26, 27, 28, 29, 5, 30, 31, 32, 33, 34, 35, 36, 37, 38, 39, 40, 41, 42, 43, 44, 45, 46, 47, 48, 49, 50, 51, 52, 53, 54, 55, 56, 57, 58, 59, 60, 61, 62, 63, 64, 65, 66, 67, 68, 69, 70, 71, 72, 73, 74, 75, 76, 77, 8, 9, 78, 79, 80, 81, 110, 111, 112, 113, 114, 97, 98, 99, 100, 101, 102, 103, 104, 105, 106, 107, 115, 116, 117, 118, 119, 120, 121, 122, 123, 124, 125] (by decide +kernel) (by decide +kernel)
set_option maxRecDepth 20000 in
theorem gX5_record_X5_echoAt : GoodIn wsX5_record (wsV RX5 144 RX5 yX5_echoAt wsX5_echoAt) := goodIn_app (goodIn_of _ (by decide +kernel)) ggX5_record_X5_echoAt
set_option maxRecDepth 20000 in
theorem ggX5_record_X2_nearestTo : GoodIn wsX5_record wsX2_nearestTo := goodIn_r _ [86, 87, 88, 89, 90, 91, 92, 39, 93, 94, 95, 96, 108, 109] (by decide +kernel) (by decide +kernel)
set_option maxRecDepth 20000 in
theorem gX5_record_X2_nearestTo : GoodIn wsX5_record (wsV RX5 177 RX2 yX2_nearestTo wsX2_nearestTo) := goodIn_app (goodIn_of _ (by decide +kernel)) ggX5_record_X2_nearestTo
theorem dX5_record_0 : decode cX5_record 0 = .ok (.iload_n 1, 1) := by decide +kernel
theorem dX5_record_1 : decode cX5_record 1 = .ok (.invokestatic 169, 3) := by decide +kernel
theorem dX5_record_4 : decode cX5_record 4 = .ok (.ifCond .eq 10, 3) := by decide +kernel
theorem dX5_record_7 : decode cX5_record 7 = .ok (.aload_n 0, 1) := by decide +kernel
theorem dX5_record_8 : decode cX5_record 8 = .ok (.bipush (-12), 2) := by decide +kernel
theorem dX5_record_10 : decode cX5_record 10 = .ok (.invokevirtual 102, 3) := by decide +kernel
theorem dX5_record_13 : decode cX5_record 13 = .ok (.ireturn, 1) := by decide +kernel
theorem dX5_record_14 : decode cX5_record 14 = .ok (.aload_n 0, 1) := by decide +kernel
theorem dX5_record_15 : decode cX5_record 15 = .ok (.iload_n 2, 1) := by decide +kernel
theorem dX5_record_16 : decode cX5_record 16 = .ok (.invokevirtual 77, 3) := by decide +kernel
theorem dX5_record_19 : decode cX5_record 19 = .ok (.astore 5, 2) := by decide +kernel
theorem dX5_record_21 : decode cX5_record 21 = .ok (.aload_n 0, 1) := by decide +kernel
theorem dX5_record_22 : decode cX5_record 22 = .ok (.iload_n 3, 1) := by decide +kernel
theorem dX5_record_23 : decode cX5_record 23 = .ok (.invokevirtual 77, 3) := by decide +kernel
theorem dX5_record_26 : decode cX5_record 26 = .ok (.astore 6, 2) := by decide +kernel
theorem dX5_record_28 : decode cX5_record 28 = .ok (.aload 5, 2) := by decide +kernel
theorem dX5_record_30 : decode cX5_record 30 = .ok (.ifnull 8, 3) := by decide +kernel
theorem dX5_record_33 : decode cX5_record 33 = .ok (.aload 6, 2) := by decide +kernel
theorem dX5_record_35 : decode cX5_record 35 = .ok (.ifnonnull 5, 3) := by decide +kernel
theorem dX5_record_38 : decode cX5_record 38 = .ok (.iconst (-1), 1) := by decide +kernel
theorem dX5_record_39 : decode cX5_record 39 = .ok (.ireturn, 1) := by decide +kernel
theorem dX5_record_40 : decode cX5_record 40 = .ok (.aload_n 0, 1) := by decide +kernel
theorem dX5_record_41 : decode cX5_record 41 = .ok (.getfield 36, 3) := by decide +kernel
theorem dX5_record_44 : decode cX5_record 44 = .ok (.iload_n 1, 1) := by decide +kernel
theorem dX5_record_45 : decode cX5_record 45 = .ok (.aaload, 1) := by decide +kernel
theorem dX5_record_46 : decode cX5_record 46 = .ok (.astore 7, 2) := by decide +kernel
theorem dX5_record_48 : decode cX5_record 48 = .ok (.aload 7, 2) := by decide +kernel
theorem dX5_record_50 : decode cX5_record 50 = .ok (.ifnonnull 10, 3) := by decide +kernel
theorem dX5_record_53 : decode cX5_record 53 = .ok (.aload_n 0, 1) := by decide +kernel
theorem dX5_record_54 : decode cX5_record 54 = .ok (.bipush (-11), 2) := by decide +kernel
theorem dX5_record_56 : decode cX5_record 56 = .ok (.invokevirtual 102, 3) := by decide +kernel
theorem dX5_record_59 : decode cX5_record 59 = .ok (.ireturn, 1) := by decide +kernel
theorem dX5_record_60 : decode cX5_record 60 = .ok (.iconst 0, 1) := by decide +kernel
theorem dX5_record_61 : decode cX5_record 61 = .ok (.istore 8, 2) := by decide +kernel
theorem dX5_record_63 : decode cX5_record 63 = .ok (.iload 8, 2) := by decide +kernel
theorem dX5_record_65 : decode cX5_record 65 = .ok (.aload 7, 2) := by decide +kernel
theorem dX5_record_67 : decode cX5_record 67 = .ok (.getfield 174, 3) := by decide +kernel
theorem dX5_record_70 : decode cX5_record 70 = .ok (.arraylength, 1) := by decide +kernel
theorem dX5_record_71 : decode cX5_record 71 = .ok (.if_icmp .ge 38, 3) := by decide +kernel
theorem dX5_record_74 : decode cX5_record 74 = .ok (.aload 7, 2) := by decide +kernel
theorem dX5_record_76 : decode cX5_record 76 = .ok (.getfield 174, 3) := by decide +kernel
theorem dX5_record_79 : decode cX5_record 79 = .ok (.iload 8, 2) := by decide +kernel
theorem dX5_record_81 : decode cX5_record 81 = .ok (.aload 7, 2) := by decide +kernel
theorem dX5_record_83 : decode cX5_record 83 = .ok (.aload_n 0, 1) := by decide +kernel
theorem dX5_record_84 : decode cX5_record 84 = .ok (.aload 5, 2) := by decide +kernel
theorem dX5_record_86 : decode cX5_record 86 = .ok (.aload 6, 2) := by decide +kernel
theorem dX5_record_88 : decode cX5_record 88 = .ok (.iload 4, 2) := by decide +kernel
theorem dX5_record_90 : decode cX5_record 90 = .ok (.i2l, 1) := by decide +kernel
theorem dX5_record_91 : decode cX5_record 91 = .ok (.iload 8, 2) := by decide +kernel
theorem dX5_record_93 : decode cX5_record 93 = .ok (.i2l, 1) := by decide +kernel
theorem dX5_record_94 : decode cX5_record 94 = .ok (.ladd, 1) := by decide +kernel
theorem dX5_record_95 : decode cX5_record 95 = .ok (.invokevirtual 144, 3) := by decide +kernel
theorem dX5_record_98 : decode cX5_record 98 = .ok (.i2l, 1) := by decide +kernel
theorem dX5_record_99 : decode cX5_record 99 = .ok (.invokevirtual 177, 3) := by decide +kernel
theorem dX5_record_102 : decode cX5_record 102 = .ok (.iastore, 1) := by decide +kernel
theorem dX5_record_103 : decode cX5_record 103 = .ok (.iinc 8 1, 3) := by decide +kernel
theorem dX5_record_106 : decode cX5_record 106 = .ok (.goto (-43), 3) := by decide +kernel
theorem dX5_record_109 : decode cX5_record 109 = .ok (.aload 7, 2) := by decide +kernel
theorem dX5_record_111 : decode cX5_record 111 = .ok (.getfield 174, 3) := by decide +kernel
theorem dX5_record_114 : decode cX5_record 114 = .ok (.arraylength, 1) := by decide +kernel
theorem dX5_record_115 : decode cX5_record 115 = .ok (.ireturn, 1) := by decide +kernel
set_option maxRecDepth 20000 in
theorem ggX5_add_X5_noSheet : GoodIn wsX5_add wsX5_noSheet := goodIn_r _ [15, 16, 17, 14, 18] (by decide +kernel) (by decide +kernel)
set_option maxRecDepth 20000 in
theorem gX5_add_X5_noSheet : GoodIn wsX5_add (va_wsS RX5 169 yX5_noSheet wsX5_noSheet) := goodIn_app (goodIn_of _ (by decide +kernel)) ggX5_add_X5_noSheet
set_option maxRecDepth 20000 in
theorem ggX5_add_X5_found : GoodIn wsX5_add wsX5_found := goodIn_r _ [22, 23, 39, 40, 41, 42, 43, 44, 45, 46, 47, 48, 49] (by decide +kernel) (by decide +kernel)
set_option maxRecDepth 20000 in
theorem gX5_add_X5_found : GoodIn wsX5_add (wsV RX5 102 RX5 yX5_found wsX5_found) := goodIn_app (goodIn_of _ (by decide +kernel)) ggX5_add_X5_found
set_option maxRecDepth 20000 in
theorem ggX5_add_X2_nearestTo : GoodIn wsX5_add wsX2_nearestTo := goodIn_r _ [28, 29, 30, 31, 32, 33, 34, 6, 35, 36, 37, 38, 50, 51] (by decide +kernel) (by decide +kernel)
set_option maxRecDepth 20000 in
theorem gX5_add_X2_nearestTo : GoodIn wsX5_add (wsV RX5 177 RX2 yX2_nearestTo wsX2_nearestTo) := goodIn_app (goodIn_of _ (by decide +kernel)) ggX5_add_X2_nearestTo
theorem dX5_add_0 : decode cX5_add 0 = .ok (.iload_n 1, 1) := by decide +kernel
theorem dX5_add_1 : decode cX5_add 1 = .ok (.invokestatic 169, 3) := by decide +kernel
theorem dX5_add_4 : decode cX5_add 4 = .ok (.ifCond .ne 10, 3) := by decide +kernel
theorem dX5_add_7 : decode cX5_add 7 = .ok (.iload_n 2, 1) := by decide +kernel
theorem dX5_add_8 : decode cX5_add 8 = .ok (.invokestatic 169, 3) := by decide +kernel
theorem dX5_add_11 : decode cX5_add 11 = .ok (.ifCond .eq 10, 3) := by decide +kernel
theorem dX5_add_14 : decode cX5_add 14 = .ok (.aload_n 0, 1) := by decide +kernel
theorem dX5_add_15 : decode cX5_add 15 = .ok (.bipush (-12), 2) := by decide +kernel
theorem dX5_add_17 : decode cX5_add 17 = .ok (.invokevirtual 102, 3) := by decide +kernel
theorem dX5_add_20 : decode cX5_add 20 = .ok (.ireturn, 1) := by decide +kernel
theorem dX5_add_21 : decode cX5_add 21 = .ok (.aload_n 0, 1) := by decide +kernel
theorem dX5_add_22 : decode cX5_add 22 = .ok (.getfield 36, 3) := by decide +kernel
theorem dX5_add_25 : decode cX5_add 25 = .ok (.iload_n 1, 1) := by decide +kernel
theorem dX5_add_26 : decode cX5_add 26 = .ok (.aaload, 1) := by decide +kernel
theorem dX5_add_27 : decode cX5_add 27 = .ok (.astore 4, 2) := by decide +kernel
theorem dX5_add_29 : decode cX5_add 29 = .ok (.aload_n 0, 1) := by decide +kernel
theorem dX5_add_30 : decode cX5_add 30 = .ok (.getfield 36, 3) := by decide +kernel
theorem dX5_add_33 : decode cX5_add 33 = .ok (.iload_n 2, 1) := by decide +kernel
theorem dX5_add_34 : decode cX5_add 34 = .ok (.aaload, 1) := by decide +kernel
theorem dX5_add_35 : decode cX5_add 35 = .ok (.astore 5, 2) := by decide +kernel
theorem dX5_add_37 : decode cX5_add 37 = .ok (.aload 4, 2) := by decide +kernel
theorem dX5_add_39 : decode cX5_add 39 = .ok (.ifnull 8, 3) := by decide +kernel
theorem dX5_add_42 : decode cX5_add 42 = .ok (.aload 5, 2) := by decide +kernel
theorem dX5_add_44 : decode cX5_add 44 = .ok (.ifnonnull 10, 3) := by decide +kernel
theorem dX5_add_47 : decode cX5_add 47 = .ok (.aload_n 0, 1) := by decide +kernel
theorem dX5_add_48 : decode cX5_add 48 = .ok (.bipush (-11), 2) := by decide +kernel
theorem dX5_add_50 : decode cX5_add 50 = .ok (.invokevirtual 102, 3) := by decide +kernel
theorem dX5_add_53 : decode cX5_add 53 = .ok (.ireturn, 1) := by decide +kernel
theorem dX5_add_54 : decode cX5_add 54 = .ok (.aload 4, 2) := by decide +kernel
theorem dX5_add_56 : decode cX5_add 56 = .ok (.getfield 174, 3) := by decide +kernel
theorem dX5_add_59 : decode cX5_add 59 = .ok (.arraylength, 1) := by decide +kernel
theorem dX5_add_60 : decode cX5_add 60 = .ok (.aload_n 0, 1) := by decide +kernel
theorem dX5_add_61 : decode cX5_add 61 = .ok (.getfield 40, 3) := by decide +kernel
theorem dX5_add_64 : decode cX5_add 64 = .ok (.arraylength, 1) := by decide +kernel
theorem dX5_add_65 : decode cX5_add 65 = .ok (.invokestatic 181, 3) := by decide +kernel
theorem dX5_add_68 : decode cX5_add 68 = .ok (.istore 6, 2) := by decide +kernel
theorem dX5_add_70 : decode cX5_add 70 = .ok (.aload 4, 2) := by decide +kernel
theorem dX5_add_72 : decode cX5_add 72 = .ok (.getfield 174, 3) := by decide +kernel
theorem dX5_add_75 : decode cX5_add 75 = .ok (.iconst 0, 1) := by decide +kernel
theorem dX5_add_76 : decode cX5_add 76 = .ok (.aload_n 0, 1) := by decide +kernel
theorem dX5_add_77 : decode cX5_add 77 = .ok (.getfield 40, 3) := by decide +kernel
theorem dX5_add_80 : decode cX5_add 80 = .ok (.iconst 0, 1) := by decide +kernel
theorem dX5_add_81 : decode cX5_add 81 = .ok (.iload 6, 2) := by decide +kernel
theorem dX5_add_83 : decode cX5_add 83 = .ok (.invokestatic 184, 3) := by decide +kernel
theorem dX5_add_86 : decode cX5_add 86 = .ok (.iconst 0, 1) := by decide +kernel
theorem dX5_add_87 : decode cX5_add 87 = .ok (.istore 7, 2) := by decide +kernel
theorem dX5_add_89 : decode cX5_add 89 = .ok (.iconst 0, 1) := by decide +kernel
theorem dX5_add_90 : decode cX5_add 90 = .ok (.istore 8, 2) := by decide +kernel
theorem dX5_add_92 : decode cX5_add 92 = .ok (.iload 8, 2) := by decide +kernel
theorem dX5_add_94 : decode cX5_add 94 = .ok (.iload 6, 2) := by decide +kernel
theorem dX5_add_96 : decode cX5_add 96 = .ok (.if_icmp .ge 76, 3) := by decide +kernel
theorem dX5_add_99 : decode cX5_add 99 = .ok (.iload 8, 2) := by decide +kernel
theorem dX5_add_101 : decode cX5_add 101 = .ok (.i2l, 1) := by decide +kernel
theorem dX5_add_102 : decode cX5_add 102 = .ok (.iload_n 3, 1) := by decide +kernel
theorem dX5_add_103 : decode cX5_add 103 = .ok (.i2l, 1) := by decide +kernel
theorem dX5_add_104 : decode cX5_add 104 = .ok (.ladd, 1) := by decide +kernel
theorem dX5_add_105 : decode cX5_add 105 = .ok (.lstore 9, 2) := by decide +kernel
theorem dX5_add_107 : decode cX5_add 107 = .ok (.lload 9, 2) := by decide +kernel
theorem dX5_add_109 : decode cX5_add 109 = .ok (.lconst 0, 1) := by decide +kernel
theorem dX5_add_110 : decode cX5_add 110 = .ok (.lcmp, 1) := by decide +kernel
theorem dX5_add_111 : decode cX5_add 111 = .ok (.ifCond .lt 55, 3) := by decide +kernel
theorem dX5_add_114 : decode cX5_add 114 = .ok (.lload 9, 2) := by decide +kernel
theorem dX5_add_116 : decode cX5_add 116 = .ok (.aload 5, 2) := by decide +kernel
theorem dX5_add_118 : decode cX5_add 118 = .ok (.getfield 174, 3) := by decide +kernel
theorem dX5_add_121 : decode cX5_add 121 = .ok (.arraylength, 1) := by decide +kernel
theorem dX5_add_122 : decode cX5_add 122 = .ok (.i2l, 1) := by decide +kernel
theorem dX5_add_123 : decode cX5_add 123 = .ok (.lcmp, 1) := by decide +kernel
theorem dX5_add_124 : decode cX5_add 124 = .ok (.ifCond .ge 42, 3) := by decide +kernel
theorem dX5_add_127 : decode cX5_add 127 = .ok (.lload 9, 2) := by decide +kernel
theorem dX5_add_129 : decode cX5_add 129 = .ok (.l2i, 1) := by decide +kernel
theorem dX5_add_130 : decode cX5_add 130 = .ok (.istore 11, 2) := by decide +kernel
theorem dX5_add_132 : decode cX5_add 132 = .ok (.aload 5, 2) := by decide +kernel
theorem dX5_add_134 : decode cX5_add 134 = .ok (.getfield 174, 3) := by decide +kernel
theorem dX5_add_137 : decode cX5_add 137 = .ok (.iload 11, 2) := by decide +kernel
theorem dX5_add_139 : decode cX5_add 139 = .ok (.aload 5, 2) := by decide +kernel
theorem dX5_add_141 : decode cX5_add 141 = .ok (.aload 5, 2) := by decide +kernel
theorem dX5_add_143 : decode cX5_add 143 = .ok (.getfield 174, 3) := by decide +kernel
theorem dX5_add_146 : decode cX5_add 146 = .ok (.iload 11, 2) := by decide +kernel
theorem dX5_add_148 : decode cX5_add 148 = .ok (.iaload, 1) := by decide +kernel
theorem dX5_add_149 : decode cX5_add 149 = .ok (.i2l, 1) := by decide +kernel
theorem dX5_add_150 : decode cX5_add 150 = .ok (.aload_n 0, 1) := by decide +kernel
theorem dX5_add_151 : decode cX5_add 151 = .ok (.getfield 40, 3) := by decide +kernel
theorem dX5_add_154 : decode cX5_add 154 = .ok (.iload 8, 2) := by decide +kernel
theorem dX5_add_156 : decode cX5_add 156 = .ok (.iaload, 1) := by decide +kernel
theorem dX5_add_157 : decode cX5_add 157 = .ok (.i2l, 1) := by decide +kernel
theorem dX5_add_158 : decode cX5_add 158 = .ok (.ladd, 1) := by decide +kernel
theorem dX5_add_159 : decode cX5_add 159 = .ok (.invokevirtual 177, 3) := by decide +kernel
theorem dX5_add_162 : decode cX5_add 162 = .ok (.iastore, 1) := by decide +kernel
theorem dX5_add_163 : decode cX5_add 163 = .ok (.iinc 7 1, 3) := by decide +kernel
theorem dX5_add_166 : decode cX5_add 166 = .ok (.iinc 8 1, 3) := by decide +kernel
theorem dX5_add_169 : decode cX5_add 169 = .ok (.goto (-77), 3) := by decide +kernel
theorem dX5_add_172 : decode cX5_add 172 = .ok (.iload 7, 2) := by decide +kernel
theorem dX5_add_174 : decode cX5_add 174 = .ok (.ireturn, 1) := by decide +kernel
set_option maxRecDepth 20000 in
theorem ggX5_copy_X5_noSheet : GoodIn wsX5_copy wsX5_noSheet := goodIn_r _ [11, 12, 13, 10, 14] (by decide +kernel) (by decide +kernel)
set_option maxRecDepth 20000 in
theorem gX5_copy_X5_noSheet : GoodIn wsX5_copy (va_wsS RX5 169 yX5_noSheet wsX5_noSheet) := goodIn_app (goodIn_of _ (by decide +kernel)) ggX5_copy_X5_noSheet
set_option maxRecDepth 20000 in
theorem ggX5_copy_X5_found : GoodIn wsX5_copy wsX5_found := goodIn_r _ [18, 19, 26, 27, 28, 29, 30, 31, 32, 33, 34, 35, 36] (by decide +kernel) (by decide +kernel)
set_option maxRecDepth 20000 in
theorem gX5_copy_X5_found : GoodIn wsX5_copy (wsV RX5 102 RX5 yX5_found wsX5_found) := goodIn_app (goodIn_of _ (by decide +kernel)) ggX5_copy_X5_found
set_option maxRecDepth 20000 in
theorem ggX5_copy_X2_hasRun : GoodIn wsX5_copy wsX2_hasRun := goodIn_r _ [24, 25, 37, 38] (by decide +kernel) (by decide +kernel)
set_option maxRecDepth 20000 in
theorem gX5_copy_X2_hasRun : GoodIn wsX5_copy (wsV RX5 193 RX2 yX2_hasRun wsX2_hasRun) := goodIn_app (goodIn_of _ (by decide +kernel)) ggX5_copy_X2_hasRun
theorem dX5_copy_0 : decode cX5_copy 0 = .ok (.iload_n 1, 1) := by decide +kernel
theorem dX5_copy_1 : decode cX5_copy 1 = .ok (.invokestatic 169, 3) := by decide +kernel
theorem dX5_copy_4 : decode cX5_copy 4 = .ok (.ifCond .ne 10, 3) := by decide +kernel
theorem dX5_copy_7 : decode cX5_copy 7 = .ok (.iload_n 3, 1) := by decide +kernel
theorem dX5_copy_8 : decode cX5_copy 8 = .ok (.invokestatic 169, 3) := by decide +kernel
theorem dX5_copy_11 : decode cX5_copy 11 = .ok (.ifCond .eq 10, 3) := by decide +kernel
theorem dX5_copy_14 : decode cX5_copy 14 = .ok (.aload_n 0, 1) := by decide +kernel
theorem dX5_copy_15 : decode cX5_copy 15 = .ok (.bipush (-12), 2) := by decide +kernel
theorem dX5_copy_17 : decode cX5_copy 17 = .ok (.invokevirtual 102, 3) := by decide +kernel
theorem dX5_copy_20 : decode cX5_copy 20 = .ok (.ireturn, 1) := by decide +kernel
theorem dX5_copy_21 : decode cX5_copy 21 = .ok (.aload_n 0, 1) := by decide +kernel
theorem dX5_copy_22 : decode cX5_copy 22 = .ok (.getfield 36, 3) := by decide +kernel
theorem dX5_copy_25 : decode cX5_copy 25 = .ok (.iload_n 1, 1) := by decide +kernel
theorem dX5_copy_26 : decode cX5_copy 26 = .ok (.aaload, 1) := by decide +kernel
theorem dX5_copy_27 : decode cX5_copy 27 = .ok (.astore 6, 2) := by decide +kernel
theorem dX5_copy_29 : decode cX5_copy 29 = .ok (.aload_n 0, 1) := by decide +kernel
theorem dX5_copy_30 : decode cX5_copy 30 = .ok (.getfield 36, 3) := by decide +kernel
theorem dX5_copy_33 : decode cX5_copy 33 = .ok (.iload_n 3, 1) := by decide +kernel
theorem dX5_copy_34 : decode cX5_copy 34 = .ok (.aaload, 1) := by decide +kernel
theorem dX5_copy_35 : decode cX5_copy 35 = .ok (.astore 7, 2) := by decide +kernel
theorem dX5_copy_37 : decode cX5_copy 37 = .ok (.aload 6, 2) := by decide +kernel
theorem dX5_copy_39 : decode cX5_copy 39 = .ok (.ifnull 8, 3) := by decide +kernel
theorem dX5_copy_42 : decode cX5_copy 42 = .ok (.aload 7, 2) := by decide +kernel
theorem dX5_copy_44 : decode cX5_copy 44 = .ok (.ifnonnull 10, 3) := by decide +kernel
theorem dX5_copy_47 : decode cX5_copy 47 = .ok (.aload_n 0, 1) := by decide +kernel
theorem dX5_copy_48 : decode cX5_copy 48 = .ok (.bipush (-11), 2) := by decide +kernel
theorem dX5_copy_50 : decode cX5_copy 50 = .ok (.invokevirtual 102, 3) := by decide +kernel
theorem dX5_copy_53 : decode cX5_copy 53 = .ok (.ireturn, 1) := by decide +kernel
theorem dX5_copy_54 : decode cX5_copy 54 = .ok (.aload 6, 2) := by decide +kernel
theorem dX5_copy_56 : decode cX5_copy 56 = .ok (.getfield 190, 3) := by decide +kernel
theorem dX5_copy_59 : decode cX5_copy 59 = .ok (.aload 7, 2) := by decide +kernel
theorem dX5_copy_61 : decode cX5_copy 61 = .ok (.getfield 190, 3) := by decide +kernel
theorem dX5_copy_64 : decode cX5_copy 64 = .ok (.if_icmp .eq 10, 3) := by decide +kernel
theorem dX5_copy_67 : decode cX5_copy 67 = .ok (.aload_n 0, 1) := by decide +kernel
theorem dX5_copy_68 : decode cX5_copy 68 = .ok (.bipush (-13), 2) := by decide +kernel
theorem dX5_copy_70 : decode cX5_copy 70 = .ok (.invokevirtual 102, 3) := by decide +kernel
theorem dX5_copy_73 : decode cX5_copy 73 = .ok (.ireturn, 1) := by decide +kernel
theorem dX5_copy_74 : decode cX5_copy 74 = .ok (.iload 5, 2) := by decide +kernel
theorem dX5_copy_76 : decode cX5_copy 76 = .ok (.ifCond .ge 10, 3) := by decide +kernel
theorem dX5_copy_79 : decode cX5_copy 79 = .ok (.aload_n 0, 1) := by decide +kernel
theorem dX5_copy_80 : decode cX5_copy 80 = .ok (.bipush (-14), 2) := by decide +kernel
theorem dX5_copy_82 : decode cX5_copy 82 = .ok (.invokevirtual 102, 3) := by decide +kernel
theorem dX5_copy_85 : decode cX5_copy 85 = .ok (.ireturn, 1) := by decide +kernel
theorem dX5_copy_86 : decode cX5_copy 86 = .ok (.aload 6, 2) := by decide +kernel
theorem dX5_copy_88 : decode cX5_copy 88 = .ok (.iload_n 2, 1) := by decide +kernel
theorem dX5_copy_89 : decode cX5_copy 89 = .ok (.iload 5, 2) := by decide +kernel
theorem dX5_copy_91 : decode cX5_copy 91 = .ok (.invokevirtual 193, 3) := by decide +kernel
theorem dX5_copy_94 : decode cX5_copy 94 = .ok (.ifCond .eq 15, 3) := by decide +kernel
theorem dX5_copy_97 : decode cX5_copy 97 = .ok (.aload 7, 2) := by decide +kernel
theorem dX5_copy_99 : decode cX5_copy 99 = .ok (.iload 4, 2) := by decide +kernel
theorem dX5_copy_101 : decode cX5_copy 101 = .ok (.iload 5, 2) := by decide +kernel
theorem dX5_copy_103 : decode cX5_copy 103 = .ok (.invokevirtual 193, 3) := by decide +kernel
theorem dX5_copy_106 : decode cX5_copy 106 = .ok (.ifCond .ne 10, 3) := by decide +kernel
theorem dX5_copy_109 : decode cX5_copy 109 = .ok (.aload_n 0, 1) := by decide +kernel
theorem dX5_copy_110 : decode cX5_copy 110 = .ok (.bipush (-12), 2) := by decide +kernel
theorem dX5_copy_112 : decode cX5_copy 112 = .ok (.invokevirtual 102, 3) := by decide +kernel
theorem dX5_copy_115 : decode cX5_copy 115 = .ok (.ireturn, 1) := by decide +kernel
theorem dX5_copy_116 : decode cX5_copy 116 = .ok (.aload 6, 2) := by decide +kernel
theorem dX5_copy_118 : decode cX5_copy 118 = .ok (.getfield 174, 3) := by decide +kernel
theorem dX5_copy_121 : decode cX5_copy 121 = .ok (.iload_n 2, 1) := by decide +kernel
theorem dX5_copy_122 : decode cX5_copy 122 = .ok (.aload 7, 2) := by decide +kernel
theorem dX5_copy_124 : decode cX5_copy 124 = .ok (.getfield 174, 3) := by decide +kernel
theorem dX5_copy_127 : decode cX5_copy 127 = .ok (.iload 4, 2) := by decide +kernel
theorem dX5_copy_129 : decode cX5_copy 129 = .ok (.iload 5, 2) := by decide +kernel
theorem dX5_copy_131 : decode cX5_copy 131 = .ok (.invokestatic 184, 3) := by decide +kernel
theorem dX5_copy_134 : decode cX5_copy 134 = .ok (.iload 5, 2) := by decide +kernel
theorem dX5_copy_136 : decode cX5_copy 136 = .ok (.ireturn, 1) := by decide +kernel
set_option maxRecDepth 20000 in
theorem ggX5_at_X5_noSheet : GoodIn wsX5_at wsX5_noSheet := goodIn_r _ [6, 7, 8, 5, 9] (by decide +kernel) (by decide +kernel)
set_option maxRecDepth 20000 in
theorem gX5_at_X5_noSheet : GoodIn wsX5_at (va_wsS RX5 169 yX5_noSheet wsX5_noSheet) := goodIn_app (goodIn_of _ (by decide +kernel)) ggX5_at_X5_noSheet
set_option maxRecDepth 20000 in
theorem ggX5_at_X5_found : GoodIn wsX5_at wsX5_found := goodIn_r _ [13, 14, 15, 16, 17, 18, 19, 20, 21, 22, 23, 24, 25] (by decide +kernel) (by decide +kernel)
set_option maxRecDepth 20000 in
theorem gX5_at_X5_found : GoodIn wsX5_at (wsV RX5 102 RX5 yX5_found wsX5_found) := goodIn_app (goodIn_of _ (by decide +kernel)) ggX5_at_X5_found
theorem dX5_at_0 : decode cX5_at 0 = .ok (.iload_n 1, 1) := by decide +kernel
theorem dX5_at_1 : decode cX5_at 1 = .ok (.invokestatic 169, 3) := by decide +kernel
theorem dX5_at_4 : decode cX5_at 4 = .ok (.ifCond .eq 10, 3) := by decide +kernel
theorem dX5_at_7 : decode cX5_at 7 = .ok (.aload_n 0, 1) := by decide +kernel
theorem dX5_at_8 : decode cX5_at 8 = .ok (.bipush (-12), 2) := by decide +kernel
theorem dX5_at_10 : decode cX5_at 10 = .ok (.invokevirtual 102, 3) := by decide +kernel
theorem dX5_at_13 : decode cX5_at 13 = .ok (.ireturn, 1) := by decide +kernel
theorem dX5_at_14 : decode cX5_at 14 = .ok (.aload_n 0, 1) := by decide +kernel
theorem dX5_at_15 : decode cX5_at 15 = .ok (.getfield 36, 3) := by decide +kernel
theorem dX5_at_18 : decode cX5_at 18 = .ok (.iload_n 1, 1) := by decide +kernel
theorem dX5_at_19 : decode cX5_at 19 = .ok (.aaload, 1) := by decide +kernel
theorem dX5_at_20 : decode cX5_at 20 = .ok (.astore_n 3, 1) := by decide +kernel
theorem dX5_at_21 : decode cX5_at 21 = .ok (.aload_n 3, 1) := by decide +kernel
theorem dX5_at_22 : decode cX5_at 22 = .ok (.ifnonnull 10, 3) := by decide +kernel
theorem dX5_at_25 : decode cX5_at 25 = .ok (.aload_n 0, 1) := by decide +kernel
theorem dX5_at_26 : decode cX5_at 26 = .ok (.bipush (-11), 2) := by decide +kernel
theorem dX5_at_28 : decode cX5_at 28 = .ok (.invokevirtual 102, 3) := by decide +kernel
theorem dX5_at_31 : decode cX5_at 31 = .ok (.ireturn, 1) := by decide +kernel
theorem dX5_at_32 : decode cX5_at 32 = .ok (.iload_n 2, 1) := by decide +kernel
theorem dX5_at_33 : decode cX5_at 33 = .ok (.ifCond .lt 12, 3) := by decide +kernel
theorem dX5_at_36 : decode cX5_at 36 = .ok (.iload_n 2, 1) := by decide +kernel
theorem dX5_at_37 : decode cX5_at 37 = .ok (.aload_n 3, 1) := by decide +kernel
theorem dX5_at_38 : decode cX5_at 38 = .ok (.getfield 174, 3) := by decide +kernel
theorem dX5_at_41 : decode cX5_at 41 = .ok (.arraylength, 1) := by decide +kernel
theorem dX5_at_42 : decode cX5_at 42 = .ok (.if_icmp .lt 10, 3) := by decide +kernel
theorem dX5_at_45 : decode cX5_at 45 = .ok (.aload_n 0, 1) := by decide +kernel
theorem dX5_at_46 : decode cX5_at 46 = .ok (.bipush (-12), 2) := by decide +kernel
theorem dX5_at_48 : decode cX5_at 48 = .ok (.invokevirtual 102, 3) := by decide +kernel
theorem dX5_at_51 : decode cX5_at 51 = .ok (.ireturn, 1) := by decide +kernel
theorem dX5_at_52 : decode cX5_at 52 = .ok (.aload_n 3, 1) := by decide +kernel
theorem dX5_at_53 : decode cX5_at 53 = .ok (.getfield 174, 3) := by decide +kernel
theorem dX5_at_56 : decode cX5_at 56 = .ok (.iload_n 2, 1) := by decide +kernel
theorem dX5_at_57 : decode cX5_at 57 = .ok (.iaload, 1) := by decide +kernel
theorem dX5_at_58 : decode cX5_at 58 = .ok (.ireturn, 1) := by decide +kernel
set_option maxRecDepth 20000 in
theorem ggX5_peak_X5_noSheet : GoodIn wsX5_peak wsX5_noSheet := goodIn_r _ [12, 13, 14, 11, 15] (by decide +kernel) (by decide +kernel)
set_option maxRecDepth 20000 in
theorem gX5_peak_X5_noSheet : GoodIn wsX5_peak (va_wsS RX5 169 yX5_noSheet wsX5_noSheet) := goodIn_app (goodIn_of _ (by decide +kernel)) ggX5_peak_X5_noSheet
set_option maxRecDepth 20000 in
theorem ggX5_peak_X5_found : GoodIn wsX5_peak wsX5_found := goodIn_r _ [19, 20, 21, 22, 23, 24, 25, 26, 27, 28, 29, 30, 31] (by decide +kernel) (by decide +kernel)
set_option maxRecDepth 20000 in
theorem gX5_peak_X5_found : GoodIn wsX5_peak (wsV RX5 102 RX5 yX5_found wsX5_found) := goodIn_app (goodIn_of _ (by decide +kernel)) ggX5_peak_X5_found
theorem dX5_peak_0 : decode cX5_peak 0 = .ok (.iload_n 1, 1) := by decide +kernel
theorem dX5_peak_1 : decode cX5_peak 1 = .ok (.invokestatic 169, 3) := by decide +kernel
theorem dX5_peak_4 : decode cX5_peak 4 = .ok (.ifCond .eq 10, 3) := by decide +kernel
theorem dX5_peak_7 : decode cX5_peak 7 = .ok (.aload_n 0, 1) := by decide +kernel
theorem dX5_peak_8 : decode cX5_peak 8 = .ok (.bipush (-12), 2) := by decide +kernel
theorem dX5_peak_10 : decode cX5_peak 10 = .ok (.invokevirtual 102, 3) := by decide +kernel
theorem dX5_peak_13 : decode cX5_peak 13 = .ok (.ireturn, 1) := by decide +kernel
theorem dX5_peak_14 : decode cX5_peak 14 = .ok (.aload_n 0, 1) := by decide +kernel
theorem dX5_peak_15 : decode cX5_peak 15 = .ok (.getfield 36, 3) := by decide +kernel
theorem dX5_peak_18 : decode cX5_peak 18 = .ok (.iload_n 1, 1) := by decide +kernel
theorem dX5_peak_19 : decode cX5_peak 19 = .ok (.aaload, 1) := by decide +kernel
theorem dX5_peak_20 : decode cX5_peak 20 = .ok (.astore_n 2, 1) := by decide +kernel
theorem dX5_peak_21 : decode cX5_peak 21 = .ok (.aload_n 2, 1) := by decide +kernel
theorem dX5_peak_22 : decode cX5_peak 22 = .ok (.ifnonnull 10, 3) := by decide +kernel
theorem dX5_peak_25 : decode cX5_peak 25 = .ok (.aload_n 0, 1) := by decide +kernel
theorem dX5_peak_26 : decode cX5_peak 26 = .ok (.bipush (-11), 2) := by decide +kernel
theorem dX5_peak_28 : decode cX5_peak 28 = .ok (.invokevirtual 102, 3) := by decide +kernel
theorem dX5_peak_31 : decode cX5_peak 31 = .ok (.ireturn, 1) := by decide +kernel
theorem dX5_peak_32 : decode cX5_peak 32 = .ok (.ldc 148, 2) := by decide +kernel
theorem dX5_peak_34 : decode cX5_peak 34 = .ok (.istore_n 3, 1) := by decide +kernel
theorem dX5_peak_35 : decode cX5_peak 35 = .ok (.ldc2_w 196, 3) := by decide +kernel
theorem dX5_peak_38 : decode cX5_peak 38 = .ok (.lstore 4, 2) := by decide +kernel
theorem dX5_peak_40 : decode cX5_peak 40 = .ok (.iconst 0, 1) := by decide +kernel
theorem dX5_peak_41 : decode cX5_peak 41 = .ok (.istore 6, 2) := by decide +kernel
theorem dX5_peak_43 : decode cX5_peak 43 = .ok (.iload 6, 2) := by decide +kernel
theorem dX5_peak_45 : decode cX5_peak 45 = .ok (.aload_n 2, 1) := by decide +kernel
theorem dX5_peak_46 : decode cX5_peak 46 = .ok (.getfield 174, 3) := by decide +kernel
theorem dX5_peak_49 : decode cX5_peak 49 = .ok (.arraylength, 1) := by decide +kernel
theorem dX5_peak_50 : decode cX5_peak 50 = .ok (.if_icmp .ge 37, 3) := by decide +kernel
theorem dX5_peak_53 : decode cX5_peak 53 = .ok (.aload_n 2, 1) := by decide +kernel
theorem dX5_peak_54 : decode cX5_peak 54 = .ok (.getfield 174, 3) := by decide +kernel
theorem dX5_peak_57 : decode cX5_peak 57 = .ok (.iload 6, 2) := by decide +kernel
theorem dX5_peak_59 : decode cX5_peak 59 = .ok (.iaload, 1) := by decide +kernel
theorem dX5_peak_60 : decode cX5_peak 60 = .ok (.i2l, 1) := by decide +kernel
theorem dX5_peak_61 : decode cX5_peak 61 = .ok (.invokestatic 198, 3) := by decide +kernel
theorem dX5_peak_64 : decode cX5_peak 64 = .ok (.lstore 7, 2) := by decide +kernel
theorem dX5_peak_66 : decode cX5_peak 66 = .ok (.lload 7, 2) := by decide +kernel
theorem dX5_peak_68 : decode cX5_peak 68 = .ok (.lload 4, 2) := by decide +kernel
theorem dX5_peak_70 : decode cX5_peak 70 = .ok (.lcmp, 1) := by decide +kernel
theorem dX5_peak_71 : decode cX5_peak 71 = .ok (.ifCond .le 10, 3) := by decide +kernel
theorem dX5_peak_74 : decode cX5_peak 74 = .ok (.lload 7, 2) := by decide +kernel
theorem dX5_peak_76 : decode cX5_peak 76 = .ok (.lstore 4, 2) := by decide +kernel
theorem dX5_peak_78 : decode cX5_peak 78 = .ok (.iload 6, 2) := by decide +kernel
theorem dX5_peak_80 : decode cX5_peak 80 = .ok (.istore_n 3, 1) := by decide +kernel
theorem dX5_peak_81 : decode cX5_peak 81 = .ok (.iinc 6 1, 3) := by decide +kernel
theorem dX5_peak_84 : decode cX5_peak 84 = .ok (.goto (-41), 3) := by decide +kernel
theorem dX5_peak_87 : decode cX5_peak 87 = .ok (.iload_n 3, 1) := by decide +kernel
theorem dX5_peak_88 : decode cX5_peak 88 = .ok (.ireturn, 1) := by decide +kernel
set_option maxRecDepth 20000 in
theorem ggX5_total_X5_countWorking : GoodIn wsX5_total wsX5_countWorking := goodIn_r _ [11, 12, 13, 26, 27, 28, 29, 30, 31, 32, 33, 34, 35, 36, 37, 38, 39, 40, 41] (by decide +kernel) (by decide +kernel)
set_option maxRecDepth 20000 in
theorem gX5_total_X5_countWorking : GoodIn wsX5_total (wsV RX5 84 RX5 yX5_countWorking wsX5_countWorking) := goodIn_app (goodIn_of _ (by decide +kernel)) ggX5_total_X5_countWorking
set_option maxRecDepth 20000 in
theorem ggX5_total_X5_countSheets : GoodIn wsX5_total wsX5_countSheets := goodIn_r _ [17, 18, 26, 27, 28, 29, 30, 31, 32, 33, 34, 35, 36] (by decide +kernel) (by decide +kernel)
set_option maxRecDepth 20000 in
theorem gX5_total_X5_countSheets : GoodIn wsX5_total (wsV RX5 204 RX5 yX5_countSheets wsX5_countSheets) := goodIn_app (goodIn_of _ (by decide +kernel)) ggX5_total_X5_countSheets
set_option maxRecDepth 20000 in
theorem ggX5_total_X1_floor : GoodIn wsX5_total wsX1_floor := goodIn_r _ [23, 24, 25, 42, 43, 44, 45, 46] (by decide +kernel) (by decide +kernel)
set_option maxRecDepth 20000 in
theorem gX5_total_X1_floor : GoodIn wsX5_total (wsV RX5 67 RX1 yX1_floor wsX1_floor) := goodIn_app (goodIn_of _ (by decide +kernel)) ggX5_total_X1_floor
theorem dX5_total_0 : decode cX5_total 0 = .ok (.iload_n 1, 1) := by decide +kernel
theorem dX5_total_1 : decode cX5_total 1 = .ok (.tableswitch 98 0 7 #[47, 52, 57, 62, 67, 72, 77, 85], 47) := by decide +kernel
theorem dX5_total_48 : decode cX5_total 48 = .ok (.aload_n 0, 1) := by decide +kernel
theorem dX5_total_49 : decode cX5_total 49 = .ok (.getfield 71, 3) := by decide +kernel
theorem dX5_total_52 : decode cX5_total 52 = .ok (.ireturn, 1) := by decide +kernel
theorem dX5_total_53 : decode cX5_total 53 = .ok (.aload_n 0, 1) := by decide +kernel
theorem dX5_total_54 : decode cX5_total 54 = .ok (.invokevirtual 84, 3) := by decide +kernel
theorem dX5_total_57 : decode cX5_total 57 = .ok (.ireturn, 1) := by decide +kernel
theorem dX5_total_58 : decode cX5_total 58 = .ok (.aload_n 0, 1) := by decide +kernel
theorem dX5_total_59 : decode cX5_total 59 = .ok (.getfield 91, 3) := by decide +kernel
theorem dX5_total_62 : decode cX5_total 62 = .ok (.ireturn, 1) := by decide +kernel
theorem dX5_total_63 : decode cX5_total 63 = .ok (.aload_n 0, 1) := by decide +kernel
theorem dX5_total_64 : decode cX5_total 64 = .ok (.getfield 160, 3) := by decide +kernel
theorem dX5_total_67 : decode cX5_total 67 = .ok (.ireturn, 1) := by decide +kernel
theorem dX5_total_68 : decode cX5_total 68 = .ok (.aload_n 0, 1) := by decide +kernel
theorem dX5_total_69 : decode cX5_total 69 = .ok (.getfield 201, 3) := by decide +kernel
theorem dX5_total_72 : decode cX5_total 72 = .ok (.ireturn, 1) := by decide +kernel
theorem dX5_total_73 : decode cX5_total 73 = .ok (.aload_n 0, 1) := by decide +kernel
theorem dX5_total_74 : decode cX5_total 74 = .ok (.invokevirtual 204, 3) := by decide +kernel
theorem dX5_total_77 : decode cX5_total 77 = .ok (.ireturn, 1) := by decide +kernel
theorem dX5_total_78 : decode cX5_total 78 = .ok (.aload_n 0, 1) := by decide +kernel
theorem dX5_total_79 : decode cX5_total 79 = .ok (.getfield 12, 3) := by decide +kernel
theorem dX5_total_82 : decode cX5_total 82 = .ok (.invokevirtual 67, 3) := by decide +kernel
theorem dX5_total_85 : decode cX5_total 85 = .ok (.ireturn, 1) := by decide +kernel
theorem dX5_total_86 : decode cX5_total 86 = .ok (.aload_n 0, 1) := by decide +kernel
theorem dX5_total_87 : decode cX5_total 87 = .ok (.getfield 63, 3) := by decide +kernel
theorem dX5_total_90 : decode cX5_total 90 = .ok (.ifCond .eq 7, 3) := by decide +kernel
theorem dX5_total_93 : decode cX5_total 93 = .ok (.iconst 1, 1) := by decide +kernel
theorem dX5_total_94 : decode cX5_total 94 = .ok (.goto 4, 3) := by decide +kernel
theorem dX5_total_97 : decode cX5_total 97 = .ok (.iconst 0, 1) := by decide +kernel
theorem dX5_total_98 : decode cX5_total 98 = .ok (.ireturn, 1) := by decide +kernel
theorem dX5_total_99 : decode cX5_total 99 = .ok (.bipush (-2), 2) := by decide +kernel
theorem dX5_total_101 : decode cX5_total 101 = .ok (.ireturn, 1) := by decide +kernel
theorem dX5_outside_0 : decode cX5_outside 0 = .ok (.iload_n 0, 1) := by decide +kernel
theorem dX5_outside_1 : decode cX5_outside 1 = .ok (.iload_n 1, 1) := by decide +kernel
theorem dX5_outside_2 : decode cX5_outside 2 = .ok (.if_icmp .lt 8, 3) := by decide +kernel
theorem dX5_outside_5 : decode cX5_outside 5 = .ok (.iload_n 0, 1) := by decide +kernel
theorem dX5_outside_6 : decode cX5_outside 6 = .ok (.iload_n 2, 1) := by decide +kernel
theorem dX5_outside_7 : decode cX5_outside 7 = .ok (.if_icmp .le 7, 3) := by decide +kernel
theorem dX5_outside_10 : decode cX5_outside 10 = .ok (.iconst 1, 1) := by decide +kernel
theorem dX5_outside_11 : decode cX5_outside 11 = .ok (.goto 4, 3) := by decide +kernel
theorem dX5_outside_14 : decode cX5_outside 14 = .ok (.iconst 0, 1) := by decide +kernel
theorem dX5_outside_15 : decode cX5_outside 15 = .ok (.ireturn, 1) := by decide +kernel
set_option maxRecDepth 20000 in
theorem ggX5_noSheet_X5_outside : GoodIn wsX5_noSheet wsX5_outside := goodIn_r _ [4] (by decide +kernel) (by decide +kernel)
set_option maxRecDepth 20000 in
theorem gX5_noSheet_X5_outside : GoodIn wsX5_noSheet (va_wsS RX5 44 yX5_outside wsX5_outside) := goodIn_app (goodIn_of _ (by decide +kernel)) ggX5_noSheet_X5_outside
theorem dX5_noSheet_0 : decode cX5_noSheet 0 = .ok (.iload_n 0, 1) := by decide +kernel
theorem dX5_noSheet_1 : decode cX5_noSheet 1 = .ok (.iconst 0, 1) := by decide +kernel
theorem dX5_noSheet_2 : decode cX5_noSheet 2 = .ok (.iconst 5, 1) := by decide +kernel
theorem dX5_noSheet_3 : decode cX5_noSheet 3 = .ok (.invokestatic 44, 3) := by decide +kernel
theorem dX5_noSheet_6 : decode cX5_noSheet 6 = .ok (.ireturn, 1) := by decide +kernel
theorem dX5_found_0 : decode cX5_found 0 = .ok (.aload_n 0, 1) := by decide +kernel
theorem dX5_found_1 : decode cX5_found 1 = .ok (.dup, 1) := by decide +kernel
theorem dX5_found_2 : decode cX5_found 2 = .ok (.getfield 201, 3) := by decide +kernel
theorem dX5_found_5 : decode cX5_found 5 = .ok (.iconst 1, 1) := by decide +kernel
theorem dX5_found_6 : decode cX5_found 6 = .ok (.iadd, 1) := by decide +kernel
theorem dX5_found_7 : decode cX5_found 7 = .ok (.putfield 201, 3) := by decide +kernel
theorem dX5_found_10 : decode cX5_found 10 = .ok (.iload_n 1, 1) := by decide +kernel
theorem dX5_found_11 : decode cX5_found 11 = .ok (.ireturn, 1) := by decide +kernel
theorem dX5_elementNumbered_0 : decode cX5_elementNumbered 0 = .ok (.iload_n 1, 1) := by decide +kernel
theorem dX5_elementNumbered_1 : decode cX5_elementNumbered 1 = .ok (.ifCond .lt 12, 3) := by decide +kernel
theorem dX5_elementNumbered_4 : decode cX5_elementNumbered 4 = .ok (.iload_n 1, 1) := by decide +kernel
theorem dX5_elementNumbered_5 : decode cX5_elementNumbered 5 = .ok (.aload_n 0, 1) := by decide +kernel
theorem dX5_elementNumbered_6 : decode cX5_elementNumbered 6 = .ok (.getfield 18, 3) := by decide +kernel
theorem dX5_elementNumbered_9 : decode cX5_elementNumbered 9 = .ok (.arraylength, 1) := by decide +kernel
theorem dX5_elementNumbered_10 : decode cX5_elementNumbered 10 = .ok (.if_icmp .lt 7, 3) := by decide +kernel
theorem dX5_elementNumbered_13 : decode cX5_elementNumbered 13 = .ok (.aconst_null, 1) := by decide +kernel
theorem dX5_elementNumbered_14 : decode cX5_elementNumbered 14 = .ok (.goto 9, 3) := by decide +kernel
theorem dX5_elementNumbered_17 : decode cX5_elementNumbered 17 = .ok (.aload_n 0, 1) := by decide +kernel
theorem dX5_elementNumbered_18 : decode cX5_elementNumbered 18 = .ok (.getfield 18, 3) := by decide +kernel
theorem dX5_elementNumbered_21 : decode cX5_elementNumbered 21 = .ok (.iload_n 1, 1) := by decide +kernel
theorem dX5_elementNumbered_22 : decode cX5_elementNumbered 22 = .ok (.aaload, 1) := by decide +kernel
theorem dX5_elementNumbered_23 : decode cX5_elementNumbered 23 = .ok (.areturn, 1) := by decide +kernel
theorem dX5_targetNumbered_0 : decode cX5_targetNumbered 0 = .ok (.iload_n 1, 1) := by decide +kernel
theorem dX5_targetNumbered_1 : decode cX5_targetNumbered 1 = .ok (.ifCond .lt 12, 3) := by decide +kernel
theorem dX5_targetNumbered_4 : decode cX5_targetNumbered 4 = .ok (.iload_n 1, 1) := by decide +kernel
theorem dX5_targetNumbered_5 : decode cX5_targetNumbered 5 = .ok (.aload_n 0, 1) := by decide +kernel
theorem dX5_targetNumbered_6 : decode cX5_targetNumbered 6 = .ok (.getfield 24, 3) := by decide +kernel
theorem dX5_targetNumbered_9 : decode cX5_targetNumbered 9 = .ok (.arraylength, 1) := by decide +kernel
theorem dX5_targetNumbered_10 : decode cX5_targetNumbered 10 = .ok (.if_icmp .lt 7, 3) := by decide +kernel
theorem dX5_targetNumbered_13 : decode cX5_targetNumbered 13 = .ok (.aconst_null, 1) := by decide +kernel
theorem dX5_targetNumbered_14 : decode cX5_targetNumbered 14 = .ok (.goto 9, 3) := by decide +kernel
theorem dX5_targetNumbered_17 : decode cX5_targetNumbered 17 = .ok (.aload_n 0, 1) := by decide +kernel
theorem dX5_targetNumbered_18 : decode cX5_targetNumbered 18 = .ok (.getfield 24, 3) := by decide +kernel
theorem dX5_targetNumbered_21 : decode cX5_targetNumbered 21 = .ok (.iload_n 1, 1) := by decide +kernel
theorem dX5_targetNumbered_22 : decode cX5_targetNumbered 22 = .ok (.aaload, 1) := by decide +kernel
theorem dX5_targetNumbered_23 : decode cX5_targetNumbered 23 = .ok (.areturn, 1) := by decide +kernel
set_option maxRecDepth 20000 in
theorem ggX5_newTarget_X3_init : GoodIn wsX5_newTarget wsX3_init := goodIn_r _ [6, 7, 8, 9, 10, 11, 12, 13, 14, 15, 16, 17, 18, 19, 20, 21, 22, 23, 24, 25, 26] (by decide +kernel) (by decide +kernel)
set_option maxRecDepth 20000 in
theorem gX5_newTarget_X3_init : GoodIn wsX5_newTarget (wsX3_init) := ggX5_newTarget_X3_init
theorem dX5_newTarget_0 : decode cX5_newTarget 0 = .ok (.iload_n 0, 1) := by decide +kernel
theorem dX5_newTarget_1 : decode cX5_newTarget 1 = .ok (.lookupswitch 55 #[(0, 27), (1, 41)], 27) := by decide +kernel
theorem dX5_newTarget_28 : decode cX5_newTarget 28 = .ok (.new 22, 3) := by decide +kernel
theorem dX5_newTarget_31 : decode cX5_newTarget 31 = .ok (.dup, 1) := by decide +kernel
theorem dX5_newTarget_32 : decode cX5_newTarget 32 = .ok (.iconst 0, 1) := by decide +kernel
theorem dX5_newTarget_33 : decode cX5_newTarget 33 = .ok (.iload_n 1, 1) := by decide +kernel
theorem dX5_newTarget_34 : decode cX5_newTarget 34 = .ok (.iload_n 1, 1) := by decide +kernel
theorem dX5_newTarget_35 : decode cX5_newTarget 35 = .ok (.iload_n 3, 1) := by decide +kernel
theorem dX5_newTarget_36 : decode cX5_newTarget 36 = .ok (.iload 4, 2) := by decide +kernel
theorem dX5_newTarget_38 : decode cX5_newTarget 38 = .ok (.invokespecial 207, 3) := by decide +kernel
theorem dX5_newTarget_41 : decode cX5_newTarget 41 = .ok (.areturn, 1) := by decide +kernel
theorem dX5_newTarget_42 : decode cX5_newTarget 42 = .ok (.new 22, 3) := by decide +kernel
theorem dX5_newTarget_45 : decode cX5_newTarget 45 = .ok (.dup, 1) := by decide +kernel
theorem dX5_newTarget_46 : decode cX5_newTarget 46 = .ok (.iconst 1, 1) := by decide +kernel
theorem dX5_newTarget_47 : decode cX5_newTarget 47 = .ok (.iload_n 1, 1) := by decide +kernel
theorem dX5_newTarget_48 : decode cX5_newTarget 48 = .ok (.iload_n 2, 1) := by decide +kernel
theorem dX5_newTarget_49 : decode cX5_newTarget 49 = .ok (.iload_n 3, 1) := by decide +kernel
theorem dX5_newTarget_50 : decode cX5_newTarget 50 = .ok (.iload 4, 2) := by decide +kernel
theorem dX5_newTarget_52 : decode cX5_newTarget 52 = .ok (.invokespecial 207, 3) := by decide +kernel
theorem dX5_newTarget_55 : decode cX5_newTarget 55 = .ok (.areturn, 1) := by decide +kernel
theorem dX5_newTarget_56 : decode cX5_newTarget 56 = .ok (.new 22, 3) := by decide +kernel
theorem dX5_newTarget_59 : decode cX5_newTarget 59 = .ok (.dup, 1) := by decide +kernel
theorem dX5_newTarget_60 : decode cX5_newTarget 60 = .ok (.iconst 2, 1) := by decide +kernel
theorem dX5_newTarget_61 : decode cX5_newTarget 61 = .ok (.iconst 0, 1) := by decide +kernel
theorem dX5_newTarget_62 : decode cX5_newTarget 62 = .ok (.bipush 50, 2) := by decide +kernel
theorem dX5_newTarget_64 : decode cX5_newTarget 64 = .ok (.iconst 0, 1) := by decide +kernel
theorem dX5_newTarget_65 : decode cX5_newTarget 65 = .ok (.iload 4, 2) := by decide +kernel
theorem dX5_newTarget_67 : decode cX5_newTarget 67 = .ok (.invokespecial 207, 3) := by decide +kernel
theorem dX5_newTarget_70 : decode cX5_newTarget 70 = .ok (.areturn, 1) := by decide +kernel
set_option maxRecDepth 20000 in
theorem ggX5_depthOf_X1_floor : GoodIn wsX5_depthOf wsX1_floor := goodIn_r _ [8, 9, 10, 28, 29, 30, 31, 32] (by decide +kernel) (by decide +kernel)
set_option maxRecDepth 20000 in
theorem gX5_depthOf_X1_floor : GoodIn wsX5_depthOf (wsV RX5 67 RX1 yX1_floor wsX1_floor) := goodIn_app (goodIn_of _ (by decide +kernel)) ggX5_depthOf_X1_floor
theorem dX5_depthOf_0 : decode cX5_depthOf 0 = .ok (.aload_n 1, 1) := by decide +kernel
theorem dX5_depthOf_1 : decode cX5_depthOf 1 = .ok (.getfield 48, 3) := by decide +kernel
theorem dX5_depthOf_4 : decode cX5_depthOf 4 = .ok (.iconst 2, 1) := by decide +kernel
theorem dX5_depthOf_5 : decode cX5_depthOf 5 = .ok (.if_icmp .ne 13, 3) := by decide +kernel
theorem dX5_depthOf_8 : decode cX5_depthOf 8 = .ok (.aload_n 0, 1) := by decide +kernel
theorem dX5_depthOf_9 : decode cX5_depthOf 9 = .ok (.getfield 12, 3) := by decide +kernel
theorem dX5_depthOf_12 : decode cX5_depthOf 12 = .ok (.invokevirtual 67, 3) := by decide +kernel
theorem dX5_depthOf_15 : decode cX5_depthOf 15 = .ok (.goto 7, 3) := by decide +kernel
theorem dX5_depthOf_18 : decode cX5_depthOf 18 = .ok (.aload_n 1, 1) := by decide +kernel
theorem dX5_depthOf_19 : decode cX5_depthOf 19 = .ok (.getfield 52, 3) := by decide +kernel
theorem dX5_depthOf_22 : decode cX5_depthOf 22 = .ok (.ireturn, 1) := by decide +kernel
theorem dX5_countWorking_0 : decode cX5_countWorking 0 = .ok (.iconst 0, 1) := by decide +kernel
theorem dX5_countWorking_1 : decode cX5_countWorking 1 = .ok (.istore_n 1, 1) := by decide +kernel
theorem dX5_countWorking_2 : decode cX5_countWorking 2 = .ok (.aload_n 0, 1) := by decide +kernel
theorem dX5_countWorking_3 : decode cX5_countWorking 3 = .ok (.getfield 18, 3) := by decide +kernel
theorem dX5_countWorking_6 : decode cX5_countWorking 6 = .ok (.astore_n 2, 1) := by decide +kernel
theorem dX5_countWorking_7 : decode cX5_countWorking 7 = .ok (.aload_n 2, 1) := by decide +kernel
theorem dX5_countWorking_8 : decode cX5_countWorking 8 = .ok (.arraylength, 1) := by decide +kernel
theorem dX5_countWorking_9 : decode cX5_countWorking 9 = .ok (.istore_n 3, 1) := by decide +kernel
theorem dX5_countWorking_10 : decode cX5_countWorking 10 = .ok (.iconst 0, 1) := by decide +kernel
theorem dX5_countWorking_11 : decode cX5_countWorking 11 = .ok (.istore 4, 2) := by decide +kernel
theorem dX5_countWorking_13 : decode cX5_countWorking 13 = .ok (.iload 4, 2) := by decide +kernel
theorem dX5_countWorking_15 : decode cX5_countWorking 15 = .ok (.iload_n 3, 1) := by decide +kernel
theorem dX5_countWorking_16 : decode cX5_countWorking 16 = .ok (.if_icmp .ge 31, 3) := by decide +kernel
theorem dX5_countWorking_19 : decode cX5_countWorking 19 = .ok (.aload_n 2, 1) := by decide +kernel
theorem dX5_countWorking_20 : decode cX5_countWorking 20 = .ok (.iload 4, 2) := by decide +kernel
theorem dX5_countWorking_22 : decode cX5_countWorking 22 = .ok (.aaload, 1) := by decide +kernel
theorem dX5_countWorking_23 : decode cX5_countWorking 23 = .ok (.astore 5, 2) := by decide +kernel
theorem dX5_countWorking_25 : decode cX5_countWorking 25 = .ok (.aload 5, 2) := by decide +kernel
theorem dX5_countWorking_27 : decode cX5_countWorking 27 = .ok (.ifnull 14, 3) := by decide +kernel
theorem dX5_countWorking_30 : decode cX5_countWorking 30 = .ok (.aload 5, 2) := by decide +kernel
theorem dX5_countWorking_32 : decode cX5_countWorking 32 = .ok (.getfield 81, 3) := by decide +kernel
theorem dX5_countWorking_35 : decode cX5_countWorking 35 = .ok (.ifCond .eq 6, 3) := by decide +kernel
theorem dX5_countWorking_38 : decode cX5_countWorking 38 = .ok (.iinc 1 1, 3) := by decide +kernel
theorem dX5_countWorking_41 : decode cX5_countWorking 41 = .ok (.iinc 4 1, 3) := by decide +kernel
theorem dX5_countWorking_44 : decode cX5_countWorking 44 = .ok (.goto (-31), 3) := by decide +kernel
theorem dX5_countWorking_47 : decode cX5_countWorking 47 = .ok (.iload_n 1, 1) := by decide +kernel
theorem dX5_countWorking_48 : decode cX5_countWorking 48 = .ok (.ireturn, 1) := by decide +kernel
theorem dX5_countSheets_0 : decode cX5_countSheets 0 = .ok (.iconst 0, 1) := by decide +kernel
theorem dX5_countSheets_1 : decode cX5_countSheets 1 = .ok (.istore_n 1, 1) := by decide +kernel
theorem dX5_countSheets_2 : decode cX5_countSheets 2 = .ok (.aload_n 0, 1) := by decide +kernel
theorem dX5_countSheets_3 : decode cX5_countSheets 3 = .ok (.getfield 36, 3) := by decide +kernel
theorem dX5_countSheets_6 : decode cX5_countSheets 6 = .ok (.astore_n 2, 1) := by decide +kernel
theorem dX5_countSheets_7 : decode cX5_countSheets 7 = .ok (.aload_n 2, 1) := by decide +kernel
theorem dX5_countSheets_8 : decode cX5_countSheets 8 = .ok (.arraylength, 1) := by decide +kernel
theorem dX5_countSheets_9 : decode cX5_countSheets 9 = .ok (.istore_n 3, 1) := by decide +kernel
theorem dX5_countSheets_10 : decode cX5_countSheets 10 = .ok (.iconst 0, 1) := by decide +kernel
theorem dX5_countSheets_11 : decode cX5_countSheets 11 = .ok (.istore 4, 2) := by decide +kernel
theorem dX5_countSheets_13 : decode cX5_countSheets 13 = .ok (.iload 4, 2) := by decide +kernel
theorem dX5_countSheets_15 : decode cX5_countSheets 15 = .ok (.iload_n 3, 1) := by decide +kernel
theorem dX5_countSheets_16 : decode cX5_countSheets 16 = .ok (.if_icmp .ge 23, 3) := by decide +kernel
theorem dX5_countSheets_19 : decode cX5_countSheets 19 = .ok (.aload_n 2, 1) := by decide +kernel
theorem dX5_countSheets_20 : decode cX5_countSheets 20 = .ok (.iload 4, 2) := by decide +kernel
theorem dX5_countSheets_22 : decode cX5_countSheets 22 = .ok (.aaload, 1) := by decide +kernel
theorem dX5_countSheets_23 : decode cX5_countSheets 23 = .ok (.astore 5, 2) := by decide +kernel
theorem dX5_countSheets_25 : decode cX5_countSheets 25 = .ok (.aload 5, 2) := by decide +kernel
theorem dX5_countSheets_27 : decode cX5_countSheets 27 = .ok (.ifnull 6, 3) := by decide +kernel
theorem dX5_countSheets_30 : decode cX5_countSheets 30 = .ok (.iinc 1 1, 3) := by decide +kernel
theorem dX5_countSheets_33 : decode cX5_countSheets 33 = .ok (.iinc 4 1, 3) := by decide +kernel
theorem dX5_countSheets_36 : decode cX5_countSheets 36 = .ok (.goto (-23), 3) := by decide +kernel
theorem dX5_countSheets_39 : decode cX5_countSheets 39 = .ok (.iload_n 1, 1) := by decide +kernel
theorem dX5_countSheets_40 : decode cX5_countSheets 40 = .ok (.ireturn, 1) := by decide +kernel
set_option maxRecDepth 20000 in
theorem ggX5_timeTo_X1_leastTicks : GoodIn wsX5_timeTo wsX1_leastTicks := goodIn_r _ [10, 11, 12, 13, 14, 15, 16, 17, 18, 19, 20, 21, 22, 23, 24, 25, 26, 27, 28, 29, 30, 31, 9, 32, 44, 45, 46, 47, 48] (by decide +kernel) (by decide +kernel)
set_option maxRecDepth 20000 in
theorem gX5_timeTo_X1_leastTicks : GoodIn wsX5_timeTo (wsV RX5 213 RX1 yX1_leastTicks wsX1_leastTicks) := goodIn_app (goodIn_of _ (by decide +kernel)) ggX5_timeTo_X1_leastTicks
theorem dX5_timeTo_0 : decode cX5_timeTo 0 = .ok (.iload_n 3, 1) := by decide +kernel
theorem dX5_timeTo_1 : decode cX5_timeTo 1 = .ok (.aload_n 0, 1) := by decide +kernel
theorem dX5_timeTo_2 : decode cX5_timeTo 2 = .ok (.getfield 12, 3) := by decide +kernel
theorem dX5_timeTo_5 : decode cX5_timeTo 5 = .ok (.getfield 124, 3) := by decide +kernel
theorem dX5_timeTo_8 : decode cX5_timeTo 8 = .ok (.isub, 1) := by decide +kernel
theorem dX5_timeTo_9 : decode cX5_timeTo 9 = .ok (.istore 4, 2) := by decide +kernel
theorem dX5_timeTo_11 : decode cX5_timeTo 11 = .ok (.iload 4, 2) := by decide +kernel
theorem dX5_timeTo_13 : decode cX5_timeTo 13 = .ok (.bipush 51, 2) := by decide +kernel
theorem dX5_timeTo_15 : decode cX5_timeTo 15 = .ok (.imul, 1) := by decide +kernel
theorem dX5_timeTo_16 : decode cX5_timeTo 16 = .ok (.iload_n 2, 1) := by decide +kernel
theorem dX5_timeTo_17 : decode cX5_timeTo 17 = .ok (.iadd, 1) := by decide +kernel
theorem dX5_timeTo_18 : decode cX5_timeTo 18 = .ok (.istore 5, 2) := by decide +kernel
theorem dX5_timeTo_20 : decode cX5_timeTo 20 = .ok (.iload 5, 2) := by decide +kernel
theorem dX5_timeTo_22 : decode cX5_timeTo 22 = .ok (.ifCond .lt 13, 3) := by decide +kernel
theorem dX5_timeTo_25 : decode cX5_timeTo 25 = .ok (.iload 5, 2) := by decide +kernel
theorem dX5_timeTo_27 : decode cX5_timeTo 27 = .ok (.aload_n 1, 1) := by decide +kernel
theorem dX5_timeTo_28 : decode cX5_timeTo 28 = .ok (.getfield 210, 3) := by decide +kernel
theorem dX5_timeTo_31 : decode cX5_timeTo 31 = .ok (.arraylength, 1) := by decide +kernel
theorem dX5_timeTo_32 : decode cX5_timeTo 32 = .ok (.if_icmp .lt 6, 3) := by decide +kernel
theorem dX5_timeTo_35 : decode cX5_timeTo 35 = .ok (.ldc 148, 2) := by decide +kernel
theorem dX5_timeTo_37 : decode cX5_timeTo 37 = .ok (.ireturn, 1) := by decide +kernel
theorem dX5_timeTo_38 : decode cX5_timeTo 38 = .ok (.aload_n 1, 1) := by decide +kernel
theorem dX5_timeTo_39 : decode cX5_timeTo 39 = .ok (.getfield 210, 3) := by decide +kernel
theorem dX5_timeTo_42 : decode cX5_timeTo 42 = .ok (.iload 5, 2) := by decide +kernel
theorem dX5_timeTo_44 : decode cX5_timeTo 44 = .ok (.iaload, 1) := by decide +kernel
theorem dX5_timeTo_45 : decode cX5_timeTo 45 = .ok (.ifCond .ge 24, 3) := by decide +kernel
theorem dX5_timeTo_48 : decode cX5_timeTo 48 = .ok (.aload_n 1, 1) := by decide +kernel
theorem dX5_timeTo_49 : decode cX5_timeTo 49 = .ok (.getfield 210, 3) := by decide +kernel
theorem dX5_timeTo_52 : decode cX5_timeTo 52 = .ok (.iload 5, 2) := by decide +kernel
theorem dX5_timeTo_54 : decode cX5_timeTo 54 = .ok (.aload_n 0, 1) := by decide +kernel
theorem dX5_timeTo_55 : decode cX5_timeTo 55 = .ok (.getfield 12, 3) := by decide +kernel
theorem dX5_timeTo_58 : decode cX5_timeTo 58 = .ok (.aload_n 1, 1) := by decide +kernel
theorem dX5_timeTo_59 : decode cX5_timeTo 59 = .ok (.getfield 123, 3) := by decide +kernel
theorem dX5_timeTo_62 : decode cX5_timeTo 62 = .ok (.iload_n 2, 1) := by decide +kernel
theorem dX5_timeTo_63 : decode cX5_timeTo 63 = .ok (.iload 4, 2) := by decide +kernel
theorem dX5_timeTo_65 : decode cX5_timeTo 65 = .ok (.invokevirtual 213, 3) := by decide +kernel
theorem dX5_timeTo_68 : decode cX5_timeTo 68 = .ok (.iastore, 1) := by decide +kernel
theorem dX5_timeTo_69 : decode cX5_timeTo 69 = .ok (.aload_n 1, 1) := by decide +kernel
theorem dX5_timeTo_70 : decode cX5_timeTo 70 = .ok (.getfield 210, 3) := by decide +kernel
theorem dX5_timeTo_73 : decode cX5_timeTo 73 = .ok (.iload 5, 2) := by decide +kernel
theorem dX5_timeTo_75 : decode cX5_timeTo 75 = .ok (.iaload, 1) := by decide +kernel
theorem dX5_timeTo_76 : decode cX5_timeTo 76 = .ok (.ireturn, 1) := by decide +kernel
set_option maxRecDepth 20000 in
theorem ggX5_echoTimeBy_X5_depthOf : GoodIn wsX5_echoTimeBy wsX5_depthOf := goodIn_r _ [15, 16, 17, 18, 19, 20, 21, 22, 23, 24, 25, 60, 61, 62, 63, 64, 65, 66, 67, 68, 69, 70, 71, 72, 73, 74, 75, 76, 77, 78, 79, 80, 81] (by decide +kernel) (by decide +kernel)
set_option maxRecDepth 20000 in
theorem gX5_echoTimeBy_X5_depthOf : GoodIn wsX5_echoTimeBy (wsV RX5 112 RX5 yX5_depthOf wsX5_depthOf) := goodIn_app (goodIn_of _ (by decide +kernel)) ggX5_echoTimeBy_X5_depthOf
set_option maxRecDepth 20000 in
theorem ggX5_echoTimeBy_X5_timeTo : GoodIn wsX5_echoTimeBy wsX5_timeTo := goodIn_r _ [29, 17, 30, 31, 3, 32, 33, 34, 35, 22, 36, 37, 38, 39, 40, 41, 42, 9, 43, 44, 8, 10, 45, 46, 47, 48, 49, 14, 50, 51, 52, 53, 54, 66, 67, 68, 69, 70, 71, 72, 73, 74, 75, 76, 77, 78, 79, 80, 81, 55, 56, 57, 58, 59] (by decide +kernel) (by decide +kernel)
set_option maxRecDepth 20000 in
theorem gX5_echoTimeBy_X5_timeTo : GoodIn wsX5_echoTimeBy (wsV RX5 119 RX5 yX5_timeTo wsX5_timeTo) := goodIn_app (goodIn_of _ (by decide +kernel)) ggX5_echoTimeBy_X5_timeTo
theorem dX5_echoTimeBy_0 : decode cX5_echoTimeBy 0 = .ok (.aload_n 1, 1) := by decide +kernel
theorem dX5_echoTimeBy_1 : decode cX5_echoTimeBy 1 = .ok (.getfield 216, 3) := by decide +kernel
theorem dX5_echoTimeBy_4 : decode cX5_echoTimeBy 4 = .ok (.bipush 8, 2) := by decide +kernel
theorem dX5_echoTimeBy_6 : decode cX5_echoTimeBy 6 = .ok (.imul, 1) := by decide +kernel
theorem dX5_echoTimeBy_7 : decode cX5_echoTimeBy 7 = .ok (.aload_n 2, 1) := by decide +kernel
theorem dX5_echoTimeBy_8 : decode cX5_echoTimeBy 8 = .ok (.getfield 216, 3) := by decide +kernel
theorem dX5_echoTimeBy_11 : decode cX5_echoTimeBy 11 = .ok (.iadd, 1) := by decide +kernel
theorem dX5_echoTimeBy_12 : decode cX5_echoTimeBy 12 = .ok (.istore 4, 2) := by decide +kernel
theorem dX5_echoTimeBy_14 : decode cX5_echoTimeBy 14 = .ok (.iload 4, 2) := by decide +kernel
theorem dX5_echoTimeBy_16 : decode cX5_echoTimeBy 16 = .ok (.ifCond .lt 13, 3) := by decide +kernel
theorem dX5_echoTimeBy_19 : decode cX5_echoTimeBy 19 = .ok (.iload 4, 2) := by decide +kernel
theorem dX5_echoTimeBy_21 : decode cX5_echoTimeBy 21 = .ok (.aload_n 3, 1) := by decide +kernel
theorem dX5_echoTimeBy_22 : decode cX5_echoTimeBy 22 = .ok (.getfield 219, 3) := by decide +kernel
theorem dX5_echoTimeBy_25 : decode cX5_echoTimeBy 25 = .ok (.arraylength, 1) := by decide +kernel
theorem dX5_echoTimeBy_26 : decode cX5_echoTimeBy 26 = .ok (.if_icmp .lt 6, 3) := by decide +kernel
theorem dX5_echoTimeBy_29 : decode cX5_echoTimeBy 29 = .ok (.ldc 148, 2) := by decide +kernel
theorem dX5_echoTimeBy_31 : decode cX5_echoTimeBy 31 = .ok (.ireturn, 1) := by decide +kernel
theorem dX5_echoTimeBy_32 : decode cX5_echoTimeBy 32 = .ok (.aload_n 3, 1) := by decide +kernel
theorem dX5_echoTimeBy_33 : decode cX5_echoTimeBy 33 = .ok (.getfield 219, 3) := by decide +kernel
theorem dX5_echoTimeBy_36 : decode cX5_echoTimeBy 36 = .ok (.iload 4, 2) := by decide +kernel
theorem dX5_echoTimeBy_38 : decode cX5_echoTimeBy 38 = .ok (.iaload, 1) := by decide +kernel
theorem dX5_echoTimeBy_39 : decode cX5_echoTimeBy 39 = .ok (.ifCond .ge 70, 3) := by decide +kernel
theorem dX5_echoTimeBy_42 : decode cX5_echoTimeBy 42 = .ok (.aload_n 0, 1) := by decide +kernel
theorem dX5_echoTimeBy_43 : decode cX5_echoTimeBy 43 = .ok (.aload_n 3, 1) := by decide +kernel
theorem dX5_echoTimeBy_44 : decode cX5_echoTimeBy 44 = .ok (.invokevirtual 112, 3) := by decide +kernel
theorem dX5_echoTimeBy_47 : decode cX5_echoTimeBy 47 = .ok (.istore 5, 2) := by decide +kernel
theorem dX5_echoTimeBy_49 : decode cX5_echoTimeBy 49 = .ok (.ldc 135, 2) := by decide +kernel
theorem dX5_echoTimeBy_51 : decode cX5_echoTimeBy 51 = .ok (.istore 6, 2) := by decide +kernel
theorem dX5_echoTimeBy_53 : decode cX5_echoTimeBy 53 = .ok (.aload_n 3, 1) := by decide +kernel
theorem dX5_echoTimeBy_54 : decode cX5_echoTimeBy 54 = .ok (.getfield 109, 3) := by decide +kernel
theorem dX5_echoTimeBy_57 : decode cX5_echoTimeBy 57 = .ok (.istore 7, 2) := by decide +kernel
theorem dX5_echoTimeBy_59 : decode cX5_echoTimeBy 59 = .ok (.iload 7, 2) := by decide +kernel
theorem dX5_echoTimeBy_61 : decode cX5_echoTimeBy 61 = .ok (.aload_n 3, 1) := by decide +kernel
theorem dX5_echoTimeBy_62 : decode cX5_echoTimeBy 62 = .ok (.getfield 116, 3) := by decide +kernel
theorem dX5_echoTimeBy_65 : decode cX5_echoTimeBy 65 = .ok (.if_icmp .gt 35, 3) := by decide +kernel
theorem dX5_echoTimeBy_68 : decode cX5_echoTimeBy 68 = .ok (.iload 6, 2) := by decide +kernel
theorem dX5_echoTimeBy_70 : decode cX5_echoTimeBy 70 = .ok (.aload_n 0, 1) := by decide +kernel
theorem dX5_echoTimeBy_71 : decode cX5_echoTimeBy 71 = .ok (.aload_n 1, 1) := by decide +kernel
theorem dX5_echoTimeBy_72 : decode cX5_echoTimeBy 72 = .ok (.iload 7, 2) := by decide +kernel
theorem dX5_echoTimeBy_74 : decode cX5_echoTimeBy 74 = .ok (.iload 5, 2) := by decide +kernel
theorem dX5_echoTimeBy_76 : decode cX5_echoTimeBy 76 = .ok (.invokevirtual 119, 3) := by decide +kernel
theorem dX5_echoTimeBy_79 : decode cX5_echoTimeBy 79 = .ok (.aload_n 0, 1) := by decide +kernel
theorem dX5_echoTimeBy_80 : decode cX5_echoTimeBy 80 = .ok (.aload_n 2, 1) := by decide +kernel
theorem dX5_echoTimeBy_81 : decode cX5_echoTimeBy 81 = .ok (.iload 7, 2) := by decide +kernel
theorem dX5_echoTimeBy_83 : decode cX5_echoTimeBy 83 = .ok (.iload 5, 2) := by decide +kernel
theorem dX5_echoTimeBy_85 : decode cX5_echoTimeBy 85 = .ok (.invokevirtual 119, 3) := by decide +kernel
theorem dX5_echoTimeBy_88 : decode cX5_echoTimeBy 88 = .ok (.iadd, 1) := by decide +kernel
theorem dX5_echoTimeBy_89 : decode cX5_echoTimeBy 89 = .ok (.invokestatic 181, 3) := by decide +kernel
theorem dX5_echoTimeBy_92 : decode cX5_echoTimeBy 92 = .ok (.istore 6, 2) := by decide +kernel
theorem dX5_echoTimeBy_94 : decode cX5_echoTimeBy 94 = .ok (.iinc 7 1, 3) := by decide +kernel
theorem dX5_echoTimeBy_97 : decode cX5_echoTimeBy 97 = .ok (.goto (-38), 3) := by decide +kernel
theorem dX5_echoTimeBy_100 : decode cX5_echoTimeBy 100 = .ok (.aload_n 3, 1) := by decide +kernel
theorem dX5_echoTimeBy_101 : decode cX5_echoTimeBy 101 = .ok (.getfield 219, 3) := by decide +kernel
theorem dX5_echoTimeBy_104 : decode cX5_echoTimeBy 104 = .ok (.iload 4, 2) := by decide +kernel
theorem dX5_echoTimeBy_106 : decode cX5_echoTimeBy 106 = .ok (.iload 6, 2) := by decide +kernel
theorem dX5_echoTimeBy_108 : decode cX5_echoTimeBy 108 = .ok (.iastore, 1) := by decide +kernel
theorem dX5_echoTimeBy_109 : decode cX5_echoTimeBy 109 = .ok (.aload_n 3, 1) := by decide +kernel
theorem dX5_echoTimeBy_110 : decode cX5_echoTimeBy 110 = .ok (.getfield 219, 3) := by decide +kernel
theorem dX5_echoTimeBy_113 : decode cX5_echoTimeBy 113 = .ok (.iload 4, 2) := by decide +kernel
theorem dX5_echoTimeBy_115 : decode cX5_echoTimeBy 115 = .ok (.iaload, 1) := by decide +kernel
theorem dX5_echoTimeBy_116 : decode cX5_echoTimeBy 116 = .ok (.ireturn, 1) := by decide +kernel
set_option maxRecDepth 20000 in
theorem ggX5_echoAt_X5_echoTimeBy : GoodIn wsX5_echoAt wsX5_echoTimeBy := goodIn_r _ [8, 9, 10, 11, 12, 13, 14, 15, 16, 17, 18, 19, 20, 21, 7, 22, 23, 24, 25, 26, 27, 28, 29, 30, 31, 32, 33, 34, 35, 36, 37, 38, 39, 40, 41, 42, 43, 44, 45, 46, 47, 48, 49, 50, 51, 52, 53, 54, 55, 56, 57, 58, 59, 60, 61, 62, 63, 64, 65, 66, 78, 79, 80, 81, 82, 83, 67, 68, 69, 70, 71, 72, 73, 74, 75, 76, 77, 84, 85, 86, 87, 88] (by decide +kernel) (by decide +kernel)
set_option maxRecDepth 20000 in
theorem gX5_echoAt_X5_echoTimeBy : GoodIn wsX5_echoAt (wsV RX5 131 RX5 yX5_echoTimeBy wsX5_echoTimeBy) := goodIn_app (goodIn_of _ (by decide +kernel)) ggX5_echoAt_X5_echoTimeBy
theorem dX5_echoAt_0 : decode cX5_echoAt 0 = .ok (.iconst 0, 1) := by decide +kernel
theorem dX5_echoAt_1 : decode cX5_echoAt 1 = .ok (.istore 5, 2) := by decide +kernel
theorem dX5_echoAt_3 : decode cX5_echoAt 3 = .ok (.aload_n 1, 1) := by decide +kernel
theorem dX5_echoAt_4 : decode cX5_echoAt 4 = .ok (.getfield 81, 3) := by decide +kernel
theorem dX5_echoAt_7 : decode cX5_echoAt 7 = .ok (.ifCond .eq 79, 3) := by decide +kernel
theorem dX5_echoAt_10 : decode cX5_echoAt 10 = .ok (.aload_n 2, 1) := by decide +kernel
theorem dX5_echoAt_11 : decode cX5_echoAt 11 = .ok (.getfield 81, 3) := by decide +kernel
theorem dX5_echoAt_14 : decode cX5_echoAt 14 = .ok (.ifCond .eq 72, 3) := by decide +kernel
theorem dX5_echoAt_17 : decode cX5_echoAt 17 = .ok (.lload_n 3, 1) := by decide +kernel
theorem dX5_echoAt_18 : decode cX5_echoAt 18 = .ok (.lconst 0, 1) := by decide +kernel
theorem dX5_echoAt_19 : decode cX5_echoAt 19 = .ok (.lcmp, 1) := by decide +kernel
theorem dX5_echoAt_20 : decode cX5_echoAt 20 = .ok (.ifCond .lt 66, 3) := by decide +kernel
theorem dX5_echoAt_23 : decode cX5_echoAt 23 = .ok (.aload_n 0, 1) := by decide +kernel
theorem dX5_echoAt_24 : decode cX5_echoAt 24 = .ok (.getfield 24, 3) := by decide +kernel
theorem dX5_echoAt_27 : decode cX5_echoAt 27 = .ok (.astore 6, 2) := by decide +kernel
theorem dX5_echoAt_29 : decode cX5_echoAt 29 = .ok (.aload 6, 2) := by decide +kernel
theorem dX5_echoAt_31 : decode cX5_echoAt 31 = .ok (.arraylength, 1) := by decide +kernel
theorem dX5_echoAt_32 : decode cX5_echoAt 32 = .ok (.istore 7, 2) := by decide +kernel
theorem dX5_echoAt_34 : decode cX5_echoAt 34 = .ok (.iconst 0, 1) := by decide +kernel
theorem dX5_echoAt_35 : decode cX5_echoAt 35 = .ok (.istore 8, 2) := by decide +kernel
theorem dX5_echoAt_37 : decode cX5_echoAt 37 = .ok (.iload 8, 2) := by decide +kernel
theorem dX5_echoAt_39 : decode cX5_echoAt 39 = .ok (.iload 7, 2) := by decide +kernel
theorem dX5_echoAt_41 : decode cX5_echoAt 41 = .ok (.if_icmp .ge 45, 3) := by decide +kernel
theorem dX5_echoAt_44 : decode cX5_echoAt 44 = .ok (.aload 6, 2) := by decide +kernel
theorem dX5_echoAt_46 : decode cX5_echoAt 46 = .ok (.iload 8, 2) := by decide +kernel
theorem dX5_echoAt_48 : decode cX5_echoAt 48 = .ok (.aaload, 1) := by decide +kernel
theorem dX5_echoAt_49 : decode cX5_echoAt 49 = .ok (.astore 9, 2) := by decide +kernel
theorem dX5_echoAt_51 : decode cX5_echoAt 51 = .ok (.aload 9, 2) := by decide +kernel
theorem dX5_echoAt_53 : decode cX5_echoAt 53 = .ok (.ifnull 27, 3) := by decide +kernel
theorem dX5_echoAt_56 : decode cX5_echoAt 56 = .ok (.aload_n 0, 1) := by decide +kernel
theorem dX5_echoAt_57 : decode cX5_echoAt 57 = .ok (.aload_n 1, 1) := by decide +kernel
theorem dX5_echoAt_58 : decode cX5_echoAt 58 = .ok (.aload_n 2, 1) := by decide +kernel
theorem dX5_echoAt_59 : decode cX5_echoAt 59 = .ok (.aload 9, 2) := by decide +kernel
theorem dX5_echoAt_61 : decode cX5_echoAt 61 = .ok (.invokevirtual 131, 3) := by decide +kernel
theorem dX5_echoAt_64 : decode cX5_echoAt 64 = .ok (.i2l, 1) := by decide +kernel
theorem dX5_echoAt_65 : decode cX5_echoAt 65 = .ok (.lload_n 3, 1) := by decide +kernel
theorem dX5_echoAt_66 : decode cX5_echoAt 66 = .ok (.lcmp, 1) := by decide +kernel
theorem dX5_echoAt_67 : decode cX5_echoAt 67 = .ok (.ifCond .ne 13, 3) := by decide +kernel
theorem dX5_echoAt_70 : decode cX5_echoAt 70 = .ok (.iload 5, 2) := by decide +kernel
theorem dX5_echoAt_72 : decode cX5_echoAt 72 = .ok (.aload 9, 2) := by decide +kernel
theorem dX5_echoAt_74 : decode cX5_echoAt 74 = .ok (.getfield 106, 3) := by decide +kernel
theorem dX5_echoAt_77 : decode cX5_echoAt 77 = .ok (.iadd, 1) := by decide +kernel
theorem dX5_echoAt_78 : decode cX5_echoAt 78 = .ok (.istore 5, 2) := by decide +kernel
theorem dX5_echoAt_80 : decode cX5_echoAt 80 = .ok (.iinc 8 1, 3) := by decide +kernel
theorem dX5_echoAt_83 : decode cX5_echoAt 83 = .ok (.goto (-46), 3) := by decide +kernel
theorem dX5_echoAt_86 : decode cX5_echoAt 86 = .ok (.iload 5, 2) := by decide +kernel
theorem dX5_echoAt_88 : decode cX5_echoAt 88 = .ok (.ireturn, 1) := by decide +kernel
set_option maxRecDepth 20000 in
theorem ggX5_heardBy_X5_echoAt : GoodIn wsX5_heardBy wsX5_echoAt := goodIn_r _ [8, 2, 9, 10, 11, 12, 13, 7, 14, 15, 16, 17, 18, 19, 20, 21, 22, 23, 24, 25, 26, 27, 28, 29, 30, 31, 32, 33, 34, 35, 36, 37, 38, 39, 40, 41, 42, 43, 44, 45, 46, 47, 48, 49, 50, 51, 52, 53, 54, 55, 56, 57, 58, 59, 60, 61, 62, 63, 64, 65, 66, 67, 79, 80, 81, 82, 83, 68, 69, 70, 71, 72, 73, 74, 75, 76, 77, 78, 84, 85, 86, 87, 88, 89, 90, 91, 92, 93, 94] (by decide +kernel) (by decide +kernel)
set_option maxRecDepth 20000 in
theorem gX5_heardBy_X5_echoAt : GoodIn wsX5_heardBy (wsV RX5 144 RX5 yX5_echoAt wsX5_echoAt) := goodIn_app (goodIn_of _ (by decide +kernel)) ggX5_heardBy_X5_echoAt
theorem dX5_heardBy_0 : decode cX5_heardBy 0 = .ok (.iconst 0, 1) := by decide +kernel
theorem dX5_heardBy_1 : decode cX5_heardBy 1 = .ok (.istore 4, 2) := by decide +kernel
theorem dX5_heardBy_3 : decode cX5_heardBy 3 = .ok (.aload_n 0, 1) := by decide +kernel
theorem dX5_heardBy_4 : decode cX5_heardBy 4 = .ok (.getfield 18, 3) := by decide +kernel
theorem dX5_heardBy_7 : decode cX5_heardBy 7 = .ok (.astore 5, 2) := by decide +kernel
theorem dX5_heardBy_9 : decode cX5_heardBy 9 = .ok (.aload 5, 2) := by decide +kernel
theorem dX5_heardBy_11 : decode cX5_heardBy 11 = .ok (.arraylength, 1) := by decide +kernel
theorem dX5_heardBy_12 : decode cX5_heardBy 12 = .ok (.istore 6, 2) := by decide +kernel
theorem dX5_heardBy_14 : decode cX5_heardBy 14 = .ok (.iconst 0, 1) := by decide +kernel
theorem dX5_heardBy_15 : decode cX5_heardBy 15 = .ok (.istore 7, 2) := by decide +kernel
theorem dX5_heardBy_17 : decode cX5_heardBy 17 = .ok (.iload 7, 2) := by decide +kernel
theorem dX5_heardBy_19 : decode cX5_heardBy 19 = .ok (.iload 6, 2) := by decide +kernel
theorem dX5_heardBy_21 : decode cX5_heardBy 21 = .ok (.if_icmp .ge 49, 3) := by decide +kernel
theorem dX5_heardBy_24 : decode cX5_heardBy 24 = .ok (.aload 5, 2) := by decide +kernel
theorem dX5_heardBy_26 : decode cX5_heardBy 26 = .ok (.iload 7, 2) := by decide +kernel
theorem dX5_heardBy_28 : decode cX5_heardBy 28 = .ok (.aaload, 1) := by decide +kernel
theorem dX5_heardBy_29 : decode cX5_heardBy 29 = .ok (.astore 8, 2) := by decide +kernel
theorem dX5_heardBy_31 : decode cX5_heardBy 31 = .ok (.aload 8, 2) := by decide +kernel
theorem dX5_heardBy_33 : decode cX5_heardBy 33 = .ok (.ifnull 31, 3) := by decide +kernel
theorem dX5_heardBy_36 : decode cX5_heardBy 36 = .ok (.aload 8, 2) := by decide +kernel
theorem dX5_heardBy_38 : decode cX5_heardBy 38 = .ok (.getfield 81, 3) := by decide +kernel
theorem dX5_heardBy_41 : decode cX5_heardBy 41 = .ok (.ifCond .eq 23, 3) := by decide +kernel
theorem dX5_heardBy_44 : decode cX5_heardBy 44 = .ok (.iload 4, 2) := by decide +kernel
theorem dX5_heardBy_46 : decode cX5_heardBy 46 = .ok (.aload_n 0, 1) := by decide +kernel
theorem dX5_heardBy_47 : decode cX5_heardBy 47 = .ok (.aload 8, 2) := by decide +kernel
theorem dX5_heardBy_49 : decode cX5_heardBy 49 = .ok (.aload_n 1, 1) := by decide +kernel
theorem dX5_heardBy_50 : decode cX5_heardBy 50 = .ok (.lload_n 2, 1) := by decide +kernel
theorem dX5_heardBy_51 : decode cX5_heardBy 51 = .ok (.aload 8, 2) := by decide +kernel
theorem dX5_heardBy_53 : decode cX5_heardBy 53 = .ok (.getfield 153, 3) := by decide +kernel
theorem dX5_heardBy_56 : decode cX5_heardBy 56 = .ok (.i2l, 1) := by decide +kernel
theorem dX5_heardBy_57 : decode cX5_heardBy 57 = .ok (.lsub, 1) := by decide +kernel
theorem dX5_heardBy_58 : decode cX5_heardBy 58 = .ok (.invokevirtual 144, 3) := by decide +kernel
theorem dX5_heardBy_61 : decode cX5_heardBy 61 = .ok (.iadd, 1) := by decide +kernel
theorem dX5_heardBy_62 : decode cX5_heardBy 62 = .ok (.istore 4, 2) := by decide +kernel
theorem dX5_heardBy_64 : decode cX5_heardBy 64 = .ok (.iinc 7 1, 3) := by decide +kernel
theorem dX5_heardBy_67 : decode cX5_heardBy 67 = .ok (.goto (-50), 3) := by decide +kernel
theorem dX5_heardBy_70 : decode cX5_heardBy 70 = .ok (.iload 4, 2) := by decide +kernel
theorem dX5_heardBy_72 : decode cX5_heardBy 72 = .ok (.ireturn, 1) := by decide +kernel
set_option maxRecDepth 20000 in
theorem ggX5_fits_X5_timeTo : GoodIn wsX5_fits wsX5_timeTo := goodIn_r _ [13, 14, 15, 16, 17, 18, 19, 20, 21, 22, 23, 24, 25, 26, 27, 28, 29, 7, 30, 31, 32, 33, 34, 35, 6, 8, 36, 12, 37, 38, 39, 40, 41, 42, 43, 44, 45, 46, 47, 48, 49, 50, 51, 52, 56, 57, 58, 59, 60, 61, 62, 63, 64, 65] (by decide +kernel) (by decide +kernel)
set_option maxRecDepth 20000 in
theorem gX5_fits_X5_timeTo : GoodIn wsX5_fits (wsV RX5 119 RX5 yX5_timeTo wsX5_timeTo) := goodIn_app (goodIn_of _ (by decide +kernel)) ggX5_fits_X5_timeTo
theorem dX5_fits_0 : decode cX5_fits 0 = .ok (.aload_n 0, 1) := by decide +kernel
theorem dX5_fits_1 : decode cX5_fits 1 = .ok (.getfield 30, 3) := by decide +kernel
theorem dX5_fits_4 : decode cX5_fits 4 = .ok (.astore 4, 2) := by decide +kernel
theorem dX5_fits_6 : decode cX5_fits 6 = .ok (.aload 4, 2) := by decide +kernel
theorem dX5_fits_8 : decode cX5_fits 8 = .ok (.arraylength, 1) := by decide +kernel
theorem dX5_fits_9 : decode cX5_fits 9 = .ok (.istore 5, 2) := by decide +kernel
theorem dX5_fits_11 : decode cX5_fits 11 = .ok (.iconst 0, 1) := by decide +kernel
theorem dX5_fits_12 : decode cX5_fits 12 = .ok (.istore 6, 2) := by decide +kernel
theorem dX5_fits_14 : decode cX5_fits 14 = .ok (.iload 6, 2) := by decide +kernel
theorem dX5_fits_16 : decode cX5_fits 16 = .ok (.iload 5, 2) := by decide +kernel
theorem dX5_fits_18 : decode cX5_fits 18 = .ok (.if_icmp .ge 63, 3) := by decide +kernel
theorem dX5_fits_21 : decode cX5_fits 21 = .ok (.aload 4, 2) := by decide +kernel
theorem dX5_fits_23 : decode cX5_fits 23 = .ok (.iload 6, 2) := by decide +kernel
theorem dX5_fits_25 : decode cX5_fits 25 = .ok (.aaload, 1) := by decide +kernel
theorem dX5_fits_26 : decode cX5_fits 26 = .ok (.astore 7, 2) := by decide +kernel
theorem dX5_fits_28 : decode cX5_fits 28 = .ok (.aload 7, 2) := by decide +kernel
theorem dX5_fits_30 : decode cX5_fits 30 = .ok (.ifnull 45, 3) := by decide +kernel
theorem dX5_fits_33 : decode cX5_fits 33 = .ok (.aload_n 0, 1) := by decide +kernel
theorem dX5_fits_34 : decode cX5_fits 34 = .ok (.aload 7, 2) := by decide +kernel
theorem dX5_fits_36 : decode cX5_fits 36 = .ok (.getfield 220, 3) := by decide +kernel
theorem dX5_fits_39 : decode cX5_fits 39 = .ok (.iload_n 1, 1) := by decide +kernel
theorem dX5_fits_40 : decode cX5_fits 40 = .ok (.iload_n 2, 1) := by decide +kernel
theorem dX5_fits_41 : decode cX5_fits 41 = .ok (.invokevirtual 119, 3) := by decide +kernel
theorem dX5_fits_44 : decode cX5_fits 44 = .ok (.aload_n 0, 1) := by decide +kernel
theorem dX5_fits_45 : decode cX5_fits 45 = .ok (.aload 7, 2) := by decide +kernel
theorem dX5_fits_47 : decode cX5_fits 47 = .ok (.getfield 224, 3) := by decide +kernel
theorem dX5_fits_50 : decode cX5_fits 50 = .ok (.iload_n 1, 1) := by decide +kernel
theorem dX5_fits_51 : decode cX5_fits 51 = .ok (.iload_n 2, 1) := by decide +kernel
theorem dX5_fits_52 : decode cX5_fits 52 = .ok (.invokevirtual 119, 3) := by decide +kernel
theorem dX5_fits_55 : decode cX5_fits 55 = .ok (.iadd, 1) := by decide +kernel
theorem dX5_fits_56 : decode cX5_fits 56 = .ok (.istore 8, 2) := by decide +kernel
theorem dX5_fits_58 : decode cX5_fits 58 = .ok (.iload 8, 2) := by decide +kernel
theorem dX5_fits_60 : decode cX5_fits 60 = .ok (.aload 7, 2) := by decide +kernel
theorem dX5_fits_62 : decode cX5_fits 62 = .ok (.getfield 227, 3) := by decide +kernel
theorem dX5_fits_65 : decode cX5_fits 65 = .ok (.isub, 1) := by decide +kernel
theorem dX5_fits_66 : decode cX5_fits 66 = .ok (.invokestatic 139, 3) := by decide +kernel
theorem dX5_fits_69 : decode cX5_fits 69 = .ok (.iload_n 3, 1) := by decide +kernel
theorem dX5_fits_70 : decode cX5_fits 70 = .ok (.if_icmp .le 5, 3) := by decide +kernel
theorem dX5_fits_73 : decode cX5_fits 73 = .ok (.iconst 0, 1) := by decide +kernel
theorem dX5_fits_74 : decode cX5_fits 74 = .ok (.ireturn, 1) := by decide +kernel
theorem dX5_fits_75 : decode cX5_fits 75 = .ok (.iinc 6 1, 3) := by decide +kernel
theorem dX5_fits_78 : decode cX5_fits 78 = .ok (.goto (-64), 3) := by decide +kernel
theorem dX5_fits_81 : decode cX5_fits 81 = .ok (.iconst 1, 1) := by decide +kernel
theorem dX5_fits_82 : decode cX5_fits 82 = .ok (.ireturn, 1) := by decide +kernel
end
section
theorem dX6_init_0 : decode cX6_init 0 = .ok (.aload_n 0, 1) := by decide +kernel
theorem dX6_init_1 : decode cX6_init 1 = .ok (.invokespecial 1, 3) := by decide +kernel
theorem dX6_init_4 : decode cX6_init 4 = .ok (.aload_n 0, 1) := by decide +kernel
theorem dX6_init_5 : decode cX6_init 5 = .ok (.bipush 30, 2) := by decide +kernel
theorem dX6_init_7 : decode cX6_init 7 = .ok (.putfield 7, 3) := by decide +kernel
theorem dX6_init_10 : decode cX6_init 10 = .ok (.aload_n 0, 1) := by decide +kernel
theorem dX6_init_11 : decode cX6_init 11 = .ok (.iconst 1, 1) := by decide +kernel
theorem dX6_init_12 : decode cX6_init 12 = .ok (.putfield 13, 3) := by decide +kernel
theorem dX6_init_15 : decode cX6_init 15 = .ok (.aload_n 0, 1) := by decide +kernel
theorem dX6_init_16 : decode cX6_init 16 = .ok (.iconst 1, 1) := by decide +kernel
theorem dX6_init_17 : decode cX6_init 17 = .ok (.putfield 16, 3) := by decide +kernel
theorem dX6_init_20 : decode cX6_init 20 = .ok (.aload_n 0, 1) := by decide +kernel
theorem dX6_init_21 : decode cX6_init 21 = .ok (.bipush 8, 2) := by decide +kernel
theorem dX6_init_23 : decode cX6_init 23 = .ok (.newarray .int, 2) := by decide +kernel
theorem dX6_init_25 : decode cX6_init 25 = .ok (.putfield 19, 3) := by decide +kernel
theorem dX6_init_28 : decode cX6_init 28 = .ok (.aload_n 0, 1) := by decide +kernel
theorem dX6_init_29 : decode cX6_init 29 = .ok (.bipush 8, 2) := by decide +kernel
theorem dX6_init_31 : decode cX6_init 31 = .ok (.newarray .boolean, 2) := by decide +kernel
theorem dX6_init_33 : decode cX6_init 33 = .ok (.putfield 23, 3) := by decide +kernel
theorem dX6_init_36 : decode cX6_init 36 = .ok (.aload_n 0, 1) := by decide +kernel
theorem dX6_init_37 : decode cX6_init 37 = .ok (.bipush 8, 2) := by decide +kernel
theorem dX6_init_39 : decode cX6_init 39 = .ok (.newarray .int, 2) := by decide +kernel
theorem dX6_init_41 : decode cX6_init 41 = .ok (.putfield 27, 3) := by decide +kernel
theorem dX6_init_44 : decode cX6_init 44 = .ok (.aload_n 0, 1) := by decide +kernel
theorem dX6_init_45 : decode cX6_init 45 = .ok (.bipush 8, 2) := by decide +kernel
theorem dX6_init_47 : decode cX6_init 47 = .ok (.newarray .int, 2) := by decide +kernel
theorem dX6_init_49 : decode cX6_init 49 = .ok (.putfield 30, 3) := by decide +kernel
theorem dX6_init_52 : decode cX6_init 52 = .ok (.aload_n 0, 1) := by decide +kernel
theorem dX6_init_53 : decode cX6_init 53 = .ok (.bipush 8, 2) := by decide +kernel
theorem dX6_init_55 : decode cX6_init 55 = .ok (.newarray .int, 2) := by decide +kernel
theorem dX6_init_57 : decode cX6_init 57 = .ok (.putfield 33, 3) := by decide +kernel
theorem dX6_init_60 : decode cX6_init 60 = .ok (.aload_n 0, 1) := by decide +kernel
theorem dX6_init_61 : decode cX6_init 61 = .ok (.bipush 8, 2) := by decide +kernel
theorem dX6_init_63 : decode cX6_init 63 = .ok (.newarray .int, 2) := by decide +kernel
theorem dX6_init_65 : decode cX6_init 65 = .ok (.putfield 36, 3) := by decide +kernel
theorem dX6_init_68 : decode cX6_init 68 = .ok (.aload_n 0, 1) := by decide +kernel
theorem dX6_init_69 : decode cX6_init 69 = .ok (.bipush 8, 2) := by decide +kernel
theorem dX6_init_71 : decode cX6_init 71 = .ok (.newarray .int, 2) := by decide +kernel
theorem dX6_init_73 : decode cX6_init 73 = .ok (.putfield 39, 3) := by decide +kernel
theorem dX6_init_76 : decode cX6_init 76 = .ok (.aload_n 0, 1) := by decide +kernel
theorem dX6_init_77 : decode cX6_init 77 = .ok (.sipush 20808, 3) := by decide +kernel
theorem dX6_init_80 : decode cX6_init 80 = .ok (.newarray .int, 2) := by decide +kernel
theorem dX6_init_82 : decode cX6_init 82 = .ok (.putfield 42, 3) := by decide +kernel
theorem dX6_init_85 : decode cX6_init 85 = .ok (.aload_n 0, 1) := by decide +kernel
theorem dX6_init_86 : decode cX6_init 86 = .ok (.sipush 20808, 3) := by decide +kernel
theorem dX6_init_89 : decode cX6_init 89 = .ok (.newarray .int, 2) := by decide +kernel
theorem dX6_init_91 : decode cX6_init 91 = .ok (.putfield 45, 3) := by decide +kernel
theorem dX6_init_94 : decode cX6_init 94 = .ok (.aload_n 0, 1) := by decide +kernel
theorem dX6_init_95 : decode cX6_init 95 = .ok (.sipush 408, 3) := by decide +kernel
theorem dX6_init_98 : decode cX6_init 98 = .ok (.newarray .boolean, 2) := by decide +kernel
theorem dX6_init_100 : decode cX6_init 100 = .ok (.putfield 48, 3) := by decide +kernel
theorem dX6_init_103 : decode cX6_init 103 = .ok (.aload_n 0, 1) := by decide +kernel
theorem dX6_init_104 : decode cX6_init 104 = .ok (.bipush 8, 2) := by decide +kernel
theorem dX6_init_106 : decode cX6_init 106 = .ok (.newarray .int, 2) := by decide +kernel
theorem dX6_init_108 : decode cX6_init 108 = .ok (.putfield 51, 3) := by decide +kernel
theorem dX6_init_111 : decode cX6_init 111 = .ok (.aload_n 0, 1) := by decide +kernel
theorem dX6_init_112 : decode cX6_init 112 = .ok (.bipush 6, 2) := by decide +kernel
theorem dX6_init_114 : decode cX6_init 114 = .ok (.newarray .int, 2) := by decide +kernel
theorem dX6_init_116 : decode cX6_init 116 = .ok (.putfield 54, 3) := by decide +kernel
theorem dX6_init_119 : decode cX6_init 119 = .ok (.aload_n 0, 1) := by decide +kernel
theorem dX6_init_120 : decode cX6_init 120 = .ok (.bipush 6, 2) := by decide +kernel
theorem dX6_init_122 : decode cX6_init 122 = .ok (.newarray .int, 2) := by decide +kernel
theorem dX6_init_124 : decode cX6_init 124 = .ok (.putfield 57, 3) := by decide +kernel
theorem dX6_init_127 : decode cX6_init 127 = .ok (.aload_n 0, 1) := by decide +kernel
theorem dX6_init_128 : decode cX6_init 128 = .ok (.bipush 6, 2) := by decide +kernel
theorem dX6_init_130 : decode cX6_init 130 = .ok (.newarray .int, 2) := by decide +kernel
theorem dX6_init_132 : decode cX6_init 132 = .ok (.putfield 60, 3) := by decide +kernel
theorem dX6_init_135 : decode cX6_init 135 = .ok (.aload_n 0, 1) := by decide +kernel
theorem dX6_init_136 : decode cX6_init 136 = .ok (.bipush 6, 2) := by decide +kernel
theorem dX6_init_138 : decode cX6_init 138 = .ok (.newarray .int, 2) := by decide +kernel
theorem dX6_init_140 : decode cX6_init 140 = .ok (.dup, 1) := by decide +kernel
theorem dX6_init_141 : decode cX6_init 141 = .ok (.iconst 0, 1) := by decide +kernel
theorem dX6_init_142 : decode cX6_init 142 = .ok (.iconst (-1), 1) := by decide +kernel
theorem dX6_init_143 : decode cX6_init 143 = .ok (.iastore, 1) := by decide +kernel
theorem dX6_init_144 : decode cX6_init 144 = .ok (.dup, 1) := by decide +kernel
theorem dX6_init_145 : decode cX6_init 145 = .ok (.iconst 1, 1) := by decide +kernel
theorem dX6_init_146 : decode cX6_init 146 = .ok (.iconst (-1), 1) := by decide +kernel
theorem dX6_init_147 : decode cX6_init 147 = .ok (.iastore, 1) := by decide +kernel
theorem dX6_init_148 : decode cX6_init 148 = .ok (.dup, 1) := by decide +kernel
theorem dX6_init_149 : decode cX6_init 149 = .ok (.iconst 2, 1) := by decide +kernel
theorem dX6_init_150 : decode cX6_init 150 = .ok (.iconst (-1), 1) := by decide +kernel
theorem dX6_init_151 : decode cX6_init 151 = .ok (.iastore, 1) := by decide +kernel
theorem dX6_init_152 : decode cX6_init 152 = .ok (.dup, 1) := by decide +kernel
theorem dX6_init_153 : decode cX6_init 153 = .ok (.iconst 3, 1) := by decide +kernel
theorem dX6_init_154 : decode cX6_init 154 = .ok (.iconst (-1), 1) := by decide +kernel
theorem dX6_init_155 : decode cX6_init 155 = .ok (.iastore, 1) := by decide +kernel
theorem dX6_init_156 : decode cX6_init 156 = .ok (.dup, 1) := by decide +kernel
theorem dX6_init_157 : decode cX6_init 157 = .ok (.iconst 4, 1) := by decide +kernel
theorem dX6_init_158 : decode cX6_init 158 = .ok (.iconst (-1), 1) := by decide +kernel
theorem dX6_init_159 : decode cX6_init 159 = .ok (.iastore, 1) := by decide +kernel
theorem dX6_init_160 : decode cX6_init 160 = .ok (.dup, 1) := by decide +kernel
theorem dX6_init_161 : decode cX6_init 161 = .ok (.iconst 5, 1) := by decide +kernel
theorem dX6_init_162 : decode cX6_init 162 = .ok (.iconst (-1), 1) := by decide +kernel
theorem dX6_init_163 : decode cX6_init 163 = .ok (.iastore, 1) := by decide +kernel
theorem dX6_init_164 : decode cX6_init 164 = .ok (.putfield 63, 3) := by decide +kernel
theorem dX6_init_167 : decode cX6_init 167 = .ok (.aload_n 0, 1) := by decide +kernel
theorem dX6_init_168 : decode cX6_init 168 = .ok (.bipush 6, 2) := by decide +kernel
theorem dX6_init_170 : decode cX6_init 170 = .ok (.newarray .int, 2) := by decide +kernel
theorem dX6_init_172 : decode cX6_init 172 = .ok (.putfield 66, 3) := by decide +kernel
theorem dX6_init_175 : decode cX6_init 175 = .ok (.aload_n 0, 1) := by decide +kernel
theorem dX6_init_176 : decode cX6_init 176 = .ok (.sipush 384, 3) := by decide +kernel
theorem dX6_init_179 : decode cX6_init 179 = .ok (.newarray .int, 2) := by decide +kernel
theorem dX6_init_181 : decode cX6_init 181 = .ok (.putfield 69, 3) := by decide +kernel
theorem dX6_init_184 : decode cX6_init 184 = .ok (.aload_n 0, 1) := by decide +kernel
theorem dX6_init_185 : decode cX6_init 185 = .ok (.bipush 64, 2) := by decide +kernel
theorem dX6_init_187 : decode cX6_init 187 = .ok (.newarray .int, 2) := by decide +kernel
theorem dX6_init_189 : decode cX6_init 189 = .ok (.putfield 72, 3) := by decide +kernel
theorem dX6_init_192 : decode cX6_init 192 = .ok (.return_, 1) := by decide +kernel
theorem dX6_in_0 : decode cX6_in 0 = .ok (.lload_n 0, 1) := by decide +kernel
theorem dX6_in_1 : decode cX6_in 1 = .ok (.lload_n 2, 1) := by decide +kernel
theorem dX6_in_2 : decode cX6_in 2 = .ok (.lcmp, 1) := by decide +kernel
theorem dX6_in_3 : decode cX6_in 3 = .ok (.ifCond .lt 14, 3) := by decide +kernel
theorem dX6_in_6 : decode cX6_in 6 = .ok (.lload_n 0, 1) := by decide +kernel
theorem dX6_in_7 : decode cX6_in 7 = .ok (.lload 4, 2) := by decide +kernel
theorem dX6_in_9 : decode cX6_in 9 = .ok (.lcmp, 1) := by decide +kernel
theorem dX6_in_10 : decode cX6_in 10 = .ok (.ifCond .gt 7, 3) := by decide +kernel
theorem dX6_in_13 : decode cX6_in 13 = .ok (.iconst 1, 1) := by decide +kernel
theorem dX6_in_14 : decode cX6_in 14 = .ok (.goto 4, 3) := by decide +kernel
theorem dX6_in_17 : decode cX6_in 17 = .ok (.iconst 0, 1) := by decide +kernel
theorem dX6_in_18 : decode cX6_in 18 = .ok (.ireturn, 1) := by decide +kernel
theorem dX6_finds_0 : decode cX6_finds 0 = .ok (.aload_n 0, 1) := by decide +kernel
theorem dX6_finds_1 : decode cX6_finds 1 = .ok (.dup, 1) := by decide +kernel
theorem dX6_finds_2 : decode cX6_finds 2 = .ok (.getfield 78, 3) := by decide +kernel
theorem dX6_finds_5 : decode cX6_finds 5 = .ok (.iconst 1, 1) := by decide +kernel
theorem dX6_finds_6 : decode cX6_finds 6 = .ok (.iadd, 1) := by decide +kernel
theorem dX6_finds_7 : decode cX6_finds 7 = .ok (.putfield 78, 3) := by decide +kernel
theorem dX6_finds_10 : decode cX6_finds 10 = .ok (.iload_n 1, 1) := by decide +kernel
theorem dX6_finds_11 : decode cX6_finds 11 = .ok (.ireturn, 1) := by decide +kernel
theorem dX6_floor_0 : decode cX6_floor 0 = .ok (.aload_n 0, 1) := by decide +kernel
theorem dX6_floor_1 : decode cX6_floor 1 = .ok (.getfield 81, 3) := by decide +kernel
theorem dX6_floor_4 : decode cX6_floor 4 = .ok (.aload_n 0, 1) := by decide +kernel
theorem dX6_floor_5 : decode cX6_floor 5 = .ok (.getfield 7, 3) := by decide +kernel
theorem dX6_floor_8 : decode cX6_floor 8 = .ok (.iadd, 1) := by decide +kernel
theorem dX6_floor_9 : decode cX6_floor 9 = .ok (.ireturn, 1) := by decide +kernel
set_option maxRecDepth 20000 in
theorem ggX6_isPlace_X6_in : GoodIn wsX6_isPlace wsX6_in := goodIn_r _ [6] (by decide +kernel) (by decide +kernel)
set_option maxRecDepth 20000 in
theorem gX6_isPlace_X6_in : GoodIn wsX6_isPlace (va_wsS RX6 86 yX6_in wsX6_in) := goodIn_app (goodIn_of _ (by decide +kernel)) ggX6_isPlace_X6_in
set_option maxRecDepth 20000 in
theorem ggX6_isPlace_X6_floor : GoodIn wsX6_isPlace wsX6_floor := goodIn_r _ [10, 2, 11, 12, 13, 14, 15, 16, 17, 18, 19, 20, 21, 22, 23, 24, 25, 26, 27, 28, 29, 30, 31, 32, 33, 34, 35, 36, 37, 38, 39] (by decide +kernel) (by decide +kernel)
set_option maxRecDepth 20000 in
theorem gX6_isPlace_X6_floor : GoodIn wsX6_isPlace (wsV RX6 90 RX6 yX6_floor wsX6_floor) := goodIn_app (goodIn_of _ (by decide +kernel)) ggX6_isPlace_X6_floor
theorem dX6_isPlace_0 : decode cX6_isPlace 0 = .ok (.iload_n 1, 1) := by decide +kernel
theorem dX6_isPlace_1 : decode cX6_isPlace 1 = .ok (.i2l, 1) := by decide +kernel
theorem dX6_isPlace_2 : decode cX6_isPlace 2 = .ok (.lconst 0, 1) := by decide +kernel
theorem dX6_isPlace_3 : decode cX6_isPlace 3 = .ok (.ldc2_w 84, 3) := by decide +kernel
theorem dX6_isPlace_6 : decode cX6_isPlace 6 = .ok (.invokestatic 86, 3) := by decide +kernel
theorem dX6_isPlace_9 : decode cX6_isPlace 9 = .ok (.ifCond .eq 25, 3) := by decide +kernel
theorem dX6_isPlace_12 : decode cX6_isPlace 12 = .ok (.iload_n 2, 1) := by decide +kernel
theorem dX6_isPlace_13 : decode cX6_isPlace 13 = .ok (.i2l, 1) := by decide +kernel
theorem dX6_isPlace_14 : decode cX6_isPlace 14 = .ok (.aload_n 0, 1) := by decide +kernel
theorem dX6_isPlace_15 : decode cX6_isPlace 15 = .ok (.getfield 81, 3) := by decide +kernel
theorem dX6_isPlace_18 : decode cX6_isPlace 18 = .ok (.i2l, 1) := by decide +kernel
theorem dX6_isPlace_19 : decode cX6_isPlace 19 = .ok (.aload_n 0, 1) := by decide +kernel
theorem dX6_isPlace_20 : decode cX6_isPlace 20 = .ok (.invokevirtual 90, 3) := by decide +kernel
theorem dX6_isPlace_23 : decode cX6_isPlace 23 = .ok (.i2l, 1) := by decide +kernel
theorem dX6_isPlace_24 : decode cX6_isPlace 24 = .ok (.invokestatic 86, 3) := by decide +kernel
theorem dX6_isPlace_27 : decode cX6_isPlace 27 = .ok (.ifCond .eq 7, 3) := by decide +kernel
theorem dX6_isPlace_30 : decode cX6_isPlace 30 = .ok (.iconst 1, 1) := by decide +kernel
theorem dX6_isPlace_31 : decode cX6_isPlace 31 = .ok (.goto 4, 3) := by decide +kernel
theorem dX6_isPlace_34 : decode cX6_isPlace 34 = .ok (.iconst 0, 1) := by decide +kernel
theorem dX6_isPlace_35 : decode cX6_isPlace 35 = .ok (.ireturn, 1) := by decide +kernel
set_option maxRecDepth 20000 in
theorem ggX6_noElement_X6_in : GoodIn wsX6_noElement wsX6_in := goodIn_r _ [5] (by decide +kernel) (by decide +kernel)
set_option maxRecDepth 20000 in
theorem gX6_noElement_X6_in : GoodIn wsX6_noElement (va_wsS RX6 86 yX6_in wsX6_in) := goodIn_app (goodIn_of _ (by decide +kernel)) ggX6_noElement_X6_in
theorem dX6_noElement_0 : decode cX6_noElement 0 = .ok (.iload_n 1, 1) := by decide +kernel
theorem dX6_noElement_1 : decode cX6_noElement 1 = .ok (.i2l, 1) := by decide +kernel
theorem dX6_noElement_2 : decode cX6_noElement 2 = .ok (.lconst 0, 1) := by decide +kernel
theorem dX6_noElement_3 : decode cX6_noElement 3 = .ok (.aload_n 0, 1) := by decide +kernel
theorem dX6_noElement_4 : decode cX6_noElement 4 = .ok (.getfield 94, 3) := by decide +kernel
theorem dX6_noElement_7 : decode cX6_noElement 7 = .ok (.iconst 1, 1) := by decide +kernel
theorem dX6_noElement_8 : decode cX6_noElement 8 = .ok (.isub, 1) := by decide +kernel
theorem dX6_noElement_9 : decode cX6_noElement 9 = .ok (.i2l, 1) := by decide +kernel
theorem dX6_noElement_10 : decode cX6_noElement 10 = .ok (.invokestatic 86, 3) := by decide +kernel
theorem dX6_noElement_13 : decode cX6_noElement 13 = .ok (.ifCond .ne 7, 3) := by decide +kernel
theorem dX6_noElement_16 : decode cX6_noElement 16 = .ok (.iconst 1, 1) := by decide +kernel
theorem dX6_noElement_17 : decode cX6_noElement 17 = .ok (.goto 4, 3) := by decide +kernel
theorem dX6_noElement_20 : decode cX6_noElement 20 = .ok (.iconst 0, 1) := by decide +kernel
theorem dX6_noElement_21 : decode cX6_noElement 21 = .ok (.ireturn, 1) := by decide +kernel
theorem dX6_working_0 : decode cX6_working 0 = .ok (.iconst 0, 1) := by decide +kernel
theorem dX6_working_1 : decode cX6_working 1 = .ok (.istore_n 1, 1) := by decide +kernel
theorem dX6_working_2 : decode cX6_working 2 = .ok (.iconst 0, 1) := by decide +kernel
theorem dX6_working_3 : decode cX6_working 3 = .ok (.istore_n 2, 1) := by decide +kernel
theorem dX6_working_4 : decode cX6_working 4 = .ok (.iload_n 2, 1) := by decide +kernel
theorem dX6_working_5 : decode cX6_working 5 = .ok (.aload_n 0, 1) := by decide +kernel
theorem dX6_working_6 : decode cX6_working 6 = .ok (.getfield 94, 3) := by decide +kernel
theorem dX6_working_9 : decode cX6_working 9 = .ok (.if_icmp .ge 26, 3) := by decide +kernel
theorem dX6_working_12 : decode cX6_working 12 = .ok (.iload_n 1, 1) := by decide +kernel
theorem dX6_working_13 : decode cX6_working 13 = .ok (.aload_n 0, 1) := by decide +kernel
theorem dX6_working_14 : decode cX6_working 14 = .ok (.getfield 23, 3) := by decide +kernel
theorem dX6_working_17 : decode cX6_working 17 = .ok (.iload_n 2, 1) := by decide +kernel
theorem dX6_working_18 : decode cX6_working 18 = .ok (.baload, 1) := by decide +kernel
theorem dX6_working_19 : decode cX6_working 19 = .ok (.ifCond .eq 7, 3) := by decide +kernel
theorem dX6_working_22 : decode cX6_working 22 = .ok (.iconst 0, 1) := by decide +kernel
theorem dX6_working_23 : decode cX6_working 23 = .ok (.goto 4, 3) := by decide +kernel
theorem dX6_working_26 : decode cX6_working 26 = .ok (.iconst 1, 1) := by decide +kernel
theorem dX6_working_27 : decode cX6_working 27 = .ok (.iadd, 1) := by decide +kernel
theorem dX6_working_28 : decode cX6_working 28 = .ok (.istore_n 1, 1) := by decide +kernel
theorem dX6_working_29 : decode cX6_working 29 = .ok (.iinc 2 1, 3) := by decide +kernel
theorem dX6_working_32 : decode cX6_working 32 = .ok (.goto (-28), 3) := by decide +kernel
theorem dX6_working_35 : decode cX6_working 35 = .ok (.iload_n 1, 1) := by decide +kernel
theorem dX6_working_36 : decode cX6_working 36 = .ok (.ireturn, 1) := by decide +kernel
theorem dX6_ticks_0 : decode cX6_ticks 0 = .ok (.iload_n 0, 1) := by decide +kernel
theorem dX6_ticks_1 : decode cX6_ticks 1 = .ok (.iload_n 0, 1) := by decide +kernel
theorem dX6_ticks_2 : decode cX6_ticks 2 = .ok (.imul, 1) := by decide +kernel
theorem dX6_ticks_3 : decode cX6_ticks 3 = .ok (.iload_n 1, 1) := by decide +kernel
theorem dX6_ticks_4 : decode cX6_ticks 4 = .ok (.iload_n 1, 1) := by decide +kernel
theorem dX6_ticks_5 : decode cX6_ticks 5 = .ok (.imul, 1) := by decide +kernel
theorem dX6_ticks_6 : decode cX6_ticks 6 = .ok (.iload_n 2, 1) := by decide +kernel
theorem dX6_ticks_7 : decode cX6_ticks 7 = .ok (.iload_n 2, 1) := by decide +kernel
theorem dX6_ticks_8 : decode cX6_ticks 8 = .ok (.imul, 1) := by decide +kernel
theorem dX6_ticks_9 : decode cX6_ticks 9 = .ok (.iadd, 1) := by decide +kernel
theorem dX6_ticks_10 : decode cX6_ticks 10 = .ok (.imul, 1) := by decide +kernel
theorem dX6_ticks_11 : decode cX6_ticks 11 = .ok (.istore_n 3, 1) := by decide +kernel
theorem dX6_ticks_12 : decode cX6_ticks 12 = .ok (.iconst 0, 1) := by decide +kernel
theorem dX6_ticks_13 : decode cX6_ticks 13 = .ok (.istore 4, 2) := by decide +kernel
theorem dX6_ticks_15 : decode cX6_ticks 15 = .ok (.sipush 512, 3) := by decide +kernel
theorem dX6_ticks_18 : decode cX6_ticks 18 = .ok (.istore 5, 2) := by decide +kernel
theorem dX6_ticks_20 : decode cX6_ticks 20 = .ok (.iload 5, 2) := by decide +kernel
theorem dX6_ticks_22 : decode cX6_ticks 22 = .ok (.ifCond .le 38, 3) := by decide +kernel
theorem dX6_ticks_25 : decode cX6_ticks 25 = .ok (.iload 4, 2) := by decide +kernel
theorem dX6_ticks_27 : decode cX6_ticks 27 = .ok (.iload 4, 2) := by decide +kernel
theorem dX6_ticks_29 : decode cX6_ticks 29 = .ok (.iload 5, 2) := by decide +kernel
theorem dX6_ticks_31 : decode cX6_ticks 31 = .ok (.iadd, 1) := by decide +kernel
theorem dX6_ticks_32 : decode cX6_ticks 32 = .ok (.iload 4, 2) := by decide +kernel
theorem dX6_ticks_34 : decode cX6_ticks 34 = .ok (.iload 5, 2) := by decide +kernel
theorem dX6_ticks_36 : decode cX6_ticks 36 = .ok (.iadd, 1) := by decide +kernel
theorem dX6_ticks_37 : decode cX6_ticks 37 = .ok (.imul, 1) := by decide +kernel
theorem dX6_ticks_38 : decode cX6_ticks 38 = .ok (.iload_n 3, 1) := by decide +kernel
theorem dX6_ticks_39 : decode cX6_ticks 39 = .ok (.if_icmp .gt 8, 3) := by decide +kernel
theorem dX6_ticks_42 : decode cX6_ticks 42 = .ok (.iload 5, 2) := by decide +kernel
theorem dX6_ticks_44 : decode cX6_ticks 44 = .ok (.goto 4, 3) := by decide +kernel
theorem dX6_ticks_47 : decode cX6_ticks 47 = .ok (.iconst 0, 1) := by decide +kernel
theorem dX6_ticks_48 : decode cX6_ticks 48 = .ok (.iadd, 1) := by decide +kernel
theorem dX6_ticks_49 : decode cX6_ticks 49 = .ok (.istore 4, 2) := by decide +kernel
theorem dX6_ticks_51 : decode cX6_ticks 51 = .ok (.iload 5, 2) := by decide +kernel
theorem dX6_ticks_53 : decode cX6_ticks 53 = .ok (.iconst 1, 1) := by decide +kernel
theorem dX6_ticks_54 : decode cX6_ticks 54 = .ok (.ishr, 1) := by decide +kernel
theorem dX6_ticks_55 : decode cX6_ticks 55 = .ok (.istore 5, 2) := by decide +kernel
theorem dX6_ticks_57 : decode cX6_ticks 57 = .ok (.goto (-37), 3) := by decide +kernel
theorem dX6_ticks_60 : decode cX6_ticks 60 = .ok (.iload 4, 2) := by decide +kernel
theorem dX6_ticks_62 : decode cX6_ticks 62 = .ok (.ireturn, 1) := by decide +kernel
theorem dX6_unmake_0 : decode cX6_unmake 0 = .ok (.iconst 0, 1) := by decide +kernel
theorem dX6_unmake_1 : decode cX6_unmake 1 = .ok (.istore_n 1, 1) := by decide +kernel
theorem dX6_unmake_2 : decode cX6_unmake 2 = .ok (.iload_n 1, 1) := by decide +kernel
theorem dX6_unmake_3 : decode cX6_unmake 3 = .ok (.sipush 408, 3) := by decide +kernel
theorem dX6_unmake_6 : decode cX6_unmake 6 = .ok (.if_icmp .ge 16, 3) := by decide +kernel
theorem dX6_unmake_9 : decode cX6_unmake 9 = .ok (.aload_n 0, 1) := by decide +kernel
theorem dX6_unmake_10 : decode cX6_unmake 10 = .ok (.getfield 48, 3) := by decide +kernel
theorem dX6_unmake_13 : decode cX6_unmake 13 = .ok (.iload_n 1, 1) := by decide +kernel
theorem dX6_unmake_14 : decode cX6_unmake 14 = .ok (.iconst 0, 1) := by decide +kernel
theorem dX6_unmake_15 : decode cX6_unmake 15 = .ok (.bastore, 1) := by decide +kernel
theorem dX6_unmake_16 : decode cX6_unmake 16 = .ok (.iinc 1 1, 3) := by decide +kernel
theorem dX6_unmake_19 : decode cX6_unmake 19 = .ok (.goto (-17), 3) := by decide +kernel
theorem dX6_unmake_22 : decode cX6_unmake 22 = .ok (.return_, 1) := by decide +kernel
set_option maxRecDepth 20000 in
theorem ggX6_make_X6_ticks : GoodIn wsX6_make wsX6_ticks := goodIn_r _ [11] (by decide +kernel) (by decide +kernel)
set_option maxRecDepth 20000 in
theorem gX6_make_X6_ticks : GoodIn wsX6_make (va_wsS RX6 97 yX6_ticks wsX6_ticks) := goodIn_app (goodIn_of _ (by decide +kernel)) ggX6_make_X6_ticks
theorem dX6_make_0 : decode cX6_make 0 = .ok (.aload_n 0, 1) := by decide +kernel
theorem dX6_make_1 : decode cX6_make 1 = .ok (.getfield 48, 3) := by decide +kernel
theorem dX6_make_4 : decode cX6_make 4 = .ok (.bipush 51, 2) := by decide +kernel
theorem dX6_make_6 : decode cX6_make 6 = .ok (.iload_n 1, 1) := by decide +kernel
theorem dX6_make_7 : decode cX6_make 7 = .ok (.imul, 1) := by decide +kernel
theorem dX6_make_8 : decode cX6_make 8 = .ok (.iload_n 2, 1) := by decide +kernel
theorem dX6_make_9 : decode cX6_make 9 = .ok (.iadd, 1) := by decide +kernel
theorem dX6_make_10 : decode cX6_make 10 = .ok (.baload, 1) := by decide +kernel
theorem dX6_make_11 : decode cX6_make 11 = .ok (.ifCond .eq 4, 3) := by decide +kernel
theorem dX6_make_14 : decode cX6_make 14 = .ok (.return_, 1) := by decide +kernel
theorem dX6_make_15 : decode cX6_make 15 = .ok (.aload_n 0, 1) := by decide +kernel
theorem dX6_make_16 : decode cX6_make 16 = .ok (.getfield 48, 3) := by decide +kernel
theorem dX6_make_19 : decode cX6_make 19 = .ok (.bipush 51, 2) := by decide +kernel
theorem dX6_make_21 : decode cX6_make 21 = .ok (.iload_n 1, 1) := by decide +kernel
theorem dX6_make_22 : decode cX6_make 22 = .ok (.imul, 1) := by decide +kernel
theorem dX6_make_23 : decode cX6_make 23 = .ok (.iload_n 2, 1) := by decide +kernel
theorem dX6_make_24 : decode cX6_make 24 = .ok (.iadd, 1) := by decide +kernel
theorem dX6_make_25 : decode cX6_make 25 = .ok (.iconst 1, 1) := by decide +kernel
theorem dX6_make_26 : decode cX6_make 26 = .ok (.bastore, 1) := by decide +kernel
theorem dX6_make_27 : decode cX6_make 27 = .ok (.iconst 0, 1) := by decide +kernel
theorem dX6_make_28 : decode cX6_make 28 = .ok (.istore_n 3, 1) := by decide +kernel
theorem dX6_make_29 : decode cX6_make 29 = .ok (.iload_n 3, 1) := by decide +kernel
theorem dX6_make_30 : decode cX6_make 30 = .ok (.bipush 51, 2) := by decide +kernel
theorem dX6_make_32 : decode cX6_make 32 = .ok (.if_icmp .ge 113, 3) := by decide +kernel
theorem dX6_make_35 : decode cX6_make 35 = .ok (.bipush 51, 2) := by decide +kernel
theorem dX6_make_37 : decode cX6_make 37 = .ok (.bipush 51, 2) := by decide +kernel
theorem dX6_make_39 : decode cX6_make 39 = .ok (.iload_n 1, 1) := by decide +kernel
theorem dX6_make_40 : decode cX6_make 40 = .ok (.imul, 1) := by decide +kernel
theorem dX6_make_41 : decode cX6_make 41 = .ok (.iload_n 2, 1) := by decide +kernel
theorem dX6_make_42 : decode cX6_make 42 = .ok (.iadd, 1) := by decide +kernel
theorem dX6_make_43 : decode cX6_make 43 = .ok (.imul, 1) := by decide +kernel
theorem dX6_make_44 : decode cX6_make 44 = .ok (.iload_n 3, 1) := by decide +kernel
theorem dX6_make_45 : decode cX6_make 45 = .ok (.iadd, 1) := by decide +kernel
theorem dX6_make_46 : decode cX6_make 46 = .ok (.istore 4, 2) := by decide +kernel
theorem dX6_make_48 : decode cX6_make 48 = .ok (.iconst 0, 1) := by decide +kernel
theorem dX6_make_49 : decode cX6_make 49 = .ok (.istore 5, 2) := by decide +kernel
theorem dX6_make_51 : decode cX6_make 51 = .ok (.iload 5, 2) := by decide +kernel
theorem dX6_make_53 : decode cX6_make 53 = .ok (.bipush 51, 2) := by decide +kernel
theorem dX6_make_55 : decode cX6_make 55 = .ok (.if_icmp .ge 84, 3) := by decide +kernel
theorem dX6_make_58 : decode cX6_make 58 = .ok (.aload_n 0, 1) := by decide +kernel
theorem dX6_make_59 : decode cX6_make 59 = .ok (.getfield 13, 3) := by decide +kernel
theorem dX6_make_62 : decode cX6_make 62 = .ok (.iload 5, 2) := by decide +kernel
theorem dX6_make_64 : decode cX6_make 64 = .ok (.aload_n 0, 1) := by decide +kernel
theorem dX6_make_65 : decode cX6_make 65 = .ok (.getfield 19, 3) := by decide +kernel
theorem dX6_make_68 : decode cX6_make 68 = .ok (.iload_n 1, 1) := by decide +kernel
theorem dX6_make_69 : decode cX6_make 69 = .ok (.iaload, 1) := by decide +kernel
theorem dX6_make_70 : decode cX6_make 70 = .ok (.isub, 1) := by decide +kernel
theorem dX6_make_71 : decode cX6_make 71 = .ok (.aload_n 0, 1) := by decide +kernel
theorem dX6_make_72 : decode cX6_make 72 = .ok (.getfield 81, 3) := by decide +kernel
theorem dX6_make_75 : decode cX6_make 75 = .ok (.invokestatic 97, 3) := by decide +kernel
theorem dX6_make_78 : decode cX6_make 78 = .ok (.aload_n 0, 1) := by decide +kernel
theorem dX6_make_79 : decode cX6_make 79 = .ok (.getfield 16, 3) := by decide +kernel
theorem dX6_make_82 : decode cX6_make 82 = .ok (.iload_n 3, 1) := by decide +kernel
theorem dX6_make_83 : decode cX6_make 83 = .ok (.iload 5, 2) := by decide +kernel
theorem dX6_make_85 : decode cX6_make 85 = .ok (.isub, 1) := by decide +kernel
theorem dX6_make_86 : decode cX6_make 86 = .ok (.iload_n 2, 1) := by decide +kernel
theorem dX6_make_87 : decode cX6_make 87 = .ok (.aload_n 0, 1) := by decide +kernel
theorem dX6_make_88 : decode cX6_make 88 = .ok (.getfield 81, 3) := by decide +kernel
theorem dX6_make_91 : decode cX6_make 91 = .ok (.isub, 1) := by decide +kernel
theorem dX6_make_92 : decode cX6_make 92 = .ok (.invokestatic 97, 3) := by decide +kernel
theorem dX6_make_95 : decode cX6_make 95 = .ok (.iadd, 1) := by decide +kernel
theorem dX6_make_96 : decode cX6_make 96 = .ok (.istore 6, 2) := by decide +kernel
theorem dX6_make_98 : decode cX6_make 98 = .ok (.iload 5, 2) := by decide +kernel
theorem dX6_make_100 : decode cX6_make 100 = .ok (.ifCond .eq 15, 3) := by decide +kernel
theorem dX6_make_103 : decode cX6_make 103 = .ok (.iload 6, 2) := by decide +kernel
theorem dX6_make_105 : decode cX6_make 105 = .ok (.aload_n 0, 1) := by decide +kernel
theorem dX6_make_106 : decode cX6_make 106 = .ok (.getfield 42, 3) := by decide +kernel
theorem dX6_make_109 : decode cX6_make 109 = .ok (.iload 4, 2) := by decide +kernel
theorem dX6_make_111 : decode cX6_make 111 = .ok (.iaload, 1) := by decide +kernel
theorem dX6_make_112 : decode cX6_make 112 = .ok (.if_icmp .ge 21, 3) := by decide +kernel
theorem dX6_make_115 : decode cX6_make 115 = .ok (.aload_n 0, 1) := by decide +kernel
theorem dX6_make_116 : decode cX6_make 116 = .ok (.getfield 42, 3) := by decide +kernel
theorem dX6_make_119 : decode cX6_make 119 = .ok (.iload 4, 2) := by decide +kernel
theorem dX6_make_121 : decode cX6_make 121 = .ok (.iload 6, 2) := by decide +kernel
theorem dX6_make_123 : decode cX6_make 123 = .ok (.iastore, 1) := by decide +kernel
theorem dX6_make_124 : decode cX6_make 124 = .ok (.aload_n 0, 1) := by decide +kernel
theorem dX6_make_125 : decode cX6_make 125 = .ok (.getfield 45, 3) := by decide +kernel
theorem dX6_make_128 : decode cX6_make 128 = .ok (.iload 4, 2) := by decide +kernel
theorem dX6_make_130 : decode cX6_make 130 = .ok (.iload 5, 2) := by decide +kernel
theorem dX6_make_132 : decode cX6_make 132 = .ok (.iastore, 1) := by decide +kernel
theorem dX6_make_133 : decode cX6_make 133 = .ok (.iinc 5 1, 3) := by decide +kernel
theorem dX6_make_136 : decode cX6_make 136 = .ok (.goto (-85), 3) := by decide +kernel
theorem dX6_make_139 : decode cX6_make 139 = .ok (.iinc 3 1, 3) := by decide +kernel
theorem dX6_make_142 : decode cX6_make 142 = .ok (.goto (-113), 3) := by decide +kernel
theorem dX6_make_145 : decode cX6_make 145 = .ok (.return_, 1) := by decide +kernel
set_option maxRecDepth 20000 in
theorem ggX6_timeOf_X6_make : GoodIn wsX6_timeOf wsX6_make := goodIn_r _ [6, 7, 8, 9, 10, 11, 1, 12, 13, 14, 5, 15, 16, 17, 18, 19, 20, 21, 22, 23, 24, 25, 26, 27, 28, 29, 30, 31, 32, 33, 34, 35, 36, 37, 38, 39, 40, 41, 42, 43] (by decide +kernel) (by decide +kernel)
set_option maxRecDepth 20000 in
theorem gX6_timeOf_X6_make : GoodIn wsX6_timeOf (wsV RX6 101 RX6 yX6_make wsX6_make) := goodIn_app (goodIn_of _ (by decide +kernel)) ggX6_timeOf_X6_make
theorem dX6_timeOf_0 : decode cX6_timeOf 0 = .ok (.aload_n 0, 1) := by decide +kernel
theorem dX6_timeOf_1 : decode cX6_timeOf 1 = .ok (.iload_n 1, 1) := by decide +kernel
theorem dX6_timeOf_2 : decode cX6_timeOf 2 = .ok (.iload_n 3, 1) := by decide +kernel
theorem dX6_timeOf_3 : decode cX6_timeOf 3 = .ok (.invokevirtual 101, 3) := by decide +kernel
theorem dX6_timeOf_6 : decode cX6_timeOf 6 = .ok (.aload_n 0, 1) := by decide +kernel
theorem dX6_timeOf_7 : decode cX6_timeOf 7 = .ok (.getfield 42, 3) := by decide +kernel
theorem dX6_timeOf_10 : decode cX6_timeOf 10 = .ok (.bipush 51, 2) := by decide +kernel
theorem dX6_timeOf_12 : decode cX6_timeOf 12 = .ok (.bipush 51, 2) := by decide +kernel
theorem dX6_timeOf_14 : decode cX6_timeOf 14 = .ok (.iload_n 1, 1) := by decide +kernel
theorem dX6_timeOf_15 : decode cX6_timeOf 15 = .ok (.imul, 1) := by decide +kernel
theorem dX6_timeOf_16 : decode cX6_timeOf 16 = .ok (.iload_n 3, 1) := by decide +kernel
theorem dX6_timeOf_17 : decode cX6_timeOf 17 = .ok (.iadd, 1) := by decide +kernel
theorem dX6_timeOf_18 : decode cX6_timeOf 18 = .ok (.imul, 1) := by decide +kernel
theorem dX6_timeOf_19 : decode cX6_timeOf 19 = .ok (.iload_n 2, 1) := by decide +kernel
theorem dX6_timeOf_20 : decode cX6_timeOf 20 = .ok (.iadd, 1) := by decide +kernel
theorem dX6_timeOf_21 : decode cX6_timeOf 21 = .ok (.iaload, 1) := by decide +kernel
theorem dX6_timeOf_22 : decode cX6_timeOf 22 = .ok (.ireturn, 1) := by decide +kernel
set_option maxRecDepth 20000 in
theorem ggX6_least_X6_timeOf : GoodIn wsX6_least wsX6_timeOf := goodIn_r _ [5, 6, 7, 8, 9, 4, 10, 11, 12, 13, 14, 15, 16, 17, 18, 19, 20, 21, 22, 23, 24, 25, 26, 27, 28, 29, 30, 31, 32, 33, 34, 35, 36, 37, 38, 39, 40, 41, 42, 43, 44, 45, 46, 47] (by decide +kernel) (by decide +kernel)
set_option maxRecDepth 20000 in
theorem gX6_least_X6_timeOf : GoodIn wsX6_least (wsV RX6 105 RX6 yX6_timeOf wsX6_timeOf) := goodIn_app (goodIn_of _ (by decide +kernel)) ggX6_least_X6_timeOf
theorem dX6_least_0 : decode cX6_least 0 = .ok (.aload_n 0, 1) := by decide +kernel
theorem dX6_least_1 : decode cX6_least 1 = .ok (.iload_n 1, 1) := by decide +kernel
theorem dX6_least_2 : decode cX6_least 2 = .ok (.iload_n 3, 1) := by decide +kernel
theorem dX6_least_3 : decode cX6_least 3 = .ok (.iload 5, 2) := by decide +kernel
theorem dX6_least_5 : decode cX6_least 5 = .ok (.invokevirtual 105, 3) := by decide +kernel
theorem dX6_least_8 : decode cX6_least 8 = .ok (.aload_n 0, 1) := by decide +kernel
theorem dX6_least_9 : decode cX6_least 9 = .ok (.iload_n 2, 1) := by decide +kernel
theorem dX6_least_10 : decode cX6_least 10 = .ok (.iload_n 3, 1) := by decide +kernel
theorem dX6_least_11 : decode cX6_least 11 = .ok (.iload 5, 2) := by decide +kernel
theorem dX6_least_13 : decode cX6_least 13 = .ok (.invokevirtual 105, 3) := by decide +kernel
theorem dX6_least_16 : decode cX6_least 16 = .ok (.iadd, 1) := by decide +kernel
theorem dX6_least_17 : decode cX6_least 17 = .ok (.istore 6, 2) := by decide +kernel
theorem dX6_least_19 : decode cX6_least 19 = .ok (.iload_n 3, 1) := by decide +kernel
theorem dX6_least_20 : decode cX6_least 20 = .ok (.iconst 1, 1) := by decide +kernel
theorem dX6_least_21 : decode cX6_least 21 = .ok (.iadd, 1) := by decide +kernel
theorem dX6_least_22 : decode cX6_least 22 = .ok (.istore 7, 2) := by decide +kernel
theorem dX6_least_24 : decode cX6_least 24 = .ok (.iload 7, 2) := by decide +kernel
theorem dX6_least_26 : decode cX6_least 26 = .ok (.iload 4, 2) := by decide +kernel
theorem dX6_least_28 : decode cX6_least 28 = .ok (.if_icmp .gt 46, 3) := by decide +kernel
theorem dX6_least_31 : decode cX6_least 31 = .ok (.aload_n 0, 1) := by decide +kernel
theorem dX6_least_32 : decode cX6_least 32 = .ok (.iload_n 1, 1) := by decide +kernel
theorem dX6_least_33 : decode cX6_least 33 = .ok (.iload 7, 2) := by decide +kernel
theorem dX6_least_35 : decode cX6_least 35 = .ok (.iload 5, 2) := by decide +kernel
theorem dX6_least_37 : decode cX6_least 37 = .ok (.invokevirtual 105, 3) := by decide +kernel
theorem dX6_least_40 : decode cX6_least 40 = .ok (.aload_n 0, 1) := by decide +kernel
theorem dX6_least_41 : decode cX6_least 41 = .ok (.iload_n 2, 1) := by decide +kernel
theorem dX6_least_42 : decode cX6_least 42 = .ok (.iload 7, 2) := by decide +kernel
theorem dX6_least_44 : decode cX6_least 44 = .ok (.iload 5, 2) := by decide +kernel
theorem dX6_least_46 : decode cX6_least 46 = .ok (.invokevirtual 105, 3) := by decide +kernel
theorem dX6_least_49 : decode cX6_least 49 = .ok (.iadd, 1) := by decide +kernel
theorem dX6_least_50 : decode cX6_least 50 = .ok (.istore 8, 2) := by decide +kernel
theorem dX6_least_52 : decode cX6_least 52 = .ok (.iload 8, 2) := by decide +kernel
theorem dX6_least_54 : decode cX6_least 54 = .ok (.iload 6, 2) := by decide +kernel
theorem dX6_least_56 : decode cX6_least 56 = .ok (.if_icmp .ge 8, 3) := by decide +kernel
theorem dX6_least_59 : decode cX6_least 59 = .ok (.iload 8, 2) := by decide +kernel
theorem dX6_least_61 : decode cX6_least 61 = .ok (.goto 5, 3) := by decide +kernel
theorem dX6_least_64 : decode cX6_least 64 = .ok (.iload 6, 2) := by decide +kernel
theorem dX6_least_66 : decode cX6_least 66 = .ok (.istore 6, 2) := by decide +kernel
theorem dX6_least_68 : decode cX6_least 68 = .ok (.iinc 7 1, 3) := by decide +kernel
theorem dX6_least_71 : decode cX6_least 71 = .ok (.goto (-47), 3) := by decide +kernel
theorem dX6_least_74 : decode cX6_least 74 = .ok (.iload 6, 2) := by decide +kernel
theorem dX6_least_76 : decode cX6_least 76 = .ok (.ireturn, 1) := by decide +kernel
set_option maxRecDepth 20000 in
theorem ggX6_depthOf_X6_floor : GoodIn wsX6_depthOf wsX6_floor := goodIn_r _ [7, 8, 9, 10, 11, 12, 13, 14, 15, 16, 17, 18, 19, 20, 21, 22, 23, 24, 25, 26, 27, 28, 29, 30, 31, 32, 33, 34, 35, 36, 37] (by decide +kernel) (by decide +kernel)
set_option maxRecDepth 20000 in
theorem gX6_depthOf_X6_floor : GoodIn wsX6_depthOf (wsV RX6 90 RX6 yX6_floor wsX6_floor) := goodIn_app (goodIn_of _ (by decide +kernel)) ggX6_depthOf_X6_floor
theorem dX6_depthOf_0 : decode cX6_depthOf 0 = .ok (.aload_n 0, 1) := by decide +kernel
theorem dX6_depthOf_1 : decode cX6_depthOf 1 = .ok (.getfield 27, 3) := by decide +kernel
theorem dX6_depthOf_4 : decode cX6_depthOf 4 = .ok (.iload_n 1, 1) := by decide +kernel
theorem dX6_depthOf_5 : decode cX6_depthOf 5 = .ok (.iaload, 1) := by decide +kernel
theorem dX6_depthOf_6 : decode cX6_depthOf 6 = .ok (.iconst 2, 1) := by decide +kernel
theorem dX6_depthOf_7 : decode cX6_depthOf 7 = .ok (.if_icmp .ne 10, 3) := by decide +kernel
theorem dX6_depthOf_10 : decode cX6_depthOf 10 = .ok (.aload_n 0, 1) := by decide +kernel
theorem dX6_depthOf_11 : decode cX6_depthOf 11 = .ok (.invokevirtual 90, 3) := by decide +kernel
theorem dX6_depthOf_14 : decode cX6_depthOf 14 = .ok (.goto 9, 3) := by decide +kernel
theorem dX6_depthOf_17 : decode cX6_depthOf 17 = .ok (.aload_n 0, 1) := by decide +kernel
theorem dX6_depthOf_18 : decode cX6_depthOf 18 = .ok (.getfield 36, 3) := by decide +kernel
theorem dX6_depthOf_21 : decode cX6_depthOf 21 = .ok (.iload_n 1, 1) := by decide +kernel
theorem dX6_depthOf_22 : decode cX6_depthOf 22 = .ok (.iaload, 1) := by decide +kernel
theorem dX6_depthOf_23 : decode cX6_depthOf 23 = .ok (.ireturn, 1) := by decide +kernel
set_option maxRecDepth 20000 in
theorem ggX6_echoOf_X6_depthOf : GoodIn wsX6_echoOf wsX6_depthOf := goodIn_r _ [7, 8, 9, 10, 11, 12, 6, 13, 14, 15, 37, 38, 39, 40, 41, 42, 43, 44, 45, 46, 47, 48, 49, 50, 51, 52, 53, 54, 55, 56, 57, 58, 59, 60, 61, 62, 63, 64] (by decide +kernel) (by decide +kernel)
set_option maxRecDepth 20000 in
theorem gX6_echoOf_X6_depthOf : GoodIn wsX6_echoOf (wsV RX6 108 RX6 yX6_depthOf wsX6_depthOf) := goodIn_app (goodIn_of _ (by decide +kernel)) ggX6_echoOf_X6_depthOf
set_option maxRecDepth 20000 in
theorem ggX6_echoOf_X6_least : GoodIn wsX6_echoOf wsX6_least := goodIn_r _ [19, 20, 21, 22, 6, 23, 24, 25, 26, 27, 28, 29, 30, 31, 14, 32, 33, 34, 35, 36, 37, 38, 39, 40, 41, 42, 43, 44, 45, 46, 47, 48, 49, 50, 51, 52, 53, 54, 55, 56, 57, 58, 59, 60, 61, 62, 63, 64] (by decide +kernel) (by decide +kernel)
set_option maxRecDepth 20000 in
theorem gX6_echoOf_X6_least : GoodIn wsX6_echoOf (wsV RX6 112 RX6 yX6_least wsX6_least) := goodIn_app (goodIn_of _ (by decide +kernel)) ggX6_echoOf_X6_least
theorem dX6_echoOf_0 : decode cX6_echoOf 0 = .ok (.aload_n 0, 1) := by decide +kernel
theorem dX6_echoOf_1 : decode cX6_echoOf 1 = .ok (.iload_n 1, 1) := by decide +kernel
theorem dX6_echoOf_2 : decode cX6_echoOf 2 = .ok (.iload_n 2, 1) := by decide +kernel
theorem dX6_echoOf_3 : decode cX6_echoOf 3 = .ok (.aload_n 0, 1) := by decide +kernel
theorem dX6_echoOf_4 : decode cX6_echoOf 4 = .ok (.getfield 30, 3) := by decide +kernel
theorem dX6_echoOf_7 : decode cX6_echoOf 7 = .ok (.iload_n 3, 1) := by decide +kernel
theorem dX6_echoOf_8 : decode cX6_echoOf 8 = .ok (.iaload, 1) := by decide +kernel
theorem dX6_echoOf_9 : decode cX6_echoOf 9 = .ok (.aload_n 0, 1) := by decide +kernel
theorem dX6_echoOf_10 : decode cX6_echoOf 10 = .ok (.getfield 33, 3) := by decide +kernel
theorem dX6_echoOf_13 : decode cX6_echoOf 13 = .ok (.iload_n 3, 1) := by decide +kernel
theorem dX6_echoOf_14 : decode cX6_echoOf 14 = .ok (.iaload, 1) := by decide +kernel
theorem dX6_echoOf_15 : decode cX6_echoOf 15 = .ok (.aload_n 0, 1) := by decide +kernel
theorem dX6_echoOf_16 : decode cX6_echoOf 16 = .ok (.iload_n 3, 1) := by decide +kernel
theorem dX6_echoOf_17 : decode cX6_echoOf 17 = .ok (.invokevirtual 108, 3) := by decide +kernel
theorem dX6_echoOf_20 : decode cX6_echoOf 20 = .ok (.invokevirtual 112, 3) := by decide +kernel
theorem dX6_echoOf_23 : decode cX6_echoOf 23 = .ok (.ireturn, 1) := by decide +kernel
set_option maxRecDepth 20000 in
theorem ggX6_echoAt_X6_echoOf : GoodIn wsX6_echoAt wsX6_echoOf := goodIn_r _ [8, 9, 10, 11, 12, 13, 7, 14, 15, 16, 17, 18, 19, 20, 21, 22, 23, 24, 25, 26, 27, 28, 29, 30, 31, 32, 33, 34, 35, 36, 37, 38, 39, 40, 41, 42, 43, 44, 45, 46, 47, 48, 49, 50, 51, 52, 53, 54, 55, 56, 57, 58, 59, 60, 61, 62, 63, 64, 65, 66, 67, 68, 69, 70, 71] (by decide +kernel) (by decide +kernel)
set_option maxRecDepth 20000 in
theorem gX6_echoAt_X6_echoOf : GoodIn wsX6_echoAt (wsV RX6 119 RX6 yX6_echoOf wsX6_echoOf) := goodIn_app (goodIn_of _ (by decide +kernel)) ggX6_echoAt_X6_echoOf
theorem dX6_echoAt_0 : decode cX6_echoAt 0 = .ok (.iconst 0, 1) := by decide +kernel
theorem dX6_echoAt_1 : decode cX6_echoAt 1 = .ok (.istore 5, 2) := by decide +kernel
theorem dX6_echoAt_3 : decode cX6_echoAt 3 = .ok (.iconst 0, 1) := by decide +kernel
theorem dX6_echoAt_4 : decode cX6_echoAt 4 = .ok (.istore 6, 2) := by decide +kernel
theorem dX6_echoAt_6 : decode cX6_echoAt 6 = .ok (.iload 6, 2) := by decide +kernel
theorem dX6_echoAt_8 : decode cX6_echoAt 8 = .ok (.aload_n 0, 1) := by decide +kernel
theorem dX6_echoAt_9 : decode cX6_echoAt 9 = .ok (.getfield 116, 3) := by decide +kernel
theorem dX6_echoAt_12 : decode cX6_echoAt 12 = .ok (.if_icmp .ge 57, 3) := by decide +kernel
theorem dX6_echoAt_15 : decode cX6_echoAt 15 = .ok (.aload_n 0, 1) := by decide +kernel
theorem dX6_echoAt_16 : decode cX6_echoAt 16 = .ok (.getfield 23, 3) := by decide +kernel
theorem dX6_echoAt_19 : decode cX6_echoAt 19 = .ok (.iload_n 1, 1) := by decide +kernel
theorem dX6_echoAt_20 : decode cX6_echoAt 20 = .ok (.baload, 1) := by decide +kernel
theorem dX6_echoAt_21 : decode cX6_echoAt 21 = .ok (.ifCond .ne 48, 3) := by decide +kernel
theorem dX6_echoAt_24 : decode cX6_echoAt 24 = .ok (.aload_n 0, 1) := by decide +kernel
theorem dX6_echoAt_25 : decode cX6_echoAt 25 = .ok (.getfield 23, 3) := by decide +kernel
theorem dX6_echoAt_28 : decode cX6_echoAt 28 = .ok (.iload_n 2, 1) := by decide +kernel
theorem dX6_echoAt_29 : decode cX6_echoAt 29 = .ok (.baload, 1) := by decide +kernel
theorem dX6_echoAt_30 : decode cX6_echoAt 30 = .ok (.ifCond .ne 39, 3) := by decide +kernel
theorem dX6_echoAt_33 : decode cX6_echoAt 33 = .ok (.iload 5, 2) := by decide +kernel
theorem dX6_echoAt_35 : decode cX6_echoAt 35 = .ok (.aload_n 0, 1) := by decide +kernel
theorem dX6_echoAt_36 : decode cX6_echoAt 36 = .ok (.iload_n 1, 1) := by decide +kernel
theorem dX6_echoAt_37 : decode cX6_echoAt 37 = .ok (.iload_n 2, 1) := by decide +kernel
theorem dX6_echoAt_38 : decode cX6_echoAt 38 = .ok (.iload 6, 2) := by decide +kernel
theorem dX6_echoAt_40 : decode cX6_echoAt 40 = .ok (.invokevirtual 119, 3) := by decide +kernel
theorem dX6_echoAt_43 : decode cX6_echoAt 43 = .ok (.i2l, 1) := by decide +kernel
theorem dX6_echoAt_44 : decode cX6_echoAt 44 = .ok (.lload_n 3, 1) := by decide +kernel
theorem dX6_echoAt_45 : decode cX6_echoAt 45 = .ok (.lcmp, 1) := by decide +kernel
theorem dX6_echoAt_46 : decode cX6_echoAt 46 = .ok (.ifCond .ne 13, 3) := by decide +kernel
theorem dX6_echoAt_49 : decode cX6_echoAt 49 = .ok (.aload_n 0, 1) := by decide +kernel
theorem dX6_echoAt_50 : decode cX6_echoAt 50 = .ok (.getfield 39, 3) := by decide +kernel
theorem dX6_echoAt_53 : decode cX6_echoAt 53 = .ok (.iload 6, 2) := by decide +kernel
theorem dX6_echoAt_55 : decode cX6_echoAt 55 = .ok (.iaload, 1) := by decide +kernel
theorem dX6_echoAt_56 : decode cX6_echoAt 56 = .ok (.goto 4, 3) := by decide +kernel
theorem dX6_echoAt_59 : decode cX6_echoAt 59 = .ok (.iconst 0, 1) := by decide +kernel
theorem dX6_echoAt_60 : decode cX6_echoAt 60 = .ok (.iadd, 1) := by decide +kernel
theorem dX6_echoAt_61 : decode cX6_echoAt 61 = .ok (.istore 5, 2) := by decide +kernel
theorem dX6_echoAt_63 : decode cX6_echoAt 63 = .ok (.iinc 6 1, 3) := by decide +kernel
theorem dX6_echoAt_66 : decode cX6_echoAt 66 = .ok (.goto (-60), 3) := by decide +kernel
theorem dX6_echoAt_69 : decode cX6_echoAt 69 = .ok (.iload 5, 2) := by decide +kernel
theorem dX6_echoAt_71 : decode cX6_echoAt 71 = .ok (.ireturn, 1) := by decide +kernel
set_option maxRecDepth 20000 in
theorem ggX6_body_X6_in : GoodIn wsX6_body wsX6_in := goodIn_r _ [16] (by decide +kernel) (by decide +kernel)
set_option maxRecDepth 20000 in
theorem gX6_body_X6_in : GoodIn wsX6_body (va_wsS RX6 86 yX6_in wsX6_in) := goodIn_app (goodIn_of _ (by decide +kernel)) ggX6_body_X6_in
set_option maxRecDepth 20000 in
theorem ggX6_body_X6_unmake : GoodIn wsX6_body wsX6_unmake := goodIn_r _ [20, 21, 26, 27, 28, 29, 30, 31, 32, 33, 34, 35, 36, 37, 38, 39, 40, 41, 42, 43, 44, 45, 46, 47, 48, 49, 50, 51, 52, 53] (by decide +kernel) (by decide +kernel)
set_option maxRecDepth 20000 in
theorem gX6_body_X6_unmake : GoodIn wsX6_body (wsV RX6 132 RX6 yX6_unmake wsX6_unmake) := goodIn_app (goodIn_of _ (by decide +kernel)) ggX6_body_X6_unmake
set_option maxRecDepth 20000 in
theorem ggX6_body_X6_floor : GoodIn wsX6_body wsX6_floor := goodIn_r _ [25, 8, 9, 26, 27, 28, 29, 30, 31, 32, 33, 34, 35, 36, 37, 38, 39, 40, 41, 42, 43, 44, 45, 46, 47, 48, 49, 50, 51, 52, 53] (by decide +kernel) (by decide +kernel)
set_option maxRecDepth 20000 in
theorem gX6_body_X6_floor : GoodIn wsX6_body (wsV RX6 90 RX6 yX6_floor wsX6_floor) := goodIn_app (goodIn_of _ (by decide +kernel)) ggX6_body_X6_floor
theorem dX6_body_0 : decode cX6_body 0 = .ok (.aload_n 0, 1) := by decide +kernel
theorem dX6_body_1 : decode cX6_body 1 = .ok (.iconst 0, 1) := by decide +kernel
theorem dX6_body_2 : decode cX6_body 2 = .ok (.putfield 75, 3) := by decide +kernel
theorem dX6_body_5 : decode cX6_body 5 = .ok (.iload_n 1, 1) := by decide +kernel
theorem dX6_body_6 : decode cX6_body 6 = .ok (.i2l, 1) := by decide +kernel
theorem dX6_body_7 : decode cX6_body 7 = .ok (.lconst 0, 1) := by decide +kernel
theorem dX6_body_8 : decode cX6_body 8 = .ok (.ldc2_w 122, 3) := by decide +kernel
theorem dX6_body_11 : decode cX6_body 11 = .ok (.invokestatic 86, 3) := by decide +kernel
theorem dX6_body_14 : decode cX6_body 14 = .ok (.ifCond .eq 40, 3) := by decide +kernel
theorem dX6_body_17 : decode cX6_body 17 = .ok (.iload_n 2, 1) := by decide +kernel
theorem dX6_body_18 : decode cX6_body 18 = .ok (.i2l, 1) := by decide +kernel
theorem dX6_body_19 : decode cX6_body 19 = .ok (.lconst 1, 1) := by decide +kernel
theorem dX6_body_20 : decode cX6_body 20 = .ok (.ldc2_w 124, 3) := by decide +kernel
theorem dX6_body_23 : decode cX6_body 23 = .ok (.invokestatic 86, 3) := by decide +kernel
theorem dX6_body_26 : decode cX6_body 26 = .ok (.ifCond .eq 28, 3) := by decide +kernel
theorem dX6_body_29 : decode cX6_body 29 = .ok (.iload_n 3, 1) := by decide +kernel
theorem dX6_body_30 : decode cX6_body 30 = .ok (.i2l, 1) := by decide +kernel
theorem dX6_body_31 : decode cX6_body 31 = .ok (.lconst 1, 1) := by decide +kernel
theorem dX6_body_32 : decode cX6_body 32 = .ok (.ldc2_w 126, 3) := by decide +kernel
theorem dX6_body_35 : decode cX6_body 35 = .ok (.invokestatic 86, 3) := by decide +kernel
theorem dX6_body_38 : decode cX6_body 38 = .ok (.ifCond .eq 16, 3) := by decide +kernel
theorem dX6_body_41 : decode cX6_body 41 = .ok (.iload 4, 2) := by decide +kernel
theorem dX6_body_43 : decode cX6_body 43 = .ok (.i2l, 1) := by decide +kernel
theorem dX6_body_44 : decode cX6_body 44 = .ok (.lconst 1, 1) := by decide +kernel
theorem dX6_body_45 : decode cX6_body 45 = .ok (.ldc2_w 126, 3) := by decide +kernel
theorem dX6_body_48 : decode cX6_body 48 = .ok (.invokestatic 86, 3) := by decide +kernel
theorem dX6_body_51 : decode cX6_body 51 = .ok (.ifCond .ne 6, 3) := by decide +kernel
theorem dX6_body_54 : decode cX6_body 54 = .ok (.bipush (-2), 2) := by decide +kernel
theorem dX6_body_56 : decode cX6_body 56 = .ok (.ireturn, 1) := by decide +kernel
theorem dX6_body_57 : decode cX6_body 57 = .ok (.iconst 0, 1) := by decide +kernel
theorem dX6_body_58 : decode cX6_body 58 = .ok (.istore 5, 2) := by decide +kernel
theorem dX6_body_60 : decode cX6_body 60 = .ok (.iload 5, 2) := by decide +kernel
theorem dX6_body_62 : decode cX6_body 62 = .ok (.aload_n 0, 1) := by decide +kernel
theorem dX6_body_63 : decode cX6_body 63 = .ok (.getfield 116, 3) := by decide +kernel
theorem dX6_body_66 : decode cX6_body 66 = .ok (.if_icmp .ge 43, 3) := by decide +kernel
theorem dX6_body_69 : decode cX6_body 69 = .ok (.aload_n 0, 1) := by decide +kernel
theorem dX6_body_70 : decode cX6_body 70 = .ok (.getfield 27, 3) := by decide +kernel
theorem dX6_body_73 : decode cX6_body 73 = .ok (.iload 5, 2) := by decide +kernel
theorem dX6_body_75 : decode cX6_body 75 = .ok (.iaload, 1) := by decide +kernel
theorem dX6_body_76 : decode cX6_body 76 = .ok (.iconst 2, 1) := by decide +kernel
theorem dX6_body_77 : decode cX6_body 77 = .ok (.if_icmp .eq 26, 3) := by decide +kernel
theorem dX6_body_80 : decode cX6_body 80 = .ok (.aload_n 0, 1) := by decide +kernel
theorem dX6_body_81 : decode cX6_body 81 = .ok (.getfield 36, 3) := by decide +kernel
theorem dX6_body_84 : decode cX6_body 84 = .ok (.iload 5, 2) := by decide +kernel
theorem dX6_body_86 : decode cX6_body 86 = .ok (.iaload, 1) := by decide +kernel
theorem dX6_body_87 : decode cX6_body 87 = .ok (.i2l, 1) := by decide +kernel
theorem dX6_body_88 : decode cX6_body 88 = .ok (.iload_n 1, 1) := by decide +kernel
theorem dX6_body_89 : decode cX6_body 89 = .ok (.i2l, 1) := by decide +kernel
theorem dX6_body_90 : decode cX6_body 90 = .ok (.iload_n 1, 1) := by decide +kernel
theorem dX6_body_91 : decode cX6_body 91 = .ok (.iload_n 2, 1) := by decide +kernel
theorem dX6_body_92 : decode cX6_body 92 = .ok (.iadd, 1) := by decide +kernel
theorem dX6_body_93 : decode cX6_body 93 = .ok (.i2l, 1) := by decide +kernel
theorem dX6_body_94 : decode cX6_body 94 = .ok (.invokestatic 86, 3) := by decide +kernel
theorem dX6_body_97 : decode cX6_body 97 = .ok (.ifCond .ne 6, 3) := by decide +kernel
theorem dX6_body_100 : decode cX6_body 100 = .ok (.bipush (-3), 2) := by decide +kernel
theorem dX6_body_102 : decode cX6_body 102 = .ok (.ireturn, 1) := by decide +kernel
theorem dX6_body_103 : decode cX6_body 103 = .ok (.iinc 5 1, 3) := by decide +kernel
theorem dX6_body_106 : decode cX6_body 106 = .ok (.goto (-46), 3) := by decide +kernel
theorem dX6_body_109 : decode cX6_body 109 = .ok (.aload_n 0, 1) := by decide +kernel
theorem dX6_body_110 : decode cX6_body 110 = .ok (.iload_n 1, 1) := by decide +kernel
theorem dX6_body_111 : decode cX6_body 111 = .ok (.putfield 81, 3) := by decide +kernel
theorem dX6_body_114 : decode cX6_body 114 = .ok (.aload_n 0, 1) := by decide +kernel
theorem dX6_body_115 : decode cX6_body 115 = .ok (.iload_n 2, 1) := by decide +kernel
theorem dX6_body_116 : decode cX6_body 116 = .ok (.putfield 7, 3) := by decide +kernel
theorem dX6_body_119 : decode cX6_body 119 = .ok (.aload_n 0, 1) := by decide +kernel
theorem dX6_body_120 : decode cX6_body 120 = .ok (.iload_n 3, 1) := by decide +kernel
theorem dX6_body_121 : decode cX6_body 121 = .ok (.putfield 13, 3) := by decide +kernel
theorem dX6_body_124 : decode cX6_body 124 = .ok (.aload_n 0, 1) := by decide +kernel
theorem dX6_body_125 : decode cX6_body 125 = .ok (.iload 4, 2) := by decide +kernel
theorem dX6_body_127 : decode cX6_body 127 = .ok (.putfield 16, 3) := by decide +kernel
theorem dX6_body_130 : decode cX6_body 130 = .ok (.aload_n 0, 1) := by decide +kernel
theorem dX6_body_131 : decode cX6_body 131 = .ok (.iconst 0, 1) := by decide +kernel
theorem dX6_body_132 : decode cX6_body 132 = .ok (.putfield 128, 3) := by decide +kernel
theorem dX6_body_135 : decode cX6_body 135 = .ok (.aload_n 0, 1) := by decide +kernel
theorem dX6_body_136 : decode cX6_body 136 = .ok (.invokevirtual 132, 3) := by decide +kernel
theorem dX6_body_139 : decode cX6_body 139 = .ok (.aload_n 0, 1) := by decide +kernel
theorem dX6_body_140 : decode cX6_body 140 = .ok (.invokevirtual 90, 3) := by decide +kernel
theorem dX6_body_143 : decode cX6_body 143 = .ok (.ireturn, 1) := by decide +kernel
set_option maxRecDepth 20000 in
theorem ggX6_element_X6_in : GoodIn wsX6_element wsX6_in := goodIn_r _ [10] (by decide +kernel) (by decide +kernel)
set_option maxRecDepth 20000 in
theorem gX6_element_X6_in : GoodIn wsX6_element (va_wsS RX6 86 yX6_in wsX6_in) := goodIn_app (goodIn_of _ (by decide +kernel)) ggX6_element_X6_in
theorem dX6_element_0 : decode cX6_element 0 = .ok (.aload_n 0, 1) := by decide +kernel
theorem dX6_element_1 : decode cX6_element 1 = .ok (.iconst 0, 1) := by decide +kernel
theorem dX6_element_2 : decode cX6_element 2 = .ok (.putfield 75, 3) := by decide +kernel
theorem dX6_element_5 : decode cX6_element 5 = .ok (.iload_n 1, 1) := by decide +kernel
theorem dX6_element_6 : decode cX6_element 6 = .ok (.i2l, 1) := by decide +kernel
theorem dX6_element_7 : decode cX6_element 7 = .ok (.lconst 0, 1) := by decide +kernel
theorem dX6_element_8 : decode cX6_element 8 = .ok (.ldc2_w 84, 3) := by decide +kernel
theorem dX6_element_11 : decode cX6_element 11 = .ok (.invokestatic 86, 3) := by decide +kernel
theorem dX6_element_14 : decode cX6_element 14 = .ok (.ifCond .ne 6, 3) := by decide +kernel
theorem dX6_element_17 : decode cX6_element 17 = .ok (.bipush (-2), 2) := by decide +kernel
theorem dX6_element_19 : decode cX6_element 19 = .ok (.ireturn, 1) := by decide +kernel
theorem dX6_element_20 : decode cX6_element 20 = .ok (.aload_n 0, 1) := by decide +kernel
theorem dX6_element_21 : decode cX6_element 21 = .ok (.getfield 94, 3) := by decide +kernel
theorem dX6_element_24 : decode cX6_element 24 = .ok (.bipush 8, 2) := by decide +kernel
theorem dX6_element_26 : decode cX6_element 26 = .ok (.if_icmp .ne 6, 3) := by decide +kernel
theorem dX6_element_29 : decode cX6_element 29 = .ok (.bipush (-4), 2) := by decide +kernel
theorem dX6_element_31 : decode cX6_element 31 = .ok (.ireturn, 1) := by decide +kernel
theorem dX6_element_32 : decode cX6_element 32 = .ok (.aload_n 0, 1) := by decide +kernel
theorem dX6_element_33 : decode cX6_element 33 = .ok (.getfield 19, 3) := by decide +kernel
theorem dX6_element_36 : decode cX6_element 36 = .ok (.aload_n 0, 1) := by decide +kernel
theorem dX6_element_37 : decode cX6_element 37 = .ok (.getfield 94, 3) := by decide +kernel
theorem dX6_element_40 : decode cX6_element 40 = .ok (.iload_n 1, 1) := by decide +kernel
theorem dX6_element_41 : decode cX6_element 41 = .ok (.iastore, 1) := by decide +kernel
theorem dX6_element_42 : decode cX6_element 42 = .ok (.aload_n 0, 1) := by decide +kernel
theorem dX6_element_43 : decode cX6_element 43 = .ok (.getfield 23, 3) := by decide +kernel
theorem dX6_element_46 : decode cX6_element 46 = .ok (.aload_n 0, 1) := by decide +kernel
theorem dX6_element_47 : decode cX6_element 47 = .ok (.getfield 94, 3) := by decide +kernel
theorem dX6_element_50 : decode cX6_element 50 = .ok (.iconst 0, 1) := by decide +kernel
theorem dX6_element_51 : decode cX6_element 51 = .ok (.bastore, 1) := by decide +kernel
theorem dX6_element_52 : decode cX6_element 52 = .ok (.aload_n 0, 1) := by decide +kernel
theorem dX6_element_53 : decode cX6_element 53 = .ok (.dup, 1) := by decide +kernel
theorem dX6_element_54 : decode cX6_element 54 = .ok (.getfield 94, 3) := by decide +kernel
theorem dX6_element_57 : decode cX6_element 57 = .ok (.iconst 1, 1) := by decide +kernel
theorem dX6_element_58 : decode cX6_element 58 = .ok (.iadd, 1) := by decide +kernel
theorem dX6_element_59 : decode cX6_element 59 = .ok (.putfield 94, 3) := by decide +kernel
theorem dX6_element_62 : decode cX6_element 62 = .ok (.aload_n 0, 1) := by decide +kernel
theorem dX6_element_63 : decode cX6_element 63 = .ok (.iconst 0, 1) := by decide +kernel
theorem dX6_element_64 : decode cX6_element 64 = .ok (.putfield 128, 3) := by decide +kernel
theorem dX6_element_67 : decode cX6_element 67 = .ok (.aload_n 0, 1) := by decide +kernel
theorem dX6_element_68 : decode cX6_element 68 = .ok (.getfield 94, 3) := by decide +kernel
theorem dX6_element_71 : decode cX6_element 71 = .ok (.iconst 1, 1) := by decide +kernel
theorem dX6_element_72 : decode cX6_element 72 = .ok (.isub, 1) := by decide +kernel
theorem dX6_element_73 : decode cX6_element 73 = .ok (.ireturn, 1) := by decide +kernel
set_option maxRecDepth 20000 in
theorem ggX6_lose_X6_noElement : GoodIn wsX6_lose wsX6_noElement := goodIn_r _ [8, 9, 10, 11, 7, 12, 17, 18, 19, 20, 21, 22, 23, 24, 25, 26, 27, 28, 29, 30, 31, 32, 33, 34, 35, 36, 37, 38, 39, 40, 41, 42, 43, 44] (by decide +kernel) (by decide +kernel)
set_option maxRecDepth 20000 in
theorem gX6_lose_X6_noElement : GoodIn wsX6_lose (wsV RX6 135 RX6 yX6_noElement wsX6_noElement) := goodIn_app (goodIn_of _ (by decide +kernel)) ggX6_lose_X6_noElement
set_option maxRecDepth 20000 in
theorem ggX6_lose_X6_working : GoodIn wsX6_lose wsX6_working := goodIn_r _ [16, 9, 2, 17, 18, 19, 20, 21, 22, 23, 24, 25, 26, 27, 28, 29, 30, 31, 32, 33, 34, 35, 36, 37, 38, 39, 40, 41, 42, 43, 44] (by decide +kernel) (by decide +kernel)
set_option maxRecDepth 20000 in
theorem gX6_lose_X6_working : GoodIn wsX6_lose (wsV RX6 139 RX6 yX6_working wsX6_working) := goodIn_app (goodIn_of _ (by decide +kernel)) ggX6_lose_X6_working
theorem dX6_lose_0 : decode cX6_lose 0 = .ok (.aload_n 0, 1) := by decide +kernel
theorem dX6_lose_1 : decode cX6_lose 1 = .ok (.iconst 0, 1) := by decide +kernel
theorem dX6_lose_2 : decode cX6_lose 2 = .ok (.putfield 75, 3) := by decide +kernel
theorem dX6_lose_5 : decode cX6_lose 5 = .ok (.aload_n 0, 1) := by decide +kernel
theorem dX6_lose_6 : decode cX6_lose 6 = .ok (.iload_n 1, 1) := by decide +kernel
theorem dX6_lose_7 : decode cX6_lose 7 = .ok (.invokevirtual 135, 3) := by decide +kernel
theorem dX6_lose_10 : decode cX6_lose 10 = .ok (.ifCond .eq 5, 3) := by decide +kernel
theorem dX6_lose_13 : decode cX6_lose 13 = .ok (.iconst (-1), 1) := by decide +kernel
theorem dX6_lose_14 : decode cX6_lose 14 = .ok (.ireturn, 1) := by decide +kernel
theorem dX6_lose_15 : decode cX6_lose 15 = .ok (.aload_n 0, 1) := by decide +kernel
theorem dX6_lose_16 : decode cX6_lose 16 = .ok (.getfield 23, 3) := by decide +kernel
theorem dX6_lose_19 : decode cX6_lose 19 = .ok (.iload_n 1, 1) := by decide +kernel
theorem dX6_lose_20 : decode cX6_lose 20 = .ok (.iload_n 2, 1) := by decide +kernel
theorem dX6_lose_21 : decode cX6_lose 21 = .ok (.bastore, 1) := by decide +kernel
theorem dX6_lose_22 : decode cX6_lose 22 = .ok (.aload_n 0, 1) := by decide +kernel
theorem dX6_lose_23 : decode cX6_lose 23 = .ok (.iconst 0, 1) := by decide +kernel
theorem dX6_lose_24 : decode cX6_lose 24 = .ok (.putfield 128, 3) := by decide +kernel
theorem dX6_lose_27 : decode cX6_lose 27 = .ok (.aload_n 0, 1) := by decide +kernel
theorem dX6_lose_28 : decode cX6_lose 28 = .ok (.invokevirtual 139, 3) := by decide +kernel
theorem dX6_lose_31 : decode cX6_lose 31 = .ok (.ireturn, 1) := by decide +kernel
set_option maxRecDepth 20000 in
theorem ggX6_target_X6_in : GoodIn wsX6_target wsX6_in := goodIn_r _ [15] (by decide +kernel) (by decide +kernel)
set_option maxRecDepth 20000 in
theorem gX6_target_X6_in : GoodIn wsX6_target (va_wsS RX6 86 yX6_in wsX6_in) := goodIn_app (goodIn_of _ (by decide +kernel)) ggX6_target_X6_in
set_option maxRecDepth 20000 in
theorem ggX6_target_X6_isPlace : GoodIn wsX6_target wsX6_isPlace := goodIn_r _ [19, 3, 20, 12, 13, 14, 15, 21, 22, 23, 24, 25, 26, 27, 28, 29, 30, 31, 32, 33, 34, 35, 36, 37, 38, 39, 40, 41, 42, 43, 44, 45, 46, 47, 48, 49, 50, 51, 52, 53] (by decide +kernel) (by decide +kernel)
set_option maxRecDepth 20000 in
theorem gX6_target_X6_isPlace : GoodIn wsX6_target (wsV RX6 144 RX6 yX6_isPlace wsX6_isPlace) := goodIn_app (goodIn_of _ (by decide +kernel)) ggX6_target_X6_isPlace
theorem dX6_target_0 : decode cX6_target 0 = .ok (.aload_n 0, 1) := by decide +kernel
theorem dX6_target_1 : decode cX6_target 1 = .ok (.iconst 0, 1) := by decide +kernel
theorem dX6_target_2 : decode cX6_target 2 = .ok (.putfield 75, 3) := by decide +kernel
theorem dX6_target_5 : decode cX6_target 5 = .ok (.iload_n 1, 1) := by decide +kernel
theorem dX6_target_6 : decode cX6_target 6 = .ok (.i2l, 1) := by decide +kernel
theorem dX6_target_7 : decode cX6_target 7 = .ok (.lconst 0, 1) := by decide +kernel
theorem dX6_target_8 : decode cX6_target 8 = .ok (.ldc2_w 142, 3) := by decide +kernel
theorem dX6_target_11 : decode cX6_target 11 = .ok (.invokestatic 86, 3) := by decide +kernel
theorem dX6_target_14 : decode cX6_target 14 = .ok (.ifCond .eq 51, 3) := by decide +kernel
theorem dX6_target_17 : decode cX6_target 17 = .ok (.iload_n 1, 1) := by decide +kernel
theorem dX6_target_18 : decode cX6_target 18 = .ok (.iconst 2, 1) := by decide +kernel
theorem dX6_target_19 : decode cX6_target 19 = .ok (.if_icmp .ge 13, 3) := by decide +kernel
theorem dX6_target_22 : decode cX6_target 22 = .ok (.aload_n 0, 1) := by decide +kernel
theorem dX6_target_23 : decode cX6_target 23 = .ok (.iload_n 2, 1) := by decide +kernel
theorem dX6_target_24 : decode cX6_target 24 = .ok (.iload 4, 2) := by decide +kernel
theorem dX6_target_26 : decode cX6_target 26 = .ok (.invokevirtual 144, 3) := by decide +kernel
theorem dX6_target_29 : decode cX6_target 29 = .ok (.ifCond .eq 36, 3) := by decide +kernel
theorem dX6_target_32 : decode cX6_target 32 = .ok (.iload_n 1, 1) := by decide +kernel
theorem dX6_target_33 : decode cX6_target 33 = .ok (.iconst 1, 1) := by decide +kernel
theorem dX6_target_34 : decode cX6_target 34 = .ok (.if_icmp .ne 16, 3) := by decide +kernel
theorem dX6_target_37 : decode cX6_target 37 = .ok (.iload_n 3, 1) := by decide +kernel
theorem dX6_target_38 : decode cX6_target 38 = .ok (.i2l, 1) := by decide +kernel
theorem dX6_target_39 : decode cX6_target 39 = .ok (.iload_n 2, 1) := by decide +kernel
theorem dX6_target_40 : decode cX6_target 40 = .ok (.i2l, 1) := by decide +kernel
theorem dX6_target_41 : decode cX6_target 41 = .ok (.ldc2_w 84, 3) := by decide +kernel
theorem dX6_target_44 : decode cX6_target 44 = .ok (.invokestatic 86, 3) := by decide +kernel
theorem dX6_target_47 : decode cX6_target 47 = .ok (.ifCond .eq 18, 3) := by decide +kernel
theorem dX6_target_50 : decode cX6_target 50 = .ok (.iload 5, 2) := by decide +kernel
theorem dX6_target_52 : decode cX6_target 52 = .ok (.i2l, 1) := by decide +kernel
theorem dX6_target_53 : decode cX6_target 53 = .ok (.ldc2_w 148, 3) := by decide +kernel
theorem dX6_target_56 : decode cX6_target 56 = .ok (.ldc2_w 150, 3) := by decide +kernel
theorem dX6_target_59 : decode cX6_target 59 = .ok (.invokestatic 86, 3) := by decide +kernel
theorem dX6_target_62 : decode cX6_target 62 = .ok (.ifCond .ne 6, 3) := by decide +kernel
theorem dX6_target_65 : decode cX6_target 65 = .ok (.bipush (-2), 2) := by decide +kernel
theorem dX6_target_67 : decode cX6_target 67 = .ok (.ireturn, 1) := by decide +kernel
theorem dX6_target_68 : decode cX6_target 68 = .ok (.aload_n 0, 1) := by decide +kernel
theorem dX6_target_69 : decode cX6_target 69 = .ok (.getfield 116, 3) := by decide +kernel
theorem dX6_target_72 : decode cX6_target 72 = .ok (.bipush 8, 2) := by decide +kernel
theorem dX6_target_74 : decode cX6_target 74 = .ok (.if_icmp .ne 6, 3) := by decide +kernel
theorem dX6_target_77 : decode cX6_target 77 = .ok (.bipush (-4), 2) := by decide +kernel
theorem dX6_target_79 : decode cX6_target 79 = .ok (.ireturn, 1) := by decide +kernel
theorem dX6_target_80 : decode cX6_target 80 = .ok (.aload_n 0, 1) := by decide +kernel
theorem dX6_target_81 : decode cX6_target 81 = .ok (.getfield 27, 3) := by decide +kernel
theorem dX6_target_84 : decode cX6_target 84 = .ok (.aload_n 0, 1) := by decide +kernel
theorem dX6_target_85 : decode cX6_target 85 = .ok (.getfield 116, 3) := by decide +kernel
theorem dX6_target_88 : decode cX6_target 88 = .ok (.iload_n 1, 1) := by decide +kernel
theorem dX6_target_89 : decode cX6_target 89 = .ok (.iastore, 1) := by decide +kernel
theorem dX6_target_90 : decode cX6_target 90 = .ok (.aload_n 0, 1) := by decide +kernel
theorem dX6_target_91 : decode cX6_target 91 = .ok (.getfield 30, 3) := by decide +kernel
theorem dX6_target_94 : decode cX6_target 94 = .ok (.aload_n 0, 1) := by decide +kernel
theorem dX6_target_95 : decode cX6_target 95 = .ok (.getfield 116, 3) := by decide +kernel
theorem dX6_target_98 : decode cX6_target 98 = .ok (.iload_n 1, 1) := by decide +kernel
theorem dX6_target_99 : decode cX6_target 99 = .ok (.iconst 2, 1) := by decide +kernel
theorem dX6_target_100 : decode cX6_target 100 = .ok (.if_icmp .ne 7, 3) := by decide +kernel
theorem dX6_target_103 : decode cX6_target 103 = .ok (.iconst 0, 1) := by decide +kernel
theorem dX6_target_104 : decode cX6_target 104 = .ok (.goto 4, 3) := by decide +kernel
theorem dX6_target_107 : decode cX6_target 107 = .ok (.iload_n 2, 1) := by decide +kernel
theorem dX6_target_108 : decode cX6_target 108 = .ok (.iastore, 1) := by decide +kernel
theorem dX6_target_109 : decode cX6_target 109 = .ok (.aload_n 0, 1) := by decide +kernel
theorem dX6_target_110 : decode cX6_target 110 = .ok (.getfield 33, 3) := by decide +kernel
theorem dX6_target_113 : decode cX6_target 113 = .ok (.aload_n 0, 1) := by decide +kernel
theorem dX6_target_114 : decode cX6_target 114 = .ok (.getfield 116, 3) := by decide +kernel
theorem dX6_target_117 : decode cX6_target 117 = .ok (.iload_n 1, 1) := by decide +kernel
theorem dX6_target_118 : decode cX6_target 118 = .ok (.iconst 2, 1) := by decide +kernel
theorem dX6_target_119 : decode cX6_target 119 = .ok (.if_icmp .ne 8, 3) := by decide +kernel
theorem dX6_target_122 : decode cX6_target 122 = .ok (.bipush 50, 2) := by decide +kernel
theorem dX6_target_124 : decode cX6_target 124 = .ok (.goto 13, 3) := by decide +kernel
theorem dX6_target_127 : decode cX6_target 127 = .ok (.iload_n 1, 1) := by decide +kernel
theorem dX6_target_128 : decode cX6_target 128 = .ok (.iconst 1, 1) := by decide +kernel
theorem dX6_target_129 : decode cX6_target 129 = .ok (.if_icmp .ne 7, 3) := by decide +kernel
theorem dX6_target_132 : decode cX6_target 132 = .ok (.iload_n 3, 1) := by decide +kernel
theorem dX6_target_133 : decode cX6_target 133 = .ok (.goto 4, 3) := by decide +kernel
theorem dX6_target_136 : decode cX6_target 136 = .ok (.iload_n 2, 1) := by decide +kernel
theorem dX6_target_137 : decode cX6_target 137 = .ok (.iastore, 1) := by decide +kernel
theorem dX6_target_138 : decode cX6_target 138 = .ok (.aload_n 0, 1) := by decide +kernel
theorem dX6_target_139 : decode cX6_target 139 = .ok (.getfield 36, 3) := by decide +kernel
theorem dX6_target_142 : decode cX6_target 142 = .ok (.aload_n 0, 1) := by decide +kernel
theorem dX6_target_143 : decode cX6_target 143 = .ok (.getfield 116, 3) := by decide +kernel
theorem dX6_target_146 : decode cX6_target 146 = .ok (.iload 4, 2) := by decide +kernel
theorem dX6_target_148 : decode cX6_target 148 = .ok (.iastore, 1) := by decide +kernel
theorem dX6_target_149 : decode cX6_target 149 = .ok (.aload_n 0, 1) := by decide +kernel
theorem dX6_target_150 : decode cX6_target 150 = .ok (.getfield 39, 3) := by decide +kernel
theorem dX6_target_153 : decode cX6_target 153 = .ok (.aload_n 0, 1) := by decide +kernel
theorem dX6_target_154 : decode cX6_target 154 = .ok (.getfield 116, 3) := by decide +kernel
theorem dX6_target_157 : decode cX6_target 157 = .ok (.iload 5, 2) := by decide +kernel
theorem dX6_target_159 : decode cX6_target 159 = .ok (.iastore, 1) := by decide +kernel
theorem dX6_target_160 : decode cX6_target 160 = .ok (.aload_n 0, 1) := by decide +kernel
theorem dX6_target_161 : decode cX6_target 161 = .ok (.dup, 1) := by decide +kernel
theorem dX6_target_162 : decode cX6_target 162 = .ok (.getfield 116, 3) := by decide +kernel
theorem dX6_target_165 : decode cX6_target 165 = .ok (.iconst 1, 1) := by decide +kernel
theorem dX6_target_166 : decode cX6_target 166 = .ok (.iadd, 1) := by decide +kernel
theorem dX6_target_167 : decode cX6_target 167 = .ok (.putfield 116, 3) := by decide +kernel
theorem dX6_target_170 : decode cX6_target 170 = .ok (.aload_n 0, 1) := by decide +kernel
theorem dX6_target_171 : decode cX6_target 171 = .ok (.getfield 116, 3) := by decide +kernel
theorem dX6_target_174 : decode cX6_target 174 = .ok (.iconst 1, 1) := by decide +kernel
theorem dX6_target_175 : decode cX6_target 175 = .ok (.isub, 1) := by decide +kernel
theorem dX6_target_176 : decode cX6_target 176 = .ok (.ireturn, 1) := by decide +kernel
theorem dX6_drop_0 : decode cX6_drop 0 = .ok (.aload_n 0, 1) := by decide +kernel
theorem dX6_drop_1 : decode cX6_drop 1 = .ok (.iconst 0, 1) := by decide +kernel
theorem dX6_drop_2 : decode cX6_drop 2 = .ok (.putfield 75, 3) := by decide +kernel
theorem dX6_drop_5 : decode cX6_drop 5 = .ok (.aload_n 0, 1) := by decide +kernel
theorem dX6_drop_6 : decode cX6_drop 6 = .ok (.getfield 116, 3) := by decide +kernel
theorem dX6_drop_9 : decode cX6_drop 9 = .ok (.ifCond .ne 6, 3) := by decide +kernel
theorem dX6_drop_12 : decode cX6_drop 12 = .ok (.bipush (-3), 2) := by decide +kernel
theorem dX6_drop_14 : decode cX6_drop 14 = .ok (.ireturn, 1) := by decide +kernel
theorem dX6_drop_15 : decode cX6_drop 15 = .ok (.aload_n 0, 1) := by decide +kernel
theorem dX6_drop_16 : decode cX6_drop 16 = .ok (.dup, 1) := by decide +kernel
theorem dX6_drop_17 : decode cX6_drop 17 = .ok (.getfield 116, 3) := by decide +kernel
theorem dX6_drop_20 : decode cX6_drop 20 = .ok (.iconst 1, 1) := by decide +kernel
theorem dX6_drop_21 : decode cX6_drop 21 = .ok (.isub, 1) := by decide +kernel
theorem dX6_drop_22 : decode cX6_drop 22 = .ok (.putfield 116, 3) := by decide +kernel
theorem dX6_drop_25 : decode cX6_drop 25 = .ok (.aload_n 0, 1) := by decide +kernel
theorem dX6_drop_26 : decode cX6_drop 26 = .ok (.getfield 116, 3) := by decide +kernel
theorem dX6_drop_29 : decode cX6_drop 29 = .ok (.ireturn, 1) := by decide +kernel
set_option maxRecDepth 20000 in
theorem ggX6_taken_X6_in : GoodIn wsX6_taken wsX6_in := goodIn_r _ [12] (by decide +kernel) (by decide +kernel)
set_option maxRecDepth 20000 in
theorem gX6_taken_X6_in : GoodIn wsX6_taken (va_wsS RX6 86 yX6_in wsX6_in) := goodIn_app (goodIn_of _ (by decide +kernel)) ggX6_taken_X6_in
set_option maxRecDepth 20000 in
theorem ggX6_taken_X6_finds : GoodIn wsX6_taken wsX6_finds := goodIn_r _ [16, 17, 29, 30, 31, 32, 33, 34, 35, 36, 37, 38, 39, 40, 41, 42, 43, 44, 45, 46, 47, 48, 49, 50, 51, 52, 53, 54, 55, 56] (by decide +kernel) (by decide +kernel)
set_option maxRecDepth 20000 in
theorem gX6_taken_X6_finds : GoodIn wsX6_taken (wsV RX6 154 RX6 yX6_finds wsX6_finds) := goodIn_app (goodIn_of _ (by decide +kernel)) ggX6_taken_X6_finds
set_option maxRecDepth 20000 in
theorem ggX6_taken_X6_depthOf : GoodIn wsX6_taken wsX6_depthOf := goodIn_r _ [21, 5, 22, 23, 24, 25, 11, 26, 27, 28, 29, 30, 31, 32, 33, 34, 35, 36, 37, 38, 39, 40, 41, 42, 43, 44, 45, 46, 47, 48, 49, 50, 51, 52, 53, 54, 55, 56] (by decide +kernel) (by decide +kernel)
set_option maxRecDepth 20000 in
theorem gX6_taken_X6_depthOf : GoodIn wsX6_taken (wsV RX6 108 RX6 yX6_depthOf wsX6_depthOf) := goodIn_app (goodIn_of _ (by decide +kernel)) ggX6_taken_X6_depthOf
theorem dX6_taken_0 : decode cX6_taken 0 = .ok (.aload_n 0, 1) := by decide +kernel
theorem dX6_taken_1 : decode cX6_taken 1 = .ok (.iconst 0, 1) := by decide +kernel
theorem dX6_taken_2 : decode cX6_taken 2 = .ok (.putfield 75, 3) := by decide +kernel
theorem dX6_taken_5 : decode cX6_taken 5 = .ok (.iload_n 1, 1) := by decide +kernel
theorem dX6_taken_6 : decode cX6_taken 6 = .ok (.i2l, 1) := by decide +kernel
theorem dX6_taken_7 : decode cX6_taken 7 = .ok (.lconst 0, 1) := by decide +kernel
theorem dX6_taken_8 : decode cX6_taken 8 = .ok (.aload_n 0, 1) := by decide +kernel
theorem dX6_taken_9 : decode cX6_taken 9 = .ok (.getfield 116, 3) := by decide +kernel
theorem dX6_taken_12 : decode cX6_taken 12 = .ok (.iconst 1, 1) := by decide +kernel
theorem dX6_taken_13 : decode cX6_taken 13 = .ok (.isub, 1) := by decide +kernel
theorem dX6_taken_14 : decode cX6_taken 14 = .ok (.i2l, 1) := by decide +kernel
theorem dX6_taken_15 : decode cX6_taken 15 = .ok (.invokestatic 86, 3) := by decide +kernel
theorem dX6_taken_18 : decode cX6_taken 18 = .ok (.ifCond .ne 5, 3) := by decide +kernel
theorem dX6_taken_21 : decode cX6_taken 21 = .ok (.iconst (-1), 1) := by decide +kernel
theorem dX6_taken_22 : decode cX6_taken 22 = .ok (.ireturn, 1) := by decide +kernel
theorem dX6_taken_23 : decode cX6_taken 23 = .ok (.iload_n 2, 1) := by decide +kernel
theorem dX6_taken_24 : decode cX6_taken 24 = .ok (.i2l, 1) := by decide +kernel
theorem dX6_taken_25 : decode cX6_taken 25 = .ok (.lconst 0, 1) := by decide +kernel
theorem dX6_taken_26 : decode cX6_taken 26 = .ok (.ldc2_w 142, 3) := by decide +kernel
theorem dX6_taken_29 : decode cX6_taken 29 = .ok (.invokestatic 86, 3) := by decide +kernel
theorem dX6_taken_32 : decode cX6_taken 32 = .ok (.ifCond .eq 25, 3) := by decide +kernel
theorem dX6_taken_35 : decode cX6_taken 35 = .ok (.iload_n 3, 1) := by decide +kernel
theorem dX6_taken_36 : decode cX6_taken 36 = .ok (.i2l, 1) := by decide +kernel
theorem dX6_taken_37 : decode cX6_taken 37 = .ok (.lconst 0, 1) := by decide +kernel
theorem dX6_taken_38 : decode cX6_taken 38 = .ok (.iload_n 2, 1) := by decide +kernel
theorem dX6_taken_39 : decode cX6_taken 39 = .ok (.ifCond .ne 9, 3) := by decide +kernel
theorem dX6_taken_42 : decode cX6_taken 42 = .ok (.ldc2_w 142, 3) := by decide +kernel
theorem dX6_taken_45 : decode cX6_taken 45 = .ok (.goto 6, 3) := by decide +kernel
theorem dX6_taken_48 : decode cX6_taken 48 = .ok (.ldc2_w 152, 3) := by decide +kernel
theorem dX6_taken_51 : decode cX6_taken 51 = .ok (.invokestatic 86, 3) := by decide +kernel
theorem dX6_taken_54 : decode cX6_taken 54 = .ok (.ifCond .ne 6, 3) := by decide +kernel
theorem dX6_taken_57 : decode cX6_taken 57 = .ok (.bipush (-2), 2) := by decide +kernel
theorem dX6_taken_59 : decode cX6_taken 59 = .ok (.ireturn, 1) := by decide +kernel
theorem dX6_taken_60 : decode cX6_taken 60 = .ok (.aload_n 0, 1) := by decide +kernel
theorem dX6_taken_61 : decode cX6_taken 61 = .ok (.getfield 27, 3) := by decide +kernel
theorem dX6_taken_64 : decode cX6_taken 64 = .ok (.iload_n 1, 1) := by decide +kernel
theorem dX6_taken_65 : decode cX6_taken 65 = .ok (.iaload, 1) := by decide +kernel
theorem dX6_taken_66 : decode cX6_taken 66 = .ok (.iload_n 2, 1) := by decide +kernel
theorem dX6_taken_67 : decode cX6_taken 67 = .ok (.if_icmp .ge 10, 3) := by decide +kernel
theorem dX6_taken_70 : decode cX6_taken 70 = .ok (.aload_n 0, 1) := by decide +kernel
theorem dX6_taken_71 : decode cX6_taken 71 = .ok (.bipush (-13), 2) := by decide +kernel
theorem dX6_taken_73 : decode cX6_taken 73 = .ok (.invokevirtual 154, 3) := by decide +kernel
theorem dX6_taken_76 : decode cX6_taken 76 = .ok (.ireturn, 1) := by decide +kernel
theorem dX6_taken_77 : decode cX6_taken 77 = .ok (.iload_n 3, 1) := by decide +kernel
theorem dX6_taken_78 : decode cX6_taken 78 = .ok (.ifCond .ne 12, 3) := by decide +kernel
theorem dX6_taken_81 : decode cX6_taken 81 = .ok (.aload_n 0, 1) := by decide +kernel
theorem dX6_taken_82 : decode cX6_taken 82 = .ok (.getfield 39, 3) := by decide +kernel
theorem dX6_taken_85 : decode cX6_taken 85 = .ok (.iload_n 1, 1) := by decide +kernel
theorem dX6_taken_86 : decode cX6_taken 86 = .ok (.iaload, 1) := by decide +kernel
theorem dX6_taken_87 : decode cX6_taken 87 = .ok (.goto 36, 3) := by decide +kernel
theorem dX6_taken_90 : decode cX6_taken 90 = .ok (.iload_n 3, 1) := by decide +kernel
theorem dX6_taken_91 : decode cX6_taken 91 = .ok (.iconst 1, 1) := by decide +kernel
theorem dX6_taken_92 : decode cX6_taken 92 = .ok (.if_icmp .ne 12, 3) := by decide +kernel
theorem dX6_taken_95 : decode cX6_taken 95 = .ok (.aload_n 0, 1) := by decide +kernel
theorem dX6_taken_96 : decode cX6_taken 96 = .ok (.getfield 30, 3) := by decide +kernel
theorem dX6_taken_99 : decode cX6_taken 99 = .ok (.iload_n 1, 1) := by decide +kernel
theorem dX6_taken_100 : decode cX6_taken 100 = .ok (.iaload, 1) := by decide +kernel
theorem dX6_taken_101 : decode cX6_taken 101 = .ok (.goto 22, 3) := by decide +kernel
theorem dX6_taken_104 : decode cX6_taken 104 = .ok (.iload_n 3, 1) := by decide +kernel
theorem dX6_taken_105 : decode cX6_taken 105 = .ok (.iconst 2, 1) := by decide +kernel
theorem dX6_taken_106 : decode cX6_taken 106 = .ok (.if_icmp .ne 11, 3) := by decide +kernel
theorem dX6_taken_109 : decode cX6_taken 109 = .ok (.aload_n 0, 1) := by decide +kernel
theorem dX6_taken_110 : decode cX6_taken 110 = .ok (.iload_n 1, 1) := by decide +kernel
theorem dX6_taken_111 : decode cX6_taken 111 = .ok (.invokevirtual 108, 3) := by decide +kernel
theorem dX6_taken_114 : decode cX6_taken 114 = .ok (.goto 9, 3) := by decide +kernel
theorem dX6_taken_117 : decode cX6_taken 117 = .ok (.aload_n 0, 1) := by decide +kernel
theorem dX6_taken_118 : decode cX6_taken 118 = .ok (.getfield 33, 3) := by decide +kernel
theorem dX6_taken_121 : decode cX6_taken 121 = .ok (.iload_n 1, 1) := by decide +kernel
theorem dX6_taken_122 : decode cX6_taken 122 = .ok (.iaload, 1) := by decide +kernel
theorem dX6_taken_123 : decode cX6_taken 123 = .ok (.ireturn, 1) := by decide +kernel
set_option maxRecDepth 20000 in
theorem ggX6_time_X6_noElement : GoodIn wsX6_time wsX6_noElement := goodIn_r _ [6, 7, 8, 9, 5, 10, 39, 40, 41, 42, 43, 44, 45, 46, 47, 48, 49, 50, 51, 52, 53, 54, 55, 56, 57, 58, 59, 60, 61, 62, 63, 64, 65, 66] (by decide +kernel) (by decide +kernel)
set_option maxRecDepth 20000 in
theorem gX6_time_X6_noElement : GoodIn wsX6_time (wsV RX6 135 RX6 yX6_noElement wsX6_noElement) := goodIn_app (goodIn_of _ (by decide +kernel)) ggX6_time_X6_noElement
set_option maxRecDepth 20000 in
theorem ggX6_time_X6_isPlace : GoodIn wsX6_time wsX6_isPlace := goodIn_r _ [14, 15, 16, 8, 9, 5, 10, 17, 18, 19, 20, 21, 39, 40, 41, 42, 43, 44, 45, 46, 47, 48, 49, 50, 51, 52, 53, 54, 55, 56, 57, 58, 59, 60, 61, 62, 63, 64, 65, 66] (by decide +kernel) (by decide +kernel)
set_option maxRecDepth 20000 in
theorem gX6_time_X6_isPlace : GoodIn wsX6_time (wsV RX6 144 RX6 yX6_isPlace wsX6_isPlace) := goodIn_app (goodIn_of _ (by decide +kernel)) ggX6_time_X6_isPlace
set_option maxRecDepth 20000 in
theorem ggX6_time_X6_timeOf : GoodIn wsX6_time wsX6_timeOf := goodIn_r _ [25, 26, 27, 28, 29, 5, 30, 31, 32, 33, 16, 34, 35, 36, 37, 38, 39, 40, 41, 42, 43, 44, 45, 46, 47, 48, 49, 50, 51, 52, 53, 54, 55, 56, 57, 58, 59, 60, 61, 62, 63, 64, 65, 66] (by decide +kernel) (by decide +kernel)
set_option maxRecDepth 20000 in
theorem gX6_time_X6_timeOf : GoodIn wsX6_time (wsV RX6 105 RX6 yX6_timeOf wsX6_timeOf) := goodIn_app (goodIn_of _ (by decide +kernel)) ggX6_time_X6_timeOf
theorem dX6_time_0 : decode cX6_time 0 = .ok (.aload_n 0, 1) := by decide +kernel
theorem dX6_time_1 : decode cX6_time 1 = .ok (.iconst 0, 1) := by decide +kernel
theorem dX6_time_2 : decode cX6_time 2 = .ok (.putfield 75, 3) := by decide +kernel
theorem dX6_time_5 : decode cX6_time 5 = .ok (.aload_n 0, 1) := by decide +kernel
theorem dX6_time_6 : decode cX6_time 6 = .ok (.iload_n 1, 1) := by decide +kernel
theorem dX6_time_7 : decode cX6_time 7 = .ok (.invokevirtual 135, 3) := by decide +kernel
theorem dX6_time_10 : decode cX6_time 10 = .ok (.ifCond .eq 7, 3) := by decide +kernel
theorem dX6_time_13 : decode cX6_time 13 = .ok (.iconst (-1), 1) := by decide +kernel
theorem dX6_time_14 : decode cX6_time 14 = .ok (.goto 24, 3) := by decide +kernel
theorem dX6_time_17 : decode cX6_time 17 = .ok (.aload_n 0, 1) := by decide +kernel
theorem dX6_time_18 : decode cX6_time 18 = .ok (.iload_n 2, 1) := by decide +kernel
theorem dX6_time_19 : decode cX6_time 19 = .ok (.iload_n 3, 1) := by decide +kernel
theorem dX6_time_20 : decode cX6_time 20 = .ok (.invokevirtual 144, 3) := by decide +kernel
theorem dX6_time_23 : decode cX6_time 23 = .ok (.ifCond .ne 8, 3) := by decide +kernel
theorem dX6_time_26 : decode cX6_time 26 = .ok (.bipush (-2), 2) := by decide +kernel
theorem dX6_time_28 : decode cX6_time 28 = .ok (.goto 10, 3) := by decide +kernel
theorem dX6_time_31 : decode cX6_time 31 = .ok (.aload_n 0, 1) := by decide +kernel
theorem dX6_time_32 : decode cX6_time 32 = .ok (.iload_n 1, 1) := by decide +kernel
theorem dX6_time_33 : decode cX6_time 33 = .ok (.iload_n 2, 1) := by decide +kernel
theorem dX6_time_34 : decode cX6_time 34 = .ok (.iload_n 3, 1) := by decide +kernel
theorem dX6_time_35 : decode cX6_time 35 = .ok (.invokevirtual 105, 3) := by decide +kernel
theorem dX6_time_38 : decode cX6_time 38 = .ok (.ireturn, 1) := by decide +kernel
set_option maxRecDepth 20000 in
theorem ggX6_bend_X6_noElement : GoodIn wsX6_bend wsX6_noElement := goodIn_r _ [7, 8, 9, 10, 6, 11, 35, 36, 37, 38, 39, 40, 41, 42, 43, 44, 45, 46, 47, 48, 49, 50, 51, 52, 53, 54, 55, 56, 57, 58, 59, 60, 61, 62] (by decide +kernel) (by decide +kernel)
set_option maxRecDepth 20000 in
theorem gX6_bend_X6_noElement : GoodIn wsX6_bend (wsV RX6 135 RX6 yX6_noElement wsX6_noElement) := goodIn_app (goodIn_of _ (by decide +kernel)) ggX6_bend_X6_noElement
set_option maxRecDepth 20000 in
theorem ggX6_bend_X6_isPlace : GoodIn wsX6_bend wsX6_isPlace := goodIn_r _ [15, 16, 17, 9, 10, 6, 11, 18, 19, 20, 21, 22, 35, 36, 37, 38, 39, 40, 41, 42, 43, 44, 45, 46, 47, 48, 49, 50, 51, 52, 53, 54, 55, 56, 57, 58, 59, 60, 61, 62] (by decide +kernel) (by decide +kernel)
set_option maxRecDepth 20000 in
theorem gX6_bend_X6_isPlace : GoodIn wsX6_bend (wsV RX6 144 RX6 yX6_isPlace wsX6_isPlace) := goodIn_app (goodIn_of _ (by decide +kernel)) ggX6_bend_X6_isPlace
set_option maxRecDepth 20000 in
theorem ggX6_bend_X6_make : GoodIn wsX6_bend wsX6_make := goodIn_r _ [26, 27, 28, 29, 17, 30, 31, 2, 32, 33, 6, 34, 35, 36, 37, 38, 39, 40, 41, 42, 43, 44, 45, 46, 47, 48, 49, 50, 51, 52, 53, 54, 55, 56, 57, 58, 59, 60, 61, 62] (by decide +kernel) (by decide +kernel)
set_option maxRecDepth 20000 in
theorem gX6_bend_X6_make : GoodIn wsX6_bend (wsV RX6 101 RX6 yX6_make wsX6_make) := goodIn_app (goodIn_of _ (by decide +kernel)) ggX6_bend_X6_make
theorem dX6_bend_0 : decode cX6_bend 0 = .ok (.aload_n 0, 1) := by decide +kernel
theorem dX6_bend_1 : decode cX6_bend 1 = .ok (.iconst 0, 1) := by decide +kernel
theorem dX6_bend_2 : decode cX6_bend 2 = .ok (.putfield 75, 3) := by decide +kernel
theorem dX6_bend_5 : decode cX6_bend 5 = .ok (.aload_n 0, 1) := by decide +kernel
theorem dX6_bend_6 : decode cX6_bend 6 = .ok (.iload_n 1, 1) := by decide +kernel
theorem dX6_bend_7 : decode cX6_bend 7 = .ok (.invokevirtual 135, 3) := by decide +kernel
theorem dX6_bend_10 : decode cX6_bend 10 = .ok (.ifCond .eq 5, 3) := by decide +kernel
theorem dX6_bend_13 : decode cX6_bend 13 = .ok (.iconst (-1), 1) := by decide +kernel
theorem dX6_bend_14 : decode cX6_bend 14 = .ok (.ireturn, 1) := by decide +kernel
theorem dX6_bend_15 : decode cX6_bend 15 = .ok (.aload_n 0, 1) := by decide +kernel
theorem dX6_bend_16 : decode cX6_bend 16 = .ok (.iload_n 2, 1) := by decide +kernel
theorem dX6_bend_17 : decode cX6_bend 17 = .ok (.iload_n 3, 1) := by decide +kernel
theorem dX6_bend_18 : decode cX6_bend 18 = .ok (.invokevirtual 144, 3) := by decide +kernel
theorem dX6_bend_21 : decode cX6_bend 21 = .ok (.ifCond .ne 6, 3) := by decide +kernel
theorem dX6_bend_24 : decode cX6_bend 24 = .ok (.bipush (-2), 2) := by decide +kernel
theorem dX6_bend_26 : decode cX6_bend 26 = .ok (.ireturn, 1) := by decide +kernel
theorem dX6_bend_27 : decode cX6_bend 27 = .ok (.aload_n 0, 1) := by decide +kernel
theorem dX6_bend_28 : decode cX6_bend 28 = .ok (.iload_n 1, 1) := by decide +kernel
theorem dX6_bend_29 : decode cX6_bend 29 = .ok (.iload_n 3, 1) := by decide +kernel
theorem dX6_bend_30 : decode cX6_bend 30 = .ok (.invokevirtual 101, 3) := by decide +kernel
theorem dX6_bend_33 : decode cX6_bend 33 = .ok (.aload_n 0, 1) := by decide +kernel
theorem dX6_bend_34 : decode cX6_bend 34 = .ok (.getfield 45, 3) := by decide +kernel
theorem dX6_bend_37 : decode cX6_bend 37 = .ok (.bipush 51, 2) := by decide +kernel
theorem dX6_bend_39 : decode cX6_bend 39 = .ok (.bipush 51, 2) := by decide +kernel
theorem dX6_bend_41 : decode cX6_bend 41 = .ok (.iload_n 1, 1) := by decide +kernel
theorem dX6_bend_42 : decode cX6_bend 42 = .ok (.imul, 1) := by decide +kernel
theorem dX6_bend_43 : decode cX6_bend 43 = .ok (.iload_n 3, 1) := by decide +kernel
theorem dX6_bend_44 : decode cX6_bend 44 = .ok (.iadd, 1) := by decide +kernel
theorem dX6_bend_45 : decode cX6_bend 45 = .ok (.imul, 1) := by decide +kernel
theorem dX6_bend_46 : decode cX6_bend 46 = .ok (.iload_n 2, 1) := by decide +kernel
theorem dX6_bend_47 : decode cX6_bend 47 = .ok (.iadd, 1) := by decide +kernel
theorem dX6_bend_48 : decode cX6_bend 48 = .ok (.iaload, 1) := by decide +kernel
theorem dX6_bend_49 : decode cX6_bend 49 = .ok (.ireturn, 1) := by decide +kernel
set_option maxRecDepth 20000 in
theorem ggX6_echoTime_X6_noElement : GoodIn wsX6_echoTime wsX6_noElement := goodIn_r _ [7, 8, 9, 10, 6, 11, 51, 52, 53, 54, 55, 56, 57, 58, 59, 60, 61, 62, 63, 64, 65, 66, 67, 68, 69, 70, 71, 72, 73, 74, 75, 76, 77, 78] (by decide +kernel) (by decide +kernel)
set_option maxRecDepth 20000 in
theorem gX6_echoTime_X6_noElement : GoodIn wsX6_echoTime (wsV RX6 135 RX6 yX6_noElement wsX6_noElement) := goodIn_app (goodIn_of _ (by decide +kernel)) ggX6_echoTime_X6_noElement
set_option maxRecDepth 20000 in
theorem ggX6_echoTime_X6_in : GoodIn wsX6_echoTime wsX6_in := goodIn_r _ [11] (by decide +kernel) (by decide +kernel)
set_option maxRecDepth 20000 in
theorem gX6_echoTime_X6_in : GoodIn wsX6_echoTime (va_wsS RX6 86 yX6_in wsX6_in) := goodIn_app (goodIn_of _ (by decide +kernel)) ggX6_echoTime_X6_in
set_option maxRecDepth 20000 in
theorem ggX6_echoTime_X6_echoOf : GoodIn wsX6_echoTime wsX6_echoOf := goodIn_r _ [15, 16, 17, 18, 19, 20, 6, 21, 22, 23, 24, 25, 26, 27, 28, 29, 30, 31, 32, 33, 34, 35, 36, 37, 38, 39, 40, 41, 42, 43, 44, 45, 46, 47, 48, 49, 50, 51, 52, 53, 54, 55, 56, 57, 58, 59, 60, 61, 62, 63, 64, 65, 66, 67, 68, 69, 70, 71, 72, 73, 74, 75, 76, 77, 78] (by decide +kernel) (by decide +kernel)
set_option maxRecDepth 20000 in
theorem gX6_echoTime_X6_echoOf : GoodIn wsX6_echoTime (wsV RX6 119 RX6 yX6_echoOf wsX6_echoOf) := goodIn_app (goodIn_of _ (by decide +kernel)) ggX6_echoTime_X6_echoOf
theorem dX6_echoTime_0 : decode cX6_echoTime 0 = .ok (.aload_n 0, 1) := by decide +kernel
theorem dX6_echoTime_1 : decode cX6_echoTime 1 = .ok (.iconst 0, 1) := by decide +kernel
theorem dX6_echoTime_2 : decode cX6_echoTime 2 = .ok (.putfield 75, 3) := by decide +kernel
theorem dX6_echoTime_5 : decode cX6_echoTime 5 = .ok (.aload_n 0, 1) := by decide +kernel
theorem dX6_echoTime_6 : decode cX6_echoTime 6 = .ok (.iload_n 1, 1) := by decide +kernel
theorem dX6_echoTime_7 : decode cX6_echoTime 7 = .ok (.invokevirtual 135, 3) := by decide +kernel
theorem dX6_echoTime_10 : decode cX6_echoTime 10 = .ok (.ifCond .ne 27, 3) := by decide +kernel
theorem dX6_echoTime_13 : decode cX6_echoTime 13 = .ok (.aload_n 0, 1) := by decide +kernel
theorem dX6_echoTime_14 : decode cX6_echoTime 14 = .ok (.iload_n 2, 1) := by decide +kernel
theorem dX6_echoTime_15 : decode cX6_echoTime 15 = .ok (.invokevirtual 135, 3) := by decide +kernel
theorem dX6_echoTime_18 : decode cX6_echoTime 18 = .ok (.ifCond .ne 19, 3) := by decide +kernel
theorem dX6_echoTime_21 : decode cX6_echoTime 21 = .ok (.iload_n 3, 1) := by decide +kernel
theorem dX6_echoTime_22 : decode cX6_echoTime 22 = .ok (.i2l, 1) := by decide +kernel
theorem dX6_echoTime_23 : decode cX6_echoTime 23 = .ok (.lconst 0, 1) := by decide +kernel
theorem dX6_echoTime_24 : decode cX6_echoTime 24 = .ok (.aload_n 0, 1) := by decide +kernel
theorem dX6_echoTime_25 : decode cX6_echoTime 25 = .ok (.getfield 116, 3) := by decide +kernel
theorem dX6_echoTime_28 : decode cX6_echoTime 28 = .ok (.iconst 1, 1) := by decide +kernel
theorem dX6_echoTime_29 : decode cX6_echoTime 29 = .ok (.isub, 1) := by decide +kernel
theorem dX6_echoTime_30 : decode cX6_echoTime 30 = .ok (.i2l, 1) := by decide +kernel
theorem dX6_echoTime_31 : decode cX6_echoTime 31 = .ok (.invokestatic 86, 3) := by decide +kernel
theorem dX6_echoTime_34 : decode cX6_echoTime 34 = .ok (.ifCond .ne 7, 3) := by decide +kernel
theorem dX6_echoTime_37 : decode cX6_echoTime 37 = .ok (.iconst (-1), 1) := by decide +kernel
theorem dX6_echoTime_38 : decode cX6_echoTime 38 = .ok (.goto 10, 3) := by decide +kernel
theorem dX6_echoTime_41 : decode cX6_echoTime 41 = .ok (.aload_n 0, 1) := by decide +kernel
theorem dX6_echoTime_42 : decode cX6_echoTime 42 = .ok (.iload_n 1, 1) := by decide +kernel
theorem dX6_echoTime_43 : decode cX6_echoTime 43 = .ok (.iload_n 2, 1) := by decide +kernel
theorem dX6_echoTime_44 : decode cX6_echoTime 44 = .ok (.iload_n 3, 1) := by decide +kernel
theorem dX6_echoTime_45 : decode cX6_echoTime 45 = .ok (.invokevirtual 119, 3) := by decide +kernel
theorem dX6_echoTime_48 : decode cX6_echoTime 48 = .ok (.ireturn, 1) := by decide +kernel
set_option maxRecDepth 20000 in
theorem ggX6_slowness_X6_noElement : GoodIn wsX6_slowness wsX6_noElement := goodIn_r _ [7, 8, 9, 10, 6, 11, 42, 43, 44, 45, 46, 47, 48, 49, 50, 51, 52, 53, 54, 55, 56, 57, 58, 59, 60, 61, 62, 63, 64, 65, 66, 67, 68, 69] (by decide +kernel) (by decide +kernel)
set_option maxRecDepth 20000 in
theorem gX6_slowness_X6_noElement : GoodIn wsX6_slowness (wsV RX6 135 RX6 yX6_noElement wsX6_noElement) := goodIn_app (goodIn_of _ (by decide +kernel)) ggX6_slowness_X6_noElement
set_option maxRecDepth 20000 in
theorem ggX6_slowness_X6_unmake : GoodIn wsX6_slowness wsX6_unmake := goodIn_r _ [15, 16, 42, 43, 44, 45, 46, 47, 48, 49, 50, 51, 52, 53, 54, 55, 56, 57, 58, 59, 60, 61, 62, 63, 64, 65, 66, 67, 68, 69] (by decide +kernel) (by decide +kernel)
set_option maxRecDepth 20000 in
theorem gX6_slowness_X6_unmake : GoodIn wsX6_slowness (wsV RX6 132 RX6 yX6_unmake wsX6_unmake) := goodIn_app (goodIn_of _ (by decide +kernel)) ggX6_slowness_X6_unmake
set_option maxRecDepth 20000 in
theorem ggX6_slowness_X6_floor : GoodIn wsX6_slowness wsX6_floor := goodIn_r _ [20, 21, 22, 42, 43, 44, 45, 46, 47, 48, 49, 50, 51, 52, 53, 54, 55, 56, 57, 58, 59, 60, 61, 62, 63, 64, 65, 66, 67, 68, 69] (by decide +kernel) (by decide +kernel)
set_option maxRecDepth 20000 in
theorem gX6_slowness_X6_floor : GoodIn wsX6_slowness (wsV RX6 90 RX6 yX6_floor wsX6_floor) := goodIn_app (goodIn_of _ (by decide +kernel)) ggX6_slowness_X6_floor
set_option maxRecDepth 20000 in
theorem ggX6_slowness_X6_least : GoodIn wsX6_slowness wsX6_least := goodIn_r _ [26, 27, 28, 29, 6, 30, 31, 32, 33, 34, 35, 16, 36, 37, 21, 2, 38, 39, 40, 41, 42, 43, 44, 45, 46, 47, 48, 49, 50, 51, 52, 53, 54, 55, 56, 57, 58, 59, 60, 61, 62, 63, 64, 65, 66, 67, 68, 69] (by decide +kernel) (by decide +kernel)
set_option maxRecDepth 20000 in
theorem gX6_slowness_X6_least : GoodIn wsX6_slowness (wsV RX6 112 RX6 yX6_least wsX6_least) := goodIn_app (goodIn_of _ (by decide +kernel)) ggX6_slowness_X6_least
theorem dX6_slowness_0 : decode cX6_slowness 0 = .ok (.aload_n 0, 1) := by decide +kernel
theorem dX6_slowness_1 : decode cX6_slowness 1 = .ok (.iconst 0, 1) := by decide +kernel
theorem dX6_slowness_2 : decode cX6_slowness 2 = .ok (.putfield 75, 3) := by decide +kernel
theorem dX6_slowness_5 : decode cX6_slowness 5 = .ok (.aload_n 0, 1) := by decide +kernel
theorem dX6_slowness_6 : decode cX6_slowness 6 = .ok (.iload_n 1, 1) := by decide +kernel
theorem dX6_slowness_7 : decode cX6_slowness 7 = .ok (.invokevirtual 135, 3) := by decide +kernel
theorem dX6_slowness_10 : decode cX6_slowness 10 = .ok (.ifCond .ne 11, 3) := by decide +kernel
theorem dX6_slowness_13 : decode cX6_slowness 13 = .ok (.aload_n 0, 1) := by decide +kernel
theorem dX6_slowness_14 : decode cX6_slowness 14 = .ok (.iload_n 2, 1) := by decide +kernel
theorem dX6_slowness_15 : decode cX6_slowness 15 = .ok (.invokevirtual 135, 3) := by decide +kernel
theorem dX6_slowness_18 : decode cX6_slowness 18 = .ok (.ifCond .eq 5, 3) := by decide +kernel
theorem dX6_slowness_21 : decode cX6_slowness 21 = .ok (.iconst (-1), 1) := by decide +kernel
theorem dX6_slowness_22 : decode cX6_slowness 22 = .ok (.ireturn, 1) := by decide +kernel
theorem dX6_slowness_23 : decode cX6_slowness 23 = .ok (.iload_n 3, 1) := by decide +kernel
theorem dX6_slowness_24 : decode cX6_slowness 24 = .ok (.ifCond .ge 6, 3) := by decide +kernel
theorem dX6_slowness_27 : decode cX6_slowness 27 = .ok (.bipush (-2), 2) := by decide +kernel
theorem dX6_slowness_29 : decode cX6_slowness 29 = .ok (.ireturn, 1) := by decide +kernel
theorem dX6_slowness_30 : decode cX6_slowness 30 = .ok (.aload_n 0, 1) := by decide +kernel
theorem dX6_slowness_31 : decode cX6_slowness 31 = .ok (.getfield 16, 3) := by decide +kernel
theorem dX6_slowness_34 : decode cX6_slowness 34 = .ok (.istore 4, 2) := by decide +kernel
theorem dX6_slowness_36 : decode cX6_slowness 36 = .ok (.iconst 0, 1) := by decide +kernel
theorem dX6_slowness_37 : decode cX6_slowness 37 = .ok (.istore 5, 2) := by decide +kernel
theorem dX6_slowness_39 : decode cX6_slowness 39 = .ok (.lconst 0, 1) := by decide +kernel
theorem dX6_slowness_40 : decode cX6_slowness 40 = .ok (.lstore 6, 2) := by decide +kernel
theorem dX6_slowness_42 : decode cX6_slowness 42 = .ok (.iconst 1, 1) := by decide +kernel
theorem dX6_slowness_43 : decode cX6_slowness 43 = .ok (.istore 8, 2) := by decide +kernel
theorem dX6_slowness_45 : decode cX6_slowness 45 = .ok (.iload 8, 2) := by decide +kernel
theorem dX6_slowness_47 : decode cX6_slowness 47 = .ok (.bipush 8, 2) := by decide +kernel
theorem dX6_slowness_49 : decode cX6_slowness 49 = .ok (.if_icmp .gt 77, 3) := by decide +kernel
theorem dX6_slowness_52 : decode cX6_slowness 52 = .ok (.aload_n 0, 1) := by decide +kernel
theorem dX6_slowness_53 : decode cX6_slowness 53 = .ok (.iload 8, 2) := by decide +kernel
theorem dX6_slowness_55 : decode cX6_slowness 55 = .ok (.putfield 16, 3) := by decide +kernel
theorem dX6_slowness_58 : decode cX6_slowness 58 = .ok (.aload_n 0, 1) := by decide +kernel
theorem dX6_slowness_59 : decode cX6_slowness 59 = .ok (.invokevirtual 132, 3) := by decide +kernel
theorem dX6_slowness_62 : decode cX6_slowness 62 = .ok (.aload_n 0, 1) := by decide +kernel
theorem dX6_slowness_63 : decode cX6_slowness 63 = .ok (.iload_n 1, 1) := by decide +kernel
theorem dX6_slowness_64 : decode cX6_slowness 64 = .ok (.iload_n 2, 1) := by decide +kernel
theorem dX6_slowness_65 : decode cX6_slowness 65 = .ok (.iconst 0, 1) := by decide +kernel
theorem dX6_slowness_66 : decode cX6_slowness 66 = .ok (.bipush 50, 2) := by decide +kernel
theorem dX6_slowness_68 : decode cX6_slowness 68 = .ok (.aload_n 0, 1) := by decide +kernel
theorem dX6_slowness_69 : decode cX6_slowness 69 = .ok (.invokevirtual 90, 3) := by decide +kernel
theorem dX6_slowness_72 : decode cX6_slowness 72 = .ok (.invokevirtual 112, 3) := by decide +kernel
theorem dX6_slowness_75 : decode cX6_slowness 75 = .ok (.i2l, 1) := by decide +kernel
theorem dX6_slowness_76 : decode cX6_slowness 76 = .ok (.iload_n 3, 1) := by decide +kernel
theorem dX6_slowness_77 : decode cX6_slowness 77 = .ok (.i2l, 1) := by decide +kernel
theorem dX6_slowness_78 : decode cX6_slowness 78 = .ok (.lsub, 1) := by decide +kernel
theorem dX6_slowness_79 : decode cX6_slowness 79 = .ok (.lstore 9, 2) := by decide +kernel
theorem dX6_slowness_81 : decode cX6_slowness 81 = .ok (.lload 9, 2) := by decide +kernel
theorem dX6_slowness_83 : decode cX6_slowness 83 = .ok (.lconst 0, 1) := by decide +kernel
theorem dX6_slowness_84 : decode cX6_slowness 84 = .ok (.lcmp, 1) := by decide +kernel
theorem dX6_slowness_85 : decode cX6_slowness 85 = .ok (.ifCond .ge 9, 3) := by decide +kernel
theorem dX6_slowness_88 : decode cX6_slowness 88 = .ok (.lload 9, 2) := by decide +kernel
theorem dX6_slowness_90 : decode cX6_slowness 90 = .ok (.lneg, 1) := by decide +kernel
theorem dX6_slowness_91 : decode cX6_slowness 91 = .ok (.goto 5, 3) := by decide +kernel
theorem dX6_slowness_94 : decode cX6_slowness 94 = .ok (.lload 9, 2) := by decide +kernel
theorem dX6_slowness_96 : decode cX6_slowness 96 = .ok (.lstore 9, 2) := by decide +kernel
theorem dX6_slowness_98 : decode cX6_slowness 98 = .ok (.iload 8, 2) := by decide +kernel
theorem dX6_slowness_100 : decode cX6_slowness 100 = .ok (.iconst 1, 1) := by decide +kernel
theorem dX6_slowness_101 : decode cX6_slowness 101 = .ok (.if_icmp .eq 11, 3) := by decide +kernel
theorem dX6_slowness_104 : decode cX6_slowness 104 = .ok (.lload 9, 2) := by decide +kernel
theorem dX6_slowness_106 : decode cX6_slowness 106 = .ok (.lload 6, 2) := by decide +kernel
theorem dX6_slowness_108 : decode cX6_slowness 108 = .ok (.lcmp, 1) := by decide +kernel
theorem dX6_slowness_109 : decode cX6_slowness 109 = .ok (.ifCond .ge 11, 3) := by decide +kernel
theorem dX6_slowness_112 : decode cX6_slowness 112 = .ok (.iload 8, 2) := by decide +kernel
theorem dX6_slowness_114 : decode cX6_slowness 114 = .ok (.istore 5, 2) := by decide +kernel
theorem dX6_slowness_116 : decode cX6_slowness 116 = .ok (.lload 9, 2) := by decide +kernel
theorem dX6_slowness_118 : decode cX6_slowness 118 = .ok (.lstore 6, 2) := by decide +kernel
theorem dX6_slowness_120 : decode cX6_slowness 120 = .ok (.iinc 8 1, 3) := by decide +kernel
theorem dX6_slowness_123 : decode cX6_slowness 123 = .ok (.goto (-78), 3) := by decide +kernel
theorem dX6_slowness_126 : decode cX6_slowness 126 = .ok (.aload_n 0, 1) := by decide +kernel
theorem dX6_slowness_127 : decode cX6_slowness 127 = .ok (.iload 4, 2) := by decide +kernel
theorem dX6_slowness_129 : decode cX6_slowness 129 = .ok (.putfield 16, 3) := by decide +kernel
theorem dX6_slowness_132 : decode cX6_slowness 132 = .ok (.aload_n 0, 1) := by decide +kernel
theorem dX6_slowness_133 : decode cX6_slowness 133 = .ok (.invokevirtual 132, 3) := by decide +kernel
theorem dX6_slowness_136 : decode cX6_slowness 136 = .ok (.iload 5, 2) := by decide +kernel
theorem dX6_slowness_138 : decode cX6_slowness 138 = .ok (.ireturn, 1) := by decide +kernel
set_option maxRecDepth 20000 in
theorem ggX6_echo_X6_noElement : GoodIn wsX6_echo wsX6_noElement := goodIn_r _ [6, 7, 8, 9, 5, 10, 57, 58, 59, 60, 61, 62, 63, 64, 65, 66, 67, 68, 69, 70, 71, 72, 73, 74, 75, 76, 77, 78, 79, 80, 81, 82, 83, 84] (by decide +kernel) (by decide +kernel)
set_option maxRecDepth 20000 in
theorem gX6_echo_X6_noElement : GoodIn wsX6_echo (wsV RX6 135 RX6 yX6_noElement wsX6_noElement) := goodIn_app (goodIn_of _ (by decide +kernel)) ggX6_echo_X6_noElement
set_option maxRecDepth 20000 in
theorem ggX6_echo_X6_echoAt : GoodIn wsX6_echo wsX6_echoAt := goodIn_r _ [14, 15, 16, 17, 18, 19, 20, 5, 21, 22, 23, 24, 25, 26, 27, 28, 29, 30, 31, 32, 33, 34, 35, 36, 37, 38, 39, 40, 41, 42, 43, 44, 45, 46, 47, 48, 49, 50, 51, 52, 53, 54, 55, 56, 57, 58, 59, 60, 61, 62, 63, 64, 65, 66, 67, 68, 69, 70, 71, 72, 73, 74, 75, 76, 77, 78, 79, 80, 81, 82, 83, 84] (by decide +kernel) (by decide +kernel)
set_option maxRecDepth 20000 in
theorem gX6_echo_X6_echoAt : GoodIn wsX6_echo (wsV RX6 157 RX6 yX6_echoAt wsX6_echoAt) := goodIn_app (goodIn_of _ (by decide +kernel)) ggX6_echo_X6_echoAt
theorem dX6_echo_0 : decode cX6_echo 0 = .ok (.aload_n 0, 1) := by decide +kernel
theorem dX6_echo_1 : decode cX6_echo 1 = .ok (.iconst 0, 1) := by decide +kernel
theorem dX6_echo_2 : decode cX6_echo 2 = .ok (.putfield 75, 3) := by decide +kernel
theorem dX6_echo_5 : decode cX6_echo 5 = .ok (.aload_n 0, 1) := by decide +kernel
theorem dX6_echo_6 : decode cX6_echo 6 = .ok (.iload_n 1, 1) := by decide +kernel
theorem dX6_echo_7 : decode cX6_echo 7 = .ok (.invokevirtual 135, 3) := by decide +kernel
theorem dX6_echo_10 : decode cX6_echo 10 = .ok (.ifCond .ne 11, 3) := by decide +kernel
theorem dX6_echo_13 : decode cX6_echo 13 = .ok (.aload_n 0, 1) := by decide +kernel
theorem dX6_echo_14 : decode cX6_echo 14 = .ok (.iload_n 2, 1) := by decide +kernel
theorem dX6_echo_15 : decode cX6_echo 15 = .ok (.invokevirtual 135, 3) := by decide +kernel
theorem dX6_echo_18 : decode cX6_echo 18 = .ok (.ifCond .eq 7, 3) := by decide +kernel
theorem dX6_echo_21 : decode cX6_echo 21 = .ok (.iconst (-1), 1) := by decide +kernel
theorem dX6_echo_22 : decode cX6_echo 22 = .ok (.goto 11, 3) := by decide +kernel
theorem dX6_echo_25 : decode cX6_echo 25 = .ok (.aload_n 0, 1) := by decide +kernel
theorem dX6_echo_26 : decode cX6_echo 26 = .ok (.iload_n 1, 1) := by decide +kernel
theorem dX6_echo_27 : decode cX6_echo 27 = .ok (.iload_n 2, 1) := by decide +kernel
theorem dX6_echo_28 : decode cX6_echo 28 = .ok (.iload_n 3, 1) := by decide +kernel
theorem dX6_echo_29 : decode cX6_echo 29 = .ok (.i2l, 1) := by decide +kernel
theorem dX6_echo_30 : decode cX6_echo 30 = .ok (.invokevirtual 157, 3) := by decide +kernel
theorem dX6_echo_33 : decode cX6_echo 33 = .ok (.ireturn, 1) := by decide +kernel
set_option maxRecDepth 20000 in
theorem ggX6_gate_X6_noElement : GoodIn wsX6_gate wsX6_noElement := goodIn_r _ [8, 9, 10, 11, 7, 12, 58, 59, 60, 61, 62, 63, 64, 65, 66, 67, 68, 69, 70, 71, 72, 73, 74, 75, 76, 77, 78, 79, 80, 81, 82, 83, 84, 85] (by decide +kernel) (by decide +kernel)
set_option maxRecDepth 20000 in
theorem gX6_gate_X6_noElement : GoodIn wsX6_gate (wsV RX6 135 RX6 yX6_noElement wsX6_noElement) := goodIn_app (goodIn_of _ (by decide +kernel)) ggX6_gate_X6_noElement
set_option maxRecDepth 20000 in
theorem ggX6_gate_X6_in : GoodIn wsX6_gate wsX6_in := goodIn_r _ [12] (by decide +kernel) (by decide +kernel)
set_option maxRecDepth 20000 in
theorem gX6_gate_X6_in : GoodIn wsX6_gate (va_wsS RX6 86 yX6_in wsX6_in) := goodIn_app (goodIn_of _ (by decide +kernel)) ggX6_gate_X6_in
set_option maxRecDepth 20000 in
theorem ggX6_gate_X6_echoOf : GoodIn wsX6_gate wsX6_echoOf := goodIn_r _ [16, 17, 18, 19, 20, 21, 7, 22, 23, 24, 25, 26, 27, 28, 29, 30, 31, 32, 33, 34, 35, 36, 37, 38, 39, 40, 41, 42, 43, 44, 45, 46, 47, 48, 49, 50, 51, 58, 59, 60, 61, 62, 63, 64, 65, 66, 67, 68, 69, 70, 71, 72, 73, 74, 75, 76, 77, 78, 79, 80, 81, 82, 83, 84, 85] (by decide +kernel) (by decide +kernel)
set_option maxRecDepth 20000 in
theorem gX6_gate_X6_echoOf : GoodIn wsX6_gate (wsV RX6 119 RX6 yX6_echoOf wsX6_echoOf) := goodIn_app (goodIn_of _ (by decide +kernel)) ggX6_gate_X6_echoOf
set_option maxRecDepth 20000 in
theorem ggX6_gate_X6_echoAt : GoodIn wsX6_gate wsX6_echoAt := goodIn_r _ [55, 3, 56, 57, 13, 14, 15, 7, 16, 17, 18, 19, 20, 21, 22, 23, 24, 25, 26, 27, 28, 29, 30, 31, 32, 33, 34, 35, 36, 37, 38, 39, 40, 41, 42, 43, 44, 45, 46, 47, 48, 49, 50, 51, 58, 59, 60, 61, 62, 63, 64, 65, 66, 67, 68, 69, 70, 71, 72, 73, 74, 75, 76, 77, 78, 79, 80, 81, 82, 83, 84, 85] (by decide +kernel) (by decide +kernel)
set_option maxRecDepth 20000 in
theorem gX6_gate_X6_echoAt : GoodIn wsX6_gate (wsV RX6 157 RX6 yX6_echoAt wsX6_echoAt) := goodIn_app (goodIn_of _ (by decide +kernel)) ggX6_gate_X6_echoAt
theorem dX6_gate_0 : decode cX6_gate 0 = .ok (.aload_n 0, 1) := by decide +kernel
theorem dX6_gate_1 : decode cX6_gate 1 = .ok (.iconst 0, 1) := by decide +kernel
theorem dX6_gate_2 : decode cX6_gate 2 = .ok (.putfield 75, 3) := by decide +kernel
theorem dX6_gate_5 : decode cX6_gate 5 = .ok (.aload_n 0, 1) := by decide +kernel
theorem dX6_gate_6 : decode cX6_gate 6 = .ok (.iload_n 1, 1) := by decide +kernel
theorem dX6_gate_7 : decode cX6_gate 7 = .ok (.invokevirtual 135, 3) := by decide +kernel
theorem dX6_gate_10 : decode cX6_gate 10 = .ok (.ifCond .ne 11, 3) := by decide +kernel
theorem dX6_gate_13 : decode cX6_gate 13 = .ok (.aload_n 0, 1) := by decide +kernel
theorem dX6_gate_14 : decode cX6_gate 14 = .ok (.iload_n 2, 1) := by decide +kernel
theorem dX6_gate_15 : decode cX6_gate 15 = .ok (.invokevirtual 135, 3) := by decide +kernel
theorem dX6_gate_18 : decode cX6_gate 18 = .ok (.ifCond .eq 5, 3) := by decide +kernel
theorem dX6_gate_21 : decode cX6_gate 21 = .ok (.iconst (-1), 1) := by decide +kernel
theorem dX6_gate_22 : decode cX6_gate 22 = .ok (.ireturn, 1) := by decide +kernel
theorem dX6_gate_23 : decode cX6_gate 23 = .ok (.iload_n 3, 1) := by decide +kernel
theorem dX6_gate_24 : decode cX6_gate 24 = .ok (.i2l, 1) := by decide +kernel
theorem dX6_gate_25 : decode cX6_gate 25 = .ok (.lconst 0, 1) := by decide +kernel
theorem dX6_gate_26 : decode cX6_gate 26 = .ok (.iload 4, 2) := by decide +kernel
theorem dX6_gate_28 : decode cX6_gate 28 = .ok (.i2l, 1) := by decide +kernel
theorem dX6_gate_29 : decode cX6_gate 29 = .ok (.invokestatic 86, 3) := by decide +kernel
theorem dX6_gate_32 : decode cX6_gate 32 = .ok (.ifCond .eq 17, 3) := by decide +kernel
theorem dX6_gate_35 : decode cX6_gate 35 = .ok (.iload 4, 2) := by decide +kernel
theorem dX6_gate_37 : decode cX6_gate 37 = .ok (.sipush 4000, 3) := by decide +kernel
theorem dX6_gate_40 : decode cX6_gate 40 = .ok (.if_icmp .gt 9, 3) := by decide +kernel
theorem dX6_gate_43 : decode cX6_gate 43 = .ok (.iload 5, 2) := by decide +kernel
theorem dX6_gate_45 : decode cX6_gate 45 = .ok (.iconst 1, 1) := by decide +kernel
theorem dX6_gate_46 : decode cX6_gate 46 = .ok (.if_icmp .ge 6, 3) := by decide +kernel
theorem dX6_gate_49 : decode cX6_gate 49 = .ok (.bipush (-2), 2) := by decide +kernel
theorem dX6_gate_51 : decode cX6_gate 51 = .ok (.ireturn, 1) := by decide +kernel
theorem dX6_gate_52 : decode cX6_gate 52 = .ok (.ldc 161, 2) := by decide +kernel
theorem dX6_gate_54 : decode cX6_gate 54 = .ok (.istore 6, 2) := by decide +kernel
theorem dX6_gate_56 : decode cX6_gate 56 = .ok (.iconst 0, 1) := by decide +kernel
theorem dX6_gate_57 : decode cX6_gate 57 = .ok (.istore 7, 2) := by decide +kernel
theorem dX6_gate_59 : decode cX6_gate 59 = .ok (.iload 7, 2) := by decide +kernel
theorem dX6_gate_61 : decode cX6_gate 61 = .ok (.aload_n 0, 1) := by decide +kernel
theorem dX6_gate_62 : decode cX6_gate 62 = .ok (.getfield 116, 3) := by decide +kernel
theorem dX6_gate_65 : decode cX6_gate 65 = .ok (.if_icmp .ge 97, 3) := by decide +kernel
theorem dX6_gate_68 : decode cX6_gate 68 = .ok (.aload_n 0, 1) := by decide +kernel
theorem dX6_gate_69 : decode cX6_gate 69 = .ok (.iload_n 1, 1) := by decide +kernel
theorem dX6_gate_70 : decode cX6_gate 70 = .ok (.iload_n 2, 1) := by decide +kernel
theorem dX6_gate_71 : decode cX6_gate 71 = .ok (.iload 7, 2) := by decide +kernel
theorem dX6_gate_73 : decode cX6_gate 73 = .ok (.invokevirtual 119, 3) := by decide +kernel
theorem dX6_gate_76 : decode cX6_gate 76 = .ok (.istore 8, 2) := by decide +kernel
theorem dX6_gate_78 : decode cX6_gate 78 = .ok (.aload_n 0, 1) := by decide +kernel
theorem dX6_gate_79 : decode cX6_gate 79 = .ok (.iload_n 1, 1) := by decide +kernel
theorem dX6_gate_80 : decode cX6_gate 80 = .ok (.iload_n 2, 1) := by decide +kernel
theorem dX6_gate_81 : decode cX6_gate 81 = .ok (.iload 8, 2) := by decide +kernel
theorem dX6_gate_83 : decode cX6_gate 83 = .ok (.i2l, 1) := by decide +kernel
theorem dX6_gate_84 : decode cX6_gate 84 = .ok (.invokevirtual 157, 3) := by decide +kernel
theorem dX6_gate_87 : decode cX6_gate 87 = .ok (.istore 9, 2) := by decide +kernel
theorem dX6_gate_89 : decode cX6_gate 89 = .ok (.iload 8, 2) := by decide +kernel
theorem dX6_gate_91 : decode cX6_gate 91 = .ok (.i2l, 1) := by decide +kernel
theorem dX6_gate_92 : decode cX6_gate 92 = .ok (.iload_n 3, 1) := by decide +kernel
theorem dX6_gate_93 : decode cX6_gate 93 = .ok (.i2l, 1) := by decide +kernel
theorem dX6_gate_94 : decode cX6_gate 94 = .ok (.iload 4, 2) := by decide +kernel
theorem dX6_gate_96 : decode cX6_gate 96 = .ok (.i2l, 1) := by decide +kernel
theorem dX6_gate_97 : decode cX6_gate 97 = .ok (.invokestatic 86, 3) := by decide +kernel
theorem dX6_gate_100 : decode cX6_gate 100 = .ok (.ifCond .eq 25, 3) := by decide +kernel
theorem dX6_gate_103 : decode cX6_gate 103 = .ok (.iload 9, 2) := by decide +kernel
theorem dX6_gate_105 : decode cX6_gate 105 = .ok (.iload 5, 2) := by decide +kernel
theorem dX6_gate_107 : decode cX6_gate 107 = .ok (.if_icmp .ge 14, 3) := by decide +kernel
theorem dX6_gate_110 : decode cX6_gate 110 = .ok (.iload 9, 2) := by decide +kernel
theorem dX6_gate_112 : decode cX6_gate 112 = .ok (.i2l, 1) := by decide +kernel
theorem dX6_gate_113 : decode cX6_gate 113 = .ok (.iload 5, 2) := by decide +kernel
theorem dX6_gate_115 : decode cX6_gate 115 = .ok (.i2l, 1) := by decide +kernel
theorem dX6_gate_116 : decode cX6_gate 116 = .ok (.lneg, 1) := by decide +kernel
theorem dX6_gate_117 : decode cX6_gate 117 = .ok (.lcmp, 1) := by decide +kernel
theorem dX6_gate_118 : decode cX6_gate 118 = .ok (.ifCond .gt 7, 3) := by decide +kernel
theorem dX6_gate_121 : decode cX6_gate 121 = .ok (.iconst 1, 1) := by decide +kernel
theorem dX6_gate_122 : decode cX6_gate 122 = .ok (.goto 4, 3) := by decide +kernel
theorem dX6_gate_125 : decode cX6_gate 125 = .ok (.iconst 0, 1) := by decide +kernel
theorem dX6_gate_126 : decode cX6_gate 126 = .ok (.istore 10, 2) := by decide +kernel
theorem dX6_gate_128 : decode cX6_gate 128 = .ok (.iload 10, 2) := by decide +kernel
theorem dX6_gate_130 : decode cX6_gate 130 = .ok (.ifCond .eq 22, 3) := by decide +kernel
theorem dX6_gate_133 : decode cX6_gate 133 = .ok (.iload 6, 2) := by decide +kernel
theorem dX6_gate_135 : decode cX6_gate 135 = .ok (.ldc 161, 2) := by decide +kernel
theorem dX6_gate_137 : decode cX6_gate 137 = .ok (.if_icmp .eq 10, 3) := by decide +kernel
theorem dX6_gate_140 : decode cX6_gate 140 = .ok (.iload 8, 2) := by decide +kernel
theorem dX6_gate_142 : decode cX6_gate 142 = .ok (.iload 6, 2) := by decide +kernel
theorem dX6_gate_144 : decode cX6_gate 144 = .ok (.if_icmp .ge 8, 3) := by decide +kernel
theorem dX6_gate_147 : decode cX6_gate 147 = .ok (.iload 8, 2) := by decide +kernel
theorem dX6_gate_149 : decode cX6_gate 149 = .ok (.goto 5, 3) := by decide +kernel
theorem dX6_gate_152 : decode cX6_gate 152 = .ok (.iload 6, 2) := by decide +kernel
theorem dX6_gate_154 : decode cX6_gate 154 = .ok (.istore 6, 2) := by decide +kernel
theorem dX6_gate_156 : decode cX6_gate 156 = .ok (.iinc 7 1, 3) := by decide +kernel
theorem dX6_gate_159 : decode cX6_gate 159 = .ok (.goto (-100), 3) := by decide +kernel
theorem dX6_gate_162 : decode cX6_gate 162 = .ok (.iload 6, 2) := by decide +kernel
theorem dX6_gate_164 : decode cX6_gate 164 = .ok (.ireturn, 1) := by decide +kernel
set_option maxRecDepth 20000 in
theorem ggX6_focus_X6_isPlace : GoodIn wsX6_focus wsX6_isPlace := goodIn_r _ [10, 11, 12, 13, 14, 9, 15, 16, 17, 18, 19, 20, 42, 43, 44, 45, 46, 47, 48, 49, 50, 51, 52, 53, 54, 55, 56, 57, 58, 59, 60, 61, 62, 63, 64, 65, 66, 67, 68, 69] (by decide +kernel) (by decide +kernel)
set_option maxRecDepth 20000 in
theorem gX6_focus_X6_isPlace : GoodIn wsX6_focus (wsV RX6 144 RX6 yX6_isPlace wsX6_isPlace) := goodIn_app (goodIn_of _ (by decide +kernel)) ggX6_focus_X6_isPlace
set_option maxRecDepth 20000 in
theorem ggX6_focus_X6_working : GoodIn wsX6_focus wsX6_working := goodIn_r _ [24, 2, 3, 42, 43, 44, 45, 46, 47, 48, 49, 50, 51, 52, 53, 54, 55, 56, 57, 58, 59, 60, 61, 62, 63, 64, 65, 66, 67, 68, 69] (by decide +kernel) (by decide +kernel)
set_option maxRecDepth 20000 in
theorem gX6_focus_X6_working : GoodIn wsX6_focus (wsV RX6 139 RX6 yX6_working wsX6_working) := goodIn_app (goodIn_of _ (by decide +kernel)) ggX6_focus_X6_working
set_option maxRecDepth 20000 in
theorem ggX6_focus_X6_timeOf : GoodIn wsX6_focus wsX6_timeOf := goodIn_r _ [28, 29, 30, 31, 32, 9, 33, 34, 35, 36, 12, 37, 38, 39, 40, 41, 42, 43, 44, 45, 46, 47, 48, 49, 50, 51, 52, 53, 54, 55, 56, 57, 58, 59, 60, 61, 62, 63, 64, 65, 66, 67, 68, 69] (by decide +kernel) (by decide +kernel)
set_option maxRecDepth 20000 in
theorem gX6_focus_X6_timeOf : GoodIn wsX6_focus (wsV RX6 105 RX6 yX6_timeOf wsX6_timeOf) := goodIn_app (goodIn_of _ (by decide +kernel)) ggX6_focus_X6_timeOf
theorem dX6_focus_0 : decode cX6_focus 0 = .ok (.aload_n 0, 1) := by decide +kernel
theorem dX6_focus_1 : decode cX6_focus 1 = .ok (.iconst 0, 1) := by decide +kernel
theorem dX6_focus_2 : decode cX6_focus 2 = .ok (.putfield 75, 3) := by decide +kernel
theorem dX6_focus_5 : decode cX6_focus 5 = .ok (.aload_n 0, 1) := by decide +kernel
theorem dX6_focus_6 : decode cX6_focus 6 = .ok (.iload_n 1, 1) := by decide +kernel
theorem dX6_focus_7 : decode cX6_focus 7 = .ok (.iload_n 2, 1) := by decide +kernel
theorem dX6_focus_8 : decode cX6_focus 8 = .ok (.invokevirtual 144, 3) := by decide +kernel
theorem dX6_focus_11 : decode cX6_focus 11 = .ok (.ifCond .ne 6, 3) := by decide +kernel
theorem dX6_focus_14 : decode cX6_focus 14 = .ok (.bipush (-2), 2) := by decide +kernel
theorem dX6_focus_16 : decode cX6_focus 16 = .ok (.ireturn, 1) := by decide +kernel
theorem dX6_focus_17 : decode cX6_focus 17 = .ok (.aload_n 0, 1) := by decide +kernel
theorem dX6_focus_18 : decode cX6_focus 18 = .ok (.invokevirtual 139, 3) := by decide +kernel
theorem dX6_focus_21 : decode cX6_focus 21 = .ok (.ifCond .ne 6, 3) := by decide +kernel
theorem dX6_focus_24 : decode cX6_focus 24 = .ok (.bipush (-3), 2) := by decide +kernel
theorem dX6_focus_26 : decode cX6_focus 26 = .ok (.ireturn, 1) := by decide +kernel
theorem dX6_focus_27 : decode cX6_focus 27 = .ok (.iconst 0, 1) := by decide +kernel
theorem dX6_focus_28 : decode cX6_focus 28 = .ok (.istore_n 3, 1) := by decide +kernel
theorem dX6_focus_29 : decode cX6_focus 29 = .ok (.iconst 0, 1) := by decide +kernel
theorem dX6_focus_30 : decode cX6_focus 30 = .ok (.istore 4, 2) := by decide +kernel
theorem dX6_focus_32 : decode cX6_focus 32 = .ok (.iload 4, 2) := by decide +kernel
theorem dX6_focus_34 : decode cX6_focus 34 = .ok (.aload_n 0, 1) := by decide +kernel
theorem dX6_focus_35 : decode cX6_focus 35 = .ok (.getfield 94, 3) := by decide +kernel
theorem dX6_focus_38 : decode cX6_focus 38 = .ok (.if_icmp .ge 44, 3) := by decide +kernel
theorem dX6_focus_41 : decode cX6_focus 41 = .ok (.aload_n 0, 1) := by decide +kernel
theorem dX6_focus_42 : decode cX6_focus 42 = .ok (.getfield 23, 3) := by decide +kernel
theorem dX6_focus_45 : decode cX6_focus 45 = .ok (.iload 4, 2) := by decide +kernel
theorem dX6_focus_47 : decode cX6_focus 47 = .ok (.baload, 1) := by decide +kernel
theorem dX6_focus_48 : decode cX6_focus 48 = .ok (.ifCond .ne 26, 3) := by decide +kernel
theorem dX6_focus_51 : decode cX6_focus 51 = .ok (.aload_n 0, 1) := by decide +kernel
theorem dX6_focus_52 : decode cX6_focus 52 = .ok (.iload 4, 2) := by decide +kernel
theorem dX6_focus_54 : decode cX6_focus 54 = .ok (.iload_n 1, 1) := by decide +kernel
theorem dX6_focus_55 : decode cX6_focus 55 = .ok (.iload_n 2, 1) := by decide +kernel
theorem dX6_focus_56 : decode cX6_focus 56 = .ok (.invokevirtual 105, 3) := by decide +kernel
theorem dX6_focus_59 : decode cX6_focus 59 = .ok (.iload_n 3, 1) := by decide +kernel
theorem dX6_focus_60 : decode cX6_focus 60 = .ok (.if_icmp .le 14, 3) := by decide +kernel
theorem dX6_focus_63 : decode cX6_focus 63 = .ok (.aload_n 0, 1) := by decide +kernel
theorem dX6_focus_64 : decode cX6_focus 64 = .ok (.iload 4, 2) := by decide +kernel
theorem dX6_focus_66 : decode cX6_focus 66 = .ok (.iload_n 1, 1) := by decide +kernel
theorem dX6_focus_67 : decode cX6_focus 67 = .ok (.iload_n 2, 1) := by decide +kernel
theorem dX6_focus_68 : decode cX6_focus 68 = .ok (.invokevirtual 105, 3) := by decide +kernel
theorem dX6_focus_71 : decode cX6_focus 71 = .ok (.goto 4, 3) := by decide +kernel
theorem dX6_focus_74 : decode cX6_focus 74 = .ok (.iload_n 3, 1) := by decide +kernel
theorem dX6_focus_75 : decode cX6_focus 75 = .ok (.istore_n 3, 1) := by decide +kernel
theorem dX6_focus_76 : decode cX6_focus 76 = .ok (.iinc 4 1, 3) := by decide +kernel
theorem dX6_focus_79 : decode cX6_focus 79 = .ok (.goto (-47), 3) := by decide +kernel
theorem dX6_focus_82 : decode cX6_focus 82 = .ok (.iconst 0, 1) := by decide +kernel
theorem dX6_focus_83 : decode cX6_focus 83 = .ok (.istore 4, 2) := by decide +kernel
theorem dX6_focus_85 : decode cX6_focus 85 = .ok (.iload 4, 2) := by decide +kernel
theorem dX6_focus_87 : decode cX6_focus 87 = .ok (.aload_n 0, 1) := by decide +kernel
theorem dX6_focus_88 : decode cX6_focus 88 = .ok (.getfield 94, 3) := by decide +kernel
theorem dX6_focus_91 : decode cX6_focus 91 = .ok (.if_icmp .ge 26, 3) := by decide +kernel
theorem dX6_focus_94 : decode cX6_focus 94 = .ok (.aload_n 0, 1) := by decide +kernel
theorem dX6_focus_95 : decode cX6_focus 95 = .ok (.getfield 51, 3) := by decide +kernel
theorem dX6_focus_98 : decode cX6_focus 98 = .ok (.iload 4, 2) := by decide +kernel
theorem dX6_focus_100 : decode cX6_focus 100 = .ok (.iload_n 3, 1) := by decide +kernel
theorem dX6_focus_101 : decode cX6_focus 101 = .ok (.aload_n 0, 1) := by decide +kernel
theorem dX6_focus_102 : decode cX6_focus 102 = .ok (.iload 4, 2) := by decide +kernel
theorem dX6_focus_104 : decode cX6_focus 104 = .ok (.iload_n 1, 1) := by decide +kernel
theorem dX6_focus_105 : decode cX6_focus 105 = .ok (.iload_n 2, 1) := by decide +kernel
theorem dX6_focus_106 : decode cX6_focus 106 = .ok (.invokevirtual 105, 3) := by decide +kernel
theorem dX6_focus_109 : decode cX6_focus 109 = .ok (.isub, 1) := by decide +kernel
theorem dX6_focus_110 : decode cX6_focus 110 = .ok (.iastore, 1) := by decide +kernel
theorem dX6_focus_111 : decode cX6_focus 111 = .ok (.iinc 4 1, 3) := by decide +kernel
theorem dX6_focus_114 : decode cX6_focus 114 = .ok (.goto (-29), 3) := by decide +kernel
theorem dX6_focus_117 : decode cX6_focus 117 = .ok (.aload_n 0, 1) := by decide +kernel
theorem dX6_focus_118 : decode cX6_focus 118 = .ok (.iconst 1, 1) := by decide +kernel
theorem dX6_focus_119 : decode cX6_focus 119 = .ok (.putfield 128, 3) := by decide +kernel
theorem dX6_focus_122 : decode cX6_focus 122 = .ok (.iload_n 3, 1) := by decide +kernel
theorem dX6_focus_123 : decode cX6_focus 123 = .ok (.ireturn, 1) := by decide +kernel
set_option maxRecDepth 20000 in
theorem ggX6_delay_X6_noElement : GoodIn wsX6_delay wsX6_noElement := goodIn_r _ [10, 11, 12, 13, 9, 14, 15, 16, 17, 18, 19, 20, 21, 22, 23, 24, 25, 26, 27, 28, 29, 30, 31, 32, 33, 34, 35, 36, 37, 38, 39, 40, 41, 42] (by decide +kernel) (by decide +kernel)
set_option maxRecDepth 20000 in
theorem gX6_delay_X6_noElement : GoodIn wsX6_delay (wsV RX6 135 RX6 yX6_noElement wsX6_noElement) := goodIn_app (goodIn_of _ (by decide +kernel)) ggX6_delay_X6_noElement
theorem dX6_delay_0 : decode cX6_delay 0 = .ok (.aload_n 0, 1) := by decide +kernel
theorem dX6_delay_1 : decode cX6_delay 1 = .ok (.iconst 0, 1) := by decide +kernel
theorem dX6_delay_2 : decode cX6_delay 2 = .ok (.putfield 75, 3) := by decide +kernel
theorem dX6_delay_5 : decode cX6_delay 5 = .ok (.aload_n 0, 1) := by decide +kernel
theorem dX6_delay_6 : decode cX6_delay 6 = .ok (.iload_n 1, 1) := by decide +kernel
theorem dX6_delay_7 : decode cX6_delay 7 = .ok (.invokevirtual 135, 3) := by decide +kernel
theorem dX6_delay_10 : decode cX6_delay 10 = .ok (.ifCond .eq 7, 3) := by decide +kernel
theorem dX6_delay_13 : decode cX6_delay 13 = .ok (.iconst (-1), 1) := by decide +kernel
theorem dX6_delay_14 : decode cX6_delay 14 = .ok (.goto 35, 3) := by decide +kernel
theorem dX6_delay_17 : decode cX6_delay 17 = .ok (.aload_n 0, 1) := by decide +kernel
theorem dX6_delay_18 : decode cX6_delay 18 = .ok (.getfield 128, 3) := by decide +kernel
theorem dX6_delay_21 : decode cX6_delay 21 = .ok (.ifCond .ne 8, 3) := by decide +kernel
theorem dX6_delay_24 : decode cX6_delay 24 = .ok (.bipush (-3), 2) := by decide +kernel
theorem dX6_delay_26 : decode cX6_delay 26 = .ok (.goto 23, 3) := by decide +kernel
theorem dX6_delay_29 : decode cX6_delay 29 = .ok (.aload_n 0, 1) := by decide +kernel
theorem dX6_delay_30 : decode cX6_delay 30 = .ok (.getfield 23, 3) := by decide +kernel
theorem dX6_delay_33 : decode cX6_delay 33 = .ok (.iload_n 1, 1) := by decide +kernel
theorem dX6_delay_34 : decode cX6_delay 34 = .ok (.baload, 1) := by decide +kernel
theorem dX6_delay_35 : decode cX6_delay 35 = .ok (.ifCond .eq 8, 3) := by decide +kernel
theorem dX6_delay_38 : decode cX6_delay 38 = .ok (.ldc 161, 2) := by decide +kernel
theorem dX6_delay_40 : decode cX6_delay 40 = .ok (.goto 9, 3) := by decide +kernel
theorem dX6_delay_43 : decode cX6_delay 43 = .ok (.aload_n 0, 1) := by decide +kernel
theorem dX6_delay_44 : decode cX6_delay 44 = .ok (.getfield 51, 3) := by decide +kernel
theorem dX6_delay_47 : decode cX6_delay 47 = .ok (.iload_n 1, 1) := by decide +kernel
theorem dX6_delay_48 : decode cX6_delay 48 = .ok (.iaload, 1) := by decide +kernel
theorem dX6_delay_49 : decode cX6_delay 49 = .ok (.ireturn, 1) := by decide +kernel
set_option maxRecDepth 20000 in
theorem ggX6_heardAt_X6_echoAt : GoodIn wsX6_heardAt wsX6_echoAt := goodIn_r _ [8, 9, 2, 10, 11, 12, 13, 7, 14, 15, 16, 17, 18, 19, 20, 21, 22, 23, 24, 25, 26, 27, 28, 29, 30, 31, 32, 33, 34, 35, 36, 37, 38, 39, 40, 41, 42, 43, 44, 45, 46, 47, 48, 49, 50, 51, 52, 53, 54, 55, 56, 57, 58, 59, 60, 61, 62, 63, 64, 65, 66, 67, 68, 69, 70, 71, 72, 73, 74, 75, 76, 77] (by decide +kernel) (by decide +kernel)
set_option maxRecDepth 20000 in
theorem gX6_heardAt_X6_echoAt : GoodIn wsX6_heardAt (wsV RX6 157 RX6 yX6_echoAt wsX6_echoAt) := goodIn_app (goodIn_of _ (by decide +kernel)) ggX6_heardAt_X6_echoAt
theorem dX6_heardAt_0 : decode cX6_heardAt 0 = .ok (.iconst 0, 1) := by decide +kernel
theorem dX6_heardAt_1 : decode cX6_heardAt 1 = .ok (.istore 4, 2) := by decide +kernel
theorem dX6_heardAt_3 : decode cX6_heardAt 3 = .ok (.iconst 0, 1) := by decide +kernel
theorem dX6_heardAt_4 : decode cX6_heardAt 4 = .ok (.istore 5, 2) := by decide +kernel
theorem dX6_heardAt_6 : decode cX6_heardAt 6 = .ok (.iload 5, 2) := by decide +kernel
theorem dX6_heardAt_8 : decode cX6_heardAt 8 = .ok (.aload_n 0, 1) := by decide +kernel
theorem dX6_heardAt_9 : decode cX6_heardAt 9 = .ok (.getfield 94, 3) := by decide +kernel
theorem dX6_heardAt_12 : decode cX6_heardAt 12 = .ok (.if_icmp .ge 45, 3) := by decide +kernel
theorem dX6_heardAt_15 : decode cX6_heardAt 15 = .ok (.iload 4, 2) := by decide +kernel
theorem dX6_heardAt_17 : decode cX6_heardAt 17 = .ok (.aload_n 0, 1) := by decide +kernel
theorem dX6_heardAt_18 : decode cX6_heardAt 18 = .ok (.getfield 23, 3) := by decide +kernel
theorem dX6_heardAt_21 : decode cX6_heardAt 21 = .ok (.iload 5, 2) := by decide +kernel
theorem dX6_heardAt_23 : decode cX6_heardAt 23 = .ok (.baload, 1) := by decide +kernel
theorem dX6_heardAt_24 : decode cX6_heardAt 24 = .ok (.ifCond .eq 7, 3) := by decide +kernel
theorem dX6_heardAt_27 : decode cX6_heardAt 27 = .ok (.iconst 0, 1) := by decide +kernel
theorem dX6_heardAt_28 : decode cX6_heardAt 28 = .ok (.goto 20, 3) := by decide +kernel
theorem dX6_heardAt_31 : decode cX6_heardAt 31 = .ok (.aload_n 0, 1) := by decide +kernel
theorem dX6_heardAt_32 : decode cX6_heardAt 32 = .ok (.iload 5, 2) := by decide +kernel
theorem dX6_heardAt_34 : decode cX6_heardAt 34 = .ok (.iload_n 1, 1) := by decide +kernel
theorem dX6_heardAt_35 : decode cX6_heardAt 35 = .ok (.lload_n 2, 1) := by decide +kernel
theorem dX6_heardAt_36 : decode cX6_heardAt 36 = .ok (.aload_n 0, 1) := by decide +kernel
theorem dX6_heardAt_37 : decode cX6_heardAt 37 = .ok (.getfield 51, 3) := by decide +kernel
theorem dX6_heardAt_40 : decode cX6_heardAt 40 = .ok (.iload 5, 2) := by decide +kernel
theorem dX6_heardAt_42 : decode cX6_heardAt 42 = .ok (.iaload, 1) := by decide +kernel
theorem dX6_heardAt_43 : decode cX6_heardAt 43 = .ok (.i2l, 1) := by decide +kernel
theorem dX6_heardAt_44 : decode cX6_heardAt 44 = .ok (.lsub, 1) := by decide +kernel
theorem dX6_heardAt_45 : decode cX6_heardAt 45 = .ok (.invokevirtual 157, 3) := by decide +kernel
theorem dX6_heardAt_48 : decode cX6_heardAt 48 = .ok (.iadd, 1) := by decide +kernel
theorem dX6_heardAt_49 : decode cX6_heardAt 49 = .ok (.istore 4, 2) := by decide +kernel
theorem dX6_heardAt_51 : decode cX6_heardAt 51 = .ok (.iinc 5 1, 3) := by decide +kernel
theorem dX6_heardAt_54 : decode cX6_heardAt 54 = .ok (.goto (-48), 3) := by decide +kernel
theorem dX6_heardAt_57 : decode cX6_heardAt 57 = .ok (.iload 4, 2) := by decide +kernel
theorem dX6_heardAt_59 : decode cX6_heardAt 59 = .ok (.ireturn, 1) := by decide +kernel
set_option maxRecDepth 20000 in
theorem ggX6_heard_X6_noElement : GoodIn wsX6_heard wsX6_noElement := goodIn_r _ [7, 8, 9, 10, 6, 11, 63, 64, 65, 66, 67, 68, 69, 70, 71, 72, 73, 74, 75, 76, 77, 78, 79, 80, 81, 82, 83, 84, 85, 86, 87, 88, 89, 90] (by decide +kernel) (by decide +kernel)
set_option maxRecDepth 20000 in
theorem gX6_heard_X6_noElement : GoodIn wsX6_heard (wsV RX6 135 RX6 yX6_noElement wsX6_noElement) := goodIn_app (goodIn_of _ (by decide +kernel)) ggX6_heard_X6_noElement
set_option maxRecDepth 20000 in
theorem ggX6_heard_X6_heardAt : GoodIn wsX6_heard wsX6_heardAt := goodIn_r _ [15, 8, 16, 17, 18, 19, 20, 6, 21, 22, 23, 24, 25, 26, 27, 28, 29, 30, 31, 32, 33, 34, 35, 36, 37, 38, 39, 40, 41, 42, 43, 44, 45, 46, 47, 48, 49, 50, 51, 52, 53, 54, 55, 56, 57, 58, 59, 60, 61, 62, 63, 64, 65, 66, 67, 68, 69, 70, 71, 72, 73, 74, 75, 76, 77, 78, 79, 80, 81, 82, 83, 84, 85, 86, 87, 88, 89, 90] (by decide +kernel) (by decide +kernel)
set_option maxRecDepth 20000 in
theorem gX6_heard_X6_heardAt : GoodIn wsX6_heard (wsV RX6 162 RX6 yX6_heardAt wsX6_heardAt) := goodIn_app (goodIn_of _ (by decide +kernel)) ggX6_heard_X6_heardAt
theorem dX6_heard_0 : decode cX6_heard 0 = .ok (.aload_n 0, 1) := by decide +kernel
theorem dX6_heard_1 : decode cX6_heard 1 = .ok (.iconst 0, 1) := by decide +kernel
theorem dX6_heard_2 : decode cX6_heard 2 = .ok (.putfield 75, 3) := by decide +kernel
theorem dX6_heard_5 : decode cX6_heard 5 = .ok (.aload_n 0, 1) := by decide +kernel
theorem dX6_heard_6 : decode cX6_heard 6 = .ok (.iload_n 1, 1) := by decide +kernel
theorem dX6_heard_7 : decode cX6_heard 7 = .ok (.invokevirtual 135, 3) := by decide +kernel
theorem dX6_heard_10 : decode cX6_heard 10 = .ok (.ifCond .eq 7, 3) := by decide +kernel
theorem dX6_heard_13 : decode cX6_heard 13 = .ok (.iconst (-1), 1) := by decide +kernel
theorem dX6_heard_14 : decode cX6_heard 14 = .ok (.goto 22, 3) := by decide +kernel
theorem dX6_heard_17 : decode cX6_heard 17 = .ok (.aload_n 0, 1) := by decide +kernel
theorem dX6_heard_18 : decode cX6_heard 18 = .ok (.getfield 128, 3) := by decide +kernel
theorem dX6_heard_21 : decode cX6_heard 21 = .ok (.ifCond .ne 8, 3) := by decide +kernel
theorem dX6_heard_24 : decode cX6_heard 24 = .ok (.bipush (-3), 2) := by decide +kernel
theorem dX6_heard_26 : decode cX6_heard 26 = .ok (.goto 10, 3) := by decide +kernel
theorem dX6_heard_29 : decode cX6_heard 29 = .ok (.aload_n 0, 1) := by decide +kernel
theorem dX6_heard_30 : decode cX6_heard 30 = .ok (.iload_n 1, 1) := by decide +kernel
theorem dX6_heard_31 : decode cX6_heard 31 = .ok (.iload_n 2, 1) := by decide +kernel
theorem dX6_heard_32 : decode cX6_heard 32 = .ok (.i2l, 1) := by decide +kernel
theorem dX6_heard_33 : decode cX6_heard 33 = .ok (.invokevirtual 162, 3) := by decide +kernel
theorem dX6_heard_36 : decode cX6_heard 36 = .ok (.ireturn, 1) := by decide +kernel
set_option maxRecDepth 20000 in
theorem ggX6_sum_X6_heardAt : GoodIn wsX6_sum wsX6_heardAt := goodIn_r _ [10, 3, 4, 5, 11, 12, 13, 9, 14, 15, 16, 17, 18, 19, 20, 21, 22, 23, 24, 25, 26, 27, 28, 29, 30, 31, 32, 33, 34, 35, 36, 37, 38, 39, 40, 41, 42, 43, 44, 45, 46, 47, 48, 49, 50, 51, 52, 53, 54, 55, 56, 57, 58, 59, 60, 61, 62, 63, 64, 65, 66, 67, 68, 69, 70, 71, 72, 73, 74, 75, 76, 77, 78, 79, 80, 81, 82, 83] (by decide +kernel) (by decide +kernel)
set_option maxRecDepth 20000 in
theorem gX6_sum_X6_heardAt : GoodIn wsX6_sum (wsV RX6 162 RX6 yX6_heardAt wsX6_heardAt) := goodIn_app (goodIn_of _ (by decide +kernel)) ggX6_sum_X6_heardAt
theorem dX6_sum_0 : decode cX6_sum 0 = .ok (.aload_n 0, 1) := by decide +kernel
theorem dX6_sum_1 : decode cX6_sum 1 = .ok (.iconst 0, 1) := by decide +kernel
theorem dX6_sum_2 : decode cX6_sum 2 = .ok (.putfield 75, 3) := by decide +kernel
theorem dX6_sum_5 : decode cX6_sum 5 = .ok (.aload_n 0, 1) := by decide +kernel
theorem dX6_sum_6 : decode cX6_sum 6 = .ok (.getfield 128, 3) := by decide +kernel
theorem dX6_sum_9 : decode cX6_sum 9 = .ok (.ifCond .ne 6, 3) := by decide +kernel
theorem dX6_sum_12 : decode cX6_sum 12 = .ok (.bipush (-3), 2) := by decide +kernel
theorem dX6_sum_14 : decode cX6_sum 14 = .ok (.ireturn, 1) := by decide +kernel
theorem dX6_sum_15 : decode cX6_sum 15 = .ok (.iconst 0, 1) := by decide +kernel
theorem dX6_sum_16 : decode cX6_sum 16 = .ok (.istore_n 2, 1) := by decide +kernel
theorem dX6_sum_17 : decode cX6_sum 17 = .ok (.iconst 0, 1) := by decide +kernel
theorem dX6_sum_18 : decode cX6_sum 18 = .ok (.istore_n 3, 1) := by decide +kernel
theorem dX6_sum_19 : decode cX6_sum 19 = .ok (.iload_n 3, 1) := by decide +kernel
theorem dX6_sum_20 : decode cX6_sum 20 = .ok (.aload_n 0, 1) := by decide +kernel
theorem dX6_sum_21 : decode cX6_sum 21 = .ok (.getfield 94, 3) := by decide +kernel
theorem dX6_sum_24 : decode cX6_sum 24 = .ok (.if_icmp .ge 40, 3) := by decide +kernel
theorem dX6_sum_27 : decode cX6_sum 27 = .ok (.iload_n 2, 1) := by decide +kernel
theorem dX6_sum_28 : decode cX6_sum 28 = .ok (.aload_n 0, 1) := by decide +kernel
theorem dX6_sum_29 : decode cX6_sum 29 = .ok (.getfield 23, 3) := by decide +kernel
theorem dX6_sum_32 : decode cX6_sum 32 = .ok (.iload_n 3, 1) := by decide +kernel
theorem dX6_sum_33 : decode cX6_sum 33 = .ok (.baload, 1) := by decide +kernel
theorem dX6_sum_34 : decode cX6_sum 34 = .ok (.ifCond .eq 7, 3) := by decide +kernel
theorem dX6_sum_37 : decode cX6_sum 37 = .ok (.iconst 0, 1) := by decide +kernel
theorem dX6_sum_38 : decode cX6_sum 38 = .ok (.goto 18, 3) := by decide +kernel
theorem dX6_sum_41 : decode cX6_sum 41 = .ok (.aload_n 0, 1) := by decide +kernel
theorem dX6_sum_42 : decode cX6_sum 42 = .ok (.iload_n 3, 1) := by decide +kernel
theorem dX6_sum_43 : decode cX6_sum 43 = .ok (.iload_n 1, 1) := by decide +kernel
theorem dX6_sum_44 : decode cX6_sum 44 = .ok (.i2l, 1) := by decide +kernel
theorem dX6_sum_45 : decode cX6_sum 45 = .ok (.aload_n 0, 1) := by decide +kernel
theorem dX6_sum_46 : decode cX6_sum 46 = .ok (.getfield 51, 3) := by decide +kernel
theorem dX6_sum_49 : decode cX6_sum 49 = .ok (.iload_n 3, 1) := by decide +kernel
theorem dX6_sum_50 : decode cX6_sum 50 = .ok (.iaload, 1) := by decide +kernel
theorem dX6_sum_51 : decode cX6_sum 51 = .ok (.i2l, 1) := by decide +kernel
theorem dX6_sum_52 : decode cX6_sum 52 = .ok (.lsub, 1) := by decide +kernel
theorem dX6_sum_53 : decode cX6_sum 53 = .ok (.invokevirtual 162, 3) := by decide +kernel
theorem dX6_sum_56 : decode cX6_sum 56 = .ok (.iadd, 1) := by decide +kernel
theorem dX6_sum_57 : decode cX6_sum 57 = .ok (.istore_n 2, 1) := by decide +kernel
theorem dX6_sum_58 : decode cX6_sum 58 = .ok (.iinc 3 1, 3) := by decide +kernel
theorem dX6_sum_61 : decode cX6_sum 61 = .ok (.goto (-42), 3) := by decide +kernel
theorem dX6_sum_64 : decode cX6_sum 64 = .ok (.iload_n 2, 1) := by decide +kernel
theorem dX6_sum_65 : decode cX6_sum 65 = .ok (.ireturn, 1) := by decide +kernel
set_option maxRecDepth 20000 in
theorem ggX6_board_X6_isPlace : GoodIn wsX6_board wsX6_isPlace := goodIn_r _ [7, 8, 9, 10, 11, 6, 12, 13, 14, 15, 16, 17, 58, 59, 60, 61, 62, 63, 64, 65, 66, 67, 68, 69, 70, 71, 72, 73, 74, 75, 76, 77, 78, 79, 80, 81, 82, 83, 84, 85] (by decide +kernel) (by decide +kernel)
set_option maxRecDepth 20000 in
theorem gX6_board_X6_isPlace : GoodIn wsX6_board (wsV RX6 144 RX6 yX6_isPlace wsX6_isPlace) := goodIn_app (goodIn_of _ (by decide +kernel)) ggX6_board_X6_isPlace
set_option maxRecDepth 20000 in
theorem ggX6_board_X6_timeOf : GoodIn wsX6_board wsX6_timeOf := goodIn_r _ [21, 22, 23, 24, 25, 6, 26, 27, 28, 29, 9, 30, 31, 32, 33, 34, 58, 59, 60, 61, 62, 63, 64, 65, 66, 67, 68, 69, 70, 71, 72, 73, 74, 75, 76, 77, 78, 79, 80, 81, 82, 83, 84, 85] (by decide +kernel) (by decide +kernel)
set_option maxRecDepth 20000 in
theorem gX6_board_X6_timeOf : GoodIn wsX6_board (wsV RX6 105 RX6 yX6_timeOf wsX6_timeOf) := goodIn_app (goodIn_of _ (by decide +kernel)) ggX6_board_X6_timeOf
set_option maxRecDepth 20000 in
theorem ggX6_board_X6_echoAt : GoodIn wsX6_board wsX6_echoAt := goodIn_r _ [38, 39, 40, 41, 42, 43, 44, 6, 45, 46, 47, 48, 49, 50, 51, 52, 53, 13, 14, 15, 16, 9, 17, 54, 55, 56, 57, 18, 19, 20, 21, 22, 23, 24, 25, 26, 27, 28, 29, 30, 31, 32, 33, 34, 58, 59, 60, 61, 62, 63, 64, 65, 66, 67, 68, 69, 70, 71, 72, 73, 74, 75, 76, 77, 78, 79, 80, 81, 82, 83, 84, 85] (by decide +kernel) (by decide +kernel)
set_option maxRecDepth 20000 in
theorem gX6_board_X6_echoAt : GoodIn wsX6_board (wsV RX6 157 RX6 yX6_echoAt wsX6_echoAt) := goodIn_app (goodIn_of _ (by decide +kernel)) ggX6_board_X6_echoAt
theorem dX6_board_0 : decode cX6_board 0 = .ok (.aload_n 0, 1) := by decide +kernel
theorem dX6_board_1 : decode cX6_board 1 = .ok (.iconst 0, 1) := by decide +kernel
theorem dX6_board_2 : decode cX6_board 2 = .ok (.putfield 75, 3) := by decide +kernel
theorem dX6_board_5 : decode cX6_board 5 = .ok (.aload_n 0, 1) := by decide +kernel
theorem dX6_board_6 : decode cX6_board 6 = .ok (.iload_n 1, 1) := by decide +kernel
theorem dX6_board_7 : decode cX6_board 7 = .ok (.iload_n 2, 1) := by decide +kernel
theorem dX6_board_8 : decode cX6_board 8 = .ok (.invokevirtual 144, 3) := by decide +kernel
theorem dX6_board_11 : decode cX6_board 11 = .ok (.ifCond .ne 6, 3) := by decide +kernel
theorem dX6_board_14 : decode cX6_board 14 = .ok (.bipush (-2), 2) := by decide +kernel
theorem dX6_board_16 : decode cX6_board 16 = .ok (.ireturn, 1) := by decide +kernel
theorem dX6_board_17 : decode cX6_board 17 = .ok (.iconst 0, 1) := by decide +kernel
theorem dX6_board_18 : decode cX6_board 18 = .ok (.istore_n 3, 1) := by decide +kernel
theorem dX6_board_19 : decode cX6_board 19 = .ok (.iconst 0, 1) := by decide +kernel
theorem dX6_board_20 : decode cX6_board 20 = .ok (.istore 4, 2) := by decide +kernel
theorem dX6_board_22 : decode cX6_board 22 = .ok (.iload 4, 2) := by decide +kernel
theorem dX6_board_24 : decode cX6_board 24 = .ok (.aload_n 0, 1) := by decide +kernel
theorem dX6_board_25 : decode cX6_board 25 = .ok (.getfield 94, 3) := by decide +kernel
theorem dX6_board_28 : decode cX6_board 28 = .ok (.if_icmp .ge 56, 3) := by decide +kernel
theorem dX6_board_31 : decode cX6_board 31 = .ok (.iconst 0, 1) := by decide +kernel
theorem dX6_board_32 : decode cX6_board 32 = .ok (.istore 5, 2) := by decide +kernel
theorem dX6_board_34 : decode cX6_board 34 = .ok (.iload 5, 2) := by decide +kernel
theorem dX6_board_36 : decode cX6_board 36 = .ok (.aload_n 0, 1) := by decide +kernel
theorem dX6_board_37 : decode cX6_board 37 = .ok (.getfield 94, 3) := by decide +kernel
theorem dX6_board_40 : decode cX6_board 40 = .ok (.if_icmp .ge 38, 3) := by decide +kernel
theorem dX6_board_43 : decode cX6_board 43 = .ok (.iload_n 3, 1) := by decide +kernel
theorem dX6_board_44 : decode cX6_board 44 = .ok (.aload_n 0, 1) := by decide +kernel
theorem dX6_board_45 : decode cX6_board 45 = .ok (.iload 4, 2) := by decide +kernel
theorem dX6_board_47 : decode cX6_board 47 = .ok (.iload 5, 2) := by decide +kernel
theorem dX6_board_49 : decode cX6_board 49 = .ok (.aload_n 0, 1) := by decide +kernel
theorem dX6_board_50 : decode cX6_board 50 = .ok (.iload 4, 2) := by decide +kernel
theorem dX6_board_52 : decode cX6_board 52 = .ok (.iload_n 1, 1) := by decide +kernel
theorem dX6_board_53 : decode cX6_board 53 = .ok (.iload_n 2, 1) := by decide +kernel
theorem dX6_board_54 : decode cX6_board 54 = .ok (.invokevirtual 105, 3) := by decide +kernel
theorem dX6_board_57 : decode cX6_board 57 = .ok (.aload_n 0, 1) := by decide +kernel
theorem dX6_board_58 : decode cX6_board 58 = .ok (.iload 5, 2) := by decide +kernel
theorem dX6_board_60 : decode cX6_board 60 = .ok (.iload_n 1, 1) := by decide +kernel
theorem dX6_board_61 : decode cX6_board 61 = .ok (.iload_n 2, 1) := by decide +kernel
theorem dX6_board_62 : decode cX6_board 62 = .ok (.invokevirtual 105, 3) := by decide +kernel
theorem dX6_board_65 : decode cX6_board 65 = .ok (.iadd, 1) := by decide +kernel
theorem dX6_board_66 : decode cX6_board 66 = .ok (.i2l, 1) := by decide +kernel
theorem dX6_board_67 : decode cX6_board 67 = .ok (.invokevirtual 157, 3) := by decide +kernel
theorem dX6_board_70 : decode cX6_board 70 = .ok (.iadd, 1) := by decide +kernel
theorem dX6_board_71 : decode cX6_board 71 = .ok (.istore_n 3, 1) := by decide +kernel
theorem dX6_board_72 : decode cX6_board 72 = .ok (.iinc 5 1, 3) := by decide +kernel
theorem dX6_board_75 : decode cX6_board 75 = .ok (.goto (-41), 3) := by decide +kernel
theorem dX6_board_78 : decode cX6_board 78 = .ok (.iinc 4 1, 3) := by decide +kernel
theorem dX6_board_81 : decode cX6_board 81 = .ok (.goto (-59), 3) := by decide +kernel
theorem dX6_board_84 : decode cX6_board 84 = .ok (.iload_n 3, 1) := by decide +kernel
theorem dX6_board_85 : decode cX6_board 85 = .ok (.ireturn, 1) := by decide +kernel
set_option maxRecDepth 20000 in
theorem ggX6_tell_X6_noElement : GoodIn wsX6_tell wsX6_noElement := goodIn_r _ [11, 12, 13, 14, 10, 15, 16, 17, 18, 19, 20, 21, 22, 23, 24, 25, 26, 27, 28, 29, 30, 31, 32, 33, 34, 35, 36, 37, 38, 39, 40, 41, 42, 43] (by decide +kernel) (by decide +kernel)
set_option maxRecDepth 20000 in
theorem gX6_tell_X6_noElement : GoodIn wsX6_tell (wsV RX6 135 RX6 yX6_noElement wsX6_noElement) := goodIn_app (goodIn_of _ (by decide +kernel)) ggX6_tell_X6_noElement
set_option maxRecDepth 20000 in
theorem ggX6_tell_X6_in : GoodIn wsX6_tell wsX6_in := goodIn_r _ [15] (by decide +kernel) (by decide +kernel)
set_option maxRecDepth 20000 in
theorem gX6_tell_X6_in : GoodIn wsX6_tell (va_wsS RX6 86 yX6_in wsX6_in) := goodIn_app (goodIn_of _ (by decide +kernel)) ggX6_tell_X6_in
theorem dX6_tell_0 : decode cX6_tell 0 = .ok (.aload_n 0, 1) := by decide +kernel
theorem dX6_tell_1 : decode cX6_tell 1 = .ok (.iconst 0, 1) := by decide +kernel
theorem dX6_tell_2 : decode cX6_tell 2 = .ok (.putfield 75, 3) := by decide +kernel
theorem dX6_tell_5 : decode cX6_tell 5 = .ok (.aload_n 0, 1) := by decide +kernel
theorem dX6_tell_6 : decode cX6_tell 6 = .ok (.iload_n 1, 1) := by decide +kernel
theorem dX6_tell_7 : decode cX6_tell 7 = .ok (.invokevirtual 135, 3) := by decide +kernel
theorem dX6_tell_10 : decode cX6_tell 10 = .ok (.ifCond .ne 11, 3) := by decide +kernel
theorem dX6_tell_13 : decode cX6_tell 13 = .ok (.aload_n 0, 1) := by decide +kernel
theorem dX6_tell_14 : decode cX6_tell 14 = .ok (.iload_n 2, 1) := by decide +kernel
theorem dX6_tell_15 : decode cX6_tell 15 = .ok (.invokevirtual 135, 3) := by decide +kernel
theorem dX6_tell_18 : decode cX6_tell 18 = .ok (.ifCond .eq 5, 3) := by decide +kernel
theorem dX6_tell_21 : decode cX6_tell 21 = .ok (.iconst (-1), 1) := by decide +kernel
theorem dX6_tell_22 : decode cX6_tell 22 = .ok (.ireturn, 1) := by decide +kernel
theorem dX6_tell_23 : decode cX6_tell 23 = .ok (.iload_n 3, 1) := by decide +kernel
theorem dX6_tell_24 : decode cX6_tell 24 = .ok (.i2l, 1) := by decide +kernel
theorem dX6_tell_25 : decode cX6_tell 25 = .ok (.lconst 0, 1) := by decide +kernel
theorem dX6_tell_26 : decode cX6_tell 26 = .ok (.ldc2_w 166, 3) := by decide +kernel
theorem dX6_tell_29 : decode cX6_tell 29 = .ok (.invokestatic 86, 3) := by decide +kernel
theorem dX6_tell_32 : decode cX6_tell 32 = .ok (.ifCond .ne 6, 3) := by decide +kernel
theorem dX6_tell_35 : decode cX6_tell 35 = .ok (.bipush (-2), 2) := by decide +kernel
theorem dX6_tell_37 : decode cX6_tell 37 = .ok (.ireturn, 1) := by decide +kernel
theorem dX6_tell_38 : decode cX6_tell 38 = .ok (.aload_n 0, 1) := by decide +kernel
theorem dX6_tell_39 : decode cX6_tell 39 = .ok (.getfield 168, 3) := by decide +kernel
theorem dX6_tell_42 : decode cX6_tell 42 = .ok (.bipush 6, 2) := by decide +kernel
theorem dX6_tell_44 : decode cX6_tell 44 = .ok (.if_icmp .ne 6, 3) := by decide +kernel
theorem dX6_tell_47 : decode cX6_tell 47 = .ok (.bipush (-4), 2) := by decide +kernel
theorem dX6_tell_49 : decode cX6_tell 49 = .ok (.ireturn, 1) := by decide +kernel
theorem dX6_tell_50 : decode cX6_tell 50 = .ok (.aload_n 0, 1) := by decide +kernel
theorem dX6_tell_51 : decode cX6_tell 51 = .ok (.getfield 54, 3) := by decide +kernel
theorem dX6_tell_54 : decode cX6_tell 54 = .ok (.aload_n 0, 1) := by decide +kernel
theorem dX6_tell_55 : decode cX6_tell 55 = .ok (.getfield 168, 3) := by decide +kernel
theorem dX6_tell_58 : decode cX6_tell 58 = .ok (.iload_n 1, 1) := by decide +kernel
theorem dX6_tell_59 : decode cX6_tell 59 = .ok (.iastore, 1) := by decide +kernel
theorem dX6_tell_60 : decode cX6_tell 60 = .ok (.aload_n 0, 1) := by decide +kernel
theorem dX6_tell_61 : decode cX6_tell 61 = .ok (.getfield 57, 3) := by decide +kernel
theorem dX6_tell_64 : decode cX6_tell 64 = .ok (.aload_n 0, 1) := by decide +kernel
theorem dX6_tell_65 : decode cX6_tell 65 = .ok (.getfield 168, 3) := by decide +kernel
theorem dX6_tell_68 : decode cX6_tell 68 = .ok (.iload_n 2, 1) := by decide +kernel
theorem dX6_tell_69 : decode cX6_tell 69 = .ok (.iastore, 1) := by decide +kernel
theorem dX6_tell_70 : decode cX6_tell 70 = .ok (.aload_n 0, 1) := by decide +kernel
theorem dX6_tell_71 : decode cX6_tell 71 = .ok (.getfield 60, 3) := by decide +kernel
theorem dX6_tell_74 : decode cX6_tell 74 = .ok (.aload_n 0, 1) := by decide +kernel
theorem dX6_tell_75 : decode cX6_tell 75 = .ok (.getfield 168, 3) := by decide +kernel
theorem dX6_tell_78 : decode cX6_tell 78 = .ok (.iload_n 3, 1) := by decide +kernel
theorem dX6_tell_79 : decode cX6_tell 79 = .ok (.iastore, 1) := by decide +kernel
theorem dX6_tell_80 : decode cX6_tell 80 = .ok (.aload_n 0, 1) := by decide +kernel
theorem dX6_tell_81 : decode cX6_tell 81 = .ok (.dup, 1) := by decide +kernel
theorem dX6_tell_82 : decode cX6_tell 82 = .ok (.getfield 168, 3) := by decide +kernel
theorem dX6_tell_85 : decode cX6_tell 85 = .ok (.iconst 1, 1) := by decide +kernel
theorem dX6_tell_86 : decode cX6_tell 86 = .ok (.iadd, 1) := by decide +kernel
theorem dX6_tell_87 : decode cX6_tell 87 = .ok (.putfield 168, 3) := by decide +kernel
theorem dX6_tell_90 : decode cX6_tell 90 = .ok (.aload_n 0, 1) := by decide +kernel
theorem dX6_tell_91 : decode cX6_tell 91 = .ok (.getfield 168, 3) := by decide +kernel
theorem dX6_tell_94 : decode cX6_tell 94 = .ok (.ireturn, 1) := by decide +kernel
theorem dX6_forget_0 : decode cX6_forget 0 = .ok (.aload_n 0, 1) := by decide +kernel
theorem dX6_forget_1 : decode cX6_forget 1 = .ok (.iconst 0, 1) := by decide +kernel
theorem dX6_forget_2 : decode cX6_forget 2 = .ok (.putfield 75, 3) := by decide +kernel
theorem dX6_forget_5 : decode cX6_forget 5 = .ok (.aload_n 0, 1) := by decide +kernel
theorem dX6_forget_6 : decode cX6_forget 6 = .ok (.getfield 168, 3) := by decide +kernel
theorem dX6_forget_9 : decode cX6_forget 9 = .ok (.istore_n 1, 1) := by decide +kernel
theorem dX6_forget_10 : decode cX6_forget 10 = .ok (.aload_n 0, 1) := by decide +kernel
theorem dX6_forget_11 : decode cX6_forget 11 = .ok (.iconst 0, 1) := by decide +kernel
theorem dX6_forget_12 : decode cX6_forget 12 = .ok (.putfield 168, 3) := by decide +kernel
theorem dX6_forget_15 : decode cX6_forget 15 = .ok (.iload_n 1, 1) := by decide +kernel
theorem dX6_forget_16 : decode cX6_forget 16 = .ok (.ireturn, 1) := by decide +kernel
set_option maxRecDepth 20000 in
theorem ggX6_isNear_X6_timeOf : GoodIn wsX6_isNear wsX6_timeOf := goodIn_r _ [9, 10, 11, 12, 13, 8, 14, 15, 16, 17, 18, 19, 20, 21, 22, 23, 27, 28, 29, 30, 31, 32, 33, 34, 35, 36, 37, 38, 39, 40, 41, 42, 43, 44, 45, 46, 47, 48, 49, 50, 51, 52, 53, 54] (by decide +kernel) (by decide +kernel)
set_option maxRecDepth 20000 in
theorem gX6_isNear_X6_timeOf : GoodIn wsX6_isNear (wsV RX6 105 RX6 yX6_timeOf wsX6_timeOf) := goodIn_app (goodIn_of _ (by decide +kernel)) ggX6_isNear_X6_timeOf
set_option maxRecDepth 20000 in
theorem ggX6_isNear_X6_in : GoodIn wsX6_isNear wsX6_in := goodIn_r _ [26] (by decide +kernel) (by decide +kernel)
set_option maxRecDepth 20000 in
theorem gX6_isNear_X6_in : GoodIn wsX6_isNear (va_wsS RX6 86 yX6_in wsX6_in) := goodIn_app (goodIn_of _ (by decide +kernel)) ggX6_isNear_X6_in
theorem dX6_isNear_0 : decode cX6_isNear 0 = .ok (.iconst 0, 1) := by decide +kernel
theorem dX6_isNear_1 : decode cX6_isNear 1 = .ok (.istore 4, 2) := by decide +kernel
theorem dX6_isNear_3 : decode cX6_isNear 3 = .ok (.iload 4, 2) := by decide +kernel
theorem dX6_isNear_5 : decode cX6_isNear 5 = .ok (.aload_n 0, 1) := by decide +kernel
theorem dX6_isNear_6 : decode cX6_isNear 6 = .ok (.getfield 168, 3) := by decide +kernel
theorem dX6_isNear_9 : decode cX6_isNear 9 = .ok (.if_icmp .ge 62, 3) := by decide +kernel
theorem dX6_isNear_12 : decode cX6_isNear 12 = .ok (.aload_n 0, 1) := by decide +kernel
theorem dX6_isNear_13 : decode cX6_isNear 13 = .ok (.aload_n 0, 1) := by decide +kernel
theorem dX6_isNear_14 : decode cX6_isNear 14 = .ok (.getfield 54, 3) := by decide +kernel
theorem dX6_isNear_17 : decode cX6_isNear 17 = .ok (.iload 4, 2) := by decide +kernel
theorem dX6_isNear_19 : decode cX6_isNear 19 = .ok (.iaload, 1) := by decide +kernel
theorem dX6_isNear_20 : decode cX6_isNear 20 = .ok (.iload_n 1, 1) := by decide +kernel
theorem dX6_isNear_21 : decode cX6_isNear 21 = .ok (.iload_n 2, 1) := by decide +kernel
theorem dX6_isNear_22 : decode cX6_isNear 22 = .ok (.invokevirtual 105, 3) := by decide +kernel
theorem dX6_isNear_25 : decode cX6_isNear 25 = .ok (.aload_n 0, 1) := by decide +kernel
theorem dX6_isNear_26 : decode cX6_isNear 26 = .ok (.aload_n 0, 1) := by decide +kernel
theorem dX6_isNear_27 : decode cX6_isNear 27 = .ok (.getfield 57, 3) := by decide +kernel
theorem dX6_isNear_30 : decode cX6_isNear 30 = .ok (.iload 4, 2) := by decide +kernel
theorem dX6_isNear_32 : decode cX6_isNear 32 = .ok (.iaload, 1) := by decide +kernel
theorem dX6_isNear_33 : decode cX6_isNear 33 = .ok (.iload_n 1, 1) := by decide +kernel
theorem dX6_isNear_34 : decode cX6_isNear 34 = .ok (.iload_n 2, 1) := by decide +kernel
theorem dX6_isNear_35 : decode cX6_isNear 35 = .ok (.invokevirtual 105, 3) := by decide +kernel
theorem dX6_isNear_38 : decode cX6_isNear 38 = .ok (.iadd, 1) := by decide +kernel
theorem dX6_isNear_39 : decode cX6_isNear 39 = .ok (.aload_n 0, 1) := by decide +kernel
theorem dX6_isNear_40 : decode cX6_isNear 40 = .ok (.getfield 60, 3) := by decide +kernel
theorem dX6_isNear_43 : decode cX6_isNear 43 = .ok (.iload 4, 2) := by decide +kernel
theorem dX6_isNear_45 : decode cX6_isNear 45 = .ok (.iaload, 1) := by decide +kernel
theorem dX6_isNear_46 : decode cX6_isNear 46 = .ok (.isub, 1) := by decide +kernel
theorem dX6_isNear_47 : decode cX6_isNear 47 = .ok (.istore 5, 2) := by decide +kernel
theorem dX6_isNear_49 : decode cX6_isNear 49 = .ok (.iload 5, 2) := by decide +kernel
theorem dX6_isNear_51 : decode cX6_isNear 51 = .ok (.i2l, 1) := by decide +kernel
theorem dX6_isNear_52 : decode cX6_isNear 52 = .ok (.iload_n 3, 1) := by decide +kernel
theorem dX6_isNear_53 : decode cX6_isNear 53 = .ok (.ineg, 1) := by decide +kernel
theorem dX6_isNear_54 : decode cX6_isNear 54 = .ok (.i2l, 1) := by decide +kernel
theorem dX6_isNear_55 : decode cX6_isNear 55 = .ok (.iload_n 3, 1) := by decide +kernel
theorem dX6_isNear_56 : decode cX6_isNear 56 = .ok (.i2l, 1) := by decide +kernel
theorem dX6_isNear_57 : decode cX6_isNear 57 = .ok (.invokestatic 86, 3) := by decide +kernel
theorem dX6_isNear_60 : decode cX6_isNear 60 = .ok (.ifCond .ne 5, 3) := by decide +kernel
theorem dX6_isNear_63 : decode cX6_isNear 63 = .ok (.iconst 0, 1) := by decide +kernel
theorem dX6_isNear_64 : decode cX6_isNear 64 = .ok (.ireturn, 1) := by decide +kernel
theorem dX6_isNear_65 : decode cX6_isNear 65 = .ok (.iinc 4 1, 3) := by decide +kernel
theorem dX6_isNear_68 : decode cX6_isNear 68 = .ok (.goto (-65), 3) := by decide +kernel
theorem dX6_isNear_71 : decode cX6_isNear 71 = .ok (.iconst 1, 1) := by decide +kernel
theorem dX6_isNear_72 : decode cX6_isNear 72 = .ok (.ireturn, 1) := by decide +kernel
set_option maxRecDepth 20000 in
theorem ggX6_near_X6_floor : GoodIn wsX6_near wsX6_floor := goodIn_r _ [7, 1, 8, 37, 38, 39, 40, 41, 42, 43, 44, 45, 46, 47, 48, 49, 50, 51, 52, 53, 54, 55, 56, 57, 58, 59, 60, 61, 62, 63, 64] (by decide +kernel) (by decide +kernel)
set_option maxRecDepth 20000 in
theorem gX6_near_X6_floor : GoodIn wsX6_near (wsV RX6 90 RX6 yX6_floor wsX6_floor) := goodIn_app (goodIn_of _ (by decide +kernel)) ggX6_near_X6_floor
set_option maxRecDepth 20000 in
theorem ggX6_near_X6_isNear : GoodIn wsX6_near wsX6_isNear := goodIn_r _ [12, 13, 14, 15, 16, 17, 18, 19, 6, 20, 21, 22, 23, 24, 25, 26, 27, 28, 1, 29, 30, 31, 32, 33, 34, 35, 36, 37, 38, 39, 40, 41, 42, 43, 44, 45, 46, 47, 48, 49, 50, 51, 52, 53, 54, 55, 56, 57, 58, 59, 60, 61, 62, 63, 64] (by decide +kernel) (by decide +kernel)
set_option maxRecDepth 20000 in
theorem gX6_near_X6_isNear : GoodIn wsX6_near (wsV RX6 171 RX6 yX6_isNear wsX6_isNear) := goodIn_app (goodIn_of _ (by decide +kernel)) ggX6_near_X6_isNear
theorem dX6_near_0 : decode cX6_near 0 = .ok (.iconst 0, 1) := by decide +kernel
theorem dX6_near_1 : decode cX6_near 1 = .ok (.istore_n 3, 1) := by decide +kernel
theorem dX6_near_2 : decode cX6_near 2 = .ok (.aload_n 0, 1) := by decide +kernel
theorem dX6_near_3 : decode cX6_near 3 = .ok (.getfield 81, 3) := by decide +kernel
theorem dX6_near_6 : decode cX6_near 6 = .ok (.istore 4, 2) := by decide +kernel
theorem dX6_near_8 : decode cX6_near 8 = .ok (.iload 4, 2) := by decide +kernel
theorem dX6_near_10 : decode cX6_near 10 = .ok (.aload_n 0, 1) := by decide +kernel
theorem dX6_near_11 : decode cX6_near 11 = .ok (.invokevirtual 90, 3) := by decide +kernel
theorem dX6_near_14 : decode cX6_near 14 = .ok (.if_icmp .gt 55, 3) := by decide +kernel
theorem dX6_near_17 : decode cX6_near 17 = .ok (.iconst 0, 1) := by decide +kernel
theorem dX6_near_18 : decode cX6_near 18 = .ok (.istore 5, 2) := by decide +kernel
theorem dX6_near_20 : decode cX6_near 20 = .ok (.iload 5, 2) := by decide +kernel
theorem dX6_near_22 : decode cX6_near 22 = .ok (.bipush 51, 2) := by decide +kernel
theorem dX6_near_24 : decode cX6_near 24 = .ok (.if_icmp .ge 39, 3) := by decide +kernel
theorem dX6_near_27 : decode cX6_near 27 = .ok (.aload_n 0, 1) := by decide +kernel
theorem dX6_near_28 : decode cX6_near 28 = .ok (.iload 5, 2) := by decide +kernel
theorem dX6_near_30 : decode cX6_near 30 = .ok (.iload 4, 2) := by decide +kernel
theorem dX6_near_32 : decode cX6_near 32 = .ok (.iload_n 1, 1) := by decide +kernel
theorem dX6_near_33 : decode cX6_near 33 = .ok (.invokevirtual 171, 3) := by decide +kernel
theorem dX6_near_36 : decode cX6_near 36 = .ok (.ifCond .eq 21, 3) := by decide +kernel
theorem dX6_near_39 : decode cX6_near 39 = .ok (.iload_n 3, 1) := by decide +kernel
theorem dX6_near_40 : decode cX6_near 40 = .ok (.iload_n 2, 1) := by decide +kernel
theorem dX6_near_41 : decode cX6_near 41 = .ok (.if_icmp .ne 13, 3) := by decide +kernel
theorem dX6_near_44 : decode cX6_near 44 = .ok (.sipush 1000, 3) := by decide +kernel
theorem dX6_near_47 : decode cX6_near 47 = .ok (.iload 5, 2) := by decide +kernel
theorem dX6_near_49 : decode cX6_near 49 = .ok (.imul, 1) := by decide +kernel
theorem dX6_near_50 : decode cX6_near 50 = .ok (.iload 4, 2) := by decide +kernel
theorem dX6_near_52 : decode cX6_near 52 = .ok (.iadd, 1) := by decide +kernel
theorem dX6_near_53 : decode cX6_near 53 = .ok (.ireturn, 1) := by decide +kernel
theorem dX6_near_54 : decode cX6_near 54 = .ok (.iinc 3 1, 3) := by decide +kernel
theorem dX6_near_57 : decode cX6_near 57 = .ok (.iinc 5 1, 3) := by decide +kernel
theorem dX6_near_60 : decode cX6_near 60 = .ok (.goto (-40), 3) := by decide +kernel
theorem dX6_near_63 : decode cX6_near 63 = .ok (.iinc 4 1, 3) := by decide +kernel
theorem dX6_near_66 : decode cX6_near 66 = .ok (.goto (-58), 3) := by decide +kernel
theorem dX6_near_69 : decode cX6_near 69 = .ok (.iload_n 2, 1) := by decide +kernel
theorem dX6_near_70 : decode cX6_near 70 = .ok (.bipush (-2), 2) := by decide +kernel
theorem dX6_near_72 : decode cX6_near 72 = .ok (.if_icmp .ne 7, 3) := by decide +kernel
theorem dX6_near_75 : decode cX6_near 75 = .ok (.iload_n 3, 1) := by decide +kernel
theorem dX6_near_76 : decode cX6_near 76 = .ok (.goto 5, 3) := by decide +kernel
theorem dX6_near_79 : decode cX6_near 79 = .ok (.ldc 161, 2) := by decide +kernel
theorem dX6_near_81 : decode cX6_near 81 = .ok (.ireturn, 1) := by decide +kernel
set_option maxRecDepth 20000 in
theorem ggX6_places_X6_in : GoodIn wsX6_places wsX6_in := goodIn_r _ [6] (by decide +kernel) (by decide +kernel)
set_option maxRecDepth 20000 in
theorem gX6_places_X6_in : GoodIn wsX6_places (va_wsS RX6 86 yX6_in wsX6_in) := goodIn_app (goodIn_of _ (by decide +kernel)) ggX6_places_X6_in
set_option maxRecDepth 20000 in
theorem ggX6_places_X6_near : GoodIn wsX6_places wsX6_near := goodIn_r _ [10, 11, 12, 13, 14, 15, 5, 16, 17, 18, 19, 20, 21, 22, 23, 24, 25, 26, 27, 28, 29, 30, 31, 32, 33, 34, 35, 36, 37, 38, 39, 40, 41, 42, 3, 4, 6, 43, 44, 45, 46, 47, 48, 49, 50, 51, 52, 53, 54, 55, 56, 57, 58, 59, 60, 61, 62, 63, 64, 65, 66, 67, 68, 69, 70] (by decide +kernel) (by decide +kernel)
set_option maxRecDepth 20000 in
theorem gX6_places_X6_near : GoodIn wsX6_places (wsV RX6 177 RX6 yX6_near wsX6_near) := goodIn_app (goodIn_of _ (by decide +kernel)) ggX6_places_X6_near
theorem dX6_places_0 : decode cX6_places 0 = .ok (.aload_n 0, 1) := by decide +kernel
theorem dX6_places_1 : decode cX6_places 1 = .ok (.iconst 0, 1) := by decide +kernel
theorem dX6_places_2 : decode cX6_places 2 = .ok (.putfield 75, 3) := by decide +kernel
theorem dX6_places_5 : decode cX6_places 5 = .ok (.iload_n 1, 1) := by decide +kernel
theorem dX6_places_6 : decode cX6_places 6 = .ok (.i2l, 1) := by decide +kernel
theorem dX6_places_7 : decode cX6_places 7 = .ok (.lconst 0, 1) := by decide +kernel
theorem dX6_places_8 : decode cX6_places 8 = .ok (.ldc2_w 175, 3) := by decide +kernel
theorem dX6_places_11 : decode cX6_places 11 = .ok (.invokestatic 86, 3) := by decide +kernel
theorem dX6_places_14 : decode cX6_places 14 = .ok (.ifCond .eq 13, 3) := by decide +kernel
theorem dX6_places_17 : decode cX6_places 17 = .ok (.aload_n 0, 1) := by decide +kernel
theorem dX6_places_18 : decode cX6_places 18 = .ok (.iload_n 1, 1) := by decide +kernel
theorem dX6_places_19 : decode cX6_places 19 = .ok (.bipush (-2), 2) := by decide +kernel
theorem dX6_places_21 : decode cX6_places 21 = .ok (.invokevirtual 177, 3) := by decide +kernel
theorem dX6_places_24 : decode cX6_places 24 = .ok (.goto 5, 3) := by decide +kernel
theorem dX6_places_27 : decode cX6_places 27 = .ok (.bipush (-2), 2) := by decide +kernel
theorem dX6_places_29 : decode cX6_places 29 = .ok (.ireturn, 1) := by decide +kernel
set_option maxRecDepth 20000 in
theorem ggX6_place_X6_in : GoodIn wsX6_place wsX6_in := goodIn_r _ [7] (by decide +kernel) (by decide +kernel)
set_option maxRecDepth 20000 in
theorem gX6_place_X6_in : GoodIn wsX6_place (va_wsS RX6 86 yX6_in wsX6_in) := goodIn_app (goodIn_of _ (by decide +kernel)) ggX6_place_X6_in
set_option maxRecDepth 20000 in
theorem ggX6_place_X6_near : GoodIn wsX6_place wsX6_near := goodIn_r _ [11, 12, 3, 13, 14, 15, 6, 16, 17, 18, 19, 20, 21, 22, 23, 24, 25, 26, 27, 28, 29, 30, 31, 32, 33, 34, 35, 36, 37, 38, 39, 40, 41, 42, 4, 5, 7, 43, 44, 45, 46, 47, 48, 49, 50, 51, 52, 53, 54, 55, 56, 57, 58, 59, 60, 61, 62, 63, 64, 65, 66, 67, 68, 69, 70] (by decide +kernel) (by decide +kernel)
set_option maxRecDepth 20000 in
theorem gX6_place_X6_near : GoodIn wsX6_place (wsV RX6 177 RX6 yX6_near wsX6_near) := goodIn_app (goodIn_of _ (by decide +kernel)) ggX6_place_X6_near
theorem dX6_place_0 : decode cX6_place 0 = .ok (.aload_n 0, 1) := by decide +kernel
theorem dX6_place_1 : decode cX6_place 1 = .ok (.iconst 0, 1) := by decide +kernel
theorem dX6_place_2 : decode cX6_place 2 = .ok (.putfield 75, 3) := by decide +kernel
theorem dX6_place_5 : decode cX6_place 5 = .ok (.iload_n 1, 1) := by decide +kernel
theorem dX6_place_6 : decode cX6_place 6 = .ok (.i2l, 1) := by decide +kernel
theorem dX6_place_7 : decode cX6_place 7 = .ok (.lconst 0, 1) := by decide +kernel
theorem dX6_place_8 : decode cX6_place 8 = .ok (.ldc2_w 175, 3) := by decide +kernel
theorem dX6_place_11 : decode cX6_place 11 = .ok (.invokestatic 86, 3) := by decide +kernel
theorem dX6_place_14 : decode cX6_place 14 = .ok (.ifCond .ne 8, 3) := by decide +kernel
theorem dX6_place_17 : decode cX6_place 17 = .ok (.bipush (-2), 2) := by decide +kernel
theorem dX6_place_19 : decode cX6_place 19 = .ok (.goto 18, 3) := by decide +kernel
theorem dX6_place_22 : decode cX6_place 22 = .ok (.iload_n 2, 1) := by decide +kernel
theorem dX6_place_23 : decode cX6_place 23 = .ok (.ifCond .ge 8, 3) := by decide +kernel
theorem dX6_place_26 : decode cX6_place 26 = .ok (.ldc 161, 2) := by decide +kernel
theorem dX6_place_28 : decode cX6_place 28 = .ok (.goto 9, 3) := by decide +kernel
theorem dX6_place_31 : decode cX6_place 31 = .ok (.aload_n 0, 1) := by decide +kernel
theorem dX6_place_32 : decode cX6_place 32 = .ok (.iload_n 1, 1) := by decide +kernel
theorem dX6_place_33 : decode cX6_place 33 = .ok (.iload_n 2, 1) := by decide +kernel
theorem dX6_place_34 : decode cX6_place 34 = .ok (.invokevirtual 177, 3) := by decide +kernel
theorem dX6_place_37 : decode cX6_place 37 = .ok (.ireturn, 1) := by decide +kernel
set_option maxRecDepth 20000 in
theorem ggX6_isSheet_X6_in : GoodIn wsX6_isSheet wsX6_in := goodIn_r _ [5] (by decide +kernel) (by decide +kernel)
set_option maxRecDepth 20000 in
theorem gX6_isSheet_X6_in : GoodIn wsX6_isSheet (va_wsS RX6 86 yX6_in wsX6_in) := goodIn_app (goodIn_of _ (by decide +kernel)) ggX6_isSheet_X6_in
theorem dX6_isSheet_0 : decode cX6_isSheet 0 = .ok (.iload_n 0, 1) := by decide +kernel
theorem dX6_isSheet_1 : decode cX6_isSheet 1 = .ok (.i2l, 1) := by decide +kernel
theorem dX6_isSheet_2 : decode cX6_isSheet 2 = .ok (.lconst 0, 1) := by decide +kernel
theorem dX6_isSheet_3 : decode cX6_isSheet 3 = .ok (.ldc2_w 181, 3) := by decide +kernel
theorem dX6_isSheet_6 : decode cX6_isSheet 6 = .ok (.invokestatic 86, 3) := by decide +kernel
theorem dX6_isSheet_9 : decode cX6_isSheet 9 = .ok (.ireturn, 1) := by decide +kernel
theorem dX6_as_0 : decode cX6_as 0 = .ok (.iload_n 0, 1) := by decide +kernel
theorem dX6_as_1 : decode cX6_as 1 = .ok (.ifCond .ne 9, 3) := by decide +kernel
theorem dX6_as_4 : decode cX6_as 4 = .ok (.ldc2_w 183, 3) := by decide +kernel
theorem dX6_as_7 : decode cX6_as 7 = .ok (.goto 17, 3) := by decide +kernel
theorem dX6_as_10 : decode cX6_as 10 = .ok (.iload_n 0, 1) := by decide +kernel
theorem dX6_as_11 : decode cX6_as 11 = .ok (.iconst 1, 1) := by decide +kernel
theorem dX6_as_12 : decode cX6_as 12 = .ok (.if_icmp .ne 9, 3) := by decide +kernel
theorem dX6_as_15 : decode cX6_as 15 = .ok (.ldc2_w 185, 3) := by decide +kernel
theorem dX6_as_18 : decode cX6_as 18 = .ok (.goto 6, 3) := by decide +kernel
theorem dX6_as_21 : decode cX6_as 21 = .ok (.ldc2_w 187, 3) := by decide +kernel
theorem dX6_as_24 : decode cX6_as 24 = .ok (.lstore_n 3, 1) := by decide +kernel
theorem dX6_as_25 : decode cX6_as 25 = .ok (.lload_n 1, 1) := by decide +kernel
theorem dX6_as_26 : decode cX6_as 26 = .ok (.lload_n 3, 1) := by decide +kernel
theorem dX6_as_27 : decode cX6_as 27 = .ok (.lcmp, 1) := by decide +kernel
theorem dX6_as_28 : decode cX6_as 28 = .ok (.ifCond .le 7, 3) := by decide +kernel
theorem dX6_as_31 : decode cX6_as 31 = .ok (.lload_n 3, 1) := by decide +kernel
theorem dX6_as_32 : decode cX6_as 32 = .ok (.goto 20, 3) := by decide +kernel
theorem dX6_as_35 : decode cX6_as 35 = .ok (.lload_n 1, 1) := by decide +kernel
theorem dX6_as_36 : decode cX6_as 36 = .ok (.lload_n 3, 1) := by decide +kernel
theorem dX6_as_37 : decode cX6_as 37 = .ok (.lneg, 1) := by decide +kernel
theorem dX6_as_38 : decode cX6_as 38 = .ok (.lconst 1, 1) := by decide +kernel
theorem dX6_as_39 : decode cX6_as 39 = .ok (.lsub, 1) := by decide +kernel
theorem dX6_as_40 : decode cX6_as 40 = .ok (.lcmp, 1) := by decide +kernel
theorem dX6_as_41 : decode cX6_as 41 = .ok (.ifCond .ge 10, 3) := by decide +kernel
theorem dX6_as_44 : decode cX6_as 44 = .ok (.lload_n 3, 1) := by decide +kernel
theorem dX6_as_45 : decode cX6_as 45 = .ok (.lneg, 1) := by decide +kernel
theorem dX6_as_46 : decode cX6_as 46 = .ok (.lconst 1, 1) := by decide +kernel
theorem dX6_as_47 : decode cX6_as 47 = .ok (.lsub, 1) := by decide +kernel
theorem dX6_as_48 : decode cX6_as 48 = .ok (.goto 4, 3) := by decide +kernel
theorem dX6_as_51 : decode cX6_as 51 = .ok (.lload_n 1, 1) := by decide +kernel
theorem dX6_as_52 : decode cX6_as 52 = .ok (.l2i, 1) := by decide +kernel
theorem dX6_as_53 : decode cX6_as 53 = .ok (.ireturn, 1) := by decide +kernel
set_option maxRecDepth 20000 in
theorem ggX6_sheet_X6_isSheet : GoodIn wsX6_sheet wsX6_isSheet := goodIn_r _ [9, 10, 11, 12, 8, 13] (by decide +kernel) (by decide +kernel)
set_option maxRecDepth 20000 in
theorem gX6_sheet_X6_isSheet : GoodIn wsX6_sheet (va_wsS RX6 189 yX6_isSheet wsX6_isSheet) := goodIn_app (goodIn_of _ (by decide +kernel)) ggX6_sheet_X6_isSheet
set_option maxRecDepth 20000 in
theorem ggX6_sheet_X6_finds : GoodIn wsX6_sheet wsX6_finds := goodIn_r _ [17, 18, 19, 20, 21, 22, 23, 24, 25, 26, 27, 28, 29, 30, 31, 32, 33, 34, 35, 36, 37, 38, 39, 40, 41, 42, 43, 44, 45, 46] (by decide +kernel) (by decide +kernel)
set_option maxRecDepth 20000 in
theorem gX6_sheet_X6_finds : GoodIn wsX6_sheet (wsV RX6 154 RX6 yX6_finds wsX6_finds) := goodIn_app (goodIn_of _ (by decide +kernel)) ggX6_sheet_X6_finds
set_option maxRecDepth 20000 in
theorem ggX6_sheet_X6_in : GoodIn wsX6_sheet wsX6_in := goodIn_r _ [13] (by decide +kernel) (by decide +kernel)
set_option maxRecDepth 20000 in
theorem gX6_sheet_X6_in : GoodIn wsX6_sheet (va_wsS RX6 86 yX6_in wsX6_in) := goodIn_app (goodIn_of _ (by decide +kernel)) ggX6_sheet_X6_in
theorem dX6_sheet_0 : decode cX6_sheet 0 = .ok (.aload_n 0, 1) := by decide +kernel
theorem dX6_sheet_1 : decode cX6_sheet 1 = .ok (.iconst 0, 1) := by decide +kernel
theorem dX6_sheet_2 : decode cX6_sheet 2 = .ok (.putfield 75, 3) := by decide +kernel
theorem dX6_sheet_5 : decode cX6_sheet 5 = .ok (.iload_n 1, 1) := by decide +kernel
theorem dX6_sheet_6 : decode cX6_sheet 6 = .ok (.invokestatic 189, 3) := by decide +kernel
theorem dX6_sheet_9 : decode cX6_sheet 9 = .ok (.ifCond .ne 10, 3) := by decide +kernel
theorem dX6_sheet_12 : decode cX6_sheet 12 = .ok (.aload_n 0, 1) := by decide +kernel
theorem dX6_sheet_13 : decode cX6_sheet 13 = .ok (.bipush (-12), 2) := by decide +kernel
theorem dX6_sheet_15 : decode cX6_sheet 15 = .ok (.invokevirtual 154, 3) := by decide +kernel
theorem dX6_sheet_18 : decode cX6_sheet 18 = .ok (.ireturn, 1) := by decide +kernel
theorem dX6_sheet_19 : decode cX6_sheet 19 = .ok (.iload_n 2, 1) := by decide +kernel
theorem dX6_sheet_20 : decode cX6_sheet 20 = .ok (.i2l, 1) := by decide +kernel
theorem dX6_sheet_21 : decode cX6_sheet 21 = .ok (.lconst 0, 1) := by decide +kernel
theorem dX6_sheet_22 : decode cX6_sheet 22 = .ok (.ldc2_w 142, 3) := by decide +kernel
theorem dX6_sheet_25 : decode cX6_sheet 25 = .ok (.invokestatic 86, 3) := by decide +kernel
theorem dX6_sheet_28 : decode cX6_sheet 28 = .ok (.ifCond .eq 9, 3) := by decide +kernel
theorem dX6_sheet_31 : decode cX6_sheet 31 = .ok (.iload_n 3, 1) := by decide +kernel
theorem dX6_sheet_32 : decode cX6_sheet 32 = .ok (.bipush 64, 2) := by decide +kernel
theorem dX6_sheet_34 : decode cX6_sheet 34 = .ok (.if_icmp .le 6, 3) := by decide +kernel
theorem dX6_sheet_37 : decode cX6_sheet 37 = .ok (.bipush (-2), 2) := by decide +kernel
theorem dX6_sheet_39 : decode cX6_sheet 39 = .ok (.ireturn, 1) := by decide +kernel
theorem dX6_sheet_40 : decode cX6_sheet 40 = .ok (.iload_n 3, 1) := by decide +kernel
theorem dX6_sheet_41 : decode cX6_sheet 41 = .ok (.ifCond .ge 10, 3) := by decide +kernel
theorem dX6_sheet_44 : decode cX6_sheet 44 = .ok (.aload_n 0, 1) := by decide +kernel
theorem dX6_sheet_45 : decode cX6_sheet 45 = .ok (.bipush (-14), 2) := by decide +kernel
theorem dX6_sheet_47 : decode cX6_sheet 47 = .ok (.invokevirtual 154, 3) := by decide +kernel
theorem dX6_sheet_50 : decode cX6_sheet 50 = .ok (.ireturn, 1) := by decide +kernel
theorem dX6_sheet_51 : decode cX6_sheet 51 = .ok (.aload_n 0, 1) := by decide +kernel
theorem dX6_sheet_52 : decode cX6_sheet 52 = .ok (.getfield 63, 3) := by decide +kernel
theorem dX6_sheet_55 : decode cX6_sheet 55 = .ok (.iload_n 1, 1) := by decide +kernel
theorem dX6_sheet_56 : decode cX6_sheet 56 = .ok (.iload_n 3, 1) := by decide +kernel
theorem dX6_sheet_57 : decode cX6_sheet 57 = .ok (.iastore, 1) := by decide +kernel
theorem dX6_sheet_58 : decode cX6_sheet 58 = .ok (.aload_n 0, 1) := by decide +kernel
theorem dX6_sheet_59 : decode cX6_sheet 59 = .ok (.getfield 66, 3) := by decide +kernel
theorem dX6_sheet_62 : decode cX6_sheet 62 = .ok (.iload_n 1, 1) := by decide +kernel
theorem dX6_sheet_63 : decode cX6_sheet 63 = .ok (.iload_n 2, 1) := by decide +kernel
theorem dX6_sheet_64 : decode cX6_sheet 64 = .ok (.iastore, 1) := by decide +kernel
theorem dX6_sheet_65 : decode cX6_sheet 65 = .ok (.iconst 0, 1) := by decide +kernel
theorem dX6_sheet_66 : decode cX6_sheet 66 = .ok (.istore 4, 2) := by decide +kernel
theorem dX6_sheet_68 : decode cX6_sheet 68 = .ok (.iload 4, 2) := by decide +kernel
theorem dX6_sheet_70 : decode cX6_sheet 70 = .ok (.iload_n 3, 1) := by decide +kernel
theorem dX6_sheet_71 : decode cX6_sheet 71 = .ok (.if_icmp .ge 22, 3) := by decide +kernel
theorem dX6_sheet_74 : decode cX6_sheet 74 = .ok (.aload_n 0, 1) := by decide +kernel
theorem dX6_sheet_75 : decode cX6_sheet 75 = .ok (.getfield 69, 3) := by decide +kernel
theorem dX6_sheet_78 : decode cX6_sheet 78 = .ok (.bipush 64, 2) := by decide +kernel
theorem dX6_sheet_80 : decode cX6_sheet 80 = .ok (.iload_n 1, 1) := by decide +kernel
theorem dX6_sheet_81 : decode cX6_sheet 81 = .ok (.imul, 1) := by decide +kernel
theorem dX6_sheet_82 : decode cX6_sheet 82 = .ok (.iload 4, 2) := by decide +kernel
theorem dX6_sheet_84 : decode cX6_sheet 84 = .ok (.iadd, 1) := by decide +kernel
theorem dX6_sheet_85 : decode cX6_sheet 85 = .ok (.iconst 0, 1) := by decide +kernel
theorem dX6_sheet_86 : decode cX6_sheet 86 = .ok (.iastore, 1) := by decide +kernel
theorem dX6_sheet_87 : decode cX6_sheet 87 = .ok (.iinc 4 1, 3) := by decide +kernel
theorem dX6_sheet_90 : decode cX6_sheet 90 = .ok (.goto (-22), 3) := by decide +kernel
theorem dX6_sheet_93 : decode cX6_sheet 93 = .ok (.iload_n 3, 1) := by decide +kernel
theorem dX6_sheet_94 : decode cX6_sheet 94 = .ok (.ireturn, 1) := by decide +kernel
set_option maxRecDepth 20000 in
theorem ggX6_tear_X6_isSheet : GoodIn wsX6_tear wsX6_isSheet := goodIn_r _ [6, 7, 8, 9, 5, 10] (by decide +kernel) (by decide +kernel)
set_option maxRecDepth 20000 in
theorem gX6_tear_X6_isSheet : GoodIn wsX6_tear (va_wsS RX6 189 yX6_isSheet wsX6_isSheet) := goodIn_app (goodIn_of _ (by decide +kernel)) ggX6_tear_X6_isSheet
set_option maxRecDepth 20000 in
theorem ggX6_tear_X6_finds : GoodIn wsX6_tear wsX6_finds := goodIn_r _ [14, 15, 16, 17, 18, 19, 20, 21, 22, 23, 24, 25, 26, 27, 28, 29, 30, 31, 32, 33, 34, 35, 36, 37, 38, 39, 40, 41, 42, 43] (by decide +kernel) (by decide +kernel)
set_option maxRecDepth 20000 in
theorem gX6_tear_X6_finds : GoodIn wsX6_tear (wsV RX6 154 RX6 yX6_finds wsX6_finds) := goodIn_app (goodIn_of _ (by decide +kernel)) ggX6_tear_X6_finds
theorem dX6_tear_0 : decode cX6_tear 0 = .ok (.aload_n 0, 1) := by decide +kernel
theorem dX6_tear_1 : decode cX6_tear 1 = .ok (.iconst 0, 1) := by decide +kernel
theorem dX6_tear_2 : decode cX6_tear 2 = .ok (.putfield 75, 3) := by decide +kernel
theorem dX6_tear_5 : decode cX6_tear 5 = .ok (.iload_n 1, 1) := by decide +kernel
theorem dX6_tear_6 : decode cX6_tear 6 = .ok (.invokestatic 189, 3) := by decide +kernel
theorem dX6_tear_9 : decode cX6_tear 9 = .ok (.ifCond .ne 10, 3) := by decide +kernel
theorem dX6_tear_12 : decode cX6_tear 12 = .ok (.aload_n 0, 1) := by decide +kernel
theorem dX6_tear_13 : decode cX6_tear 13 = .ok (.bipush (-12), 2) := by decide +kernel
theorem dX6_tear_15 : decode cX6_tear 15 = .ok (.invokevirtual 154, 3) := by decide +kernel
theorem dX6_tear_18 : decode cX6_tear 18 = .ok (.ireturn, 1) := by decide +kernel
theorem dX6_tear_19 : decode cX6_tear 19 = .ok (.aload_n 0, 1) := by decide +kernel
theorem dX6_tear_20 : decode cX6_tear 20 = .ok (.getfield 63, 3) := by decide +kernel
theorem dX6_tear_23 : decode cX6_tear 23 = .ok (.iload_n 1, 1) := by decide +kernel
theorem dX6_tear_24 : decode cX6_tear 24 = .ok (.iaload, 1) := by decide +kernel
theorem dX6_tear_25 : decode cX6_tear 25 = .ok (.ifCond .ge 7, 3) := by decide +kernel
theorem dX6_tear_28 : decode cX6_tear 28 = .ok (.iconst 1, 1) := by decide +kernel
theorem dX6_tear_29 : decode cX6_tear 29 = .ok (.goto 4, 3) := by decide +kernel
theorem dX6_tear_32 : decode cX6_tear 32 = .ok (.iconst 0, 1) := by decide +kernel
theorem dX6_tear_33 : decode cX6_tear 33 = .ok (.istore_n 2, 1) := by decide +kernel
theorem dX6_tear_34 : decode cX6_tear 34 = .ok (.aload_n 0, 1) := by decide +kernel
theorem dX6_tear_35 : decode cX6_tear 35 = .ok (.getfield 63, 3) := by decide +kernel
theorem dX6_tear_38 : decode cX6_tear 38 = .ok (.iload_n 1, 1) := by decide +kernel
theorem dX6_tear_39 : decode cX6_tear 39 = .ok (.iconst (-1), 1) := by decide +kernel
theorem dX6_tear_40 : decode cX6_tear 40 = .ok (.iastore, 1) := by decide +kernel
theorem dX6_tear_41 : decode cX6_tear 41 = .ok (.iload_n 2, 1) := by decide +kernel
theorem dX6_tear_42 : decode cX6_tear 42 = .ok (.ireturn, 1) := by decide +kernel
set_option maxRecDepth 20000 in
theorem ggX6_record_X6_isSheet : GoodIn wsX6_record wsX6_isSheet := goodIn_r _ [8, 9, 10, 11, 7, 12] (by decide +kernel) (by decide +kernel)
set_option maxRecDepth 20000 in
theorem gX6_record_X6_isSheet : GoodIn wsX6_record (va_wsS RX6 189 yX6_isSheet wsX6_isSheet) := goodIn_app (goodIn_of _ (by decide +kernel)) ggX6_record_X6_isSheet
set_option maxRecDepth 20000 in
theorem ggX6_record_X6_finds : GoodIn wsX6_record wsX6_finds := goodIn_r _ [16, 17, 75, 76, 77, 78, 79, 80, 81, 82, 83, 84, 85, 86, 87, 88, 89, 90, 91, 92, 93, 94, 95, 96, 97, 98, 99, 100, 101, 102] (by decide +kernel) (by decide +kernel)
set_option maxRecDepth 20000 in
theorem gX6_record_X6_finds : GoodIn wsX6_record (wsV RX6 154 RX6 yX6_finds wsX6_finds) := goodIn_app (goodIn_of _ (by decide +kernel)) ggX6_record_X6_finds
set_option maxRecDepth 20000 in
theorem ggX6_record_X6_noElement : GoodIn wsX6_record wsX6_noElement := goodIn_r _ [21, 22, 10, 11, 7, 12, 75, 76, 77, 78, 79, 80, 81, 82, 83, 84, 85, 86, 87, 88, 89, 90, 91, 92, 93, 94, 95, 96, 97, 98, 99, 100, 101, 102] (by decide +kernel) (by decide +kernel)
set_option maxRecDepth 20000 in
theorem gX6_record_X6_noElement : GoodIn wsX6_record (wsV RX6 135 RX6 yX6_noElement wsX6_noElement) := goodIn_app (goodIn_of _ (by decide +kernel)) ggX6_record_X6_noElement
set_option maxRecDepth 20000 in
theorem ggX6_record_X6_echoAt : GoodIn wsX6_record wsX6_echoAt := goodIn_r _ [26, 27, 28, 29, 30, 31, 32, 7, 33, 34, 35, 36, 37, 38, 39, 40, 41, 42, 43, 44, 45, 46, 47, 48, 49, 50, 51, 52, 53, 54, 55, 56, 57, 58, 59, 60, 61, 62, 63, 64, 65, 66, 67, 68, 75, 76, 77, 78, 79, 80, 81, 82, 83, 84, 85, 86, 87, 88, 89, 90, 91, 92, 93, 94, 95, 96, 97, 98, 99, 100, 101, 102] (by decide +kernel) (by decide +kernel)
set_option maxRecDepth 20000 in
theorem gX6_record_X6_echoAt : GoodIn wsX6_record (wsV RX6 157 RX6 yX6_echoAt wsX6_echoAt) := goodIn_app (goodIn_of _ (by decide +kernel)) ggX6_record_X6_echoAt
set_option maxRecDepth 20000 in
theorem ggX6_record_X6_as : GoodIn wsX6_record wsX6_as := goodIn_r _ [71, 72, 73, 74] (by decide +kernel) (by decide +kernel)
set_option maxRecDepth 20000 in
theorem gX6_record_X6_as : GoodIn wsX6_record (va_wsS RX6 192 yX6_as wsX6_as) := goodIn_app (goodIn_of _ (by decide +kernel)) ggX6_record_X6_as
theorem dX6_record_0 : decode cX6_record 0 = .ok (.aload_n 0, 1) := by decide +kernel
theorem dX6_record_1 : decode cX6_record 1 = .ok (.iconst 0, 1) := by decide +kernel
theorem dX6_record_2 : decode cX6_record 2 = .ok (.putfield 75, 3) := by decide +kernel
theorem dX6_record_5 : decode cX6_record 5 = .ok (.iload_n 1, 1) := by decide +kernel
theorem dX6_record_6 : decode cX6_record 6 = .ok (.invokestatic 189, 3) := by decide +kernel
theorem dX6_record_9 : decode cX6_record 9 = .ok (.ifCond .ne 10, 3) := by decide +kernel
theorem dX6_record_12 : decode cX6_record 12 = .ok (.aload_n 0, 1) := by decide +kernel
theorem dX6_record_13 : decode cX6_record 13 = .ok (.bipush (-12), 2) := by decide +kernel
theorem dX6_record_15 : decode cX6_record 15 = .ok (.invokevirtual 154, 3) := by decide +kernel
theorem dX6_record_18 : decode cX6_record 18 = .ok (.ireturn, 1) := by decide +kernel
theorem dX6_record_19 : decode cX6_record 19 = .ok (.aload_n 0, 1) := by decide +kernel
theorem dX6_record_20 : decode cX6_record 20 = .ok (.iload_n 2, 1) := by decide +kernel
theorem dX6_record_21 : decode cX6_record 21 = .ok (.invokevirtual 135, 3) := by decide +kernel
theorem dX6_record_24 : decode cX6_record 24 = .ok (.ifCond .ne 11, 3) := by decide +kernel
theorem dX6_record_27 : decode cX6_record 27 = .ok (.aload_n 0, 1) := by decide +kernel
theorem dX6_record_28 : decode cX6_record 28 = .ok (.iload_n 3, 1) := by decide +kernel
theorem dX6_record_29 : decode cX6_record 29 = .ok (.invokevirtual 135, 3) := by decide +kernel
theorem dX6_record_32 : decode cX6_record 32 = .ok (.ifCond .eq 5, 3) := by decide +kernel
theorem dX6_record_35 : decode cX6_record 35 = .ok (.iconst (-1), 1) := by decide +kernel
theorem dX6_record_36 : decode cX6_record 36 = .ok (.ireturn, 1) := by decide +kernel
theorem dX6_record_37 : decode cX6_record 37 = .ok (.aload_n 0, 1) := by decide +kernel
theorem dX6_record_38 : decode cX6_record 38 = .ok (.getfield 63, 3) := by decide +kernel
theorem dX6_record_41 : decode cX6_record 41 = .ok (.iload_n 1, 1) := by decide +kernel
theorem dX6_record_42 : decode cX6_record 42 = .ok (.iaload, 1) := by decide +kernel
theorem dX6_record_43 : decode cX6_record 43 = .ok (.ifCond .ge 10, 3) := by decide +kernel
theorem dX6_record_46 : decode cX6_record 46 = .ok (.aload_n 0, 1) := by decide +kernel
theorem dX6_record_47 : decode cX6_record 47 = .ok (.bipush (-11), 2) := by decide +kernel
theorem dX6_record_49 : decode cX6_record 49 = .ok (.invokevirtual 154, 3) := by decide +kernel
theorem dX6_record_52 : decode cX6_record 52 = .ok (.ireturn, 1) := by decide +kernel
theorem dX6_record_53 : decode cX6_record 53 = .ok (.iconst 0, 1) := by decide +kernel
theorem dX6_record_54 : decode cX6_record 54 = .ok (.istore 5, 2) := by decide +kernel
theorem dX6_record_56 : decode cX6_record 56 = .ok (.iload 5, 2) := by decide +kernel
theorem dX6_record_58 : decode cX6_record 58 = .ok (.aload_n 0, 1) := by decide +kernel
theorem dX6_record_59 : decode cX6_record 59 = .ok (.getfield 63, 3) := by decide +kernel
theorem dX6_record_62 : decode cX6_record 62 = .ok (.iload_n 1, 1) := by decide +kernel
theorem dX6_record_63 : decode cX6_record 63 = .ok (.iaload, 1) := by decide +kernel
theorem dX6_record_64 : decode cX6_record 64 = .ok (.if_icmp .ge 44, 3) := by decide +kernel
theorem dX6_record_67 : decode cX6_record 67 = .ok (.aload_n 0, 1) := by decide +kernel
theorem dX6_record_68 : decode cX6_record 68 = .ok (.getfield 69, 3) := by decide +kernel
theorem dX6_record_71 : decode cX6_record 71 = .ok (.bipush 64, 2) := by decide +kernel
theorem dX6_record_73 : decode cX6_record 73 = .ok (.iload_n 1, 1) := by decide +kernel
theorem dX6_record_74 : decode cX6_record 74 = .ok (.imul, 1) := by decide +kernel
theorem dX6_record_75 : decode cX6_record 75 = .ok (.iload 5, 2) := by decide +kernel
theorem dX6_record_77 : decode cX6_record 77 = .ok (.iadd, 1) := by decide +kernel
theorem dX6_record_78 : decode cX6_record 78 = .ok (.aload_n 0, 1) := by decide +kernel
theorem dX6_record_79 : decode cX6_record 79 = .ok (.getfield 66, 3) := by decide +kernel
theorem dX6_record_82 : decode cX6_record 82 = .ok (.iload_n 1, 1) := by decide +kernel
theorem dX6_record_83 : decode cX6_record 83 = .ok (.iaload, 1) := by decide +kernel
theorem dX6_record_84 : decode cX6_record 84 = .ok (.aload_n 0, 1) := by decide +kernel
theorem dX6_record_85 : decode cX6_record 85 = .ok (.iload_n 2, 1) := by decide +kernel
theorem dX6_record_86 : decode cX6_record 86 = .ok (.iload_n 3, 1) := by decide +kernel
theorem dX6_record_87 : decode cX6_record 87 = .ok (.iload 4, 2) := by decide +kernel
theorem dX6_record_89 : decode cX6_record 89 = .ok (.i2l, 1) := by decide +kernel
theorem dX6_record_90 : decode cX6_record 90 = .ok (.iload 5, 2) := by decide +kernel
theorem dX6_record_92 : decode cX6_record 92 = .ok (.i2l, 1) := by decide +kernel
theorem dX6_record_93 : decode cX6_record 93 = .ok (.ladd, 1) := by decide +kernel
theorem dX6_record_94 : decode cX6_record 94 = .ok (.invokevirtual 157, 3) := by decide +kernel
theorem dX6_record_97 : decode cX6_record 97 = .ok (.i2l, 1) := by decide +kernel
theorem dX6_record_98 : decode cX6_record 98 = .ok (.invokestatic 192, 3) := by decide +kernel
theorem dX6_record_101 : decode cX6_record 101 = .ok (.iastore, 1) := by decide +kernel
theorem dX6_record_102 : decode cX6_record 102 = .ok (.iinc 5 1, 3) := by decide +kernel
theorem dX6_record_105 : decode cX6_record 105 = .ok (.goto (-49), 3) := by decide +kernel
theorem dX6_record_108 : decode cX6_record 108 = .ok (.aload_n 0, 1) := by decide +kernel
theorem dX6_record_109 : decode cX6_record 109 = .ok (.getfield 63, 3) := by decide +kernel
theorem dX6_record_112 : decode cX6_record 112 = .ok (.iload_n 1, 1) := by decide +kernel
theorem dX6_record_113 : decode cX6_record 113 = .ok (.iaload, 1) := by decide +kernel
theorem dX6_record_114 : decode cX6_record 114 = .ok (.ireturn, 1) := by decide +kernel
set_option maxRecDepth 20000 in
theorem ggX6_add_X6_isSheet : GoodIn wsX6_add wsX6_isSheet := goodIn_r _ [9, 10, 11, 12, 8, 13] (by decide +kernel) (by decide +kernel)
set_option maxRecDepth 20000 in
theorem gX6_add_X6_isSheet : GoodIn wsX6_add (va_wsS RX6 189 yX6_isSheet wsX6_isSheet) := goodIn_app (goodIn_of _ (by decide +kernel)) ggX6_add_X6_isSheet
set_option maxRecDepth 20000 in
theorem ggX6_add_X6_finds : GoodIn wsX6_add wsX6_finds := goodIn_r _ [17, 18, 25, 26, 27, 28, 29, 30, 31, 32, 33, 34, 35, 36, 37, 38, 39, 40, 41, 42, 43, 44, 45, 46, 47, 48, 49, 50, 51, 52] (by decide +kernel) (by decide +kernel)
set_option maxRecDepth 20000 in
theorem gX6_add_X6_finds : GoodIn wsX6_add (wsV RX6 154 RX6 yX6_finds wsX6_finds) := goodIn_app (goodIn_of _ (by decide +kernel)) ggX6_add_X6_finds
set_option maxRecDepth 20000 in
theorem ggX6_add_X6_in : GoodIn wsX6_add wsX6_in := goodIn_r _ [13] (by decide +kernel) (by decide +kernel)
set_option maxRecDepth 20000 in
theorem gX6_add_X6_in : GoodIn wsX6_add (va_wsS RX6 86 yX6_in wsX6_in) := goodIn_app (goodIn_of _ (by decide +kernel)) ggX6_add_X6_in
set_option maxRecDepth 20000 in
theorem ggX6_add_X6_as : GoodIn wsX6_add wsX6_as := goodIn_r _ [21, 22, 23, 24] (by decide +kernel) (by decide +kernel)
set_option maxRecDepth 20000 in
theorem gX6_add_X6_as : GoodIn wsX6_add (va_wsS RX6 192 yX6_as wsX6_as) := goodIn_app (goodIn_of _ (by decide +kernel)) ggX6_add_X6_as
theorem dX6_add_0 : decode cX6_add 0 = .ok (.aload_n 0, 1) := by decide +kernel
theorem dX6_add_1 : decode cX6_add 1 = .ok (.iconst 0, 1) := by decide +kernel
theorem dX6_add_2 : decode cX6_add 2 = .ok (.putfield 75, 3) := by decide +kernel
theorem dX6_add_5 : decode cX6_add 5 = .ok (.iload_n 1, 1) := by decide +kernel
theorem dX6_add_6 : decode cX6_add 6 = .ok (.invokestatic 189, 3) := by decide +kernel
theorem dX6_add_9 : decode cX6_add 9 = .ok (.ifCond .eq 10, 3) := by decide +kernel
theorem dX6_add_12 : decode cX6_add 12 = .ok (.iload_n 2, 1) := by decide +kernel
theorem dX6_add_13 : decode cX6_add 13 = .ok (.invokestatic 189, 3) := by decide +kernel
theorem dX6_add_16 : decode cX6_add 16 = .ok (.ifCond .ne 10, 3) := by decide +kernel
theorem dX6_add_19 : decode cX6_add 19 = .ok (.aload_n 0, 1) := by decide +kernel
theorem dX6_add_20 : decode cX6_add 20 = .ok (.bipush (-12), 2) := by decide +kernel
theorem dX6_add_22 : decode cX6_add 22 = .ok (.invokevirtual 154, 3) := by decide +kernel
theorem dX6_add_25 : decode cX6_add 25 = .ok (.ireturn, 1) := by decide +kernel
theorem dX6_add_26 : decode cX6_add 26 = .ok (.aload_n 0, 1) := by decide +kernel
theorem dX6_add_27 : decode cX6_add 27 = .ok (.getfield 63, 3) := by decide +kernel
theorem dX6_add_30 : decode cX6_add 30 = .ok (.iload_n 1, 1) := by decide +kernel
theorem dX6_add_31 : decode cX6_add 31 = .ok (.iaload, 1) := by decide +kernel
theorem dX6_add_32 : decode cX6_add 32 = .ok (.ifCond .lt 12, 3) := by decide +kernel
theorem dX6_add_35 : decode cX6_add 35 = .ok (.aload_n 0, 1) := by decide +kernel
theorem dX6_add_36 : decode cX6_add 36 = .ok (.getfield 63, 3) := by decide +kernel
theorem dX6_add_39 : decode cX6_add 39 = .ok (.iload_n 2, 1) := by decide +kernel
theorem dX6_add_40 : decode cX6_add 40 = .ok (.iaload, 1) := by decide +kernel
theorem dX6_add_41 : decode cX6_add 41 = .ok (.ifCond .ge 10, 3) := by decide +kernel
theorem dX6_add_44 : decode cX6_add 44 = .ok (.aload_n 0, 1) := by decide +kernel
theorem dX6_add_45 : decode cX6_add 45 = .ok (.bipush (-11), 2) := by decide +kernel
theorem dX6_add_47 : decode cX6_add 47 = .ok (.invokevirtual 154, 3) := by decide +kernel
theorem dX6_add_50 : decode cX6_add 50 = .ok (.ireturn, 1) := by decide +kernel
theorem dX6_add_51 : decode cX6_add 51 = .ok (.iconst 0, 1) := by decide +kernel
theorem dX6_add_52 : decode cX6_add 52 = .ok (.istore 4, 2) := by decide +kernel
theorem dX6_add_54 : decode cX6_add 54 = .ok (.iload 4, 2) := by decide +kernel
theorem dX6_add_56 : decode cX6_add 56 = .ok (.aload_n 0, 1) := by decide +kernel
theorem dX6_add_57 : decode cX6_add 57 = .ok (.getfield 63, 3) := by decide +kernel
theorem dX6_add_60 : decode cX6_add 60 = .ok (.iload_n 1, 1) := by decide +kernel
theorem dX6_add_61 : decode cX6_add 61 = .ok (.iaload, 1) := by decide +kernel
theorem dX6_add_62 : decode cX6_add 62 = .ok (.if_icmp .ge 28, 3) := by decide +kernel
theorem dX6_add_65 : decode cX6_add 65 = .ok (.aload_n 0, 1) := by decide +kernel
theorem dX6_add_66 : decode cX6_add 66 = .ok (.getfield 72, 3) := by decide +kernel
theorem dX6_add_69 : decode cX6_add 69 = .ok (.iload 4, 2) := by decide +kernel
theorem dX6_add_71 : decode cX6_add 71 = .ok (.aload_n 0, 1) := by decide +kernel
theorem dX6_add_72 : decode cX6_add 72 = .ok (.getfield 69, 3) := by decide +kernel
theorem dX6_add_75 : decode cX6_add 75 = .ok (.bipush 64, 2) := by decide +kernel
theorem dX6_add_77 : decode cX6_add 77 = .ok (.iload_n 1, 1) := by decide +kernel
theorem dX6_add_78 : decode cX6_add 78 = .ok (.imul, 1) := by decide +kernel
theorem dX6_add_79 : decode cX6_add 79 = .ok (.iload 4, 2) := by decide +kernel
theorem dX6_add_81 : decode cX6_add 81 = .ok (.iadd, 1) := by decide +kernel
theorem dX6_add_82 : decode cX6_add 82 = .ok (.iaload, 1) := by decide +kernel
theorem dX6_add_83 : decode cX6_add 83 = .ok (.iastore, 1) := by decide +kernel
theorem dX6_add_84 : decode cX6_add 84 = .ok (.iinc 4 1, 3) := by decide +kernel
theorem dX6_add_87 : decode cX6_add 87 = .ok (.goto (-33), 3) := by decide +kernel
theorem dX6_add_90 : decode cX6_add 90 = .ok (.iconst 0, 1) := by decide +kernel
theorem dX6_add_91 : decode cX6_add 91 = .ok (.istore 4, 2) := by decide +kernel
theorem dX6_add_93 : decode cX6_add 93 = .ok (.iconst 0, 1) := by decide +kernel
theorem dX6_add_94 : decode cX6_add 94 = .ok (.istore 5, 2) := by decide +kernel
theorem dX6_add_96 : decode cX6_add 96 = .ok (.iload 5, 2) := by decide +kernel
theorem dX6_add_98 : decode cX6_add 98 = .ok (.aload_n 0, 1) := by decide +kernel
theorem dX6_add_99 : decode cX6_add 99 = .ok (.getfield 63, 3) := by decide +kernel
theorem dX6_add_102 : decode cX6_add 102 = .ok (.iload_n 1, 1) := by decide +kernel
theorem dX6_add_103 : decode cX6_add 103 = .ok (.iaload, 1) := by decide +kernel
theorem dX6_add_104 : decode cX6_add 104 = .ok (.if_icmp .ge 81, 3) := by decide +kernel
theorem dX6_add_107 : decode cX6_add 107 = .ok (.iload 5, 2) := by decide +kernel
theorem dX6_add_109 : decode cX6_add 109 = .ok (.i2l, 1) := by decide +kernel
theorem dX6_add_110 : decode cX6_add 110 = .ok (.iload_n 3, 1) := by decide +kernel
theorem dX6_add_111 : decode cX6_add 111 = .ok (.i2l, 1) := by decide +kernel
theorem dX6_add_112 : decode cX6_add 112 = .ok (.ladd, 1) := by decide +kernel
theorem dX6_add_113 : decode cX6_add 113 = .ok (.lstore 6, 2) := by decide +kernel
theorem dX6_add_115 : decode cX6_add 115 = .ok (.lload 6, 2) := by decide +kernel
theorem dX6_add_117 : decode cX6_add 117 = .ok (.lconst 0, 1) := by decide +kernel
theorem dX6_add_118 : decode cX6_add 118 = .ok (.aload_n 0, 1) := by decide +kernel
theorem dX6_add_119 : decode cX6_add 119 = .ok (.getfield 63, 3) := by decide +kernel
theorem dX6_add_122 : decode cX6_add 122 = .ok (.iload_n 2, 1) := by decide +kernel
theorem dX6_add_123 : decode cX6_add 123 = .ok (.iaload, 1) := by decide +kernel
theorem dX6_add_124 : decode cX6_add 124 = .ok (.iconst 1, 1) := by decide +kernel
theorem dX6_add_125 : decode cX6_add 125 = .ok (.isub, 1) := by decide +kernel
theorem dX6_add_126 : decode cX6_add 126 = .ok (.i2l, 1) := by decide +kernel
theorem dX6_add_127 : decode cX6_add 127 = .ok (.invokestatic 86, 3) := by decide +kernel
theorem dX6_add_130 : decode cX6_add 130 = .ok (.ifCond .eq 49, 3) := by decide +kernel
theorem dX6_add_133 : decode cX6_add 133 = .ok (.bipush 64, 2) := by decide +kernel
theorem dX6_add_135 : decode cX6_add 135 = .ok (.iload_n 2, 1) := by decide +kernel
theorem dX6_add_136 : decode cX6_add 136 = .ok (.imul, 1) := by decide +kernel
theorem dX6_add_137 : decode cX6_add 137 = .ok (.lload 6, 2) := by decide +kernel
theorem dX6_add_139 : decode cX6_add 139 = .ok (.l2i, 1) := by decide +kernel
theorem dX6_add_140 : decode cX6_add 140 = .ok (.iadd, 1) := by decide +kernel
theorem dX6_add_141 : decode cX6_add 141 = .ok (.istore 8, 2) := by decide +kernel
theorem dX6_add_143 : decode cX6_add 143 = .ok (.aload_n 0, 1) := by decide +kernel
theorem dX6_add_144 : decode cX6_add 144 = .ok (.getfield 69, 3) := by decide +kernel
theorem dX6_add_147 : decode cX6_add 147 = .ok (.iload 8, 2) := by decide +kernel
theorem dX6_add_149 : decode cX6_add 149 = .ok (.aload_n 0, 1) := by decide +kernel
theorem dX6_add_150 : decode cX6_add 150 = .ok (.getfield 66, 3) := by decide +kernel
theorem dX6_add_153 : decode cX6_add 153 = .ok (.iload_n 2, 1) := by decide +kernel
theorem dX6_add_154 : decode cX6_add 154 = .ok (.iaload, 1) := by decide +kernel
theorem dX6_add_155 : decode cX6_add 155 = .ok (.aload_n 0, 1) := by decide +kernel
theorem dX6_add_156 : decode cX6_add 156 = .ok (.getfield 69, 3) := by decide +kernel
theorem dX6_add_159 : decode cX6_add 159 = .ok (.iload 8, 2) := by decide +kernel
theorem dX6_add_161 : decode cX6_add 161 = .ok (.iaload, 1) := by decide +kernel
theorem dX6_add_162 : decode cX6_add 162 = .ok (.i2l, 1) := by decide +kernel
theorem dX6_add_163 : decode cX6_add 163 = .ok (.aload_n 0, 1) := by decide +kernel
theorem dX6_add_164 : decode cX6_add 164 = .ok (.getfield 72, 3) := by decide +kernel
theorem dX6_add_167 : decode cX6_add 167 = .ok (.iload 5, 2) := by decide +kernel
theorem dX6_add_169 : decode cX6_add 169 = .ok (.iaload, 1) := by decide +kernel
theorem dX6_add_170 : decode cX6_add 170 = .ok (.i2l, 1) := by decide +kernel
theorem dX6_add_171 : decode cX6_add 171 = .ok (.ladd, 1) := by decide +kernel
theorem dX6_add_172 : decode cX6_add 172 = .ok (.invokestatic 192, 3) := by decide +kernel
theorem dX6_add_175 : decode cX6_add 175 = .ok (.iastore, 1) := by decide +kernel
theorem dX6_add_176 : decode cX6_add 176 = .ok (.iinc 4 1, 3) := by decide +kernel
theorem dX6_add_179 : decode cX6_add 179 = .ok (.iinc 5 1, 3) := by decide +kernel
theorem dX6_add_182 : decode cX6_add 182 = .ok (.goto (-86), 3) := by decide +kernel
theorem dX6_add_185 : decode cX6_add 185 = .ok (.iload 4, 2) := by decide +kernel
theorem dX6_add_187 : decode cX6_add 187 = .ok (.ireturn, 1) := by decide +kernel
set_option maxRecDepth 20000 in
theorem ggX6_copy_X6_isSheet : GoodIn wsX6_copy wsX6_isSheet := goodIn_r _ [9, 10, 11, 12, 8, 13] (by decide +kernel) (by decide +kernel)
set_option maxRecDepth 20000 in
theorem gX6_copy_X6_isSheet : GoodIn wsX6_copy (va_wsS RX6 189 yX6_isSheet wsX6_isSheet) := goodIn_app (goodIn_of _ (by decide +kernel)) ggX6_copy_X6_isSheet
set_option maxRecDepth 20000 in
theorem ggX6_copy_X6_finds : GoodIn wsX6_copy wsX6_finds := goodIn_r _ [17, 18, 19, 20, 21, 22, 23, 24, 25, 26, 27, 28, 29, 30, 31, 32, 33, 34, 35, 36, 37, 38, 39, 40, 41, 42, 43, 44, 45, 46] (by decide +kernel) (by decide +kernel)
set_option maxRecDepth 20000 in
theorem gX6_copy_X6_finds : GoodIn wsX6_copy (wsV RX6 154 RX6 yX6_finds wsX6_finds) := goodIn_app (goodIn_of _ (by decide +kernel)) ggX6_copy_X6_finds
theorem dX6_copy_0 : decode cX6_copy 0 = .ok (.aload_n 0, 1) := by decide +kernel
theorem dX6_copy_1 : decode cX6_copy 1 = .ok (.iconst 0, 1) := by decide +kernel
theorem dX6_copy_2 : decode cX6_copy 2 = .ok (.putfield 75, 3) := by decide +kernel
theorem dX6_copy_5 : decode cX6_copy 5 = .ok (.iload_n 1, 1) := by decide +kernel
theorem dX6_copy_6 : decode cX6_copy 6 = .ok (.invokestatic 189, 3) := by decide +kernel
theorem dX6_copy_9 : decode cX6_copy 9 = .ok (.ifCond .eq 10, 3) := by decide +kernel
theorem dX6_copy_12 : decode cX6_copy 12 = .ok (.iload_n 3, 1) := by decide +kernel
theorem dX6_copy_13 : decode cX6_copy 13 = .ok (.invokestatic 189, 3) := by decide +kernel
theorem dX6_copy_16 : decode cX6_copy 16 = .ok (.ifCond .ne 10, 3) := by decide +kernel
theorem dX6_copy_19 : decode cX6_copy 19 = .ok (.aload_n 0, 1) := by decide +kernel
theorem dX6_copy_20 : decode cX6_copy 20 = .ok (.bipush (-12), 2) := by decide +kernel
theorem dX6_copy_22 : decode cX6_copy 22 = .ok (.invokevirtual 154, 3) := by decide +kernel
theorem dX6_copy_25 : decode cX6_copy 25 = .ok (.ireturn, 1) := by decide +kernel
theorem dX6_copy_26 : decode cX6_copy 26 = .ok (.aload_n 0, 1) := by decide +kernel
theorem dX6_copy_27 : decode cX6_copy 27 = .ok (.getfield 63, 3) := by decide +kernel
theorem dX6_copy_30 : decode cX6_copy 30 = .ok (.iload_n 1, 1) := by decide +kernel
theorem dX6_copy_31 : decode cX6_copy 31 = .ok (.iaload, 1) := by decide +kernel
theorem dX6_copy_32 : decode cX6_copy 32 = .ok (.ifCond .lt 12, 3) := by decide +kernel
theorem dX6_copy_35 : decode cX6_copy 35 = .ok (.aload_n 0, 1) := by decide +kernel
theorem dX6_copy_36 : decode cX6_copy 36 = .ok (.getfield 63, 3) := by decide +kernel
theorem dX6_copy_39 : decode cX6_copy 39 = .ok (.iload_n 3, 1) := by decide +kernel
theorem dX6_copy_40 : decode cX6_copy 40 = .ok (.iaload, 1) := by decide +kernel
theorem dX6_copy_41 : decode cX6_copy 41 = .ok (.ifCond .ge 10, 3) := by decide +kernel
theorem dX6_copy_44 : decode cX6_copy 44 = .ok (.aload_n 0, 1) := by decide +kernel
theorem dX6_copy_45 : decode cX6_copy 45 = .ok (.bipush (-11), 2) := by decide +kernel
theorem dX6_copy_47 : decode cX6_copy 47 = .ok (.invokevirtual 154, 3) := by decide +kernel
theorem dX6_copy_50 : decode cX6_copy 50 = .ok (.ireturn, 1) := by decide +kernel
theorem dX6_copy_51 : decode cX6_copy 51 = .ok (.aload_n 0, 1) := by decide +kernel
theorem dX6_copy_52 : decode cX6_copy 52 = .ok (.getfield 66, 3) := by decide +kernel
theorem dX6_copy_55 : decode cX6_copy 55 = .ok (.iload_n 1, 1) := by decide +kernel
theorem dX6_copy_56 : decode cX6_copy 56 = .ok (.iaload, 1) := by decide +kernel
theorem dX6_copy_57 : decode cX6_copy 57 = .ok (.aload_n 0, 1) := by decide +kernel
theorem dX6_copy_58 : decode cX6_copy 58 = .ok (.getfield 66, 3) := by decide +kernel
theorem dX6_copy_61 : decode cX6_copy 61 = .ok (.iload_n 3, 1) := by decide +kernel
theorem dX6_copy_62 : decode cX6_copy 62 = .ok (.iaload, 1) := by decide +kernel
theorem dX6_copy_63 : decode cX6_copy 63 = .ok (.if_icmp .eq 10, 3) := by decide +kernel
theorem dX6_copy_66 : decode cX6_copy 66 = .ok (.aload_n 0, 1) := by decide +kernel
theorem dX6_copy_67 : decode cX6_copy 67 = .ok (.bipush (-13), 2) := by decide +kernel
theorem dX6_copy_69 : decode cX6_copy 69 = .ok (.invokevirtual 154, 3) := by decide +kernel
theorem dX6_copy_72 : decode cX6_copy 72 = .ok (.ireturn, 1) := by decide +kernel
theorem dX6_copy_73 : decode cX6_copy 73 = .ok (.iload 5, 2) := by decide +kernel
theorem dX6_copy_75 : decode cX6_copy 75 = .ok (.ifCond .ge 10, 3) := by decide +kernel
theorem dX6_copy_78 : decode cX6_copy 78 = .ok (.aload_n 0, 1) := by decide +kernel
theorem dX6_copy_79 : decode cX6_copy 79 = .ok (.bipush (-14), 2) := by decide +kernel
theorem dX6_copy_81 : decode cX6_copy 81 = .ok (.invokevirtual 154, 3) := by decide +kernel
theorem dX6_copy_84 : decode cX6_copy 84 = .ok (.ireturn, 1) := by decide +kernel
theorem dX6_copy_85 : decode cX6_copy 85 = .ok (.iload_n 2, 1) := by decide +kernel
theorem dX6_copy_86 : decode cX6_copy 86 = .ok (.ifCond .lt 43, 3) := by decide +kernel
theorem dX6_copy_89 : decode cX6_copy 89 = .ok (.iload 4, 2) := by decide +kernel
theorem dX6_copy_91 : decode cX6_copy 91 = .ok (.ifCond .lt 38, 3) := by decide +kernel
theorem dX6_copy_94 : decode cX6_copy 94 = .ok (.iload_n 2, 1) := by decide +kernel
theorem dX6_copy_95 : decode cX6_copy 95 = .ok (.i2l, 1) := by decide +kernel
theorem dX6_copy_96 : decode cX6_copy 96 = .ok (.iload 5, 2) := by decide +kernel
theorem dX6_copy_98 : decode cX6_copy 98 = .ok (.i2l, 1) := by decide +kernel
theorem dX6_copy_99 : decode cX6_copy 99 = .ok (.ladd, 1) := by decide +kernel
theorem dX6_copy_100 : decode cX6_copy 100 = .ok (.aload_n 0, 1) := by decide +kernel
theorem dX6_copy_101 : decode cX6_copy 101 = .ok (.getfield 63, 3) := by decide +kernel
theorem dX6_copy_104 : decode cX6_copy 104 = .ok (.iload_n 1, 1) := by decide +kernel
theorem dX6_copy_105 : decode cX6_copy 105 = .ok (.iaload, 1) := by decide +kernel
theorem dX6_copy_106 : decode cX6_copy 106 = .ok (.i2l, 1) := by decide +kernel
theorem dX6_copy_107 : decode cX6_copy 107 = .ok (.lcmp, 1) := by decide +kernel
theorem dX6_copy_108 : decode cX6_copy 108 = .ok (.ifCond .gt 21, 3) := by decide +kernel
theorem dX6_copy_111 : decode cX6_copy 111 = .ok (.iload 4, 2) := by decide +kernel
theorem dX6_copy_113 : decode cX6_copy 113 = .ok (.i2l, 1) := by decide +kernel
theorem dX6_copy_114 : decode cX6_copy 114 = .ok (.iload 5, 2) := by decide +kernel
theorem dX6_copy_116 : decode cX6_copy 116 = .ok (.i2l, 1) := by decide +kernel
theorem dX6_copy_117 : decode cX6_copy 117 = .ok (.ladd, 1) := by decide +kernel
theorem dX6_copy_118 : decode cX6_copy 118 = .ok (.aload_n 0, 1) := by decide +kernel
theorem dX6_copy_119 : decode cX6_copy 119 = .ok (.getfield 63, 3) := by decide +kernel
theorem dX6_copy_122 : decode cX6_copy 122 = .ok (.iload_n 3, 1) := by decide +kernel
theorem dX6_copy_123 : decode cX6_copy 123 = .ok (.iaload, 1) := by decide +kernel
theorem dX6_copy_124 : decode cX6_copy 124 = .ok (.i2l, 1) := by decide +kernel
theorem dX6_copy_125 : decode cX6_copy 125 = .ok (.lcmp, 1) := by decide +kernel
theorem dX6_copy_126 : decode cX6_copy 126 = .ok (.ifCond .le 10, 3) := by decide +kernel
theorem dX6_copy_129 : decode cX6_copy 129 = .ok (.aload_n 0, 1) := by decide +kernel
theorem dX6_copy_130 : decode cX6_copy 130 = .ok (.bipush (-12), 2) := by decide +kernel
theorem dX6_copy_132 : decode cX6_copy 132 = .ok (.invokevirtual 154, 3) := by decide +kernel
theorem dX6_copy_135 : decode cX6_copy 135 = .ok (.ireturn, 1) := by decide +kernel
theorem dX6_copy_136 : decode cX6_copy 136 = .ok (.iconst 0, 1) := by decide +kernel
theorem dX6_copy_137 : decode cX6_copy 137 = .ok (.istore 6, 2) := by decide +kernel
theorem dX6_copy_139 : decode cX6_copy 139 = .ok (.iload 6, 2) := by decide +kernel
theorem dX6_copy_141 : decode cX6_copy 141 = .ok (.iload 5, 2) := by decide +kernel
theorem dX6_copy_143 : decode cX6_copy 143 = .ok (.if_icmp .ge 30, 3) := by decide +kernel
theorem dX6_copy_146 : decode cX6_copy 146 = .ok (.aload_n 0, 1) := by decide +kernel
theorem dX6_copy_147 : decode cX6_copy 147 = .ok (.getfield 72, 3) := by decide +kernel
theorem dX6_copy_150 : decode cX6_copy 150 = .ok (.iload 6, 2) := by decide +kernel
theorem dX6_copy_152 : decode cX6_copy 152 = .ok (.aload_n 0, 1) := by decide +kernel
theorem dX6_copy_153 : decode cX6_copy 153 = .ok (.getfield 69, 3) := by decide +kernel
theorem dX6_copy_156 : decode cX6_copy 156 = .ok (.bipush 64, 2) := by decide +kernel
theorem dX6_copy_158 : decode cX6_copy 158 = .ok (.iload_n 1, 1) := by decide +kernel
theorem dX6_copy_159 : decode cX6_copy 159 = .ok (.imul, 1) := by decide +kernel
theorem dX6_copy_160 : decode cX6_copy 160 = .ok (.iload_n 2, 1) := by decide +kernel
theorem dX6_copy_161 : decode cX6_copy 161 = .ok (.iadd, 1) := by decide +kernel
theorem dX6_copy_162 : decode cX6_copy 162 = .ok (.iload 6, 2) := by decide +kernel
theorem dX6_copy_164 : decode cX6_copy 164 = .ok (.iadd, 1) := by decide +kernel
theorem dX6_copy_165 : decode cX6_copy 165 = .ok (.iaload, 1) := by decide +kernel
theorem dX6_copy_166 : decode cX6_copy 166 = .ok (.iastore, 1) := by decide +kernel
theorem dX6_copy_167 : decode cX6_copy 167 = .ok (.iinc 6 1, 3) := by decide +kernel
theorem dX6_copy_170 : decode cX6_copy 170 = .ok (.goto (-31), 3) := by decide +kernel
theorem dX6_copy_173 : decode cX6_copy 173 = .ok (.iconst 0, 1) := by decide +kernel
theorem dX6_copy_174 : decode cX6_copy 174 = .ok (.istore 6, 2) := by decide +kernel
theorem dX6_copy_176 : decode cX6_copy 176 = .ok (.iload 6, 2) := by decide +kernel
theorem dX6_copy_178 : decode cX6_copy 178 = .ok (.iload 5, 2) := by decide +kernel
theorem dX6_copy_180 : decode cX6_copy 180 = .ok (.if_icmp .ge 31, 3) := by decide +kernel
theorem dX6_copy_183 : decode cX6_copy 183 = .ok (.aload_n 0, 1) := by decide +kernel
theorem dX6_copy_184 : decode cX6_copy 184 = .ok (.getfield 69, 3) := by decide +kernel
theorem dX6_copy_187 : decode cX6_copy 187 = .ok (.bipush 64, 2) := by decide +kernel
theorem dX6_copy_189 : decode cX6_copy 189 = .ok (.iload_n 3, 1) := by decide +kernel
theorem dX6_copy_190 : decode cX6_copy 190 = .ok (.imul, 1) := by decide +kernel
theorem dX6_copy_191 : decode cX6_copy 191 = .ok (.iload 4, 2) := by decide +kernel
theorem dX6_copy_193 : decode cX6_copy 193 = .ok (.iadd, 1) := by decide +kernel
theorem dX6_copy_194 : decode cX6_copy 194 = .ok (.iload 6, 2) := by decide +kernel
theorem dX6_copy_196 : decode cX6_copy 196 = .ok (.iadd, 1) := by decide +kernel
theorem dX6_copy_197 : decode cX6_copy 197 = .ok (.aload_n 0, 1) := by decide +kernel
theorem dX6_copy_198 : decode cX6_copy 198 = .ok (.getfield 72, 3) := by decide +kernel
theorem dX6_copy_201 : decode cX6_copy 201 = .ok (.iload 6, 2) := by decide +kernel
theorem dX6_copy_203 : decode cX6_copy 203 = .ok (.iaload, 1) := by decide +kernel
theorem dX6_copy_204 : decode cX6_copy 204 = .ok (.iastore, 1) := by decide +kernel
theorem dX6_copy_205 : decode cX6_copy 205 = .ok (.iinc 6 1, 3) := by decide +kernel
theorem dX6_copy_208 : decode cX6_copy 208 = .ok (.goto (-32), 3) := by decide +kernel
theorem dX6_copy_211 : decode cX6_copy 211 = .ok (.iload 5, 2) := by decide +kernel
theorem dX6_copy_213 : decode cX6_copy 213 = .ok (.ireturn, 1) := by decide +kernel
set_option maxRecDepth 20000 in
theorem ggX6_at_X6_isSheet : GoodIn wsX6_at wsX6_isSheet := goodIn_r _ [7, 8, 9, 10, 6, 11] (by decide +kernel) (by decide +kernel)
set_option maxRecDepth 20000 in
theorem gX6_at_X6_isSheet : GoodIn wsX6_at (va_wsS RX6 189 yX6_isSheet wsX6_isSheet) := goodIn_app (goodIn_of _ (by decide +kernel)) ggX6_at_X6_isSheet
set_option maxRecDepth 20000 in
theorem ggX6_at_X6_finds : GoodIn wsX6_at wsX6_finds := goodIn_r _ [15, 16, 17, 18, 19, 20, 21, 22, 23, 24, 25, 26, 27, 28, 29, 30, 31, 32, 33, 34, 35, 36, 37, 38, 39, 40, 41, 42, 43, 44] (by decide +kernel) (by decide +kernel)
set_option maxRecDepth 20000 in
theorem gX6_at_X6_finds : GoodIn wsX6_at (wsV RX6 154 RX6 yX6_finds wsX6_finds) := goodIn_app (goodIn_of _ (by decide +kernel)) ggX6_at_X6_finds
set_option maxRecDepth 20000 in
theorem ggX6_at_X6_in : GoodIn wsX6_at wsX6_in := goodIn_r _ [11] (by decide +kernel) (by decide +kernel)
set_option maxRecDepth 20000 in
theorem gX6_at_X6_in : GoodIn wsX6_at (va_wsS RX6 86 yX6_in wsX6_in) := goodIn_app (goodIn_of _ (by decide +kernel)) ggX6_at_X6_in
theorem dX6_at_0 : decode cX6_at 0 = .ok (.aload_n 0, 1) := by decide +kernel
theorem dX6_at_1 : decode cX6_at 1 = .ok (.iconst 0, 1) := by decide +kernel
theorem dX6_at_2 : decode cX6_at 2 = .ok (.putfield 75, 3) := by decide +kernel
theorem dX6_at_5 : decode cX6_at 5 = .ok (.iload_n 1, 1) := by decide +kernel
theorem dX6_at_6 : decode cX6_at 6 = .ok (.invokestatic 189, 3) := by decide +kernel
theorem dX6_at_9 : decode cX6_at 9 = .ok (.ifCond .ne 10, 3) := by decide +kernel
theorem dX6_at_12 : decode cX6_at 12 = .ok (.aload_n 0, 1) := by decide +kernel
theorem dX6_at_13 : decode cX6_at 13 = .ok (.bipush (-12), 2) := by decide +kernel
theorem dX6_at_15 : decode cX6_at 15 = .ok (.invokevirtual 154, 3) := by decide +kernel
theorem dX6_at_18 : decode cX6_at 18 = .ok (.ireturn, 1) := by decide +kernel
theorem dX6_at_19 : decode cX6_at 19 = .ok (.aload_n 0, 1) := by decide +kernel
theorem dX6_at_20 : decode cX6_at 20 = .ok (.getfield 63, 3) := by decide +kernel
theorem dX6_at_23 : decode cX6_at 23 = .ok (.iload_n 1, 1) := by decide +kernel
theorem dX6_at_24 : decode cX6_at 24 = .ok (.iaload, 1) := by decide +kernel
theorem dX6_at_25 : decode cX6_at 25 = .ok (.ifCond .ge 10, 3) := by decide +kernel
theorem dX6_at_28 : decode cX6_at 28 = .ok (.aload_n 0, 1) := by decide +kernel
theorem dX6_at_29 : decode cX6_at 29 = .ok (.bipush (-11), 2) := by decide +kernel
theorem dX6_at_31 : decode cX6_at 31 = .ok (.invokevirtual 154, 3) := by decide +kernel
theorem dX6_at_34 : decode cX6_at 34 = .ok (.ireturn, 1) := by decide +kernel
theorem dX6_at_35 : decode cX6_at 35 = .ok (.iload_n 2, 1) := by decide +kernel
theorem dX6_at_36 : decode cX6_at 36 = .ok (.i2l, 1) := by decide +kernel
theorem dX6_at_37 : decode cX6_at 37 = .ok (.lconst 0, 1) := by decide +kernel
theorem dX6_at_38 : decode cX6_at 38 = .ok (.aload_n 0, 1) := by decide +kernel
theorem dX6_at_39 : decode cX6_at 39 = .ok (.getfield 63, 3) := by decide +kernel
theorem dX6_at_42 : decode cX6_at 42 = .ok (.iload_n 1, 1) := by decide +kernel
theorem dX6_at_43 : decode cX6_at 43 = .ok (.iaload, 1) := by decide +kernel
theorem dX6_at_44 : decode cX6_at 44 = .ok (.iconst 1, 1) := by decide +kernel
theorem dX6_at_45 : decode cX6_at 45 = .ok (.isub, 1) := by decide +kernel
theorem dX6_at_46 : decode cX6_at 46 = .ok (.i2l, 1) := by decide +kernel
theorem dX6_at_47 : decode cX6_at 47 = .ok (.invokestatic 86, 3) := by decide +kernel
theorem dX6_at_50 : decode cX6_at 50 = .ok (.ifCond .eq 17, 3) := by decide +kernel
theorem dX6_at_53 : decode cX6_at 53 = .ok (.aload_n 0, 1) := by decide +kernel
theorem dX6_at_54 : decode cX6_at 54 = .ok (.getfield 69, 3) := by decide +kernel
theorem dX6_at_57 : decode cX6_at 57 = .ok (.bipush 64, 2) := by decide +kernel
theorem dX6_at_59 : decode cX6_at 59 = .ok (.iload_n 1, 1) := by decide +kernel
theorem dX6_at_60 : decode cX6_at 60 = .ok (.imul, 1) := by decide +kernel
theorem dX6_at_61 : decode cX6_at 61 = .ok (.iload_n 2, 1) := by decide +kernel
theorem dX6_at_62 : decode cX6_at 62 = .ok (.iadd, 1) := by decide +kernel
theorem dX6_at_63 : decode cX6_at 63 = .ok (.iaload, 1) := by decide +kernel
theorem dX6_at_64 : decode cX6_at 64 = .ok (.goto 9, 3) := by decide +kernel
theorem dX6_at_67 : decode cX6_at 67 = .ok (.aload_n 0, 1) := by decide +kernel
theorem dX6_at_68 : decode cX6_at 68 = .ok (.bipush (-12), 2) := by decide +kernel
theorem dX6_at_70 : decode cX6_at 70 = .ok (.invokevirtual 154, 3) := by decide +kernel
theorem dX6_at_73 : decode cX6_at 73 = .ok (.ireturn, 1) := by decide +kernel
set_option maxRecDepth 20000 in
theorem ggX6_peak_X6_isSheet : GoodIn wsX6_peak wsX6_isSheet := goodIn_r _ [9, 10, 11, 12, 8, 13] (by decide +kernel) (by decide +kernel)
set_option maxRecDepth 20000 in
theorem gX6_peak_X6_isSheet : GoodIn wsX6_peak (va_wsS RX6 189 yX6_isSheet wsX6_isSheet) := goodIn_app (goodIn_of _ (by decide +kernel)) ggX6_peak_X6_isSheet
set_option maxRecDepth 20000 in
theorem ggX6_peak_X6_finds : GoodIn wsX6_peak wsX6_finds := goodIn_r _ [17, 18, 19, 20, 21, 22, 23, 24, 25, 26, 27, 28, 29, 30, 31, 32, 33, 34, 35, 36, 37, 38, 39, 40, 41, 42, 43, 44, 45, 46] (by decide +kernel) (by decide +kernel)
set_option maxRecDepth 20000 in
theorem gX6_peak_X6_finds : GoodIn wsX6_peak (wsV RX6 154 RX6 yX6_finds wsX6_finds) := goodIn_app (goodIn_of _ (by decide +kernel)) ggX6_peak_X6_finds
theorem dX6_peak_0 : decode cX6_peak 0 = .ok (.aload_n 0, 1) := by decide +kernel
theorem dX6_peak_1 : decode cX6_peak 1 = .ok (.iconst 0, 1) := by decide +kernel
theorem dX6_peak_2 : decode cX6_peak 2 = .ok (.putfield 75, 3) := by decide +kernel
theorem dX6_peak_5 : decode cX6_peak 5 = .ok (.iload_n 1, 1) := by decide +kernel
theorem dX6_peak_6 : decode cX6_peak 6 = .ok (.invokestatic 189, 3) := by decide +kernel
theorem dX6_peak_9 : decode cX6_peak 9 = .ok (.ifCond .ne 10, 3) := by decide +kernel
theorem dX6_peak_12 : decode cX6_peak 12 = .ok (.aload_n 0, 1) := by decide +kernel
theorem dX6_peak_13 : decode cX6_peak 13 = .ok (.bipush (-12), 2) := by decide +kernel
theorem dX6_peak_15 : decode cX6_peak 15 = .ok (.invokevirtual 154, 3) := by decide +kernel
theorem dX6_peak_18 : decode cX6_peak 18 = .ok (.ireturn, 1) := by decide +kernel
theorem dX6_peak_19 : decode cX6_peak 19 = .ok (.aload_n 0, 1) := by decide +kernel
theorem dX6_peak_20 : decode cX6_peak 20 = .ok (.getfield 63, 3) := by decide +kernel
theorem dX6_peak_23 : decode cX6_peak 23 = .ok (.iload_n 1, 1) := by decide +kernel
theorem dX6_peak_24 : decode cX6_peak 24 = .ok (.iaload, 1) := by decide +kernel
theorem dX6_peak_25 : decode cX6_peak 25 = .ok (.ifCond .ge 10, 3) := by decide +kernel
theorem dX6_peak_28 : decode cX6_peak 28 = .ok (.aload_n 0, 1) := by decide +kernel
theorem dX6_peak_29 : decode cX6_peak 29 = .ok (.bipush (-11), 2) := by decide +kernel
theorem dX6_peak_31 : decode cX6_peak 31 = .ok (.invokevirtual 154, 3) := by decide +kernel
theorem dX6_peak_34 : decode cX6_peak 34 = .ok (.ireturn, 1) := by decide +kernel
theorem dX6_peak_35 : decode cX6_peak 35 = .ok (.ldc 161, 2) := by decide +kernel
theorem dX6_peak_37 : decode cX6_peak 37 = .ok (.istore_n 2, 1) := by decide +kernel
theorem dX6_peak_38 : decode cX6_peak 38 = .ok (.ldc2_w 195, 3) := by decide +kernel
theorem dX6_peak_41 : decode cX6_peak 41 = .ok (.lstore_n 3, 1) := by decide +kernel
theorem dX6_peak_42 : decode cX6_peak 42 = .ok (.iconst 0, 1) := by decide +kernel
theorem dX6_peak_43 : decode cX6_peak 43 = .ok (.istore 5, 2) := by decide +kernel
theorem dX6_peak_45 : decode cX6_peak 45 = .ok (.iload 5, 2) := by decide +kernel
theorem dX6_peak_47 : decode cX6_peak 47 = .ok (.aload_n 0, 1) := by decide +kernel
theorem dX6_peak_48 : decode cX6_peak 48 = .ok (.getfield 63, 3) := by decide +kernel
theorem dX6_peak_51 : decode cX6_peak 51 = .ok (.iload_n 1, 1) := by decide +kernel
theorem dX6_peak_52 : decode cX6_peak 52 = .ok (.iaload, 1) := by decide +kernel
theorem dX6_peak_53 : decode cX6_peak 53 = .ok (.if_icmp .ge 54, 3) := by decide +kernel
theorem dX6_peak_56 : decode cX6_peak 56 = .ok (.aload_n 0, 1) := by decide +kernel
theorem dX6_peak_57 : decode cX6_peak 57 = .ok (.getfield 69, 3) := by decide +kernel
theorem dX6_peak_60 : decode cX6_peak 60 = .ok (.bipush 64, 2) := by decide +kernel
theorem dX6_peak_62 : decode cX6_peak 62 = .ok (.iload_n 1, 1) := by decide +kernel
theorem dX6_peak_63 : decode cX6_peak 63 = .ok (.imul, 1) := by decide +kernel
theorem dX6_peak_64 : decode cX6_peak 64 = .ok (.iload 5, 2) := by decide +kernel
theorem dX6_peak_66 : decode cX6_peak 66 = .ok (.iadd, 1) := by decide +kernel
theorem dX6_peak_67 : decode cX6_peak 67 = .ok (.iaload, 1) := by decide +kernel
theorem dX6_peak_68 : decode cX6_peak 68 = .ok (.i2l, 1) := by decide +kernel
theorem dX6_peak_69 : decode cX6_peak 69 = .ok (.lstore 6, 2) := by decide +kernel
theorem dX6_peak_71 : decode cX6_peak 71 = .ok (.lload 6, 2) := by decide +kernel
theorem dX6_peak_73 : decode cX6_peak 73 = .ok (.lconst 0, 1) := by decide +kernel
theorem dX6_peak_74 : decode cX6_peak 74 = .ok (.lcmp, 1) := by decide +kernel
theorem dX6_peak_75 : decode cX6_peak 75 = .ok (.ifCond .ge 9, 3) := by decide +kernel
theorem dX6_peak_78 : decode cX6_peak 78 = .ok (.lload 6, 2) := by decide +kernel
theorem dX6_peak_80 : decode cX6_peak 80 = .ok (.lneg, 1) := by decide +kernel
theorem dX6_peak_81 : decode cX6_peak 81 = .ok (.goto 5, 3) := by decide +kernel
theorem dX6_peak_84 : decode cX6_peak 84 = .ok (.lload 6, 2) := by decide +kernel
theorem dX6_peak_86 : decode cX6_peak 86 = .ok (.lstore 6, 2) := by decide +kernel
theorem dX6_peak_88 : decode cX6_peak 88 = .ok (.lload 6, 2) := by decide +kernel
theorem dX6_peak_90 : decode cX6_peak 90 = .ok (.lload_n 3, 1) := by decide +kernel
theorem dX6_peak_91 : decode cX6_peak 91 = .ok (.lcmp, 1) := by decide +kernel
theorem dX6_peak_92 : decode cX6_peak 92 = .ok (.ifCond .le 9, 3) := by decide +kernel
theorem dX6_peak_95 : decode cX6_peak 95 = .ok (.iload 5, 2) := by decide +kernel
theorem dX6_peak_97 : decode cX6_peak 97 = .ok (.istore_n 2, 1) := by decide +kernel
theorem dX6_peak_98 : decode cX6_peak 98 = .ok (.lload 6, 2) := by decide +kernel
theorem dX6_peak_100 : decode cX6_peak 100 = .ok (.lstore_n 3, 1) := by decide +kernel
theorem dX6_peak_101 : decode cX6_peak 101 = .ok (.iinc 5 1, 3) := by decide +kernel
theorem dX6_peak_104 : decode cX6_peak 104 = .ok (.goto (-59), 3) := by decide +kernel
theorem dX6_peak_107 : decode cX6_peak 107 = .ok (.iload_n 2, 1) := by decide +kernel
theorem dX6_peak_108 : decode cX6_peak 108 = .ok (.ireturn, 1) := by decide +kernel
set_option maxRecDepth 20000 in
theorem ggX6_total_X6_working : GoodIn wsX6_total wsX6_working := goodIn_r _ [12, 3, 13, 20, 21, 22, 23, 24, 25, 26, 27, 28, 29, 30, 31, 32, 33, 34, 35, 36, 37, 38, 39, 40, 41, 42, 43, 44, 45, 46, 47] (by decide +kernel) (by decide +kernel)
set_option maxRecDepth 20000 in
theorem gX6_total_X6_working : GoodIn wsX6_total (wsV RX6 139 RX6 yX6_working wsX6_working) := goodIn_app (goodIn_of _ (by decide +kernel)) ggX6_total_X6_working
set_option maxRecDepth 20000 in
theorem ggX6_total_X6_floor : GoodIn wsX6_total wsX6_floor := goodIn_r _ [17, 18, 19, 20, 21, 22, 23, 24, 25, 26, 27, 28, 29, 30, 31, 32, 33, 34, 35, 36, 37, 38, 39, 40, 41, 42, 43, 44, 45, 46, 47] (by decide +kernel) (by decide +kernel)
set_option maxRecDepth 20000 in
theorem gX6_total_X6_floor : GoodIn wsX6_total (wsV RX6 90 RX6 yX6_floor wsX6_floor) := goodIn_app (goodIn_of _ (by decide +kernel)) ggX6_total_X6_floor
theorem dX6_total_0 : decode cX6_total 0 = .ok (.aload_n 0, 1) := by decide +kernel
theorem dX6_total_1 : decode cX6_total 1 = .ok (.iconst 0, 1) := by decide +kernel
theorem dX6_total_2 : decode cX6_total 2 = .ok (.putfield 75, 3) := by decide +kernel
theorem dX6_total_5 : decode cX6_total 5 = .ok (.iconst 0, 1) := by decide +kernel
theorem dX6_total_6 : decode cX6_total 6 = .ok (.istore_n 2, 1) := by decide +kernel
theorem dX6_total_7 : decode cX6_total 7 = .ok (.iconst 0, 1) := by decide +kernel
theorem dX6_total_8 : decode cX6_total 8 = .ok (.istore_n 3, 1) := by decide +kernel
theorem dX6_total_9 : decode cX6_total 9 = .ok (.iload_n 3, 1) := by decide +kernel
theorem dX6_total_10 : decode cX6_total 10 = .ok (.bipush 6, 2) := by decide +kernel
theorem dX6_total_12 : decode cX6_total 12 = .ok (.if_icmp .ge 26, 3) := by decide +kernel
theorem dX6_total_15 : decode cX6_total 15 = .ok (.iload_n 2, 1) := by decide +kernel
theorem dX6_total_16 : decode cX6_total 16 = .ok (.aload_n 0, 1) := by decide +kernel
theorem dX6_total_17 : decode cX6_total 17 = .ok (.getfield 63, 3) := by decide +kernel
theorem dX6_total_20 : decode cX6_total 20 = .ok (.iload_n 3, 1) := by decide +kernel
theorem dX6_total_21 : decode cX6_total 21 = .ok (.iaload, 1) := by decide +kernel
theorem dX6_total_22 : decode cX6_total 22 = .ok (.ifCond .ge 7, 3) := by decide +kernel
theorem dX6_total_25 : decode cX6_total 25 = .ok (.iconst 0, 1) := by decide +kernel
theorem dX6_total_26 : decode cX6_total 26 = .ok (.goto 4, 3) := by decide +kernel
theorem dX6_total_29 : decode cX6_total 29 = .ok (.iconst 1, 1) := by decide +kernel
theorem dX6_total_30 : decode cX6_total 30 = .ok (.iadd, 1) := by decide +kernel
theorem dX6_total_31 : decode cX6_total 31 = .ok (.istore_n 2, 1) := by decide +kernel
theorem dX6_total_32 : decode cX6_total 32 = .ok (.iinc 3 1, 3) := by decide +kernel
theorem dX6_total_35 : decode cX6_total 35 = .ok (.goto (-26), 3) := by decide +kernel
theorem dX6_total_38 : decode cX6_total 38 = .ok (.iload_n 1, 1) := by decide +kernel
theorem dX6_total_39 : decode cX6_total 39 = .ok (.tableswitch 90 0 7 #[45, 50, 55, 60, 65, 70, 72, 77], 45) := by decide +kernel
theorem dX6_total_84 : decode cX6_total 84 = .ok (.aload_n 0, 1) := by decide +kernel
theorem dX6_total_85 : decode cX6_total 85 = .ok (.getfield 94, 3) := by decide +kernel
theorem dX6_total_88 : decode cX6_total 88 = .ok (.ireturn, 1) := by decide +kernel
theorem dX6_total_89 : decode cX6_total 89 = .ok (.aload_n 0, 1) := by decide +kernel
theorem dX6_total_90 : decode cX6_total 90 = .ok (.invokevirtual 139, 3) := by decide +kernel
theorem dX6_total_93 : decode cX6_total 93 = .ok (.ireturn, 1) := by decide +kernel
theorem dX6_total_94 : decode cX6_total 94 = .ok (.aload_n 0, 1) := by decide +kernel
theorem dX6_total_95 : decode cX6_total 95 = .ok (.getfield 116, 3) := by decide +kernel
theorem dX6_total_98 : decode cX6_total 98 = .ok (.ireturn, 1) := by decide +kernel
theorem dX6_total_99 : decode cX6_total 99 = .ok (.aload_n 0, 1) := by decide +kernel
theorem dX6_total_100 : decode cX6_total 100 = .ok (.getfield 168, 3) := by decide +kernel
theorem dX6_total_103 : decode cX6_total 103 = .ok (.ireturn, 1) := by decide +kernel
theorem dX6_total_104 : decode cX6_total 104 = .ok (.aload_n 0, 1) := by decide +kernel
theorem dX6_total_105 : decode cX6_total 105 = .ok (.getfield 78, 3) := by decide +kernel
theorem dX6_total_108 : decode cX6_total 108 = .ok (.ireturn, 1) := by decide +kernel
theorem dX6_total_109 : decode cX6_total 109 = .ok (.iload_n 2, 1) := by decide +kernel
theorem dX6_total_110 : decode cX6_total 110 = .ok (.ireturn, 1) := by decide +kernel
theorem dX6_total_111 : decode cX6_total 111 = .ok (.aload_n 0, 1) := by decide +kernel
theorem dX6_total_112 : decode cX6_total 112 = .ok (.invokevirtual 90, 3) := by decide +kernel
theorem dX6_total_115 : decode cX6_total 115 = .ok (.ireturn, 1) := by decide +kernel
theorem dX6_total_116 : decode cX6_total 116 = .ok (.aload_n 0, 1) := by decide +kernel
theorem dX6_total_117 : decode cX6_total 117 = .ok (.getfield 128, 3) := by decide +kernel
theorem dX6_total_120 : decode cX6_total 120 = .ok (.ifCond .eq 7, 3) := by decide +kernel
theorem dX6_total_123 : decode cX6_total 123 = .ok (.iconst 1, 1) := by decide +kernel
theorem dX6_total_124 : decode cX6_total 124 = .ok (.goto 4, 3) := by decide +kernel
theorem dX6_total_127 : decode cX6_total 127 = .ok (.iconst 0, 1) := by decide +kernel
theorem dX6_total_128 : decode cX6_total 128 = .ok (.ireturn, 1) := by decide +kernel
theorem dX6_total_129 : decode cX6_total 129 = .ok (.bipush (-2), 2) := by decide +kernel
theorem dX6_total_131 : decode cX6_total 131 = .ok (.ireturn, 1) := by decide +kernel
theorem dJ9_abs_0f7a4_0 : decode cJ9_abs_0f7a4 0 = .ok (.iload_n 0, 1) := by decide +kernel
theorem dJ9_abs_0f7a4_1 : decode cJ9_abs_0f7a4 1 = .ok (.ifCond .ge 8, 3) := by decide +kernel
theorem dJ9_abs_0f7a4_4 : decode cJ9_abs_0f7a4 4 = .ok (.iload_n 0, 1) := by decide +kernel
theorem dJ9_abs_0f7a4_5 : decode cJ9_abs_0f7a4 5 = .ok (.ineg, 1) := by decide +kernel
theorem dJ9_abs_0f7a4_6 : decode cJ9_abs_0f7a4 6 = .ok (.goto 4, 3) := by decide +kernel
theorem dJ9_abs_0f7a4_9 : decode cJ9_abs_0f7a4 9 = .ok (.iload_n 0, 1) := by decide +kernel
theorem dJ9_abs_0f7a4_10 : decode cJ9_abs_0f7a4 10 = .ok (.ireturn, 1) := by decide +kernel
theorem dJ9_abs_067f4_0 : decode cJ9_abs_067f4 0 = .ok (.lload_n 0, 1) := by decide +kernel
theorem dJ9_abs_067f4_1 : decode cJ9_abs_067f4 1 = .ok (.lconst 0, 1) := by decide +kernel
theorem dJ9_abs_067f4_2 : decode cJ9_abs_067f4 2 = .ok (.lcmp, 1) := by decide +kernel
theorem dJ9_abs_067f4_3 : decode cJ9_abs_067f4 3 = .ok (.ifCond .ge 8, 3) := by decide +kernel
theorem dJ9_abs_067f4_6 : decode cJ9_abs_067f4 6 = .ok (.lload_n 0, 1) := by decide +kernel
theorem dJ9_abs_067f4_7 : decode cJ9_abs_067f4 7 = .ok (.lneg, 1) := by decide +kernel
theorem dJ9_abs_067f4_8 : decode cJ9_abs_067f4 8 = .ok (.goto 4, 3) := by decide +kernel
theorem dJ9_abs_067f4_11 : decode cJ9_abs_067f4 11 = .ok (.lload_n 0, 1) := by decide +kernel
theorem dJ9_abs_067f4_12 : decode cJ9_abs_067f4 12 = .ok (.lreturn, 1) := by decide +kernel
theorem dJ9_max_7cf53_0 : decode cJ9_max_7cf53 0 = .ok (.iload_n 0, 1) := by decide +kernel
theorem dJ9_max_7cf53_1 : decode cJ9_max_7cf53 1 = .ok (.iload_n 1, 1) := by decide +kernel
theorem dJ9_max_7cf53_2 : decode cJ9_max_7cf53 2 = .ok (.if_icmp .lt 7, 3) := by decide +kernel
theorem dJ9_max_7cf53_5 : decode cJ9_max_7cf53 5 = .ok (.iload_n 0, 1) := by decide +kernel
theorem dJ9_max_7cf53_6 : decode cJ9_max_7cf53 6 = .ok (.goto 4, 3) := by decide +kernel
theorem dJ9_max_7cf53_9 : decode cJ9_max_7cf53 9 = .ok (.iload_n 1, 1) := by decide +kernel
theorem dJ9_max_7cf53_10 : decode cJ9_max_7cf53 10 = .ok (.ireturn, 1) := by decide +kernel
theorem dJ9_max_f86c9_0 : decode cJ9_max_f86c9 0 = .ok (.lload_n 0, 1) := by decide +kernel
theorem dJ9_max_f86c9_1 : decode cJ9_max_f86c9 1 = .ok (.lload_n 2, 1) := by decide +kernel
theorem dJ9_max_f86c9_2 : decode cJ9_max_f86c9 2 = .ok (.lcmp, 1) := by decide +kernel
theorem dJ9_max_f86c9_3 : decode cJ9_max_f86c9 3 = .ok (.ifCond .lt 7, 3) := by decide +kernel
theorem dJ9_max_f86c9_6 : decode cJ9_max_f86c9 6 = .ok (.lload_n 0, 1) := by decide +kernel
theorem dJ9_max_f86c9_7 : decode cJ9_max_f86c9 7 = .ok (.goto 4, 3) := by decide +kernel
theorem dJ9_max_f86c9_10 : decode cJ9_max_f86c9 10 = .ok (.lload_n 2, 1) := by decide +kernel
theorem dJ9_max_f86c9_11 : decode cJ9_max_f86c9 11 = .ok (.lreturn, 1) := by decide +kernel
theorem dJ9_min_7cf53_0 : decode cJ9_min_7cf53 0 = .ok (.iload_n 0, 1) := by decide +kernel
theorem dJ9_min_7cf53_1 : decode cJ9_min_7cf53 1 = .ok (.iload_n 1, 1) := by decide +kernel
theorem dJ9_min_7cf53_2 : decode cJ9_min_7cf53 2 = .ok (.if_icmp .gt 7, 3) := by decide +kernel
theorem dJ9_min_7cf53_5 : decode cJ9_min_7cf53 5 = .ok (.iload_n 0, 1) := by decide +kernel
theorem dJ9_min_7cf53_6 : decode cJ9_min_7cf53 6 = .ok (.goto 4, 3) := by decide +kernel
theorem dJ9_min_7cf53_9 : decode cJ9_min_7cf53 9 = .ok (.iload_n 1, 1) := by decide +kernel
theorem dJ9_min_7cf53_10 : decode cJ9_min_7cf53 10 = .ok (.ireturn, 1) := by decide +kernel
theorem dJ9_min_f86c9_0 : decode cJ9_min_f86c9 0 = .ok (.lload_n 0, 1) := by decide +kernel
theorem dJ9_min_f86c9_1 : decode cJ9_min_f86c9 1 = .ok (.lload_n 2, 1) := by decide +kernel
theorem dJ9_min_f86c9_2 : decode cJ9_min_f86c9 2 = .ok (.lcmp, 1) := by decide +kernel
theorem dJ9_min_f86c9_3 : decode cJ9_min_f86c9 3 = .ok (.ifCond .gt 7, 3) := by decide +kernel
theorem dJ9_min_f86c9_6 : decode cJ9_min_f86c9 6 = .ok (.lload_n 0, 1) := by decide +kernel
theorem dJ9_min_f86c9_7 : decode cJ9_min_f86c9 7 = .ok (.goto 4, 3) := by decide +kernel
theorem dJ9_min_f86c9_10 : decode cJ9_min_f86c9 10 = .ok (.lload_n 2, 1) := by decide +kernel
theorem dJ9_min_f86c9_11 : decode cJ9_min_f86c9 11 = .ok (.lreturn, 1) := by decide +kernel
theorem dJ7_fill_53178_0 : decode cJ7_fill_53178 0 = .ok (.iconst 0, 1) := by decide +kernel
theorem dJ7_fill_53178_1 : decode cJ7_fill_53178 1 = .ok (.istore_n 2, 1) := by decide +kernel
theorem dJ7_fill_53178_2 : decode cJ7_fill_53178 2 = .ok (.aload_n 0, 1) := by decide +kernel
theorem dJ7_fill_53178_3 : decode cJ7_fill_53178 3 = .ok (.arraylength, 1) := by decide +kernel
theorem dJ7_fill_53178_4 : decode cJ7_fill_53178 4 = .ok (.istore_n 3, 1) := by decide +kernel
theorem dJ7_fill_53178_5 : decode cJ7_fill_53178 5 = .ok (.iload_n 2, 1) := by decide +kernel
theorem dJ7_fill_53178_6 : decode cJ7_fill_53178 6 = .ok (.iload_n 3, 1) := by decide +kernel
theorem dJ7_fill_53178_7 : decode cJ7_fill_53178 7 = .ok (.if_icmp .ge 13, 3) := by decide +kernel
theorem dJ7_fill_53178_10 : decode cJ7_fill_53178 10 = .ok (.aload_n 0, 1) := by decide +kernel
theorem dJ7_fill_53178_11 : decode cJ7_fill_53178 11 = .ok (.iload_n 2, 1) := by decide +kernel
theorem dJ7_fill_53178_12 : decode cJ7_fill_53178 12 = .ok (.iload_n 1, 1) := by decide +kernel
theorem dJ7_fill_53178_13 : decode cJ7_fill_53178 13 = .ok (.iastore, 1) := by decide +kernel
theorem dJ7_fill_53178_14 : decode cJ7_fill_53178 14 = .ok (.iinc 2 1, 3) := by decide +kernel
theorem dJ7_fill_53178_17 : decode cJ7_fill_53178 17 = .ok (.goto (-12), 3) := by decide +kernel
theorem dJ7_fill_53178_20 : decode cJ7_fill_53178 20 = .ok (.return_, 1) := by decide +kernel
end
section
/-! whole numbers as the machine's ints and longs -/
def i32 (z : Int) : Int32 := Int32.ofInt z
def i64 (z : Int) : Int64 := Int64.ofInt z
theorem i32_toInt {z : Int} (h1 : -2147483648 ≤ z) (h2 : z < 2147483648) : (i32 z).toInt = z := by
  unfold i32
  rw [Int32.toInt_ofInt]
  have hs : ((Int32.size : Nat) : Int) = 4294967296 := rfl
  exact Int.bmod_eq_of_le (by omega) (by omega)
theorem i64_toInt {z : Int} (h1 : -9223372036854775808 ≤ z) (h2 : z < 9223372036854775808) : (i64 z).toInt = z := by
  unfold i64
  rw [Int64.toInt_ofInt]
  have hs : ((Int64.size : Nat) : Int) = 18446744073709551616 := rfl
  exact Int.bmod_eq_of_le (by omega) (by omega)
theorem i32_self (x : Int32) : i32 x.toInt = x := Int32.ofInt_toInt x
theorem i64_self (x : Int64) : i64 x.toInt = x := Int64.ofInt_toInt x
theorem i32_rng (x : Int32) : -2147483648 ≤ x.toInt ∧ x.toInt < 2147483648 := ⟨Int32.le_toInt x, Int32.toInt_lt x⟩
theorem i32_of (x : Int32) : ∃ z : Int, x = i32 z ∧ -2147483648 ≤ z ∧ z < 2147483648 := ⟨x.toInt, (i32_self x).symm, (i32_rng x).1, (i32_rng x).2⟩
theorem i32_add (a b : Int) : i32 a + i32 b = i32 (a + b) := (Int32.ofInt_add a b).symm
theorem i32_sub (a b : Int) : i32 a - i32 b = i32 (a - b) := (Int32.ofInt_sub a b).symm
theorem i32_mul (a b : Int) : i32 a * i32 b = i32 (a * b) := (Int32.ofInt_mul a b).symm
theorem i32_neg (a : Int) : -i32 a = i32 (-a) := (Int32.ofInt_neg a).symm
theorem i64_add (a b : Int) : i64 a + i64 b = i64 (a + b) := (Int64.ofInt_add a b).symm
theorem i64_sub (a b : Int) : i64 a - i64 b = i64 (a - b) := (Int64.ofInt_sub a b).symm
theorem i64_neg (a : Int) : -i64 a = i64 (-a) := (Int64.ofInt_neg a).symm
def zr (z : Int) : Prop := -2147483648 ≤ z ∧ z < 2147483648
def zrl (z : Int) : Prop := -9223372036854775808 ≤ z ∧ z < 9223372036854775808
theorem i32_lt {a b : Int} (ha : zr a) (hb : zr b) : i32 a < i32 b ↔ a < b := by
  rw [Int32.lt_iff_toInt_lt, i32_toInt ha.1 ha.2, i32_toInt hb.1 hb.2]
theorem i32_le {a b : Int} (ha : zr a) (hb : zr b) : i32 a ≤ i32 b ↔ a ≤ b := by
  rw [Int32.le_iff_toInt_le, i32_toInt ha.1 ha.2, i32_toInt hb.1 hb.2]
theorem i32_eq {a b : Int} (ha : zr a) (hb : zr b) : i32 a = i32 b ↔ a = b := by
  rw [← Int32.toInt_inj, i32_toInt ha.1 ha.2, i32_toInt hb.1 hb.2]
theorem i64_lt {a b : Int} (ha : zrl a) (hb : zrl b) : i64 a < i64 b ↔ a < b := by
  rw [Int64.lt_iff_toInt_lt, i64_toInt ha.1 ha.2, i64_toInt hb.1 hb.2]
theorem i64_le {a b : Int} (ha : zrl a) (hb : zrl b) : i64 a ≤ i64 b ↔ a ≤ b := by
  rw [Int64.le_iff_toInt_le, i64_toInt ha.1 ha.2, i64_toInt hb.1 hb.2]
theorem i64_eq {a b : Int} (ha : zrl a) (hb : zrl b) : i64 a = i64 b ↔ a = b := by
  rw [← Int64.toInt_inj, i64_toInt ha.1 ha.2, i64_toInt hb.1 hb.2]
theorem i32_0 : (0 : Int32) = i32 0 := by decide +kernel
theorem zr0 : zr 0 := ⟨by decide, by decide⟩
theorem i32_clamp {z : Int} (h1 : 0 ≤ z) (h2 : z < 2147483648) : (i32 z).toNatClampNeg = z.toNat := by
  show (i32 z).toInt.toNat = z.toNat
  rw [i32_toInt (by omega) h2]
theorem i32_in {z : Int} {n : Nat} (h1 : 0 ≤ z) (h2 : z < n) (hn : (n : Int) < 2147483648) : vp_in (i32 z) n := by
  rw [vp_in_iff, i32_toInt (by omega) (by omega)]
  exact ⟨h1, h2⟩
theorem i32_l {z : Int} (h : zr z) : (i32 z).toInt64 = i64 z := by
  rw [← Int64.toInt_inj, Int32.toInt_toInt64, i32_toInt h.1 h.2, i64_toInt (by have := h.1; omega) (by have := h.2; omega)]
theorem i64_i (z : Int) : (i64 z).toInt32 = i32 z := by
  unfold i64 i32
  rw [Int64.toInt32_ofInt]
theorem nI_i (n : Nat) : nI n = i32 (n : Int) := by
  show Int32.ofNat n = Int32.ofInt (n : Int)
  rw [Int32.ofInt_eq_ofNat]
/-! the world: logical places, each with an address and what lies there -/
abbrev zL : Type := Nat → Nat → Option (Nat × va_E)
def zu (L : zL) (k i : Nat) (q : Option (Nat × va_E)) : zL := fun k' i' => if k' = k ∧ i' = i then q else L k' i'
def zW (D : va_G) (B0 : Nat) (L : zL) (H : Heap) : Prop :=
  (∀ (k i : Nat) (q : Nat × va_E), L k i = some q → va_at D vwCl q H ∧ B0 ≤ q.1) ∧
  (∀ (k i k' i' : Nat) (q q' : Nat × va_E), L k i = some q → L k' i' = some q' → q.1 = q'.1 → k = k' ∧ i = i') ∧ B0 ≤ H.size
def zX (D : va_G) (B0 : Nat) (L : zL) (H0 H : Heap) (locs : List Loc) : Prop := zW D B0 L H ∧ va_S (fun q => B0 ≤ q) H0 H locs
theorem zu_self (L : zL) (k i : Nat) (q : Option (Nat × va_E)) : zu L k i q k i = q := if_pos ⟨rfl, rfl⟩
theorem zu_ne {L : zL} {k i k' i' : Nat} {q : Option (Nat × va_E)} (h : ¬ (k' = k ∧ i' = i)) : zu L k i q k' i' = L k' i' := if_neg h
theorem zu_at {L : zL} {k i k' i' : Nat} {q : Option (Nat × va_E)} {x : Nat × va_E} (h : zu L k i q k' i' = some x) : (k' = k ∧ i' = i ∧ q = some x) ∨ (¬ (k' = k ∧ i' = i) ∧ L k' i' = some x) := by
  by_cases hc : k' = k ∧ i' = i
  · rw [hc.1, hc.2, zu_self] at h
    exact Or.inl ⟨hc.1, hc.2, h⟩
  · rw [zu_ne hc] at h
    exact Or.inr ⟨hc, h⟩
theorem zW.put {D : va_G} {B0 : Nat} {L : zL} {H H1 : Heap} {k i a : Nat} {e0 e : va_E} (w : zW D B0 L H) (h : L k i = some (a, e0)) (he : va_at D vwCl (a, e) H1) (hz : H1.size = H.size) (oq : ∀ q : Nat, q ≠ a → H1[q]? = H[q]?) : zW D B0 (zu L k i (some (a, e))) H1 := by
  obtain ⟨w1, w2, w3⟩ := w
  refine ⟨fun k' i' q hq => ?_, fun k1 i1 k2 i2 q q' h1 h2 hx => ?_, by rw [hz]; exact w3⟩
  · rcases zu_at hq with ⟨-, -, hs⟩ | ⟨hn, hs⟩
    · cases hs
      exact ⟨he, (w1 k i _ h).2⟩
    · refine ⟨(w1 k' i' q hs).1.kept (oq q.1 (fun z => hn ?_)), (w1 k' i' q hs).2⟩
      exact w2 k' i' k i q (a, e0) hs h z
  · rcases zu_at h1 with ⟨a1, b1, c1⟩ | ⟨n1, c1⟩ <;> rcases zu_at h2 with ⟨a2, b2, c2⟩ | ⟨n2, c2⟩
    · exact ⟨a1.trans a2.symm, b1.trans b2.symm⟩
    · cases c1
      exact absurd (w2 k2 i2 k i q' (a, e0) c2 h hx.symm) n2
    · cases c2
      exact absurd (w2 k1 i1 k i q (a, e0) c1 h hx) n1
    · exact w2 k1 i1 k2 i2 q q' c1 c2 hx
theorem zW.push {D : va_G} {B0 : Nat} {L : zL} {H H1 : Heap} {a : Nat} {e : va_E} (k i : Nat) (w : zW D B0 L H) (ha : a = H.size) (he : va_at D vwCl (a, e) H1) (hz : H1.size = H.size + 1) (oq : ∀ q : Nat, q < H.size → H1[q]? = H[q]?) : zW D B0 (zu L k i (some (a, e))) H1 := by
  obtain ⟨w1, w2, w3⟩ := w
  have lt : ∀ (k i : Nat) (q : Nat × va_E), L k i = some q → q.1 < H.size := fun k i q h => (w1 k i q h).1.lt
  refine ⟨fun k' i' q hq => ?_, fun k1 i1 k2 i2 q q' h1 h2 hx => ?_, by omega⟩
  · rcases zu_at hq with ⟨-, -, hs⟩ | ⟨hn, hs⟩
    · cases hs
      exact ⟨he, by show B0 ≤ a; omega⟩
    · exact ⟨(w1 k' i' q hs).1.kept (oq q.1 (lt k' i' q hs)), (w1 k' i' q hs).2⟩
  · rcases zu_at h1 with ⟨a1, b1, c1⟩ | ⟨n1, c1⟩ <;> rcases zu_at h2 with ⟨a2, b2, c2⟩ | ⟨n2, c2⟩
    · exact ⟨a1.trans a2.symm, b1.trans b2.symm⟩
    · cases c1
      have := lt k2 i2 q' c2
      have hx : a = q'.1 := hx
      omega
    · cases c2
      have := lt k1 i1 q c1
      have hx : q.1 = a := hx
      omega
    · exact w2 k1 i1 k2 i2 q q' c1 c2 hx
theorem zW.less {D : va_G} {B0 : Nat} {L L' : zL} {H : Heap} (w : zW D B0 L H) (h : ∀ (k i : Nat) (q : Nat × va_E), L' k i = some q → L k i = some q) : zW D B0 L' H :=
  ⟨fun k i q hq => w.1 k i q (h k i q hq), fun k i k' i' q q' h1 h2 hx => w.2.1 k i k' i' q q' (h k i q h1) (h k' i' q' h2) hx, w.2.2⟩
theorem zX.less {D : va_G} {B0 : Nat} {L L' : zL} {H0 H : Heap} {locs : List Loc} (w : zX D B0 L H0 H locs) (h : ∀ (k i : Nat) (q : Nat × va_E), L' k i = some q → L k i = some q) : zX D B0 L' H0 H locs := ⟨w.1.less h, w.2⟩
theorem zX.to {D : va_G} {B0 : Nat} {L L' : zL} {H0 H : Heap} {locs : List Loc} (w : zX D B0 L H0 H locs) (h : ∀ (k i : Nat), L' k i = L k i) : zX D B0 L' H0 H locs := w.less (fun k i q hq => by rw [← h]; exact hq)
theorem zW.P {D : va_G} {B0 : Nat} {L : zL} {H : Heap} (w : zW D B0 L H) {k i : Nat} {q : Nat × va_E} (h : L k i = some q) : va_P D vwCl [q] H := by
  intro j x hj
  cases j with
  | zero => cases hj; exact (w.1 k i _ h).1
  | succ j => simp at hj
/-- int arrays: what lies below the length counts alone -/
theorem z_arr {cA : ClassId} {n : Nat} {f g : Nat → Int32} (h : ∀ j, j < n → f j = g j) : vp_cell cA (n, .inl f) = vp_cell cA (n, .inl g) := by
  rw [vp_cell_i, vp_cell_i]
  unfold arrV
  congr 2
  funext j
  show Value.int (f j.val) = Value.int (g j.val)
  rw [h j.val j.isLt]
theorem z_arrq {cA : ClassId} {n : Nat} {f g : Nat → Option Nat} (h : ∀ j, j < n → f j = g j) : vp_cell cA (n, .inr (.inr (.inr (.inr f)))) = vp_cell cA (n, .inr (.inr (.inr (.inr g)))) := by
  rw [vp_cell_q, vp_cell_q]
  unfold arrV
  congr 2
  funext j
  show va_rf (f j.val) = va_rf (g j.val)
  rw [h j.val j.isLt]
end
section
def ztys (cA : Nat → ClassId) : List (ClassId × FieldType) := [(cA 0, .int), (cA 1, .boolean), (cA 2, .object "EchoRow$Element"), (cA 3, .object "EchoRow$Target"), (cA 4, .object "EchoRow$Told"), (cA 5, .object "EchoRow$Sheet")]
/-- what is known of the tables at every state -/
def zN (D : va_G) (cA : Nat → ClassId) (U : State) : Prop := va_K D vwCl (ztys cA) U ∧ va_Nw (.methodLinkNest RX1 37 yX5_outside RX5) U ∧ va_AO "EchoRow$Element" U ∧ va_AO "EchoRow$Target" U ∧ va_AO "EchoRow$Told" U ∧ va_AO "EchoRow$Sheet" U
theorem zN.warm {D : va_G} {cA : Nat → ClassId} {s U : State} (h : zN D cA s) (hW : s.WarmedH U.vm) : zN D cA U :=
  ⟨va_K.moved hW.alike h.1, va_Nw.warmM hW h.2.1, h.2.2.1.moved hW.alike, h.2.2.2.1.moved hW.alike, h.2.2.2.2.1.moved hW.alike, h.2.2.2.2.2.moved hW.alike⟩
theorem zN.calling {D : va_G} {cA : Nat → ClassId} {U : State} {g : JFrame} {mk : MethodId} {a : Array Value} (h : zN D cA U) : zN D cA (U.calling g mk a) :=
  ⟨va_K.moved (u := U) (U := U.calling g mk a) (Vm.Alike.refl U.vm) h.1, va_Nw.same (u := U) (U := U.calling g mk a) rfl rfl h.2.1, va_AO.moved (u := U) (U := U.calling g mk a) (Vm.Alike.refl U.vm) h.2.2.1, va_AO.moved (u := U) (U := U.calling g mk a) (Vm.Alike.refl U.vm) h.2.2.2.1, va_AO.moved (u := U) (U := U.calling g mk a) (Vm.Alike.refl U.vm) h.2.2.2.2.1, va_AO.moved (u := U) (U := U.calling g mk a) (Vm.Alike.refl U.vm) h.2.2.2.2.2⟩
/-- what stands fixed through a method's walk -/
def zE (p : Program) (s : State) (m : MethodId) (args : Array Value) (meth : Method) (c : Code) (cc : ByteArray) (own nm : String) (ws : List Cond) (ml : Nat) (ret : Option FieldType) (D : va_G) (cA : Nat → ClassId) : Prop :=
  p.tables.exec = Jvm.exec ∧ c.code = cc ∧ c.maxLocals = ml ∧ s.vm.findClass own = some m.cls ∧ (∀ w ∈ ws, w.before args s = true) ∧ zN D cA s ∧ meth.locks = false ∧ meth.sig.returnType = ret ∧ meth.name = nm
/-- a contract: from the heaps with P the method ends, with an answer and a heap of post -/
def zQ (B0 : Nat) (post : Option Value → Heap → Prop) : Array Value → State → Outcome → State → Prop := fun _ st oc t => (∃ v : Option Value, oc = .returned v ∧ post v t.heap) ∧ va_F (fun q => B0 ≤ q) st t
def zM (l : Launch) (y : MethodName) (ws : List Cond) (rm : Room) (av : List Value) (D : va_G) (cA : Nat → ClassId) (B0 : Nat) (P : Heap → Prop) (post : Option Value → Heap → Prop) : Prop :=
  Met l y ws rm (va_Pc av (fun U => P U.heap ∧ B0 ≤ U.heap.size ∧ zN D cA U)) (zQ B0 post) rm.cells rm.slots (fun q => B0 ≤ q)
theorem z_met {l : Launch} {y : MethodName} {ws ws' : List Cond} {rm : Room} {av : List Value} {D : va_G} {cA : Nat → ClassId} {B0 : Nat} {P : Heap → Prop} {post : Option Value → Heap → Prop} {cc : ByteArray} {maxL : Nat} {ret : Option FieldType}
    (hy : plainName y.cls = true) (hw : ws = Cond.code y cc maxL ret :: ws') (hlen : (lg_sl av).length ≤ maxL)
    (body : ∀ (p : Program) (e : Env) (s : State) (m : MethodId) (args : Array Value) (below : List Frame) (meth : Method) (c : Code) (ls : Array Slot) (Q : State → Prop), Q = MQ below (zQ B0 post) args s rm.cells rm.slots (fun q => B0 ≤ q) →
      zE p s m args meth c cc y.cls y.name ws maxL ret D cA → P s.heap → B0 ≤ s.heap.size → va_S (fun q => B0 ≤ q) s.heap s.heap [] → lv_has ls maxL (lv_args 0 av) → W p l e rm s m args below meth c s.heap [] 0 0 Q (F0 m 0 ls [])) :
    zM l y ws rm av D cA B0 P post := by
  refine Met.ofW (cc := cc) (maxL := maxL) (ret := ret) hy hw ?_
  intro p e s m args below meth c s₁ B hml hv
  obtain ⟨hargs, hP, hB, hN⟩ := hv
  have hl := lv_entry av (n := maxL) hlen
  have hb := body p e s m args below meth c _ _ rfl ⟨B.exec, B.bytes, hml, findClass_of_methodNamed B.named, atoms_spec (ws := ws) B.pre, hN, B.notSynchronized, B.returns, (name_of_methodNamed B.named B.method).1⟩ hP hB va_S.rf hl
  rw [← lg_entry_eq, ← hargs] at hb
  exact hb
section ZR
variable {p : Program} {l : Launch} {e : Env} {R : Room} {s : State} {m : MethodId} {args : Array Value} {below : List Frame} {meth : Method} {c : Code} {H : Heap} {locs : List Loc} {cells slots : Nat} {Q : State → Prop}
variable {cc : ByteArray} {pc : Nat} {ls : Array Slot} {rest : List Value} {own nm : String} {ws : List Cond} {ml : Nat} {ret : Option FieldType} {D : va_G} {cA : Nat → ClassId} {B0 : Nat} {L : zL} {post : Option Value → Heap → Prop}
/-! numbers -/
theorem z_iconst (E : zE p s m args meth c cc own nm ws ml ret D cA) {n : Int} (d : decode cc pc = .ok (.iconst n, 1)) (k : W p l e R s m args below meth c H locs cells slots Q (F0 m (pc + 1) ls (.int (i32 n) :: rest))) : W p l e R s m args below meth c H locs cells slots Q (F0 m pc ls rest) := lv_iconst E.1 E.2.1 d rfl k
theorem z_bipush (E : zE p s m args meth c cc own nm ws ml ret D cA) {n : Int} (d : decode cc pc = .ok (.bipush n, 2)) (h : (Int8.ofInt n).toInt32 = i32 n) (k : W p l e R s m args below meth c H locs cells slots Q (F0 m (pc + 2) ls (.int (i32 n) :: rest))) : W p l e R s m args below meth c H locs cells slots Q (F0 m pc ls rest) := lv_bipush E.1 E.2.1 d h k
theorem z_sipush (E : zE p s m args meth c cc own nm ws ml ret D cA) {n : Int} (d : decode cc pc = .ok (.sipush n, 3)) (h : (Int16.ofInt n).toInt32 = i32 n) (k : W p l e R s m args below meth c H locs cells slots Q (F0 m (pc + 3) ls (.int (i32 n) :: rest))) : W p l e R s m args below meth c H locs cells slots Q (F0 m pc ls rest) := lv_sipush E.1 E.2.1 d h k
theorem z_lconst (E : zE p s m args meth c cc own nm ws ml ret D cA) {n : Fin 2} {z : Int} (d : decode cc pc = .ok (.lconst n, 1)) (h : Int64.ofNat (n : Nat) = i64 z) (k : W p l e R s m args below meth c H locs cells slots Q (F0 m (pc + 1) ls (.long (i64 z) :: rest))) : W p l e R s m args below meth c H locs cells slots Q (F0 m pc ls rest) := lv_lconst E.1 E.2.1 d h k
theorem z_ldc (E : zE p s m args meth c cc own nm ws ml ret D cA) {index : Nat} {v : Int32} {z : Int} (hc : Cond.constant own index v ∈ ws) (hv : v = i32 z) (d : decode cc pc = .ok (.ldc index, 2)) (k : W p l e R s m args below meth c H locs cells slots Q (F0 m (pc + 2) ls (.int (i32 z) :: rest))) : W p l e R s m args below meth c H locs cells slots Q (F0 m pc ls rest) := lv_ldc E.1 E.2.1 E.2.2.2.1 (E.2.2.2.2.1 _ hc) d (by rw [hv]; exact k)
theorem z_ldc2 (E : zE p s m args meth c cc own nm ws ml ret D cA) {index : Nat} {v : Int64} {z : Int} (hc : Cond.constantLong own index v ∈ ws) (hv : v = i64 z) (d : decode cc pc = .ok (.ldc2_w index, 3)) (k : W p l e R s m args below meth c H locs cells slots Q (F0 m (pc + 3) ls (.long (i64 z) :: rest))) : W p l e R s m args below meth c H locs cells slots Q (F0 m pc ls rest) := lv_ldc2 E.1 E.2.1 E.2.2.2.1 (E.2.2.2.2.1 _ hc) d (by rw [hv]; exact k)
theorem z_iadd (E : zE p s m args meth c cc own nm ws ml ret D cA) {a b : Int} (d : decode cc pc = .ok (.iadd, 1)) (k : W p l e R s m args below meth c H locs cells slots Q (F0 m (pc + 1) ls (.int (i32 (a + b)) :: rest))) : W p l e R s m args below meth c H locs cells slots Q (F0 m pc ls (.int (i32 b) :: .int (i32 a) :: rest)) := lv_iadd E.1 E.2.1 d (by rw [i32_add]; exact k)
theorem z_isub (E : zE p s m args meth c cc own nm ws ml ret D cA) {a b : Int} (d : decode cc pc = .ok (.isub, 1)) (k : W p l e R s m args below meth c H locs cells slots Q (F0 m (pc + 1) ls (.int (i32 (a - b)) :: rest))) : W p l e R s m args below meth c H locs cells slots Q (F0 m pc ls (.int (i32 b) :: .int (i32 a) :: rest)) := lv_isub E.1 E.2.1 d (by rw [i32_sub]; exact k)
theorem z_imul (E : zE p s m args meth c cc own nm ws ml ret D cA) {a b : Int} (d : decode cc pc = .ok (.imul, 1)) (k : W p l e R s m args below meth c H locs cells slots Q (F0 m (pc + 1) ls (.int (i32 (a * b)) :: rest))) : W p l e R s m args below meth c H locs cells slots Q (F0 m pc ls (.int (i32 b) :: .int (i32 a) :: rest)) := lv_imul E.1 E.2.1 d (by rw [i32_mul]; exact k)
theorem z_ineg (E : zE p s m args meth c cc own nm ws ml ret D cA) {a : Int} (d : decode cc pc = .ok (.ineg, 1)) (k : W p l e R s m args below meth c H locs cells slots Q (F0 m (pc + 1) ls (.int (i32 (-a)) :: rest))) : W p l e R s m args below meth c H locs cells slots Q (F0 m pc ls (.int (i32 a) :: rest)) := by
  refine lv_ineg E.1 E.2.1 d ?_
  first | (rw [i32_neg]; exact k) | (rw [show (0 : Int32) - i32 a = i32 (-a) by rw [i32_0, i32_sub]; congr 1; omega]; exact k)
theorem z_ladd (E : zE p s m args meth c cc own nm ws ml ret D cA) {a b : Int} (d : decode cc pc = .ok (.ladd, 1)) (k : W p l e R s m args below meth c H locs cells slots Q (F0 m (pc + 1) ls (.long (i64 (a + b)) :: rest))) : W p l e R s m args below meth c H locs cells slots Q (F0 m pc ls (.long (i64 b) :: .long (i64 a) :: rest)) := lv_ladd E.1 E.2.1 d (by rw [i64_add]; exact k)
theorem z_lsub (E : zE p s m args meth c cc own nm ws ml ret D cA) {a b : Int} (d : decode cc pc = .ok (.lsub, 1)) (k : W p l e R s m args below meth c H locs cells slots Q (F0 m (pc + 1) ls (.long (i64 (a - b)) :: rest))) : W p l e R s m args below meth c H locs cells slots Q (F0 m pc ls (.long (i64 b) :: .long (i64 a) :: rest)) := lv_lsub E.1 E.2.1 d (by rw [i64_sub]; exact k)
theorem z_lneg (E : zE p s m args meth c cc own nm ws ml ret D cA) {a : Int} (d : decode cc pc = .ok (.lneg, 1)) (k : W p l e R s m args below meth c H locs cells slots Q (F0 m (pc + 1) ls (.long (i64 (-a)) :: rest))) : W p l e R s m args below meth c H locs cells slots Q (F0 m pc ls (.long (i64 a) :: rest)) := by
  refine lv_lneg E.1 E.2.1 d ?_
  first | (rw [i64_neg]; exact k) | (rw [show (0 : Int64) - i64 a = i64 (-a) by rw [show (0 : Int64) = i64 0 by decide +kernel, i64_sub]; congr 1; omega]; exact k)
theorem z_i2l (E : zE p s m args meth c cc own nm ws ml ret D cA) {a : Int} (ha : zr a) (d : decode cc pc = .ok (.i2l, 1)) (k : W p l e R s m args below meth c H locs cells slots Q (F0 m (pc + 1) ls (.long (i64 a) :: rest))) : W p l e R s m args below meth c H locs cells slots Q (F0 m pc ls (.int (i32 a) :: rest)) := lv_i2l E.1 E.2.1 d (i32_l ha) k
theorem z_l2i (E : zE p s m args meth c cc own nm ws ml ret D cA) {a : Int} (d : decode cc pc = .ok (.l2i, 1)) (k : W p l e R s m args below meth c H locs cells slots Q (F0 m (pc + 1) ls (.int (i32 a) :: rest))) : W p l e R s m args below meth c H locs cells slots Q (F0 m pc ls (.long (i64 a) :: rest)) := lv_l2i E.1 E.2.1 d (i64_i a) k
theorem z_iinc (E : zE p s m args meth c cc own nm ws ml ret D cA) {i nL k : Nat} {n a : Int} {lv lv' : List (Nat × Value)} (d : decode cc pc = .ok (.iinc i n, 3)) (h : lv_has ls nL lv) (hk : lv[k]? = some (i, .int (i32 a))) (hn : i < nL) (hl : (i, Value.int (i32 (a + n))) :: lv.filter (fun q => !(q.1 == i) && !(q.1 + 1 == i && q.2.category == 2)) = lv')
    (kk : ∀ ls' : Array Slot, lv_has ls' nL lv' → W p l e R s m args below meth c H locs cells slots Q (F0 m (pc + 3) ls' rest)) : W p l e R s m args below meth c H locs cells slots Q (F0 m pc ls rest) := lv_iinc E.1 E.2.1 d h hk (i32_add a n) hn hl kk
/-! branches -/
theorem z_ceq (E : zE p s m args meth c cc own nm ws ml ret D cA) {a b : Int} {off : Int} (tgt : Nat) (ha : zr a) (hb : zr b) (d : decode cc pc = .ok (.if_icmp .eq off, 3)) (ht : (pc : Int) + off = (tgt : Int)) (kt : a = b → W p l e R s m args below meth c H locs cells slots Q (F0 m tgt ls rest)) (kf : ¬ a = b → W p l e R s m args below meth c H locs cells slots Q (F0 m (pc + 3) ls rest)) : W p l e R s m args below meth c H locs cells slots Q (F0 m pc ls (.int (i32 b) :: .int (i32 a) :: rest)) := lv_icmp_eq E.1 E.2.1 d ht (fun h => kt ((i32_eq ha hb).mp h)) (fun h => kf (fun q => h ((i32_eq ha hb).mpr q)))
theorem z_cne (E : zE p s m args meth c cc own nm ws ml ret D cA) {a b : Int} {off : Int} (tgt : Nat) (ha : zr a) (hb : zr b) (d : decode cc pc = .ok (.if_icmp .ne off, 3)) (ht : (pc : Int) + off = (tgt : Int)) (kt : ¬ a = b → W p l e R s m args below meth c H locs cells slots Q (F0 m tgt ls rest)) (kf : a = b → W p l e R s m args below meth c H locs cells slots Q (F0 m (pc + 3) ls rest)) : W p l e R s m args below meth c H locs cells slots Q (F0 m pc ls (.int (i32 b) :: .int (i32 a) :: rest)) := lv_icmp_ne E.1 E.2.1 d ht (fun h => kt (fun q => h ((i32_eq ha hb).mpr q))) (fun h => kf ((i32_eq ha hb).mp h))
theorem z_clt (E : zE p s m args meth c cc own nm ws ml ret D cA) {a b : Int} {off : Int} (tgt : Nat) (ha : zr a) (hb : zr b) (d : decode cc pc = .ok (.if_icmp .lt off, 3)) (ht : (pc : Int) + off = (tgt : Int)) (kt : a < b → W p l e R s m args below meth c H locs cells slots Q (F0 m tgt ls rest)) (kf : ¬ a < b → W p l e R s m args below meth c H locs cells slots Q (F0 m (pc + 3) ls rest)) : W p l e R s m args below meth c H locs cells slots Q (F0 m pc ls (.int (i32 b) :: .int (i32 a) :: rest)) := lv_icmp_lt E.1 E.2.1 d ht (fun h => kt ((i32_lt ha hb).mp h)) (fun h => kf (fun q => h ((i32_lt ha hb).mpr q)))
theorem z_cge (E : zE p s m args meth c cc own nm ws ml ret D cA) {a b : Int} {off : Int} (tgt : Nat) (ha : zr a) (hb : zr b) (d : decode cc pc = .ok (.if_icmp .ge off, 3)) (ht : (pc : Int) + off = (tgt : Int)) (kt : b ≤ a → W p l e R s m args below meth c H locs cells slots Q (F0 m tgt ls rest)) (kf : ¬ b ≤ a → W p l e R s m args below meth c H locs cells slots Q (F0 m (pc + 3) ls rest)) : W p l e R s m args below meth c H locs cells slots Q (F0 m pc ls (.int (i32 b) :: .int (i32 a) :: rest)) := lv_icmp_ge E.1 E.2.1 d ht (fun h => kt ((i32_le hb ha).mp h)) (fun h => kf (fun q => h ((i32_le hb ha).mpr q)))
theorem z_cgt (E : zE p s m args meth c cc own nm ws ml ret D cA) {a b : Int} {off : Int} (tgt : Nat) (ha : zr a) (hb : zr b) (d : decode cc pc = .ok (.if_icmp .gt off, 3)) (ht : (pc : Int) + off = (tgt : Int)) (kt : b < a → W p l e R s m args below meth c H locs cells slots Q (F0 m tgt ls rest)) (kf : ¬ b < a → W p l e R s m args below meth c H locs cells slots Q (F0 m (pc + 3) ls rest)) : W p l e R s m args below meth c H locs cells slots Q (F0 m pc ls (.int (i32 b) :: .int (i32 a) :: rest)) := lv_icmp_gt E.1 E.2.1 d ht (fun h => kt ((i32_lt hb ha).mp h)) (fun h => kf (fun q => h ((i32_lt hb ha).mpr q)))
theorem z_cle (E : zE p s m args meth c cc own nm ws ml ret D cA) {a b : Int} {off : Int} (tgt : Nat) (ha : zr a) (hb : zr b) (d : decode cc pc = .ok (.if_icmp .le off, 3)) (ht : (pc : Int) + off = (tgt : Int)) (kt : a ≤ b → W p l e R s m args below meth c H locs cells slots Q (F0 m tgt ls rest)) (kf : ¬ a ≤ b → W p l e R s m args below meth c H locs cells slots Q (F0 m (pc + 3) ls rest)) : W p l e R s m args below meth c H locs cells slots Q (F0 m pc ls (.int (i32 b) :: .int (i32 a) :: rest)) := lv_icmp_le E.1 E.2.1 d ht (fun h => kt ((i32_le ha hb).mp h)) (fun h => kf (fun q => h ((i32_le ha hb).mpr q)))
theorem z_feq (E : zE p s m args meth c cc own nm ws ml ret D cA) {a : Int} {off : Int} (tgt : Nat) (ha : zr a) (d : decode cc pc = .ok (.ifCond .eq off, 3)) (ht : (pc : Int) + off = (tgt : Int)) (kt : a = 0 → W p l e R s m args below meth c H locs cells slots Q (F0 m tgt ls rest)) (kf : ¬ a = 0 → W p l e R s m args below meth c H locs cells slots Q (F0 m (pc + 3) ls rest)) : W p l e R s m args below meth c H locs cells slots Q (F0 m pc ls (.int (i32 a) :: rest)) := lv_if_eq E.1 E.2.1 d ht (fun h => kt ((i32_eq ha zr0).mp (by rw [← i32_0]; exact h))) (fun h => kf (fun q => h (by rw [i32_0]; exact (i32_eq ha zr0).mpr q)))
theorem z_fne (E : zE p s m args meth c cc own nm ws ml ret D cA) {a : Int} {off : Int} (tgt : Nat) (ha : zr a) (d : decode cc pc = .ok (.ifCond .ne off, 3)) (ht : (pc : Int) + off = (tgt : Int)) (kt : ¬ a = 0 → W p l e R s m args below meth c H locs cells slots Q (F0 m tgt ls rest)) (kf : a = 0 → W p l e R s m args below meth c H locs cells slots Q (F0 m (pc + 3) ls rest)) : W p l e R s m args below meth c H locs cells slots Q (F0 m pc ls (.int (i32 a) :: rest)) := lv_if_ne E.1 E.2.1 d ht (fun h => kt (fun q => h (by rw [i32_0]; exact (i32_eq ha zr0).mpr q))) (fun h => kf ((i32_eq ha zr0).mp (by rw [← i32_0]; exact h)))
theorem z_flt (E : zE p s m args meth c cc own nm ws ml ret D cA) {a : Int} {off : Int} (tgt : Nat) (ha : zr a) (d : decode cc pc = .ok (.ifCond .lt off, 3)) (ht : (pc : Int) + off = (tgt : Int)) (kt : a < 0 → W p l e R s m args below meth c H locs cells slots Q (F0 m tgt ls rest)) (kf : ¬ a < 0 → W p l e R s m args below meth c H locs cells slots Q (F0 m (pc + 3) ls rest)) : W p l e R s m args below meth c H locs cells slots Q (F0 m pc ls (.int (i32 a) :: rest)) := lv_if_lt E.1 E.2.1 d ht (fun h => kt ((i32_lt ha zr0).mp (by rw [← i32_0]; exact h))) (fun h => kf (fun q => h (by rw [i32_0]; exact (i32_lt ha zr0).mpr q)))
theorem z_fge (E : zE p s m args meth c cc own nm ws ml ret D cA) {a : Int} {off : Int} (tgt : Nat) (ha : zr a) (d : decode cc pc = .ok (.ifCond .ge off, 3)) (ht : (pc : Int) + off = (tgt : Int)) (kt : 0 ≤ a → W p l e R s m args below meth c H locs cells slots Q (F0 m tgt ls rest)) (kf : ¬ 0 ≤ a → W p l e R s m args below meth c H locs cells slots Q (F0 m (pc + 3) ls rest)) : W p l e R s m args below meth c H locs cells slots Q (F0 m pc ls (.int (i32 a) :: rest)) := lv_if_ge E.1 E.2.1 d ht (fun h => kt ((i32_le zr0 ha).mp (by rw [← i32_0]; exact h))) (fun h => kf (fun q => h (by rw [i32_0]; exact (i32_le zr0 ha).mpr q)))
theorem z_fgt (E : zE p s m args meth c cc own nm ws ml ret D cA) {a : Int} {off : Int} (tgt : Nat) (ha : zr a) (d : decode cc pc = .ok (.ifCond .gt off, 3)) (ht : (pc : Int) + off = (tgt : Int)) (kt : 0 < a → W p l e R s m args below meth c H locs cells slots Q (F0 m tgt ls rest)) (kf : ¬ 0 < a → W p l e R s m args below meth c H locs cells slots Q (F0 m (pc + 3) ls rest)) : W p l e R s m args below meth c H locs cells slots Q (F0 m pc ls (.int (i32 a) :: rest)) := lv_if_gt E.1 E.2.1 d ht (fun h => kt ((i32_lt zr0 ha).mp (by rw [← i32_0]; exact h))) (fun h => kf (fun q => h (by rw [i32_0]; exact (i32_lt zr0 ha).mpr q)))
theorem z_fle (E : zE p s m args meth c cc own nm ws ml ret D cA) {a : Int} {off : Int} (tgt : Nat) (ha : zr a) (d : decode cc pc = .ok (.ifCond .le off, 3)) (ht : (pc : Int) + off = (tgt : Int)) (kt : a ≤ 0 → W p l e R s m args below meth c H locs cells slots Q (F0 m tgt ls rest)) (kf : ¬ a ≤ 0 → W p l e R s m args below meth c H locs cells slots Q (F0 m (pc + 3) ls rest)) : W p l e R s m args below meth c H locs cells slots Q (F0 m pc ls (.int (i32 a) :: rest)) := lv_if_le E.1 E.2.1 d ht (fun h => kt ((i32_le ha zr0).mp (by rw [← i32_0]; exact h))) (fun h => kf (fun q => h (by rw [i32_0]; exact (i32_le ha zr0).mpr q)))
def zcmp (a b : Int) : Int := if b < a then 1 else if a = b then 0 else -1
theorem zcmp_of {a b : Int} (ha : zrl a) (hb : zrl b) : lg_cmp (i64 a) (i64 b) = i32 (zcmp a b) := by
  unfold lg_cmp zcmp
  by_cases h1 : b < a
  · rw [if_pos ((i64_lt hb ha).mpr h1), if_pos h1]; decide +kernel
  · rw [if_neg (fun q => h1 ((i64_lt hb ha).mp q)), if_neg h1]
    by_cases h2 : a = b
    · rw [if_pos (by rw [h2]), if_pos h2]; decide +kernel
    · rw [if_neg (fun q => h2 ((i64_eq ha hb).mp q)), if_neg h2]; decide +kernel
theorem zcmp_zr (a b : Int) : zr (zcmp a b) := by
  unfold zcmp zr
  split
  · omega
  · split <;> omega
/-- lcmp: the number that it leaves, said by its sign -/
theorem z_lcmp (E : zE p s m args meth c cc own nm ws ml ret D cA) {a b : Int} (ha : zrl a) (hb : zrl b) (d : decode cc pc = .ok (.lcmp, 1)) (k : ∀ z : Int, zr z → (z < 0 ↔ a < b) → (z = 0 ↔ a = b) → W p l e R s m args below meth c H locs cells slots Q (F0 m (pc + 1) ls (.int (i32 z) :: rest))) : W p l e R s m args below meth c H locs cells slots Q (F0 m pc ls (.long (i64 b) :: .long (i64 a) :: rest)) := by
  refine W.lcmp E.1 E.2.1 d ?_
  rw [zcmp_of ha hb]
  refine k _ (zcmp_zr a b) ?_ ?_
  · unfold zcmp
    split
    · omega
    · split <;> omega
  · unfold zcmp
    split
    · omega
    · split <;> omega
end ZR
end
section
theorem i32_clampN {z : Int} {j : Nat} (hj : z = (j : Int)) (h : j < 2147483648) : (i32 z).toNatClampNeg = j := by
  rw [i32_clamp (by omega) (by omega)]
  omega
theorem i32_inN {z : Int} {j n : Nat} (hj : z = (j : Int)) (h2 : j < n) (h3 : n < 2147483648) : vp_in (i32 z) n := i32_in (by omega) (by omega) (by omega)
section ZH
theorem z_top {p : Program} {l : Launch} {e : Env} {R : Room} {s : State} {m : MethodId} {args : Array Value} {below : List Frame} {meth : Method} {c : Code} {H : Heap} {locs : List Loc} {cells slots pc : Nat} {Q : State → Prop} {ls : Array Slot} {rest : List Value} {z : Int} (z' : Int) (h : z = z') (k : W p l e R s m args below meth c H locs cells slots Q (F0 m pc ls (.int (i32 z') :: rest))) : W p l e R s m args below meth c H locs cells slots Q (F0 m pc ls (.int (i32 z) :: rest)) := by
  subst h
  exact k
theorem z_topl {p : Program} {l : Launch} {e : Env} {R : Room} {s : State} {m : MethodId} {args : Array Value} {below : List Frame} {meth : Method} {c : Code} {H : Heap} {locs : List Loc} {cells slots pc : Nat} {Q : State → Prop} {ls : Array Slot} {rest : List Value} {z : Int} (z' : Int) (h : z = z') (k : W p l e R s m args below meth c H locs cells slots Q (F0 m pc ls (.long (i64 z') :: rest))) : W p l e R s m args below meth c H locs cells slots Q (F0 m pc ls (.long (i64 z) :: rest)) := by
  subst h
  exact k
variable {p : Program} {l : Launch} {e : Env} {R : Room} {s : State} {m : MethodId} {args : Array Value} {below : List Frame} {meth : Method} {c : Code} {H : Heap} {locs : List Loc} {cells slots : Nat} {Q : State → Prop}
variable {cc : ByteArray} {pc : Nat} {ls : Array Slot} {rest : List Value} {own nm : String} {ws : List Cond} {ml : Nat} {ret : Option FieldType} {D : va_G} {cA : Nat → ClassId} {B0 : Nat} {L : zL} {post : Option Value → Heap → Prop}
theorem z_get (E : zE p s m args meth c cc own nm ws ml ret D cA) (X : zX D B0 L s.heap H locs) {k i a ci : Nat} {fs : List Value} (h : L k i = some (a, .inr (ci, fs))) {C : String} {T : u_T} {N index : Nat} (hc : vwCl[ci]? = some (C, T, N)) (hin : ∀ w ∈ u_ws C T N, w ∈ ws) (f : Nat) (hf : f < N) (hl : Cond.fieldLink own index (T f).1 (T f).2.1 (T f).2.2.1 ∈ ws) {v : Value} (hv : fs[f]? = some v) (d : decode cc pc = .ok (.getfield index, 3))
    (kk : W p l e R s m args below meth c H locs cells slots Q (F0 m (pc + 3) ls (v :: rest))) : W p l e R s m args below meth c H locs cells slots Q (F0 m pc ls (.ref a :: rest)) :=
  va_get (D := D) (cl := vwCl) (tys := ztys cA) E.1 E.2.1 E.2.2.2.2.1 hin E.2.2.2.1 E.2.2.2.2.2.1.1 (X.1.P h) 0 rfl hc f hf (E.2.2.2.2.1 _ hl) (fun _ q => q) hv d kk
theorem zX.put {D : va_G} {B0 : Nat} {L : zL} {H0 H H1 : Heap} {locs : List Loc} {k i a n : Nat} {e0 e : va_E} (w : zX D B0 L H0 H locs) (h : L k i = some (a, e0)) (he : va_at D vwCl (a, e) H1) (hz : H1.size = H.size) (oq : ∀ q : Nat, q ≠ a → H1[q]? = H[q]?) : zX D B0 (zu L k i (some (a, e))) H0 H1 (locs ++ [⟨a, n⟩]) :=
  ⟨w.1.put h he hz oq, w.2.put hz oq (w.1.1 k i _ h).2⟩
theorem z_put (E : zE p s m args meth c cc own nm ws ml ret D cA) (X : zX D B0 L s.heap H locs) {k i a ci : Nat} {fs : List Value} (h : L k i = some (a, .inr (ci, fs))) {C : String} {T : u_T} {N index : Nat} (hc : vwCl[ci]? = some (C, T, N)) (hin : ∀ w ∈ u_ws C T N, w ∈ ws) (ty0 : Nat → FieldType) (hty : ∀ k, k < N → parseFieldDescriptor (T k).2.2.1 = some (ty0 k)) (hnm : ∀ a, a < N → ∀ b, b < N → a ≠ b → (T a).2.1 ≠ (T b).2.1) (f : Nat) (hf : f < N) (hl : Cond.fieldLink own index (T f).1 (T f).2.1 (T f).2.2.1 ∈ ws) (hfin : (T f).2.2.2 = false) {v : Value} (hn : narrow (ty0 f) v = v) (hfit : fits (ty0 f) v = true) (hlen : f < fs.length) (d : decode cc pc = .ok (.putfield index, 3))
    (kk : ∀ (H : Heap) (locs : List Loc), zX D B0 (zu L k i (some (a, .inr (ci, fs.set f v)))) s.heap H locs → W p l e R s m args below meth c H locs cells slots Q (F0 m (pc + 3) ls rest)) : W p l e R s m args below meth c H locs cells slots Q (F0 m pc ls (v :: .ref a :: rest)) := by
  have hK := E.2.2.2.2.2.1.1
  have hts := E.2.2.2.2.1
  have hap := va_apart (own := own) hts hin ty0 hty hnm hK hc
  obtain ⟨r, h1, cell, q1, q2, q3, q4⟩ := (X.1.1 k i _ h).1
  have hr : r = (C, T, N) := Option.some.inj (h1.symm.trans hc)
  subst hr
  obtain ⟨hS, hfc, kC, hkC, hkind⟩ := hK.1 ci _ hc
  obtain ⟨cf, kf, fi, fd, hi, hsl⟩ := hS f hf
  have hlay := hts _ (hin _ (u_in_lay hf))
  unfold u_lay at hlay
  rw [if_neg (by rw [hfin]; decide)] at hlay
  have hst := (u_facts hfc hkC (u_lays hts hin hf) hi).1
  have h6 := u_store hfc hkC hkind hlay hi (hty f hf) hn hfit
  refine W.putK E.1 E.2.1 (f := fd) ⟨E.2.2.2.1, hts _ hl, ⟨_, _, _, hi⟩, hst⟩ (by rw [q2]; exact h6) q1 q3 (by rw [hsl]; exact k2_hasslot (q4 f hf)) rfl rfl d fun H' e1 e2 e3 => ?_
  rw [hsl] at e1 ⊢
  exact kk H' _ (X.put h ⟨_, hc, t_OB.to (V := updV (vp_V fs) f v) ⟨_, e1, q2, q3, t_set q4 hap hf v⟩ (fun j _ => vp_updV_set hlen v j)⟩ e2 e3)
theorem z_putF (E : zE p s m args meth c cc own nm ws ml ret D cA) (X : zX D B0 L s.heap H locs) (hnm1 : nm = "<init>") {k i a ci : Nat} {fs : List Value} (h : L k i = some (a, .inr (ci, fs))) {C : String} {T : u_T} {N index : Nat} (hc : vwCl[ci]? = some (C, T, N)) (hin : ∀ w ∈ u_ws C T N, w ∈ ws) (ty0 : Nat → FieldType) (hty : ∀ k, k < N → parseFieldDescriptor (T k).2.2.1 = some (ty0 k)) (hnm : ∀ a, a < N → ∀ b, b < N → a ≠ b → (T a).2.1 ≠ (T b).2.1) (f : Nat) (hf : f < N) (hl : Cond.fieldLink own index (T f).1 (T f).2.1 (T f).2.2.1 ∈ ws) (hfin : (T f).2.2.2 = true) (hdecl : (T f).1 = own) {v : Value} (hn : narrow (ty0 f) v = v) (hfit : fits (ty0 f) v = true) (hlen : f < fs.length) (d : decode cc pc = .ok (.putfield index, 3))
    (kk : ∀ (H : Heap) (locs : List Loc), zX D B0 (zu L k i (some (a, .inr (ci, fs.set f v)))) s.heap H locs → W p l e R s m args below meth c H locs cells slots Q (F0 m (pc + 3) ls rest)) : W p l e R s m args below meth c H locs cells slots Q (F0 m pc ls (v :: .ref a :: rest)) := by
  have hK := E.2.2.2.2.2.1.1
  have hts := E.2.2.2.2.1
  have hown := E.2.2.2.1
  have hap := va_apart (own := own) hts hin ty0 hty hnm hK hc
  obtain ⟨r, h1, cell, q1, q2, q3, q4⟩ := (X.1.1 k i _ h).1
  have hr : r = (C, T, N) := Option.some.inj (h1.symm.trans hc)
  subst hr
  obtain ⟨hS, hfc, kC, hkC, hkind⟩ := hK.1 ci _ hc
  obtain ⟨cf, kf, fi, fd, hi, hsl⟩ := hS f hf
  have hlay := hts _ (hin _ (u_in_lay hf))
  unfold u_lay at hlay
  rw [if_pos hfin] at hlay
  have hst := (u_facts hfc hkC (u_lays hts hin hf) hi).1
  have hcf : m.cls = cf := by
    obtain ⟨_, _, c', _, _, _, -, -, hf', -, -, -, hown2, -⟩ := Cond.laysFinal_spec hlay
    have e1 : c' = cf := by have := hi.symm.trans hf'; simp at this; exact this.1.symm
    rw [hdecl] at hown2
    rw [← e1]; exact Option.some.inj (hown.symm.trans hown2)
  have h6 := u_fits hfc hkC hkind (Or.inr hlay) hi (hty f hf) hn hfit
  refine W.putFinK E.1 E.2.1 hown (hts _ hl) hi hst hcf (E.2.2.2.2.2.2.2.2.trans hnm1) (by rw [q2]; exact h6) q1 q3 (by rw [hsl]; exact k2_hasslot (q4 f hf)) rfl rfl d fun H' e1 e2 e3 => ?_
  rw [hsl] at e1 ⊢
  exact kk H' _ (X.put h ⟨_, hc, t_OB.to (V := updV (vp_V fs) f v) ⟨_, e1, q2, q3, t_set q4 hap hf v⟩ (fun j _ => vp_updV_set hlen v j)⟩ e2 e3)
/-! arrays -/
theorem z_alen (E : zE p s m args meth c cc own nm ws ml ret D cA) (X : zX D B0 L s.heap H locs) {k i a : Nat} (t : Nat) {cl : ClassId} {x : vp_A} {ty : FieldType} (h : L k i = some (a, .inl (cl, x))) (ht : (ztys cA)[t]? = some (cl, ty)) {z : Int} (hz : (x.1 : Int) = z) (d : decode cc pc = .ok (.arraylength, 1))
    (kk : W p l e R s m args below meth c H locs cells slots Q (F0 m (pc + 1) ls (.int (i32 z) :: rest))) : W p l e R s m args below meth c H locs cells slots Q (F0 m pc ls (.ref a :: rest)) :=
  va_alen (D := D) (cl := vwCl) (tys := ztys cA) E.1 E.2.1 E.2.2.2.2.2.1.1 (X.1.P h) 0 t rfl ht (by rw [← hz]; exact nI_i x.1) d kk
theorem z_iald (E : zE p s m args meth c cc own nm ws ml ret D cA) (X : zX D B0 L s.heap H locs) {k i a n : Nat} {g : Nat → Int} (h : L k i = some (a, .inl (cA 0, n, .inl (fun j => i32 (g j))))) {z : Int} (j : Nat) (hj : z = (j : Int)) (h2 : j < n) (h3 : n < 2147483648) (d : decode cc pc = .ok (.iaload, 1))
    (kk : W p l e R s m args below meth c H locs cells slots Q (F0 m (pc + 1) ls (.int (i32 (g j)) :: rest))) : W p l e R s m args below meth c H locs cells slots Q (F0 m pc ls (.int (i32 z) :: .ref a :: rest)) := by
  refine va_iald (D := D) (cl := vwCl) (tys := ztys cA) E.1 E.2.1 E.2.2.2.2.2.1.1 (X.1.P h) 0 0 rfl rfl (i32_inN hj h2 h3) d ?_
  show W p l e R s m args below meth c H locs cells slots Q (F0 m (pc + 1) ls (.int (i32 (g (i32 z).toNatClampNeg)) :: rest))
  rw [i32_clampN hj (by omega)]
  exact kk
theorem z_zald (E : zE p s m args meth c cc own nm ws ml ret D cA) (X : zX D B0 L s.heap H locs) {k i a n : Nat} {g : Nat → Int} (h : L k i = some (a, .inl (cA 1, n, .inl (fun j => i32 (g j))))) {z : Int} (j : Nat) (hj : z = (j : Int)) (h2 : j < n) (h3 : n < 2147483648) (d : decode cc pc = .ok (.baload, 1))
    (kk : W p l e R s m args below meth c H locs cells slots Q (F0 m (pc + 1) ls (.int (i32 (g j)) :: rest))) : W p l e R s m args below meth c H locs cells slots Q (F0 m pc ls (.int (i32 z) :: .ref a :: rest)) := by
  refine va_zald (D := D) (cl := vwCl) (tys := ztys cA) E.1 E.2.1 E.2.2.2.2.2.1.1 (X.1.P h) 0 1 rfl rfl (i32_inN hj h2 h3) d ?_
  show W p l e R s m args below meth c H locs cells slots Q (F0 m (pc + 1) ls (.int (i32 (g (i32 z).toNatClampNeg)) :: rest))
  rw [i32_clampN hj (by omega)]
  exact kk
theorem z_aald (E : zE p s m args meth c cc own nm ws ml ret D cA) (X : zX D B0 L s.heap H locs) {k i a n : Nat} (t : Nat) {cl : ClassId} {C : String} {f : Nat → Option Nat} (h : L k i = some (a, .inl (cl, n, .inr (.inr (.inr (.inr f)))))) (ht : (ztys cA)[t]? = some (cl, .object C)) {z : Int} (j : Nat) (hj : z = (j : Int)) (h2 : j < n) (h3 : n < 2147483648) (d : decode cc pc = .ok (.aaload, 1))
    (ks : ∀ q : Nat, f j = some q → W p l e R s m args below meth c H locs cells slots Q (F0 m (pc + 1) ls (.ref q :: rest)))
    (kn : f j = none → W p l e R s m args below meth c H locs cells slots Q (F0 m (pc + 1) ls (.null :: rest))) : W p l e R s m args below meth c H locs cells slots Q (F0 m pc ls (.int (i32 z) :: .ref a :: rest)) := by
  refine va_aldq (D := D) (cl := vwCl) (tys := ztys cA) E.1 E.2.1 E.2.2.2.2.2.1.1 (X.1.P h) 0 t rfl ht (i32_inN hj h2 h3) d ?_
  rw [i32_clampN hj (by omega)]
  cases hq : f j with
  | none => exact kn hq
  | some q => exact ks q hq
def zg (g : Nat → Int) (k : Nat) (z : Int) : Nat → Int := fun j => if j = k then z else g j
theorem zg_upd (g : Nat → Int) (k : Nat) (z : Int) : upd (fun j => i32 (g j)) k (i32 z) = fun j => i32 (zg g k z j) := by
  funext j
  unfold upd zg
  split <;> rfl
theorem z_iast (E : zE p s m args meth c cc own nm ws ml ret D cA) (X : zX D B0 L s.heap H locs) {k i a n : Nat} {g : Nat → Int} (h : L k i = some (a, .inl (cA 0, n, .inl (fun j => i32 (g j))))) {z x : Int} (j : Nat) (hj : z = (j : Int)) (h2 : j < n) (h3 : n < 2147483648) (d : decode cc pc = .ok (.iastore, 1))
    (kk : ∀ (H : Heap) (locs : List Loc), zX D B0 (zu L k i (some (a, .inl (cA 0, n, .inl (fun j' => i32 (zg g j x j')))))) s.heap H locs → W p l e R s m args below meth c H locs cells slots Q (F0 m (pc + 1) ls rest)) : W p l e R s m args below meth c H locs cells slots Q (F0 m pc ls (.int (i32 x) :: .int (i32 z) :: .ref a :: rest)) := by
  have hin := i32_inN hj h2 h3
  refine W.iast E.1 E.2.1 (X.1.1 k i _ h).1 ((E.2.2.2.2.2.1.1.2 0 _ rfl).1 n (fun j => .int (i32 (g j)))) (fun q => by cases q) (by show ¬ (i32 z < 0 ∨ (arrV _ _ _).slots.size ≤ _); rw [arrV_size]; exact hin) rfl rfl d fun H1 e1 hz oq => ?_
  refine kk H1 _ (X.put h ?_ hz oq)
  show H1[a]? = some (vp_cell _ _)
  rw [e1, ← zg_upd, ← i32_clampN hj (by omega), vp_cell_i, vp_cell_i, arrV_store]
  congr 2
  funext q
  by_cases hq : q = (i32 z).toNatClampNeg
  · subst hq
    simp [updV, upd]
  · simp [updV, upd, hq]
theorem z_nb {z : Int} (h : z = 0 ∨ z = 1) : narrow .boolean (.int (i32 z)) = .int (i32 z) ∧ fits .boolean (.int (i32 z)) = true := by
  rcases h with rfl | rfl
  · exact ⟨by decide +kernel, by decide +kernel⟩
  · exact ⟨by decide +kernel, by decide +kernel⟩
theorem z_zast (E : zE p s m args meth c cc own nm ws ml ret D cA) (X : zX D B0 L s.heap H locs) {k i a n : Nat} {g : Nat → Int} (h : L k i = some (a, .inl (cA 1, n, .inl (fun j => i32 (g j))))) {z x : Int} (hx : x = 0 ∨ x = 1) (j : Nat) (hj : z = (j : Int)) (h2 : j < n) (h3 : n < 2147483648) (d : decode cc pc = .ok (.bastore, 1))
    (kk : ∀ (H : Heap) (locs : List Loc), zX D B0 (zu L k i (some (a, .inl (cA 1, n, .inl (fun j' => i32 (zg g j x j')))))) s.heap H locs → W p l e R s m args below meth c H locs cells slots Q (F0 m (pc + 1) ls rest)) : W p l e R s m args below meth c H locs cells slots Q (F0 m pc ls (.int (i32 x) :: .int (i32 z) :: .ref a :: rest)) := by
  have hin := i32_inN hj h2 h3
  refine W.zast E.1 E.2.1 (X.1.1 k i _ h).1 ((E.2.2.2.2.2.1.1.2 1 _ rfl).1 n (fun j => .int (i32 (g j)))) (fun q => by cases q) (by show ¬ (i32 z < 0 ∨ (arrV _ _ _).slots.size ≤ _); rw [arrV_size]; exact hin) rfl rfl d fun H1 e1 hz oq => ?_
  refine kk H1 _ (X.put h ?_ hz oq)
  show H1[a]? = some (vp_cell _ _)
  rw [(z_nb hx).1] at e1
  rw [e1, ← zg_upd, ← i32_clampN hj (by omega), vp_cell_i, vp_cell_i, arrV_store]
  congr 2
  funext q
  by_cases hq : q = (i32 z).toNatClampNeg
  · subst hq
    simp [updV, upd]
  · simp [updV, upd, hq]
theorem z_aast (E : zE p s m args meth c cc own nm ws ml ret D cA) (X : zX D B0 L s.heap H locs) {k i a n : Nat} (t : Nat) {cl : ClassId} {f : Nat → Option Nat} {r : vw_C} {k' i' v ci : Nat} {vs : List Value} (h : L k i = some (a, .inl (cl, n, .inr (.inr (.inr (.inr f)))))) (ht : (ztys cA)[t]? = some (cl, .object r.1)) (hv : L k' i' = some (v, .inr (ci, vs))) (hc : vwCl[ci]? = some r) {z : Int} (j : Nat) (hj : z = (j : Int)) (h2 : j < n) (h3 : n < 2147483648) (d : decode cc pc = .ok (.aastore, 1))
    (kk : ∀ (H : Heap) (locs : List Loc), zX D B0 (zu L k i (some (a, .inl (cl, n, .inr (.inr (.inr (.inr (va_up f j (some v))))))))) s.heap H locs → W p l e R s m args below meth c H locs cells slots Q (F0 m (pc + 1) ls rest)) : W p l e R s m args below meth c H locs cells slots Q (F0 m pc ls (.ref v :: .int (i32 z) :: .ref a :: rest)) := by
  have hin := i32_inN hj h2 h3
  have hlt : (i32 z).toNatClampNeg < n := Nat.not_le.mp fun q => hin (Or.inr q)
  have h0 : ¬ i32 z < 0 := fun q => hin (Or.inl q)
  obtain ⟨r', hr', cellV, g1, g2, g3, -⟩ := (X.1.1 k' i' _ hv).1
  have hcls := (E.2.2.2.2.2.1.1.1 ci r hc).2
  obtain ⟨kA, comp, k1, k2, k3, -⟩ := (E.2.2.2.2.2.1.1.2 t _ ht).2
  have hcomp : comp = D.1 ci := Option.some.inj (k3.symm.trans hcls.1)
  subst hcomp
  obtain ⟨kC, hkC, -⟩ := hcls.2
  refine W.aast E.1 E.2.1 (X.1.1 k i _ h).1 (fun q h => by cases h) (fun h => by cases h) k1 k2 rfl hkC ⟨h0, by show _ < (arrV _ _ _).slots.size; rw [arrV_size]; exact hlt⟩ g1 (fun q h => by rw [g3] at h; cases h) (by rw [g2]; exact hkC) (by rw [g2]; exact va_assign hcls) rfl rfl d fun H1 e1 hz oq => ?_
  refine kk H1 _ (X.put h ?_ hz oq)
  show H1[a]? = some (vp_cell _ _)
  rw [e1, ← i32_clampN hj (by omega), vp_cell_q, vp_cell_q, arrV_store]
  congr 2
  funext q
  by_cases hq : q = (i32 z).toNatClampNeg
  · subst hq
    simp [updV, va_up, va_rf]
  · simp [updV, va_up, hq]
theorem z_aastN (E : zE p s m args meth c cc own nm ws ml ret D cA) (X : zX D B0 L s.heap H locs) {k i a n : Nat} (t : Nat) {cl : ClassId} {C : String} {f : Nat → Option Nat} (h : L k i = some (a, .inl (cl, n, .inr (.inr (.inr (.inr f)))))) (ht : (ztys cA)[t]? = some (cl, .object C)) {z : Int} (j : Nat) (hj : z = (j : Int)) (h2 : j < n) (h3 : n < 2147483648) (d : decode cc pc = .ok (.aastore, 1))
    (kk : ∀ (H : Heap) (locs : List Loc), zX D B0 (zu L k i (some (a, .inl (cl, n, .inr (.inr (.inr (.inr (va_up f j none)))))))) s.heap H locs → W p l e R s m args below meth c H locs cells slots Q (F0 m (pc + 1) ls rest)) : W p l e R s m args below meth c H locs cells slots Q (F0 m pc ls (.null :: .int (i32 z) :: .ref a :: rest)) := by
  have hin := i32_inN hj h2 h3
  refine va_WaastN (C := C) E.1 E.2.1 (X.1.1 k i _ h).1 ((E.2.2.2.2.2.1.1.2 t _ ht).1 n (fun j => va_rf (f j))) (fun h => by cases h) (by show ¬ (i32 z < 0 ∨ (arrV _ _ _).slots.size ≤ _); rw [arrV_size]; exact hin) rfl rfl d fun H1 e1 hz oq => ?_
  refine kk H1 _ (X.put h ?_ hz oq)
  show H1[a]? = some (vp_cell _ _)
  rw [e1, ← i32_clampN hj (by omega), vp_cell_q, vp_cell_q, arrV_store]
  congr 2
  funext q
  by_cases hq : q = (i32 z).toNatClampNeg
  · subst hq
    simp [updV, va_up, va_rf]
  · simp [updV, va_up, hq]
/-! new ones, at a place that is chosen here -/
theorem zX.push {D : va_G} {B0 : Nat} {L : zL} {H0 H H1 : Heap} {locs : List Loc} {a : Nat} {e : va_E} (k i : Nat) (w : zX D B0 L H0 H locs) (ha : a = H.size) (he : va_at D vwCl (a, e) H1) (hz : H1.size = H.size + 1) (oq : ∀ q : Nat, q < H.size → H1[q]? = H[q]?) : zX D B0 (zu L k i (some (a, e))) H0 H1 locs :=
  ⟨w.1.push k i ha he hz oq, Nat.le_trans w.2.1 (by omega), fun q h1 h2 => (oq q (Nat.lt_of_lt_of_le h1 w.2.1)).trans (w.2.2.1 q h1 h2), w.2.2.2⟩
theorem z_new (E : zE p s m args meth c cc own nm ws ml ret D cA) (X : zX D B0 L s.heap H locs) (k i ci : Nat) {C : String} {T : u_T} {N index : Nat} (hc : vwCl[ci]? = some (C, T, N)) (hin : ∀ w ∈ u_ws C T N, w ∈ ws) (ty : Nat → FieldType) (hty : ∀ k, k < N → parseFieldDescriptor (T k).2.2.1 = some (ty k)) (hcl : Cond.classLink own index C ∈ ws) (hinst : Cond.instantiable C N ∈ ws) (hini : Cond.initialized C ∈ ws) {fs : List Value} (hfs : ∀ j, j < N → defaultValue (ty j) = vp_V fs j) (hcells : cells + 1 ≤ R.cells) (hslots : slots + N ≤ R.slots) (d : decode cc pc = .ok (.new index, 3))
    (kk : ∀ (q : Nat) (H : Heap), zX D B0 (zu L k i (some (q, .inr (ci, fs)))) s.heap H locs → W p l e R s m args below meth c H locs (cells + 1) (slots + N) Q (F0 m (pc + 3) ls (.ref q :: rest))) : W p l e R s m args below meth c H locs cells slots Q (F0 m pc ls rest) := by
  have hts := E.2.2.2.2.1
  have hKn := E.2.2.2.2.2.1.1.1 ci _ hc
  refine W.newcK E.1 E.2.1 E.2.2.2.1 (hts _ hcl) (hts _ hinst) (hts _ hini) rfl d hcells hslots hKn.2.1 rfl fun H1 kC hkC e1 z1 o1 => ?_
  exact kk H.size H1 (X.push k i rfl ⟨_, hc, (u_born ty hts hin hKn hkC e1 hty).to hfs⟩ z1 o1)
theorem z_newi (E : zE p s m args meth c cc own nm ws ml ret D cA) (X : zX D B0 L s.heap H locs) (k i : Nat) (harr : Cond.arrayClass .int ∈ ws) {z : Int} {N : Nat} (hz : z = N) (hb : N ≤ 100000) (hcells : cells + 1 ≤ R.cells) (hslots : slots + N ≤ R.slots) (d : decode cc pc = .ok (.newarray .int, 2))
    (kk : ∀ (q : Nat) (H : Heap), zX D B0 (zu L k i (some (q, .inl (cA 0, N, .inl (fun _ => i32 0))))) s.heap H locs → W p l e R s m args below meth c H locs (cells + 1) (slots + N) Q (F0 m (pc + 2) ls (.ref q :: rest))) : W p l e R s m args below meth c H locs cells slots Q (F0 m pc ls (.int (i32 z) :: rest)) := by
  have hts := E.2.2.2.2.1
  have hRA : va_RA s (cA 0) .int := (E.2.2.2.2.2.1.1.2 0 _ rfl).2
  refine va_newaK (N := N) E.1 E.2.1 (atype := .int) (hts _ harr) rfl d rfl ?_ ?_ ?_ hcells hslots rfl fun H1 cB e1 z1 o1 hAr hNm => ?_
  · intro h
    rw [i32_0, i32_lt ⟨by omega, by omega⟩ zr0] at h
    omega
  · rw [i32_clamp (by omega) (by omega)]
    omega
  · show N * 4 ≤ 536870912
    omega
  · have hcB : cB = cA 0 := Option.some.inj (hNm.symm.trans hRA)
    subst hcB
    exact kk H.size H1 (X.push k i rfl e1 z1 o1)
theorem z_newz (E : zE p s m args meth c cc own nm ws ml ret D cA) (X : zX D B0 L s.heap H locs) (k i : Nat) (harr : Cond.arrayClass .boolean ∈ ws) {z : Int} {N : Nat} (hz : z = N) (hb : N ≤ 100000) (hcells : cells + 1 ≤ R.cells) (hslots : slots + N ≤ R.slots) (d : decode cc pc = .ok (.newarray .boolean, 2))
    (kk : ∀ (q : Nat) (H : Heap), zX D B0 (zu L k i (some (q, .inl (cA 1, N, .inl (fun _ => i32 0))))) s.heap H locs → W p l e R s m args below meth c H locs (cells + 1) (slots + N) Q (F0 m (pc + 2) ls (.ref q :: rest))) : W p l e R s m args below meth c H locs cells slots Q (F0 m pc ls (.int (i32 z) :: rest)) := by
  have hts := E.2.2.2.2.1
  have hRA : va_RA s (cA 1) .boolean := (E.2.2.2.2.2.1.1.2 1 _ rfl).2
  refine va_newaK (N := N) E.1 E.2.1 (atype := .boolean) (hts _ harr) rfl d rfl ?_ ?_ ?_ hcells hslots rfl fun H1 cB e1 z1 o1 hAr hNm => ?_
  · intro h
    rw [i32_0, i32_lt ⟨by omega, by omega⟩ zr0] at h
    omega
  · rw [i32_clamp (by omega) (by omega)]
    omega
  · show N * 1 ≤ 536870912
    omega
  · have hcB : cB = cA 1 := Option.some.inj (hNm.symm.trans hRA)
    subst hcB
    exact kk H.size H1 (X.push k i rfl e1 z1 o1)
theorem z_anew (E : zE p s m args meth c cc own nm ws ml ret D cA) (X : zX D B0 L s.heap H locs) (k i t : Nat) {C : String} {index : Nat} {cl : ClassId} (ht : (ztys cA)[t]? = some (cl, .object C)) (hcl : Cond.classLink own index C ∈ ws) (hov : va_AO C s) {z : Int} {N : Nat} (hz : z = N) (hb : N ≤ 100000) (hcells : cells + 1 ≤ R.cells) (hslots : slots + N ≤ R.slots) (d : decode cc pc = .ok (.anewarray index, 3))
    (kk : ∀ (q : Nat) (H : Heap), zX D B0 (zu L k i (some (q, .inl (cl, N, .inr (.inr (.inr (.inr (fun _ => none)))))))) s.heap H locs → W p l e R s m args below meth c H locs (cells + 1) (slots + N) Q (F0 m (pc + 3) ls (.ref q :: rest))) : W p l e R s m args below meth c H locs cells slots Q (F0 m pc ls (.int (i32 z) :: rest)) := by
  have hts := E.2.2.2.2.1
  obtain ⟨kA0, comp0, r1, r2, r3, r4⟩ := (E.2.2.2.2.2.1.1.2 t _ ht).2
  have hcl0 : (i32 z).toNatClampNeg = N := by
    rw [i32_clamp (by omega) (by omega)]
    omega
  refine W.anew E.1 E.2.1 E.2.2.2.1 (hts _ hcl) hov.use rfl d rfl ?_ ?_ hcells ?_ fun cB kA comp h1 h2 h3 h4 => ?_
  · intro h
    rw [i32_0, i32_lt ⟨by omega, by omega⟩ zr0] at h
    omega
  · rw [hcl0]
    omega
  · rw [hcl0]
    exact hslots
  · have hcB : cB = cl := Option.some.inj (h1.symm.trans r4)
    subst hcB
    rw [hcl0]
    refine kk H.size _ (X.push k i rfl ?_ (by simp) (fun q hq => by rw [Array.getElem?_push, if_neg (Nat.ne_of_lt hq)]))
    show (H.push _)[H.size]? = some (vp_cell _ _)
    rw [Array.getElem?_push, if_pos rfl, vp_cell_q]
    unfold arrV
    congr 2
    apply Array.ext
    · simp
    · intro j h1 h2
      simp [va_rf]
/-! ends -/
theorem z_ret (E : zE p s m args meth c cc own nm ws ml (some .int) D cA) (X : zX D B0 L s.heap H locs) (hQ : Q = MQ below (zQ B0 post) args s cells slots (fun q => B0 ≤ q)) {z : Int} (hp : post (some (.int (i32 z))) H) (d : decode cc pc = .ok (.ireturn, 1)) : W p l e R s m args below meth c H locs cells slots Q (F0 m pc ls [.int (i32 z)]) := by
  subst hQ
  exact W.iret E.1 E.2.1 E.2.2.2.2.2.2.2.1 (fun t ht hW => ⟨⟨_, rfl, by rw [ht]; exact hp⟩, X.2.F ht⟩) X.2.2.2 d E.2.2.2.2.2.2.1
theorem z_retz (E : zE p s m args meth c cc own nm ws ml (some .boolean) D cA) (X : zX D B0 L s.heap H locs) (hQ : Q = MQ below (zQ B0 post) args s cells slots (fun q => B0 ≤ q)) {z : Int} (hz : z = 0 ∨ z = 1) (hp : post (some (.int (i32 z))) H) (d : decode cc pc = .ok (.ireturn, 1)) : W p l e R s m args below meth c H locs cells slots Q (F0 m pc ls [.int (i32 z)]) := by
  subst hQ
  exact W.zret E.1 E.2.1 E.2.2.2.2.2.2.2.1 (z_nb hz).1 (fun t ht hW => ⟨⟨_, rfl, by rw [ht]; exact hp⟩, X.2.F ht⟩) X.2.2.2 d E.2.2.2.2.2.2.1
theorem z_retl (E : zE p s m args meth c cc own nm ws ml (some .long) D cA) (hS : va_S (fun q => B0 ≤ q) s.heap H locs) (hQ : Q = MQ below (zQ B0 post) args s cells slots (fun q => B0 ≤ q)) {z : Int} (hp : post (some (.long (i64 z))) H) (d : decode cc pc = .ok (.lreturn, 1)) : W p l e R s m args below meth c H locs cells slots Q (F0 m pc ls [.long (i64 z)]) := by
  subst hQ
  exact W.lret E.1 E.2.1 E.2.2.2.2.2.2.2.1 (fun t ht hW => ⟨⟨_, rfl, by rw [ht]; exact hp⟩, hS.F ht⟩) hS.2.2 d E.2.2.2.2.2.2.1
theorem z_retv (E : zE p s m args meth c cc own nm ws ml none D cA) (X : zX D B0 L s.heap H locs) (hQ : Q = MQ below (zQ B0 post) args s cells slots (fun q => B0 ≤ q)) (hp : post none H) (d : decode cc pc = .ok (.return_, 1)) : W p l e R s m args below meth c H locs cells slots Q (F0 m pc ls []) := by
  subst hQ
  exact W.vret E.1 E.2.1 E.2.2.2.2.2.2.2.1 (fun t ht hW => ⟨⟨_, rfl, by rw [ht]; exact hp⟩, X.2.F ht⟩) X.2.2.2 d E.2.2.2.2.2.2.1
theorem z_reta {C : String} {v : Value} (E : zE p s m args meth c cc own nm ws ml (some (.object C)) D cA) (X : zX D B0 L s.heap H locs) (hQ : Q = MQ below (zQ B0 post) args s cells slots (fun q => B0 ≤ q)) (hv : v = .null ∨ ∃ a, v = .ref a) (hp : post (some v) H) (d : decode cc pc = .ok (.areturn, 1)) : W p l e R s m args below meth c H locs cells slots Q (F0 m pc ls [v]) := by
  subst hQ
  exact W.aret E.1 E.2.1 E.2.2.2.2.2.2.2.1 (Or.inl ⟨_, rfl⟩) hv (fun t ht hW => ⟨⟨_, rfl, by rw [ht]; exact hp⟩, X.2.F ht⟩) X.2.2.2 d E.2.2.2.2.2.2.1
/-! calls -/
theorem zblind {av : List Value} {P : Heap → Prop} : FrameBlind (va_Pc av (fun U => P U.heap ∧ B0 ≤ U.heap.size ∧ zN D cA U)) := fun _ _ _ _ h => ⟨h.1, h.2.1, h.2.2.1, h.2.2.2.calling⟩
theorem z_go {rest st0 : List Value} {a : Array Value} {mc ms : Nat} {H0 : Heap} (hr : va_Run p l e R s m args below meth c H locs cells slots mc ms (F0 m pc ls st0) rest (zQ B0 post a) (fun q => B0 ≤ q)) (hS : va_S (fun q => B0 ≤ q) H0 H locs)
    (kk : ∀ (v : Option Value) (H1 : Heap) (locs1 : List Loc), post v H1 → va_S (fun q => B0 ≤ q) H0 H1 locs1 → W p l e R s m args below meth c H1 locs1 (cells + mc) (slots + ms) Q (F0 m (pc + 3) ls (v.toList ++ rest))) : W p l e R s m args below meth c H locs cells slots Q (F0 m pc ls st0) := by
  intro T hT X
  obtain ⟨v, st₀, t, T', L, h0, X', hL, e1, e2, ⟨⟨v', hv, hp⟩, hz, hk⟩, st⟩ := hr T hT X
  cases hv
  rw [h0] at hz hk
  obtain ⟨t2, a1, b1⟩ := kk v T'.heap (locs ++ L) (by rw [e1]; exact hp)
    ⟨Nat.le_trans hS.1 (by rw [e1]; exact hz), fun q h1 h2 => by rw [e1, hk q (Nat.lt_of_lt_of_le h1 hS.1) h2]; exact hS.2.1 q h1 h2, fun q hq => by
      rcases List.mem_append.mp hq with h | h
      · exact hS.2.2 q h
      · exact hL q h⟩ T' rfl X'
  exact ⟨t2, st t2 a1, b1⟩
theorem z_callV (E : zE p s m args meth c cc own nm ws ml ret D cA) (X : zX D B0 L s.heap H locs) {k i a ci : Nat} {fs : List Value} {q : vw_C} (hrc : L k i = some (a, .inr (ci, fs))) (hc : vwCl[ci]? = some q) {y : MethodName} {wc : List Cond} {rm : Room} {As rest st : List Value} {P : Heap → Prop} {post : Option Value → Heap → Prop} {index n maxL : Nat} {bytes : ByteArray} {rt : Option FieldType} {wc' : List Cond}
    (hM : zM l y wc rm (.ref a :: As) D cA B0 P post) (hG : GoodIn ws (wsV own index q.1 y wc)) (hw : wc = Cond.code y bytes maxL rt :: wc') (hd : y.cls = q.1 ∧ y.cls ≠ "java/lang/invoke/MethodHandle" ∧ y.cls ≠ "java/lang/invoke/VarHandle" ∧ (parseMethodDescriptor y.desc).map (fun d => d.parameters.length) = some n) (hR : rm.frames + 1 ≤ R.frames ∧ 8 + (maxL + 11) + rm.locals ≤ R.locals)
    (hn : As.length = n) (hsz : ls.size = ml) (hst : st = As.reverse ++ .ref a :: rest) (hW : (rest.map fun v => v.category).sum ≤ 8) (d : decode cc pc = .ok (.invokevirtual index, 3)) (hcl : cells + rm.cells ≤ R.cells ∧ slots + rm.slots ≤ R.slots) (hP : P H)
    (c' s' : Nat) (hcs : cells + rm.cells = c' ∧ slots + rm.slots = s')
    (kk : ∀ (v : Option Value) (H : Heap) (locs : List Loc), post v H → va_S (fun q => B0 ≤ q) s.heap H locs → W p l e R s m args below meth c H locs c' s' Q (F0 m (pc + 3) ls (v.toList ++ rest))) : W p l e R s m args below meth c H locs cells slots Q (F0 m pc ls st) := by
  subst hst
  obtain ⟨rfl, rfl⟩ := hcs
  refine z_go (va_runV (rest := rest) ⟨E.1, E.2.1, E.2.2.1, E.2.2.2.1, E.2.2.2.2.1⟩ hM (cwV n E.2.2.2.2.1 hG hw rfl rfl hd hR) ⟨zblind, va_recv E.2.2.2.2.2.1.1 (X.1.P hrc) hc (q0 := 0) rfl, fun U hU hWU => ⟨rfl, by rw [hU]; exact hP, by rw [hU]; exact X.1.2.2, E.2.2.2.2.2.1.warm hWU⟩⟩ rfl hn hsz rfl (lv_room hW) d hcl) X.2 kk
theorem z_callS (E : zE p s m args meth c cc own nm ws ml ret D cA) (X : zX D B0 L s.heap H locs) {y : MethodName} {wc : List Cond} {rm : Room} {As rest st : List Value} {P : Heap → Prop} {post : Option Value → Heap → Prop} {index n maxL : Nat} {bytes : ByteArray} {rt : Option FieldType} {wc' : List Cond}
    (hM : zM l y wc rm As D cA B0 P post) (hG : GoodIn ws (wsS own index y wc)) (hw : wc = Cond.code y bytes maxL rt :: wc') (hd : y.cls = own ∧ y.cls ≠ "java/lang/invoke/MethodHandle" ∧ y.cls ≠ "java/lang/invoke/VarHandle" ∧ (parseMethodDescriptor y.desc).map (fun d => d.parameters.length) = some n) (hR : rm.frames + 1 ≤ R.frames ∧ 8 + (maxL + 11) + rm.locals ≤ R.locals)
    (hn : As.length = n) (hsz : ls.size = ml) (hst : st = As.reverse ++ rest) (hW : (rest.map fun v => v.category).sum ≤ 8) (d : decode cc pc = .ok (.invokestatic index, 3)) (hcl : cells + rm.cells ≤ R.cells ∧ slots + rm.slots ≤ R.slots) (hP : P H)
    (c' s' : Nat) (hcs : cells + rm.cells = c' ∧ slots + rm.slots = s')
    (kk : ∀ (v : Option Value) (H : Heap) (locs : List Loc), post v H → va_S (fun q => B0 ≤ q) s.heap H locs → W p l e R s m args below meth c H locs c' s' Q (F0 m (pc + 3) ls (v.toList ++ rest))) : W p l e R s m args below meth c H locs cells slots Q (F0 m pc ls st) := by
  subst hst
  obtain ⟨rfl, rfl⟩ := hcs
  refine z_go (va_runS (rest := rest) ⟨E.1, E.2.1, E.2.2.1, E.2.2.2.1, E.2.2.2.2.1⟩ hM (cwS n E.2.2.2.2.1 hG hw rfl rfl hd hR) ⟨zblind, fun U hU hWU => ⟨rfl, by rw [hU]; exact hP, by rw [hU]; exact X.1.2.2, E.2.2.2.2.2.1.warm hWU⟩⟩ rfl hn hsz rfl (lv_room hW) d hcl) X.2 kk
theorem z_callJ (E : zE p s m args meth c cc own nm ws ml ret D cA) (X : zX D B0 L s.heap H locs) {y : MethodName} {wc : List Cond} {rm : Room} {As rest st : List Value} {P : Heap → Prop} {post : Option Value → Heap → Prop} {index n maxL : Nat} {bytes : ByteArray} {rt : Option FieldType} {wc' : List Cond}
    (hM : zM l y wc rm As D cA B0 P post) (hG : GoodIn ws (va_wsS own index y wc)) (hw : wc = Cond.code y bytes maxL rt :: wc') (hd : y.cls ≠ "java/lang/invoke/MethodHandle" ∧ y.cls ≠ "java/lang/invoke/VarHandle" ∧ (parseMethodDescriptor y.desc).map (fun d => d.parameters.length) = some n) (hR : rm.frames + 1 ≤ R.frames ∧ 8 + (maxL + 11) + rm.locals ≤ R.locals)
    (hn : As.length = n) (hsz : ls.size = ml) (hst : st = As.reverse ++ rest) (hW : (rest.map fun v => v.category).sum ≤ 8) (d : decode cc pc = .ok (.invokestatic index, 3)) (hcl : cells + rm.cells ≤ R.cells ∧ slots + rm.slots ≤ R.slots) (hP : P H)
    (c' s' : Nat) (hcs : cells + rm.cells = c' ∧ slots + rm.slots = s')
    (kk : ∀ (v : Option Value) (H : Heap) (locs : List Loc), post v H → va_S (fun q => B0 ≤ q) s.heap H locs → W p l e R s m args below meth c H locs c' s' Q (F0 m (pc + 3) ls (v.toList ++ rest))) : W p l e R s m args below meth c H locs cells slots Q (F0 m pc ls st) := by
  subst hst
  obtain ⟨rfl, rfl⟩ := hcs
  refine z_go (va_runS (rest := rest) ⟨E.1, E.2.1, E.2.2.1, E.2.2.2.1, E.2.2.2.2.1⟩ hM (va_cwS n E.2.2.2.2.1 hG hw rfl rfl hd hR) ⟨zblind, fun U hU hWU => ⟨rfl, by rw [hU]; exact hP, by rw [hU]; exact X.1.2.2, E.2.2.2.2.2.1.warm hWU⟩⟩ rfl hn hsz rfl (lv_room hW) d hcl) X.2 kk
theorem z_callN (E : zE p s m args meth c cc RX1 nm ws ml ret D cA) (X : zX D B0 L s.heap H locs) {wc : List Cond} {rm : Room} {As rest st : List Value} {P : Heap → Prop} {post : Option Value → Heap → Prop} {n maxL : Nat} {bytes : ByteArray} {rt : Option FieldType} {wc' : List Cond}
    (hM : zM l yX5_outside wc rm As D cA B0 P post) (hG : GoodIn ws wc) (hw : wc = Cond.code yX5_outside bytes maxL rt :: wc') (hini : Cond.initialized RX5 ∈ ws) (hstt : Cond.static yX5_outside ∈ ws) (hd : (parseMethodDescriptor yX5_outside.desc).map (fun d => d.parameters.length) = some n) (hR : rm.frames + 1 ≤ R.frames ∧ 8 + (maxL + 11) + rm.locals ≤ R.locals)
    (hn : As.length = n) (hsz : ls.size = ml) (hst : st = As.reverse ++ rest) (hW : (rest.map fun v => v.category).sum ≤ 8) (d : decode cc pc = .ok (.invokestatic 37, 3)) (hcl : cells + rm.cells ≤ R.cells ∧ slots + rm.slots ≤ R.slots) (hP : P H)
    (c' s' : Nat) (hcs : cells + rm.cells = c' ∧ slots + rm.slots = s')
    (kk : ∀ (v : Option Value) (H : Heap) (locs : List Loc), post v H → va_S (fun q => B0 ≤ q) s.heap H locs → W p l e R s m args below meth c H locs c' s' Q (F0 m (pc + 3) ls (v.toList ++ rest))) : W p l e R s m args below meth c H locs cells slots Q (F0 m pc ls st) := by
  subst hst
  obtain ⟨rfl, rfl⟩ := hcs
  refine z_go (va_runSN (rest := rest) ⟨E.1, E.2.1, E.2.2.1, E.2.2.2.1, E.2.2.2.2.1⟩ hM ⟨va_cnB n E.2.2.2.2.1 hG hw rfl rfl E.2.2.2.2.2.1.2.1 (E.2.2.2.2.1 _ hini) ⟨by decide +kernel, by decide +kernel, hd⟩ hR, E.2.2.2.2.1 _ hstt, trivial⟩ ⟨zblind, fun U hU hWU => ⟨rfl, by rw [hU]; exact hP, by rw [hU]; exact X.1.2.2, E.2.2.2.2.2.1.warm hWU⟩⟩ rfl hn hsz rfl (lv_room hW) d hcl) X.2 kk
theorem z_callI (E : zE p s m args meth c cc own nm ws ml ret D cA) (X : zX D B0 L s.heap H locs) {a : Nat} {y : MethodName} {wc : List Cond} {rm : Room} {As rest st : List Value} {P : Heap → Prop} {post : Option Value → Heap → Prop} {index n maxL : Nat} {bytes : ByteArray} {wc' : List Cond}
    (hM : zM l y wc rm (.ref a :: As) D cA B0 P post) (hG : GoodIn ws wc) (hw : wc = Cond.code y bytes maxL none :: wc') (hini : Cond.initialized y.cls ∈ ws) (hl : Cond.methodLink own index y ∈ ws) (him : Cond.instanceMethod y ∈ ws) (hy1 : y.name = "<init>") (hd : y.cls ≠ "java/lang/invoke/MethodHandle" ∧ y.cls ≠ "java/lang/invoke/VarHandle" ∧ (parseMethodDescriptor y.desc).map (fun d => d.parameters.length) = some n) (hR : rm.frames + 1 ≤ R.frames ∧ 8 + (maxL + 11) + rm.locals ≤ R.locals)
    (hn : As.length = n) (hsz : ls.size = ml) (hst : st = As.reverse ++ .ref a :: rest) (hW : (rest.map fun v => v.category).sum ≤ 8) (d : decode cc pc = .ok (.invokespecial index, 3)) (hcl : cells + rm.cells ≤ R.cells ∧ slots + rm.slots ≤ R.slots) (hP : P H)
    (c' s' : Nat) (hcs : cells + rm.cells = c' ∧ slots + rm.slots = s')
    (kk : ∀ (v : Option Value) (H : Heap) (locs : List Loc), post v H → va_S (fun q => B0 ≤ q) s.heap H locs → W p l e R s m args below meth c H locs c' s' Q (F0 m (pc + 3) ls (v.toList ++ rest))) : W p l e R s m args below meth c H locs cells slots Q (F0 m pc ls st) := by
  subst hst
  obtain ⟨rfl, rfl⟩ := hcs
  refine z_go (va_runI (rest := rest) ⟨E.1, E.2.1, E.2.2.1, E.2.2.2.1, E.2.2.2.2.1⟩ hM (cwI n E.2.2.2.2.1 hG hw rfl rfl (E.2.2.2.2.1 _ hini) (E.2.2.2.2.1 _ hl) (E.2.2.2.2.1 _ him) hy1 hd hR) ⟨zblind, fun U hU hWU => ⟨rfl, by rw [hU]; exact hP, by rw [hU]; exact X.1.2.2, E.2.2.2.2.2.1.warm hWU⟩⟩ rfl hn hsz rfl (lv_room hW) d hcl) X.2 kk
theorem z_obj (E : zE p s m args meth c cc own nm ws ml ret D cA) {a idx : Nat} (hl : Cond.methodLink own idx objectInit ∈ ws) (him : Cond.instanceMethod objectInit ∈ ws) (hcd : Cond.code objectInit ⟨#[0xb1]⟩ 1 none ∈ ws) (hsz : ls.size = ml) (d : decode cc pc = .ok (.invokespecial idx, 3)) (hfr : 1 ≤ R.frames) (hlo : (rest.map fun v => v.category).sum + 12 ≤ R.locals)
    (kk : W p l e R s m args below meth c H locs cells slots Q (F0 m (pc + 3) ls rest)) : W p l e R s m args below meth c H locs cells slots Q (F0 m pc ls (.ref a :: rest)) :=
  W.objInit E.1 E.2.1 E.2.2.2.1 (E.2.2.2.2.1 _ hl) (E.2.2.2.2.1 _ him) (E.2.2.2.2.1 _ hcd) rfl (by rw [E.2.2.1]; exact hsz) rfl d hfr (by show 2 * 0 + _ + 12 ≤ _; omega) kk
/-! Math over ints -/
def zmax (a b : Int) : Int := if a < b then b else a
def zmin (a b : Int) : Int := if b < a then b else a
def zabs (a : Int) : Int := if 0 ≤ a then a else -a
theorem z_mmax (E : zE p s m args meth c cc own nm ws ml ret D cA) {index : Nat} {a b : Int} (ha : zr a) (hb : zr b) (hl : Cond.methodLink own index Lib.Math.max.name ∈ ws) (h2 : Cond.static Lib.Math.max.name ∈ ws) (h3 : Cond.initialized "java/lang/Math" ∈ ws) (h4 : Cond.code Lib.Math.max.name Lib.Math.max.code 2 (some .int) ∈ ws) (hsz : ls.size = ml) (hfr : 1 ≤ R.frames) (hlo : (rest.map fun v => v.category).sum + 13 ≤ R.locals) (hcl : cells ≤ R.cells ∧ slots ≤ R.slots) (d : decode cc pc = .ok (.invokestatic index, 3))
    (kk : W p l e R s m args below meth c H locs cells slots Q (F0 m (pc + 3) ls (.int (i32 (zmax a b)) :: rest))) : W p l e R s m args below meth c H locs cells slots Q (F0 m pc ls (.int (i32 b) :: .int (i32 a) :: rest)) := by
  refine va_mmax E.1 E.2.1 (E.2.2.1.trans hsz.symm) E.2.2.2.1 (E.2.2.2.2.1 _ hl) (E.2.2.2.2.1 _ h2) (E.2.2.2.2.1 _ h3) (E.2.2.2.2.1 _ h4) hfr hlo hcl.1 hcl.2 d ?_
  have e : (if i32 a < i32 b then i32 b else i32 a) = i32 (zmax a b) := by
    unfold zmax
    by_cases h : a < b
    · rw [if_pos ((i32_lt ha hb).mpr h), if_pos h]
    · rw [if_neg (fun q => h ((i32_lt ha hb).mp q)), if_neg h]
  rw [e]
  exact kk
theorem z_mmin (E : zE p s m args meth c cc own nm ws ml ret D cA) {index : Nat} {a b : Int} (ha : zr a) (hb : zr b) (hl : Cond.methodLink own index Lib.Math.min.name ∈ ws) (h2 : Cond.static Lib.Math.min.name ∈ ws) (h3 : Cond.initialized "java/lang/Math" ∈ ws) (h4 : Cond.code Lib.Math.min.name Lib.Math.min.code 2 (some .int) ∈ ws) (hsz : ls.size = ml) (hfr : 1 ≤ R.frames) (hlo : (rest.map fun v => v.category).sum + 13 ≤ R.locals) (hcl : cells ≤ R.cells ∧ slots ≤ R.slots) (d : decode cc pc = .ok (.invokestatic index, 3))
    (kk : W p l e R s m args below meth c H locs cells slots Q (F0 m (pc + 3) ls (.int (i32 (zmin a b)) :: rest))) : W p l e R s m args below meth c H locs cells slots Q (F0 m pc ls (.int (i32 b) :: .int (i32 a) :: rest)) := by
  refine va_mmin E.1 E.2.1 (E.2.2.1.trans hsz.symm) E.2.2.2.1 (E.2.2.2.2.1 _ hl) (E.2.2.2.2.1 _ h2) (E.2.2.2.2.1 _ h3) (E.2.2.2.2.1 _ h4) hfr hlo hcl.1 hcl.2 d ?_
  have e : (if i32 b < i32 a then i32 b else i32 a) = i32 (zmin a b) := by
    unfold zmin
    by_cases h : b < a
    · rw [if_pos ((i32_lt hb ha).mpr h), if_pos h]
    · rw [if_neg (fun q => h ((i32_lt hb ha).mp q)), if_neg h]
  rw [e]
  exact kk
theorem z_mabs (E : zE p s m args meth c cc own nm ws ml ret D cA) {index : Nat} {a : Int} (ha : zr a) (hl : Cond.methodLink own index Lib.Math.abs.name ∈ ws) (h2 : Cond.static Lib.Math.abs.name ∈ ws) (h3 : Cond.initialized "java/lang/Math" ∈ ws) (h4 : Cond.code Lib.Math.abs.name Lib.Math.abs.code 1 (some .int) ∈ ws) (hsz : ls.size = ml) (hfr : 1 ≤ R.frames) (hlo : (rest.map fun v => v.category).sum + 13 ≤ R.locals) (hcl : cells ≤ R.cells ∧ slots ≤ R.slots) (d : decode cc pc = .ok (.invokestatic index, 3))
    (kk : W p l e R s m args below meth c H locs cells slots Q (F0 m (pc + 3) ls (.int (i32 (zabs a)) :: rest))) : W p l e R s m args below meth c H locs cells slots Q (F0 m pc ls (.int (i32 a) :: rest)) := by
  refine va_mabs E.1 E.2.1 (E.2.2.1.trans hsz.symm) E.2.2.2.1 (E.2.2.2.2.1 _ hl) (E.2.2.2.2.1 _ h2) (E.2.2.2.2.1 _ h3) (E.2.2.2.2.1 _ h4) hfr hlo hcl.1 hcl.2 d ?_
  have e : (if 0 ≤ i32 a then i32 a else 0 - i32 a) = i32 (zabs a) := by
    unfold zabs
    by_cases h : 0 ≤ a
    · rw [if_pos (by rw [i32_0]; exact (i32_le zr0 ha).mpr h), if_pos h]
    · rw [if_neg (fun q => h ((i32_le zr0 ha).mp (by rw [← i32_0]; exact q))), if_neg h, i32_0, i32_sub]
      congr 1
      omega
  rw [e]
  exact kk
end ZH
end
section
/-! a state: the reference's numbers by the slot of their field; a field that is one number is place 0 -/
abbrev zS : Type := Nat → Nat → Int
def zs (S : zS) (k j : Nat) (z : Int) : zS := fun k' => bif Nat.beq k' k then zg (S k) j z else S k'
abbrev zG : Type := Nat → Nat → Nat → Int
def z3 (G : zG) (k i j : Nat) (z : Int) : zG := fun k' => bif Nat.beq k' k then (fun i' => if i' = i then zg (G k i) j z else G k i') else G k'
/-- two worlds, the first at the places below 32 -/
def zj (C M : zL) : zL := fun k i => bif Nat.blt k 32 then C k i else M k i
abbrev kI (cA : Nat → ClassId) (a n : Nat) (g : Nat → Int) : Nat × va_E := (a, .inl (cA 0, n, .inl (fun j => i32 (g j))))
abbrev kZ (cA : Nat → ClassId) (a n : Nat) (g : Nat → Int) : Nat × va_E := (a, .inl (cA 1, n, .inl (fun j => i32 (g j))))
abbrev kQ (cl : ClassId) (a n : Nat) (f : Nat → Option Nat) : Nat × va_E := (a, .inl (cl, n, .inr (.inr (.inr (.inr f)))))
/-- the reference's fields -/
abbrev mfs (am : Nat → Nat) (S U : zS) : List Value := [.int (i32 (U 0 0)), .int (i32 (S 1 0)), .int (i32 (S 2 0)), .int (i32 (S 3 0)), .int (i32 (S 4 0)), .int (i32 (S 5 0)), .ref (am 6), .ref (am 7), .int (i32 (S 8 0)), .ref (am 9), .ref (am 10), .ref (am 11), .ref (am 12), .ref (am 13), .ref (am 14), .ref (am 15), .ref (am 16), .int (i32 (S 17 0)), .ref (am 18), .int (i32 (S 19 0)), .ref (am 20), .ref (am 21), .ref (am 22), .ref (am 23), .ref (am 24), .ref (am 25), .ref (am 26), .int (i32 (S 27 0))]
def layM (cA : Nat → ClassId) (am : Nat → Nat) (S U : zS) : zL := fun k i => if i = 0 then (match k with
  | 32 => some (am 0, .inr (6, mfs am S U))
  | 38 => some (kI cA (am 6) 8 (S 6))
  | 39 => some (kZ cA (am 7) 8 (S 7))
  | 41 => some (kI cA (am 9) 8 (S 9))
  | 42 => some (kI cA (am 10) 8 (S 10))
  | 43 => some (kI cA (am 11) 8 (S 11))
  | 44 => some (kI cA (am 12) 8 (S 12))
  | 45 => some (kI cA (am 13) 8 (S 13))
  | 46 => some (kI cA (am 14) 20808 (U 14))
  | 47 => some (kI cA (am 15) 20808 (U 15))
  | 48 => some (kZ cA (am 16) 408 (U 16))
  | 50 => some (kI cA (am 18) 8 (S 18))
  | 52 => some (kI cA (am 20) 6 (S 20))
  | 53 => some (kI cA (am 21) 6 (S 21))
  | 54 => some (kI cA (am 22) 6 (S 22))
  | 55 => some (kI cA (am 23) 6 (S 23))
  | 56 => some (kI cA (am 24) 6 (S 24))
  | 57 => some (kI cA (am 25) 384 (S 25))
  | 58 => some (kI cA (am 26) 64 (U 26))
  | _ => none) else none
theorem lM_0 (C : zL) (cA : Nat → ClassId) (am : Nat → Nat) (S U : zS) : zj C (layM cA am S U) 32 0 = some (am 0, .inr (6, mfs am S U)) := rfl
theorem lM_6 (C : zL) (cA : Nat → ClassId) (am : Nat → Nat) (S U : zS) : zj C (layM cA am S U) 38 0 = some (kI cA (am 6) 8 (S 6)) := rfl
theorem lM_7 (C : zL) (cA : Nat → ClassId) (am : Nat → Nat) (S U : zS) : zj C (layM cA am S U) 39 0 = some (kZ cA (am 7) 8 (S 7)) := rfl
theorem lM_9 (C : zL) (cA : Nat → ClassId) (am : Nat → Nat) (S U : zS) : zj C (layM cA am S U) 41 0 = some (kI cA (am 9) 8 (S 9)) := rfl
theorem lM_10 (C : zL) (cA : Nat → ClassId) (am : Nat → Nat) (S U : zS) : zj C (layM cA am S U) 42 0 = some (kI cA (am 10) 8 (S 10)) := rfl
theorem lM_11 (C : zL) (cA : Nat → ClassId) (am : Nat → Nat) (S U : zS) : zj C (layM cA am S U) 43 0 = some (kI cA (am 11) 8 (S 11)) := rfl
theorem lM_12 (C : zL) (cA : Nat → ClassId) (am : Nat → Nat) (S U : zS) : zj C (layM cA am S U) 44 0 = some (kI cA (am 12) 8 (S 12)) := rfl
theorem lM_13 (C : zL) (cA : Nat → ClassId) (am : Nat → Nat) (S U : zS) : zj C (layM cA am S U) 45 0 = some (kI cA (am 13) 8 (S 13)) := rfl
theorem lM_14 (C : zL) (cA : Nat → ClassId) (am : Nat → Nat) (S U : zS) : zj C (layM cA am S U) 46 0 = some (kI cA (am 14) 20808 (U 14)) := rfl
theorem lM_15 (C : zL) (cA : Nat → ClassId) (am : Nat → Nat) (S U : zS) : zj C (layM cA am S U) 47 0 = some (kI cA (am 15) 20808 (U 15)) := rfl
theorem lM_16 (C : zL) (cA : Nat → ClassId) (am : Nat → Nat) (S U : zS) : zj C (layM cA am S U) 48 0 = some (kZ cA (am 16) 408 (U 16)) := rfl
theorem lM_18 (C : zL) (cA : Nat → ClassId) (am : Nat → Nat) (S U : zS) : zj C (layM cA am S U) 50 0 = some (kI cA (am 18) 8 (S 18)) := rfl
theorem lM_20 (C : zL) (cA : Nat → ClassId) (am : Nat → Nat) (S U : zS) : zj C (layM cA am S U) 52 0 = some (kI cA (am 20) 6 (S 20)) := rfl
theorem lM_21 (C : zL) (cA : Nat → ClassId) (am : Nat → Nat) (S U : zS) : zj C (layM cA am S U) 53 0 = some (kI cA (am 21) 6 (S 21)) := rfl
theorem lM_22 (C : zL) (cA : Nat → ClassId) (am : Nat → Nat) (S U : zS) : zj C (layM cA am S U) 54 0 = some (kI cA (am 22) 6 (S 22)) := rfl
theorem lM_23 (C : zL) (cA : Nat → ClassId) (am : Nat → Nat) (S U : zS) : zj C (layM cA am S U) 55 0 = some (kI cA (am 23) 6 (S 23)) := rfl
theorem lM_24 (C : zL) (cA : Nat → ClassId) (am : Nat → Nat) (S U : zS) : zj C (layM cA am S U) 56 0 = some (kI cA (am 24) 6 (S 24)) := rfl
theorem lM_25 (C : zL) (cA : Nat → ClassId) (am : Nat → Nat) (S U : zS) : zj C (layM cA am S U) 57 0 = some (kI cA (am 25) 384 (S 25)) := rfl
theorem lM_26 (C : zL) (cA : Nat → ClassId) (am : Nat → Nat) (S U : zS) : zj C (layM cA am S U) 58 0 = some (kI cA (am 26) 64 (U 26)) := rfl
theorem zu_to {L L' : zL} {k i : Nat} {q : Option (Nat × va_E)} (h1 : L' k i = q) (h2 : ∀ k' i', ¬ (k' = k ∧ i' = i) → L' k' i' = L k' i') (k' i' : Nat) : L' k' i' = zu L k i q k' i' := by
  by_cases h : k' = k ∧ i' = i
  · obtain ⟨rfl, rfl⟩ := h
    rw [zu_self]
    exact h1
  · rw [zu_ne h]
    exact h2 k' i' h
theorem zj_M {C M M' : zL} {k i : Nat} (h : M' k i = M k i) : zj C M' k i = zj C M k i := by
  unfold zj
  rw [h]
theorem zj_C {C C' M : zL} {k i : Nat} (h : C' k i = C k i) : zj C' M k i = zj C M k i := by
  unfold zj
  rw [h]
theorem mp_0 {D : va_G} {B0 : Nat} {C : zL} {cA : Nat → ClassId} {am : Nat → Nat} {S U : zS} {H0 H : Heap} {locs : List Loc} {x : Int} (X : zX D B0 (zu (zj C (layM cA am S U)) 32 0 (some (am 0, .inr (6, (mfs am S U).set 0 (.int (i32 x)))))) H0 H locs) : zX D B0 (zj C (layM cA am S (zs U 0 0 x))) H0 H locs := by
  refine X.to (zu_to rfl (fun k i h => zj_M ?_))
  unfold layM
  by_cases hi : i = 0
  · rw [if_pos hi, if_pos hi]
    split <;> first | rfl | exact absurd ⟨rfl, hi⟩ h
  · rw [if_neg hi, if_neg hi]
theorem mp_1 {D : va_G} {B0 : Nat} {C : zL} {cA : Nat → ClassId} {am : Nat → Nat} {S U : zS} {H0 H : Heap} {locs : List Loc} {x : Int} (X : zX D B0 (zu (zj C (layM cA am S U)) 32 0 (some (am 0, .inr (6, (mfs am S U).set 1 (.int (i32 x)))))) H0 H locs) : zX D B0 (zj C (layM cA am (zs S 1 0 x) U)) H0 H locs := by
  refine X.to (zu_to rfl (fun k i h => zj_M ?_))
  unfold layM
  by_cases hi : i = 0
  · rw [if_pos hi, if_pos hi]
    split <;> first | rfl | exact absurd ⟨rfl, hi⟩ h
  · rw [if_neg hi, if_neg hi]
theorem mp_2 {D : va_G} {B0 : Nat} {C : zL} {cA : Nat → ClassId} {am : Nat → Nat} {S U : zS} {H0 H : Heap} {locs : List Loc} {x : Int} (X : zX D B0 (zu (zj C (layM cA am S U)) 32 0 (some (am 0, .inr (6, (mfs am S U).set 2 (.int (i32 x)))))) H0 H locs) : zX D B0 (zj C (layM cA am (zs S 2 0 x) U)) H0 H locs := by
  refine X.to (zu_to rfl (fun k i h => zj_M ?_))
  unfold layM
  by_cases hi : i = 0
  · rw [if_pos hi, if_pos hi]
    split <;> first | rfl | exact absurd ⟨rfl, hi⟩ h
  · rw [if_neg hi, if_neg hi]
theorem mp_3 {D : va_G} {B0 : Nat} {C : zL} {cA : Nat → ClassId} {am : Nat → Nat} {S U : zS} {H0 H : Heap} {locs : List Loc} {x : Int} (X : zX D B0 (zu (zj C (layM cA am S U)) 32 0 (some (am 0, .inr (6, (mfs am S U).set 3 (.int (i32 x)))))) H0 H locs) : zX D B0 (zj C (layM cA am (zs S 3 0 x) U)) H0 H locs := by
  refine X.to (zu_to rfl (fun k i h => zj_M ?_))
  unfold layM
  by_cases hi : i = 0
  · rw [if_pos hi, if_pos hi]
    split <;> first | rfl | exact absurd ⟨rfl, hi⟩ h
  · rw [if_neg hi, if_neg hi]
theorem mp_4 {D : va_G} {B0 : Nat} {C : zL} {cA : Nat → ClassId} {am : Nat → Nat} {S U : zS} {H0 H : Heap} {locs : List Loc} {x : Int} (X : zX D B0 (zu (zj C (layM cA am S U)) 32 0 (some (am 0, .inr (6, (mfs am S U).set 4 (.int (i32 x)))))) H0 H locs) : zX D B0 (zj C (layM cA am (zs S 4 0 x) U)) H0 H locs := by
  refine X.to (zu_to rfl (fun k i h => zj_M ?_))
  unfold layM
  by_cases hi : i = 0
  · rw [if_pos hi, if_pos hi]
    split <;> first | rfl | exact absurd ⟨rfl, hi⟩ h
  · rw [if_neg hi, if_neg hi]
theorem mp_5 {D : va_G} {B0 : Nat} {C : zL} {cA : Nat → ClassId} {am : Nat → Nat} {S U : zS} {H0 H : Heap} {locs : List Loc} {x : Int} (X : zX D B0 (zu (zj C (layM cA am S U)) 32 0 (some (am 0, .inr (6, (mfs am S U).set 5 (.int (i32 x)))))) H0 H locs) : zX D B0 (zj C (layM cA am (zs S 5 0 x) U)) H0 H locs := by
  refine X.to (zu_to rfl (fun k i h => zj_M ?_))
  unfold layM
  by_cases hi : i = 0
  · rw [if_pos hi, if_pos hi]
    split <;> first | rfl | exact absurd ⟨rfl, hi⟩ h
  · rw [if_neg hi, if_neg hi]
theorem mp_8 {D : va_G} {B0 : Nat} {C : zL} {cA : Nat → ClassId} {am : Nat → Nat} {S U : zS} {H0 H : Heap} {locs : List Loc} {x : Int} (X : zX D B0 (zu (zj C (layM cA am S U)) 32 0 (some (am 0, .inr (6, (mfs am S U).set 8 (.int (i32 x)))))) H0 H locs) : zX D B0 (zj C (layM cA am (zs S 8 0 x) U)) H0 H locs := by
  refine X.to (zu_to rfl (fun k i h => zj_M ?_))
  unfold layM
  by_cases hi : i = 0
  · rw [if_pos hi, if_pos hi]
    split <;> first | rfl | exact absurd ⟨rfl, hi⟩ h
  · rw [if_neg hi, if_neg hi]
theorem mp_19 {D : va_G} {B0 : Nat} {C : zL} {cA : Nat → ClassId} {am : Nat → Nat} {S U : zS} {H0 H : Heap} {locs : List Loc} {x : Int} (X : zX D B0 (zu (zj C (layM cA am S U)) 32 0 (some (am 0, .inr (6, (mfs am S U).set 19 (.int (i32 x)))))) H0 H locs) : zX D B0 (zj C (layM cA am (zs S 19 0 x) U)) H0 H locs := by
  refine X.to (zu_to rfl (fun k i h => zj_M ?_))
  unfold layM
  by_cases hi : i = 0
  · rw [if_pos hi, if_pos hi]
    split <;> first | rfl | exact absurd ⟨rfl, hi⟩ h
  · rw [if_neg hi, if_neg hi]
theorem mp_27 {D : va_G} {B0 : Nat} {C : zL} {cA : Nat → ClassId} {am : Nat → Nat} {S U : zS} {H0 H : Heap} {locs : List Loc} {x : Int} (X : zX D B0 (zu (zj C (layM cA am S U)) 32 0 (some (am 0, .inr (6, (mfs am S U).set 27 (.int (i32 x)))))) H0 H locs) : zX D B0 (zj C (layM cA am (zs S 27 0 x) U)) H0 H locs := by
  refine X.to (zu_to rfl (fun k i h => zj_M ?_))
  unfold layM
  by_cases hi : i = 0
  · rw [if_pos hi, if_pos hi]
    split <;> first | rfl | exact absurd ⟨rfl, hi⟩ h
  · rw [if_neg hi, if_neg hi]
theorem mp_17 {D : va_G} {B0 : Nat} {C : zL} {cA : Nat → ClassId} {am : Nat → Nat} {S U : zS} {H0 H : Heap} {locs : List Loc} {x : Int} (X : zX D B0 (zu (zj C (layM cA am S U)) 32 0 (some (am 0, .inr (6, (mfs am S U).set 17 (.int (i32 x)))))) H0 H locs) : zX D B0 (zj C (layM cA am (zs S 17 0 x) U)) H0 H locs := by
  refine X.to (zu_to rfl (fun k i h => zj_M ?_))
  unfold layM
  by_cases hi : i = 0
  · rw [if_pos hi, if_pos hi]
    split <;> first | rfl | exact absurd ⟨rfl, hi⟩ h
  · rw [if_neg hi, if_neg hi]
theorem ma_6 {D : va_G} {B0 : Nat} {C : zL} {cA : Nat → ClassId} {am : Nat → Nat} {S U : zS} {H0 H : Heap} {locs : List Loc} {x : Int} {j : Nat} (X : zX D B0 (zu (zj C (layM cA am S U)) 38 0 (some (am 6, .inl (cA 0, 8, .inl (fun j' => i32 (zg (S 6) j x j')))))) H0 H locs) : zX D B0 (zj C (layM cA am (zs S 6 j x) U)) H0 H locs := by
  refine X.to (zu_to rfl (fun k i h => zj_M ?_))
  unfold layM
  by_cases hi : i = 0
  · rw [if_pos hi, if_pos hi]
    split <;> first | rfl | exact absurd ⟨rfl, hi⟩ h
  · rw [if_neg hi, if_neg hi]
theorem ma_7 {D : va_G} {B0 : Nat} {C : zL} {cA : Nat → ClassId} {am : Nat → Nat} {S U : zS} {H0 H : Heap} {locs : List Loc} {x : Int} {j : Nat} (X : zX D B0 (zu (zj C (layM cA am S U)) 39 0 (some (am 7, .inl (cA 1, 8, .inl (fun j' => i32 (zg (S 7) j x j')))))) H0 H locs) : zX D B0 (zj C (layM cA am (zs S 7 j x) U)) H0 H locs := by
  refine X.to (zu_to rfl (fun k i h => zj_M ?_))
  unfold layM
  by_cases hi : i = 0
  · rw [if_pos hi, if_pos hi]
    split <;> first | rfl | exact absurd ⟨rfl, hi⟩ h
  · rw [if_neg hi, if_neg hi]
theorem ma_9 {D : va_G} {B0 : Nat} {C : zL} {cA : Nat → ClassId} {am : Nat → Nat} {S U : zS} {H0 H : Heap} {locs : List Loc} {x : Int} {j : Nat} (X : zX D B0 (zu (zj C (layM cA am S U)) 41 0 (some (am 9, .inl (cA 0, 8, .inl (fun j' => i32 (zg (S 9) j x j')))))) H0 H locs) : zX D B0 (zj C (layM cA am (zs S 9 j x) U)) H0 H locs := by
  refine X.to (zu_to rfl (fun k i h => zj_M ?_))
  unfold layM
  by_cases hi : i = 0
  · rw [if_pos hi, if_pos hi]
    split <;> first | rfl | exact absurd ⟨rfl, hi⟩ h
  · rw [if_neg hi, if_neg hi]
theorem ma_10 {D : va_G} {B0 : Nat} {C : zL} {cA : Nat → ClassId} {am : Nat → Nat} {S U : zS} {H0 H : Heap} {locs : List Loc} {x : Int} {j : Nat} (X : zX D B0 (zu (zj C (layM cA am S U)) 42 0 (some (am 10, .inl (cA 0, 8, .inl (fun j' => i32 (zg (S 10) j x j')))))) H0 H locs) : zX D B0 (zj C (layM cA am (zs S 10 j x) U)) H0 H locs := by
  refine X.to (zu_to rfl (fun k i h => zj_M ?_))
  unfold layM
  by_cases hi : i = 0
  · rw [if_pos hi, if_pos hi]
    split <;> first | rfl | exact absurd ⟨rfl, hi⟩ h
  · rw [if_neg hi, if_neg hi]
theorem ma_11 {D : va_G} {B0 : Nat} {C : zL} {cA : Nat → ClassId} {am : Nat → Nat} {S U : zS} {H0 H : Heap} {locs : List Loc} {x : Int} {j : Nat} (X : zX D B0 (zu (zj C (layM cA am S U)) 43 0 (some (am 11, .inl (cA 0, 8, .inl (fun j' => i32 (zg (S 11) j x j')))))) H0 H locs) : zX D B0 (zj C (layM cA am (zs S 11 j x) U)) H0 H locs := by
  refine X.to (zu_to rfl (fun k i h => zj_M ?_))
  unfold layM
  by_cases hi : i = 0
  · rw [if_pos hi, if_pos hi]
    split <;> first | rfl | exact absurd ⟨rfl, hi⟩ h
  · rw [if_neg hi, if_neg hi]
theorem ma_12 {D : va_G} {B0 : Nat} {C : zL} {cA : Nat → ClassId} {am : Nat → Nat} {S U : zS} {H0 H : Heap} {locs : List Loc} {x : Int} {j : Nat} (X : zX D B0 (zu (zj C (layM cA am S U)) 44 0 (some (am 12, .inl (cA 0, 8, .inl (fun j' => i32 (zg (S 12) j x j')))))) H0 H locs) : zX D B0 (zj C (layM cA am (zs S 12 j x) U)) H0 H locs := by
  refine X.to (zu_to rfl (fun k i h => zj_M ?_))
  unfold layM
  by_cases hi : i = 0
  · rw [if_pos hi, if_pos hi]
    split <;> first | rfl | exact absurd ⟨rfl, hi⟩ h
  · rw [if_neg hi, if_neg hi]
theorem ma_13 {D : va_G} {B0 : Nat} {C : zL} {cA : Nat → ClassId} {am : Nat → Nat} {S U : zS} {H0 H : Heap} {locs : List Loc} {x : Int} {j : Nat} (X : zX D B0 (zu (zj C (layM cA am S U)) 45 0 (some (am 13, .inl (cA 0, 8, .inl (fun j' => i32 (zg (S 13) j x j')))))) H0 H locs) : zX D B0 (zj C (layM cA am (zs S 13 j x) U)) H0 H locs := by
  refine X.to (zu_to rfl (fun k i h => zj_M ?_))
  unfold layM
  by_cases hi : i = 0
  · rw [if_pos hi, if_pos hi]
    split <;> first | rfl | exact absurd ⟨rfl, hi⟩ h
  · rw [if_neg hi, if_neg hi]
theorem ma_14 {D : va_G} {B0 : Nat} {C : zL} {cA : Nat → ClassId} {am : Nat → Nat} {S U : zS} {H0 H : Heap} {locs : List Loc} {x : Int} {j : Nat} (X : zX D B0 (zu (zj C (layM cA am S U)) 46 0 (some (am 14, .inl (cA 0, 20808, .inl (fun j' => i32 (zg (U 14) j x j')))))) H0 H locs) : zX D B0 (zj C (layM cA am S (zs U 14 j x))) H0 H locs := by
  refine X.to (zu_to rfl (fun k i h => zj_M ?_))
  unfold layM
  by_cases hi : i = 0
  · rw [if_pos hi, if_pos hi]
    split <;> first | rfl | exact absurd ⟨rfl, hi⟩ h
  · rw [if_neg hi, if_neg hi]
theorem ma_15 {D : va_G} {B0 : Nat} {C : zL} {cA : Nat → ClassId} {am : Nat → Nat} {S U : zS} {H0 H : Heap} {locs : List Loc} {x : Int} {j : Nat} (X : zX D B0 (zu (zj C (layM cA am S U)) 47 0 (some (am 15, .inl (cA 0, 20808, .inl (fun j' => i32 (zg (U 15) j x j')))))) H0 H locs) : zX D B0 (zj C (layM cA am S (zs U 15 j x))) H0 H locs := by
  refine X.to (zu_to rfl (fun k i h => zj_M ?_))
  unfold layM
  by_cases hi : i = 0
  · rw [if_pos hi, if_pos hi]
    split <;> first | rfl | exact absurd ⟨rfl, hi⟩ h
  · rw [if_neg hi, if_neg hi]
theorem ma_16 {D : va_G} {B0 : Nat} {C : zL} {cA : Nat → ClassId} {am : Nat → Nat} {S U : zS} {H0 H : Heap} {locs : List Loc} {x : Int} {j : Nat} (X : zX D B0 (zu (zj C (layM cA am S U)) 48 0 (some (am 16, .inl (cA 1, 408, .inl (fun j' => i32 (zg (U 16) j x j')))))) H0 H locs) : zX D B0 (zj C (layM cA am S (zs U 16 j x))) H0 H locs := by
  refine X.to (zu_to rfl (fun k i h => zj_M ?_))
  unfold layM
  by_cases hi : i = 0
  · rw [if_pos hi, if_pos hi]
    split <;> first | rfl | exact absurd ⟨rfl, hi⟩ h
  · rw [if_neg hi, if_neg hi]
theorem ma_18 {D : va_G} {B0 : Nat} {C : zL} {cA : Nat → ClassId} {am : Nat → Nat} {S U : zS} {H0 H : Heap} {locs : List Loc} {x : Int} {j : Nat} (X : zX D B0 (zu (zj C (layM cA am S U)) 50 0 (some (am 18, .inl (cA 0, 8, .inl (fun j' => i32 (zg (S 18) j x j')))))) H0 H locs) : zX D B0 (zj C (layM cA am (zs S 18 j x) U)) H0 H locs := by
  refine X.to (zu_to rfl (fun k i h => zj_M ?_))
  unfold layM
  by_cases hi : i = 0
  · rw [if_pos hi, if_pos hi]
    split <;> first | rfl | exact absurd ⟨rfl, hi⟩ h
  · rw [if_neg hi, if_neg hi]
theorem ma_20 {D : va_G} {B0 : Nat} {C : zL} {cA : Nat → ClassId} {am : Nat → Nat} {S U : zS} {H0 H : Heap} {locs : List Loc} {x : Int} {j : Nat} (X : zX D B0 (zu (zj C (layM cA am S U)) 52 0 (some (am 20, .inl (cA 0, 6, .inl (fun j' => i32 (zg (S 20) j x j')))))) H0 H locs) : zX D B0 (zj C (layM cA am (zs S 20 j x) U)) H0 H locs := by
  refine X.to (zu_to rfl (fun k i h => zj_M ?_))
  unfold layM
  by_cases hi : i = 0
  · rw [if_pos hi, if_pos hi]
    split <;> first | rfl | exact absurd ⟨rfl, hi⟩ h
  · rw [if_neg hi, if_neg hi]
theorem ma_21 {D : va_G} {B0 : Nat} {C : zL} {cA : Nat → ClassId} {am : Nat → Nat} {S U : zS} {H0 H : Heap} {locs : List Loc} {x : Int} {j : Nat} (X : zX D B0 (zu (zj C (layM cA am S U)) 53 0 (some (am 21, .inl (cA 0, 6, .inl (fun j' => i32 (zg (S 21) j x j')))))) H0 H locs) : zX D B0 (zj C (layM cA am (zs S 21 j x) U)) H0 H locs := by
  refine X.to (zu_to rfl (fun k i h => zj_M ?_))
  unfold layM
  by_cases hi : i = 0
  · rw [if_pos hi, if_pos hi]
    split <;> first | rfl | exact absurd ⟨rfl, hi⟩ h
  · rw [if_neg hi, if_neg hi]
theorem ma_22 {D : va_G} {B0 : Nat} {C : zL} {cA : Nat → ClassId} {am : Nat → Nat} {S U : zS} {H0 H : Heap} {locs : List Loc} {x : Int} {j : Nat} (X : zX D B0 (zu (zj C (layM cA am S U)) 54 0 (some (am 22, .inl (cA 0, 6, .inl (fun j' => i32 (zg (S 22) j x j')))))) H0 H locs) : zX D B0 (zj C (layM cA am (zs S 22 j x) U)) H0 H locs := by
  refine X.to (zu_to rfl (fun k i h => zj_M ?_))
  unfold layM
  by_cases hi : i = 0
  · rw [if_pos hi, if_pos hi]
    split <;> first | rfl | exact absurd ⟨rfl, hi⟩ h
  · rw [if_neg hi, if_neg hi]
theorem ma_23 {D : va_G} {B0 : Nat} {C : zL} {cA : Nat → ClassId} {am : Nat → Nat} {S U : zS} {H0 H : Heap} {locs : List Loc} {x : Int} {j : Nat} (X : zX D B0 (zu (zj C (layM cA am S U)) 55 0 (some (am 23, .inl (cA 0, 6, .inl (fun j' => i32 (zg (S 23) j x j')))))) H0 H locs) : zX D B0 (zj C (layM cA am (zs S 23 j x) U)) H0 H locs := by
  refine X.to (zu_to rfl (fun k i h => zj_M ?_))
  unfold layM
  by_cases hi : i = 0
  · rw [if_pos hi, if_pos hi]
    split <;> first | rfl | exact absurd ⟨rfl, hi⟩ h
  · rw [if_neg hi, if_neg hi]
theorem ma_24 {D : va_G} {B0 : Nat} {C : zL} {cA : Nat → ClassId} {am : Nat → Nat} {S U : zS} {H0 H : Heap} {locs : List Loc} {x : Int} {j : Nat} (X : zX D B0 (zu (zj C (layM cA am S U)) 56 0 (some (am 24, .inl (cA 0, 6, .inl (fun j' => i32 (zg (S 24) j x j')))))) H0 H locs) : zX D B0 (zj C (layM cA am (zs S 24 j x) U)) H0 H locs := by
  refine X.to (zu_to rfl (fun k i h => zj_M ?_))
  unfold layM
  by_cases hi : i = 0
  · rw [if_pos hi, if_pos hi]
    split <;> first | rfl | exact absurd ⟨rfl, hi⟩ h
  · rw [if_neg hi, if_neg hi]
theorem ma_25 {D : va_G} {B0 : Nat} {C : zL} {cA : Nat → ClassId} {am : Nat → Nat} {S U : zS} {H0 H : Heap} {locs : List Loc} {x : Int} {j : Nat} (X : zX D B0 (zu (zj C (layM cA am S U)) 57 0 (some (am 25, .inl (cA 0, 384, .inl (fun j' => i32 (zg (S 25) j x j')))))) H0 H locs) : zX D B0 (zj C (layM cA am (zs S 25 j x) U)) H0 H locs := by
  refine X.to (zu_to rfl (fun k i h => zj_M ?_))
  unfold layM
  by_cases hi : i = 0
  · rw [if_pos hi, if_pos hi]
    split <;> first | rfl | exact absurd ⟨rfl, hi⟩ h
  · rw [if_neg hi, if_neg hi]
theorem ma_26 {D : va_G} {B0 : Nat} {C : zL} {cA : Nat → ClassId} {am : Nat → Nat} {S U : zS} {H0 H : Heap} {locs : List Loc} {x : Int} {j : Nat} (X : zX D B0 (zu (zj C (layM cA am S U)) 58 0 (some (am 26, .inl (cA 0, 64, .inl (fun j' => i32 (zg (U 26) j x j')))))) H0 H locs) : zX D B0 (zj C (layM cA am S (zs U 26 j x))) H0 H locs := by
  refine X.to (zu_to rfl (fun k i h => zj_M ?_))
  unfold layM
  by_cases hi : i = 0
  · rw [if_pos hi, if_pos hi]
    split <;> first | rfl | exact absurd ⟨rfl, hi⟩ h
  · rw [if_neg hi, if_neg hi]
end
section
/-- what the numbers of a state keep to -/
def SI0 (S : zS) : Prop := (0 ≤ S 1 0 ∧ S 1 0 ≤ 20) ∧ (1 ≤ S 2 0 ∧ S 2 0 ≤ 30) ∧ (1 ≤ S 3 0 ∧ S 3 0 ≤ 8) ∧ (1 ≤ S 4 0 ∧ S 4 0 ≤ 8) ∧ (0 ≤ S 5 0 ∧ S 5 0 ≤ 8) ∧ (0 ≤ S 8 0 ∧ S 8 0 ≤ 8) ∧ (0 ≤ S 17 0 ∧ S 17 0 ≤ 1) ∧ (0 ≤ S 19 0 ∧ S 19 0 ≤ 6) ∧ ∀ j : Nat, 0 ≤ S 7 j ∧ S 7 j ≤ 1
/-! sums, least ones, as the reference finds them -/
def sumn (f : Nat → Int) : Nat → Int
  | 0 => 0
  | n + 1 => sumn f n + f n
def minb (f : Nat → Int) : Nat → Int
  | 0 => f 0
  | n + 1 => if f (n + 1) < minb f n then f (n + 1) else minb f n
def argb (f : Nat → Int) : Nat → Int
  | 0 => 0
  | n + 1 => if f (n + 1) < minb f n then ((n + 1 : Nat) : Int) else argb f n
def isqf : Nat → Int → Int
  | 0, _ => 0
  | f + 1, n => if (isqf f n + 1) * (isqf f n + 1) ≤ n then isqf f n + 1 else isqf f n
def isq (n : Int) : Int := isqf 1023 n
theorem isqf_spec (n : Int) (h : 0 ≤ n) : ∀ f : Nat, 0 ≤ isqf f n ∧ isqf f n ≤ f ∧ isqf f n * isqf f n ≤ n ∧ (isqf f n = f ∨ n < (isqf f n + 1) * (isqf f n + 1)) := by
  intro f
  induction f with
  | zero => exact ⟨Int.le_refl 0, by simp [isqf], by simpa [isqf] using h, Or.inl rfl⟩
  | succ f ih =>
    obtain ⟨h1, h2, h3, h4⟩ := ih
    unfold isqf
    by_cases hc : (isqf f n + 1) * (isqf f n + 1) ≤ n
    · rw [if_pos hc]
      rcases h4 with h4 | h4
      · exact ⟨by omega, by omega, hc, Or.inl (by rw [h4]; rfl)⟩
      · omega
    · rw [if_neg hc]
      exact ⟨h1, by omega, h3, Or.inr (by omega)⟩
theorem isq_spec {n : Int} (h : 0 ≤ n) (h2 : n < 1048576) : 0 ≤ isq n ∧ isq n * isq n ≤ n ∧ n < (isq n + 1) * (isq n + 1) ∧ isq n ≤ 1023 := by
  obtain ⟨h1, h3, h4, h5⟩ := isqf_spec n h 1023
  refine ⟨h1, h4, ?_, h3⟩
  rcases h5 with h5 | h5
  · unfold isq
    rw [h5]
    exact Int.lt_of_lt_of_le h2 (by decide)
  · exact h5
theorem sq_lt {a b : Int} (ha : 0 ≤ a) (h : a * a < b * b) (hb : 0 ≤ b) : a < b := by
  rcases Int.lt_or_le a b with q | q
  · exact q
  · exact absurd (Int.mul_le_mul q q hb ha) (by omega)
theorem isq_eq {n r : Int} (h2 : n < 1048576) (h0 : 0 ≤ r) (h3 : r * r ≤ n) (h4 : n < (r + 1) * (r + 1)) : r = isq n := by
  have hn : 0 ≤ n := Int.le_trans (Int.mul_nonneg h0 h0) h3
  obtain ⟨a1, a2, a3, -⟩ := isq_spec hn h2
  have b1 := sq_lt h0 (Int.lt_of_le_of_lt h3 a3) (by omega)
  have b2 := sq_lt a1 (Int.lt_of_le_of_lt a2 h4) (by omega)
  omega
theorem isq_mono {m n : Int} (h0 : 0 ≤ m) (h : m ≤ n) (h2 : n < 1048576) : isq m ≤ isq n := by
  obtain ⟨a1, a2, a3, -⟩ := isq_spec h0 (by omega)
  obtain ⟨b1, b2, b3, -⟩ := isq_spec (Int.le_trans h0 h) h2
  have := sq_lt a1 (Int.lt_of_le_of_lt (Int.le_trans a2 h) b3) (by omega)
  omega
def tk (k dx dy : Int) : Int := isq (k * k * (dx * dx + dy * dy))
theorem sq_le {a m : Int} (h1 : -m ≤ a) (h2 : a ≤ m) : 0 ≤ a * a ∧ a * a ≤ m * m := by
  refine ⟨?_, ?_⟩
  · rcases Int.le_total 0 a with q | q
    · exact Int.mul_nonneg q q
    · rw [← Int.neg_mul_neg]
      exact Int.mul_nonneg (by omega) (by omega)
  · rcases Int.le_total 0 a with q | q
    · exact Int.mul_le_mul h2 h2 q (by omega)
    · rw [← Int.neg_mul_neg]
      exact Int.mul_le_mul (by omega) (by omega) (by omega) (by omega)
theorem tk_arg {k dx dy : Int} (hk : 0 ≤ k ∧ k ≤ 8) (hx : -50 ≤ dx ∧ dx ≤ 50) (hy : -50 ≤ dy ∧ dy ≤ 50) : 0 ≤ k * k * (dx * dx + dy * dy) ∧ k * k * (dx * dx + dy * dy) ≤ 320000 ∧ 0 ≤ k * k ∧ k * k ≤ 64 ∧ 0 ≤ dx * dx ∧ dx * dx ≤ 2500 ∧ 0 ≤ dy * dy ∧ dy * dy ≤ 2500 := by
  have h1 := sq_le (a := k) (m := 8) (by omega) hk.2
  have h2 := sq_le (a := dx) (m := 50) (by omega) hx.2
  have h3 := sq_le (a := dy) (m := 50) (by omega) hy.2
  refine ⟨Int.mul_nonneg h1.1 (by omega), ?_, h1.1, by omega, h2.1, by omega, h3.1, by omega⟩
  exact Int.le_trans (Int.mul_le_mul (show k * k ≤ 64 by omega) (show dx * dx + dy * dy ≤ 5000 by omega) (by omega) (by omega)) (by decide)
theorem tk_rng {k dx dy : Int} (hk : 0 ≤ k ∧ k ≤ 8) (hx : -50 ≤ dx ∧ dx ≤ 50) (hy : -50 ≤ dy ∧ dy ≤ 50) : 0 ≤ tk k dx dy ∧ tk k dx dy ≤ 1023 := by
  obtain ⟨h1, h2, -⟩ := tk_arg hk hx hy
  obtain ⟨a1, -, -, a4⟩ := isq_spec h1 (by omega)
  exact ⟨a1, a4⟩
theorem minb_le {f : Nat → Int} : ∀ {n k : Nat}, k ≤ n → minb f n ≤ f k := by
  intro n
  induction n with
  | zero =>
    intro k hk
    have : k = 0 := by omega
    subst this
    exact Int.le_refl _
  | succ n ih =>
    intro k hk
    unfold minb
    split
    · rename_i h
      rcases Nat.lt_or_ge k (n + 1) with q | q
      · have := ih (k := k) (by omega)
        omega
      · have : k = n + 1 := by omega
        subst this
        exact Int.le_refl _
    · rename_i h
      rcases Nat.lt_or_ge k (n + 1) with q | q
      · exact ih (by omega)
      · have : k = n + 1 := by omega
        subst this
        omega
theorem minb_is {f : Nat → Int} : ∀ (n : Nat), ∃ k, k ≤ n ∧ f k = minb f n ∧ argb f n = (k : Int) ∧ ∀ j, j < k → minb f n < f j := by
  intro n
  induction n with
  | zero => exact ⟨0, Nat.le_refl 0, rfl, rfl, fun j h => absurd h (Nat.not_lt_zero j)⟩
  | succ n ih =>
    obtain ⟨k, h1, h2, h3, h4⟩ := ih
    unfold minb argb
    by_cases hc : f (n + 1) < minb f n
    · rw [if_pos hc, if_pos hc]
      exact ⟨n + 1, Nat.le_refl _, rfl, rfl, fun j hj => Int.lt_of_lt_of_le hc (minb_le (by omega))⟩
    · rw [if_neg hc, if_neg hc]
      exact ⟨k, by omega, h2, h3, h4⟩
theorem minb_ge {f : Nat → Int} {n : Nat} {z : Int} (h : ∀ k, k ≤ n → z ≤ f k) : z ≤ minb f n := by
  obtain ⟨k, h1, h2, -⟩ := minb_is (f := f) n
  rw [← h2]
  exact h k h1
theorem minb_cong {f g : Nat → Int} : ∀ {n : Nat}, (∀ k, k ≤ n → f k = g k) → minb f n = minb g n := by
  intro n
  induction n with
  | zero => exact fun h => h 0 (Nat.le_refl 0)
  | succ n ih =>
    intro h
    unfold minb
    rw [ih (fun k hk => h k (by omega)), h (n + 1) (Nat.le_refl _)]
theorem sumn_cong {f g : Nat → Int} : ∀ {n : Nat}, (∀ k, k < n → f k = g k) → sumn f n = sumn g n := by
  intro n
  induction n with
  | zero => exact fun _ => rfl
  | succ n ih =>
    intro h
    unfold sumn
    rw [ih (fun k hk => h k (by omega)), h n (by omega)]
theorem sumn_rng {f : Nat → Int} {m : Int} (hm : 0 ≤ m) : ∀ {n : Nat}, (∀ k, k < n → -m ≤ f k ∧ f k ≤ m) → -(n * m) ≤ sumn f n ∧ sumn f n ≤ n * m := by
  intro n
  induction n with
  | zero => exact fun _ => by simp [sumn]
  | succ n ih =>
    intro h
    have h1 := ih (fun k hk => h k (by omega))
    have h2 := h n (by omega)
    have e : ((n + 1 : Nat) : Int) * m = n * m + m := by
      rw [Int.natCast_add, Int.add_mul]
      simp
    unfold sumn
    omega
/-! times -/
/-- ticks by the bend b -/
def tw (S : zS) (e x y : Nat) (b : Nat) : Int := tk (S 3 0) ((b : Int) - S 6 e) (S 1 0) + tk (S 4 0) ((x : Int) - b) ((y : Int) - S 1 0)
def TM (S : zS) (e x y : Nat) : Int := minb (tw S e x y) 50
def BD (S : zS) (e x y : Nat) : Int := argb (tw S e x y) 50
/-- an element's place lies on the row -/
def SI1 (S : zS) : Prop := ∀ j : Nat, (j : Int) < S 5 0 → 0 ≤ S 6 j ∧ S 6 j ≤ 50
theorem tw_rng {S : zS} {e x y b : Nat} (h0 : SI0 S) (h1 : SI1 S) (he : (e : Int) < S 5 0) (hx : x ≤ 50) (hy : S 1 0 ≤ y ∧ (y : Int) ≤ S 1 0 + S 2 0) (hb : b ≤ 50) : 0 ≤ tw S e x y b ∧ tw S e x y b ≤ 2046 := by
  unfold SI0 at h0
  obtain ⟨b1, b2, b3, b4, -⟩ := h0
  have h6 := h1 e he
  have t1 := tk_rng (k := S 3 0) (dx := (b : Int) - S 6 e) (dy := S 1 0) (by omega) (by omega) (by omega)
  have t2 := tk_rng (k := S 4 0) (dx := (x : Int) - b) (dy := (y : Int) - S 1 0) (by omega) (by omega) (by omega)
  unfold tw
  omega
theorem TM_rng {S : zS} {e x y : Nat} (h0 : SI0 S) (h1 : SI1 S) (he : (e : Int) < S 5 0) (hx : x ≤ 50) (hy : S 1 0 ≤ y ∧ (y : Int) ≤ S 1 0 + S 2 0) : 0 ≤ TM S e x y ∧ TM S e x y ≤ 2046 := by
  refine ⟨minb_ge (fun k hk => (tw_rng h0 h1 he hx hy hk).1), ?_⟩
  exact Int.le_trans (minb_le (k := 0) (Nat.zero_le _)) (tw_rng h0 h1 he hx hy (Nat.zero_le _)).2
theorem zs_ne {S : zS} {k j k' : Nat} {z : Int} (h : k' ≠ k) : zs S k j z k' = S k' := by
  unfold zs
  rw [show Nat.beq k' k = false by
    cases hb : Nat.beq k' k with
    | false => rfl
    | true => exact absurd (Nat.eq_of_beq_eq_true hb) h]
  rfl
theorem zs_eq {S : zS} {k j : Nat} {z : Int} : zs S k j z k = zg (S k) j z := by
  unfold zs
  rw [show Nat.beq k k = true from Nat.beq_refl k]
  rfl
theorem zg_eq {g : Nat → Int} {k : Nat} {z : Int} : zg g k z k = z := if_pos rfl
theorem zg_ne {g : Nat → Int} {k j : Nat} {z : Int} (h : j ≠ k) : zg g k z j = g j := if_neg h
/-- what the reference's tables of times hold -/
def MC (S U : zS) : Prop := ∀ k : Nat, k < 408 → U 16 k = 0 ∨ (U 16 k = 1 ∧ ((k / 51 : Nat) : Int) < S 5 0 ∧ ∀ x : Nat, x < 51 → U 14 (51 * k + x) = TM S (k / 51) x (k % 51) ∧ U 15 (51 * k + x) = BD S (k / 51) x (k % 51))
/-! the filling of a row of them -/
def mkI (S U : zS) (ea y n b : Nat) (T : zS) : Prop := (∀ q : Nat, q ≠ 14 → q ≠ 15 → T q = zs U 16 (51 * ea + y) 1 q) ∧ (∀ q : Nat, q < 51 * (51 * ea + y) ∨ 51 * (51 * ea + y) + 51 ≤ q → T 14 q = U 14 q ∧ T 15 q = U 15 q) ∧ (∀ x : Nat, x < n → T 14 (51 * (51 * ea + y) + x) = TM S ea x y ∧ T 15 (51 * (51 * ea + y) + x) = BD S ea x y) ∧ (0 < b → T 14 (51 * (51 * ea + y) + n) = minb (tw S ea n y) (b - 1) ∧ T 15 (51 * (51 * ea + y) + n) = argb (tw S ea n y) (b - 1))
theorem mkI_start (S U : zS) (ea y : Nat) : mkI S U ea y 0 0 (zs U 16 (51 * ea + y) 1) := ⟨fun _ _ _ => rfl, fun q _ => ⟨by rw [zs_ne (by decide)], by rw [zs_ne (by decide)]⟩, fun x h => absurd h (Nat.not_lt_zero x), fun h => absurd h (Nat.lt_irrefl 0)⟩
theorem mkI_next {S U T : zS} {ea y n : Nat} (h : mkI S U ea y n 51 T) : mkI S U ea y (n + 1) 0 T := by
  obtain ⟨h1, h2, h3, h4⟩ := h
  refine ⟨h1, h2, fun x hx => ?_, fun h => absurd h (Nat.lt_irrefl 0)⟩
  rcases Nat.lt_or_ge x n with q | q
  · exact h3 x q
  · have e : x = n := by omega
    subst e
    exact h4 (by decide)
theorem mkI_keep {S U T : zS} {ea y n b : Nat} (h : mkI S U ea y n b T) (hb : 0 < b) (hc : ¬ tw S ea n y b < T 14 (51 * (51 * ea + y) + n)) : mkI S U ea y n (b + 1) T := by
  obtain ⟨h1, h2, h3, h4⟩ := h
  refine ⟨h1, h2, h3, fun _ => ?_⟩
  obtain ⟨e1, e2⟩ := h4 hb
  rw [e1] at hc
  obtain ⟨k, rfl⟩ : ∃ k, b = k + 1 := ⟨b - 1, by omega⟩
  simp only [Nat.add_sub_cancel] at e1 e2 hc ⊢
  unfold minb argb
  rw [if_neg hc, if_neg hc]
  exact ⟨e1, e2⟩
theorem mkI_write {S U T : zS} {ea y n b : Nat} (h : mkI S U ea y n b T) (hn : n < 51) (hc : b = 0 ∨ tw S ea n y b < T 14 (51 * (51 * ea + y) + n)) : mkI S U ea y n (b + 1) (zs (zs T 14 (51 * (51 * ea + y) + n) (tw S ea n y b)) 15 (51 * (51 * ea + y) + n) (b : Int)) := by
  obtain ⟨h1, h2, h3, h4⟩ := h
  have f14 : ∀ q, q ≠ 51 * (51 * ea + y) + n → zs (zs T 14 (51 * (51 * ea + y) + n) (tw S ea n y b)) 15 (51 * (51 * ea + y) + n) (b : Int) 14 q = T 14 q := fun q hq => by
    rw [zs_ne (by decide), zs_eq, zg_ne hq]
  have f15 : ∀ q, q ≠ 51 * (51 * ea + y) + n → zs (zs T 14 (51 * (51 * ea + y) + n) (tw S ea n y b)) 15 (51 * (51 * ea + y) + n) (b : Int) 15 q = T 15 q := fun q hq => by
    rw [zs_eq, zg_ne hq, zs_ne (by decide)]
  refine ⟨fun q a1 a2 => ?_, fun q hq => ?_, fun x hx => ?_, fun _ => ?_⟩
  · rw [zs_ne a2, zs_ne a1]
    exact h1 q a1 a2
  · rw [f14 q (by omega), f15 q (by omega)]
    exact h2 q hq
  · rw [f14 _ (by omega), f15 _ (by omega)]
    exact h3 x hx
  · rw [zs_ne (by decide), zs_eq, zg_eq, zs_eq, zg_eq]
    simp only [Nat.add_sub_cancel]
    cases b with
    | zero => exact ⟨rfl, rfl⟩
    | succ k =>
      obtain ⟨e1, e2⟩ := h4 (by omega)
      have hc : tw S ea n y (k + 1) < minb (tw S ea n y) k := by
        rcases hc with hc | hc
        · omega
        · rw [e1] at hc
          exact hc
      unfold minb argb
      rw [if_pos hc, if_pos hc]
      exact ⟨rfl, rfl⟩
theorem mkI_done {S U T : zS} {ea y : Nat} (h : mkI S U ea y 51 0 T) (hC : MC S U) (he : (ea : Int) < S 5 0) (hy : y < 51) : MC S T ∧ T 16 (51 * ea + y) = 1 := by
  obtain ⟨h1, h2, h3, -⟩ := h
  have e16 : T 16 = zg (U 16) (51 * ea + y) 1 := by rw [h1 16 (by decide) (by decide), zs_eq]
  refine ⟨fun k hk => ?_, by rw [e16, zg_eq]⟩
  by_cases hr : k = 51 * ea + y
  · right
    have d1 : k / 51 = ea := by omega
    have d2 : k % 51 = y := by omega
    rw [d1, d2]
    subst hr
    exact ⟨by rw [e16, zg_eq], he, h3⟩
  · rw [e16, zg_ne hr]
    rcases hC k hk with q | ⟨q1, q2, q3⟩
    · exact Or.inl q
    · refine Or.inr ⟨q1, q2, fun x hx => ?_⟩
      obtain ⟨a1, a2⟩ := h2 (51 * k + x) (by omega)
      rw [a1, a2]
      exact q3 x hx
end
section
def SI2 (S : zS) : Prop := ∀ j : Nat, (j : Int) < S 8 0 → (0 ≤ S 9 j ∧ S 9 j ≤ 2) ∧ (0 ≤ S 10 j ∧ S 10 j ≤ S 11 j ∧ S 11 j ≤ 50) ∧ (S 9 j ≠ 2 → S 1 0 ≤ S 12 j ∧ S 12 j ≤ S 1 0 + S 2 0) ∧ (-1000 ≤ S 13 j ∧ S 13 j ≤ 1000)
def SI3 (S : zS) : Prop := ∀ j : Nat, (j : Int) < S 19 0 → (0 ≤ S 20 j ∧ S 20 j < S 5 0) ∧ (0 ≤ S 21 j ∧ S 21 j < S 5 0) ∧ (0 ≤ S 22 j ∧ S 22 j ≤ 4000)
def SI4 (S : zS) : Prop := (∀ j : Nat, j < 6 → (-1 ≤ S 23 j ∧ S 23 j ≤ 64) ∧ (0 ≤ S 24 j ∧ S 24 j ≤ 2)) ∧ ∀ j : Nat, zr (S 25 j)
def SI5 (S : zS) : Prop := ∀ j : Nat, -5000 ≤ S 18 j ∧ S 18 j ≤ 5000
def SI (S : zS) : Prop := SI0 S ∧ SI1 S ∧ SI2 S ∧ SI3 S ∧ SI4 S ∧ SI5 S
/-! what the calls answer -/
def dep (S : zS) (t : Nat) : Int := if S 9 t = 2 then S 1 0 + S 2 0 else S 12 t
def fd (S : zS) (a b x y : Nat) (d : Nat) : Int := TM S a (x + d) y + TM S b (x + d) y
def LST (S : zS) (a b x n y : Nat) : Int := minb (fd S a b x y) n
def ET (S : zS) (a b t : Nat) : Int := LST S a b (S 10 t).toNat (S 11 t - S 10 t).toNat (dep S t).toNat
def fec (S : zS) (a b : Nat) (tick : Int) (t : Nat) : Int := if ET S a b t = tick then S 13 t else 0
def EC (S : zS) (a b : Nat) (tick : Int) : Int := if S 7 a = 0 ∧ S 7 b = 0 then sumn (fec S a b tick) (S 8 0).toNat else 0
def fhd (S : zS) (q : Nat) (tick : Int) (i : Nat) : Int := if S 7 i = 0 then EC S i q (tick - S 18 i) else 0
def HD (S : zS) (q : Nat) (tick : Int) : Int := sumn (fhd S q tick) (S 5 0).toNat
def fsm (S : zS) (tick : Int) (q : Nat) : Int := if S 7 q = 0 then HD S q (tick - S 18 q) else 0
def SM (S : zS) (tick : Int) : Int := sumn (fsm S tick) (S 5 0).toNat
def fbo (S : zS) (x y a : Nat) (b : Nat) : Int := EC S a b (TM S a x y + TM S b x y)
def fbo2 (S : zS) (x y : Nat) (a : Nat) : Int := sumn (fbo S x y a) (S 5 0).toNat
def BO (S : zS) (x y : Nat) : Int := sumn (fbo2 S x y) (S 5 0).toNat
def WK (S : zS) : Int := sumn (fun q => 1 - S 7 q) (S 5 0).toNat
def alln (f : Nat → Bool) : Nat → Bool
  | 0 => true
  | n + 1 => alln f n && f n
def cntb (f : Nat → Bool) : Nat → Nat
  | 0 => 0
  | n + 1 => cntb f n + (if f n then 1 else 0)
def fnd (f : Nat → Bool) : Nat → Option Nat
  | 0 => none
  | n + 1 => match fnd f n with
    | some k => some k
    | none => if f n then some n else none
def far (S : zS) (x y k : Nat) : Int := TM S (S 20 k).toNat x y + TM S (S 21 k).toNat x y - S 22 k
def fnb (S : zS) (wi : Int) (x y : Nat) (k : Nat) : Bool := decide (-wi ≤ far S x y k ∧ far S x y k ≤ wi)
def nearb (S : zS) (wi : Int) (x y : Nat) : Bool := alln (fnb S wi x y) (S 19 0).toNat
/-- the c-th place of the plate, by depth, then x -/
def nrc (S : zS) (wi : Int) (k : Nat) : Bool := nearb S wi (k % 51) ((S 1 0).toNat + k / 51)
def NP (S : zS) : Nat := 51 * ((S 2 0).toNat + 1)
def PL (S : zS) (wi : Int) : Int := (cntb (nrc S wi) (NP S) : Nat)
def fpl (S : zS) (wi i : Int) (k : Nat) : Bool := nrc S wi k && decide ((cntb (nrc S wi) k : Int) = i)
def PLI (S : zS) (wi i : Int) : Int := match fnd (fpl S wi i) (NP S) with
  | some k => 1000 * ((k % 51 : Nat) : Int) + (((S 1 0).toNat + k / 51 : Nat) : Int)
  | none => -99999
theorem dep_rng {S : zS} {t : Nat} (hI : SI S) (ht : (t : Int) < S 8 0) : S 1 0 ≤ dep S t ∧ dep S t ≤ S 1 0 + S 2 0 ∧ 0 ≤ dep S t ∧ dep S t ≤ 50 := by
  obtain ⟨h0, -, h2, -⟩ := hI
  unfold SI0 at h0
  obtain ⟨b1, b2, -⟩ := h0
  have h := (h2 t ht).2.2.1
  unfold dep
  split
  · omega
  · rename_i q
    have := h q
    omega
theorem LST_rng {S : zS} {a b x n y : Nat} (hI : SI S) (ha : (a : Int) < S 5 0) (hb : (b : Int) < S 5 0) (hx : x + n ≤ 50) (hy : S 1 0 ≤ y ∧ (y : Int) ≤ S 1 0 + S 2 0) : 0 ≤ LST S a b x n y ∧ LST S a b x n y ≤ 4092 := by
  have h : ∀ k, k ≤ n → 0 ≤ fd S a b x y k ∧ fd S a b x y k ≤ 4092 := fun k hk => by
    have h1 := TM_rng (x := x + k) hI.1 hI.2.1 ha (by omega) hy
    have h2 := TM_rng (x := x + k) hI.1 hI.2.1 hb (by omega) hy
    unfold fd
    omega
  exact ⟨minb_ge (fun k hk => (h k hk).1), Int.le_trans (minb_le (k := 0) (Nat.zero_le _)) (h 0 (Nat.zero_le _)).2⟩
theorem ET_rng {S : zS} {a b t : Nat} (hI : SI S) (ha : (a : Int) < S 5 0) (hb : (b : Int) < S 5 0) (ht : (t : Int) < S 8 0) : 0 ≤ ET S a b t ∧ ET S a b t ≤ 4092 := by
  have h1 := dep_rng hI ht
  have h2 := (hI.2.2.1 t ht).2.1
  exact LST_rng hI ha hb (by omega) (by omega)
theorem EC_rng {S : zS} {a b : Nat} {tick : Int} (hI : SI S) : -8000 ≤ EC S a b tick ∧ EC S a b tick ≤ 8000 := by
  obtain ⟨h0, -, h2, -⟩ := hI
  unfold SI0 at h0
  obtain ⟨-, -, -, -, -, b8, -⟩ := h0
  unfold EC
  split
  · have h := sumn_rng (f := fec S a b tick) (m := 1000) (by decide) (n := (S 8 0).toNat) (fun k hk => by
      have h3 := (h2 k (by omega)).2.2.2
      unfold fec
      split <;> omega)
    omega
  · omega
theorem minb_S {f : Nat → Int} {n : Nat} : minb f (n + 1) = if f (n + 1) < minb f n then f (n + 1) else minb f n := rfl
theorem z_ishr1 {p : Program} {l : Launch} {e : Env} {R : Room} {s : State} {m : MethodId} {args : Array Value} {below : List Frame} {meth : Method} {c : Code} {H : Heap} {locs : List Loc} {cells slots pc : Nat} {Q : State → Prop} {ls : Array Slot} {rest : List Value} {cc : ByteArray} {own nm : String} {ws : List Cond} {ml : Nat} {ret : Option FieldType} {D : va_G} {cA : Nat → ClassId} (E : zE p s m args meth c cc own nm ws ml ret D cA) {q : Int} (h0 : 0 ≤ q) (h1 : q < 2147483648) (d : decode cc pc = .ok (.ishr, 1)) (k : W p l e R s m args below meth c H locs cells slots Q (F0 m (pc + 1) ls (.int (i32 (q / 2)) :: rest))) : W p l e R s m args below meth c H locs cells slots Q (F0 m pc ls (.int (i32 1) :: .int (i32 q) :: rest)) := by
  refine lv_ishr E.1 E.2.1 d ?_
  obtain ⟨n, rfl⟩ : ∃ n : Nat, q = (n : Int) := ⟨q.toNat, by omega⟩
  have e1 : i32 (n : Int) >>> (i32 1 &&& 31) = i32 ((n : Int) / 2) := by
    rw [← nI_i, pk_shrN (by omega) _ 1 (by decide +kernel), nI_i]
    congr 1
  rw [e1]
  exact k
theorem sumn_S {f : Nat → Int} {n : Nat} : sumn f (n + 1) = sumn f n + f n := rfl
theorem EC_full {S : zS} {a b n : Nat} {tick : Int} (hn : S 8 0 ≤ n) (hle : (n : Int) ≤ S 8 0) (h : 0 < n → S 7 a = 0 ∧ S 7 b = 0) : sumn (fec S a b tick) n = EC S a b tick := by
  have e : (S 8 0).toNat = n := by omega
  unfold EC
  rw [e]
  split
  · rfl
  · rename_i q
    cases n with
    | zero => rfl
    | succ n => exact absurd (h (Nat.succ_pos n)) q
theorem EC_lost {S : zS} {a b n : Nat} {tick : Int} (hl : ¬ (S 7 a = 0 ∧ S 7 b = 0)) (h : 0 < n → S 7 a = 0 ∧ S 7 b = 0) : sumn (fec S a b tick) n = EC S a b tick := by
  unfold EC
  rw [if_neg hl]
  cases n with
  | zero => rfl
  | succ n => exact absurd (h (Nat.succ_pos n)) hl
theorem alln_S {f : Nat → Bool} {n : Nat} : alln f (n + 1) = (alln f n && f n) := rfl
theorem alln_no {f : Nat → Bool} {n : Nat} (hf : f n = false) : ∀ {N : Nat}, n < N → alln f N = false := by
  intro N
  induction N with
  | zero => exact fun h => absurd h (Nat.not_lt_zero n)
  | succ N ih =>
    intro h
    rw [alln_S]
    rcases Nat.lt_or_ge n N with q | q
    · rw [ih q]
      rfl
    · have e : N = n := by omega
      rw [e, hf, Bool.and_false]
theorem fnd_at {f : Nat → Bool} {n : Nat} (hn : fnd f n = none) (hf : f n = true) : ∀ {N : Nat}, n < N → fnd f N = some n := by
  intro N
  induction N with
  | zero => exact fun h => absurd h (Nat.not_lt_zero n)
  | succ N ih =>
    intro h
    unfold fnd
    rcases Nat.lt_or_ge n N with q | q
    · rw [ih q]
    · have e : N = n := by omega
      rw [e, hn]
      simp [hf]
theorem fnd_S {f : Nat → Bool} {n : Nat} (hn : fnd f n = none) (hf : f n = false) : fnd f (n + 1) = none := by
  unfold fnd
  rw [hn]
  simp [hf]
theorem cntb_S {f : Nat → Bool} {n : Nat} : cntb f (n + 1) = cntb f n + (if f n then 1 else 0) := rfl
theorem cntb_y {f : Nat → Bool} {n : Nat} (h : f n = true) : cntb f (n + 1) = cntb f n + 1 := by rw [cntb_S, h]; rfl
theorem cntb_n {f : Nat → Bool} {n : Nat} (h : f n = false) : cntb f (n + 1) = cntb f n := by rw [cntb_S, h]; rfl
theorem cntb_le {f : Nat → Bool} : ∀ (n : Nat), cntb f n ≤ n := by
  intro n
  induction n with
  | zero => exact Nat.le_refl 0
  | succ n ih =>
    rw [cntb_S]
    split <;> omega
def NRR (S : zS) (wi i : Int) : Int := if i = -2 then PL S wi else PLI S wi i
theorem nrc_at {S : zS} {wi : Int} {r x : Nat} (hx : x < 51) : nrc S wi (51 * r + x) = nearb S wi x ((S 1 0).toNat + r) := by
  unfold nrc
  rw [show (51 * r + x) % 51 = x by omega, show (51 * r + x) / 51 = r by omega]
theorem NRR_hit {S : zS} {wi i : Int} {r x : Nat} (hx : x < 51) (hr : (r : Int) ≤ S 2 0) (hp : 0 ≤ S 2 0) (hf : fnd (fpl S wi i) (51 * r + x) = none) (hn : nearb S wi x ((S 1 0).toNat + r) = true) (hi : (cntb (nrc S wi) (51 * r + x) : Int) = i) : NRR S wi i = 1000 * (x : Int) + (((S 1 0).toNat + r : Nat) : Int) := by
  have h1 : fpl S wi i (51 * r + x) = true := by
    unfold fpl
    rw [nrc_at hx, hn, hi]
    simp
  unfold NRR
  rw [if_neg (by omega)]
  unfold PLI
  rw [fnd_at hf h1 (N := NP S) (by unfold NP; omega)]
  show 1000 * (((51 * r + x) % 51 : Nat) : Int) + (((S 1 0).toNat + (51 * r + x) / 51 : Nat) : Int) = _
  rw [show (51 * r + x) % 51 = x by omega, show (51 * r + x) / 51 = r by omega]
theorem fpl_miss {S : zS} {wi i : Int} {r x : Nat} (hx : x < 51) (h : nearb S wi x ((S 1 0).toNat + r) = false ∨ ¬ (cntb (nrc S wi) (51 * r + x) : Int) = i) : fpl S wi i (51 * r + x) = false := by
  unfold fpl
  rw [nrc_at hx]
  rcases h with h | h
  · rw [h]
    rfl
  · rw [decide_eq_false h, Bool.and_false]
theorem NRR_end {S : zS} {wi i : Int} {r : Nat} (h0 : 0 ≤ S 2 0) (hr : (r : Int) = S 2 0 + 1) (hf : fnd (fpl S wi i) (51 * r) = none) : NRR S wi i = if i = -2 then (cntb (nrc S wi) (51 * r) : Int) else -99999 := by
  have e : NP S = 51 * r := by
    unfold NP
    omega
  unfold NRR PL PLI
  rw [e, hf]
/-- the nearest that a lane has -/
def LN (k : Int) : Int := if k = 0 then 127 else if k = 1 then 32767 else 2147483647
def AS (k z : Int) : Int := if LN k < z then LN k else if z < -LN k - 1 then -LN k - 1 else z
theorem AS_rng (k z : Int) : zr (AS k z) := by
  unfold AS LN zr
  repeat' split
  all_goals omega
end
section
/-! each call: its answer, and the state behind it -/
def okE (S : zS) (q : Int) : Prop := 0 ≤ q ∧ q < S 5 0
def okP (S : zS) (x y : Int) : Prop := 0 ≤ x ∧ x ≤ 50 ∧ S 1 0 ≤ y ∧ y ≤ S 1 0 + S 2 0
theorem okE_d (S : zS) (q : Int) : okE S q ∨ ¬ okE S q := Classical.em _
def fwp (S : zS) (w1 p1 : Int) (t : Nat) : Bool := decide (S 9 t = 2 ∨ (w1 ≤ S 12 t ∧ S 12 t ≤ w1 + p1))
def fBody (S : zS) (w1 p1 u1 v1 : Int) : Int × zS :=
  if ¬ ((0 ≤ w1 ∧ w1 ≤ 20) ∧ (1 ≤ p1 ∧ p1 ≤ 30) ∧ (1 ≤ u1 ∧ u1 ≤ 8) ∧ (1 ≤ v1 ∧ v1 ≤ 8)) then (-2, S)
  else if alln (fwp S w1 p1) (S 8 0).toNat = true then (w1 + p1, zs (zs (zs (zs (zs S 1 0 w1) 2 0 p1) 3 0 u1) 4 0 v1) 17 0 0) else (-3, S)
def fElement (S : zS) (x : Int) : Int × zS :=
  if ¬ (0 ≤ x ∧ x ≤ 50) then (-2, S) else if S 5 0 = 8 then (-4, S)
  else (S 5 0, zs (zs (zs (zs S 6 (S 5 0).toNat x) 7 (S 5 0).toNat 0) 5 0 (S 5 0 + 1)) 17 0 0)
def fLose (S : zS) (q lost : Int) : Int × zS :=
  if ¬ (0 ≤ q ∧ q < S 5 0) then (-1, S) else (WK (zs (zs S 7 q.toNat lost) 17 0 0), zs (zs S 7 q.toNat lost) 17 0 0)
def fTarget (S : zS) (k x z y st : Int) : Int × zS :=
  if ¬ ((0 ≤ k ∧ k ≤ 2) ∧ (k < 2 → 0 ≤ x ∧ x ≤ 50 ∧ S 1 0 ≤ y ∧ y ≤ S 1 0 + S 2 0) ∧ (k = 1 → x ≤ z ∧ z ≤ 50) ∧ (-1000 ≤ st ∧ st ≤ 1000)) then (-2, S)
  else if S 8 0 = 8 then (-4, S)
  else (S 8 0, zs (zs (zs (zs (zs (zs S 9 (S 8 0).toNat k) 10 (S 8 0).toNat (if k = 2 then 0 else x)) 11 (S 8 0).toNat (if k = 2 then 50 else if k = 1 then z else x)) 12 (S 8 0).toNat y) 13 (S 8 0).toNat st) 8 0 (S 8 0 + 1))
def fDrop (S : zS) : Int × zS := if S 8 0 = 0 then (-3, S) else (S 8 0 - 1, zs S 8 0 (S 8 0 - 1))
def fFind (S : zS) (z : Int) : Int × zS := (z, zs S 27 0 (S 27 0 + 1))
def fTaken (S : zS) (t k w1 : Int) : Int × zS :=
  if ¬ (0 ≤ t ∧ t < S 8 0) then (-1, S)
  else if ¬ ((0 ≤ k ∧ k ≤ 2) ∧ (0 ≤ w1 ∧ (k = 0 → w1 ≤ 2) ∧ w1 ≤ 3)) then (-2, S)
  else if S 9 t.toNat < k then fFind S (-13)
  else (if w1 = 0 then S 13 t.toNat else if w1 = 1 then S 10 t.toNat else if w1 = 2 then dep S t.toNat else S 11 t.toNat, S)
def fTime (S : zS) (q x y : Int) : Int × zS :=
  if ¬ (0 ≤ q ∧ q < S 5 0) then (-1, S) else if ¬ (0 ≤ x ∧ x ≤ 50 ∧ S 1 0 ≤ y ∧ y ≤ S 1 0 + S 2 0) then (-2, S) else (TM S q.toNat x.toNat y.toNat, S)
def fBend (S : zS) (q x y : Int) : Int × zS :=
  if ¬ (0 ≤ q ∧ q < S 5 0) then (-1, S) else if ¬ (0 ≤ x ∧ x ≤ 50 ∧ S 1 0 ≤ y ∧ y ≤ S 1 0 + S 2 0) then (-2, S) else (BD S q.toNat x.toNat y.toNat, S)
def fEchoTime (S : zS) (q r t : Int) : Int × zS :=
  if ¬ ((0 ≤ q ∧ q < S 5 0) ∧ (0 ≤ r ∧ r < S 5 0) ∧ (0 ≤ t ∧ t < S 8 0)) then (-1, S) else (ET S q.toNat r.toNat t.toNat, S)
def slf (S : zS) (a b : Nat) (ticks : Int) (d : Nat) : Int := zabs (LST (zs S 4 0 ((d + 1 : Nat) : Int)) a b 0 50 (S 1 0 + S 2 0).toNat - ticks)
def fSlow (S : zS) (q r ticks : Int) : Int × zS :=
  if ¬ ((0 ≤ q ∧ q < S 5 0) ∧ (0 ≤ r ∧ r < S 5 0)) then (-1, S) else if ticks < 0 then (-2, S) else (argb (slf S q.toNat r.toNat ticks) 7 + 1, S)
def fEcho (S : zS) (q r tick : Int) : Int × zS :=
  if ¬ ((0 ≤ q ∧ q < S 5 0) ∧ (0 ≤ r ∧ r < S 5 0)) then (-1, S) else (EC S q.toNat r.toNat tick, S)
def gtf (S : zS) (a b : Nat) (f1 t1 l1 : Int) : Nat → Int
  | 0 => -99999
  | n + 1 => if (f1 ≤ ET S a b n ∧ ET S a b n ≤ t1) ∧ (l1 ≤ EC S a b (ET S a b n) ∨ EC S a b (ET S a b n) ≤ -l1) ∧ (gtf S a b f1 t1 l1 n = -99999 ∨ ET S a b n < gtf S a b f1 t1 l1 n) then ET S a b n else gtf S a b f1 t1 l1 n
def fGate (S : zS) (q r f1 t1 l1 : Int) : Int × zS :=
  if ¬ ((0 ≤ q ∧ q < S 5 0) ∧ (0 ≤ r ∧ r < S 5 0)) then (-1, S) else if ¬ ((0 ≤ f1 ∧ f1 ≤ t1) ∧ t1 ≤ 4000 ∧ 1 ≤ l1) then (-2, S)
  else (gtf S q.toNat r.toNat f1 t1 l1 (S 8 0).toNat, S)
def mst (S : zS) (x y : Nat) : Nat → Int
  | 0 => 0
  | n + 1 => if S 7 n = 0 ∧ mst S x y n < TM S n x y then TM S n x y else mst S x y n
def dly (S : zS) (x y : Nat) (z : Int) : Nat → zS
  | 0 => S
  | n + 1 => zs (dly S x y z n) 18 n (z - TM S n x y)
def fFocus (S : zS) (x y : Int) : Int × zS :=
  if ¬ (0 ≤ x ∧ x ≤ 50 ∧ S 1 0 ≤ y ∧ y ≤ S 1 0 + S 2 0) then (-2, S) else if WK S = 0 then (-3, S)
  else (mst S x.toNat y.toNat (S 5 0).toNat, zs (dly S x.toNat y.toNat (mst S x.toNat y.toNat (S 5 0).toNat) (S 5 0).toNat) 17 0 1)
def fDelay (S : zS) (q : Int) : Int × zS :=
  if ¬ (0 ≤ q ∧ q < S 5 0) then (-1, S) else if S 17 0 = 0 then (-3, S) else if S 7 q.toNat = 0 then (S 18 q.toNat, S) else (-99999, S)
def fHeard (S : zS) (q tick : Int) : Int × zS :=
  if ¬ (0 ≤ q ∧ q < S 5 0) then (-1, S) else if S 17 0 = 0 then (-3, S) else (HD S q.toNat tick, S)
def fSum (S : zS) (tick : Int) : Int × zS := if S 17 0 = 0 then (-3, S) else (SM S tick, S)
def fBoard (S : zS) (x y : Int) : Int × zS :=
  if ¬ (0 ≤ x ∧ x ≤ 50 ∧ S 1 0 ≤ y ∧ y ≤ S 1 0 + S 2 0) then (-2, S) else (BO S x.toNat y.toNat, S)
def fTell (S : zS) (q r tick : Int) : Int × zS :=
  if ¬ ((0 ≤ q ∧ q < S 5 0) ∧ (0 ≤ r ∧ r < S 5 0)) then (-1, S) else if ¬ (0 ≤ tick ∧ tick ≤ 4000) then (-2, S) else if S 19 0 = 6 then (-4, S)
  else (S 19 0 + 1, zs (zs (zs (zs S 20 (S 19 0).toNat q) 21 (S 19 0).toNat r) 22 (S 19 0).toNat tick) 19 0 (S 19 0 + 1))
def fForget (S : zS) : Int × zS := (S 19 0, zs S 19 0 0)
def fPlaces (S : zS) (wi : Int) : Int × zS := if ¬ (0 ≤ wi ∧ wi ≤ 100) then (-2, S) else (NRR S wi (-2), S)
def fPlace (S : zS) (wi i : Int) : Int × zS := if ¬ (0 ≤ wi ∧ wi ≤ 100) then (-2, S) else if i < 0 then (-99999, S) else (NRR S wi i, S)
def zro (S : zS) (q : Nat) : Nat → zS
  | 0 => S
  | n + 1 => zs (zro S q n) 25 (64 * q + n) 0
def fSheet (S : zS) (q k n : Int) : Int × zS :=
  if ¬ (0 ≤ q ∧ q ≤ 5) then fFind S (-12) else if ¬ ((0 ≤ k ∧ k ≤ 2) ∧ n ≤ 64) then (-2, S) else if n < 0 then fFind S (-14)
  else (n, zro (zs (zs S 23 q.toNat n) 24 q.toNat k) q.toNat n.toNat)
def fTear (S : zS) (q : Int) : Int × zS :=
  if ¬ (0 ≤ q ∧ q ≤ 5) then fFind S (-12) else (if S 23 q.toNat < 0 then 1 else 0, zs S 23 q.toNat (-1))
def rcd (S : zS) (q a b : Nat) (f1 : Int) : Nat → zS
  | 0 => S
  | n + 1 => zs (rcd S q a b f1 n) 25 (64 * q + n) (AS (S 24 q) (EC S a b (f1 + n)))
def fRecord (S : zS) (q r1 r2 f1 : Int) : Int × zS :=
  if ¬ (0 ≤ q ∧ q ≤ 5) then fFind S (-12) else if ¬ ((0 ≤ r1 ∧ r1 < S 5 0) ∧ (0 ≤ r2 ∧ r2 < S 5 0)) then (-1, S) else if S 23 q.toNat < 0 then fFind S (-11)
  else (S 23 q.toNat, rcd S q.toNat r1.toNat r2.toNat f1 (S 23 q.toNat).toNat)
def ads (S : zS) (q r : Nat) (sh : Int) : Nat → zS
  | 0 => S
  | n + 1 => if 0 ≤ (n : Int) + sh ∧ (n : Int) + sh < S 23 r then zs (ads S q r sh n) 25 (64 * r + ((n : Int) + sh).toNat) (AS (S 24 r) (ads S q r sh n 25 (64 * r + ((n : Int) + sh).toNat) + S 25 (64 * q + n))) else ads S q r sh n
def adn (S : zS) (r : Nat) (sh : Int) : Nat → Int
  | 0 => 0
  | n + 1 => if 0 ≤ (n : Int) + sh ∧ (n : Int) + sh < S 23 r then adn S r sh n + 1 else adn S r sh n
def fAdd (S : zS) (q r sh : Int) : Int × zS :=
  if ¬ ((0 ≤ q ∧ q ≤ 5) ∧ (0 ≤ r ∧ r ≤ 5)) then fFind S (-12) else if S 23 q.toNat < 0 ∨ S 23 r.toNat < 0 then fFind S (-11)
  else (adn S r.toNat sh (S 23 q.toNat).toNat, ads S q.toNat r.toNat sh (S 23 q.toNat).toNat)
def cps (S : zS) (q i r j : Nat) : Nat → zS
  | 0 => S
  | n + 1 => zs (cps S q i r j n) 25 (64 * r + j + n) (S 25 (64 * q + i + n))
def fCopy (S : zS) (q i r j n : Int) : Int × zS :=
  if ¬ ((0 ≤ q ∧ q ≤ 5) ∧ (0 ≤ r ∧ r ≤ 5)) then fFind S (-12) else if S 23 q.toNat < 0 ∨ S 23 r.toNat < 0 then fFind S (-11)
  else if ¬ S 24 q.toNat = S 24 r.toNat then fFind S (-13) else if n < 0 then fFind S (-14)
  else if ¬ (0 ≤ i ∧ 0 ≤ j ∧ i + n ≤ S 23 q.toNat ∧ j + n ≤ S 23 r.toNat) then fFind S (-12)
  else (n, cps S q.toNat i.toNat r.toNat j.toNat n.toNat)
def fAt (S : zS) (q i : Int) : Int × zS :=
  if ¬ (0 ≤ q ∧ q ≤ 5) then fFind S (-12) else if S 23 q.toNat < 0 then fFind S (-11) else if ¬ (0 ≤ i ∧ i < S 23 q.toNat) then fFind S (-12) else (S 25 (64 * q.toNat + i.toNat), S)
def pkm (S : zS) (q : Nat) : Nat → Int
  | 0 => -1
  | n + 1 => if pkm S q n < zabs (S 25 (64 * q + n)) then zabs (S 25 (64 * q + n)) else pkm S q n
def pkb (S : zS) (q : Nat) : Nat → Int
  | 0 => -99999
  | n + 1 => if pkm S q n < zabs (S 25 (64 * q + n)) then (n : Int) else pkb S q n
def fPeak (S : zS) (q : Int) : Int × zS :=
  if ¬ (0 ≤ q ∧ q ≤ 5) then fFind S (-12) else if S 23 q.toNat < 0 then fFind S (-11) else (pkb S q.toNat (S 23 q.toNat).toNat, S)
def shn (S : zS) : Int := sumn (fun q => if S 23 q < 0 then 0 else 1) 6
def fTotal (S : zS) (w1 : Int) : Int × zS :=
  (if w1 = 0 then S 5 0 else if w1 = 1 then WK S else if w1 = 2 then S 8 0 else if w1 = 3 then S 19 0 else if w1 = 4 then S 27 0 else if w1 = 5 then shn S else if w1 = 6 then S 1 0 + S 2 0 else if w1 = 7 then S 17 0 else -2, S)
/-! the reference's tables over a state that has moved -/
theorem MC_zero {S U : zS} (h : ∀ k : Nat, k < 408 → U 16 k = 0) : MC S U := fun k hk => Or.inl (h k hk)
theorem TM_cong {S T : zS} {q x y : Nat} (h1 : T 1 0 = S 1 0) (h3 : T 3 0 = S 3 0) (h4 : T 4 0 = S 4 0) (h6 : T 6 q = S 6 q) : TM T q x y = TM S q x y ∧ BD T q x y = BD S q x y := by
  have e : tw T q x y = tw S q x y := by
    funext b
    unfold tw
    rw [h1, h3, h4, h6]
  unfold TM BD
  rw [e]
  exact ⟨rfl, rfl⟩
theorem MC_cong {S T U : zS} (h1 : T 1 0 = S 1 0) (h3 : T 3 0 = S 3 0) (h4 : T 4 0 = S 4 0) (h5 : S 5 0 ≤ T 5 0) (h6 : ∀ j : Nat, (j : Int) < S 5 0 → T 6 j = S 6 j) (hC : MC S U) : MC T U := by
  intro k hk
  rcases hC k hk with q | ⟨q1, q2, q3⟩
  · exact Or.inl q
  · refine Or.inr ⟨q1, by omega, fun x hx => ?_⟩
    obtain ⟨e1, e2⟩ := TM_cong (x := x) (y := k % 51) h1 h3 h4 (h6 (k / 51) q2)
    rw [e1, e2]
    exact q3 x hx
theorem dly_k {S : zS} {x y : Nat} {z : Int} {k : Nat} (hk : k ≠ 18) : ∀ n, dly S x y z n k = S k := by
  intro n
  induction n with
  | zero => rfl
  | succ n ih =>
    unfold dly
    rw [zs_ne hk]
    exact ih
theorem zro_k {S : zS} {q k : Nat} (hk : k ≠ 25) : ∀ n, zro S q n k = S k := by
  intro n
  induction n with
  | zero => rfl
  | succ n ih =>
    unfold zro
    rw [zs_ne hk]
    exact ih
theorem rcd_k {S : zS} {q a b k : Nat} {f1 : Int} (hk : k ≠ 25) : ∀ n, rcd S q a b f1 n k = S k := by
  intro n
  induction n with
  | zero => rfl
  | succ n ih =>
    unfold rcd
    rw [zs_ne hk]
    exact ih
theorem ads_k {S : zS} {q r k : Nat} {sh : Int} (hk : k ≠ 25) : ∀ n, ads S q r sh n k = S k := by
  intro n
  induction n with
  | zero => rfl
  | succ n ih =>
    unfold ads
    split
    · rw [zs_ne hk]
      exact ih
    · exact ih
theorem cps_k {S : zS} {q i r j k : Nat} (hk : k ≠ 25) : ∀ n, cps S q i r j n k = S k := by
  intro n
  induction n with
  | zero => rfl
  | succ n ih =>
    unfold cps
    rw [zs_ne hk]
    exact ih
theorem argb_S {f : Nat → Int} {n : Nat} : argb f (n + 1) = if f (n + 1) < minb f n then ((n + 1 : Nat) : Int) else argb f n := rfl
theorem gtf_S {S : zS} {a b n : Nat} {f1 t1 l1 : Int} : gtf S a b f1 t1 l1 (n + 1) = if (f1 ≤ ET S a b n ∧ ET S a b n ≤ t1) ∧ (l1 ≤ EC S a b (ET S a b n) ∨ EC S a b (ET S a b n) ≤ -l1) ∧ (gtf S a b f1 t1 l1 n = -99999 ∨ ET S a b n < gtf S a b f1 t1 l1 n) then ET S a b n else gtf S a b f1 t1 l1 n := rfl
theorem mst_S {S : zS} {x y n : Nat} : mst S x y (n + 1) = if S 7 n = 0 ∧ mst S x y n < TM S n x y then TM S n x y else mst S x y n := rfl
theorem pkm_S {S : zS} {q n : Nat} : pkm S q (n + 1) = if pkm S q n < zabs (S 25 (64 * q + n)) then zabs (S 25 (64 * q + n)) else pkm S q n := rfl
theorem pkb_S {S : zS} {q n : Nat} : pkb S q (n + 1) = if pkm S q n < zabs (S 25 (64 * q + n)) then (n : Int) else pkb S q n := rfl
theorem ads_S {S : zS} {q r n : Nat} {sh : Int} : ads S q r sh (n + 1) = if 0 ≤ (n : Int) + sh ∧ (n : Int) + sh < S 23 r then zs (ads S q r sh n) 25 (64 * r + ((n : Int) + sh).toNat) (AS (S 24 r) (ads S q r sh n 25 (64 * r + ((n : Int) + sh).toNat) + S 25 (64 * q + n))) else ads S q r sh n := rfl
theorem adn_S {S : zS} {r n : Nat} {sh : Int} : adn S r sh (n + 1) = if 0 ≤ (n : Int) + sh ∧ (n : Int) + sh < S 23 r then adn S r sh n + 1 else adn S r sh n := rfl
theorem adn_rng {S : zS} {r : Nat} {sh : Int} : ∀ n : Nat, 0 ≤ adn S r sh n ∧ adn S r sh n ≤ n := by
  intro n
  induction n with
  | zero => exact ⟨Int.le_refl _, Int.le_refl _⟩
  | succ n ih =>
    rw [adn_S]
    split <;> omega
theorem gtf_rng {S : zS} {a b : Nat} {f1 t1 l1 : Int} (hI : SI S) (ha : (a : Int) < S 5 0) (hb : (b : Int) < S 5 0) : ∀ n : Nat, (n : Int) ≤ S 8 0 → -99999 ≤ gtf S a b f1 t1 l1 n ∧ gtf S a b f1 t1 l1 n ≤ 4092 := by
  intro n
  induction n with
  | zero => exact fun _ => ⟨by simp [gtf], by simp [gtf]⟩
  | succ n ih =>
    intro h
    have h1 := ET_rng (t := n) hI ha hb (by omega)
    have h2 := ih (by omega)
    rw [gtf_S]
    split <;> omega
theorem mst_rng {S : zS} {x y : Nat} (hI : SI S) (hx : x ≤ 50) (hy : S 1 0 ≤ (y : Int) ∧ (y : Int) ≤ S 1 0 + S 2 0) : ∀ n : Nat, (n : Int) ≤ S 5 0 → 0 ≤ mst S x y n ∧ mst S x y n ≤ 2046 := by
  intro n
  induction n with
  | zero => exact fun _ => ⟨by simp [mst], by simp [mst]⟩
  | succ n ih =>
    intro h
    have h1 := TM_rng (e := n) hI.1 hI.2.1 (by omega) hx hy
    have h2 := ih (by omega)
    rw [mst_S]
    split <;> omega
theorem pkm_rng {S : zS} {q : Nat} (hI : SI S) : ∀ n : Nat, -1 ≤ pkm S q n ∧ pkm S q n ≤ 2147483648 := by
  intro n
  induction n with
  | zero => exact ⟨by simp [pkm], by simp [pkm]⟩
  | succ n ih =>
    have h1 := hI.2.2.2.2.1.2 (64 * q + n)
    unfold zr at h1
    rw [pkm_S]
    unfold zabs
    repeat' split
    all_goals omega
theorem WK_rng {S : zS} (hI : SI0 S) : 0 ≤ WK S ∧ WK S ≤ 8 := by
  unfold SI0 at hI
  obtain ⟨-, -, -, -, b5, -, -, -, b7⟩ := hI
  have h : ∀ n : Nat, 0 ≤ sumn (fun q => 1 - S 7 q) n ∧ sumn (fun q => 1 - S 7 q) n ≤ n := by
    intro n
    induction n with
    | zero => exact ⟨Int.le_refl _, Int.le_refl _⟩
    | succ n ih =>
      have := b7 n
      rw [sumn_S]
      omega
  have := h (S 5 0).toNat
  unfold WK
  omega
end
section
def zL0 : zL := fun _ _ => none
theorem zX_none {D : va_G} {B0 : Nat} {H0 H : Heap} {locs : List Loc} (hB : B0 ≤ H.size) (hS : va_S (fun q => B0 ≤ q) H0 H locs) : zX D B0 zL0 H0 H locs := ⟨⟨fun _ _ _ h => (by cases h), fun _ _ _ _ _ _ h => (by cases h), hB⟩, hS⟩
theorem zX.same {D : va_G} {B0 : Nat} {L : zL} {H0 H : Heap} {locs locs' : List Loc} (X : zX D B0 L H0 H locs) (hS : va_S (fun q => B0 ≤ q) H0 H locs') : zX D B0 L H0 H locs' := ⟨X.1, hS⟩
abbrev rX5_outside : Room := { frames := 0, cells := 0, slots := 0, locals := 0 }
set_option maxHeartbeats 4000000 in
set_option maxRecDepth 100000 in
theorem c_outside (l : Launch) (D : va_G) (cA : Nat → ClassId) (B0 : Nat) (H0 : Heap) (x1 x2 x3 : Int) (hx1 : zr x1) (hx2 : zr x2) (hx3 : zr x3) : zM l yX5_outside wsX5_outside rX5_outside [.int (i32 x1), .int (i32 x2), .int (i32 x3)] D cA B0 (fun H => H = H0) (fun v H => H = H0 ∧ ∃ z : Int, v = some (.int (i32 z)) ∧ (z = 0 ∧ (x2 ≤ x1 ∧ x1 ≤ x3) ∨ z = 1 ∧ ¬ (x2 ≤ x1 ∧ x1 ≤ x3))) := by
  refine z_met (cc := cX5_outside) (maxL := 3) (ret := (some .boolean)) (by decide) rfl (Nat.le_of_ble_eq_true rfl) ?_
  intro p e s m args below meth c ls Q hQ E hP hB hS hl
  have hl : lv_has ls 3 [(0, .int (i32 x1)), (1, .int (i32 x2)), (2, .int (i32 x3))] := hl
  have X : zX D B0 zL0 s.heap s.heap [] := zX_none hB hS
  unfold zr at hx1 hx2 hx3
  refine lv_iload_n E.1 E.2.1 dX5_outside_0 rfl (lv_at hl 0 rfl) ?_
  refine lv_iload_n E.1 E.2.1 dX5_outside_1 rfl (lv_at hl 1 rfl) ?_
  refine z_clt E 10 ⟨by omega, by omega⟩ ⟨by omega, by omega⟩ dX5_outside_2 (by decide) (fun h2_1 => ?_) (fun h2_1 => ?_)
  · refine z_iconst E dX5_outside_10 ?_
    refine lv_goto (tgt := 15) E.1 E.2.1 dX5_outside_11 (by decide) ?_
    exact z_retz E X hQ (by omega) (⟨hP, 1, rfl, by omega⟩) dX5_outside_15
  · refine lv_iload_n E.1 E.2.1 dX5_outside_5 rfl (lv_at hl 0 rfl) ?_
    refine lv_iload_n E.1 E.2.1 dX5_outside_6 rfl (lv_at hl 2 rfl) ?_
    refine z_cle E 14 ⟨by omega, by omega⟩ ⟨by omega, by omega⟩ dX5_outside_7 (by decide) (fun h7_2 => ?_) (fun h7_2 => ?_)
    · refine z_iconst E dX5_outside_14 ?_
      exact z_retz E X hQ (by omega) (⟨hP, 0, rfl, by omega⟩) dX5_outside_15
    · refine z_iconst E dX5_outside_10 ?_
      refine lv_goto (tgt := 15) E.1 E.2.1 dX5_outside_11 (by decide) ?_
      exact z_retz E X hQ (by omega) (⟨hP, 1, rfl, by omega⟩) dX5_outside_15

abbrev rX6_in : Room := { frames := 0, cells := 0, slots := 0, locals := 0 }
set_option maxHeartbeats 4000000 in
set_option maxRecDepth 100000 in
theorem c_in (l : Launch) (D : va_G) (cA : Nat → ClassId) (B0 : Nat) (H0 : Heap) (x1 x2 x3 : Int) (hx1 : zrl x1) (hx2 : zrl x2) (hx3 : zrl x3) : zM l yX6_in wsX6_in rX6_in [.long (i64 x1), .long (i64 x2), .long (i64 x3)] D cA B0 (fun H => H = H0) (fun v H => H = H0 ∧ ∃ z : Int, v = some (.int (i32 z)) ∧ (z = 1 ∧ (x2 ≤ x1 ∧ x1 ≤ x3) ∨ z = 0 ∧ ¬ (x2 ≤ x1 ∧ x1 ≤ x3))) := by
  refine z_met (cc := cX6_in) (maxL := 6) (ret := (some .boolean)) (by decide) rfl (Nat.le_of_ble_eq_true rfl) ?_
  intro p e s m args below meth c ls Q hQ E hP hB hS hl
  have hl : lv_has ls 6 [(0, .long (i64 x1)), (2, .long (i64 x2)), (4, .long (i64 x3))] := hl
  have X : zX D B0 zL0 s.heap s.heap [] := zX_none hB hS
  unfold zrl at hx1 hx2 hx3
  refine lv_lload_n E.1 E.2.1 dX6_in_0 rfl (lv_at hl 0 rfl) ?_
  refine lv_lload_n E.1 E.2.1 dX6_in_1 rfl (lv_at hl 1 rfl) ?_
  refine z_lcmp E ⟨by omega, by omega⟩ ⟨by omega, by omega⟩ dX6_in_2 (fun z_1 hrz_1 hlz_1 hez_1 => ?_)
  unfold zr at hrz_1
  refine z_flt E 17 ⟨by omega, by omega⟩ dX6_in_3 (by decide) (fun h3_2 => ?_) (fun h3_2 => ?_)
  · refine z_iconst E dX6_in_17 ?_
    exact z_retz E X hQ (by omega) (⟨hP, 0, rfl, by omega⟩) dX6_in_18
  · refine lv_lload_n E.1 E.2.1 dX6_in_6 rfl (lv_at hl 0 rfl) ?_
    refine lv_lload E.1 E.2.1 dX6_in_7 (lv_at hl 2 rfl) ?_
    refine z_lcmp E ⟨by omega, by omega⟩ ⟨by omega, by omega⟩ dX6_in_9 (fun z_3 hrz_3 hlz_3 hez_3 => ?_)
    unfold zr at hrz_3
    refine z_fgt E 17 ⟨by omega, by omega⟩ dX6_in_10 (by decide) (fun h10_4 => ?_) (fun h10_4 => ?_)
    · refine z_iconst E dX6_in_17 ?_
      exact z_retz E X hQ (by omega) (⟨hP, 0, rfl, by omega⟩) dX6_in_18
    · refine z_iconst E dX6_in_13 ?_
      refine lv_goto (tgt := 18) E.1 E.2.1 dX6_in_14 (by decide) ?_
      exact z_retz E X hQ (by omega) (⟨hP, 1, rfl, by omega⟩) dX6_in_18

abbrev rX5_noSheet : Room := { frames := 1, cells := 0, slots := 0, locals := 22 }
set_option maxHeartbeats 4000000 in
set_option maxRecDepth 100000 in
theorem c_noSheet (l : Launch) (D : va_G) (cA : Nat → ClassId) (B0 : Nat) (H0 : Heap) (x1 : Int) (hx1 : zr x1) : zM l yX5_noSheet wsX5_noSheet rX5_noSheet [.int (i32 x1)] D cA B0 (fun H => H = H0) (fun v H => H = H0 ∧ ∃ z : Int, v = some (.int (i32 z)) ∧ (z = 0 ∧ (0 ≤ x1 ∧ x1 ≤ 5) ∨ z = 1 ∧ ¬ (0 ≤ x1 ∧ x1 ≤ 5))) := by
  refine z_met (cc := cX5_noSheet) (maxL := 1) (ret := (some .boolean)) (by decide) rfl (Nat.le_of_ble_eq_true rfl) ?_
  intro p e s m args below meth c ls Q hQ E hP hB hS hl
  have hl : lv_has ls 1 [(0, .int (i32 x1))] := hl
  have X : zX D B0 zL0 s.heap s.heap [] := zX_none hB hS
  unfold zr at hx1
  refine lv_iload_n E.1 E.2.1 dX5_noSheet_0 rfl (lv_at hl 0 rfl) ?_
  refine z_iconst E dX5_noSheet_1 ?_
  refine z_iconst E dX5_noSheet_2 ?_
  refine z_callJ (As := [.int (i32 x1), .int (i32 0), .int (i32 5)]) (rest := []) (n := 3) E X (c_outside l D cA B0 _ x1 0 5 ⟨by omega, by omega⟩ ⟨by omega, by omega⟩ ⟨by omega, by omega⟩) gX5_noSheet_X5_outside rfl (by decide +kernel) ⟨by decide, by decide⟩ rfl hl.1 rfl (Nat.le_of_ble_eq_true rfl) dX5_noSheet_3 ⟨by decide, by decide⟩ rfl 0 0 ⟨rfl, rfl⟩ (fun v H locs hv hS_1 => ?_)
  obtain ⟨hH, z_2, rfl, ez_2⟩ := hv
  subst hH
  replace X := X.same hS_1
  exact z_retz E X hQ (by omega) (⟨hP, z_2, rfl, by omega⟩) dX5_noSheet_6

abbrev rX6_isSheet : Room := { frames := 1, cells := 0, slots := 0, locals := 25 }
set_option maxHeartbeats 4000000 in
set_option maxRecDepth 100000 in
theorem c_isSheet (l : Launch) (D : va_G) (cA : Nat → ClassId) (B0 : Nat) (H0 : Heap) (x1 : Int) (hx1 : zr x1) : zM l yX6_isSheet wsX6_isSheet rX6_isSheet [.int (i32 x1)] D cA B0 (fun H => H = H0) (fun v H => H = H0 ∧ ∃ z : Int, v = some (.int (i32 z)) ∧ (z = 1 ∧ (0 ≤ x1 ∧ x1 ≤ 5) ∨ z = 0 ∧ ¬ (0 ≤ x1 ∧ x1 ≤ 5))) := by
  refine z_met (cc := cX6_isSheet) (maxL := 1) (ret := (some .boolean)) (by decide) rfl (Nat.le_of_ble_eq_true rfl) ?_
  intro p e s m args below meth c ls Q hQ E hP hB hS hl
  have hl : lv_has ls 1 [(0, .int (i32 x1))] := hl
  have X : zX D B0 zL0 s.heap s.heap [] := zX_none hB hS
  unfold zr at hx1
  refine lv_iload_n E.1 E.2.1 dX6_isSheet_0 rfl (lv_at hl 0 rfl) ?_
  refine z_i2l E ⟨by omega, by omega⟩ dX6_isSheet_1 ?_
  refine z_lconst (z := 0) E dX6_isSheet_2 (by decide +kernel) ?_
  refine z_ldc2 (v := 5) (z := 5) E (by decide +kernel) (by decide +kernel) dX6_isSheet_3 ?_
  refine z_callJ (As := [.long (i64 x1), .long (i64 0), .long (i64 5)]) (rest := []) (n := 3) E X (c_in l D cA B0 _ x1 0 5 ⟨by omega, by omega⟩ ⟨by omega, by omega⟩ ⟨by omega, by omega⟩) gX6_isSheet_X6_in rfl (by decide +kernel) ⟨by decide, by decide⟩ rfl hl.1 rfl (Nat.le_of_ble_eq_true rfl) dX6_isSheet_6 ⟨by decide, by decide⟩ rfl 0 0 ⟨rfl, rfl⟩ (fun v H locs hv hS_1 => ?_)
  obtain ⟨hH, z_2, rfl, ez_2⟩ := hv
  subst hH
  replace X := X.same hS_1
  exact z_retz E X hQ (by omega) (⟨hP, z_2, rfl, by omega⟩) dX6_isSheet_9

abbrev rX6_floor : Room := { frames := 0, cells := 0, slots := 0, locals := 0 }
set_option maxHeartbeats 4000000 in
set_option maxRecDepth 100000 in
theorem m_floor (l : Launch) (D : va_G) (cA : Nat → ClassId) (B0 : Nat) (C : zL) (am : Nat → Nat) (S U : zS) : zM l yX6_floor wsX6_floor rX6_floor [.ref (am 0)] D cA B0 (zW D B0 (zj C (layM cA am S U))) (fun v H => v = some (.int (i32 (S 1 0 + S 2 0))) ∧ zW D B0 (zj C (layM cA am S U)) H) := by
  refine z_met (cc := cX6_floor) (maxL := 1) (ret := (some .int)) (by decide) rfl (Nat.le_of_ble_eq_true rfl) ?_
  intro p e s m args below meth c ls Q hQ E hP hB hS hl
  have hl : lv_has ls 1 [(0, .ref (am 0))] := hl
  have iX6 : ∀ w ∈ u_ws RX6 TX6 28, w ∈ wsX6_floor := by decide +kernel
  have X : zX D B0 (zj C (layM cA am S U)) s.heap s.heap [] := ⟨hP, hS⟩
  refine lv_aload_n E.1 E.2.1 dX6_floor_0 rfl (lv_at hl 0 rfl) ?_
  refine z_get E X (lM_0 C cA am S U) rfl iX6 1 (by decide) (by decide +kernel) (v := .int (i32 (S 1 0))) rfl dX6_floor_1 ?_
  refine lv_aload_n E.1 E.2.1 dX6_floor_4 rfl (lv_at hl 0 rfl) ?_
  refine z_get E X (lM_0 C cA am S U) rfl iX6 2 (by decide) (by decide +kernel) (v := .int (i32 (S 2 0))) rfl dX6_floor_5 ?_
  refine z_iadd E dX6_floor_8 ?_
  exact z_ret E X hQ (⟨rfl, X.1⟩) dX6_floor_9

abbrev rX6_isPlace : Room := { frames := 1, cells := 0, slots := 0, locals := 25 }
set_option maxHeartbeats 4000000 in
set_option maxRecDepth 100000 in
theorem m_isPlace (l : Launch) (D : va_G) (cA : Nat → ClassId) (B0 : Nat) (C : zL) (am : Nat → Nat) (S U : zS) (hI : SI0 S) (x y : Int) (hx : zr x) (hy : zr y) : zM l yX6_isPlace wsX6_isPlace rX6_isPlace [.ref (am 0), .int (i32 x), .int (i32 y)] D cA B0 (zW D B0 (zj C (layM cA am S U))) (fun v H => (∃ z : Int, v = some (.int (i32 z)) ∧ (z = 1 ∧ (0 ≤ x ∧ x ≤ 50 ∧ S 1 0 ≤ y ∧ y ≤ S 1 0 + S 2 0) ∨ z = 0 ∧ ¬ (0 ≤ x ∧ x ≤ 50 ∧ S 1 0 ≤ y ∧ y ≤ S 1 0 + S 2 0))) ∧ zW D B0 (zj C (layM cA am S U)) H) := by
  refine z_met (cc := cX6_isPlace) (maxL := 3) (ret := (some .boolean)) (by decide) rfl (Nat.le_of_ble_eq_true rfl) ?_
  intro p e s m args below meth c ls Q hQ E hP hB hS hl
  have hl : lv_has ls 3 [(0, .ref (am 0)), (1, .int (i32 x)), (2, .int (i32 y))] := hl
  have iX6 : ∀ w ∈ u_ws RX6 TX6 28, w ∈ wsX6_isPlace := by decide +kernel
  have X : zX D B0 (zj C (layM cA am S U)) s.heap s.heap [] := ⟨hP, hS⟩
  have hI0 := hI
  unfold SI0 at hI0
  obtain ⟨b1, b2, b3, b4, b5, b8, b17, b19, b7⟩ := hI0
  unfold zr at hx hy
  refine lv_iload_n E.1 E.2.1 dX6_isPlace_0 rfl (lv_at hl 1 rfl) ?_
  refine z_i2l E ⟨by omega, by omega⟩ dX6_isPlace_1 ?_
  refine z_lconst (z := 0) E dX6_isPlace_2 (by decide +kernel) ?_
  refine z_ldc2 (v := 50) (z := 50) E (by decide +kernel) (by decide +kernel) dX6_isPlace_3 ?_
  refine z_callJ (As := [.long (i64 x), .long (i64 0), .long (i64 50)]) (rest := []) (n := 3) E X (c_in l D cA B0 _ x 0 50 ⟨by omega, by omega⟩ ⟨by omega, by omega⟩ ⟨by omega, by omega⟩) gX6_isPlace_X6_in rfl (by decide +kernel) ⟨by decide, by decide⟩ rfl hl.1 rfl (Nat.le_of_ble_eq_true rfl) dX6_isPlace_6 ⟨by decide, by decide⟩ rfl 0 0 ⟨rfl, rfl⟩ (fun v H locs hv hS_1 => ?_)
  obtain ⟨hH, z_2, rfl, ez_2⟩ := hv
  subst hH
  replace X := X.same hS_1
  refine z_feq E 34 ⟨by omega, by omega⟩ dX6_isPlace_9 (by decide) (fun h9_3 => ?_) (fun h9_3 => ?_)
  · refine z_iconst E dX6_isPlace_34 ?_
    exact z_retz E X hQ (by omega) (⟨⟨0, rfl, by omega⟩, X.1⟩) dX6_isPlace_35
  · refine lv_iload_n E.1 E.2.1 dX6_isPlace_12 rfl (lv_at hl 2 rfl) ?_
    refine z_i2l E ⟨by omega, by omega⟩ dX6_isPlace_13 ?_
    refine lv_aload_n E.1 E.2.1 dX6_isPlace_14 rfl (lv_at hl 0 rfl) ?_
    refine z_get E X (lM_0 C cA am S U) rfl iX6 1 (by decide) (by decide +kernel) (v := .int (i32 (S 1 0))) rfl dX6_isPlace_15 ?_
    refine z_i2l E ⟨by omega, by omega⟩ dX6_isPlace_18 ?_
    refine lv_aload_n E.1 E.2.1 dX6_isPlace_19 rfl (lv_at hl 0 rfl) ?_
    refine z_callV (As := []) (rest := [.long (i64 (S 1 0)), .long (i64 y)]) (n := 0) E X (lM_0 C cA am S U) rfl (m_floor l D cA B0 C am S U ) gX6_isPlace_X6_floor rfl (by decide +kernel) ⟨by decide, by decide⟩ rfl hl.1 rfl (Nat.le_of_ble_eq_true rfl) dX6_isPlace_20 ⟨by decide, by decide⟩ X.1 0 0 ⟨rfl, rfl⟩ (fun v H locs hv hS_4 => ?_)
    obtain ⟨rfl, hw⟩ := hv
    replace X : zX D B0 (zj C (layM cA am S U)) s.heap H locs := ⟨hw, hS_4⟩
    refine z_i2l E ⟨by omega, by omega⟩ dX6_isPlace_23 ?_
    refine z_callJ (As := [.long (i64 y), .long (i64 (S 1 0)), .long (i64 ((S 1 0) + (S 2 0)))]) (rest := []) (n := 3) E X (c_in l D cA B0 _ y (S 1 0) ((S 1 0) + (S 2 0)) ⟨by omega, by omega⟩ ⟨by omega, by omega⟩ ⟨by omega, by omega⟩) gX6_isPlace_X6_in rfl (by decide +kernel) ⟨by decide, by decide⟩ rfl hl.1 rfl (Nat.le_of_ble_eq_true rfl) dX6_isPlace_24 ⟨by decide, by decide⟩ rfl 0 0 ⟨rfl, rfl⟩ (fun v H locs hv hS_5 => ?_)
    obtain ⟨hH, z_6, rfl, ez_6⟩ := hv
    subst hH
    replace X := X.same hS_5
    refine z_feq E 34 ⟨by omega, by omega⟩ dX6_isPlace_27 (by decide) (fun h27_7 => ?_) (fun h27_7 => ?_)
    · refine z_iconst E dX6_isPlace_34 ?_
      exact z_retz E X hQ (by omega) (⟨⟨0, rfl, by omega⟩, X.1⟩) dX6_isPlace_35
    · refine z_iconst E dX6_isPlace_30 ?_
      refine lv_goto (tgt := 35) E.1 E.2.1 dX6_isPlace_31 (by decide) ?_
      exact z_retz E X hQ (by omega) (⟨⟨1, rfl, by omega⟩, X.1⟩) dX6_isPlace_35

abbrev rX6_noElement : Room := { frames := 1, cells := 0, slots := 0, locals := 25 }
set_option maxHeartbeats 4000000 in
set_option maxRecDepth 100000 in
theorem m_noElement (l : Launch) (D : va_G) (cA : Nat → ClassId) (B0 : Nat) (C : zL) (am : Nat → Nat) (S U : zS) (hI : SI0 S) (x : Int) (hx : zr x) : zM l yX6_noElement wsX6_noElement rX6_noElement [.ref (am 0), .int (i32 x)] D cA B0 (zW D B0 (zj C (layM cA am S U))) (fun v H => (∃ z : Int, v = some (.int (i32 z)) ∧ (z = 0 ∧ (0 ≤ x ∧ x < S 5 0) ∨ z = 1 ∧ ¬ (0 ≤ x ∧ x < S 5 0))) ∧ zW D B0 (zj C (layM cA am S U)) H) := by
  refine z_met (cc := cX6_noElement) (maxL := 2) (ret := (some .boolean)) (by decide) rfl (Nat.le_of_ble_eq_true rfl) ?_
  intro p e s m args below meth c ls Q hQ E hP hB hS hl
  have hl : lv_has ls 2 [(0, .ref (am 0)), (1, .int (i32 x))] := hl
  have iX6 : ∀ w ∈ u_ws RX6 TX6 28, w ∈ wsX6_noElement := by decide +kernel
  have X : zX D B0 (zj C (layM cA am S U)) s.heap s.heap [] := ⟨hP, hS⟩
  have hI0 := hI
  unfold SI0 at hI0
  obtain ⟨b1, b2, b3, b4, b5, b8, b17, b19, b7⟩ := hI0
  unfold zr at hx
  refine lv_iload_n E.1 E.2.1 dX6_noElement_0 rfl (lv_at hl 1 rfl) ?_
  refine z_i2l E ⟨by omega, by omega⟩ dX6_noElement_1 ?_
  refine z_lconst (z := 0) E dX6_noElement_2 (by decide +kernel) ?_
  refine lv_aload_n E.1 E.2.1 dX6_noElement_3 rfl (lv_at hl 0 rfl) ?_
  refine z_get E X (lM_0 C cA am S U) rfl iX6 5 (by decide) (by decide +kernel) (v := .int (i32 (S 5 0))) rfl dX6_noElement_4 ?_
  refine z_iconst E dX6_noElement_7 ?_
  refine z_isub E dX6_noElement_8 ?_
  refine z_i2l E ⟨by omega, by omega⟩ dX6_noElement_9 ?_
  refine z_callJ (As := [.long (i64 x), .long (i64 0), .long (i64 ((S 5 0) - 1))]) (rest := []) (n := 3) E X (c_in l D cA B0 _ x 0 ((S 5 0) - 1) ⟨by omega, by omega⟩ ⟨by omega, by omega⟩ ⟨by omega, by omega⟩) gX6_noElement_X6_in rfl (by decide +kernel) ⟨by decide, by decide⟩ rfl hl.1 rfl (Nat.le_of_ble_eq_true rfl) dX6_noElement_10 ⟨by decide, by decide⟩ rfl 0 0 ⟨rfl, rfl⟩ (fun v H locs hv hS_1 => ?_)
  obtain ⟨hH, z_2, rfl, ez_2⟩ := hv
  subst hH
  replace X := X.same hS_1
  refine z_fne E 20 ⟨by omega, by omega⟩ dX6_noElement_13 (by decide) (fun h13_3 => ?_) (fun h13_3 => ?_)
  · refine z_iconst E dX6_noElement_20 ?_
    exact z_retz E X hQ (by omega) (⟨⟨0, rfl, by omega⟩, X.1⟩) dX6_noElement_21
  · refine z_iconst E dX6_noElement_16 ?_
    refine lv_goto (tgt := 21) E.1 E.2.1 dX6_noElement_17 (by decide) ?_
    exact z_retz E X hQ (by omega) (⟨⟨1, rfl, by omega⟩, X.1⟩) dX6_noElement_21

abbrev rX6_finds : Room := { frames := 0, cells := 0, slots := 0, locals := 0 }
set_option maxHeartbeats 4000000 in
set_option maxRecDepth 100000 in
theorem m_finds (l : Launch) (D : va_G) (cA : Nat → ClassId) (B0 : Nat) (C : zL) (am : Nat → Nat) (S U : zS) (x : Int) : zM l yX6_finds wsX6_finds rX6_finds [.ref (am 0), .int (i32 x)] D cA B0 (zW D B0 (zj C (layM cA am S U))) (fun v H => v = some (.int (i32 x)) ∧ zW D B0 (zj C (layM cA am (zs S 27 0 (S 27 0 + 1)) U)) H) := by
  refine z_met (cc := cX6_finds) (maxL := 2) (ret := (some .int)) (by decide) rfl (Nat.le_of_ble_eq_true rfl) ?_
  intro p e s m args below meth c ls Q hQ E hP hB hS hl
  have hl : lv_has ls 2 [(0, .ref (am 0)), (1, .int (i32 x))] := hl
  have iX6 : ∀ w ∈ u_ws RX6 TX6 28, w ∈ wsX6_finds := by decide +kernel
  have X : zX D B0 (zj C (layM cA am S U)) s.heap s.heap [] := ⟨hP, hS⟩
  refine lv_aload_n E.1 E.2.1 dX6_finds_0 rfl (lv_at hl 0 rfl) ?_
  refine lv_dup E.1 E.2.1 dX6_finds_1 rfl ?_
  refine z_get E X (lM_0 C cA am S U) rfl iX6 27 (by decide) (by decide +kernel) (v := .int (i32 (S 27 0))) rfl dX6_finds_2 ?_
  refine z_iconst E dX6_finds_5 ?_
  refine z_iadd E dX6_finds_6 ?_
  refine z_put E X (lM_0 C cA am S U) rfl iX6 tyX6 tyX6_ok nmX6 27 (by decide) (by decide +kernel) rfl rfl rfl (Nat.le_of_ble_eq_true rfl) dX6_finds_7 (fun H locs X => ?_)
  have X := mp_27 X
  refine lv_iload_n E.1 E.2.1 dX6_finds_10 rfl (lv_at hl 1 rfl) ?_
  exact z_ret E X hQ (⟨rfl, X.1⟩) dX6_finds_11

abbrev rX6_working : Room := { frames := 0, cells := 0, slots := 0, locals := 0 }
set_option maxHeartbeats 4000000 in
set_option maxRecDepth 100000 in
theorem m_working (l : Launch) (D : va_G) (cA : Nat → ClassId) (B0 : Nat) (C : zL) (am : Nat → Nat) (S U : zS) (hI : SI0 S) : zM l yX6_working wsX6_working rX6_working [.ref (am 0)] D cA B0 (zW D B0 (zj C (layM cA am S U))) (fun v H => v = some (.int (i32 (sumn (fun e => 1 - S 7 e) (S 5 0).toNat))) ∧ zW D B0 (zj C (layM cA am S U)) H) := by
  refine z_met (cc := cX6_working) (maxL := 3) (ret := (some .int)) (by decide) rfl (Nat.le_of_ble_eq_true rfl) ?_
  intro p e s m args below meth c ls Q hQ E hP hB hS hl
  have hl : lv_has ls 3 [(0, .ref (am 0))] := hl
  have iX6 : ∀ w ∈ u_ws RX6 TX6 28, w ∈ wsX6_working := by decide +kernel
  have X : zX D B0 (zj C (layM cA am S U)) s.heap s.heap [] := ⟨hP, hS⟩
  have hI0 := hI
  unfold SI0 at hI0
  obtain ⟨b1, b2, b3, b4, b5, b8, b17, b19, b7⟩ := hI0
  refine z_iconst E dX6_working_0 ?_
  refine lv_istore_n (lv' := [(1, .int (i32 0)), (0, .ref (am 0))]) E.1 E.2.1 dX6_working_1 rfl hl (by decide) rfl (fun ls hl => ?_)
  refine z_iconst E dX6_working_2 ?_
  refine lv_istore_n (lv' := [(2, .int (i32 0)), (1, .int (i32 0)), (0, .ref (am 0))]) E.1 E.2.1 dX6_working_3 rfl hl (by decide) rfl (fun ls hl => ?_)
  have key4 : ∀ (N : Nat) (n : Nat) (H : Heap) (locs : List Loc) (ls : Array Slot), ((S 5 0 - (n : Int)).toNat) < N → ((n : Int) ≤ S 5 0) → zX D B0 (zj C (layM cA am S U)) s.heap H locs → lv_has ls 3 [(0, .ref (am 0)), (1, .int (i32 (sumn (fun e => 1 - S 7 e) n))), (2, .int (i32 (n : Int)))] → W p l e rX6_working s m args below meth c H locs 0 0 Q (F0 m 4 ls []) := by
    intro N
    induction N with
    | zero => intros; omega
    | succ N ih4 =>
      intro n H locs ls hN hn X hl
      refine lv_iload_n E.1 E.2.1 dX6_working_4 rfl (lv_at hl 2 rfl) ?_
      refine lv_aload_n E.1 E.2.1 dX6_working_5 rfl (lv_at hl 0 rfl) ?_
      refine z_get E X (lM_0 C cA am S U) rfl iX6 5 (by decide) (by decide +kernel) (v := .int (i32 (S 5 0))) rfl dX6_working_6 ?_
      refine z_cge E 35 ⟨by omega, by omega⟩ ⟨by omega, by omega⟩ dX6_working_9 (by decide) (fun h9_1 => ?_) (fun h9_1 => ?_)
      · have en : S 5 0 = (n : Int) := by omega
        refine lv_iload_n E.1 E.2.1 dX6_working_35 rfl (lv_at hl 1 rfl) ?_
        exact z_ret E X hQ (⟨by rw [show (S 5 0).toNat = n by omega], X.1⟩) dX6_working_36
      · have b7n := b7 n
        refine lv_iload_n E.1 E.2.1 dX6_working_12 rfl (lv_at hl 1 rfl) ?_
        refine lv_aload_n E.1 E.2.1 dX6_working_13 rfl (lv_at hl 0 rfl) ?_
        refine z_get E X (lM_0 C cA am S U) rfl iX6 7 (by decide) (by decide +kernel) (v := .ref (am 7)) rfl dX6_working_14 ?_
        refine lv_iload_n E.1 E.2.1 dX6_working_17 rfl (lv_at hl 2 rfl) ?_
        refine z_zald E X (lM_7 C cA am S U) n (by omega) (by omega) (by decide) dX6_working_18 ?_
        refine z_feq E 26 ⟨by omega, by omega⟩ dX6_working_19 (by decide) (fun h19_2 => ?_) (fun h19_2 => ?_)
        · refine z_iconst E dX6_working_26 ?_
          refine z_iadd E dX6_working_27 ?_
          refine z_top (sumn (fun e => 1 - S 7 e) (n + 1)) (by show _ = sumn _ n + (1 - S 7 n); omega) ?_
          refine lv_istore_n (lv' := [(1, .int (i32 (sumn (fun e => 1 - S 7 e) (n + 1)))), (0, .ref (am 0)), (2, .int (i32 (n : Int)))]) E.1 E.2.1 dX6_working_28 rfl hl (by decide) rfl (fun ls hl => ?_)
          refine z_iinc (lv' := [(2, .int (i32 ((n + 1 : Nat) : Int))), (1, .int (i32 (sumn (fun e => 1 - S 7 e) (n + 1)))), (0, .ref (am 0))]) E dX6_working_29 hl (k := 2) rfl (by decide) rfl (fun ls hl => ?_)
          refine lv_goto (tgt := 4) E.1 E.2.1 dX6_working_32 (by decide) ?_
          exact ih4 (n + 1) _ _ _ (by omega) (by omega) X (lv_sub hl [2, 1, 0] rfl)
        · refine z_iconst E dX6_working_22 ?_
          refine lv_goto (tgt := 27) E.1 E.2.1 dX6_working_23 (by decide) ?_
          refine z_iadd E dX6_working_27 ?_
          refine z_top (sumn (fun e => 1 - S 7 e) (n + 1)) (by show _ = sumn _ n + (1 - S 7 n); omega) ?_
          refine lv_istore_n (lv' := [(1, .int (i32 (sumn (fun e => 1 - S 7 e) (n + 1)))), (0, .ref (am 0)), (2, .int (i32 (n : Int)))]) E.1 E.2.1 dX6_working_28 rfl hl (by decide) rfl (fun ls hl => ?_)
          refine z_iinc (lv' := [(2, .int (i32 ((n + 1 : Nat) : Int))), (1, .int (i32 (sumn (fun e => 1 - S 7 e) (n + 1)))), (0, .ref (am 0))]) E dX6_working_29 hl (k := 2) rfl (by decide) rfl (fun ls hl => ?_)
          refine lv_goto (tgt := 4) E.1 E.2.1 dX6_working_32 (by decide) ?_
          exact ih4 (n + 1) _ _ _ (by omega) (by omega) X (lv_sub hl [2, 1, 0] rfl)
  exact key4 (((S 5 0 - (0 : Int)).toNat) + 1) 0 _ _ _ (by omega) (by omega) X (lv_sub hl [2, 1, 0] rfl)
end
section
abbrev rX6_ticks : Room := { frames := 0, cells := 0, slots := 0, locals := 0 }
set_option maxHeartbeats 4000000 in
set_option maxRecDepth 100000 in
theorem c_ticks (l : Launch) (D : va_G) (cA : Nat → ClassId) (B0 : Nat) (H0 : Heap) (x1 x2 x3 : Int) (hk : 0 ≤ x1 ∧ x1 ≤ 8) (hx : -50 ≤ x2 ∧ x2 ≤ 50) (hy : -50 ≤ x3 ∧ x3 ≤ 50) : zM l yX6_ticks wsX6_ticks rX6_ticks [.int (i32 x1), .int (i32 x2), .int (i32 x3)] D cA B0 (fun H => H = H0) (fun v H => H = H0 ∧ v = some (.int (i32 (tk x1 x2 x3)))) := by
  refine z_met (cc := cX6_ticks) (maxL := 6) (ret := (some .int)) (by decide) rfl (Nat.le_of_ble_eq_true rfl) ?_
  intro p e s m args below meth c ls Q hQ E hP hB hS hl
  have hl : lv_has ls 6 [(0, .int (i32 x1)), (1, .int (i32 x2)), (2, .int (i32 x3))] := hl
  have X : zX D B0 zL0 s.heap s.heap [] := zX_none hB hS
  refine lv_iload_n E.1 E.2.1 dX6_ticks_0 rfl (lv_at hl 0 rfl) ?_
  refine lv_iload_n E.1 E.2.1 dX6_ticks_1 rfl (lv_at hl 0 rfl) ?_
  refine z_imul E dX6_ticks_2 ?_
  refine lv_iload_n E.1 E.2.1 dX6_ticks_3 rfl (lv_at hl 1 rfl) ?_
  refine lv_iload_n E.1 E.2.1 dX6_ticks_4 rfl (lv_at hl 1 rfl) ?_
  refine z_imul E dX6_ticks_5 ?_
  refine lv_iload_n E.1 E.2.1 dX6_ticks_6 rfl (lv_at hl 2 rfl) ?_
  refine lv_iload_n E.1 E.2.1 dX6_ticks_7 rfl (lv_at hl 2 rfl) ?_
  refine z_imul E dX6_ticks_8 ?_
  refine z_iadd E dX6_ticks_9 ?_
  refine z_imul E dX6_ticks_10 ?_
  obtain ⟨nn, hnn⟩ : ∃ nn : Int, nn = x1 * x1 * (x2 * x2 + x3 * x3) := ⟨_, rfl⟩
  have ha := tk_arg hk hx hy
  rw [← hnn] at ha
  refine z_top nn (hnn.symm) ?_
  refine lv_istore_n (lv' := [(3, .int (i32 nn)), (0, .int (i32 x1)), (1, .int (i32 x2)), (2, .int (i32 x3))]) E.1 E.2.1 dX6_ticks_11 rfl hl (by decide) rfl (fun ls hl => ?_)
  refine z_iconst E dX6_ticks_12 ?_
  refine lv_istore (lv' := [(4, .int (i32 0)), (3, .int (i32 nn)), (0, .int (i32 x1)), (1, .int (i32 x2)), (2, .int (i32 x3))]) E.1 E.2.1 dX6_ticks_13 hl (by decide) rfl (fun ls hl => ?_)
  refine z_sipush E dX6_ticks_15 (by decide +kernel) ?_
  refine lv_istore (lv' := [(5, .int (i32 512)), (4, .int (i32 0)), (3, .int (i32 nn)), (0, .int (i32 x1)), (1, .int (i32 x2)), (2, .int (i32 x3))]) E.1 E.2.1 dX6_ticks_18 hl (by decide) rfl (fun ls hl => ?_)
  have key20 : ∀ (N : Nat) (r : Int) (q : Int) (H : Heap) (locs : List Loc) (ls : Array Slot), (Int.toNat q) < N → (H = H0) → (q = 512 ∨ q = 256 ∨ q = 128 ∨ q = 64 ∨ q = 32 ∨ q = 16 ∨ q = 8 ∨ q = 4 ∨ q = 2 ∨ q = 1 ∨ q = 0) → (0 ≤ r) → (r * r ≤ nn) → (0 < q → nn < (r + 2 * q) * (r + 2 * q)) → (q = 0 → nn < (r + 1) * (r + 1)) → zX D B0 zL0 s.heap H locs → lv_has ls 6 [(3, .int (i32 nn)), (4, .int (i32 r)), (5, .int (i32 q))] → W p l e rX6_ticks s m args below meth c H locs 0 0 Q (F0 m 20 ls []) := by
    intro N
    induction N with
    | zero => intros; omega
    | succ N ih20 =>
      intro r q H locs ls hN hH hq h1 h2 h3 h4 X hl
      refine lv_iload E.1 E.2.1 dX6_ticks_20 (lv_at hl 2 rfl) ?_
      refine z_fle E 60 ⟨by omega, by omega⟩ dX6_ticks_22 (by decide) (fun h22_1 => ?_) (fun h22_1 => ?_)
      · refine lv_iload E.1 E.2.1 dX6_ticks_60 (lv_at hl 1 rfl) ?_
        have hq0 : q = 0 := by omega
        have er := isq_eq (n := nn) (by omega) h1 h2 (h4 hq0)
        exact z_ret E X hQ (⟨hH, by rw [er, hnn]; rfl⟩) dX6_ticks_62
      · have hr : r < 600 := sq_lt h1 (by omega) (by omega)
        have hrq := sq_le (a := r + q) (m := 1112) (by omega) (by omega)
        refine lv_iload E.1 E.2.1 dX6_ticks_25 (lv_at hl 1 rfl) ?_
        refine lv_iload E.1 E.2.1 dX6_ticks_27 (lv_at hl 1 rfl) ?_
        refine lv_iload E.1 E.2.1 dX6_ticks_29 (lv_at hl 2 rfl) ?_
        refine z_iadd E dX6_ticks_31 ?_
        refine lv_iload E.1 E.2.1 dX6_ticks_32 (lv_at hl 1 rfl) ?_
        refine lv_iload E.1 E.2.1 dX6_ticks_34 (lv_at hl 2 rfl) ?_
        refine z_iadd E dX6_ticks_36 ?_
        refine z_imul E dX6_ticks_37 ?_
        refine lv_iload_n E.1 E.2.1 dX6_ticks_38 rfl (lv_at hl 0 rfl) ?_
        refine z_cgt E 47 ⟨by omega, by omega⟩ ⟨by omega, by omega⟩ dX6_ticks_39 (by decide) (fun h39_2 => ?_) (fun h39_2 => ?_)
        · have h39 := h39_2
          refine z_iconst E dX6_ticks_47 ?_
          refine z_iadd E dX6_ticks_48 ?_
          refine lv_istore (lv' := [(4, .int (i32 (r + 0))), (3, .int (i32 nn)), (5, .int (i32 q))]) E.1 E.2.1 dX6_ticks_49 hl (by decide) rfl (fun ls hl => ?_)
          refine lv_iload E.1 E.2.1 dX6_ticks_51 (lv_at hl 2 rfl) ?_
          refine z_iconst E dX6_ticks_53 ?_
          refine z_ishr1 E (by omega) (by omega) dX6_ticks_54 ?_
          refine lv_istore (lv' := [(5, .int (i32 (q / 2))), (4, .int (i32 (r + 0))), (3, .int (i32 nn))]) E.1 E.2.1 dX6_ticks_55 hl (by decide) rfl (fun ls hl => ?_)
          refine lv_goto (tgt := 20) E.1 E.2.1 dX6_ticks_57 (by decide) ?_
          exact ih20 (r + 0) (q / 2) _ _ _ (by omega) hH (by omega) (by omega) (by rw [Int.add_zero]; exact h2) (fun _ => by rw [show r + 0 + 2 * (q / 2) = r + q by omega]; exact h39) (fun _ => by rw [show r + 0 + 1 = r + q by omega]; exact h39) X (lv_sub hl [2, 1, 0] rfl)
        · have h39 := h39_2
          refine lv_iload E.1 E.2.1 dX6_ticks_42 (lv_at hl 2 rfl) ?_
          refine lv_goto (tgt := 48) E.1 E.2.1 dX6_ticks_44 (by decide) ?_
          refine z_iadd E dX6_ticks_48 ?_
          refine lv_istore (lv' := [(4, .int (i32 (r + q))), (3, .int (i32 nn)), (5, .int (i32 q))]) E.1 E.2.1 dX6_ticks_49 hl (by decide) rfl (fun ls hl => ?_)
          refine lv_iload E.1 E.2.1 dX6_ticks_51 (lv_at hl 2 rfl) ?_
          refine z_iconst E dX6_ticks_53 ?_
          refine z_ishr1 E (by omega) (by omega) dX6_ticks_54 ?_
          refine lv_istore (lv' := [(5, .int (i32 (q / 2))), (4, .int (i32 (r + q))), (3, .int (i32 nn))]) E.1 E.2.1 dX6_ticks_55 hl (by decide) rfl (fun ls hl => ?_)
          refine lv_goto (tgt := 20) E.1 E.2.1 dX6_ticks_57 (by decide) ?_
          exact ih20 (r + q) (q / 2) _ _ _ (by omega) hH (by omega) (by omega) (by omega) (fun _ => by rw [show r + q + 2 * (q / 2) = r + 2 * q by omega]; exact h3 (by omega)) (fun _ => by rw [show r + q + 1 = r + 2 * q by omega]; exact h3 (by omega)) X (lv_sub hl [2, 1, 0] rfl)
  exact key20 ((Int.toNat 512) + 1) 0 512 _ _ _ (by omega) hP (by omega) (by omega) (by omega) (fun _ => by omega) (fun h => by omega) X (lv_sub hl [2, 1, 0] rfl)

abbrev rX6_unmake : Room := { frames := 0, cells := 0, slots := 0, locals := 0 }
set_option maxHeartbeats 4000000 in
set_option maxRecDepth 100000 in
theorem m_unmake (l : Launch) (D : va_G) (cA : Nat → ClassId) (B0 : Nat) (C : zL) (am : Nat → Nat) (S U : zS) : zM l yX6_unmake wsX6_unmake rX6_unmake [.ref (am 0)] D cA B0 (zW D B0 (zj C (layM cA am S U))) (fun v H => v = none ∧ ∃ T : zS, (∀ q : Nat, q ≠ 16 → T q = U q) ∧ (∀ k : Nat, k < 408 → T 16 k = 0) ∧ zW D B0 (zj C (layM cA am S T)) H) := by
  refine z_met (cc := cX6_unmake) (maxL := 2) (ret := none) (by decide) rfl (Nat.le_of_ble_eq_true rfl) ?_
  intro p e s m args below meth c ls Q hQ E hP hB hS hl
  have hl : lv_has ls 2 [(0, .ref (am 0))] := hl
  have iX6 : ∀ w ∈ u_ws RX6 TX6 28, w ∈ wsX6_unmake := by decide +kernel
  have X : zX D B0 (zj C (layM cA am S U)) s.heap s.heap [] := ⟨hP, hS⟩
  refine z_iconst E dX6_unmake_0 ?_
  refine lv_istore_n (lv' := [(1, .int (i32 0)), (0, .ref (am 0))]) E.1 E.2.1 dX6_unmake_1 rfl hl (by decide) rfl (fun ls hl => ?_)
  have key2 : ∀ (N : Nat) (n : Nat) (T : zS) (H : Heap) (locs : List Loc) (ls : Array Slot), (408 - n) < N → (n ≤ 408) → (∀ q : Nat, q ≠ 16 → T q = U q) → (∀ k : Nat, k < n → T 16 k = 0) → zX D B0 (zj C (layM cA am S T)) s.heap H locs → lv_has ls 2 [(0, .ref (am 0)), (1, .int (i32 (n : Int)))] → W p l e rX6_unmake s m args below meth c H locs 0 0 Q (F0 m 2 ls []) := by
    intro N
    induction N with
    | zero => intros; omega
    | succ N ih2 =>
      intro n T H locs ls hN hn hT hz X hl
      refine lv_iload_n E.1 E.2.1 dX6_unmake_2 rfl (lv_at hl 1 rfl) ?_
      refine z_sipush E dX6_unmake_3 (by decide +kernel) ?_
      refine z_cge E 22 ⟨by omega, by omega⟩ ⟨by omega, by omega⟩ dX6_unmake_6 (by decide) (fun h6_1 => ?_) (fun h6_1 => ?_)
      · exact z_retv E X hQ (⟨rfl, T, hT, fun k hk => hz k (by omega), X.1⟩) dX6_unmake_22
      · refine lv_aload_n E.1 E.2.1 dX6_unmake_9 rfl (lv_at hl 0 rfl) ?_
        refine z_get E X (lM_0 C cA am S T) rfl iX6 16 (by decide) (by decide +kernel) (v := .ref (am 16)) rfl dX6_unmake_10 ?_
        refine lv_iload_n E.1 E.2.1 dX6_unmake_13 rfl (lv_at hl 1 rfl) ?_
        refine z_iconst E dX6_unmake_14 ?_
        refine z_zast E X (lM_16 C cA am S T) (by omega) n (by omega) (by omega) (by decide) dX6_unmake_15 (fun H locs X => ?_)
        have X := ma_16 X
        refine z_iinc (lv' := [(1, .int (i32 ((n + 1 : Nat) : Int))), (0, .ref (am 0))]) E dX6_unmake_16 hl (k := 1) rfl (by decide) rfl (fun ls hl => ?_)
        refine lv_goto (tgt := 2) E.1 E.2.1 dX6_unmake_19 (by decide) ?_
        exact ih2 (n + 1) (zs T 16 n 0) _ _ _ (by omega) (by omega) (fun q hq => by rw [zs_ne hq]; exact hT q hq) (fun k hk => by rw [zs_eq]; exact (if h : k = n then (by rw [h, zg_eq]) else (by rw [zg_ne h]; exact hz k (by omega)))) X (lv_sub hl [1, 0] rfl)
  exact key2 ((408 - 0) + 1) 0 U _ _ _ (by omega) (by omega) (fun _ _ => rfl) (fun k hk => absurd hk (Nat.not_lt_zero k)) X (lv_sub hl [1, 0] rfl)

abbrev rX6_make : Room := { frames := 1, cells := 0, slots := 0, locals := 25 }
set_option maxHeartbeats 4000000 in
set_option maxRecDepth 100000 in
theorem m_make (l : Launch) (D : va_G) (cA : Nat → ClassId) (B0 : Nat) (C : zL) (am : Nat → Nat) (S U : zS) (hI : SI S) (hC : MC S U) (ea y : Nat) (he : (ea : Int) < S 5 0) (hy : S 1 0 ≤ (y : Int) ∧ (y : Int) ≤ S 1 0 + S 2 0) : zM l yX6_make wsX6_make rX6_make [.ref (am 0), .int (i32 (ea : Int)), .int (i32 (y : Int))] D cA B0 (zW D B0 (zj C (layM cA am S U))) (fun v H => v = none ∧ ∃ T : zS, MC S T ∧ T 16 (51 * ea + y) = 1 ∧ zW D B0 (zj C (layM cA am S T)) H) := by
  refine z_met (cc := cX6_make) (maxL := 7) (ret := none) (by decide) rfl (Nat.le_of_ble_eq_true rfl) ?_
  intro p e s m args below meth c ls Q hQ E hP hB hS hl
  have hl : lv_has ls 7 [(0, .ref (am 0)), (1, .int (i32 (ea : Int))), (2, .int (i32 (y : Int)))] := hl
  have iX6 : ∀ w ∈ u_ws RX6 TX6 28, w ∈ wsX6_make := by decide +kernel
  have X : zX D B0 (zj C (layM cA am S U)) s.heap s.heap [] := ⟨hP, hS⟩
  have hI0 := hI.1
  unfold SI0 at hI0
  obtain ⟨b1, b2, b3, b4, b5, b8, b17, b19, b7⟩ := hI0
  have h6 := hI.2.1 ea he
  have h16 : U 16 (51 * ea + y) = 0 ∨ U 16 (51 * ea + y) = 1 := by
    rcases hC (51 * ea + y) (by omega) with q | q
    · exact Or.inl q
    · exact Or.inr q.1
  refine lv_aload_n E.1 E.2.1 dX6_make_0 rfl (lv_at hl 0 rfl) ?_
  refine z_get E X (lM_0 C cA am S U) rfl iX6 16 (by decide) (by decide +kernel) (v := .ref (am 16)) rfl dX6_make_1 ?_
  refine z_bipush E dX6_make_4 (by decide +kernel) ?_
  refine lv_iload_n E.1 E.2.1 dX6_make_6 rfl (lv_at hl 1 rfl) ?_
  refine z_imul E dX6_make_7 ?_
  refine lv_iload_n E.1 E.2.1 dX6_make_8 rfl (lv_at hl 2 rfl) ?_
  refine z_iadd E dX6_make_9 ?_
  refine z_zald E X (lM_16 C cA am S U) ((51 * ea) + y) (by omega) (by omega) (by decide) dX6_make_10 ?_
  refine z_feq E 15 ⟨by omega, by omega⟩ dX6_make_11 (by decide) (fun h11_1 => ?_) (fun h11_1 => ?_)
  · refine lv_aload_n E.1 E.2.1 dX6_make_15 rfl (lv_at hl 0 rfl) ?_
    refine z_get E X (lM_0 C cA am S U) rfl iX6 16 (by decide) (by decide +kernel) (v := .ref (am 16)) rfl dX6_make_16 ?_
    refine z_bipush E dX6_make_19 (by decide +kernel) ?_
    refine lv_iload_n E.1 E.2.1 dX6_make_21 rfl (lv_at hl 1 rfl) ?_
    refine z_imul E dX6_make_22 ?_
    refine lv_iload_n E.1 E.2.1 dX6_make_23 rfl (lv_at hl 2 rfl) ?_
    refine z_iadd E dX6_make_24 ?_
    refine z_iconst E dX6_make_25 ?_
    refine z_zast E X (lM_16 C cA am S U) (by omega) ((51 * ea) + y) (by omega) (by omega) (by decide) dX6_make_26 (fun H locs X => ?_)
    have X := ma_16 X
    refine z_iconst E dX6_make_27 ?_
    refine lv_istore_n (lv' := [(3, .int (i32 0)), (0, .ref (am 0)), (1, .int (i32 (ea : Int))), (2, .int (i32 (y : Int)))]) E.1 E.2.1 dX6_make_28 rfl hl (by decide) rfl (fun ls hl => ?_)
    have key29 : ∀ (N : Nat) (n : Nat) (T : zS) (H : Heap) (locs : List Loc) (ls : Array Slot), (51 - n) < N → (n ≤ 51) → (mkI S U ea y n 0 T) → zX D B0 (zj C (layM cA am S T)) s.heap H locs → lv_has ls 7 [(0, .ref (am 0)), (1, .int (i32 (ea : Int))), (2, .int (i32 (y : Int))), (3, .int (i32 (n : Int)))] → W p l e rX6_make s m args below meth c H locs 0 0 Q (F0 m 29 ls []) := by
      intro N
      induction N with
      | zero => intros; omega
      | succ N ih29 =>
        intro n T H locs ls hN hn hT X hl
        refine lv_iload_n E.1 E.2.1 dX6_make_29 rfl (lv_at hl 3 rfl) ?_
        refine z_bipush E dX6_make_30 (by decide +kernel) ?_
        refine z_cge E 145 ⟨by omega, by omega⟩ ⟨by omega, by omega⟩ dX6_make_32 (by decide) (fun h32_2 => ?_) (fun h32_2 => ?_)
        · have en : n = 51 := by omega
          rw [en] at hT
          have hd := mkI_done hT hC he (by omega)
          exact z_retv E X hQ (⟨rfl, T, hd.1, hd.2, X.1⟩) dX6_make_145
        · refine z_bipush E dX6_make_35 (by decide +kernel) ?_
          refine z_bipush E dX6_make_37 (by decide +kernel) ?_
          refine lv_iload_n E.1 E.2.1 dX6_make_39 rfl (lv_at hl 1 rfl) ?_
          refine z_imul E dX6_make_40 ?_
          refine lv_iload_n E.1 E.2.1 dX6_make_41 rfl (lv_at hl 2 rfl) ?_
          refine z_iadd E dX6_make_42 ?_
          refine z_imul E dX6_make_43 ?_
          refine lv_iload_n E.1 E.2.1 dX6_make_44 rfl (lv_at hl 3 rfl) ?_
          refine z_iadd E dX6_make_45 ?_
          refine lv_istore (lv' := [(4, .int (i32 ((51 * ((51 * (ea : Int)) + (y : Int))) + (n : Int)))), (0, .ref (am 0)), (1, .int (i32 (ea : Int))), (2, .int (i32 (y : Int))), (3, .int (i32 (n : Int)))]) E.1 E.2.1 dX6_make_46 hl (by decide) rfl (fun ls hl => ?_)
          refine z_iconst E dX6_make_48 ?_
          refine lv_istore (lv' := [(5, .int (i32 0)), (4, .int (i32 ((51 * ((51 * (ea : Int)) + (y : Int))) + (n : Int)))), (0, .ref (am 0)), (1, .int (i32 (ea : Int))), (2, .int (i32 (y : Int))), (3, .int (i32 (n : Int)))]) E.1 E.2.1 dX6_make_49 hl (by decide) rfl (fun ls hl => ?_)
          have key51 : ∀ (N : Nat) (b : Nat) (T : zS) (H : Heap) (locs : List Loc) (ls : Array Slot), (51 - b) < N → (b ≤ 51) → (mkI S U ea y n b T) → zX D B0 (zj C (layM cA am S T)) s.heap H locs → lv_has ls 7 [(0, .ref (am 0)), (1, .int (i32 (ea : Int))), (2, .int (i32 (y : Int))), (3, .int (i32 (n : Int))), (4, .int (i32 (51 * (51 * (ea : Int) + (y : Int)) + (n : Int)))), (5, .int (i32 (b : Int)))] → W p l e rX6_make s m args below meth c H locs 0 0 Q (F0 m 51 ls []) := by
            intro N
            induction N with
            | zero => intros; omega
            | succ N ih51 =>
              intro b T H locs ls hN hb hT X hl
              refine lv_iload E.1 E.2.1 dX6_make_51 (lv_at hl 5 rfl) ?_
              refine z_bipush E dX6_make_53 (by decide +kernel) ?_
              refine z_cge E 139 ⟨by omega, by omega⟩ ⟨by omega, by omega⟩ dX6_make_55 (by decide) (fun h55_3 => ?_) (fun h55_3 => ?_)
              · refine z_iinc (lv' := [(3, .int (i32 ((n + 1 : Nat) : Int))), (0, .ref (am 0)), (1, .int (i32 (ea : Int))), (2, .int (i32 (y : Int))), (4, .int (i32 (51 * (51 * (ea : Int) + (y : Int)) + (n : Int)))), (5, .int (i32 (b : Int)))]) E dX6_make_139 hl (k := 3) rfl (by decide) rfl (fun ls hl => ?_)
                refine lv_goto (tgt := 29) E.1 E.2.1 dX6_make_142 (by decide) ?_
                exact ih29 (n + 1) T _ _ _ (by omega) (by omega) (mkI_next (by rw [show (51 : Nat) = b by omega]; exact hT)) X (lv_sub hl [1, 2, 3, 0] rfl)
              · refine lv_aload_n E.1 E.2.1 dX6_make_58 rfl (lv_at hl 0 rfl) ?_
                refine z_get E X (lM_0 C cA am S T) rfl iX6 3 (by decide) (by decide +kernel) (v := .int (i32 (S 3 0))) rfl dX6_make_59 ?_
                refine lv_iload E.1 E.2.1 dX6_make_62 (lv_at hl 5 rfl) ?_
                refine lv_aload_n E.1 E.2.1 dX6_make_64 rfl (lv_at hl 0 rfl) ?_
                refine z_get E X (lM_0 C cA am S T) rfl iX6 6 (by decide) (by decide +kernel) (v := .ref (am 6)) rfl dX6_make_65 ?_
                refine lv_iload_n E.1 E.2.1 dX6_make_68 rfl (lv_at hl 1 rfl) ?_
                refine z_iald E X (lM_6 C cA am S T) ea (by omega) (by omega) (by decide) dX6_make_69 ?_
                refine z_isub E dX6_make_70 ?_
                refine lv_aload_n E.1 E.2.1 dX6_make_71 rfl (lv_at hl 0 rfl) ?_
                refine z_get E X (lM_0 C cA am S T) rfl iX6 1 (by decide) (by decide +kernel) (v := .int (i32 (S 1 0))) rfl dX6_make_72 ?_
                refine z_callJ (As := [.int (i32 (S 3 0)), .int (i32 ((b : Int) - (S 6 ea))), .int (i32 (S 1 0))]) (rest := []) (n := 3) E X (c_ticks l D cA B0 _ (S 3 0) ((b : Int) - (S 6 ea)) (S 1 0) (by omega) (by omega) (by omega)) gX6_make_X6_ticks rfl (by decide +kernel) ⟨by decide, by decide⟩ rfl hl.1 rfl (Nat.le_of_ble_eq_true rfl) dX6_make_75 ⟨by decide, by decide⟩ rfl 0 0 ⟨rfl, rfl⟩ (fun v H locs hv hS_4 => ?_)
                obtain ⟨hH, rfl⟩ := hv
                subst hH
                replace X := X.same hS_4
                refine lv_aload_n E.1 E.2.1 dX6_make_78 rfl (lv_at hl 0 rfl) ?_
                refine z_get E X (lM_0 C cA am S T) rfl iX6 4 (by decide) (by decide +kernel) (v := .int (i32 (S 4 0))) rfl dX6_make_79 ?_
                refine lv_iload_n E.1 E.2.1 dX6_make_82 rfl (lv_at hl 3 rfl) ?_
                refine lv_iload E.1 E.2.1 dX6_make_83 (lv_at hl 5 rfl) ?_
                refine z_isub E dX6_make_85 ?_
                refine lv_iload_n E.1 E.2.1 dX6_make_86 rfl (lv_at hl 2 rfl) ?_
                refine lv_aload_n E.1 E.2.1 dX6_make_87 rfl (lv_at hl 0 rfl) ?_
                refine z_get E X (lM_0 C cA am S T) rfl iX6 1 (by decide) (by decide +kernel) (v := .int (i32 (S 1 0))) rfl dX6_make_88 ?_
                refine z_isub E dX6_make_91 ?_
                refine z_callJ (As := [.int (i32 (S 4 0)), .int (i32 ((n : Int) - (b : Int))), .int (i32 ((y : Int) - (S 1 0)))]) (rest := [.int (i32 (tk (S 3 0) ((b : Int) - (S 6 ea)) (S 1 0)))]) (n := 3) E X (c_ticks l D cA B0 _ (S 4 0) ((n : Int) - (b : Int)) ((y : Int) - (S 1 0)) (by omega) (by omega) (by omega)) gX6_make_X6_ticks rfl (by decide +kernel) ⟨by decide, by decide⟩ rfl hl.1 rfl (Nat.le_of_ble_eq_true rfl) dX6_make_92 ⟨by decide, by decide⟩ rfl 0 0 ⟨rfl, rfl⟩ (fun v H locs hv hS_5 => ?_)
                obtain ⟨hH, rfl⟩ := hv
                subst hH
                replace X := X.same hS_5
                refine z_iadd E dX6_make_95 ?_
                refine z_top (tw S ea n y b) (rfl) ?_
                refine lv_istore (lv' := [(6, .int (i32 (tw S ea n y b))), (0, .ref (am 0)), (1, .int (i32 (ea : Int))), (2, .int (i32 (y : Int))), (3, .int (i32 (n : Int))), (4, .int (i32 (51 * (51 * (ea : Int) + (y : Int)) + (n : Int)))), (5, .int (i32 (b : Int)))]) E.1 E.2.1 dX6_make_96 hl (by decide) rfl (fun ls hl => ?_)
                refine lv_iload E.1 E.2.1 dX6_make_98 (lv_at hl 6 rfl) ?_
                refine z_feq E 115 ⟨by omega, by omega⟩ dX6_make_100 (by decide) (fun h100_6 => ?_) (fun h100_6 => ?_)
                · refine lv_aload_n E.1 E.2.1 dX6_make_115 rfl (lv_at hl 1 rfl) ?_
                  refine z_get E X (lM_0 C cA am S T) rfl iX6 14 (by decide) (by decide +kernel) (v := .ref (am 14)) rfl dX6_make_116 ?_
                  refine lv_iload E.1 E.2.1 dX6_make_119 (lv_at hl 5 rfl) ?_
                  refine lv_iload E.1 E.2.1 dX6_make_121 (lv_at hl 0 rfl) ?_
                  refine z_iast E X (lM_14 C cA am S T) (51 * (51 * ea + y) + n) (by omega) (by omega) (by decide) dX6_make_123 (fun H locs X => ?_)
                  have X := ma_14 X
                  refine lv_aload_n E.1 E.2.1 dX6_make_124 rfl (lv_at hl 1 rfl) ?_
                  refine z_get E X (lM_0 C cA am S (zs T 14 (51 * (51 * ea + y) + n) (tw S ea n y b))) rfl iX6 15 (by decide) (by decide +kernel) (v := .ref (am 15)) rfl dX6_make_125 ?_
                  refine lv_iload E.1 E.2.1 dX6_make_128 (lv_at hl 5 rfl) ?_
                  refine lv_iload E.1 E.2.1 dX6_make_130 (lv_at hl 6 rfl) ?_
                  refine z_iast E X (lM_15 C cA am S (zs T 14 (51 * (51 * ea + y) + n) (tw S ea n y b))) (51 * (51 * ea + y) + n) (by omega) (by omega) (by decide) dX6_make_132 (fun H locs X => ?_)
                  have X := ma_15 X
                  refine z_iinc (lv' := [(5, .int (i32 ((b + 1 : Nat) : Int))), (6, .int (i32 (tw S ea n y b))), (0, .ref (am 0)), (1, .int (i32 (ea : Int))), (2, .int (i32 (y : Int))), (3, .int (i32 (n : Int))), (4, .int (i32 (51 * (51 * (ea : Int) + (y : Int)) + (n : Int))))]) E dX6_make_133 hl (k := 6) rfl (by decide) rfl (fun ls hl => ?_)
                  refine lv_goto (tgt := 51) E.1 E.2.1 dX6_make_136 (by decide) ?_
                  exact ih51 (b + 1) (zs (zs T 14 (51 * (51 * ea + y) + n) (tw S ea n y b)) 15 (51 * (51 * ea + y) + n) (b : Int)) _ _ _ (by omega) (by omega) (mkI_write hT (by omega) (by omega)) X (lv_sub hl [2, 3, 4, 5, 6, 0] rfl)
                · have hm := (hT.2.2.2 (by omega)).1
                  have hmr : 0 ≤ minb (tw S ea n y) (b - 1) ∧ minb (tw S ea n y) (b - 1) ≤ 2046 := ⟨minb_ge (fun k hk => (tw_rng hI.1 hI.2.1 he (by omega) hy (by omega)).1), Int.le_trans (minb_le (k := 0) (Nat.zero_le _)) (tw_rng hI.1 hI.2.1 he (by omega) hy (by omega)).2⟩
                  have hb1 := tw_rng (x := n) (b := b) hI.1 hI.2.1 he (by omega) hy (by omega)
                  refine lv_iload E.1 E.2.1 dX6_make_103 (lv_at hl 0 rfl) ?_
                  refine lv_aload_n E.1 E.2.1 dX6_make_105 rfl (lv_at hl 1 rfl) ?_
                  refine z_get E X (lM_0 C cA am S T) rfl iX6 14 (by decide) (by decide +kernel) (v := .ref (am 14)) rfl dX6_make_106 ?_
                  refine lv_iload E.1 E.2.1 dX6_make_109 (lv_at hl 5 rfl) ?_
                  refine z_iald E X (lM_14 C cA am S T) (51 * (51 * ea + y) + n) (by omega) (by omega) (by decide) dX6_make_111 ?_
                  refine z_cge E 133 ⟨by omega, by omega⟩ ⟨by omega, by omega⟩ dX6_make_112 (by decide) (fun h112_7 => ?_) (fun h112_7 => ?_)
                  · refine z_iinc (lv' := [(5, .int (i32 ((b + 1 : Nat) : Int))), (6, .int (i32 (tw S ea n y b))), (0, .ref (am 0)), (1, .int (i32 (ea : Int))), (2, .int (i32 (y : Int))), (3, .int (i32 (n : Int))), (4, .int (i32 (51 * (51 * (ea : Int) + (y : Int)) + (n : Int))))]) E dX6_make_133 hl (k := 6) rfl (by decide) rfl (fun ls hl => ?_)
                    refine lv_goto (tgt := 51) E.1 E.2.1 dX6_make_136 (by decide) ?_
                    exact ih51 (b + 1) T _ _ _ (by omega) (by omega) (mkI_keep hT (by omega) (by omega)) X (lv_sub hl [2, 3, 4, 5, 6, 0] rfl)
                  · refine lv_aload_n E.1 E.2.1 dX6_make_115 rfl (lv_at hl 1 rfl) ?_
                    refine z_get E X (lM_0 C cA am S T) rfl iX6 14 (by decide) (by decide +kernel) (v := .ref (am 14)) rfl dX6_make_116 ?_
                    refine lv_iload E.1 E.2.1 dX6_make_119 (lv_at hl 5 rfl) ?_
                    refine lv_iload E.1 E.2.1 dX6_make_121 (lv_at hl 0 rfl) ?_
                    refine z_iast E X (lM_14 C cA am S T) (51 * (51 * ea + y) + n) (by omega) (by omega) (by decide) dX6_make_123 (fun H locs X => ?_)
                    have X := ma_14 X
                    refine lv_aload_n E.1 E.2.1 dX6_make_124 rfl (lv_at hl 1 rfl) ?_
                    refine z_get E X (lM_0 C cA am S (zs T 14 (51 * (51 * ea + y) + n) (tw S ea n y b))) rfl iX6 15 (by decide) (by decide +kernel) (v := .ref (am 15)) rfl dX6_make_125 ?_
                    refine lv_iload E.1 E.2.1 dX6_make_128 (lv_at hl 5 rfl) ?_
                    refine lv_iload E.1 E.2.1 dX6_make_130 (lv_at hl 6 rfl) ?_
                    refine z_iast E X (lM_15 C cA am S (zs T 14 (51 * (51 * ea + y) + n) (tw S ea n y b))) (51 * (51 * ea + y) + n) (by omega) (by omega) (by decide) dX6_make_132 (fun H locs X => ?_)
                    have X := ma_15 X
                    refine z_iinc (lv' := [(5, .int (i32 ((b + 1 : Nat) : Int))), (6, .int (i32 (tw S ea n y b))), (0, .ref (am 0)), (1, .int (i32 (ea : Int))), (2, .int (i32 (y : Int))), (3, .int (i32 (n : Int))), (4, .int (i32 (51 * (51 * (ea : Int) + (y : Int)) + (n : Int))))]) E dX6_make_133 hl (k := 6) rfl (by decide) rfl (fun ls hl => ?_)
                    refine lv_goto (tgt := 51) E.1 E.2.1 dX6_make_136 (by decide) ?_
                    exact ih51 (b + 1) (zs (zs T 14 (51 * (51 * ea + y) + n) (tw S ea n y b)) 15 (51 * (51 * ea + y) + n) (b : Int)) _ _ _ (by omega) (by omega) (mkI_write hT (by omega) (by omega)) X (lv_sub hl [2, 3, 4, 5, 6, 0] rfl)
          exact key51 ((51 - 0) + 1) 0 T _ _ _ (by omega) (by omega) hT X (lv_sub hl [2, 3, 4, 5, 1, 0] rfl)
    exact key29 ((51 - 0) + 1) 0 (zs U 16 (51 * ea + y) 1) _ _ _ (by omega) (by omega) (mkI_start S U ea y) X (lv_sub hl [1, 2, 3, 0] rfl)
  · exact z_retv E X hQ (⟨rfl, U, hC, (by rcases h16 with q | q <;> omega), X.1⟩) dX6_make_14
end
section
abbrev rX6_timeOf : Room := { frames := 2, cells := 0, slots := 0, locals := 51 }
set_option maxHeartbeats 4000000 in
set_option maxRecDepth 100000 in
theorem m_timeOf (l : Launch) (D : va_G) (cA : Nat → ClassId) (B0 : Nat) (C : zL) (am : Nat → Nat) (S U : zS) (hI : SI S) (hC : MC S U) (ea x y : Nat) (he : (ea : Int) < S 5 0) (hx : x ≤ 50) (hy : S 1 0 ≤ (y : Int) ∧ (y : Int) ≤ S 1 0 + S 2 0) : zM l yX6_timeOf wsX6_timeOf rX6_timeOf [.ref (am 0), .int (i32 (ea : Int)), .int (i32 (x : Int)), .int (i32 (y : Int))] D cA B0 (zW D B0 (zj C (layM cA am S U))) (fun v H => v = some (.int (i32 (TM S ea x y))) ∧ ∃ U : zS, MC S U ∧ zW D B0 (zj C (layM cA am S U)) H) := by
  refine z_met (cc := cX6_timeOf) (maxL := 4) (ret := (some .int)) (by decide) rfl (Nat.le_of_ble_eq_true rfl) ?_
  intro p e s m args below meth c ls Q hQ E hP hB hS hl
  have hl : lv_has ls 4 [(0, .ref (am 0)), (1, .int (i32 (ea : Int))), (2, .int (i32 (x : Int))), (3, .int (i32 (y : Int)))] := hl
  have iX6 : ∀ w ∈ u_ws RX6 TX6 28, w ∈ wsX6_timeOf := by decide +kernel
  have X : zX D B0 (zj C (layM cA am S U)) s.heap s.heap [] := ⟨hP, hS⟩
  have hI0 := hI.1
  unfold SI0 at hI0
  obtain ⟨b1, b2, b3, b4, b5, b8, b17, b19, b7⟩ := hI0
  refine lv_aload_n E.1 E.2.1 dX6_timeOf_0 rfl (lv_at hl 0 rfl) ?_
  refine lv_iload_n E.1 E.2.1 dX6_timeOf_1 rfl (lv_at hl 1 rfl) ?_
  refine lv_iload_n E.1 E.2.1 dX6_timeOf_2 rfl (lv_at hl 3 rfl) ?_
  refine z_callV (As := [.int (i32 (ea : Int)), .int (i32 (y : Int))]) (rest := []) (n := 2) E X (lM_0 C cA am S U) rfl (m_make l D cA B0 C am S U hI hC ea y (by omega) (by omega)) gX6_timeOf_X6_make rfl (by decide +kernel) ⟨by decide, by decide⟩ rfl hl.1 rfl (Nat.le_of_ble_eq_true rfl) dX6_timeOf_3 ⟨by decide, by decide⟩ X.1 0 0 ⟨rfl, rfl⟩ (fun v H locs hv hS_1 => ?_)
  obtain ⟨rfl, U_2, hC, hmade, hw⟩ := hv
  replace X : zX D B0 (zj C (layM cA am S U_2)) s.heap H locs := ⟨hw, hS_1⟩
  have htab : ∀ x : Nat, x < 51 → U_2 14 (51 * (51 * ea + y) + x) = TM S ea x y ∧ U_2 15 (51 * (51 * ea + y) + x) = BD S ea x y := by
    rcases hC (51 * ea + y) (by omega) with q | ⟨-, -, q⟩
    · omega
    · rw [show (51 * ea + y) / 51 = ea by omega, show (51 * ea + y) % 51 = y by omega] at q
      exact q
  refine lv_aload_n E.1 E.2.1 dX6_timeOf_6 rfl (lv_at hl 0 rfl) ?_
  refine z_get E X (lM_0 C cA am S U_2) rfl iX6 14 (by decide) (by decide +kernel) (v := .ref (am 14)) rfl dX6_timeOf_7 ?_
  refine z_bipush E dX6_timeOf_10 (by decide +kernel) ?_
  refine z_bipush E dX6_timeOf_12 (by decide +kernel) ?_
  refine lv_iload_n E.1 E.2.1 dX6_timeOf_14 rfl (lv_at hl 1 rfl) ?_
  refine z_imul E dX6_timeOf_15 ?_
  refine lv_iload_n E.1 E.2.1 dX6_timeOf_16 rfl (lv_at hl 3 rfl) ?_
  refine z_iadd E dX6_timeOf_17 ?_
  refine z_imul E dX6_timeOf_18 ?_
  refine lv_iload_n E.1 E.2.1 dX6_timeOf_19 rfl (lv_at hl 2 rfl) ?_
  refine z_iadd E dX6_timeOf_20 ?_
  refine z_iald E X (lM_14 C cA am S U_2) ((51 * ((51 * ea) + y)) + x) (by omega) (by omega) (by decide) dX6_timeOf_21 ?_
  refine z_top (TM S ea x y) ((htab x (by omega)).1) ?_
  exact z_ret E X hQ (⟨rfl, U_2, hC, X.1⟩) dX6_timeOf_22

abbrev rX6_least : Room := { frames := 3, cells := 0, slots := 0, locals := 74 }
set_option maxHeartbeats 4000000 in
set_option maxRecDepth 100000 in
theorem m_least (l : Launch) (D : va_G) (cA : Nat → ClassId) (B0 : Nat) (C : zL) (am : Nat → Nat) (S U : zS) (hI : SI S) (hC : MC S U) (ea eb x z y : Nat) (he : (ea : Int) < S 5 0) (hb : (eb : Int) < S 5 0) (hxz : x ≤ z) (hz : z ≤ 50) (hy : S 1 0 ≤ (y : Int) ∧ (y : Int) ≤ S 1 0 + S 2 0) : zM l yX6_least wsX6_least rX6_least [.ref (am 0), .int (i32 (ea : Int)), .int (i32 (eb : Int)), .int (i32 (x : Int)), .int (i32 (z : Int)), .int (i32 (y : Int))] D cA B0 (zW D B0 (zj C (layM cA am S U))) (fun v H => v = some (.int (i32 (LST S ea eb x (z - x) y))) ∧ ∃ U : zS, MC S U ∧ zW D B0 (zj C (layM cA am S U)) H) := by
  refine z_met (cc := cX6_least) (maxL := 9) (ret := (some .int)) (by decide) rfl (Nat.le_of_ble_eq_true rfl) ?_
  intro p e s m args below meth c ls Q hQ E hP hB hS hl
  have hl : lv_has ls 9 [(0, .ref (am 0)), (1, .int (i32 (ea : Int))), (2, .int (i32 (eb : Int))), (3, .int (i32 (x : Int))), (4, .int (i32 (z : Int))), (5, .int (i32 (y : Int)))] := hl
  have X : zX D B0 (zj C (layM cA am S U)) s.heap s.heap [] := ⟨hP, hS⟩
  have hI0 := hI.1
  unfold SI0 at hI0
  obtain ⟨b1, b2, b3, b4, b5, b8, b17, b19, b7⟩ := hI0
  refine lv_aload_n E.1 E.2.1 dX6_least_0 rfl (lv_at hl 0 rfl) ?_
  refine lv_iload_n E.1 E.2.1 dX6_least_1 rfl (lv_at hl 1 rfl) ?_
  refine lv_iload_n E.1 E.2.1 dX6_least_2 rfl (lv_at hl 3 rfl) ?_
  refine lv_iload E.1 E.2.1 dX6_least_3 (lv_at hl 5 rfl) ?_
  refine z_callV (As := [.int (i32 (ea : Int)), .int (i32 (x : Int)), .int (i32 (y : Int))]) (rest := []) (n := 3) E X (lM_0 C cA am S U) rfl (m_timeOf l D cA B0 C am S U hI hC ea x y (by omega) (by omega) (by omega)) gX6_least_X6_timeOf rfl (by decide +kernel) ⟨by decide, by decide⟩ rfl hl.1 rfl (Nat.le_of_ble_eq_true rfl) dX6_least_5 ⟨by decide, by decide⟩ X.1 0 0 ⟨rfl, rfl⟩ (fun v H locs hv hS_1 => ?_)
  obtain ⟨rfl, U_2, hC, hw⟩ := hv
  replace X : zX D B0 (zj C (layM cA am S U_2)) s.heap H locs := ⟨hw, hS_1⟩
  have f_3 := TM_rng (x := x) hI.1 hI.2.1 (e := ea) (y := y) (by omega) (by omega) (by omega)
  refine lv_aload_n E.1 E.2.1 dX6_least_8 rfl (lv_at hl 0 rfl) ?_
  refine lv_iload_n E.1 E.2.1 dX6_least_9 rfl (lv_at hl 2 rfl) ?_
  refine lv_iload_n E.1 E.2.1 dX6_least_10 rfl (lv_at hl 3 rfl) ?_
  refine lv_iload E.1 E.2.1 dX6_least_11 (lv_at hl 5 rfl) ?_
  refine z_callV (As := [.int (i32 (eb : Int)), .int (i32 (x : Int)), .int (i32 (y : Int))]) (rest := [.int (i32 (TM S ea x y))]) (n := 3) E X (lM_0 C cA am S U_2) rfl (m_timeOf l D cA B0 C am S U_2 hI hC eb x y (by omega) (by omega) (by omega)) gX6_least_X6_timeOf rfl (by decide +kernel) ⟨by decide, by decide⟩ rfl hl.1 rfl (Nat.le_of_ble_eq_true rfl) dX6_least_13 ⟨by decide, by decide⟩ X.1 0 0 ⟨rfl, rfl⟩ (fun v H locs hv hS_4 => ?_)
  obtain ⟨rfl, U_5, hC, hw⟩ := hv
  replace X : zX D B0 (zj C (layM cA am S U_5)) s.heap H locs := ⟨hw, hS_4⟩
  have f_6 := TM_rng (x := x) hI.1 hI.2.1 (e := eb) (y := y) (by omega) (by omega) (by omega)
  refine z_iadd E dX6_least_16 ?_
  refine z_top (minb (fd S ea eb x y) 0) (rfl) ?_
  refine lv_istore (lv' := [(6, .int (i32 (minb (fd S ea eb x y) 0))), (0, .ref (am 0)), (1, .int (i32 (ea : Int))), (2, .int (i32 (eb : Int))), (3, .int (i32 (x : Int))), (4, .int (i32 (z : Int))), (5, .int (i32 (y : Int)))]) E.1 E.2.1 dX6_least_17 hl (by decide) rfl (fun ls hl => ?_)
  refine lv_iload_n E.1 E.2.1 dX6_least_19 rfl (lv_at hl 4 rfl) ?_
  refine z_iconst E dX6_least_20 ?_
  refine z_iadd E dX6_least_21 ?_
  refine z_top ((x + 0 + 1 : Nat) : Int) (rfl) ?_
  refine lv_istore (lv' := [(7, .int (i32 ((x + 0 + 1 : Nat) : Int))), (6, .int (i32 (minb (fd S ea eb x y) 0))), (0, .ref (am 0)), (1, .int (i32 (ea : Int))), (2, .int (i32 (eb : Int))), (3, .int (i32 (x : Int))), (4, .int (i32 (z : Int))), (5, .int (i32 (y : Int)))]) E.1 E.2.1 dX6_least_22 hl (by decide) rfl (fun ls hl => ?_)
  have key24 : ∀ (N : Nat) (n : Nat) (U : zS) (H : Heap) (locs : List Loc) (ls : Array Slot), (z - (x + n)) < N → (x + n ≤ z) → (MC S U) → zX D B0 (zj C (layM cA am S U)) s.heap H locs → lv_has ls 9 [(0, .ref (am 0)), (1, .int (i32 (ea : Int))), (2, .int (i32 (eb : Int))), (3, .int (i32 (x : Int))), (4, .int (i32 (z : Int))), (5, .int (i32 (y : Int))), (6, .int (i32 (minb (fd S ea eb x y) n))), (7, .int (i32 ((x + n + 1 : Nat) : Int)))] → W p l e rX6_least s m args below meth c H locs 0 0 Q (F0 m 24 ls []) := by
    intro N
    induction N with
    | zero => intros; omega
    | succ N ih24 =>
      intro n U H locs ls hN hn hC X hl
      refine lv_iload E.1 E.2.1 dX6_least_24 (lv_at hl 7 rfl) ?_
      refine lv_iload E.1 E.2.1 dX6_least_26 (lv_at hl 4 rfl) ?_
      refine z_cgt E 74 ⟨by omega, by omega⟩ ⟨by omega, by omega⟩ dX6_least_28 (by decide) (fun h28_7 => ?_) (fun h28_7 => ?_)
      · refine lv_iload E.1 E.2.1 dX6_least_74 (lv_at hl 6 rfl) ?_
        exact z_ret E X hQ (⟨by rw [show z - x = n by omega]; rfl, U, hC, X.1⟩) dX6_least_76
      · have hfm := LST_rng (a := ea) (b := eb) (x := x) (n := n) (y := y) hI he hb (by omega) hy
        unfold LST at hfm
        have hfn : fd S ea eb x y (n + 1) = TM S ea (x + n + 1) y + TM S eb (x + n + 1) y := rfl
        refine lv_aload_n E.1 E.2.1 dX6_least_31 rfl (lv_at hl 0 rfl) ?_
        refine lv_iload_n E.1 E.2.1 dX6_least_32 rfl (lv_at hl 1 rfl) ?_
        refine lv_iload E.1 E.2.1 dX6_least_33 (lv_at hl 7 rfl) ?_
        refine lv_iload E.1 E.2.1 dX6_least_35 (lv_at hl 5 rfl) ?_
        refine z_callV (As := [.int (i32 (ea : Int)), .int (i32 ((x + n + 1 : Nat) : Int)), .int (i32 (y : Int))]) (rest := []) (n := 3) E X (lM_0 C cA am S U) rfl (m_timeOf l D cA B0 C am S U hI hC ea (x + n + 1) y (by omega) (by omega) (by omega)) gX6_least_X6_timeOf rfl (by decide +kernel) ⟨by decide, by decide⟩ rfl hl.1 rfl (Nat.le_of_ble_eq_true rfl) dX6_least_37 ⟨by decide, by decide⟩ X.1 0 0 ⟨rfl, rfl⟩ (fun v H locs hv hS_8 => ?_)
        obtain ⟨rfl, U_9, hC, hw⟩ := hv
        replace X : zX D B0 (zj C (layM cA am S U_9)) s.heap H locs := ⟨hw, hS_8⟩
        have f_10 := TM_rng (x := (x + n + 1)) hI.1 hI.2.1 (e := ea) (y := y) (by omega) (by omega) (by omega)
        refine lv_aload_n E.1 E.2.1 dX6_least_40 rfl (lv_at hl 0 rfl) ?_
        refine lv_iload_n E.1 E.2.1 dX6_least_41 rfl (lv_at hl 2 rfl) ?_
        refine lv_iload E.1 E.2.1 dX6_least_42 (lv_at hl 7 rfl) ?_
        refine lv_iload E.1 E.2.1 dX6_least_44 (lv_at hl 5 rfl) ?_
        refine z_callV (As := [.int (i32 (eb : Int)), .int (i32 ((x + n + 1 : Nat) : Int)), .int (i32 (y : Int))]) (rest := [.int (i32 (TM S ea (x + n + 1) y))]) (n := 3) E X (lM_0 C cA am S U_9) rfl (m_timeOf l D cA B0 C am S U_9 hI hC eb (x + n + 1) y (by omega) (by omega) (by omega)) gX6_least_X6_timeOf rfl (by decide +kernel) ⟨by decide, by decide⟩ rfl hl.1 rfl (Nat.le_of_ble_eq_true rfl) dX6_least_46 ⟨by decide, by decide⟩ X.1 0 0 ⟨rfl, rfl⟩ (fun v H locs hv hS_11 => ?_)
        obtain ⟨rfl, U_12, hC, hw⟩ := hv
        replace X : zX D B0 (zj C (layM cA am S U_12)) s.heap H locs := ⟨hw, hS_11⟩
        have f_13 := TM_rng (x := (x + n + 1)) hI.1 hI.2.1 (e := eb) (y := y) (by omega) (by omega) (by omega)
        refine z_iadd E dX6_least_49 ?_
        refine z_top (fd S ea eb x y (n + 1)) (rfl) ?_
        refine lv_istore (lv' := [(8, .int (i32 (fd S ea eb x y (n + 1)))), (0, .ref (am 0)), (1, .int (i32 (ea : Int))), (2, .int (i32 (eb : Int))), (3, .int (i32 (x : Int))), (4, .int (i32 (z : Int))), (5, .int (i32 (y : Int))), (6, .int (i32 (minb (fd S ea eb x y) n))), (7, .int (i32 ((x + n + 1 : Nat) : Int)))]) E.1 E.2.1 dX6_least_50 hl (by decide) rfl (fun ls hl => ?_)
        refine lv_iload E.1 E.2.1 dX6_least_52 (lv_at hl 0 rfl) ?_
        refine lv_iload E.1 E.2.1 dX6_least_54 (lv_at hl 7 rfl) ?_
        refine z_cge E 64 ⟨by omega, by omega⟩ ⟨by omega, by omega⟩ dX6_least_56 (by decide) (fun h56_14 => ?_) (fun h56_14 => ?_)
        · refine lv_iload E.1 E.2.1 dX6_least_64 (lv_at hl 7 rfl) ?_
          refine z_top (minb (fd S ea eb x y) (n + 1)) (by rw [minb_S, if_neg (by omega)]) ?_
          refine lv_istore (lv' := [(6, .int (i32 (minb (fd S ea eb x y) (n + 1)))), (8, .int (i32 (fd S ea eb x y (n + 1)))), (0, .ref (am 0)), (1, .int (i32 (ea : Int))), (2, .int (i32 (eb : Int))), (3, .int (i32 (x : Int))), (4, .int (i32 (z : Int))), (5, .int (i32 (y : Int))), (7, .int (i32 ((x + n + 1 : Nat) : Int)))]) E.1 E.2.1 dX6_least_66 hl (by decide) rfl (fun ls hl => ?_)
          refine z_iinc (lv' := [(7, .int (i32 ((x + n + 1 + 1 : Nat) : Int))), (6, .int (i32 (minb (fd S ea eb x y) (n + 1)))), (8, .int (i32 (fd S ea eb x y (n + 1)))), (0, .ref (am 0)), (1, .int (i32 (ea : Int))), (2, .int (i32 (eb : Int))), (3, .int (i32 (x : Int))), (4, .int (i32 (z : Int))), (5, .int (i32 (y : Int)))]) E dX6_least_68 hl (k := 8) rfl (by decide) rfl (fun ls hl => ?_)
          refine lv_goto (tgt := 24) E.1 E.2.1 dX6_least_71 (by decide) ?_
          exact ih24 (n + 1) U_12 _ _ _ (by omega) (by omega) hC X (lv_sub hl [3, 4, 5, 6, 7, 8, 1, 0] rfl)
        · refine lv_iload E.1 E.2.1 dX6_least_59 (lv_at hl 0 rfl) ?_
          refine lv_goto (tgt := 66) E.1 E.2.1 dX6_least_61 (by decide) ?_
          refine z_top (minb (fd S ea eb x y) (n + 1)) (by rw [minb_S, if_pos (by omega)]) ?_
          refine lv_istore (lv' := [(6, .int (i32 (minb (fd S ea eb x y) (n + 1)))), (8, .int (i32 (fd S ea eb x y (n + 1)))), (0, .ref (am 0)), (1, .int (i32 (ea : Int))), (2, .int (i32 (eb : Int))), (3, .int (i32 (x : Int))), (4, .int (i32 (z : Int))), (5, .int (i32 (y : Int))), (7, .int (i32 ((x + n + 1 : Nat) : Int)))]) E.1 E.2.1 dX6_least_66 hl (by decide) rfl (fun ls hl => ?_)
          refine z_iinc (lv' := [(7, .int (i32 ((x + n + 1 + 1 : Nat) : Int))), (6, .int (i32 (minb (fd S ea eb x y) (n + 1)))), (8, .int (i32 (fd S ea eb x y (n + 1)))), (0, .ref (am 0)), (1, .int (i32 (ea : Int))), (2, .int (i32 (eb : Int))), (3, .int (i32 (x : Int))), (4, .int (i32 (z : Int))), (5, .int (i32 (y : Int)))]) E dX6_least_68 hl (k := 8) rfl (by decide) rfl (fun ls hl => ?_)
          refine lv_goto (tgt := 24) E.1 E.2.1 dX6_least_71 (by decide) ?_
          exact ih24 (n + 1) U_12 _ _ _ (by omega) (by omega) hC X (lv_sub hl [3, 4, 5, 6, 7, 8, 1, 0] rfl)
  exact key24 ((z - (x + 0)) + 1) 0 U_5 _ _ _ (by omega) (by omega) hC X (lv_sub hl [2, 3, 4, 5, 6, 7, 1, 0] rfl)

abbrev rX6_depthOf : Room := { frames := 1, cells := 0, slots := 0, locals := 20 }
set_option maxHeartbeats 4000000 in
set_option maxRecDepth 100000 in
theorem m_depthOf (l : Launch) (D : va_G) (cA : Nat → ClassId) (B0 : Nat) (C : zL) (am : Nat → Nat) (S U : zS) (hI : SI S) (t : Nat) (ht : (t : Int) < S 8 0) : zM l yX6_depthOf wsX6_depthOf rX6_depthOf [.ref (am 0), .int (i32 (t : Int))] D cA B0 (zW D B0 (zj C (layM cA am S U))) (fun v H => v = some (.int (i32 (dep S t))) ∧ zW D B0 (zj C (layM cA am S U)) H) := by
  refine z_met (cc := cX6_depthOf) (maxL := 2) (ret := (some .int)) (by decide) rfl (Nat.le_of_ble_eq_true rfl) ?_
  intro p e s m args below meth c ls Q hQ E hP hB hS hl
  have hl : lv_has ls 2 [(0, .ref (am 0)), (1, .int (i32 (t : Int)))] := hl
  have iX6 : ∀ w ∈ u_ws RX6 TX6 28, w ∈ wsX6_depthOf := by decide +kernel
  have X : zX D B0 (zj C (layM cA am S U)) s.heap s.heap [] := ⟨hP, hS⟩
  have hI0 := hI.1
  unfold SI0 at hI0
  obtain ⟨b1, b2, b3, b4, b5, b8, b17, b19, b7⟩ := hI0
  have ht2 := hI.2.2.1 t ht
  refine lv_aload_n E.1 E.2.1 dX6_depthOf_0 rfl (lv_at hl 0 rfl) ?_
  refine z_get E X (lM_0 C cA am S U) rfl iX6 9 (by decide) (by decide +kernel) (v := .ref (am 9)) rfl dX6_depthOf_1 ?_
  refine lv_iload_n E.1 E.2.1 dX6_depthOf_4 rfl (lv_at hl 1 rfl) ?_
  refine z_iald E X (lM_9 C cA am S U) t (by omega) (by omega) (by decide) dX6_depthOf_5 ?_
  refine z_iconst E dX6_depthOf_6 ?_
  refine z_cne E 17 ⟨by omega, by omega⟩ ⟨by omega, by omega⟩ dX6_depthOf_7 (by decide) (fun h7_1 => ?_) (fun h7_1 => ?_)
  · refine lv_aload_n E.1 E.2.1 dX6_depthOf_17 rfl (lv_at hl 0 rfl) ?_
    refine z_get E X (lM_0 C cA am S U) rfl iX6 12 (by decide) (by decide +kernel) (v := .ref (am 12)) rfl dX6_depthOf_18 ?_
    refine lv_iload_n E.1 E.2.1 dX6_depthOf_21 rfl (lv_at hl 1 rfl) ?_
    refine z_iald E X (lM_12 C cA am S U) t (by omega) (by omega) (by decide) dX6_depthOf_22 ?_
    exact z_ret E X hQ (⟨by unfold dep; first | rw [if_pos (by omega)] | rw [if_neg (by omega)], X.1⟩) dX6_depthOf_23
  · refine lv_aload_n E.1 E.2.1 dX6_depthOf_10 rfl (lv_at hl 0 rfl) ?_
    refine z_callV (As := []) (rest := []) (n := 0) E X (lM_0 C cA am S U) rfl (m_floor l D cA B0 C am S U ) gX6_depthOf_X6_floor rfl (by decide +kernel) ⟨by decide, by decide⟩ rfl hl.1 rfl (Nat.le_of_ble_eq_true rfl) dX6_depthOf_11 ⟨by decide, by decide⟩ X.1 0 0 ⟨rfl, rfl⟩ (fun v H locs hv hS_2 => ?_)
    obtain ⟨rfl, hw⟩ := hv
    replace X : zX D B0 (zj C (layM cA am S U)) s.heap H locs := ⟨hw, hS_2⟩
    refine lv_goto (tgt := 23) E.1 E.2.1 dX6_depthOf_14 (by decide) ?_
    exact z_ret E X hQ (⟨by unfold dep; first | rw [if_pos (by omega)] | rw [if_neg (by omega)], X.1⟩) dX6_depthOf_23

abbrev rX6_echoOf : Room := { frames := 4, cells := 0, slots := 0, locals := 102 }
set_option maxHeartbeats 4000000 in
set_option maxRecDepth 100000 in
theorem m_echoOf (l : Launch) (D : va_G) (cA : Nat → ClassId) (B0 : Nat) (C : zL) (am : Nat → Nat) (S U : zS) (hI : SI S) (hC : MC S U) (ea eb t : Nat) (he : (ea : Int) < S 5 0) (hb : (eb : Int) < S 5 0) (ht : (t : Int) < S 8 0) : zM l yX6_echoOf wsX6_echoOf rX6_echoOf [.ref (am 0), .int (i32 (ea : Int)), .int (i32 (eb : Int)), .int (i32 (t : Int))] D cA B0 (zW D B0 (zj C (layM cA am S U))) (fun v H => v = some (.int (i32 (ET S ea eb t))) ∧ ∃ U : zS, MC S U ∧ zW D B0 (zj C (layM cA am S U)) H) := by
  refine z_met (cc := cX6_echoOf) (maxL := 4) (ret := (some .int)) (by decide) rfl (Nat.le_of_ble_eq_true rfl) ?_
  intro p e s m args below meth c ls Q hQ E hP hB hS hl
  have hl : lv_has ls 4 [(0, .ref (am 0)), (1, .int (i32 (ea : Int))), (2, .int (i32 (eb : Int))), (3, .int (i32 (t : Int)))] := hl
  have iX6 : ∀ w ∈ u_ws RX6 TX6 28, w ∈ wsX6_echoOf := by decide +kernel
  have X : zX D B0 (zj C (layM cA am S U)) s.heap s.heap [] := ⟨hP, hS⟩
  have hI0 := hI.1
  unfold SI0 at hI0
  obtain ⟨b1, b2, b3, b4, b5, b8, b17, b19, b7⟩ := hI0
  have ht2 := (hI.2.2.1 t ht).2.1
  have hdp := dep_rng (t := t) hI ht
  refine lv_aload_n E.1 E.2.1 dX6_echoOf_0 rfl (lv_at hl 0 rfl) ?_
  refine lv_iload_n E.1 E.2.1 dX6_echoOf_1 rfl (lv_at hl 1 rfl) ?_
  refine lv_iload_n E.1 E.2.1 dX6_echoOf_2 rfl (lv_at hl 2 rfl) ?_
  refine lv_aload_n E.1 E.2.1 dX6_echoOf_3 rfl (lv_at hl 0 rfl) ?_
  refine z_get E X (lM_0 C cA am S U) rfl iX6 10 (by decide) (by decide +kernel) (v := .ref (am 10)) rfl dX6_echoOf_4 ?_
  refine lv_iload_n E.1 E.2.1 dX6_echoOf_7 rfl (lv_at hl 3 rfl) ?_
  refine z_iald E X (lM_10 C cA am S U) t (by omega) (by omega) (by decide) dX6_echoOf_8 ?_
  refine z_top (((S 10 t).toNat : Nat) : Int) (by omega) ?_
  refine lv_aload_n E.1 E.2.1 dX6_echoOf_9 rfl (lv_at hl 0 rfl) ?_
  refine z_get E X (lM_0 C cA am S U) rfl iX6 11 (by decide) (by decide +kernel) (v := .ref (am 11)) rfl dX6_echoOf_10 ?_
  refine lv_iload_n E.1 E.2.1 dX6_echoOf_13 rfl (lv_at hl 3 rfl) ?_
  refine z_iald E X (lM_11 C cA am S U) t (by omega) (by omega) (by decide) dX6_echoOf_14 ?_
  refine z_top (((S 11 t).toNat : Nat) : Int) (by omega) ?_
  refine lv_aload_n E.1 E.2.1 dX6_echoOf_15 rfl (lv_at hl 0 rfl) ?_
  refine lv_iload_n E.1 E.2.1 dX6_echoOf_16 rfl (lv_at hl 3 rfl) ?_
  refine z_callV (As := [.int (i32 (t : Int))]) (rest := [.int (i32 (((S 11 t).toNat : Nat) : Int)), .int (i32 (((S 10 t).toNat : Nat) : Int)), .int (i32 (eb : Int)), .int (i32 (ea : Int)), .ref (am 0)]) (n := 1) E X (lM_0 C cA am S U) rfl (m_depthOf l D cA B0 C am S U hI t (by omega)) gX6_echoOf_X6_depthOf rfl (by decide +kernel) ⟨by decide, by decide⟩ rfl hl.1 rfl (Nat.le_of_ble_eq_true rfl) dX6_echoOf_17 ⟨by decide, by decide⟩ X.1 0 0 ⟨rfl, rfl⟩ (fun v H locs hv hS_1 => ?_)
  obtain ⟨rfl, hw⟩ := hv
  replace X : zX D B0 (zj C (layM cA am S U)) s.heap H locs := ⟨hw, hS_1⟩
  have f_2 := dep_rng (t := t) hI (by omega)
  refine z_top (((dep S t).toNat : Nat) : Int) (by omega) ?_
  refine z_callV (As := [.int (i32 (ea : Int)), .int (i32 (eb : Int)), .int (i32 (((S 10 t).toNat : Nat) : Int)), .int (i32 (((S 11 t).toNat : Nat) : Int)), .int (i32 (((dep S t).toNat : Nat) : Int))]) (rest := []) (n := 5) E X (lM_0 C cA am S U) rfl (m_least l D cA B0 C am S U hI hC ea eb ((S 10 t).toNat) ((S 11 t).toNat) ((dep S t).toNat) (by omega) (by omega) (by omega) (by omega) (by omega)) gX6_echoOf_X6_least rfl (by decide +kernel) ⟨by decide, by decide⟩ rfl hl.1 rfl (Nat.le_of_ble_eq_true rfl) dX6_echoOf_20 ⟨by decide, by decide⟩ X.1 0 0 ⟨rfl, rfl⟩ (fun v H locs hv hS_3 => ?_)
  obtain ⟨rfl, U_4, hC, hw⟩ := hv
  replace X : zX D B0 (zj C (layM cA am S U_4)) s.heap H locs := ⟨hw, hS_3⟩
  have f_5 := LST_rng (a := ea) (b := eb) (x := ((S 10 t).toNat)) (n := ((S 11 t).toNat) - ((S 10 t).toNat)) (y := ((dep S t).toNat)) hI (by omega) (by omega) (by omega) (by omega)
  refine z_top (ET S ea eb t) (by unfold ET; rw [show (S 11 t - S 10 t).toNat = (S 11 t).toNat - (S 10 t).toNat by omega]) ?_
  exact z_ret E X hQ (⟨rfl, U_4, hC, X.1⟩) dX6_echoOf_23

abbrev rX6_echoAt : Room := { frames := 5, cells := 0, slots := 0, locals := 125 }
set_option maxHeartbeats 4000000 in
set_option maxRecDepth 100000 in
theorem m_echoAt (l : Launch) (D : va_G) (cA : Nat → ClassId) (B0 : Nat) (C : zL) (am : Nat → Nat) (S U : zS) (hI : SI S) (hC : MC S U) (ea eb : Nat) (tick : Int) (he : (ea : Int) < S 5 0) (hb : (eb : Int) < S 5 0) (ht : zrl tick) : zM l yX6_echoAt wsX6_echoAt rX6_echoAt [.ref (am 0), .int (i32 (ea : Int)), .int (i32 (eb : Int)), .long (i64 tick)] D cA B0 (zW D B0 (zj C (layM cA am S U))) (fun v H => v = some (.int (i32 (EC S ea eb tick))) ∧ ∃ U : zS, MC S U ∧ zW D B0 (zj C (layM cA am S U)) H) := by
  refine z_met (cc := cX6_echoAt) (maxL := 7) (ret := (some .int)) (by decide) rfl (Nat.le_of_ble_eq_true rfl) ?_
  intro p e s m args below meth c ls Q hQ E hP hB hS hl
  have hl : lv_has ls 7 [(0, .ref (am 0)), (1, .int (i32 (ea : Int))), (2, .int (i32 (eb : Int))), (3, .long (i64 tick))] := hl
  have iX6 : ∀ w ∈ u_ws RX6 TX6 28, w ∈ wsX6_echoAt := by decide +kernel
  have X : zX D B0 (zj C (layM cA am S U)) s.heap s.heap [] := ⟨hP, hS⟩
  have hI0 := hI.1
  unfold SI0 at hI0
  obtain ⟨b1, b2, b3, b4, b5, b8, b17, b19, b7⟩ := hI0
  unfold zrl at ht
  have l1 := b7 ea
  have l2 := b7 eb
  refine z_iconst E dX6_echoAt_0 ?_
  refine z_top (sumn (fec S ea eb tick) 0) (rfl) ?_
  refine lv_istore (lv' := [(5, .int (i32 (sumn (fec S ea eb tick) 0))), (0, .ref (am 0)), (1, .int (i32 (ea : Int))), (2, .int (i32 (eb : Int))), (3, .long (i64 tick))]) E.1 E.2.1 dX6_echoAt_1 hl (by decide) rfl (fun ls hl => ?_)
  refine z_iconst E dX6_echoAt_3 ?_
  refine z_top (0 : Int) (rfl) ?_
  refine lv_istore (lv' := [(6, .int (i32 (0 : Int))), (5, .int (i32 (sumn (fec S ea eb tick) 0))), (0, .ref (am 0)), (1, .int (i32 (ea : Int))), (2, .int (i32 (eb : Int))), (3, .long (i64 tick))]) E.1 E.2.1 dX6_echoAt_4 hl (by decide) rfl (fun ls hl => ?_)
  have key6 : ∀ (N : Nat) (n : Nat) (U : zS) (H : Heap) (locs : List Loc) (ls : Array Slot), ((S 8 0).toNat - n) < N → ((n : Int) ≤ S 8 0) → (MC S U) → (0 < n → S 7 ea = 0 ∧ S 7 eb = 0) → zX D B0 (zj C (layM cA am S U)) s.heap H locs → lv_has ls 7 [(0, .ref (am 0)), (1, .int (i32 (ea : Int))), (2, .int (i32 (eb : Int))), (3, .long (i64 tick)), (5, .int (i32 (sumn (fec S ea eb tick) n))), (6, .int (i32 (n : Int)))] → W p l e rX6_echoAt s m args below meth c H locs 0 0 Q (F0 m 6 ls []) := by
    intro N
    induction N with
    | zero => intros; omega
    | succ N ih6 =>
      intro n U H locs ls hN hn hC hk X hl
      refine lv_iload E.1 E.2.1 dX6_echoAt_6 (lv_at hl 5 rfl) ?_
      refine lv_aload_n E.1 E.2.1 dX6_echoAt_8 rfl (lv_at hl 0 rfl) ?_
      refine z_get E X (lM_0 C cA am S U) rfl iX6 8 (by decide) (by decide +kernel) (v := .int (i32 (S 8 0))) rfl dX6_echoAt_9 ?_
      refine z_cge E 69 ⟨by omega, by omega⟩ ⟨by omega, by omega⟩ dX6_echoAt_12 (by decide) (fun h12_1 => ?_) (fun h12_1 => ?_)
      · refine lv_iload E.1 E.2.1 dX6_echoAt_69 (lv_at hl 4 rfl) ?_
        exact z_ret E X hQ (⟨by first | rw [EC_full (by omega) hn hk] | rw [EC_lost (by omega) hk], U, hC, X.1⟩) dX6_echoAt_71
      · refine lv_aload_n E.1 E.2.1 dX6_echoAt_15 rfl (lv_at hl 0 rfl) ?_
        refine z_get E X (lM_0 C cA am S U) rfl iX6 7 (by decide) (by decide +kernel) (v := .ref (am 7)) rfl dX6_echoAt_16 ?_
        refine lv_iload_n E.1 E.2.1 dX6_echoAt_19 rfl (lv_at hl 1 rfl) ?_
        refine z_zald E X (lM_7 C cA am S U) ea (by omega) (by omega) (by decide) dX6_echoAt_20 ?_
        refine z_fne E 69 ⟨by omega, by omega⟩ dX6_echoAt_21 (by decide) (fun h21_2 => ?_) (fun h21_2 => ?_)
        · refine lv_iload E.1 E.2.1 dX6_echoAt_69 (lv_at hl 4 rfl) ?_
          exact z_ret E X hQ (⟨by first | rw [EC_full (by omega) hn hk] | rw [EC_lost (by omega) hk], U, hC, X.1⟩) dX6_echoAt_71
        · refine lv_aload_n E.1 E.2.1 dX6_echoAt_24 rfl (lv_at hl 0 rfl) ?_
          refine z_get E X (lM_0 C cA am S U) rfl iX6 7 (by decide) (by decide +kernel) (v := .ref (am 7)) rfl dX6_echoAt_25 ?_
          refine lv_iload_n E.1 E.2.1 dX6_echoAt_28 rfl (lv_at hl 2 rfl) ?_
          refine z_zald E X (lM_7 C cA am S U) eb (by omega) (by omega) (by decide) dX6_echoAt_29 ?_
          refine z_fne E 69 ⟨by omega, by omega⟩ dX6_echoAt_30 (by decide) (fun h30_3 => ?_) (fun h30_3 => ?_)
          · refine lv_iload E.1 E.2.1 dX6_echoAt_69 (lv_at hl 4 rfl) ?_
            exact z_ret E X hQ (⟨by first | rw [EC_full (by omega) hn hk] | rw [EC_lost (by omega) hk], U, hC, X.1⟩) dX6_echoAt_71
          · refine lv_iload E.1 E.2.1 dX6_echoAt_33 (lv_at hl 4 rfl) ?_
            refine lv_aload_n E.1 E.2.1 dX6_echoAt_35 rfl (lv_at hl 0 rfl) ?_
            refine lv_iload_n E.1 E.2.1 dX6_echoAt_36 rfl (lv_at hl 1 rfl) ?_
            refine lv_iload_n E.1 E.2.1 dX6_echoAt_37 rfl (lv_at hl 2 rfl) ?_
            refine lv_iload E.1 E.2.1 dX6_echoAt_38 (lv_at hl 5 rfl) ?_
            refine z_callV (As := [.int (i32 (ea : Int)), .int (i32 (eb : Int)), .int (i32 (n : Int))]) (rest := [.int (i32 (sumn (fec S ea eb tick) n))]) (n := 3) E X (lM_0 C cA am S U) rfl (m_echoOf l D cA B0 C am S U hI hC ea eb n (by omega) (by omega) (by omega)) gX6_echoAt_X6_echoOf rfl (by decide +kernel) ⟨by decide, by decide⟩ rfl hl.1 rfl (Nat.le_of_ble_eq_true rfl) dX6_echoAt_40 ⟨by decide, by decide⟩ X.1 0 0 ⟨rfl, rfl⟩ (fun v H locs hv hS_4 => ?_)
            obtain ⟨rfl, U_5, hC, hw⟩ := hv
            replace X : zX D B0 (zj C (layM cA am S U_5)) s.heap H locs := ⟨hw, hS_4⟩
            have f_6 := ET_rng (a := ea) (b := eb) (t := n) hI (by omega) (by omega) (by omega)
            refine z_i2l E ⟨by omega, by omega⟩ dX6_echoAt_43 ?_
            refine lv_lload_n E.1 E.2.1 dX6_echoAt_44 rfl (lv_at hl 3 rfl) ?_
            refine z_lcmp E ⟨by omega, by omega⟩ ⟨by omega, by omega⟩ dX6_echoAt_45 (fun z_7 hrz_7 hlz_7 hez_7 => ?_)
            unfold zr at hrz_7
            refine z_fne E 59 ⟨by omega, by omega⟩ dX6_echoAt_46 (by decide) (fun h46_8 => ?_) (fun h46_8 => ?_)
            · refine z_iconst E dX6_echoAt_59 ?_
              refine z_iadd E dX6_echoAt_60 ?_
              refine z_top (sumn (fec S ea eb tick) (n + 1)) (by rw [sumn_S, fec, if_neg (by omega)]) ?_
              refine lv_istore (lv' := [(5, .int (i32 (sumn (fec S ea eb tick) (n + 1)))), (0, .ref (am 0)), (1, .int (i32 (ea : Int))), (2, .int (i32 (eb : Int))), (3, .long (i64 tick)), (6, .int (i32 (n : Int)))]) E.1 E.2.1 dX6_echoAt_61 hl (by decide) rfl (fun ls hl => ?_)
              refine z_iinc (lv' := [(6, .int (i32 ((n + 1 : Nat) : Int))), (5, .int (i32 (sumn (fec S ea eb tick) (n + 1)))), (0, .ref (am 0)), (1, .int (i32 (ea : Int))), (2, .int (i32 (eb : Int))), (3, .long (i64 tick))]) E dX6_echoAt_63 hl (k := 5) rfl (by decide) rfl (fun ls hl => ?_)
              refine lv_goto (tgt := 6) E.1 E.2.1 dX6_echoAt_66 (by decide) ?_
              exact ih6 (n + 1) U_5 _ _ _ (by omega) (by omega) hC (fun _ => by omega) X (lv_sub hl [2, 3, 4, 5, 1, 0] rfl)
            · refine lv_aload_n E.1 E.2.1 dX6_echoAt_49 rfl (lv_at hl 0 rfl) ?_
              refine z_get E X (lM_0 C cA am S U_5) rfl iX6 13 (by decide) (by decide +kernel) (v := .ref (am 13)) rfl dX6_echoAt_50 ?_
              refine lv_iload E.1 E.2.1 dX6_echoAt_53 (lv_at hl 5 rfl) ?_
              refine z_iald E X (lM_13 C cA am S U_5) n (by omega) (by omega) (by decide) dX6_echoAt_55 ?_
              refine lv_goto (tgt := 60) E.1 E.2.1 dX6_echoAt_56 (by decide) ?_
              refine z_iadd E dX6_echoAt_60 ?_
              refine z_top (sumn (fec S ea eb tick) (n + 1)) (by rw [sumn_S, fec, if_pos (by omega)]) ?_
              refine lv_istore (lv' := [(5, .int (i32 (sumn (fec S ea eb tick) (n + 1)))), (0, .ref (am 0)), (1, .int (i32 (ea : Int))), (2, .int (i32 (eb : Int))), (3, .long (i64 tick)), (6, .int (i32 (n : Int)))]) E.1 E.2.1 dX6_echoAt_61 hl (by decide) rfl (fun ls hl => ?_)
              refine z_iinc (lv' := [(6, .int (i32 ((n + 1 : Nat) : Int))), (5, .int (i32 (sumn (fec S ea eb tick) (n + 1)))), (0, .ref (am 0)), (1, .int (i32 (ea : Int))), (2, .int (i32 (eb : Int))), (3, .long (i64 tick))]) E dX6_echoAt_63 hl (k := 5) rfl (by decide) rfl (fun ls hl => ?_)
              refine lv_goto (tgt := 6) E.1 E.2.1 dX6_echoAt_66 (by decide) ?_
              exact ih6 (n + 1) U_5 _ _ _ (by omega) (by omega) hC (fun _ => by omega) X (lv_sub hl [2, 3, 4, 5, 1, 0] rfl)
  exact key6 (((S 8 0).toNat - 0) + 1) 0 U _ _ _ (by omega) (by omega) hC (fun h => absurd h (Nat.lt_irrefl 0)) X (lv_sub hl [2, 3, 4, 5, 1, 0] rfl)

abbrev rX6_heardAt : Room := { frames := 6, cells := 0, slots := 0, locals := 151 }
set_option maxHeartbeats 4000000 in
set_option maxRecDepth 100000 in
theorem m_heardAt (l : Launch) (D : va_G) (cA : Nat → ClassId) (B0 : Nat) (C : zL) (am : Nat → Nat) (S U : zS) (hI : SI S) (hC : MC S U) (q : Nat) (tick : Int) (he : (q : Int) < S 5 0) (ht : -1000000000000 ≤ tick ∧ tick ≤ 1000000000000) : zM l yX6_heardAt wsX6_heardAt rX6_heardAt [.ref (am 0), .int (i32 (q : Int)), .long (i64 tick)] D cA B0 (zW D B0 (zj C (layM cA am S U))) (fun v H => v = some (.int (i32 (HD S q tick))) ∧ ∃ U : zS, MC S U ∧ zW D B0 (zj C (layM cA am S U)) H) := by
  refine z_met (cc := cX6_heardAt) (maxL := 6) (ret := (some .int)) (by decide) rfl (Nat.le_of_ble_eq_true rfl) ?_
  intro p e s m args below meth c ls Q hQ E hP hB hS hl
  have hl : lv_has ls 6 [(0, .ref (am 0)), (1, .int (i32 (q : Int))), (2, .long (i64 tick))] := hl
  have iX6 : ∀ w ∈ u_ws RX6 TX6 28, w ∈ wsX6_heardAt := by decide +kernel
  have X : zX D B0 (zj C (layM cA am S U)) s.heap s.heap [] := ⟨hP, hS⟩
  have hI0 := hI.1
  unfold SI0 at hI0
  obtain ⟨b1, b2, b3, b4, b5, b8, b17, b19, b7⟩ := hI0
  refine z_iconst E dX6_heardAt_0 ?_
  refine z_top (sumn (fhd S q tick) 0) (rfl) ?_
  refine lv_istore (lv' := [(4, .int (i32 (sumn (fhd S q tick) 0))), (0, .ref (am 0)), (1, .int (i32 (q : Int))), (2, .long (i64 tick))]) E.1 E.2.1 dX6_heardAt_1 hl (by decide) rfl (fun ls hl => ?_)
  refine z_iconst E dX6_heardAt_3 ?_
  refine z_top (0 : Int) (rfl) ?_
  refine lv_istore (lv' := [(5, .int (i32 (0 : Int))), (4, .int (i32 (sumn (fhd S q tick) 0))), (0, .ref (am 0)), (1, .int (i32 (q : Int))), (2, .long (i64 tick))]) E.1 E.2.1 dX6_heardAt_4 hl (by decide) rfl (fun ls hl => ?_)
  have key6 : ∀ (N : Nat) (n : Nat) (U : zS) (H : Heap) (locs : List Loc) (ls : Array Slot), ((S 5 0).toNat - n) < N → ((n : Int) ≤ S 5 0) → (MC S U) → zX D B0 (zj C (layM cA am S U)) s.heap H locs → lv_has ls 6 [(0, .ref (am 0)), (1, .int (i32 (q : Int))), (2, .long (i64 tick)), (4, .int (i32 (sumn (fhd S q tick) n))), (5, .int (i32 (n : Int)))] → W p l e rX6_heardAt s m args below meth c H locs 0 0 Q (F0 m 6 ls []) := by
    intro N
    induction N with
    | zero => intros; omega
    | succ N ih6 =>
      intro n U H locs ls hN hn hC X hl
      refine lv_iload E.1 E.2.1 dX6_heardAt_6 (lv_at hl 4 rfl) ?_
      refine lv_aload_n E.1 E.2.1 dX6_heardAt_8 rfl (lv_at hl 0 rfl) ?_
      refine z_get E X (lM_0 C cA am S U) rfl iX6 5 (by decide) (by decide +kernel) (v := .int (i32 (S 5 0))) rfl dX6_heardAt_9 ?_
      refine z_cge E 57 ⟨by omega, by omega⟩ ⟨by omega, by omega⟩ dX6_heardAt_12 (by decide) (fun h12_1 => ?_) (fun h12_1 => ?_)
      · refine lv_iload E.1 E.2.1 dX6_heardAt_57 (lv_at hl 3 rfl) ?_
        exact z_ret E X hQ (⟨by unfold HD; rw [show (S 5 0).toNat = n by omega], U, hC, X.1⟩) dX6_heardAt_59
      · have l1 := b7 n
        have l2 := hI.2.2.2.2.2 n
        refine lv_iload E.1 E.2.1 dX6_heardAt_15 (lv_at hl 3 rfl) ?_
        refine lv_aload_n E.1 E.2.1 dX6_heardAt_17 rfl (lv_at hl 0 rfl) ?_
        refine z_get E X (lM_0 C cA am S U) rfl iX6 7 (by decide) (by decide +kernel) (v := .ref (am 7)) rfl dX6_heardAt_18 ?_
        refine lv_iload E.1 E.2.1 dX6_heardAt_21 (lv_at hl 4 rfl) ?_
        refine z_zald E X (lM_7 C cA am S U) n (by omega) (by omega) (by decide) dX6_heardAt_23 ?_
        refine z_feq E 31 ⟨by omega, by omega⟩ dX6_heardAt_24 (by decide) (fun h24_2 => ?_) (fun h24_2 => ?_)
        · refine lv_aload_n E.1 E.2.1 dX6_heardAt_31 rfl (lv_at hl 0 rfl) ?_
          refine lv_iload E.1 E.2.1 dX6_heardAt_32 (lv_at hl 4 rfl) ?_
          refine lv_iload_n E.1 E.2.1 dX6_heardAt_34 rfl (lv_at hl 1 rfl) ?_
          refine lv_lload_n E.1 E.2.1 dX6_heardAt_35 rfl (lv_at hl 2 rfl) ?_
          refine lv_aload_n E.1 E.2.1 dX6_heardAt_36 rfl (lv_at hl 0 rfl) ?_
          refine z_get E X (lM_0 C cA am S U) rfl iX6 18 (by decide) (by decide +kernel) (v := .ref (am 18)) rfl dX6_heardAt_37 ?_
          refine lv_iload E.1 E.2.1 dX6_heardAt_40 (lv_at hl 4 rfl) ?_
          refine z_iald E X (lM_18 C cA am S U) n (by omega) (by omega) (by decide) dX6_heardAt_42 ?_
          refine z_i2l E ⟨by omega, by omega⟩ dX6_heardAt_43 ?_
          refine z_lsub E dX6_heardAt_44 ?_
          refine z_callV (As := [.int (i32 (n : Int)), .int (i32 (q : Int)), .long (i64 (tick - (S 18 n)))]) (rest := [.int (i32 (sumn (fhd S q tick) n))]) (n := 3) E X (lM_0 C cA am S U) rfl (m_echoAt l D cA B0 C am S U hI hC n q (tick - (S 18 n)) (by omega) (by omega) (by unfold zrl; omega)) gX6_heardAt_X6_echoAt rfl (by decide +kernel) ⟨by decide, by decide⟩ rfl hl.1 rfl (Nat.le_of_ble_eq_true rfl) dX6_heardAt_45 ⟨by decide, by decide⟩ X.1 0 0 ⟨rfl, rfl⟩ (fun v H locs hv hS_3 => ?_)
          obtain ⟨rfl, U_4, hC, hw⟩ := hv
          replace X : zX D B0 (zj C (layM cA am S U_4)) s.heap H locs := ⟨hw, hS_3⟩
          have f_5 := EC_rng (a := n) (b := q) (tick := (tick - (S 18 n))) hI
          refine z_iadd E dX6_heardAt_48 ?_
          refine z_top (sumn (fhd S q tick) (n + 1)) (by rw [sumn_S, fhd, if_pos (by omega)]) ?_
          refine lv_istore (lv' := [(4, .int (i32 (sumn (fhd S q tick) (n + 1)))), (0, .ref (am 0)), (1, .int (i32 (q : Int))), (2, .long (i64 tick)), (5, .int (i32 (n : Int)))]) E.1 E.2.1 dX6_heardAt_49 hl (by decide) rfl (fun ls hl => ?_)
          refine z_iinc (lv' := [(5, .int (i32 ((n + 1 : Nat) : Int))), (4, .int (i32 (sumn (fhd S q tick) (n + 1)))), (0, .ref (am 0)), (1, .int (i32 (q : Int))), (2, .long (i64 tick))]) E dX6_heardAt_51 hl (k := 4) rfl (by decide) rfl (fun ls hl => ?_)
          refine lv_goto (tgt := 6) E.1 E.2.1 dX6_heardAt_54 (by decide) ?_
          exact ih6 (n + 1) U_4 _ _ _ (by omega) (by omega) hC X (lv_sub hl [2, 3, 4, 1, 0] rfl)
        · refine z_iconst E dX6_heardAt_27 ?_
          refine lv_goto (tgt := 48) E.1 E.2.1 dX6_heardAt_28 (by decide) ?_
          refine z_iadd E dX6_heardAt_48 ?_
          refine z_top (sumn (fhd S q tick) (n + 1)) (by rw [sumn_S, fhd, if_neg (by omega)]) ?_
          refine lv_istore (lv' := [(4, .int (i32 (sumn (fhd S q tick) (n + 1)))), (0, .ref (am 0)), (1, .int (i32 (q : Int))), (2, .long (i64 tick)), (5, .int (i32 (n : Int)))]) E.1 E.2.1 dX6_heardAt_49 hl (by decide) rfl (fun ls hl => ?_)
          refine z_iinc (lv' := [(5, .int (i32 ((n + 1 : Nat) : Int))), (4, .int (i32 (sumn (fhd S q tick) (n + 1)))), (0, .ref (am 0)), (1, .int (i32 (q : Int))), (2, .long (i64 tick))]) E dX6_heardAt_51 hl (k := 4) rfl (by decide) rfl (fun ls hl => ?_)
          refine lv_goto (tgt := 6) E.1 E.2.1 dX6_heardAt_54 (by decide) ?_
          exact ih6 (n + 1) U _ _ _ (by omega) (by omega) hC X (lv_sub hl [2, 3, 4, 1, 0] rfl)
  exact key6 (((S 5 0).toNat - 0) + 1) 0 U _ _ _ (by omega) (by omega) hC X (lv_sub hl [2, 3, 4, 1, 0] rfl)

abbrev rX6_isNear : Room := { frames := 3, cells := 0, slots := 0, locals := 74 }
set_option maxHeartbeats 4000000 in
set_option maxRecDepth 100000 in
theorem m_isNear (l : Launch) (D : va_G) (cA : Nat → ClassId) (B0 : Nat) (C : zL) (am : Nat → Nat) (S U : zS) (hI : SI S) (hC : MC S U) (x y : Nat) (wi : Int) (hx : x ≤ 50) (hy : S 1 0 ≤ (y : Int) ∧ (y : Int) ≤ S 1 0 + S 2 0) (hwi : 0 ≤ wi ∧ wi ≤ 100) : zM l yX6_isNear wsX6_isNear rX6_isNear [.ref (am 0), .int (i32 (x : Int)), .int (i32 (y : Int)), .int (i32 wi)] D cA B0 (zW D B0 (zj C (layM cA am S U))) (fun v H => (∃ z : Int, v = some (.int (i32 z)) ∧ z = if nearb S wi x y then 1 else 0) ∧ ∃ U : zS, MC S U ∧ zW D B0 (zj C (layM cA am S U)) H) := by
  refine z_met (cc := cX6_isNear) (maxL := 6) (ret := (some .boolean)) (by decide) rfl (Nat.le_of_ble_eq_true rfl) ?_
  intro p e s m args below meth c ls Q hQ E hP hB hS hl
  have hl : lv_has ls 6 [(0, .ref (am 0)), (1, .int (i32 (x : Int))), (2, .int (i32 (y : Int))), (3, .int (i32 wi))] := hl
  have iX6 : ∀ w ∈ u_ws RX6 TX6 28, w ∈ wsX6_isNear := by decide +kernel
  have X : zX D B0 (zj C (layM cA am S U)) s.heap s.heap [] := ⟨hP, hS⟩
  have hI0 := hI.1
  unfold SI0 at hI0
  obtain ⟨b1, b2, b3, b4, b5, b8, b17, b19, b7⟩ := hI0
  refine z_iconst E dX6_isNear_0 ?_
  refine z_top (0 : Int) (rfl) ?_
  refine lv_istore (lv' := [(4, .int (i32 (0 : Int))), (0, .ref (am 0)), (1, .int (i32 (x : Int))), (2, .int (i32 (y : Int))), (3, .int (i32 wi))]) E.1 E.2.1 dX6_isNear_1 hl (by decide) rfl (fun ls hl => ?_)
  have key3 : ∀ (N : Nat) (n : Nat) (U : zS) (H : Heap) (locs : List Loc) (ls : Array Slot), ((S 19 0).toNat - n) < N → ((n : Int) ≤ S 19 0) → (MC S U) → (alln (fnb S wi x y) n = true) → zX D B0 (zj C (layM cA am S U)) s.heap H locs → lv_has ls 6 [(0, .ref (am 0)), (1, .int (i32 (x : Int))), (2, .int (i32 (y : Int))), (3, .int (i32 wi)), (4, .int (i32 (n : Int)))] → W p l e rX6_isNear s m args below meth c H locs 0 0 Q (F0 m 3 ls []) := by
    intro N
    induction N with
    | zero => intros; omega
    | succ N ih3 =>
      intro n U H locs ls hN hn hC hal X hl
      refine lv_iload E.1 E.2.1 dX6_isNear_3 (lv_at hl 4 rfl) ?_
      refine lv_aload_n E.1 E.2.1 dX6_isNear_5 rfl (lv_at hl 0 rfl) ?_
      refine z_get E X (lM_0 C cA am S U) rfl iX6 19 (by decide) (by decide +kernel) (v := .int (i32 (S 19 0))) rfl dX6_isNear_6 ?_
      refine z_cge E 71 ⟨by omega, by omega⟩ ⟨by omega, by omega⟩ dX6_isNear_9 (by decide) (fun h9_1 => ?_) (fun h9_1 => ?_)
      · refine z_iconst E dX6_isNear_71 ?_
        have hya : nearb S wi x y = true := by unfold nearb; rw [show (S 19 0).toNat = n by omega]; exact hal
        exact z_retz E X hQ (by omega) (⟨⟨1, rfl, by rw [hya]; rfl⟩, U, hC, X.1⟩) dX6_isNear_72
      · have h3 := hI.2.2.2.1 n (by omega)
        refine lv_aload_n E.1 E.2.1 dX6_isNear_12 rfl (lv_at hl 0 rfl) ?_
        refine lv_aload_n E.1 E.2.1 dX6_isNear_13 rfl (lv_at hl 0 rfl) ?_
        refine z_get E X (lM_0 C cA am S U) rfl iX6 20 (by decide) (by decide +kernel) (v := .ref (am 20)) rfl dX6_isNear_14 ?_
        refine lv_iload E.1 E.2.1 dX6_isNear_17 (lv_at hl 4 rfl) ?_
        refine z_iald E X (lM_20 C cA am S U) n (by omega) (by omega) (by decide) dX6_isNear_19 ?_
        refine z_top (((S 20 n).toNat : Nat) : Int) (by omega) ?_
        refine lv_iload_n E.1 E.2.1 dX6_isNear_20 rfl (lv_at hl 1 rfl) ?_
        refine lv_iload_n E.1 E.2.1 dX6_isNear_21 rfl (lv_at hl 2 rfl) ?_
        refine z_callV (As := [.int (i32 (((S 20 n).toNat : Nat) : Int)), .int (i32 (x : Int)), .int (i32 (y : Int))]) (rest := []) (n := 3) E X (lM_0 C cA am S U) rfl (m_timeOf l D cA B0 C am S U hI hC ((S 20 n).toNat) x y (by omega) (by omega) (by omega)) gX6_isNear_X6_timeOf rfl (by decide +kernel) ⟨by decide, by decide⟩ rfl hl.1 rfl (Nat.le_of_ble_eq_true rfl) dX6_isNear_22 ⟨by decide, by decide⟩ X.1 0 0 ⟨rfl, rfl⟩ (fun v H locs hv hS_2 => ?_)
        obtain ⟨rfl, U_3, hC, hw⟩ := hv
        replace X : zX D B0 (zj C (layM cA am S U_3)) s.heap H locs := ⟨hw, hS_2⟩
        have f_4 := TM_rng (x := x) hI.1 hI.2.1 (e := ((S 20 n).toNat)) (y := y) (by omega) (by omega) (by omega)
        refine lv_aload_n E.1 E.2.1 dX6_isNear_25 rfl (lv_at hl 0 rfl) ?_
        refine lv_aload_n E.1 E.2.1 dX6_isNear_26 rfl (lv_at hl 0 rfl) ?_
        refine z_get E X (lM_0 C cA am S U_3) rfl iX6 21 (by decide) (by decide +kernel) (v := .ref (am 21)) rfl dX6_isNear_27 ?_
        refine lv_iload E.1 E.2.1 dX6_isNear_30 (lv_at hl 4 rfl) ?_
        refine z_iald E X (lM_21 C cA am S U_3) n (by omega) (by omega) (by decide) dX6_isNear_32 ?_
        refine z_top (((S 21 n).toNat : Nat) : Int) (by omega) ?_
        refine lv_iload_n E.1 E.2.1 dX6_isNear_33 rfl (lv_at hl 1 rfl) ?_
        refine lv_iload_n E.1 E.2.1 dX6_isNear_34 rfl (lv_at hl 2 rfl) ?_
        refine z_callV (As := [.int (i32 (((S 21 n).toNat : Nat) : Int)), .int (i32 (x : Int)), .int (i32 (y : Int))]) (rest := [.int (i32 (TM S ((S 20 n).toNat) x y))]) (n := 3) E X (lM_0 C cA am S U_3) rfl (m_timeOf l D cA B0 C am S U_3 hI hC ((S 21 n).toNat) x y (by omega) (by omega) (by omega)) gX6_isNear_X6_timeOf rfl (by decide +kernel) ⟨by decide, by decide⟩ rfl hl.1 rfl (Nat.le_of_ble_eq_true rfl) dX6_isNear_35 ⟨by decide, by decide⟩ X.1 0 0 ⟨rfl, rfl⟩ (fun v H locs hv hS_5 => ?_)
        obtain ⟨rfl, U_6, hC, hw⟩ := hv
        replace X : zX D B0 (zj C (layM cA am S U_6)) s.heap H locs := ⟨hw, hS_5⟩
        have f_7 := TM_rng (x := x) hI.1 hI.2.1 (e := ((S 21 n).toNat)) (y := y) (by omega) (by omega) (by omega)
        refine z_iadd E dX6_isNear_38 ?_
        refine lv_aload_n E.1 E.2.1 dX6_isNear_39 rfl (lv_at hl 0 rfl) ?_
        refine z_get E X (lM_0 C cA am S U_6) rfl iX6 22 (by decide) (by decide +kernel) (v := .ref (am 22)) rfl dX6_isNear_40 ?_
        refine lv_iload E.1 E.2.1 dX6_isNear_43 (lv_at hl 4 rfl) ?_
        refine z_iald E X (lM_22 C cA am S U_6) n (by omega) (by omega) (by decide) dX6_isNear_45 ?_
        refine z_isub E dX6_isNear_46 ?_
        refine lv_istore (lv' := [(5, .int (i32 (((TM S ((S 20 n).toNat) x y) + (TM S ((S 21 n).toNat) x y)) - (S 22 n)))), (0, .ref (am 0)), (1, .int (i32 (x : Int))), (2, .int (i32 (y : Int))), (3, .int (i32 wi)), (4, .int (i32 (n : Int)))]) E.1 E.2.1 dX6_isNear_47 hl (by decide) rfl (fun ls hl => ?_)
        refine lv_iload E.1 E.2.1 dX6_isNear_49 (lv_at hl 0 rfl) ?_
        refine z_i2l E ⟨by omega, by omega⟩ dX6_isNear_51 ?_
        refine lv_iload_n E.1 E.2.1 dX6_isNear_52 rfl (lv_at hl 4 rfl) ?_
        refine z_ineg E dX6_isNear_53 ?_
        refine z_i2l E ⟨by omega, by omega⟩ dX6_isNear_54 ?_
        refine lv_iload_n E.1 E.2.1 dX6_isNear_55 rfl (lv_at hl 4 rfl) ?_
        refine z_i2l E ⟨by omega, by omega⟩ dX6_isNear_56 ?_
        refine z_callJ (As := [.long (i64 (((TM S ((S 20 n).toNat) x y) + (TM S ((S 21 n).toNat) x y)) - (S 22 n))), .long (i64 (-wi)), .long (i64 wi)]) (rest := []) (n := 3) E X (c_in l D cA B0 _ (((TM S ((S 20 n).toNat) x y) + (TM S ((S 21 n).toNat) x y)) - (S 22 n)) (-wi) wi ⟨by omega, by omega⟩ ⟨by omega, by omega⟩ ⟨by omega, by omega⟩) gX6_isNear_X6_in rfl (by decide +kernel) ⟨by decide, by decide⟩ rfl hl.1 rfl (Nat.le_of_ble_eq_true rfl) dX6_isNear_57 ⟨by decide, by decide⟩ rfl 0 0 ⟨rfl, rfl⟩ (fun v H locs hv hS_8 => ?_)
        obtain ⟨hH, z_9, rfl, ez_9⟩ := hv
        subst hH
        replace X := X.same hS_8
        refine z_fne E 65 ⟨by omega, by omega⟩ dX6_isNear_60 (by decide) (fun h60_10 => ?_) (fun h60_10 => ?_)
        · refine z_iinc (lv' := [(4, .int (i32 ((n + 1 : Nat) : Int))), (5, .int (i32 (((TM S ((S 20 n).toNat) x y) + (TM S ((S 21 n).toNat) x y)) - (S 22 n)))), (0, .ref (am 0)), (1, .int (i32 (x : Int))), (2, .int (i32 (y : Int))), (3, .int (i32 wi))]) E dX6_isNear_65 hl (k := 5) rfl (by decide) rfl (fun ls hl => ?_)
          refine lv_goto (tgt := 3) E.1 E.2.1 dX6_isNear_68 (by decide) ?_
          exact ih3 (n + 1) U_6 _ _ _ (by omega) (by omega) hC (by rw [alln_S, hal, Bool.true_and]; exact decide_eq_true (by unfold far; omega)) X (lv_sub hl [2, 3, 4, 5, 0] rfl)
        · refine z_iconst E dX6_isNear_63 ?_
          have hno : nearb S wi x y = false := alln_no (n := n) (decide_eq_false (by unfold far; omega)) (by omega)
          exact z_retz E X hQ (by omega) (⟨⟨0, rfl, by rw [hno]; rfl⟩, U_6, hC, X.1⟩) dX6_isNear_64
  exact key3 (((S 19 0).toNat - 0) + 1) 0 U _ _ _ (by omega) (by omega) hC rfl X (lv_sub hl [1, 2, 3, 4, 0] rfl)

abbrev rX6_near : Room := { frames := 4, cells := 0, slots := 0, locals := 99 }
set_option maxHeartbeats 4000000 in
set_option maxRecDepth 100000 in
theorem m_near (l : Launch) (D : va_G) (cA : Nat → ClassId) (B0 : Nat) (C : zL) (am : Nat → Nat) (S U : zS) (hI : SI S) (hC : MC S U) (wi i : Int) (hwi : 0 ≤ wi ∧ wi ≤ 100) (hi : zr i) : zM l yX6_near wsX6_near rX6_near [.ref (am 0), .int (i32 wi), .int (i32 i)] D cA B0 (zW D B0 (zj C (layM cA am S U))) (fun v H => v = some (.int (i32 (NRR S wi i))) ∧ ∃ U : zS, MC S U ∧ zW D B0 (zj C (layM cA am S U)) H) := by
  refine z_met (cc := cX6_near) (maxL := 6) (ret := (some .int)) (by decide) rfl (Nat.le_of_ble_eq_true rfl) ?_
  intro p e s m args below meth c ls Q hQ E hP hB hS hl
  have hl : lv_has ls 6 [(0, .ref (am 0)), (1, .int (i32 wi)), (2, .int (i32 i))] := hl
  have iX6 : ∀ w ∈ u_ws RX6 TX6 28, w ∈ wsX6_near := by decide +kernel
  have X : zX D B0 (zj C (layM cA am S U)) s.heap s.heap [] := ⟨hP, hS⟩
  have hI0 := hI.1
  unfold SI0 at hI0
  obtain ⟨b1, b2, b3, b4, b5, b8, b17, b19, b7⟩ := hI0
  unfold zr at hi
  refine z_iconst E dX6_near_0 ?_
  refine z_top ((cntb (nrc S wi) (51 * 0) : Nat) : Int) (rfl) ?_
  refine lv_istore_n (lv' := [(3, .int (i32 ((cntb (nrc S wi) (51 * 0) : Nat) : Int))), (0, .ref (am 0)), (1, .int (i32 wi)), (2, .int (i32 i))]) E.1 E.2.1 dX6_near_1 rfl hl (by decide) rfl (fun ls hl => ?_)
  refine lv_aload_n E.1 E.2.1 dX6_near_2 rfl (lv_at hl 1 rfl) ?_
  refine z_get E X (lM_0 C cA am S U) rfl iX6 1 (by decide) (by decide +kernel) (v := .int (i32 (S 1 0))) rfl dX6_near_3 ?_
  refine z_top (((S 1 0).toNat + 0 : Nat) : Int) (by omega) ?_
  refine lv_istore (lv' := [(4, .int (i32 (((S 1 0).toNat + 0 : Nat) : Int))), (3, .int (i32 ((cntb (nrc S wi) (51 * 0) : Nat) : Int))), (0, .ref (am 0)), (1, .int (i32 wi)), (2, .int (i32 i))]) E.1 E.2.1 dX6_near_6 hl (by decide) rfl (fun ls hl => ?_)
  have key8 : ∀ (N : Nat) (r : Nat) (U : zS) (H : Heap) (locs : List Loc) (ls : Array Slot), ((S 2 0).toNat + 1 - r) < N → ((r : Int) ≤ S 2 0 + 1) → (MC S U) → (fnd (fpl S wi i) (51 * r) = none) → zX D B0 (zj C (layM cA am S U)) s.heap H locs → lv_has ls 6 [(0, .ref (am 0)), (1, .int (i32 wi)), (2, .int (i32 i)), (3, .int (i32 ((cntb (nrc S wi) (51 * r) : Nat) : Int))), (4, .int (i32 (((S 1 0).toNat + r : Nat) : Int)))] → W p l e rX6_near s m args below meth c H locs 0 0 Q (F0 m 8 ls []) := by
    intro N
    induction N with
    | zero => intros; omega
    | succ N ih8 =>
      intro r U H locs ls hN hr hC hf X hl
      refine lv_iload E.1 E.2.1 dX6_near_8 (lv_at hl 4 rfl) ?_
      refine lv_aload_n E.1 E.2.1 dX6_near_10 rfl (lv_at hl 0 rfl) ?_
      refine z_callV (As := []) (rest := [.int (i32 (((S 1 0).toNat + r : Nat) : Int))]) (n := 0) E X (lM_0 C cA am S U) rfl (m_floor l D cA B0 C am S U ) gX6_near_X6_floor rfl (by decide +kernel) ⟨by decide, by decide⟩ rfl hl.1 rfl (Nat.le_of_ble_eq_true rfl) dX6_near_11 ⟨by decide, by decide⟩ X.1 0 0 ⟨rfl, rfl⟩ (fun v H locs hv hS_1 => ?_)
      obtain ⟨rfl, hw⟩ := hv
      replace X : zX D B0 (zj C (layM cA am S U)) s.heap H locs := ⟨hw, hS_1⟩
      refine z_cgt E 69 ⟨by omega, by omega⟩ ⟨by omega, by omega⟩ dX6_near_14 (by decide) (fun h14_2 => ?_) (fun h14_2 => ?_)
      · have hc9 := cntb_le (f := nrc S wi) (51 * r)
        refine lv_iload_n E.1 E.2.1 dX6_near_69 rfl (lv_at hl 2 rfl) ?_
        refine z_bipush E dX6_near_70 (by decide +kernel) ?_
        refine z_cne E 79 ⟨by omega, by omega⟩ ⟨by omega, by omega⟩ dX6_near_72 (by decide) (fun h72_3 => ?_) (fun h72_3 => ?_)
        · refine z_ldc (v := (-99999)) (z := -99999) E (by decide +kernel) (by decide +kernel) dX6_near_79 ?_
          have hen := NRR_end (S := S) (wi := wi) (i := i) (r := r) (by omega) (by omega) hf
          exact z_ret E X hQ (⟨by rw [hen, if_neg (by omega)], U, hC, X.1⟩) dX6_near_81
        · refine lv_iload_n E.1 E.2.1 dX6_near_75 rfl (lv_at hl 3 rfl) ?_
          refine lv_goto (tgt := 81) E.1 E.2.1 dX6_near_76 (by decide) ?_
          have hen := NRR_end (S := S) (wi := wi) (i := i) (r := r) (by omega) (by omega) hf
          exact z_ret E X hQ (⟨by rw [hen, if_pos (by omega)], U, hC, X.1⟩) dX6_near_81
      · have hc9 := cntb_le (f := nrc S wi) (51 * r)
        refine z_iconst E dX6_near_17 ?_
        refine z_top (0 : Int) (rfl) ?_
        refine lv_istore (lv' := [(5, .int (i32 (0 : Int))), (0, .ref (am 0)), (1, .int (i32 wi)), (2, .int (i32 i)), (3, .int (i32 ((cntb (nrc S wi) (51 * r) : Nat) : Int))), (4, .int (i32 (((S 1 0).toNat + r : Nat) : Int)))]) E.1 E.2.1 dX6_near_18 hl (by decide) rfl (fun ls hl => ?_)
        have key20 : ∀ (N : Nat) (x : Nat) (U : zS) (H : Heap) (locs : List Loc) (ls : Array Slot), (51 - x) < N → (x ≤ 51) → (MC S U) → (fnd (fpl S wi i) (51 * r + x) = none) → zX D B0 (zj C (layM cA am S U)) s.heap H locs → lv_has ls 6 [(0, .ref (am 0)), (1, .int (i32 wi)), (2, .int (i32 i)), (3, .int (i32 ((cntb (nrc S wi) (51 * r + x) : Nat) : Int))), (4, .int (i32 (((S 1 0).toNat + r : Nat) : Int))), (5, .int (i32 (x : Int)))] → W p l e rX6_near s m args below meth c H locs 0 0 Q (F0 m 20 ls []) := by
          intro N
          induction N with
          | zero => intros; omega
          | succ N ih20 =>
            intro x U H locs ls hN hx hC hf X hl
            refine lv_iload E.1 E.2.1 dX6_near_20 (lv_at hl 5 rfl) ?_
            refine z_bipush E dX6_near_22 (by decide +kernel) ?_
            refine z_cge E 63 ⟨by omega, by omega⟩ ⟨by omega, by omega⟩ dX6_near_24 (by decide) (fun h24_4 => ?_) (fun h24_4 => ?_)
            · have ex : 51 * r + x = 51 * (r + 1) := by omega
              rw [ex] at hl hf
              refine z_iinc (lv' := [(4, .int (i32 (((S 1 0).toNat + r + 1 : Nat) : Int))), (0, .ref (am 0)), (1, .int (i32 wi)), (2, .int (i32 i)), (3, .int (i32 ((cntb (nrc S wi) (51 * (r + 1)) : Nat) : Int))), (5, .int (i32 (x : Int)))]) E dX6_near_63 hl (k := 4) rfl (by decide) rfl (fun ls hl => ?_)
              refine lv_goto (tgt := 8) E.1 E.2.1 dX6_near_66 (by decide) ?_
              exact ih8 (r + 1) U _ _ _ (by omega) (by omega) hC hf X (lv_sub hl [1, 2, 3, 4, 0] rfl)
            · have hc9 := cntb_le (f := nrc S wi) (51 * r + x)
              refine lv_aload_n E.1 E.2.1 dX6_near_27 rfl (lv_at hl 0 rfl) ?_
              refine lv_iload E.1 E.2.1 dX6_near_28 (lv_at hl 5 rfl) ?_
              refine lv_iload E.1 E.2.1 dX6_near_30 (lv_at hl 4 rfl) ?_
              refine lv_iload_n E.1 E.2.1 dX6_near_32 rfl (lv_at hl 1 rfl) ?_
              refine z_callV (As := [.int (i32 (x : Int)), .int (i32 (((S 1 0).toNat + r : Nat) : Int)), .int (i32 wi)]) (rest := []) (n := 3) E X (lM_0 C cA am S U) rfl (m_isNear l D cA B0 C am S U hI hC x ((S 1 0).toNat + r) wi (by omega) (by omega) (by omega)) gX6_near_X6_isNear rfl (by decide +kernel) ⟨by decide, by decide⟩ rfl hl.1 rfl (Nat.le_of_ble_eq_true rfl) dX6_near_33 ⟨by decide, by decide⟩ X.1 0 0 ⟨rfl, rfl⟩ (fun v H locs hv hS_5 => ?_)
              obtain ⟨⟨z_7, rfl, ez_7⟩, U_6, hC, hw⟩ := hv
              replace X : zX D B0 (zj C (layM cA am S U_6)) s.heap H locs := ⟨hw, hS_5⟩
              have hzz : (nearb S wi x ((S 1 0).toNat + r) = true ∧ z_7 = 1) ∨ (nearb S wi x ((S 1 0).toNat + r) = false ∧ z_7 = 0) := by
                rw [ez_7]
                cases nearb S wi x ((S 1 0).toNat + r)
                · exact Or.inr ⟨rfl, rfl⟩
                · exact Or.inl ⟨rfl, rfl⟩
              have hz01 : z_7 = 0 ∨ z_7 = 1 := by rcases hzz with q | q <;> omega
              clear ez_7
              refine z_feq E 57 ⟨by omega, by omega⟩ dX6_near_36 (by decide) (fun h36_8 => ?_) (fun h36_8 => ?_)
              · have ecn : cntb (nrc S wi) (51 * r + (x + 1)) = cntb (nrc S wi) (51 * r + x) := by
                  refine cntb_n (n := 51 * r + x) ?_
                  rw [nrc_at (by omega)]
                  rcases hzz with q | q
                  · omega
                  · exact q.1
                have hms := fpl_miss (S := S) (wi := wi) (i := i) (r := r) (x := x) (by omega) (Or.inl (by rcases hzz with q | q; exact absurd q.2 (by omega); exact q.1))
                have hl : lv_has ls 6 [(0, .ref (am 0)), (1, .int (i32 wi)), (2, .int (i32 i)), (3, .int (i32 ((cntb (nrc S wi) (51 * r + (x + 1)) : Nat) : Int))), (4, .int (i32 (((S 1 0).toNat + r : Nat) : Int))), (5, .int (i32 (x : Int)))] := by rw [ecn]; exact hl
                refine z_iinc (lv' := [(5, .int (i32 ((x + 1 : Nat) : Int))), (0, .ref (am 0)), (1, .int (i32 wi)), (2, .int (i32 i)), (3, .int (i32 ((cntb (nrc S wi) (51 * r + (x + 1)) : Nat) : Int))), (4, .int (i32 (((S 1 0).toNat + r : Nat) : Int)))]) E dX6_near_57 hl (k := 5) rfl (by decide) rfl (fun ls hl => ?_)
                refine lv_goto (tgt := 20) E.1 E.2.1 dX6_near_60 (by decide) ?_
                exact ih20 (x + 1) U_6 _ _ _ (by omega) (by omega) hC (fnd_S hf hms) X (lv_sub hl [1, 2, 3, 4, 5, 0] rfl)
              · refine lv_iload_n E.1 E.2.1 dX6_near_39 rfl (lv_at hl 3 rfl) ?_
                refine lv_iload_n E.1 E.2.1 dX6_near_40 rfl (lv_at hl 2 rfl) ?_
                refine z_cne E 54 ⟨by omega, by omega⟩ ⟨by omega, by omega⟩ dX6_near_41 (by decide) (fun h41_9 => ?_) (fun h41_9 => ?_)
                · refine z_iinc (lv' := [(3, .int (i32 ((cntb (nrc S wi) (51 * r + x) + 1 : Nat) : Int))), (0, .ref (am 0)), (1, .int (i32 wi)), (2, .int (i32 i)), (4, .int (i32 (((S 1 0).toNat + r : Nat) : Int))), (5, .int (i32 (x : Int)))]) E dX6_near_54 hl (k := 3) rfl (by decide) rfl (fun ls hl => ?_)
                  have ecn : cntb (nrc S wi) (51 * r + (x + 1)) = cntb (nrc S wi) (51 * r + x) + 1 := by
                    refine cntb_y (n := 51 * r + x) ?_
                    rw [nrc_at (by omega)]
                    rcases hzz with q | q
                    · exact q.1
                    · omega
                  have hms := fpl_miss (S := S) (wi := wi) (i := i) (r := r) (x := x) (by omega) (Or.inr (by omega))
                  have hl : lv_has ls 6 [(3, .int (i32 ((cntb (nrc S wi) (51 * r + (x + 1)) : Nat) : Int))), (0, .ref (am 0)), (1, .int (i32 wi)), (2, .int (i32 i)), (4, .int (i32 (((S 1 0).toNat + r : Nat) : Int))), (5, .int (i32 (x : Int)))] := by rw [ecn]; exact hl
                  refine z_iinc (lv' := [(5, .int (i32 ((x + 1 : Nat) : Int))), (3, .int (i32 ((cntb (nrc S wi) (51 * r + (x + 1)) : Nat) : Int))), (0, .ref (am 0)), (1, .int (i32 wi)), (2, .int (i32 i)), (4, .int (i32 (((S 1 0).toNat + r : Nat) : Int)))]) E dX6_near_57 hl (k := 5) rfl (by decide) rfl (fun ls hl => ?_)
                  refine lv_goto (tgt := 20) E.1 E.2.1 dX6_near_60 (by decide) ?_
                  exact ih20 (x + 1) U_6 _ _ _ (by omega) (by omega) hC (fnd_S hf hms) X (lv_sub hl [2, 3, 4, 1, 5, 0] rfl)
                · refine z_sipush E dX6_near_44 (by decide +kernel) ?_
                  refine lv_iload E.1 E.2.1 dX6_near_47 (lv_at hl 5 rfl) ?_
                  refine z_imul E dX6_near_49 ?_
                  refine lv_iload E.1 E.2.1 dX6_near_50 (lv_at hl 4 rfl) ?_
                  refine z_iadd E dX6_near_52 ?_
                  have hnn : nearb S wi x ((S 1 0).toNat + r) = true := by rcases hzz with q | q; exact q.1; exact absurd q.2 (by omega)
                  have hit := NRR_hit (S := S) (wi := wi) (i := i) (r := r) (x := x) (by omega) (by omega) (by omega) hf hnn (by omega)
                  exact z_ret E X hQ (⟨by rw [hit], U_6, hC, X.1⟩) dX6_near_53
        exact key20 ((51 - 0) + 1) 0 U _ _ _ (by omega) (by omega) hC hf X (lv_sub hl [1, 2, 3, 4, 5, 0] rfl)
  exact key8 (((S 2 0).toNat + 1 - 0) + 1) 0 U _ _ _ (by omega) (by omega) hC rfl X (lv_sub hl [2, 3, 4, 1, 0] rfl)

abbrev rX6_as : Room := { frames := 0, cells := 0, slots := 0, locals := 0 }
set_option maxHeartbeats 4000000 in
set_option maxRecDepth 100000 in
theorem c_as (l : Launch) (D : va_G) (cA : Nat → ClassId) (B0 : Nat) (H0 : Heap) (k z : Int) (hk : 0 ≤ k ∧ k ≤ 2) (hz : -5000000000 ≤ z ∧ z ≤ 5000000000) : zM l yX6_as wsX6_as rX6_as [.int (i32 k), .long (i64 z)] D cA B0 (fun H => H = H0) (fun v H => H = H0 ∧ v = some (.int (i32 (AS k z)))) := by
  refine z_met (cc := cX6_as) (maxL := 5) (ret := (some .int)) (by decide) rfl (Nat.le_of_ble_eq_true rfl) ?_
  intro p e s m args below meth c ls Q hQ E hP hB hS hl
  have hl : lv_has ls 5 [(0, .int (i32 k)), (1, .long (i64 z))] := hl
  have X : zX D B0 zL0 s.heap s.heap [] := zX_none hB hS
  refine lv_iload_n E.1 E.2.1 dX6_as_0 rfl (lv_at hl 0 rfl) ?_
  refine z_fne E 10 ⟨by omega, by omega⟩ dX6_as_1 (by decide) (fun h1_1 => ?_) (fun h1_1 => ?_)
  · refine lv_iload_n E.1 E.2.1 dX6_as_10 rfl (lv_at hl 0 rfl) ?_
    refine z_iconst E dX6_as_11 ?_
    refine z_cne E 21 ⟨by omega, by omega⟩ ⟨by omega, by omega⟩ dX6_as_12 (by decide) (fun h12_2 => ?_) (fun h12_2 => ?_)
    · refine z_ldc2 (v := 2147483647) (z := 2147483647) E (by decide +kernel) (by decide +kernel) dX6_as_21 ?_
      refine lv_lstore_n (lv' := [(3, .long (i64 2147483647)), (0, .int (i32 k)), (1, .long (i64 z))]) E.1 E.2.1 dX6_as_24 rfl hl (by decide) rfl (fun ls hl => ?_)
      refine lv_lload_n E.1 E.2.1 dX6_as_25 rfl (lv_at hl 2 rfl) ?_
      refine lv_lload_n E.1 E.2.1 dX6_as_26 rfl (lv_at hl 0 rfl) ?_
      refine z_lcmp E ⟨by omega, by omega⟩ ⟨by omega, by omega⟩ dX6_as_27 (fun z_3 hrz_3 hlz_3 hez_3 => ?_)
      unfold zr at hrz_3
      refine z_fle E 35 ⟨by omega, by omega⟩ dX6_as_28 (by decide) (fun h28_4 => ?_) (fun h28_4 => ?_)
      · refine lv_lload_n E.1 E.2.1 dX6_as_35 rfl (lv_at hl 2 rfl) ?_
        refine lv_lload_n E.1 E.2.1 dX6_as_36 rfl (lv_at hl 0 rfl) ?_
        refine z_lneg E dX6_as_37 ?_
        refine z_lconst (z := 1) E dX6_as_38 (by decide +kernel) ?_
        refine z_lsub E dX6_as_39 ?_
        refine z_lcmp E ⟨by omega, by omega⟩ ⟨by omega, by omega⟩ dX6_as_40 (fun z_5 hrz_5 hlz_5 hez_5 => ?_)
        unfold zr at hrz_5
        refine z_fge E 51 ⟨by omega, by omega⟩ dX6_as_41 (by decide) (fun h41_6 => ?_) (fun h41_6 => ?_)
        · refine lv_lload_n E.1 E.2.1 dX6_as_51 rfl (lv_at hl 2 rfl) ?_
          refine z_l2i E dX6_as_52 ?_
          have eas : z = AS k z := by
            unfold AS LN
            repeat' split
            all_goals omega
          exact z_ret E X hQ (⟨hP, congrArg (fun w => some (Value.int (i32 w))) eas⟩) dX6_as_53
        · refine lv_lload_n E.1 E.2.1 dX6_as_44 rfl (lv_at hl 0 rfl) ?_
          refine z_lneg E dX6_as_45 ?_
          refine z_lconst (z := 1) E dX6_as_46 (by decide +kernel) ?_
          refine z_lsub E dX6_as_47 ?_
          refine lv_goto (tgt := 52) E.1 E.2.1 dX6_as_48 (by decide) ?_
          refine z_l2i E dX6_as_52 ?_
          have eas : (-2147483647) - 1 = AS k z := by
            unfold AS LN
            repeat' split
            all_goals omega
          exact z_ret E X hQ (⟨hP, congrArg (fun w => some (Value.int (i32 w))) eas⟩) dX6_as_53
      · refine lv_lload_n E.1 E.2.1 dX6_as_31 rfl (lv_at hl 0 rfl) ?_
        refine lv_goto (tgt := 52) E.1 E.2.1 dX6_as_32 (by decide) ?_
        refine z_l2i E dX6_as_52 ?_
        have eas : 2147483647 = AS k z := by
          unfold AS LN
          repeat' split
          all_goals omega
        exact z_ret E X hQ (⟨hP, congrArg (fun w => some (Value.int (i32 w))) eas⟩) dX6_as_53
    · refine z_ldc2 (v := 32767) (z := 32767) E (by decide +kernel) (by decide +kernel) dX6_as_15 ?_
      refine lv_goto (tgt := 24) E.1 E.2.1 dX6_as_18 (by decide) ?_
      refine lv_lstore_n (lv' := [(3, .long (i64 32767)), (0, .int (i32 k)), (1, .long (i64 z))]) E.1 E.2.1 dX6_as_24 rfl hl (by decide) rfl (fun ls hl => ?_)
      refine lv_lload_n E.1 E.2.1 dX6_as_25 rfl (lv_at hl 2 rfl) ?_
      refine lv_lload_n E.1 E.2.1 dX6_as_26 rfl (lv_at hl 0 rfl) ?_
      refine z_lcmp E ⟨by omega, by omega⟩ ⟨by omega, by omega⟩ dX6_as_27 (fun z_7 hrz_7 hlz_7 hez_7 => ?_)
      unfold zr at hrz_7
      refine z_fle E 35 ⟨by omega, by omega⟩ dX6_as_28 (by decide) (fun h28_8 => ?_) (fun h28_8 => ?_)
      · refine lv_lload_n E.1 E.2.1 dX6_as_35 rfl (lv_at hl 2 rfl) ?_
        refine lv_lload_n E.1 E.2.1 dX6_as_36 rfl (lv_at hl 0 rfl) ?_
        refine z_lneg E dX6_as_37 ?_
        refine z_lconst (z := 1) E dX6_as_38 (by decide +kernel) ?_
        refine z_lsub E dX6_as_39 ?_
        refine z_lcmp E ⟨by omega, by omega⟩ ⟨by omega, by omega⟩ dX6_as_40 (fun z_9 hrz_9 hlz_9 hez_9 => ?_)
        unfold zr at hrz_9
        refine z_fge E 51 ⟨by omega, by omega⟩ dX6_as_41 (by decide) (fun h41_10 => ?_) (fun h41_10 => ?_)
        · refine lv_lload_n E.1 E.2.1 dX6_as_51 rfl (lv_at hl 2 rfl) ?_
          refine z_l2i E dX6_as_52 ?_
          have eas : z = AS k z := by
            unfold AS LN
            repeat' split
            all_goals omega
          exact z_ret E X hQ (⟨hP, congrArg (fun w => some (Value.int (i32 w))) eas⟩) dX6_as_53
        · refine lv_lload_n E.1 E.2.1 dX6_as_44 rfl (lv_at hl 0 rfl) ?_
          refine z_lneg E dX6_as_45 ?_
          refine z_lconst (z := 1) E dX6_as_46 (by decide +kernel) ?_
          refine z_lsub E dX6_as_47 ?_
          refine lv_goto (tgt := 52) E.1 E.2.1 dX6_as_48 (by decide) ?_
          refine z_l2i E dX6_as_52 ?_
          have eas : (-32767) - 1 = AS k z := by
            unfold AS LN
            repeat' split
            all_goals omega
          exact z_ret E X hQ (⟨hP, congrArg (fun w => some (Value.int (i32 w))) eas⟩) dX6_as_53
      · refine lv_lload_n E.1 E.2.1 dX6_as_31 rfl (lv_at hl 0 rfl) ?_
        refine lv_goto (tgt := 52) E.1 E.2.1 dX6_as_32 (by decide) ?_
        refine z_l2i E dX6_as_52 ?_
        have eas : 32767 = AS k z := by
          unfold AS LN
          repeat' split
          all_goals omega
        exact z_ret E X hQ (⟨hP, congrArg (fun w => some (Value.int (i32 w))) eas⟩) dX6_as_53
  · refine z_ldc2 (v := 127) (z := 127) E (by decide +kernel) (by decide +kernel) dX6_as_4 ?_
    refine lv_goto (tgt := 24) E.1 E.2.1 dX6_as_7 (by decide) ?_
    refine lv_lstore_n (lv' := [(3, .long (i64 127)), (0, .int (i32 k)), (1, .long (i64 z))]) E.1 E.2.1 dX6_as_24 rfl hl (by decide) rfl (fun ls hl => ?_)
    refine lv_lload_n E.1 E.2.1 dX6_as_25 rfl (lv_at hl 2 rfl) ?_
    refine lv_lload_n E.1 E.2.1 dX6_as_26 rfl (lv_at hl 0 rfl) ?_
    refine z_lcmp E ⟨by omega, by omega⟩ ⟨by omega, by omega⟩ dX6_as_27 (fun z_11 hrz_11 hlz_11 hez_11 => ?_)
    unfold zr at hrz_11
    refine z_fle E 35 ⟨by omega, by omega⟩ dX6_as_28 (by decide) (fun h28_12 => ?_) (fun h28_12 => ?_)
    · refine lv_lload_n E.1 E.2.1 dX6_as_35 rfl (lv_at hl 2 rfl) ?_
      refine lv_lload_n E.1 E.2.1 dX6_as_36 rfl (lv_at hl 0 rfl) ?_
      refine z_lneg E dX6_as_37 ?_
      refine z_lconst (z := 1) E dX6_as_38 (by decide +kernel) ?_
      refine z_lsub E dX6_as_39 ?_
      refine z_lcmp E ⟨by omega, by omega⟩ ⟨by omega, by omega⟩ dX6_as_40 (fun z_13 hrz_13 hlz_13 hez_13 => ?_)
      unfold zr at hrz_13
      refine z_fge E 51 ⟨by omega, by omega⟩ dX6_as_41 (by decide) (fun h41_14 => ?_) (fun h41_14 => ?_)
      · refine lv_lload_n E.1 E.2.1 dX6_as_51 rfl (lv_at hl 2 rfl) ?_
        refine z_l2i E dX6_as_52 ?_
        have eas : z = AS k z := by
          unfold AS LN
          repeat' split
          all_goals omega
        exact z_ret E X hQ (⟨hP, congrArg (fun w => some (Value.int (i32 w))) eas⟩) dX6_as_53
      · refine lv_lload_n E.1 E.2.1 dX6_as_44 rfl (lv_at hl 0 rfl) ?_
        refine z_lneg E dX6_as_45 ?_
        refine z_lconst (z := 1) E dX6_as_46 (by decide +kernel) ?_
        refine z_lsub E dX6_as_47 ?_
        refine lv_goto (tgt := 52) E.1 E.2.1 dX6_as_48 (by decide) ?_
        refine z_l2i E dX6_as_52 ?_
        have eas : (-127) - 1 = AS k z := by
          unfold AS LN
          repeat' split
          all_goals omega
        exact z_ret E X hQ (⟨hP, congrArg (fun w => some (Value.int (i32 w))) eas⟩) dX6_as_53
    · refine lv_lload_n E.1 E.2.1 dX6_as_31 rfl (lv_at hl 0 rfl) ?_
      refine lv_goto (tgt := 52) E.1 E.2.1 dX6_as_32 (by decide) ?_
      refine z_l2i E dX6_as_52 ?_
      have eas : 127 = AS k z := by
        unfold AS LN
        repeat' split
        all_goals omega
      exact z_ret E X hQ (⟨hP, congrArg (fun w => some (Value.int (i32 w))) eas⟩) dX6_as_53
end
