section
-- ===== PART A: goes FIRST, ahead of the names: the tables' words, and 'selects' of the private methods out of them =====
/-- a private method of a class that the tables say can be made, by its rows of tables_1 -/
def lw_okq (q : MethodName × Nat) : Prop := (q.1.cls ≠ "java/lang/invoke/MethodHandle" ∧ q.1.cls ≠ "java/lang/invoke/VarHandle") ∧ Cond.instantiable q.1.cls q.2 ∈ tables_1 ∧ Cond.privateMethod q.1 ∈ tables_1 ∧ Cond.instanceMethod q.1 ∈ tables_1
theorem lw_p0 : lw_okq (⟨"PatternLoom", "knowsAll", "(IIII)Z"⟩, 10) := ⟨⟨by decide +kernel, by decide +kernel⟩, List.mem_of_getElem? (i := 6) (by decide +kernel), List.mem_of_getElem? (i := 112) (by decide +kernel), List.mem_of_getElem? (i := 113) (by decide +kernel)⟩
theorem lw_p1 : lw_okq (⟨"PatternLoom", "isPattern", "(I)Z"⟩, 10) := ⟨⟨by decide +kernel, by decide +kernel⟩, List.mem_of_getElem? (i := 6) (by decide +kernel), List.mem_of_getElem? (i := 116) (by decide +kernel), List.mem_of_getElem? (i := 117) (by decide +kernel)⟩
theorem lw_p2 : lw_okq (⟨"PatternLoom", "named", "(I)LPatternLoom$Pattern;"⟩, 10) := ⟨⟨by decide +kernel, by decide +kernel⟩, List.mem_of_getElem? (i := 6) (by decide +kernel), List.mem_of_getElem? (i := 126) (by decide +kernel), List.mem_of_getElem? (i := 127) (by decide +kernel)⟩
theorem lw_p3 : lw_okq (⟨"PatternLoom", "rowFor", "(II)[I"⟩, 10) := ⟨⟨by decide +kernel, by decide +kernel⟩, List.mem_of_getElem? (i := 6) (by decide +kernel), List.mem_of_getElem? (i := 130) (by decide +kernel), List.mem_of_getElem? (i := 131) (by decide +kernel)⟩
theorem lw_p4 : lw_okq (⟨"PatternLoom", "numbered", "(I)LPatternLoom$Pattern;"⟩, 10) := ⟨⟨by decide +kernel, by decide +kernel⟩, List.mem_of_getElem? (i := 6) (by decide +kernel), List.mem_of_getElem? (i := 145) (by decide +kernel), List.mem_of_getElem? (i := 146) (by decide +kernel)⟩
theorem lw_p5 : lw_okq (⟨"PatternLoom", "tellPlace", "(LPatternLoom$Pattern;II)I"⟩, 10) := ⟨⟨by decide +kernel, by decide +kernel⟩, List.mem_of_getElem? (i := 6) (by decide +kernel), List.mem_of_getElem? (i := 153) (by decide +kernel), List.mem_of_getElem? (i := 154) (by decide +kernel)⟩
theorem lw_p6 : lw_okq (⟨"PatternLoom", "tell", "(LPatternLoom$Pattern;II)I"⟩, 10) := ⟨⟨by decide +kernel, by decide +kernel⟩, List.mem_of_getElem? (i := 6) (by decide +kernel), List.mem_of_getElem? (i := 157) (by decide +kernel), List.mem_of_getElem? (i := 158) (by decide +kernel)⟩
theorem lw_p7 : lw_okq (⟨"PatternLoom", "fail", "(I)I"⟩, 10) := ⟨⟨by decide +kernel, by decide +kernel⟩, List.mem_of_getElem? (i := 6) (by decide +kernel), List.mem_of_getElem? (i := 161) (by decide +kernel), List.mem_of_getElem? (i := 162) (by decide +kernel)⟩
theorem lw_p8 : lw_okq (⟨"PatternLoom", "tellStripes", "(LPatternLoom$Pattern;I)I"⟩, 10) := ⟨⟨by decide +kernel, by decide +kernel⟩, List.mem_of_getElem? (i := 6) (by decide +kernel), List.mem_of_getElem? (i := 165) (by decide +kernel), List.mem_of_getElem? (i := 166) (by decide +kernel)⟩
theorem lw_p9 : lw_okq (⟨"PatternLoom", "tellTwill", "(LPatternLoom$Pattern;II)I"⟩, 10) := ⟨⟨by decide +kernel, by decide +kernel⟩, List.mem_of_getElem? (i := 6) (by decide +kernel), List.mem_of_getElem? (i := 169) (by decide +kernel), List.mem_of_getElem? (i := 170) (by decide +kernel)⟩
theorem lw_p10 : lw_okq (⟨"PatternLoom", "tellTurned", "(LPatternLoom$Pattern;II)I"⟩, 10) := ⟨⟨by decide +kernel, by decide +kernel⟩, List.mem_of_getElem? (i := 6) (by decide +kernel), List.mem_of_getElem? (i := 173) (by decide +kernel), List.mem_of_getElem? (i := 174) (by decide +kernel)⟩
theorem lw_p11 : lw_okq (⟨"PatternLoom", "tellOver", "(LPatternLoom$Pattern;II)I"⟩, 10) := ⟨⟨by decide +kernel, by decide +kernel⟩, List.mem_of_getElem? (i := 6) (by decide +kernel), List.mem_of_getElem? (i := 177) (by decide +kernel), List.mem_of_getElem? (i := 178) (by decide +kernel)⟩
theorem lw_p12 : lw_okq (⟨"PatternLoom", "tellWhere", "(LPatternLoom$Pattern;II)I"⟩, 10) := ⟨⟨by decide +kernel, by decide +kernel⟩, List.mem_of_getElem? (i := 6) (by decide +kernel), List.mem_of_getElem? (i := 181) (by decide +kernel), List.mem_of_getElem? (i := 182) (by decide +kernel)⟩
theorem lw_p13 : lw_okq (⟨"PatternLoom", "tellDyed", "(LPatternLoom$Pattern;II)I"⟩, 10) := ⟨⟨by decide +kernel, by decide +kernel⟩, List.mem_of_getElem? (i := 6) (by decide +kernel), List.mem_of_getElem? (i := 185) (by decide +kernel), List.mem_of_getElem? (i := 186) (by decide +kernel)⟩
theorem lw_p14 : lw_okq (⟨"PatternLoom", "colourOf", "([II)I"⟩, 10) := ⟨⟨by decide +kernel, by decide +kernel⟩, List.mem_of_getElem? (i := 6) (by decide +kernel), List.mem_of_getElem? (i := 189) (by decide +kernel), List.mem_of_getElem? (i := 190) (by decide +kernel)⟩
theorem lw_p15 : lw_okq (⟨"PatternLoom", "tellWorn", "(LPatternLoom$Pattern;II)I"⟩, 10) := ⟨⟨by decide +kernel, by decide +kernel⟩, List.mem_of_getElem? (i := 6) (by decide +kernel), List.mem_of_getElem? (i := 193) (by decide +kernel), List.mem_of_getElem? (i := 194) (by decide +kernel)⟩
def lw_privs_1 : List (MethodName × Nat) := [(⟨"PatternLoom", "knowsAll", "(IIII)Z"⟩, 10), (⟨"PatternLoom", "isPattern", "(I)Z"⟩, 10), (⟨"PatternLoom", "named", "(I)LPatternLoom$Pattern;"⟩, 10), (⟨"PatternLoom", "rowFor", "(II)[I"⟩, 10), (⟨"PatternLoom", "numbered", "(I)LPatternLoom$Pattern;"⟩, 10), (⟨"PatternLoom", "tellPlace", "(LPatternLoom$Pattern;II)I"⟩, 10), (⟨"PatternLoom", "tell", "(LPatternLoom$Pattern;II)I"⟩, 10), (⟨"PatternLoom", "fail", "(I)I"⟩, 10), (⟨"PatternLoom", "tellStripes", "(LPatternLoom$Pattern;I)I"⟩, 10), (⟨"PatternLoom", "tellTwill", "(LPatternLoom$Pattern;II)I"⟩, 10), (⟨"PatternLoom", "tellTurned", "(LPatternLoom$Pattern;II)I"⟩, 10), (⟨"PatternLoom", "tellOver", "(LPatternLoom$Pattern;II)I"⟩, 10), (⟨"PatternLoom", "tellWhere", "(LPatternLoom$Pattern;II)I"⟩, 10), (⟨"PatternLoom", "tellDyed", "(LPatternLoom$Pattern;II)I"⟩, 10), (⟨"PatternLoom", "colourOf", "([II)I"⟩, 10), (⟨"PatternLoom", "tellWorn", "(LPatternLoom$Pattern;II)I"⟩, 10)]
theorem lw_r1 : ∀ q ∈ lw_privs_1, lw_okq q := List.forall_mem_cons.mpr ⟨lw_p0, List.forall_mem_cons.mpr ⟨lw_p1, List.forall_mem_cons.mpr ⟨lw_p2, List.forall_mem_cons.mpr ⟨lw_p3, List.forall_mem_cons.mpr ⟨lw_p4, List.forall_mem_cons.mpr ⟨lw_p5, List.forall_mem_cons.mpr ⟨lw_p6, List.forall_mem_cons.mpr ⟨lw_p7, List.forall_mem_cons.mpr ⟨lw_p8, List.forall_mem_cons.mpr ⟨lw_p9, List.forall_mem_cons.mpr ⟨lw_p10, List.forall_mem_cons.mpr ⟨lw_p11, List.forall_mem_cons.mpr ⟨lw_p12, List.forall_mem_cons.mpr ⟨lw_p13, List.forall_mem_cons.mpr ⟨lw_p14, List.forall_mem_cons.mpr ⟨lw_p15, fun _ h => absurd h List.not_mem_nil⟩⟩⟩⟩⟩⟩⟩⟩⟩⟩⟩⟩⟩⟩⟩⟩
theorem lw_p16 : lw_okq (⟨"PatternLoom", "tellBoth", "(LPatternLoom$Pattern;II)I"⟩, 10) := ⟨⟨by decide +kernel, by decide +kernel⟩, List.mem_of_getElem? (i := 6) (by decide +kernel), List.mem_of_getElem? (i := 197) (by decide +kernel), List.mem_of_getElem? (i := 198) (by decide +kernel)⟩
theorem lw_p17 : lw_okq (⟨"PatternLoom", "tellSafe", "(LPatternLoom$Pattern;II)I"⟩, 10) := ⟨⟨by decide +kernel, by decide +kernel⟩, List.mem_of_getElem? (i := 6) (by decide +kernel), List.mem_of_getElem? (i := 201) (by decide +kernel), List.mem_of_getElem? (i := 202) (by decide +kernel)⟩
theorem lw_p18 : lw_okq (⟨"PatternLoom", "saves", "(I)Z"⟩, 10) := ⟨⟨by decide +kernel, by decide +kernel⟩, List.mem_of_getElem? (i := 6) (by decide +kernel), List.mem_of_getElem? (i := 205) (by decide +kernel), List.mem_of_getElem? (i := 206) (by decide +kernel)⟩
theorem lw_p19 : lw_okq (⟨"PatternLoom$Cloth", "timesFrom", "(I)I"⟩, 3) := ⟨⟨by decide +kernel, by decide +kernel⟩, List.mem_of_getElem? (i := 18) (by decide +kernel), List.mem_of_getElem? (i := 248) (by decide +kernel), List.mem_of_getElem? (i := 249) (by decide +kernel)⟩
theorem lw_p20 : lw_okq (⟨"PatternLoomModel", "areThere", "(IIII)Z"⟩, 25) := ⟨⟨by decide +kernel, by decide +kernel⟩, List.mem_of_getElem? (i := 260) (by decide +kernel), List.mem_of_getElem? (i := 353) (by decide +kernel), List.mem_of_getElem? (i := 354) (by decide +kernel)⟩
theorem lw_p21 : lw_okq (⟨"PatternLoomModel", "isPattern", "(I)Z"⟩, 25) := ⟨⟨by decide +kernel, by decide +kernel⟩, List.mem_of_getElem? (i := 260) (by decide +kernel), List.mem_of_getElem? (i := 357) (by decide +kernel), List.mem_of_getElem? (i := 358) (by decide +kernel)⟩
theorem lw_p22 : lw_okq (⟨"PatternLoomModel", "work", "(III)V"⟩, 25) := ⟨⟨by decide +kernel, by decide +kernel⟩, List.mem_of_getElem? (i := 260) (by decide +kernel), List.mem_of_getElem? (i := 369) (by decide +kernel), List.mem_of_getElem? (i := 370) (by decide +kernel)⟩
theorem lw_p23 : lw_okq (⟨"PatternLoomModel", "push", "(III)V"⟩, 25) := ⟨⟨by decide +kernel, by decide +kernel⟩, List.mem_of_getElem? (i := 260) (by decide +kernel), List.mem_of_getElem? (i := 373) (by decide +kernel), List.mem_of_getElem? (i := 374) (by decide +kernel)⟩
theorem lw_p24 : lw_okq (⟨"PatternLoomModel", "falls", "()V"⟩, 25) := ⟨⟨by decide +kernel, by decide +kernel⟩, List.mem_of_getElem? (i := 260) (by decide +kernel), List.mem_of_getElem? (i := 377) (by decide +kernel), List.mem_of_getElem? (i := 378) (by decide +kernel)⟩
theorem lw_p25 : lw_okq (⟨"PatternLoomModel", "alone", "(III)V"⟩, 25) := ⟨⟨by decide +kernel, by decide +kernel⟩, List.mem_of_getElem? (i := 260) (by decide +kernel), List.mem_of_getElem? (i := 381) (by decide +kernel), List.mem_of_getElem? (i := 382) (by decide +kernel)⟩
theorem lw_p26 : lw_okq (⟨"PatternLoomModel", "tells", "(I)V"⟩, 25) := ⟨⟨by decide +kernel, by decide +kernel⟩, List.mem_of_getElem? (i := 260) (by decide +kernel), List.mem_of_getElem? (i := 385) (by decide +kernel), List.mem_of_getElem? (i := 386) (by decide +kernel)⟩
theorem lw_p27 : lw_okq (⟨"PatternLoomModel", "dyeAt", "(II)I"⟩, 25) := ⟨⟨by decide +kernel, by decide +kernel⟩, List.mem_of_getElem? (i := 260) (by decide +kernel), List.mem_of_getElem? (i := 389) (by decide +kernel), List.mem_of_getElem? (i := 390) (by decide +kernel)⟩
theorem lw_p28 : lw_okq (⟨"PatternLoomModel", "tellsOf", "(III)V"⟩, 25) := ⟨⟨by decide +kernel, by decide +kernel⟩, List.mem_of_getElem? (i := 260) (by decide +kernel), List.mem_of_getElem? (i := 393) (by decide +kernel), List.mem_of_getElem? (i := 394) (by decide +kernel)⟩
theorem lw_p29 : lw_okq (⟨"PatternLoomModel", "begins", "(III)V"⟩, 25) := ⟨⟨by decide +kernel, by decide +kernel⟩, List.mem_of_getElem? (i := 260) (by decide +kernel), List.mem_of_getElem? (i := 400) (by decide +kernel), List.mem_of_getElem? (i := 401) (by decide +kernel)⟩
theorem lw_p30 : lw_okq (⟨"PatternLoomModel", "turned", "(III)V"⟩, 25) := ⟨⟨by decide +kernel, by decide +kernel⟩, List.mem_of_getElem? (i := 260) (by decide +kernel), List.mem_of_getElem? (i := 404) (by decide +kernel), List.mem_of_getElem? (i := 405) (by decide +kernel)⟩
theorem lw_p31 : lw_okq (⟨"PatternLoomModel", "goesOn", "(II)V"⟩, 25) := ⟨⟨by decide +kernel, by decide +kernel⟩, List.mem_of_getElem? (i := 260) (by decide +kernel), List.mem_of_getElem? (i := 408) (by decide +kernel), List.mem_of_getElem? (i := 409) (by decide +kernel)⟩
def lw_privs_2 : List (MethodName × Nat) := [(⟨"PatternLoom", "tellBoth", "(LPatternLoom$Pattern;II)I"⟩, 10), (⟨"PatternLoom", "tellSafe", "(LPatternLoom$Pattern;II)I"⟩, 10), (⟨"PatternLoom", "saves", "(I)Z"⟩, 10), (⟨"PatternLoom$Cloth", "timesFrom", "(I)I"⟩, 3), (⟨"PatternLoomModel", "areThere", "(IIII)Z"⟩, 25), (⟨"PatternLoomModel", "isPattern", "(I)Z"⟩, 25), (⟨"PatternLoomModel", "work", "(III)V"⟩, 25), (⟨"PatternLoomModel", "push", "(III)V"⟩, 25), (⟨"PatternLoomModel", "falls", "()V"⟩, 25), (⟨"PatternLoomModel", "alone", "(III)V"⟩, 25), (⟨"PatternLoomModel", "tells", "(I)V"⟩, 25), (⟨"PatternLoomModel", "dyeAt", "(II)I"⟩, 25), (⟨"PatternLoomModel", "tellsOf", "(III)V"⟩, 25), (⟨"PatternLoomModel", "begins", "(III)V"⟩, 25), (⟨"PatternLoomModel", "turned", "(III)V"⟩, 25), (⟨"PatternLoomModel", "goesOn", "(II)V"⟩, 25)]
theorem lw_r2 : ∀ q ∈ lw_privs_2, lw_okq q := List.forall_mem_cons.mpr ⟨lw_p16, List.forall_mem_cons.mpr ⟨lw_p17, List.forall_mem_cons.mpr ⟨lw_p18, List.forall_mem_cons.mpr ⟨lw_p19, List.forall_mem_cons.mpr ⟨lw_p20, List.forall_mem_cons.mpr ⟨lw_p21, List.forall_mem_cons.mpr ⟨lw_p22, List.forall_mem_cons.mpr ⟨lw_p23, List.forall_mem_cons.mpr ⟨lw_p24, List.forall_mem_cons.mpr ⟨lw_p25, List.forall_mem_cons.mpr ⟨lw_p26, List.forall_mem_cons.mpr ⟨lw_p27, List.forall_mem_cons.mpr ⟨lw_p28, List.forall_mem_cons.mpr ⟨lw_p29, List.forall_mem_cons.mpr ⟨lw_p30, List.forall_mem_cons.mpr ⟨lw_p31, fun _ h => absurd h List.not_mem_nil⟩⟩⟩⟩⟩⟩⟩⟩⟩⟩⟩⟩⟩⟩⟩⟩
theorem lw_p32 : lw_okq (⟨"PatternLoomModel", "manyOf", "(I)I"⟩, 25) := ⟨⟨by decide +kernel, by decide +kernel⟩, List.mem_of_getElem? (i := 260) (by decide +kernel), List.mem_of_getElem? (i := 428) (by decide +kernel), List.mem_of_getElem? (i := 429) (by decide +kernel)⟩
def lw_privs_3 : List (MethodName × Nat) := [(⟨"PatternLoomModel", "manyOf", "(I)I"⟩, 25)]
theorem lw_r3 : ∀ q ∈ lw_privs_3, lw_okq q := List.forall_mem_cons.mpr ⟨lw_p32, fun _ h => absurd h List.not_mem_nil⟩
def lw_privs : List (MethodName × Nat) := lw_privs_1 ++ (lw_privs_2 ++ (lw_privs_3))
def lw_tbl : List Cond := k2_sels lw_privs ++ tables_1
theorem lw_privs_ok : ∀ q ∈ lw_privs, lw_okq q := by
  show ∀ q ∈ lw_privs_1 ++ (lw_privs_2 ++ (lw_privs_3)), lw_okq q
  exact List.forall_mem_append.mpr ⟨lw_r1, List.forall_mem_append.mpr ⟨lw_r2, lw_r3⟩⟩

def RX0 : String := "PatternLoom$Cloth"
def TX0 : u_T := fun k => match k with
  | 0 => ("PatternLoom$Cloth", "colours", "[I", true)
  | 1 => ("PatternLoom$Cloth", "size", "I", false)
  | _ => ("PatternLoom$Cloth", "width", "I", false)
def tyX0 : Nat → FieldType := fun k => match k with
  | 0 => .array .int
  | 1 => .int
  | _ => .int
abbrev wsX00 : List Cond := u_ws RX0 TX0 3
theorem nmX0 : ∀ a, a < 3 → ∀ b, b < 3 → a ≠ b → (TX0 a).2.1 ≠ (TX0 b).2.1 := by decide +kernel
theorem tyX0_ok : ∀ k, k < 3 → parseFieldDescriptor (TX0 k).2.2.1 = some (tyX0 k) := by decide +kernel
abbrev cX0_init : ByteArray := prog_2_method_1_code
def yX0_init : MethodName := ⟨RX0, "<init>", "()V"⟩
abbrev cX0_begin : ByteArray := prog_2_method_2_code
def yX0_begin : MethodName := ⟨RX0, "begin", "(I)V"⟩
abbrev cX0_add : ByteArray := prog_2_method_3_code
def yX0_add : MethodName := ⟨RX0, "add", "(I)V"⟩
abbrev cX0_colourAt : ByteArray := prog_2_method_4_code
def yX0_colourAt : MethodName := ⟨RX0, "colourAt", "(I)I"⟩
abbrev cX0_changesInRows : ByteArray := prog_2_method_5_code
def yX0_changesInRows : MethodName := ⟨RX0, "changesInRows", "()I"⟩
abbrev cX0_mostOften : ByteArray := prog_2_method_6_code
def yX0_mostOften : MethodName := ⟨RX0, "mostOften", "()I"⟩
abbrev cX0_timesFrom : ByteArray := prog_2_method_7_code
def yX0_timesFrom : MethodName := ⟨RX0, "timesFrom", "(I)I"⟩
def RX1 : String := "PatternLoom$Pattern"
def TX1 : u_T := fun k => match k with
  | 0 => ("PatternLoom$Pattern", "sort", "I", true)
  | 1 => ("PatternLoom$Pattern", "a", "I", true)
  | 2 => ("PatternLoom$Pattern", "b", "I", true)
  | 3 => ("PatternLoom$Pattern", "c", "I", true)
  | 4 => ("PatternLoom$Pattern", "row", "[I", true)
  | 5 => ("PatternLoom$Pattern", "old", "LPatternLoom$Pattern;", true)
  | _ => ("PatternLoom$Pattern", "wear", "I", false)
def tyX1 : Nat → FieldType := fun k => match k with
  | 0 => .int
  | 1 => .int
  | 2 => .int
  | 3 => .int
  | 4 => .array .int
  | 5 => .object "PatternLoom$Pattern"
  | _ => .int
abbrev wsX10 : List Cond := u_ws RX1 TX1 7
theorem nmX1 : ∀ a, a < 7 → ∀ b, b < 7 → a ≠ b → (TX1 a).2.1 ≠ (TX1 b).2.1 := by decide +kernel
theorem tyX1_ok : ∀ k, k < 7 → parseFieldDescriptor (TX1 k).2.2.1 = some (tyX1 k) := by decide +kernel
abbrev cX1_init : ByteArray := prog_3_method_1_code
def yX1_init : MethodName := ⟨RX1, "<init>", "(IIII[ILPatternLoom$Pattern;)V"⟩
def RX2 : String := "PatternLoom"
def TX2 : u_T := fun k => match k with
  | 0 => ("PatternLoom", "dyes", "[[I", true)
  | 1 => ("PatternLoom", "names", "[LPatternLoom$Pattern;", true)
  | 2 => ("PatternLoom", "patterns", "[LPatternLoom$Pattern;", true)
  | 3 => ("PatternLoom", "woven", "LPatternLoom$Cloth;", true)
  | 4 => ("PatternLoom", "patternCount", "I", false)
  | 5 => ("PatternLoom", "reason", "I", false)
  | 6 => ("PatternLoom", "failure", "I", false)
  | 7 => ("PatternLoom", "asked", "I", false)
  | 8 => ("PatternLoom", "saved", "I", false)
  | _ => ("PatternLoom", "wornTold", "I", false)
def tyX2 : Nat → FieldType := fun k => match k with
  | 0 => .array (.array .int)
  | 1 => .array (.object "PatternLoom$Pattern")
  | 2 => .array (.object "PatternLoom$Pattern")
  | 3 => .object "PatternLoom$Cloth"
  | 4 => .int
  | 5 => .int
  | 6 => .int
  | 7 => .int
  | 8 => .int
  | _ => .int
abbrev wsX20 : List Cond := u_ws RX2 TX2 10
theorem nmX2 : ∀ a, a < 10 → ∀ b, b < 10 → a ≠ b → (TX2 a).2.1 ≠ (TX2 b).2.1 := by decide +kernel
theorem tyX2_ok : ∀ k, k < 10 → parseFieldDescriptor (TX2 k).2.2.1 = some (tyX2 k) := by decide +kernel
abbrev cX2_init : ByteArray := prog_1_method_1_code
def yX2_init : MethodName := ⟨RX2, "<init>", "()V"⟩
abbrev cX2_dye : ByteArray := prog_1_method_2_code
def yX2_dye : MethodName := ⟨RX2, "dye", "(III)I"⟩
abbrev cX2_pattern : ByteArray := prog_1_method_3_code
def yX2_pattern : MethodName := ⟨RX2, "pattern", "(IIII)I"⟩
abbrev cX2_name : ByteArray := prog_1_method_4_code
def yX2_name : MethodName := ⟨RX2, "name", "(II)I"⟩
abbrev cX2_ask : ByteArray := prog_1_method_5_code
def yX2_ask : MethodName := ⟨RX2, "ask", "(III)I"⟩
abbrev cX2_weave : ByteArray := prog_1_method_6_code
def yX2_weave : MethodName := ⟨RX2, "weave", "(IIIII)I"⟩
abbrev cX2_cloth : ByteArray := prog_1_method_7_code
def yX2_cloth : MethodName := ⟨RX2, "cloth", "(I)I"⟩
abbrev cX2_changes : ByteArray := prog_1_method_8_code
def yX2_changes : MethodName := ⟨RX2, "changes", "()I"⟩
abbrev cX2_most : ByteArray := prog_1_method_9_code
def yX2_most : MethodName := ⟨RX2, "most", "()I"⟩
abbrev cX2_why : ByteArray := prog_1_method_10_code
def yX2_why : MethodName := ⟨RX2, "why", "()I"⟩
abbrev cX2_count : ByteArray := prog_1_method_11_code
def yX2_count : MethodName := ⟨RX2, "count", "(I)I"⟩
abbrev cX2_isDye : ByteArray := prog_1_method_12_code
def yX2_isDye : MethodName := ⟨RX2, "isDye", "(I)Z"⟩
abbrev cX2_isName : ByteArray := prog_1_method_13_code
def yX2_isName : MethodName := ⟨RX2, "isName", "(I)Z"⟩
abbrev cX2_isSide : ByteArray := prog_1_method_14_code
def yX2_isSide : MethodName := ⟨RX2, "isSide", "(I)Z"⟩
abbrev cX2_isPattern : ByteArray := prog_1_method_15_code
def yX2_isPattern : MethodName := ⟨RX2, "isPattern", "(I)Z"⟩
abbrev cX2_numbered : ByteArray := prog_1_method_16_code
def yX2_numbered : MethodName := ⟨RX2, "numbered", "(I)LPatternLoom$Pattern;"⟩
abbrev cX2_named : ByteArray := prog_1_method_17_code
def yX2_named : MethodName := ⟨RX2, "named", "(I)LPatternLoom$Pattern;"⟩
abbrev cX2_knowsAll : ByteArray := prog_1_method_18_code
def yX2_knowsAll : MethodName := ⟨RX2, "knowsAll", "(IIII)Z"⟩
abbrev cX2_fits : ByteArray := prog_1_method_19_code
def yX2_fits : MethodName := ⟨RX2, "fits", "(II)Z"⟩
abbrev cX2_rowFor : ByteArray := prog_1_method_20_code
def yX2_rowFor : MethodName := ⟨RX2, "rowFor", "(II)[I"⟩
abbrev cX2_tellPlace : ByteArray := prog_1_method_21_code
def yX2_tellPlace : MethodName := ⟨RX2, "tellPlace", "(LPatternLoom$Pattern;II)I"⟩
abbrev cX2_fail : ByteArray := prog_1_method_22_code
def yX2_fail : MethodName := ⟨RX2, "fail", "(I)I"⟩
abbrev cX2_tell : ByteArray := prog_1_method_23_code
def yX2_tell : MethodName := ⟨RX2, "tell", "(LPatternLoom$Pattern;II)I"⟩
abbrev cX2_tellStripes : ByteArray := prog_1_method_24_code
def yX2_tellStripes : MethodName := ⟨RX2, "tellStripes", "(LPatternLoom$Pattern;I)I"⟩
abbrev cX2_tellTwill : ByteArray := prog_1_method_25_code
def yX2_tellTwill : MethodName := ⟨RX2, "tellTwill", "(LPatternLoom$Pattern;II)I"⟩
abbrev cX2_tellTurned : ByteArray := prog_1_method_26_code
def yX2_tellTurned : MethodName := ⟨RX2, "tellTurned", "(LPatternLoom$Pattern;II)I"⟩
abbrev cX2_tellOver : ByteArray := prog_1_method_27_code
def yX2_tellOver : MethodName := ⟨RX2, "tellOver", "(LPatternLoom$Pattern;II)I"⟩
abbrev cX2_tellWhere : ByteArray := prog_1_method_28_code
def yX2_tellWhere : MethodName := ⟨RX2, "tellWhere", "(LPatternLoom$Pattern;II)I"⟩
abbrev cX2_tellDyed : ByteArray := prog_1_method_29_code
def yX2_tellDyed : MethodName := ⟨RX2, "tellDyed", "(LPatternLoom$Pattern;II)I"⟩
abbrev cX2_colourOf : ByteArray := prog_1_method_30_code
def yX2_colourOf : MethodName := ⟨RX2, "colourOf", "([II)I"⟩
abbrev cX2_tellWorn : ByteArray := prog_1_method_31_code
def yX2_tellWorn : MethodName := ⟨RX2, "tellWorn", "(LPatternLoom$Pattern;II)I"⟩
abbrev cX2_tellBoth : ByteArray := prog_1_method_32_code
def yX2_tellBoth : MethodName := ⟨RX2, "tellBoth", "(LPatternLoom$Pattern;II)I"⟩
abbrev cX2_tellSafe : ByteArray := prog_1_method_33_code
def yX2_tellSafe : MethodName := ⟨RX2, "tellSafe", "(LPatternLoom$Pattern;II)I"⟩
abbrev cX2_saves : ByteArray := prog_1_method_34_code
def yX2_saves : MethodName := ⟨RX2, "saves", "(I)Z"⟩
def RX3 : String := "PatternLoomModel"
def TX3 : u_T := fun k => match k with
  | 0 => ("PatternLoomModel", "patterns", "I", false)
  | 1 => ("PatternLoomModel", "sorts", "[I", true)
  | 2 => ("PatternLoomModel", "as", "[I", true)
  | 3 => ("PatternLoomModel", "bs", "[I", true)
  | 4 => ("PatternLoomModel", "cs", "[I", true)
  | 5 => ("PatternLoomModel", "kept", "[I", true)
  | 6 => ("PatternLoomModel", "old", "[I", true)
  | 7 => ("PatternLoomModel", "asks", "[I", true)
  | 8 => ("PatternLoomModel", "dyes", "[I", true)
  | 9 => ("PatternLoomModel", "names", "[I", true)
  | 10 => ("PatternLoomModel", "why", "I", false)
  | 11 => ("PatternLoomModel", "worn", "I", false)
  | 12 => ("PatternLoomModel", "safes", "I", false)
  | 13 => ("PatternLoomModel", "top", "I", false)
  | 14 => ("PatternLoomModel", "pile", "[I", true)
  | 15 => ("PatternLoomModel", "xs", "[I", true)
  | 16 => ("PatternLoomModel", "ys", "[I", true)
  | 17 => ("PatternLoomModel", "stage", "[I", true)
  | 18 => ("PatternLoomModel", "first", "[I", true)
  | 19 => ("PatternLoomModel", "asked", "I", false)
  | 20 => ("PatternLoomModel", "fault", "I", false)
  | 21 => ("PatternLoomModel", "got", "I", false)
  | 22 => ("PatternLoomModel", "cloth", "[I", true)
  | 23 => ("PatternLoomModel", "size", "I", false)
  | _ => ("PatternLoomModel", "wide", "I", false)
def tyX3 : Nat → FieldType := fun k => match k with
  | 0 => .int
  | 1 => .array .int
  | 2 => .array .int
  | 3 => .array .int
  | 4 => .array .int
  | 5 => .array .int
  | 6 => .array .int
  | 7 => .array .int
  | 8 => .array .int
  | 9 => .array .int
  | 10 => .int
  | 11 => .int
  | 12 => .int
  | 13 => .int
  | 14 => .array .int
  | 15 => .array .int
  | 16 => .array .int
  | 17 => .array .int
  | 18 => .array .int
  | 19 => .int
  | 20 => .int
  | 21 => .int
  | 22 => .array .int
  | 23 => .int
  | _ => .int
abbrev wsX30 : List Cond := u_ws RX3 TX3 25
theorem nmX3 : ∀ a, a < 25 → ∀ b, b < 25 → a ≠ b → (TX3 a).2.1 ≠ (TX3 b).2.1 := by decide +kernel
theorem tyX3_ok : ∀ k, k < 25 → parseFieldDescriptor (TX3 k).2.2.1 = some (tyX3 k) := by decide +kernel
abbrev cX3_in : ByteArray := prog_5_method_2_code
def yX3_in : MethodName := ⟨RX3, "in", "(III)Z"⟩
abbrev cX3_init : ByteArray := prog_5_method_3_code
def yX3_init : MethodName := ⟨RX3, "<init>", "()V"⟩
abbrev cX3_isPattern : ByteArray := prog_5_method_4_code
def yX3_isPattern : MethodName := ⟨RX3, "isPattern", "(I)Z"⟩
abbrev cX3_dye : ByteArray := prog_5_method_5_code
def yX3_dye : MethodName := ⟨RX3, "dye", "(III)I"⟩
abbrev cX3_areThere : ByteArray := prog_5_method_6_code
def yX3_areThere : MethodName := ⟨RX3, "areThere", "(IIII)Z"⟩
abbrev cX3_pattern : ByteArray := prog_5_method_7_code
def yX3_pattern : MethodName := ⟨RX3, "pattern", "(IIII)I"⟩
abbrev cX3_name : ByteArray := prog_5_method_8_code
def yX3_name : MethodName := ⟨RX3, "name", "(II)I"⟩
abbrev cX3_push : ByteArray := prog_5_method_9_code
def yX3_push : MethodName := ⟨RX3, "push", "(III)V"⟩
abbrev cX3_tells : ByteArray := prog_5_method_10_code
def yX3_tells : MethodName := ⟨RX3, "tells", "(I)V"⟩
abbrev cX3_tellsOf : ByteArray := prog_5_method_11_code
def yX3_tellsOf : MethodName := ⟨RX3, "tellsOf", "(III)V"⟩
abbrev cX3_dyeAt : ByteArray := prog_5_method_12_code
def yX3_dyeAt : MethodName := ⟨RX3, "dyeAt", "(II)I"⟩
abbrev cX3_alone : ByteArray := prog_5_method_13_code
def yX3_alone : MethodName := ⟨RX3, "alone", "(III)V"⟩
abbrev cX3_quotient : ByteArray := prog_5_method_14_code
def yX3_quotient : MethodName := ⟨RX3, "quotient", "(II)I"⟩
abbrev cX3_turned : ByteArray := prog_5_method_15_code
def yX3_turned : MethodName := ⟨RX3, "turned", "(III)V"⟩
abbrev cX3_begins : ByteArray := prog_5_method_16_code
def yX3_begins : MethodName := ⟨RX3, "begins", "(III)V"⟩
abbrev cX3_goesOn : ByteArray := prog_5_method_17_code
def yX3_goesOn : MethodName := ⟨RX3, "goesOn", "(II)V"⟩
abbrev cX3_falls : ByteArray := prog_5_method_18_code
def yX3_falls : MethodName := ⟨RX3, "falls", "()V"⟩
abbrev cX3_work : ByteArray := prog_5_method_19_code
def yX3_work : MethodName := ⟨RX3, "work", "(III)V"⟩
abbrev cX3_ask : ByteArray := prog_5_method_20_code
def yX3_ask : MethodName := ⟨RX3, "ask", "(III)I"⟩
abbrev cX3_weave : ByteArray := prog_5_method_21_code
def yX3_weave : MethodName := ⟨RX3, "weave", "(IIIII)I"⟩
abbrev cX3_cloth : ByteArray := prog_5_method_22_code
def yX3_cloth : MethodName := ⟨RX3, "cloth", "(I)I"⟩
abbrev cX3_changes : ByteArray := prog_5_method_23_code
def yX3_changes : MethodName := ⟨RX3, "changes", "()I"⟩
abbrev cX3_manyOf : ByteArray := prog_5_method_24_code
def yX3_manyOf : MethodName := ⟨RX3, "manyOf", "(I)I"⟩
abbrev cX3_most : ByteArray := prog_5_method_25_code
def yX3_most : MethodName := ⟨RX3, "most", "()I"⟩
abbrev cX3_why : ByteArray := prog_5_method_26_code
def yX3_why : MethodName := ⟨RX3, "why", "()I"⟩
abbrev cX3_count : ByteArray := prog_5_method_27_code
def yX3_count : MethodName := ⟨RX3, "count", "(I)I"⟩
def RL : String := "PatternLoomLaw"
abbrev cL_law : ByteArray := code
def yL_law : MethodName := ⟨RL, "law", "([I)Z"⟩

abbrev a_cls : List vw_C := [(RX0, TX0, 3), (RX1, TX1, 7), (RX2, TX2, 10), (RX3, TX3, 25)]
end
section
/-! ===== a small abstract machine over handles: values, worlds, rules (own work) ===== -/
/-- the words that hold in every later state too -/
def lw_g : List Cond := lw_tbl.filter goodWord
theorem a_in {i : Nat} {w : Cond} (h : lw_tbl[i]? = some w) (g : goodWord w = true) : w ∈ lw_g := List.mem_filter.mpr ⟨List.mem_of_getElem? h, g⟩
/-- the other words: array classes, a cast, a nest mate's constructor -/
def a_XF (U : State) : Prop := va_AO RX1 U ∧ (Cond.arrayOver (.array .int)).before #[] U = true ∧ va_Nw (.castable "[I" "java/lang/Cloneable") U ∧ va_Nw (.methodLinkNest RX2 25 yX0_init RX2) U
theorem a_over {u U : State} (hvm : u.vm.Alike U.vm) (h : (Cond.arrayOver (.array .int)).before #[] u = true) : (Cond.arrayOver (.array .int)).before #[] U = true := by
  have e1 : (Cond.arrayOver (.array .int)).before #[] (u.setVm U.vm) = (Cond.arrayOver (.array .int)).before #[] u := Cond.arrayOver_setVmC hvm _
  have e2 : (Cond.arrayOver (.array .int)).before #[] (u.setVm U.vm) = (Cond.arrayOver (.array .int)).before #[] U := rfl
  rw [← e2, e1]
  exact h
theorem a_XF.warm {s U : State} (hW : s.WarmedH U.vm) (h : a_XF s) : a_XF U := ⟨h.1.moved hW.alike, a_over hW.alike h.2.1, h.2.2.1.warmC hW, h.2.2.2.warmM hW⟩
theorem a_XF.same {s U : State} (e : s.vm = U.vm) (h : a_XF s) : a_XF U := ⟨h.1.moved (by rw [e]; exact Vm.Alike.refl _), a_over (by rw [e]; exact Vm.Alike.refl _) h.2.1, h.2.2.1.same rfl e, h.2.2.2.same rfl e⟩
abbrev aV : Type := Int32 ⊕ Option Nat
abbrev aS : Type := (Nat → Nat → Int32) × (Nat → Nat → Option Nat) × (Nat → Bool)
abbrev aL : Type := List (Option aV)
abbrev aG : Type := ClassId × ClassId × ClassId
abbrev aC : Type := Nat → aL → List aV → aS → Nat → Nat → Prop
abbrev aT : Type := aC → aL → List aV → aS → Nat → Nat → Prop
abbrev aK : Type := Option aV → aS → Prop
/-- what the static handles are: kind (0..3 an object of that class, 4 ints, 5 Pattern[], 6 int[][]) and size -/
def a_kt : List (Nat × Nat) := [(2, 10), (6, 4), (5, 6), (5, 60), (0, 3), (4, 144), (4, 8), (4, 8), (4, 8), (4, 8), (4, 0), (4, 0), (4, 0), (4, 0), (4, 0), (4, 0), (3, 25), (4, 60), (4, 60), (4, 60), (4, 60), (4, 480), (4, 60), (4, 60), (4, 32), (4, 6), (4, 0), (4, 0), (4, 0), (4, 0), (4, 104), (4, 104), (4, 104), (4, 104), (4, 104), (4, 0), (4, 0), (4, 0), (4, 144)]
def kd (h : Nat) : Nat × Nat := if h < 64 then a_kt.getD h (4, 0) else if h < 128 then (1, 7) else (4, 8)
def a_it : List (List Bool) := [[false, true, true], [true, true, true, true, false, false, true], [false, false, false, false, true, true, true, true, true, true], [true, false, false, false, false, false, false, false, false, false, true, true, true, true, false, false, false, false, false, true, true, true, false, true, true]]
def a_int (ci k : Nat) : Bool := (a_it.getD ci []).getD k true
def a_val (q : Nat → Nat) : aV → Value := fun v => match v with
  | .inl x => .int x
  | .inr r => va_rf (r.map q)
def a_fv (q : Nat → Nat) (σ : aS) (ci h k : Nat) : Value := if a_int ci k = true then .int (σ.1 h k) else va_rf ((σ.2.1 h k).map q)
def a_E (G : aG) (q : Nat → Nat) (σ : aS) (h : Nat) : va_E :=
  if (kd h).1 = 4 then .inl (G.1, (kd h).2, .inl (σ.1 h))
  else if (kd h).1 = 5 then .inl (G.2.1, (kd h).2, .inr (.inr (.inr (.inr (fun i => (σ.2.1 h i).map q)))))
  else if (kd h).1 = 6 then .inl (G.2.2, (kd h).2, .inr (.inr (.inr (.inr (fun i => (σ.2.1 h i).map q)))))
  else .inr ((kd h).1, (List.range (kd h).2).map (a_fv q σ (kd h).1 h))
abbrev a_ty (G : aG) : List (ClassId × FieldType) := [(G.1, .int), (G.2.1, .object RX1), (G.2.2, .array .int)]
def a_R (D : va_G) (G : aG) (N0 : Nat) (q : Nat → Nat) (σ : aS) (H : Heap) : Prop :=
  (∀ h, σ.2.2 h = true → (N0 ≤ q h ∧ h < 256 ∧ h ≠ 63) ∧ va_at D a_cls (q h, a_E G q σ h) H) ∧
  (∀ h h', σ.2.2 h = true → σ.2.2 h' = true → q h = q h' → h = h') ∧
  (∀ h k h', σ.2.2 h = true → σ.2.1 h k = some h' → σ.2.2 h' = true)
def a_ok (σ : aS) (v : aV) : Prop := ∀ h, v = .inr (some h) → (σ.2.2 h = true ∨ h = 63)
def a_ls (q : Nat → Nat) (nL : Nat) (L : aL) (ls : Array Slot) : Prop := ls.size = nL ∧ L.length = nL ∧ lv_wf ls ∧ ∀ (i : Nat) (v : aV), L[i]? = some (some v) → ls[i]? = some (Slot.val (a_val q v))
abbrev a_X : Type := Program × Launch × Env × Room × State × MethodId × Array Value × List Frame × Method × Code × (State → Prop) × va_G × aG × Nat × Nat × (Nat → Nat) × aS
/-- the machine, at pc with locals L, stack st and world σ, comes to its end -/
def a_J : a_X → aC := fun (p, l, e, R, s, m, args, below, meth, c, Q, D, G, N0, nL, q0, σ0) pc L st σ kc ks =>
  ∀ (q : Nat → Nat) (H : Heap) (locs : List Loc) (ls : Array Slot), a_R D G N0 q σ H → a_ls q nL L ls → (∀ (i : Nat) (v : aV), L[i]? = some (some v) → a_ok σ v) → (∀ v ∈ st, a_ok σ v) → va_S (fun a => N0 ≤ a) s.heap H locs → (∀ h, σ0.2.2 h = true ∨ h = 63 → q h = q0 h ∧ (σ0.2.2 h = true → σ.2.2 h = true)) →
    W p l e R s m args below meth c H locs kc ks Q (F0 m pc ls (st.map (a_val q)))
def a_C : a_X → ByteArray → Option FieldType → String → Prop := fun (p, l, e, R, s, m, args, below, meth, c, Q, D, G, N0, nL, q0, σ0) cc rt own =>
  p.tables.exec = Jvm.exec ∧ c.code = cc ∧ c.maxLocals = nL ∧ meth.sig.returnType = rt ∧ meth.locks = false ∧ s.vm.findClass own = some m.cls ∧ (∀ w ∈ lw_g, w.before args s = true) ∧ va_K D a_cls (a_ty G) s ∧ N0 ≤ s.heap.size ∧ a_XF s
def a_Sd (X : a_X) (pc : Nat) (T : aT) : Prop := ∀ (k : aC) (L : aL) (st : List aV) (σ : aS) (kc ks : Nat), T k L st σ kc ks → (∀ pc' L' st' σ' kc' ks', k pc' L' st' σ' kc' ks' → a_J X pc' L' st' σ' kc' ks') → a_J X pc L st σ kc ks
def a_g (b : Bool) (P : Prop) : Prop := match b with
  | true => P
  | false => False
theorem a_gi {b : Bool} {P : Prop} (h : b = true) (p : P) : a_g b P := by subst h; exact p
theorem a_ge {b : Bool} {P : Prop} (h : a_g b P) : b = true ∧ P := by
  cases b
  · exact h.elim
  · exact ⟨rfl, h⟩
def a_wp (P : List (Nat × aT)) (inv : Nat → Option (aL → List aV → aS → Nat → Nat → Prop)) : Nat → aC
  | 0 => fun _ _ _ _ _ _ => False
  | n + 1 => fun pc L st σ kc ks => match inv pc with
    | some I => I L st σ kc ks
    | none => match P.lookup pc with
      | some T => T (a_wp P inv n) L st σ kc ks
      | none => False
theorem a_lk {P : List (Nat × aT)} {pc : Nat} {T : aT} (h : P.lookup pc = some T) : (pc, T) ∈ P := by
  induction P with
  | nil => cases h
  | cons x P ih =>
    obtain ⟨a, b⟩ := x
    rw [List.lookup_cons] at h
    split at h
    · rename_i he
      have : pc = a := by simpa using he
      subst this
      cases h
      exact List.mem_cons_self
    · exact List.mem_cons_of_mem _ (ih h)
theorem a_wps {X : a_X} {P : List (Nat × aT)} {inv : Nat → Option (aL → List aV → aS → Nat → Nat → Prop)} (hS : ∀ x ∈ P, a_Sd X x.1 x.2) (hI : ∀ pc I, inv pc = some I → ∀ L st σ kc ks, I L st σ kc ks → a_J X pc L st σ kc ks) :
    ∀ n pc L st σ kc ks, a_wp P inv n pc L st σ kc ks → a_J X pc L st σ kc ks := by
  intro n
  induction n with
  | zero => intro pc L st σ kc ks h; exact h.elim
  | succ n ih =>
    intro pc L st σ kc ks h
    unfold a_wp at h
    split at h
    · rename_i I hi
      exact hI pc I hi L st σ kc ks h
    · split at h
      · rename_i T hT
        exact hS _ (a_lk hT) _ L st σ kc ks h (fun pc' L' st' σ' kc' ks' h' => ih pc' L' st' σ' kc' ks' h')
      · exact h.elim
/-- the first step from a loop's head, which the list of invariants names -/
theorem a_wp1 {X : a_X} {P : List (Nat × aT)} {inv : Nat → Option (aL → List aV → aS → Nat → Nat → Prop)} (hS : ∀ x ∈ P, a_Sd X x.1 x.2) (hI : ∀ pc I, inv pc = some I → ∀ L st σ kc ks, I L st σ kc ks → a_J X pc L st σ kc ks)
    (n pc : Nat) (T : aT) (hT : P.lookup pc = some T) {L : aL} {st : List aV} {σ : aS} {kc ks : Nat} (h : T (a_wp P inv n) L st σ kc ks) : a_J X pc L st σ kc ks :=
  hS _ (a_lk hT) _ L st σ kc ks h (fun pc' L' st' σ' kc' ks' h' => a_wps hS hI n pc' L' st' σ' kc' ks' h')
/-! the transformers -/
def a_uI (σ : aS) (h k : Nat) (x : Int32) : aS := (fun h' k' => if h' = h ∧ k' = k then x else σ.1 h' k', σ.2)
def a_uF (σ : aS) (h k : Nat) (r : Option Nat) : aS := (σ.1, fun h' k' => if h' = h ∧ k' = k then r else σ.2.1 h' k', σ.2.2)
def t_ic (v : Int32) (n : Nat) : aT := fun k L st σ kc ks => k n L (.inl v :: st) σ kc ks
def t_ild (i n : Nat) : aT := fun k L st σ kc ks => match L.getD i none with
  | some (.inl x) => k n L (.inl x :: st) σ kc ks
  | _ => False
def t_ald (i n : Nat) : aT := fun k L st σ kc ks => match L.getD i none with
  | some (.inr r) => k n L (.inr r :: st) σ kc ks
  | _ => False
def t_ist (i n : Nat) : aT := fun k L st σ kc ks => match st with
  | .inl x :: st' => a_g (decide (i < L.length)) (k n (L.set i (some (.inl x))) st' σ kc ks)
  | _ => False
def t_ast (i n : Nat) : aT := fun k L st σ kc ks => match st with
  | .inr r :: st' => a_g (decide (i < L.length)) (k n (L.set i (some (.inr r))) st' σ kc ks)
  | _ => False
def t_iinc (i : Nat) (d : Int32) (n : Nat) : aT := fun k L st σ kc ks => match L.getD i none with
  | some (.inl x) => k n (L.set i (some (.inl (x + d)))) st σ kc ks
  | _ => False
def t_add (n : Nat) : aT := fun k L st σ kc ks => match st with
  | .inl y :: .inl x :: st' => k n L (.inl (x + y) :: st') σ kc ks
  | _ => False
def t_sub (n : Nat) : aT := fun k L st σ kc ks => match st with
  | .inl y :: .inl x :: st' => k n L (.inl (x - y) :: st') σ kc ks
  | _ => False
def t_mul (n : Nat) : aT := fun k L st σ kc ks => match st with
  | .inl y :: .inl x :: st' => k n L (.inl (x * y) :: st') σ kc ks
  | _ => False
def t_and (n : Nat) : aT := fun k L st σ kc ks => match st with
  | .inl y :: .inl x :: st' => k n L (.inl (x &&& y) :: st') σ kc ks
  | _ => False
def t_neg (n : Nat) : aT := fun k L st σ kc ks => match st with
  | .inl x :: st' => k n L (.inl (-x) :: st') σ kc ks
  | _ => False
def a_rem (x y : Int32) : Int32 := x - x / y * y
def t_div (n : Nat) : aT := fun k L st σ kc ks => match st with
  | .inl y :: .inl x :: st' => ¬ y = 0 ∧ k n L (.inl (x / y) :: st') σ kc ks
  | _ => False
def t_rem (n : Nat) : aT := fun k L st σ kc ks => match st with
  | .inl y :: .inl x :: st' => ¬ y = 0 ∧ k n L (.inl (a_rem x y) :: st') σ kc ks
  | _ => False
def t_dup (n : Nat) : aT := fun k L st σ kc ks => match st with
  | v :: st' => k n L (v :: v :: st') σ kc ks
  | _ => False
def t_dup2 (n : Nat) : aT := fun k L st σ kc ks => match st with
  | v :: w :: st' => k n L (v :: w :: v :: w :: st') σ kc ks
  | _ => False
def t_if (f : Int32 → Prop) (tgt n : Nat) : aT := fun k L st σ kc ks => match st with
  | .inl x :: st' => (f x → k tgt L st' σ kc ks) ∧ (¬ f x → k n L st' σ kc ks)
  | _ => False
def t_ifc (f : Int32 → Int32 → Prop) (tgt n : Nat) : aT := fun k L st σ kc ks => match st with
  | .inl y :: .inl x :: st' => (f x y → k tgt L st' σ kc ks) ∧ (¬ f x y → k n L st' σ kc ks)
  | _ => False
def t_goto (tgt : Nat) : aT := fun k L st σ kc ks => k tgt L st σ kc ks
def t_null (n : Nat) : aT := fun k L st σ kc ks => k n L (.inr none :: st) σ kc ks
def t_ifnull (tgt n : Nat) : aT := fun k L st σ kc ks => match st with
  | .inr r :: st' => (r = none → k tgt L st' σ kc ks) ∧ (¬ r = none → k n L st' σ kc ks)
  | _ => False
def t_ifnn (tgt n : Nat) : aT := fun k L st σ kc ks => match st with
  | .inr r :: st' => (¬ r = none → k tgt L st' σ kc ks) ∧ (r = none → k n L st' σ kc ks)
  | _ => False
def a_sw (k : Nat → Prop) (x : Int32) : List (Int32 × Nat) → Nat → Prop
  | [], d => k d
  | (v, t) :: r, d => (x = v → k t) ∧ (¬ x = v → a_sw k x r d)
def t_sw (ts : List (Int32 × Nat)) (d : Nat) : aT := fun k L st σ kc ks => match st with
  | .inl x :: st' => a_sw (fun n => k n L st' σ kc ks) x ts d
  | _ => False
def a_is (σ : aS) (h ci n : Nat) : Bool := σ.2.2 h && ((kd h).1 == ci && (kd h).2 == n)
def t_geti (ci n j nx : Nat) : aT := fun k L st σ kc ks => match st with
  | .inr (some h) :: st' => a_g (a_is σ h ci n) (k nx L (.inl (σ.1 h j) :: st') σ kc ks)
  | _ => False
def t_getr (ci n j nx : Nat) : aT := fun k L st σ kc ks => match st with
  | .inr (some h) :: st' => a_g (a_is σ h ci n) (k nx L (.inr (σ.2.1 h j) :: st') σ kc ks)
  | _ => False
def t_puti (ci n j nx : Nat) : aT := fun k L st σ kc ks => match st with
  | .inl x :: .inr (some h) :: st' => a_g (a_is σ h ci n) (k nx L st' (a_uI σ h j x) kc ks)
  | _ => False
def t_putr (ci n j nx : Nat) : aT := fun k L st σ kc ks => match st with
  | .inr r :: .inr (some h) :: st' => a_g (a_is σ h ci n) (¬ r = some 63 ∧ k nx L st' (a_uF σ h j r) kc ks)
  | _ => False
def a_isA (σ : aS) (h ci : Nat) : Bool := σ.2.2 h && (kd h).1 == ci
def t_iald (nx : Nat) : aT := fun k L st σ kc ks => match st with
  | .inl i :: .inr (some h) :: st' => a_g (a_isA σ h 4) (vp_in i (kd h).2 ∧ k nx L (.inl (σ.1 h i.toNatClampNeg) :: st') σ kc ks)
  | _ => False
def t_iast (nx : Nat) : aT := fun k L st σ kc ks => match st with
  | .inl x :: .inl i :: .inr (some h) :: st' => a_g (a_isA σ h 4) (vp_in i (kd h).2 ∧ k nx L st' (a_uI σ h i.toNatClampNeg x) kc ks)
  | _ => False
def t_alen (nx : Nat) : aT := fun k L st σ kc ks => match st with
  | .inr (some h) :: st' => a_g (a_isA σ h 4) (k nx L (.inl (Int32.ofNat (kd h).2) :: st') σ kc ks)
  | _ => False
def t_aald (nx : Nat) : aT := fun k L st σ kc ks => match st with
  | .inl i :: .inr (some h) :: st' => a_g (a_isA σ h 5 || a_isA σ h 6) (vp_in i (kd h).2 ∧ k nx L (.inr (σ.2.1 h i.toNatClampNeg) :: st') σ kc ks)
  | _ => False
def t_aast (nx : Nat) : aT := fun k L st σ kc ks => match st with
  | .inr r :: .inl i :: .inr (some h) :: st' => a_g (a_isA σ h 5) (vp_in i (kd h).2 ∧ (∀ h', r = some h' → a_is σ h' 1 7 = true) ∧ k nx L st' (a_uF σ h i.toNatClampNeg r) kc ks)
  | _ => False
end
section
/-! ===== the transformers' soundness: locals, stack, numbers, branches ===== -/
theorem a_cat (q : Nat → Nat) (v : aV) : (a_val q v).category = 1 := by
  cases v with
  | inl x => rfl
  | inr r => cases r <;> rfl
theorem a_okI {σ : aS} {st : List aV} (x : Int32) (h : ∀ v ∈ st, a_ok σ v) : ∀ v ∈ (Sum.inl x :: st : List aV), a_ok σ v := by
  intro v hv
  rcases List.mem_cons.mp hv with rfl | hv
  · intro h' e; cases e
  · exact h v hv
theorem a_okC {σ : aS} {st : List aV} {w : aV} (hw : a_ok σ w) (h : ∀ v ∈ st, a_ok σ v) : ∀ v ∈ (w :: st : List aV), a_ok σ v := by
  intro v hv
  rcases List.mem_cons.mp hv with rfl | hv
  · exact hw
  · exact h v hv
theorem a_okN {σ : aS} : a_ok σ (.inr none) := fun h e => by cases e
theorem a_okT {σ : aS} {st : List aV} {w : aV} (h : ∀ v ∈ (w :: st : List aV), a_ok σ v) : ∀ v ∈ st, a_ok σ v := fun v hv => h v (List.mem_cons_of_mem _ hv)
theorem a_gd {L : aL} {i : Nat} {v : aV} (h : L.getD i none = some v) : L[i]? = some (some v) := by
  rw [List.getD_eq_getElem?_getD] at h
  cases hx : L[i]? with
  | none => rw [hx] at h; cases h
  | some y => rw [hx] at h; exact congrArg some h
def a_lv (q : Nat → Nat) (L : aL) : List (Nat × Value) := (List.range L.length).filterMap (fun i => ((L[i]?).join).map (fun v => (i, a_val q v)))
theorem a_lv_mem {q : Nat → Nat} {L : aL} {i : Nat} {w : Value} : (i, w) ∈ a_lv q L ↔ ∃ v, L[i]? = some (some v) ∧ w = a_val q v := by
  unfold a_lv
  rw [List.mem_filterMap]
  constructor
  · rintro ⟨j, hj, h⟩
    cases hx : (L[j]?).join with
    | none => rw [hx] at h; cases h
    | some v =>
      rw [hx] at h
      have h9 : (j, a_val q v) = (i, w) := Option.some.inj h
      have e1 : j = i := congrArg Prod.fst h9
      have e2 : a_val q v = w := congrArg Prod.snd h9
      subst e1
      refine ⟨v, ?_, e2.symm⟩
      cases hy : L[j]? with
      | none => rw [hy] at hx; cases hx
      | some z => rw [hy] at hx; exact congrArg some hx
  · rintro ⟨v, h, rfl⟩
    exact ⟨i, List.mem_range.mpr (List.getElem?_eq_some_iff.mp h).1, by rw [h]; rfl⟩
theorem a_ls_has {q : Nat → Nat} {nL : Nat} {L : aL} {ls : Array Slot} (h : a_ls q nL L ls) : lv_has ls nL (a_lv q L) := by
  obtain ⟨h1, h2, h3, h4⟩ := h
  refine ⟨h1, h3, fun x hx => ?_⟩
  obtain ⟨i, w⟩ := x
  obtain ⟨v, hv, rfl⟩ := a_lv_mem.mp hx
  exact h4 i v hv
theorem a_ls_st {q : Nat → Nat} {nL : Nat} {L : aL} {ls ls' : Array Slot} {i : Nat} {v : aV} (h : a_ls q nL L ls) (h' : lv_has ls' nL ((i, a_val q v) :: (a_lv q L).filter (fun q => !(q.1 == i) && !(q.1 + 1 == i && q.2.category == 2)))) : a_ls q nL (L.set i (some v)) ls' := by
  obtain ⟨h1, h2, h3, h4⟩ := h
  obtain ⟨g1, g2, g3⟩ := h'
  refine ⟨g1, by rw [List.length_set]; exact h2, g2, fun j w hw => ?_⟩
  rw [List.getElem?_set] at hw
  by_cases hij : i = j
  · subst hij
    rw [if_pos rfl] at hw
    split at hw
    · cases hw
      exact g3 _ List.mem_cons_self
    · cases hw
  · rw [if_neg hij] at hw
    refine g3 (j, a_val q w) (List.mem_cons_of_mem _ (List.mem_filter.mpr ⟨a_lv_mem.mpr ⟨w, hw, rfl⟩, ?_⟩))
    have e1 : (j == i) = false := by simp; exact fun e => hij e.symm
    simp [e1, a_cat]
theorem a_okS {σ : aS} {L : aL} {i : Nat} {v : aV} (h : ∀ (i : Nat) (v : aV), L[i]? = some (some v) → a_ok σ v) (hv : a_ok σ v) : ∀ (j : Nat) (w : aV), (L.set i (some v))[j]? = some (some w) → a_ok σ w := by
  intro j w hw
  rw [List.getElem?_set] at hw
  by_cases hij : i = j
  · rw [if_pos hij] at hw
    split at hw
    · cases hw; exact hv
    · cases hw
  · rw [if_neg hij] at hw
    exact h j w hw
section AP
variable {X : a_X} {cc : ByteArray} {rt : Option FieldType} {own : String} {pc : Nat}
theorem s_ic (C : a_C X cc rt own) {n : Int} {v : Int32} (hd : decode cc pc = .ok (.iconst n, 1)) (hv : Int32.ofInt n = v) : a_Sd X pc (t_ic v (pc + 1)) := by
  obtain ⟨p, l, e, R, s, m, args, below, meth, c, Q, D, G, N0, nL, q0, σ0⟩ := X
  obtain ⟨hx, hb, -⟩ := C
  intro k L st σ kc ks h hk q H locs ls hR hl hL hst hS hq
  exact lv_iconst hx hb hd hv (hk _ _ _ _ _ _ h q H locs ls hR hl hL (a_okI _ hst) hS hq)
theorem s_bi (C : a_C X cc rt own) {n : Int} {v : Int32} (hd : decode cc pc = .ok (.bipush n, 2)) (hv : (Int8.ofInt n).toInt32 = v) : a_Sd X pc (t_ic v (pc + 2)) := by
  obtain ⟨p, l, e, R, s, m, args, below, meth, c, Q, D, G, N0, nL, q0, σ0⟩ := X
  obtain ⟨hx, hb, -⟩ := C
  intro k L st σ kc ks h hk q H locs ls hR hl hL hst hS hq
  exact lv_bipush hx hb hd hv (hk _ _ _ _ _ _ h q H locs ls hR hl hL (a_okI _ hst) hS hq)
theorem s_si (C : a_C X cc rt own) {n : Int} {v : Int32} (hd : decode cc pc = .ok (.sipush n, 3)) (hv : (Int16.ofInt n).toInt32 = v) : a_Sd X pc (t_ic v (pc + 3)) := by
  obtain ⟨p, l, e, R, s, m, args, below, meth, c, Q, D, G, N0, nL, q0, σ0⟩ := X
  obtain ⟨hx, hb, -⟩ := C
  intro k L st σ kc ks h hk q H locs ls hR hl hL hst hS hq
  exact lv_sipush hx hb hd hv (hk _ _ _ _ _ _ h q H locs ls hR hl hL (a_okI _ hst) hS hq)
theorem s_ildn (C : a_C X cc rt own) {f : Fin 4} {i : Nat} (hd : decode cc pc = .ok (.iload_n f, 1)) (hi : (f : Nat) = i) : a_Sd X pc (t_ild i (pc + 1)) := by
  obtain ⟨p, l, e, R, s, m, args, below, meth, c, Q, D, G, N0, nL, q0, σ0⟩ := X
  obtain ⟨hx, hb, -⟩ := C
  intro k L st σ kc ks h hk q H locs ls hR hl hL hst hS hq
  unfold t_ild at h
  split at h
  · rename_i x e
    exact lv_iload_n hx hb hd hi (hl.2.2.2 i _ (a_gd e)) (hk _ _ _ _ _ _ h q H locs ls hR hl hL (a_okI _ hst) hS hq)
  · exact h.elim
theorem s_ild (C : a_C X cc rt own) {i : Nat} (hd : decode cc pc = .ok (.iload i, 2)) : a_Sd X pc (t_ild i (pc + 2)) := by
  obtain ⟨p, l, e, R, s, m, args, below, meth, c, Q, D, G, N0, nL, q0, σ0⟩ := X
  obtain ⟨hx, hb, -⟩ := C
  intro k L st σ kc ks h hk q H locs ls hR hl hL hst hS hq
  unfold t_ild at h
  split at h
  · rename_i x e
    exact lv_iload hx hb hd (hl.2.2.2 i _ (a_gd e)) (hk _ _ _ _ _ _ h q H locs ls hR hl hL (a_okI _ hst) hS hq)
  · exact h.elim
theorem s_aldn (C : a_C X cc rt own) {f : Fin 4} {i : Nat} (hd : decode cc pc = .ok (.aload_n f, 1)) (hi : (f : Nat) = i) : a_Sd X pc (t_ald i (pc + 1)) := by
  obtain ⟨p, l, e, R, s, m, args, below, meth, c, Q, D, G, N0, nL, q0, σ0⟩ := X
  obtain ⟨hx, hb, -⟩ := C
  intro k L st σ kc ks h hk q H locs ls hR hl hL hst hS hq
  unfold t_ald at h
  split at h
  · rename_i r e
    have e1 := hl.2.2.2 i _ (a_gd e)
    have e2 := hk _ _ _ _ _ _ h q H locs ls hR hl hL (a_okC (hL i _ (a_gd e)) hst) hS hq
    cases r with
    | none => exact lv_aload_nN hx hb hd hi e1 e2
    | some y => exact lv_aload_n hx hb hd hi e1 e2
  · exact h.elim
theorem s_ald (C : a_C X cc rt own) {i : Nat} (hd : decode cc pc = .ok (.aload i, 2)) : a_Sd X pc (t_ald i (pc + 2)) := by
  obtain ⟨p, l, e, R, s, m, args, below, meth, c, Q, D, G, N0, nL, q0, σ0⟩ := X
  obtain ⟨hx, hb, -⟩ := C
  intro k L st σ kc ks h hk q H locs ls hR hl hL hst hS hq
  unfold t_ald at h
  split at h
  · rename_i r e
    have e1 := hl.2.2.2 i _ (a_gd e)
    have e2 := hk _ _ _ _ _ _ h q H locs ls hR hl hL (a_okC (hL i _ (a_gd e)) hst) hS hq
    cases r with
    | none => exact lv_aloadN hx hb hd e1 e2
    | some y => exact lv_aload hx hb hd e1 e2
  · exact h.elim
theorem s_istn (C : a_C X cc rt own) {f : Fin 4} {i : Nat} (hd : decode cc pc = .ok (.istore_n f, 1)) (hi : (f : Nat) = i) : a_Sd X pc (t_ist i (pc + 1)) := by
  obtain ⟨p, l, e, R, s, m, args, below, meth, c, Q, D, G, N0, nL, q0, σ0⟩ := X
  obtain ⟨hx, hb, -⟩ := C
  intro k L st σ kc ks h hk q H locs ls hR hl hL hst hS hq
  unfold t_ist at h
  split at h
  · obtain ⟨e, h⟩ := a_ge h
    have hn : i < nL := by rw [← hl.2.1]; exact of_decide_eq_true e
    exact lv_istore_n hx hb hd hi (a_ls_has hl) hn rfl (fun ls' h' => hk _ _ _ _ _ _ h q H locs ls' hR (a_ls_st hl h') (a_okS hL (fun h e => by cases e)) (a_okT hst) hS hq)
  · exact h.elim
theorem s_ist (C : a_C X cc rt own) {i : Nat} (hd : decode cc pc = .ok (.istore i, 2)) : a_Sd X pc (t_ist i (pc + 2)) := by
  obtain ⟨p, l, e, R, s, m, args, below, meth, c, Q, D, G, N0, nL, q0, σ0⟩ := X
  obtain ⟨hx, hb, -⟩ := C
  intro k L st σ kc ks h hk q H locs ls hR hl hL hst hS hq
  unfold t_ist at h
  split at h
  · obtain ⟨e, h⟩ := a_ge h
    have hn : i < nL := by rw [← hl.2.1]; exact of_decide_eq_true e
    exact lv_istore hx hb hd (a_ls_has hl) hn rfl (fun ls' h' => hk _ _ _ _ _ _ h q H locs ls' hR (a_ls_st hl h') (a_okS hL (fun h e => by cases e)) (a_okT hst) hS hq)
  · exact h.elim
theorem s_astn (C : a_C X cc rt own) {f : Fin 4} {i : Nat} (hd : decode cc pc = .ok (.astore_n f, 1)) (hi : (f : Nat) = i) : a_Sd X pc (t_ast i (pc + 1)) := by
  obtain ⟨p, l, e, R, s, m, args, below, meth, c, Q, D, G, N0, nL, q0, σ0⟩ := X
  obtain ⟨hx, hb, -⟩ := C
  intro k L st σ kc ks h hk q H locs ls hR hl hL hst hS hq
  unfold t_ast at h
  split at h
  · rename_i r st'
    obtain ⟨e, h⟩ := a_ge h
    have hn : i < nL := by rw [← hl.2.1]; exact of_decide_eq_true e
    have hv := hst _ List.mem_cons_self
    cases r with
    | none => exact lv_astore_nN hx hb hd hi (a_ls_has hl) hn rfl (fun ls' h' => hk _ _ _ _ _ _ h q H locs ls' hR (a_ls_st (v := .inr none) hl h') (a_okS hL hv) (a_okT hst) hS hq)
    | some y => exact lv_astore_n hx hb hd hi (a_ls_has hl) hn rfl (fun ls' h' => hk _ _ _ _ _ _ h q H locs ls' hR (a_ls_st (v := .inr (some y)) hl h') (a_okS hL hv) (a_okT hst) hS hq)
  · exact h.elim
theorem s_ast (C : a_C X cc rt own) {i : Nat} (hd : decode cc pc = .ok (.astore i, 2)) : a_Sd X pc (t_ast i (pc + 2)) := by
  obtain ⟨p, l, e, R, s, m, args, below, meth, c, Q, D, G, N0, nL, q0, σ0⟩ := X
  obtain ⟨hx, hb, -⟩ := C
  intro k L st σ kc ks h hk q H locs ls hR hl hL hst hS hq
  unfold t_ast at h
  split at h
  · rename_i r st'
    obtain ⟨e, h⟩ := a_ge h
    have hn : i < nL := by rw [← hl.2.1]; exact of_decide_eq_true e
    have hv := hst _ List.mem_cons_self
    cases r with
    | none => exact lv_astoreN hx hb hd (a_ls_has hl) hn rfl (fun ls' h' => hk _ _ _ _ _ _ h q H locs ls' hR (a_ls_st (v := .inr none) hl h') (a_okS hL hv) (a_okT hst) hS hq)
    | some y => exact lv_astore hx hb hd (a_ls_has hl) hn rfl (fun ls' h' => hk _ _ _ _ _ _ h q H locs ls' hR (a_ls_st (v := .inr (some y)) hl h') (a_okS hL hv) (a_okT hst) hS hq)
  · exact h.elim
theorem s_iinc (C : a_C X cc rt own) {i : Nat} {n : Int} {d : Int32} (hd : decode cc pc = .ok (.iinc i n, 3)) (hn : Int32.ofInt n = d) : a_Sd X pc (t_iinc i d (pc + 3)) := by
  obtain ⟨p, l, e, R, s, m, args, below, meth, c, Q, D, G, N0, nL, q0, σ0⟩ := X
  obtain ⟨hx, hb, -⟩ := C
  intro k L st σ kc ks h hk q H locs ls hR hl hL hst hS hq
  unfold t_iinc at h
  split at h
  · rename_i x e
    have e1 := a_gd e
    obtain ⟨j, hj⟩ := List.getElem?_of_mem (a_lv_mem (q := q).mpr ⟨_, e1, rfl⟩)
    have hi : i < nL := by rw [← hl.2.1]; exact (List.getElem?_eq_some_iff.mp e1).1
    exact lv_iinc (k := j) (x := x) (v := x + d) hx hb hd (a_ls_has hl) hj (by rw [hn]) hi rfl (fun ls' h' => hk _ _ _ _ _ _ h q H locs ls' hR (a_ls_st (v := .inl (x + d)) hl h') (a_okS hL (fun h e => by cases e)) hst hS hq)
  · exact h.elim
theorem s_add (C : a_C X cc rt own) (hd : decode cc pc = .ok (.iadd, 1)) : a_Sd X pc (t_add (pc + 1)) := by
  obtain ⟨p, l, e, R, s, m, args, below, meth, c, Q, D, G, N0, nL, q0, σ0⟩ := X
  obtain ⟨hx, hb, -⟩ := C
  intro k L st σ kc ks h hk q H locs ls hR hl hL hst hS hq
  unfold t_add at h
  split at h
  · exact lv_iadd hx hb hd (hk _ _ _ _ _ _ h q H locs ls hR hl hL (a_okI _ (a_okT (a_okT hst))) hS hq)
  · exact h.elim
theorem s_sub (C : a_C X cc rt own) (hd : decode cc pc = .ok (.isub, 1)) : a_Sd X pc (t_sub (pc + 1)) := by
  obtain ⟨p, l, e, R, s, m, args, below, meth, c, Q, D, G, N0, nL, q0, σ0⟩ := X
  obtain ⟨hx, hb, -⟩ := C
  intro k L st σ kc ks h hk q H locs ls hR hl hL hst hS hq
  unfold t_sub at h
  split at h
  · exact lv_isub hx hb hd (hk _ _ _ _ _ _ h q H locs ls hR hl hL (a_okI _ (a_okT (a_okT hst))) hS hq)
  · exact h.elim
theorem s_mul (C : a_C X cc rt own) (hd : decode cc pc = .ok (.imul, 1)) : a_Sd X pc (t_mul (pc + 1)) := by
  obtain ⟨p, l, e, R, s, m, args, below, meth, c, Q, D, G, N0, nL, q0, σ0⟩ := X
  obtain ⟨hx, hb, -⟩ := C
  intro k L st σ kc ks h hk q H locs ls hR hl hL hst hS hq
  unfold t_mul at h
  split at h
  · exact lv_imul hx hb hd (hk _ _ _ _ _ _ h q H locs ls hR hl hL (a_okI _ (a_okT (a_okT hst))) hS hq)
  · exact h.elim
theorem s_and (C : a_C X cc rt own) (hd : decode cc pc = .ok (.iand, 1)) : a_Sd X pc (t_and (pc + 1)) := by
  obtain ⟨p, l, e, R, s, m, args, below, meth, c, Q, D, G, N0, nL, q0, σ0⟩ := X
  obtain ⟨hx, hb, -⟩ := C
  intro k L st σ kc ks h hk q H locs ls hR hl hL hst hS hq
  unfold t_and at h
  split at h
  · exact lv_iand hx hb hd (hk _ _ _ _ _ _ h q H locs ls hR hl hL (a_okI _ (a_okT (a_okT hst))) hS hq)
  · exact h.elim
theorem s_neg (C : a_C X cc rt own) (hd : decode cc pc = .ok (.ineg, 1)) : a_Sd X pc (t_neg (pc + 1)) := by
  obtain ⟨p, l, e, R, s, m, args, below, meth, c, Q, D, G, N0, nL, q0, σ0⟩ := X
  obtain ⟨hx, hb, -⟩ := C
  intro k L st σ kc ks h hk q H locs ls hR hl hL hst hS hq
  unfold t_neg at h
  split at h
  · exact lv_ineg hx hb hd (hk _ _ _ _ _ _ h q H locs ls hR hl hL (a_okI _ (a_okT hst)) hS hq)
  · exact h.elim
theorem s_div (C : a_C X cc rt own) (hd : decode cc pc = .ok (.idiv, 1)) : a_Sd X pc (t_div (pc + 1)) := by
  obtain ⟨p, l, e, R, s, m, args, below, meth, c, Q, D, G, N0, nL, q0, σ0⟩ := X
  obtain ⟨hx, hb, -⟩ := C
  intro k L st σ kc ks h hk q H locs ls hR hl hL hst hS hq
  unfold t_div at h
  split at h
  · exact lv_idiv hx hb hd h.1 (hk _ _ _ _ _ _ h.2 q H locs ls hR hl hL (a_okI _ (a_okT (a_okT hst))) hS hq)
  · exact h.elim
theorem s_rem (C : a_C X cc rt own) (hd : decode cc pc = .ok (.irem, 1)) : a_Sd X pc (t_rem (pc + 1)) := by
  obtain ⟨p, l, e, R, s, m, args, below, meth, c, Q, D, G, N0, nL, q0, σ0⟩ := X
  obtain ⟨hx, hb, -⟩ := C
  intro k L st σ kc ks h hk q H locs ls hR hl hL hst hS hq
  unfold t_rem at h
  split at h
  · exact lv_irem hx hb hd h.1 (hk _ _ _ _ _ _ h.2 q H locs ls hR hl hL (a_okI _ (a_okT (a_okT hst))) hS hq)
  · exact h.elim
theorem s_dup (C : a_C X cc rt own) (hd : decode cc pc = .ok (.dup, 1)) : a_Sd X pc (t_dup (pc + 1)) := by
  obtain ⟨p, l, e, R, s, m, args, below, meth, c, Q, D, G, N0, nL, q0, σ0⟩ := X
  obtain ⟨hx, hb, -⟩ := C
  intro k L st σ kc ks h hk q H locs ls hR hl hL hst hS hq
  unfold t_dup at h
  split at h
  · exact lv_dup hx hb hd (a_cat _ _) (hk _ _ _ _ _ _ h q H locs ls hR hl hL (a_okC (hst _ List.mem_cons_self) hst) hS hq)
  · exact h.elim
theorem s_dup2 (C : a_C X cc rt own) (hd : decode cc pc = .ok (.dup2, 1)) : a_Sd X pc (t_dup2 (pc + 1)) := by
  obtain ⟨p, l, e, R, s, m, args, below, meth, c, Q, D, G, N0, nL, q0, σ0⟩ := X
  obtain ⟨hx, hb, -⟩ := C
  intro k L st σ kc ks h hk q H locs ls hR hl hL hst hS hq
  unfold t_dup2 at h
  split at h
  · exact lv_dup2_11 hx hb hd (a_cat _ _) (a_cat _ _) (hk _ _ _ _ _ _ h q H locs ls hR hl hL (a_okC (hst _ List.mem_cons_self) (a_okC (hst _ (List.mem_cons_of_mem _ List.mem_cons_self)) hst)) hS hq)
  · exact h.elim
theorem s_goto (C : a_C X cc rt own) {off : Int} {tgt : Nat} (hd : decode cc pc = .ok (.goto off, 3)) (ht : (pc : Int) + off = (tgt : Int)) : a_Sd X pc (t_goto tgt) := by
  obtain ⟨p, l, e, R, s, m, args, below, meth, c, Q, D, G, N0, nL, q0, σ0⟩ := X
  obtain ⟨hx, hb, -⟩ := C
  intro k L st σ kc ks h hk q H locs ls hR hl hL hst hS hq
  exact lv_goto hx hb hd ht (hk _ _ _ _ _ _ h q H locs ls hR hl hL hst hS hq)
theorem s_null (C : a_C X cc rt own) (hd : decode cc pc = .ok (.aconst_null, 1)) : a_Sd X pc (t_null (pc + 1)) := by
  obtain ⟨p, l, e, R, s, m, args, below, meth, c, Q, D, G, N0, nL, q0, σ0⟩ := X
  obtain ⟨hx, hb, -⟩ := C
  intro k L st σ kc ks h hk q H locs ls hR hl hL hst hS hq
  exact lv_null hx hb hd (hk _ _ _ _ _ _ h q H locs ls hR hl hL (a_okC a_okN hst) hS hq)
theorem s_ifnull (C : a_C X cc rt own) {off : Int} {tgt : Nat} (hd : decode cc pc = .ok (.ifnull off, 3)) (ht : (pc : Int) + off = (tgt : Int)) : a_Sd X pc (t_ifnull tgt (pc + 3)) := by
  obtain ⟨p, l, e, R, s, m, args, below, meth, c, Q, D, G, N0, nL, q0, σ0⟩ := X
  obtain ⟨hx, hb, -⟩ := C
  intro k L st σ kc ks h hk q H locs ls hR hl hL hst hS hq
  unfold t_ifnull at h
  split at h
  · rename_i r st'
    cases r with
    | none => exact lv_ifnullN hx hb hd ht (hk _ _ _ _ _ _ (h.1 rfl) q H locs ls hR hl hL (a_okT hst) hS hq)
    | some y => exact lv_ifnull hx hb hd (hk _ _ _ _ _ _ (h.2 (fun e => by cases e)) q H locs ls hR hl hL (a_okT hst) hS hq)
  · exact h.elim
theorem s_ifnn (C : a_C X cc rt own) {off : Int} {tgt : Nat} (hd : decode cc pc = .ok (.ifnonnull off, 3)) (ht : (pc : Int) + off = (tgt : Int)) : a_Sd X pc (t_ifnn tgt (pc + 3)) := by
  obtain ⟨p, l, e, R, s, m, args, below, meth, c, Q, D, G, N0, nL, q0, σ0⟩ := X
  obtain ⟨hx, hb, -⟩ := C
  intro k L st σ kc ks h hk q H locs ls hR hl hL hst hS hq
  unfold t_ifnn at h
  split at h
  · rename_i r st'
    cases r with
    | none => exact lv_ifnonnullN hx hb hd (hk _ _ _ _ _ _ (h.2 rfl) q H locs ls hR hl hL (a_okT hst) hS hq)
    | some y => exact lv_ifnonnull hx hb hd ht (hk _ _ _ _ _ _ (h.1 (fun e => by cases e)) q H locs ls hR hl hL (a_okT hst) hS hq)
  · exact h.elim
theorem s_if_eq (C : a_C X cc rt own) {off : Int} {tgt : Nat} (hd : decode cc pc = .ok (.ifCond .eq off, 3)) (ht : (pc : Int) + off = (tgt : Int)) : a_Sd X pc (t_if (fun x => x = 0) tgt (pc + 3)) := by
  obtain ⟨p, l, e, R, s, m, args, below, meth, c, Q, D, G, N0, nL, q0, σ0⟩ := X
  obtain ⟨hx, hb, -⟩ := C
  intro k L st σ kc ks h hk q H locs ls hR hl hL hst hS hq
  unfold t_if at h
  split at h
  · exact lv_if_eq hx hb hd ht (fun w => hk _ _ _ _ _ _ (h.1 w) q H locs ls hR hl hL (a_okT hst) hS hq) (fun w => hk _ _ _ _ _ _ (h.2 w) q H locs ls hR hl hL (a_okT hst) hS hq)
  · exact h.elim
theorem s_if_ne (C : a_C X cc rt own) {off : Int} {tgt : Nat} (hd : decode cc pc = .ok (.ifCond .ne off, 3)) (ht : (pc : Int) + off = (tgt : Int)) : a_Sd X pc (t_if (fun x => x = 0) (pc + 3) tgt) := by
  obtain ⟨p, l, e, R, s, m, args, below, meth, c, Q, D, G, N0, nL, q0, σ0⟩ := X
  obtain ⟨hx, hb, -⟩ := C
  intro k L st σ kc ks h hk q H locs ls hR hl hL hst hS hq
  unfold t_if at h
  split at h
  · exact lv_if_ne hx hb hd ht (fun w => hk _ _ _ _ _ _ (h.2 w) q H locs ls hR hl hL (a_okT hst) hS hq) (fun w => hk _ _ _ _ _ _ (h.1 w) q H locs ls hR hl hL (a_okT hst) hS hq)
  · exact h.elim
theorem s_if_lt (C : a_C X cc rt own) {off : Int} {tgt : Nat} (hd : decode cc pc = .ok (.ifCond .lt off, 3)) (ht : (pc : Int) + off = (tgt : Int)) : a_Sd X pc (t_if (fun x => x < 0) tgt (pc + 3)) := by
  obtain ⟨p, l, e, R, s, m, args, below, meth, c, Q, D, G, N0, nL, q0, σ0⟩ := X
  obtain ⟨hx, hb, -⟩ := C
  intro k L st σ kc ks h hk q H locs ls hR hl hL hst hS hq
  unfold t_if at h
  split at h
  · exact lv_if_lt hx hb hd ht (fun w => hk _ _ _ _ _ _ (h.1 w) q H locs ls hR hl hL (a_okT hst) hS hq) (fun w => hk _ _ _ _ _ _ (h.2 w) q H locs ls hR hl hL (a_okT hst) hS hq)
  · exact h.elim
theorem s_if_ge (C : a_C X cc rt own) {off : Int} {tgt : Nat} (hd : decode cc pc = .ok (.ifCond .ge off, 3)) (ht : (pc : Int) + off = (tgt : Int)) : a_Sd X pc (t_if (fun x => 0 ≤ x) tgt (pc + 3)) := by
  obtain ⟨p, l, e, R, s, m, args, below, meth, c, Q, D, G, N0, nL, q0, σ0⟩ := X
  obtain ⟨hx, hb, -⟩ := C
  intro k L st σ kc ks h hk q H locs ls hR hl hL hst hS hq
  unfold t_if at h
  split at h
  · exact lv_if_ge hx hb hd ht (fun w => hk _ _ _ _ _ _ (h.1 w) q H locs ls hR hl hL (a_okT hst) hS hq) (fun w => hk _ _ _ _ _ _ (h.2 w) q H locs ls hR hl hL (a_okT hst) hS hq)
  · exact h.elim
theorem s_if_gt (C : a_C X cc rt own) {off : Int} {tgt : Nat} (hd : decode cc pc = .ok (.ifCond .gt off, 3)) (ht : (pc : Int) + off = (tgt : Int)) : a_Sd X pc (t_if (fun x => 0 < x) tgt (pc + 3)) := by
  obtain ⟨p, l, e, R, s, m, args, below, meth, c, Q, D, G, N0, nL, q0, σ0⟩ := X
  obtain ⟨hx, hb, -⟩ := C
  intro k L st σ kc ks h hk q H locs ls hR hl hL hst hS hq
  unfold t_if at h
  split at h
  · exact lv_if_gt hx hb hd ht (fun w => hk _ _ _ _ _ _ (h.1 w) q H locs ls hR hl hL (a_okT hst) hS hq) (fun w => hk _ _ _ _ _ _ (h.2 w) q H locs ls hR hl hL (a_okT hst) hS hq)
  · exact h.elim
theorem s_if_le (C : a_C X cc rt own) {off : Int} {tgt : Nat} (hd : decode cc pc = .ok (.ifCond .le off, 3)) (ht : (pc : Int) + off = (tgt : Int)) : a_Sd X pc (t_if (fun x => x ≤ 0) tgt (pc + 3)) := by
  obtain ⟨p, l, e, R, s, m, args, below, meth, c, Q, D, G, N0, nL, q0, σ0⟩ := X
  obtain ⟨hx, hb, -⟩ := C
  intro k L st σ kc ks h hk q H locs ls hR hl hL hst hS hq
  unfold t_if at h
  split at h
  · exact lv_if_le hx hb hd ht (fun w => hk _ _ _ _ _ _ (h.1 w) q H locs ls hR hl hL (a_okT hst) hS hq) (fun w => hk _ _ _ _ _ _ (h.2 w) q H locs ls hR hl hL (a_okT hst) hS hq)
  · exact h.elim
theorem s_icmp_eq (C : a_C X cc rt own) {off : Int} {tgt : Nat} (hd : decode cc pc = .ok (.if_icmp .eq off, 3)) (ht : (pc : Int) + off = (tgt : Int)) : a_Sd X pc (t_ifc (fun x y => x = y) tgt (pc + 3)) := by
  obtain ⟨p, l, e, R, s, m, args, below, meth, c, Q, D, G, N0, nL, q0, σ0⟩ := X
  obtain ⟨hx, hb, -⟩ := C
  intro k L st σ kc ks h hk q H locs ls hR hl hL hst hS hq
  unfold t_ifc at h
  split at h
  · exact lv_icmp_eq hx hb hd ht (fun w => hk _ _ _ _ _ _ (h.1 w) q H locs ls hR hl hL (a_okT (a_okT hst)) hS hq) (fun w => hk _ _ _ _ _ _ (h.2 w) q H locs ls hR hl hL (a_okT (a_okT hst)) hS hq)
  · exact h.elim
theorem s_icmp_ne (C : a_C X cc rt own) {off : Int} {tgt : Nat} (hd : decode cc pc = .ok (.if_icmp .ne off, 3)) (ht : (pc : Int) + off = (tgt : Int)) : a_Sd X pc (t_ifc (fun x y => x = y) (pc + 3) tgt) := by
  obtain ⟨p, l, e, R, s, m, args, below, meth, c, Q, D, G, N0, nL, q0, σ0⟩ := X
  obtain ⟨hx, hb, -⟩ := C
  intro k L st σ kc ks h hk q H locs ls hR hl hL hst hS hq
  unfold t_ifc at h
  split at h
  · exact lv_icmp_ne hx hb hd ht (fun w => hk _ _ _ _ _ _ (h.2 w) q H locs ls hR hl hL (a_okT (a_okT hst)) hS hq) (fun w => hk _ _ _ _ _ _ (h.1 w) q H locs ls hR hl hL (a_okT (a_okT hst)) hS hq)
  · exact h.elim
theorem s_icmp_lt (C : a_C X cc rt own) {off : Int} {tgt : Nat} (hd : decode cc pc = .ok (.if_icmp .lt off, 3)) (ht : (pc : Int) + off = (tgt : Int)) : a_Sd X pc (t_ifc (fun x y => x < y) tgt (pc + 3)) := by
  obtain ⟨p, l, e, R, s, m, args, below, meth, c, Q, D, G, N0, nL, q0, σ0⟩ := X
  obtain ⟨hx, hb, -⟩ := C
  intro k L st σ kc ks h hk q H locs ls hR hl hL hst hS hq
  unfold t_ifc at h
  split at h
  · exact lv_icmp_lt hx hb hd ht (fun w => hk _ _ _ _ _ _ (h.1 w) q H locs ls hR hl hL (a_okT (a_okT hst)) hS hq) (fun w => hk _ _ _ _ _ _ (h.2 w) q H locs ls hR hl hL (a_okT (a_okT hst)) hS hq)
  · exact h.elim
theorem s_icmp_ge (C : a_C X cc rt own) {off : Int} {tgt : Nat} (hd : decode cc pc = .ok (.if_icmp .ge off, 3)) (ht : (pc : Int) + off = (tgt : Int)) : a_Sd X pc (t_ifc (fun x y => y ≤ x) tgt (pc + 3)) := by
  obtain ⟨p, l, e, R, s, m, args, below, meth, c, Q, D, G, N0, nL, q0, σ0⟩ := X
  obtain ⟨hx, hb, -⟩ := C
  intro k L st σ kc ks h hk q H locs ls hR hl hL hst hS hq
  unfold t_ifc at h
  split at h
  · exact lv_icmp_ge hx hb hd ht (fun w => hk _ _ _ _ _ _ (h.1 w) q H locs ls hR hl hL (a_okT (a_okT hst)) hS hq) (fun w => hk _ _ _ _ _ _ (h.2 w) q H locs ls hR hl hL (a_okT (a_okT hst)) hS hq)
  · exact h.elim
theorem s_icmp_gt (C : a_C X cc rt own) {off : Int} {tgt : Nat} (hd : decode cc pc = .ok (.if_icmp .gt off, 3)) (ht : (pc : Int) + off = (tgt : Int)) : a_Sd X pc (t_ifc (fun x y => y < x) tgt (pc + 3)) := by
  obtain ⟨p, l, e, R, s, m, args, below, meth, c, Q, D, G, N0, nL, q0, σ0⟩ := X
  obtain ⟨hx, hb, -⟩ := C
  intro k L st σ kc ks h hk q H locs ls hR hl hL hst hS hq
  unfold t_ifc at h
  split at h
  · exact lv_icmp_gt hx hb hd ht (fun w => hk _ _ _ _ _ _ (h.1 w) q H locs ls hR hl hL (a_okT (a_okT hst)) hS hq) (fun w => hk _ _ _ _ _ _ (h.2 w) q H locs ls hR hl hL (a_okT (a_okT hst)) hS hq)
  · exact h.elim
theorem s_icmp_le (C : a_C X cc rt own) {off : Int} {tgt : Nat} (hd : decode cc pc = .ok (.if_icmp .le off, 3)) (ht : (pc : Int) + off = (tgt : Int)) : a_Sd X pc (t_ifc (fun x y => x ≤ y) tgt (pc + 3)) := by
  obtain ⟨p, l, e, R, s, m, args, below, meth, c, Q, D, G, N0, nL, q0, σ0⟩ := X
  obtain ⟨hx, hb, -⟩ := C
  intro k L st σ kc ks h hk q H locs ls hR hl hL hst hS hq
  unfold t_ifc at h
  split at h
  · exact lv_icmp_le hx hb hd ht (fun w => hk _ _ _ _ _ _ (h.1 w) q H locs ls hR hl hL (a_okT (a_okT hst)) hS hq) (fun w => hk _ _ _ _ _ _ (h.2 w) q H locs ls hR hl hL (a_okT (a_okT hst)) hS hq)
  · exact h.elim
/-- a tableswitch as a list of its cases: vs lists lo, lo + 1, .. with their targets -/
theorem a_sw_at {k : Nat → Prop} {x : Int32} {d : Nat} : ∀ {ts : List (Int32 × Nat)} {t : Nat}, a_sw k x ts d → ts.lookup x = some t → k t
  | [], t, h, e => by cases e
  | (v, t') :: r, t, h, e => by
    rw [List.lookup_cons] at e
    by_cases hv : x = v
    · subst hv
      simp at e
      subst e
      exact h.1 rfl
    · have e2 : (x == v) = false := by simpa using hv
      rw [e2] at e
      exact a_sw_at (h.2 hv) e
theorem a_sw_no {k : Nat → Prop} {x : Int32} {d : Nat} : ∀ {ts : List (Int32 × Nat)}, a_sw k x ts d → ts.lookup x = none → k d
  | [], h, e => h
  | (v, t') :: r, h, e => by
    rw [List.lookup_cons] at e
    by_cases hv : x = v
    · subst hv
      simp at e
    · have e2 : (x == v) = false := by simpa using hv
      rw [e2] at e
      exact a_sw_no (h.2 hv) e
/-- for each int x: which target the table has, said by a program over all cases -/
def a_tok (pc : Nat) (dflt lo hi : Int) (offs : Array Int) (ts : List (Int32 × Nat)) (d : Nat) : Prop :=
  (pc : Int) + dflt = (d : Int) ∧ (∀ x : Int32, (x.toInt < lo ∨ hi < x.toInt) → ts.lookup x = none) ∧ ∀ x : Int32, ¬ x.toInt < lo → ¬ hi < x.toInt → ∃ (off : Int) (t : Nat), offs[(x.toInt - lo).toNat]? = some off ∧ (pc : Int) + off = (t : Int) ∧ ts.lookup x = some t
theorem a_lk_none {x : Int32} {ts : List (Int32 × Nat)} (h : ∀ v ∈ ts.map Prod.fst, ¬ x = v) : ts.lookup x = none := by
  induction ts with
  | nil => rfl
  | cons a r ih =>
    obtain ⟨v, t⟩ := a
    rw [List.lookup_cons]
    have e : (x == v) = false := by simpa using h v List.mem_cons_self
    rw [e]
    exact ih (fun w hw => h w (List.mem_cons_of_mem _ hw))
/-- the table, checked by a program: lo up to hi in n steps -/
theorem a_tok_of {pc : Nat} {dflt lo hi : Int} {offs : Array Int} {ts : List (Int32 × Nat)} {d : Nat} (n : Nat) (h1 : (pc : Int) + dflt = (d : Int)) (hn : hi = lo + n) (hts : ∀ v ∈ ts.map Prod.fst, lo ≤ v.toInt ∧ v.toInt ≤ hi)
    (h2 : ∀ j, j < n + 1 → (∃ off ∈ offs[j]?, ∃ t ∈ ts.lookup (Int32.ofInt (lo + j)), (pc : Int) + off = (t : Int))) : a_tok pc dflt lo hi offs ts d := by
  refine ⟨h1, fun x hx => a_lk_none (fun v hv e => ?_), fun x h3 h4 => ?_⟩
  · have := hts v hv
    subst e
    omega
  · obtain ⟨j, hj⟩ : ∃ j : Nat, x.toInt - lo = j := ⟨(x.toInt - lo).toNat, by omega⟩
    obtain ⟨off, ho, t, ht, h5⟩ := h2 j (by omega)
    have ex : Int32.ofInt (lo + j) = x := by
      rw [← hj, show lo + (x.toInt - lo) = x.toInt by omega]
      exact Int32.ofInt_toInt x
    rw [ex] at ht
    exact ⟨off, t, by rw [hj]; exact ho, h5, ht⟩
theorem s_tsw (C : a_C X cc rt own) {dflt lo hi : Int} {offs : Array Int} {len : Nat} {ts : List (Int32 × Nat)} {d : Nat} (hd : decode cc pc = .ok (.tableswitch dflt lo hi offs, len)) (hT : a_tok pc dflt lo hi offs ts d) : a_Sd X pc (t_sw ts d) := by
  obtain ⟨p, l, e, R, s, m, args, below, meth, c, Q, D, G, N0, nL, q0, σ0⟩ := X
  obtain ⟨hx, hb, -⟩ := C
  intro k L st σ kc ks h hk q H locs ls hR hl hL hst hS hq
  unfold t_sw at h
  split at h
  · rename_i x st'
    obtain ⟨t1, t2, t3⟩ := hT
    by_cases hx1 : x.toInt < lo ∨ hi < x.toInt
    · exact lv_tableOut hx hb hd hx1 t1 (hk _ _ _ _ _ _ (a_sw_no (k := fun n => k n L st' σ kc ks) h (t2 x hx1)) q H locs ls hR hl hL (a_okT hst) hS hq)
    · have h3 : ¬ x.toInt < lo := fun e => hx1 (Or.inl e)
      have h4 : ¬ hi < x.toInt := fun e => hx1 (Or.inr e)
      obtain ⟨off, t, o1, o2, o3⟩ := t3 x h3 h4
      exact lv_tableIn hx hb hd h3 h4 o1 o2 (hk _ _ _ _ _ _ (a_sw_at (k := fun n => k n L st' σ kc ks) h o3) q H locs ls hR hl hL (a_okT hst) hS hq)
  · exact h.elim
/-- a lookupswitch: ps of the code against the cases -/
def a_lok (pc : Nat) (dflt : Int) (ps : List (Int × Int)) (ts : List (Int32 × Nat)) (d : Nat) : Prop := ∀ x : Int32, ∃ t : Nat, (pc : Int) + Op.lookupswitch.offset ps dflt x.toInt = (t : Int) ∧ ∀ k : Nat → Prop, a_sw k x ts d → k t
theorem a_lok_nil {pc : Nat} {dflt : Int} {d : Nat} (h : (pc : Int) + dflt = (d : Int)) : a_lok pc dflt [] [] d := fun x => ⟨d, h, fun k hk => hk⟩
theorem a_lok_cons {pc : Nat} {dflt a o : Int} {ps : List (Int × Int)} {ts : List (Int32 × Nat)} {d t : Nat} {v : Int32} (hv : v.toInt = a) (ht : (pc : Int) + o = (t : Int)) (h : a_lok pc dflt ps ts d) : a_lok pc dflt ((a, o) :: ps) ((v, t) :: ts) d := by
  intro x
  by_cases hx : x = v
  · subst hx
    refine ⟨t, ?_, fun k hk => hk.1 rfl⟩
    rw [Op.lookupswitch.offset_cons, if_pos hv.symm]
    exact ht
  · obtain ⟨t', h1, h2⟩ := h x
    exact ⟨t', by rw [lv_osw hx hv]; exact h1, fun k hk => h2 k (hk.2 hx)⟩
theorem s_lsw (C : a_C X cc rt own) {dflt : Int} {ps : Array (Int × Int)} {len : Nat} {ts : List (Int32 × Nat)} {d : Nat} (hd : decode cc pc = .ok (.lookupswitch dflt ps, len)) (hp : (ps.toList.zip (ps.toList.drop 1)).all (fun (a, next) => a.1 < next.1) = true) (hT : a_lok pc dflt ps.toList ts d) : a_Sd X pc (t_sw ts d) := by
  obtain ⟨p, l, e, R, s, m, args, below, meth, c, Q, D, G, N0, nL, q0, σ0⟩ := X
  obtain ⟨hx, hb, -⟩ := C
  intro k L st σ kc ks h hk q H locs ls hR hl hL hst hS hq
  unfold t_sw at h
  split at h
  · rename_i x st'
    obtain ⟨t, o1, o2⟩ := hT x
    exact lv_lookup hx hb hd hp rfl o1 (hk _ _ _ _ _ _ (o2 (fun n => k n L st' σ kc ks) h) q H locs ls hR hl hL (a_okT hst) hS hq)
  · exact h.elim
end AP
end
section
/-! ===== the transformers' soundness: fields and arrays ===== -/
theorem a_P1 {D : va_G} {cl : List vw_C} {x : Nat × va_E} {H : Heap} (h : va_at D cl x H) : va_P D cl [x] H := by
  intro k y hy
  have hz : k < 1 := (List.getElem?_eq_some_iff.mp hy).1
  rw [show k = 0 by omega] at hy
  cases hy
  exact h
theorem a_isE {σ : aS} {h ci n : Nat} (e : a_is σ h ci n = true) : σ.2.2 h = true ∧ (kd h).1 = ci ∧ (kd h).2 = n := by
  unfold a_is at e
  simp only [Bool.and_eq_true, beq_iff_eq] at e
  exact ⟨e.1, e.2.1, e.2.2⟩
theorem a_isAE {σ : aS} {h ci : Nat} (e : a_isA σ h ci = true) : σ.2.2 h = true ∧ (kd h).1 = ci := by
  unfold a_isA at e
  simp only [Bool.and_eq_true, beq_iff_eq] at e
  exact ⟨e.1, e.2⟩
theorem a_E_o {G : aG} {q : Nat → Nat} {σ : aS} {h ci n : Nat} (h1 : (kd h).1 = ci) (h2 : (kd h).2 = n) (hc : ci < 4) : a_E G q σ h = .inr (ci, (List.range n).map (a_fv q σ ci h)) := by
  unfold a_E
  rw [h1, h2, if_neg (by omega), if_neg (by omega), if_neg (by omega)]
theorem a_E_4 {G : aG} {q : Nat → Nat} {σ : aS} {h : Nat} (h1 : (kd h).1 = 4) : a_E G q σ h = .inl (G.1, (kd h).2, .inl (σ.1 h)) := by
  unfold a_E
  rw [if_pos h1]
theorem a_E_5 {G : aG} {q : Nat → Nat} {σ : aS} {h : Nat} (h1 : (kd h).1 = 5) : a_E G q σ h = .inl (G.2.1, (kd h).2, .inr (.inr (.inr (.inr (fun i => (σ.2.1 h i).map q))))) := by
  unfold a_E
  rw [if_neg (by omega), if_pos h1]
theorem a_E_6 {G : aG} {q : Nat → Nat} {σ : aS} {h : Nat} (h1 : (kd h).1 = 6) : a_E G q σ h = .inl (G.2.2, (kd h).2, .inr (.inr (.inr (.inr (fun i => (σ.2.1 h i).map q))))) := by
  unfold a_E
  rw [if_neg (by omega), if_neg (by omega), if_pos h1]
theorem a_vpV {n j : Nat} {f : Nat → Value} (hj : j < n) : vp_V ((List.range n).map f) j = f j := by
  unfold vp_V
  rw [List.getD_eq_getElem?_getD, List.getElem?_map, List.getElem?_range hj]
  rfl
theorem a_get? {n j : Nat} {f : Nat → Value} (hj : j < n) : ((List.range n).map f)[j]? = some (f j) := by
  rw [List.getElem?_map, List.getElem?_range hj]
  rfl
theorem a_c4 {ci : Nat} {r : vw_C} (h : a_cls[ci]? = some r) : ci < 4 := (List.getElem?_eq_some_iff.mp h).1
theorem a_E_congr {G : aG} {q : Nat → Nat} {σ σ' : aS} {h : Nat} (h1 : σ'.1 h = σ.1 h) (h2 : σ'.2.1 h = σ.2.1 h) : a_E G q σ' h = a_E G q σ h := by
  unfold a_E a_fv
  rw [h1, h2]
theorem a_uI_1 {σ : aS} {h k : Nat} {x : Int32} {h' : Nat} (hn : h' ≠ h) : (a_uI σ h k x).1 h' = σ.1 h' := by
  funext k'
  exact if_neg (fun e => hn e.1)
theorem a_uF_1 {σ : aS} {h k : Nat} {r : Option Nat} {h' : Nat} (hn : h' ≠ h) : (a_uF σ h k r).2.1 h' = σ.2.1 h' := by
  funext k'
  exact if_neg (fun e => hn e.1)
theorem a_R_wr {D : va_G} {G : aG} {N0 : Nat} {q : Nat → Nat} {σ σ' : aS} {H H1 : Heap} {h0 : Nat} (hR : a_R D G N0 q σ H) (hl : σ.2.2 h0 = true) (hlv : σ'.2.2 = σ.2.2) (h1 : ∀ h, h ≠ h0 → σ'.1 h = σ.1 h) (h2 : ∀ h, h ≠ h0 → σ'.2.1 h = σ.2.1 h)
    (hat : va_at D a_cls (q h0, a_E G q σ' h0) H1) (oq : ∀ a, a ≠ q h0 → H1[a]? = H[a]?) (hwf : ∀ k h', σ'.2.1 h0 k = some h' → σ.2.2 h' = true) : a_R D G N0 q σ' H1 := by
  obtain ⟨r1, r2, r3⟩ := hR
  refine ⟨fun h hh => ?_, fun h h' e1 e2 => ?_, fun h k h' e1 e2 => ?_⟩
  · rw [hlv] at hh
    refine ⟨(r1 h hh).1, ?_⟩
    by_cases e : h = h0
    · subst e; exact hat
    · rw [a_E_congr (h1 h e) (h2 h e)]
      exact (r1 h hh).2.kept (oq _ (fun z => e (r2 h h0 hh hl z)))
  · rw [hlv] at e1 e2
    exact r2 h h' e1 e2
  · rw [hlv] at e1 ⊢
    by_cases e : h = h0
    · subst e; exact hwf k h' e2
    · rw [h2 h e] at e2
      exact r3 h k h' e1 e2
theorem a_okM {σ σ' : aS} (hlv : σ'.2.2 = σ.2.2) {st : List aV} (h : ∀ v ∈ st, a_ok σ v) : ∀ v ∈ st, a_ok σ' v := fun v hv h' e => by rw [hlv]; exact h v hv h' e
theorem a_okML {σ σ' : aS} (hlv : σ'.2.2 = σ.2.2) {L : aL} (h : ∀ (i : Nat) (v : aV), L[i]? = some (some v) → a_ok σ v) : ∀ (i : Nat) (v : aV), L[i]? = some (some v) → a_ok σ' v := fun i v hv h' e => by rw [hlv]; exact h i v hv h' e
section AH
variable {p : Program} {l : Launch} {e : Env} {R : Room} {s : State} {m : MethodId} {args : Array Value} {below : List Frame} {meth : Method} {c : Code} {H : Heap} {locs : List Loc} {cells slots : Nat} {Q : State → Prop}
variable {cc : ByteArray} {pc : Nat} {ls : Array Slot} {rest : List Value} {D : va_G} {a : Nat} {tys : List (ClassId × FieldType)}
/-- a field is put, the cell told by its values; all other cells stay -/
theorem a_put1 (hexec : p.tables.exec = Jvm.exec) (hb : c.code = cc) {own C : String} {T : u_T} {N ci index : Nat} (hts : ∀ w ∈ lw_g, w.before args s = true) (hin : ∀ w ∈ u_ws C T N, w ∈ lw_g) (ty0 : Nat → FieldType) (hty : ∀ k, k < N → parseFieldDescriptor (T k).2.2.1 = some (ty0 k)) (hnm : ∀ a, a < N → ∀ b, b < N → a ≠ b → (T a).2.1 ≠ (T b).2.1) (hown : s.vm.findClass own = some m.cls) (hK : va_K D a_cls tys s) {fs : List Value} (he : va_at D a_cls (a, .inr (ci, fs)) H) (hc : a_cls[ci]? = some (C, T, N)) (k : Nat) (hk : k < N) (hlink : (Cond.fieldLink own index (T k).1 (T k).2.1 (T k).2.2.1).before args s = true) (hfin : (T k).2.2.2 = false ∨ ((T k).2.2.2 = true ∧ meth.name = "<init>" ∧ (T k).1 = own)) {v : Value} (hn : narrow (ty0 k) v = v) (hfit : fits (ty0 k) v = true)
    (hdg : decode cc pc = .ok (.putfield index, 3)) (kk : ∀ (H1 : Heap) (j : Nat), t_OB a (D.1 ci) N (D.2 ci) H1 (updV (vp_V fs) k v) → H1.size = H.size → (∀ q, q ≠ a → H1[q]? = H[q]?) → W p l e R s m args below meth c H1 (locs ++ [⟨a, j⟩]) cells slots Q (F0 m (pc + 3) ls rest)) : W p l e R s m args below meth c H locs cells slots Q (F0 m pc ls (v :: .ref a :: rest)) := by
  have hap := va_apart (own := own) hts hin ty0 hty hnm hK hc
  obtain ⟨r, h1, cell, q1, q2, q3, q4⟩ := he
  have hr : r = (C, T, N) := Option.some.inj (h1.symm.trans hc)
  subst hr
  obtain ⟨hS, hfc, kC, hkC, hkind⟩ := hK.1 ci _ hc
  obtain ⟨cf, kf, fi, f, hi, hsl⟩ := hS k hk
  have hlay := hts _ (hin _ (u_in_lay hk))
  unfold u_lay at hlay
  have hst := (u_facts hfc hkC (u_lays hts hin hk) hi).1
  rcases hfin with hfin | ⟨hfin, hin2, hdecl⟩
  · rw [if_neg (by rw [hfin]; decide)] at hlay
    have h6 := u_store hfc hkC hkind hlay hi (hty k hk) hn hfit
    refine W.putK hexec hb (f := f) ⟨hown, hlink, ⟨_, _, _, hi⟩, hst⟩ (by rw [q2]; exact h6) q1 q3 (by rw [hsl]; exact k2_hasslot (q4 k hk)) rfl rfl hdg fun H' e1 e2 e3 => ?_
    rw [hsl] at e1 ⊢
    exact kk H' _ ⟨_, e1, q2, q3, t_set q4 hap hk v⟩ e2 e3
  · rw [if_pos hfin] at hlay
    have hcf : m.cls = cf := by
      obtain ⟨_, _, c', _, _, _, -, -, hf', -, -, -, hown2, -⟩ := Cond.laysFinal_spec hlay
      have e1 : c' = cf := by have := hi.symm.trans hf'; simp at this; exact this.1.symm
      rw [hdecl] at hown2
      rw [← e1]; exact Option.some.inj (hown.symm.trans hown2)
    have h6 := u_fits hfc hkC hkind (Or.inr hlay) hi (hty k hk) hn hfit
    refine W.putFinK hexec hb hown hlink hi hst hcf hin2 (by rw [q2]; exact h6) q1 q3 (by rw [hsl]; exact k2_hasslot (q4 k hk)) rfl rfl hdg fun H' e1 e2 e3 => ?_
    rw [hsl] at e1 ⊢
    exact kk H' _ ⟨_, e1, q2, q3, t_set q4 hap hk v⟩ e2 e3
end AH
section AF
variable {X : a_X} {cc : ByteArray} {rt : Option FieldType} {own : String} {pc : Nat} {ci n j index : Nat} {Cn : String} {T : u_T}
theorem s_geti (C : a_C X cc rt own) (hc : a_cls[ci]? = some (Cn, T, n)) (hin : ∀ w ∈ u_ws Cn T n, w ∈ lw_g) (hj : j < n) (hlink : Cond.fieldLink own index (T j).1 (T j).2.1 (T j).2.2.1 ∈ lw_g) (hi : a_int ci j = true) (hd : decode cc pc = .ok (.getfield index, 3)) : a_Sd X pc (t_geti ci n j (pc + 3)) := by
  obtain ⟨p, l, e, R, s, m, args, below, meth, c, Q, D, G, N0, nL, q0, σ0⟩ := X
  obtain ⟨hx, hb, hml, hr, hlk, hown, hts, hK, hN, hXF⟩ := C
  intro k L st σ kc ks h hk q H locs ls hR hl hL hst hS hq
  unfold t_geti at h
  split at h
  · rename_i hh st'
    obtain ⟨e, h⟩ := a_ge h
    obtain ⟨e1, e2, e3⟩ := a_isE e
    have hat := (hR.1 hh e1).2
    rw [a_E_o e2 e3 (a_c4 hc)] at hat
    refine va_get (D := D) (v := .int (σ.1 hh j)) hx hb hts hin hown hK (a_P1 hat) 0 rfl hc j hj (hts _ hlink) (fun _ h9 => h9) ?_ hd (hk _ _ _ _ _ _ h q H locs ls hR hl hL (a_okI _ (a_okT hst)) hS hq)
    rw [a_get? hj]
    unfold a_fv
    rw [if_pos hi]
  · exact h.elim
theorem s_getr (C : a_C X cc rt own) (hc : a_cls[ci]? = some (Cn, T, n)) (hin : ∀ w ∈ u_ws Cn T n, w ∈ lw_g) (hj : j < n) (hlink : Cond.fieldLink own index (T j).1 (T j).2.1 (T j).2.2.1 ∈ lw_g) (hi : a_int ci j = false) (hd : decode cc pc = .ok (.getfield index, 3)) : a_Sd X pc (t_getr ci n j (pc + 3)) := by
  obtain ⟨p, l, e, R, s, m, args, below, meth, c, Q, D, G, N0, nL, q0, σ0⟩ := X
  obtain ⟨hx, hb, hml, hr, hlk, hown, hts, hK, hN, hXF⟩ := C
  intro k L st σ kc ks h hk q H locs ls hR hl hL hst hS hq
  unfold t_getr at h
  split at h
  · rename_i hh st'
    obtain ⟨e, h⟩ := a_ge h
    obtain ⟨e1, e2, e3⟩ := a_isE e
    have hat := (hR.1 hh e1).2
    rw [a_E_o e2 e3 (a_c4 hc)] at hat
    refine va_get (D := D) (v := va_rf ((σ.2.1 hh j).map q)) hx hb hts hin hown hK (a_P1 hat) 0 rfl hc j hj (hts _ hlink) (fun _ h9 => h9) ?_ hd (hk _ _ _ _ _ _ h q H locs ls hR hl hL (a_okC (fun h' e' => Or.inl (hR.2.2 hh j h' e1 (Sum.inr.inj e'))) (a_okT hst)) hS hq)
    rw [a_get? hj]
    unfold a_fv
    rw [if_neg (by rw [hi]; decide)]
  · exact h.elim
theorem s_puti (C : a_C X cc rt own) (ty0 : Nat → FieldType) (hty : ∀ k, k < n → parseFieldDescriptor (T k).2.2.1 = some (ty0 k)) (hnm : ∀ a, a < n → ∀ b, b < n → a ≠ b → (T a).2.1 ≠ (T b).2.1) (hc : a_cls[ci]? = some (Cn, T, n)) (hin : ∀ w ∈ u_ws Cn T n, w ∈ lw_g) (hj : j < n) (hlink : Cond.fieldLink own index (T j).1 (T j).2.1 (T j).2.2.1 ∈ lw_g) (hi : a_int ci j = true) (hfin : (T j).2.2.2 = false ∨ ((T j).2.2.2 = true ∧ X.2.2.2.2.2.2.2.2.1.name = "<init>" ∧ (T j).1 = own)) (ht : ty0 j = .int) (hd : decode cc pc = .ok (.putfield index, 3)) : a_Sd X pc (t_puti ci n j (pc + 3)) := by
  obtain ⟨p, l, e, R, s, m, args, below, meth, c, Q, D, G, N0, nL, q0, σ0⟩ := X
  obtain ⟨hx, hb, hml, hr, hlk, hown, hts, hK, hN, hXF⟩ := C
  intro k L st σ kc ks h hk q H locs ls hR hl hL hst hS hq
  unfold t_puti at h
  split at h
  · rename_i x hh st'
    obtain ⟨e, h⟩ := a_ge h
    obtain ⟨e1, e2, e3⟩ := a_isE e
    have hat := (hR.1 hh e1).2
    have hA := (hR.1 hh e1).1.1
    rw [a_E_o e2 e3 (a_c4 hc)] at hat
    refine a_put1 hx hb hts hin ty0 hty hnm hown hK hat hc j hj (hts _ hlink) hfin (by rw [ht]; rfl) (by rw [ht]; rfl) hd (fun H1 jj ho z oq => ?_)
    have hlv : (a_uI σ hh j x).2.2 = σ.2.2 := rfl
    refine hk _ _ _ _ _ _ h q H1 _ ls (a_R_wr hR e1 hlv (fun h' hn => a_uI_1 hn) (fun _ _ => rfl) ?_ oq (fun k' h' e' => hR.2.2 hh k' h' e1 e')) hl (a_okML hlv hL) (a_okM hlv (a_okT (a_okT hst))) (hS.put z oq hA) (fun h' w => ⟨(hq h' w).1, (hq h' w).2⟩)
    rw [a_E_o e2 e3 (a_c4 hc)]
    refine ⟨_, hc, ho.to (fun k' hk' => ?_)⟩
    rw [a_vpV hk']
    unfold updV a_fv
    by_cases ek : k' = j
    · subst ek
      rw [if_pos rfl, if_pos hi]
      show Value.int x = Value.int (if _ then _ else _)
      rw [if_pos ⟨rfl, rfl⟩]
    · rw [if_neg ek, a_vpV hk']
      have e9 : (a_uI σ hh j x).1 hh k' = σ.1 hh k' := if_neg (fun e' => ek e'.2)
      rw [e9]
      rfl
  · exact h.elim
theorem s_putr (C : a_C X cc rt own) (ty0 : Nat → FieldType) (hty : ∀ k, k < n → parseFieldDescriptor (T k).2.2.1 = some (ty0 k)) (hnm : ∀ a, a < n → ∀ b, b < n → a ≠ b → (T a).2.1 ≠ (T b).2.1) (hc : a_cls[ci]? = some (Cn, T, n)) (hin : ∀ w ∈ u_ws Cn T n, w ∈ lw_g) (hj : j < n) (hlink : Cond.fieldLink own index (T j).1 (T j).2.1 (T j).2.2.1 ∈ lw_g) (hi : a_int ci j = false) (hfin : (T j).2.2.2 = false ∨ ((T j).2.2.2 = true ∧ X.2.2.2.2.2.2.2.2.1.name = "<init>" ∧ (T j).1 = own)) (ht : (∃ t, ty0 j = .array t) ∨ ∃ t, ty0 j = .object t) (hd : decode cc pc = .ok (.putfield index, 3)) : a_Sd X pc (t_putr ci n j (pc + 3)) := by
  obtain ⟨p, l, e, R, s, m, args, below, meth, c, Q, D, G, N0, nL, q0, σ0⟩ := X
  obtain ⟨hx, hb, hml, hr, hlk, hown, hts, hK, hN, hXF⟩ := C
  intro k L st σ kc ks h hk q H locs ls hR hl hL hst hS hq
  unfold t_putr at h
  split at h
  · rename_i x hh st'
    obtain ⟨e, h⟩ := a_ge h
    obtain ⟨e1, e2, e3⟩ := a_isE e
    have hat := (hR.1 hh e1).2
    have hA := (hR.1 hh e1).1.1
    rw [a_E_o e2 e3 (a_c4 hc)] at hat
    have hv : a_ok σ (.inr x) := hst _ List.mem_cons_self
    refine a_put1 (v := va_rf (x.map q)) hx hb hts hin ty0 hty hnm hown hK hat hc j hj (hts _ hlink) hfin (by rcases ht with ⟨t, ht⟩ | ⟨t, ht⟩ <;> (rw [ht]; cases x <;> rfl)) (by rcases ht with ⟨t, ht⟩ | ⟨t, ht⟩ <;> (rw [ht]; cases x <;> rfl)) hd (fun H1 jj ho z oq => ?_)
    have hlv : (a_uF σ hh j x).2.2 = σ.2.2 := rfl
    refine hk _ _ _ _ _ _ h.2 q H1 _ ls (a_R_wr hR e1 hlv (fun _ _ => rfl) (fun h' hn => a_uF_1 hn) ?_ oq (fun k' h' e' => ?_)) hl (a_okML hlv hL) (a_okM hlv (a_okT (a_okT hst))) (hS.put z oq hA) (fun h' w => ⟨(hq h' w).1, (hq h' w).2⟩)
    · rw [a_E_o e2 e3 (a_c4 hc)]
      refine ⟨_, hc, ho.to (fun k' hk' => ?_)⟩
      rw [a_vpV hk']
      unfold updV a_fv
      by_cases ek : k' = j
      · subst ek
        rw [if_pos rfl, if_neg (by rw [hi]; decide)]
        have e9 : (a_uF σ hh k' x).2.1 hh k' = x := if_pos ⟨rfl, rfl⟩
        rw [e9]
      · rw [if_neg ek, a_vpV hk']
        have e9 : (a_uF σ hh j x).2.1 hh k' = σ.2.1 hh k' := if_neg (fun e' => ek e'.2)
        rw [e9]
        rfl
    · by_cases ek : k' = j
      · have e9 : (a_uF σ hh j x).2.1 hh k' = x := if_pos ⟨rfl, ek⟩
        rw [e9] at e'
        rcases hv h' (by rw [e']) with w | w
        · exact w
        · exact absurd (by rw [e', w]) h.1
      · have e9 : (a_uF σ hh j x).2.1 hh k' = σ.2.1 hh k' := if_neg (fun e' => ek e'.2)
        rw [e9] at e'
        exact hR.2.2 hh k' h' e1 e'
  · exact h.elim
end AF
section AA
variable {X : a_X} {cc : ByteArray} {rt : Option FieldType} {own : String} {pc : Nat}
theorem s_iald (C : a_C X cc rt own) (hd : decode cc pc = .ok (.iaload, 1)) : a_Sd X pc (t_iald (pc + 1)) := by
  obtain ⟨p, l, e, R, s, m, args, below, meth, c, Q, D, G, N0, nL, q0, σ0⟩ := X
  obtain ⟨hx, hb, hml, hr, hlk, hown, hts, hK, hN, hXF⟩ := C
  intro k L st σ kc ks h hk q H locs ls hR hl hL hst hS hq
  unfold t_iald at h
  split at h
  · rename_i i hh st'
    obtain ⟨e, h⟩ := a_ge h
    obtain ⟨e1, e2⟩ := a_isAE e
    have hat := (hR.1 hh e1).2
    rw [a_E_4 e2] at hat
    exact va_iald (D := D) hx hb hK (a_P1 hat) 0 0 rfl rfl h.1 hd (hk _ _ _ _ _ _ h.2 q H locs ls hR hl hL (a_okI _ (a_okT (a_okT hst))) hS hq)
  · exact h.elim
theorem s_alen (C : a_C X cc rt own) (hd : decode cc pc = .ok (.arraylength, 1)) : a_Sd X pc (t_alen (pc + 1)) := by
  obtain ⟨p, l, e, R, s, m, args, below, meth, c, Q, D, G, N0, nL, q0, σ0⟩ := X
  obtain ⟨hx, hb, hml, hr, hlk, hown, hts, hK, hN, hXF⟩ := C
  intro k L st σ kc ks h hk q H locs ls hR hl hL hst hS hq
  unfold t_alen at h
  split at h
  · rename_i hh st'
    obtain ⟨e, h⟩ := a_ge h
    obtain ⟨e1, e2⟩ := a_isAE e
    have hat := (hR.1 hh e1).2
    rw [a_E_4 e2] at hat
    exact va_alen (D := D) hx hb hK (a_P1 hat) 0 0 rfl rfl rfl hd (hk _ _ _ _ _ _ h q H locs ls hR hl hL (a_okI _ (a_okT hst)) hS hq)
  · exact h.elim
theorem s_iast (C : a_C X cc rt own) (hd : decode cc pc = .ok (.iastore, 1)) : a_Sd X pc (t_iast (pc + 1)) := by
  obtain ⟨p, l, e, R, s, m, args, below, meth, c, Q, D, G, N0, nL, q0, σ0⟩ := X
  obtain ⟨hx, hb, hml, hr, hlk, hown, hts, hK, hN, hXF⟩ := C
  intro k L st σ kc ks h hk q H locs ls hR hl hL hst hS hq
  unfold t_iast at h
  split at h
  · rename_i x i hh st'
    obtain ⟨e, h⟩ := a_ge h
    obtain ⟨e1, e2⟩ := a_isAE e
    have hat := (hR.1 hh e1).2
    have hA := (hR.1 hh e1).1.1
    rw [a_E_4 e2] at hat
    refine W.iast hx hb hat ((hK.2 0 _ rfl).1 _ (fun j => .int (σ.1 hh j))) (fun q => by cases q) (by show ¬ (i < 0 ∨ (arrV _ _ _).slots.size ≤ _); rw [arrV_size]; exact h.1) rfl rfl hd fun H1 e9 z oq => ?_
    have hlv : (a_uI σ hh i.toNatClampNeg x).2.2 = σ.2.2 := rfl
    refine hk _ _ _ _ _ _ h.2 q H1 _ ls (a_R_wr hR e1 hlv (fun h' hn => a_uI_1 hn) (fun _ _ => rfl) ?_ oq (fun k' h' e' => hR.2.2 hh k' h' e1 e')) hl (a_okML hlv hL) (a_okM hlv (a_okT (a_okT (a_okT hst)))) (hS.put z oq hA) (fun h' w => ⟨(hq h' w).1, (hq h' w).2⟩)
    rw [a_E_4 e2]
    show H1[q hh]? = some (vp_cell _ _)
    rw [e9, vp_cell_i, vp_cell_i, arrV_store]
    congr 2
    funext y
    unfold updV
    by_cases hy : y = i.toNatClampNeg
    · subst hy
      rw [if_pos rfl]
      exact congrArg Value.int (if_pos ⟨rfl, rfl⟩).symm
    · rw [if_neg hy]
      exact congrArg Value.int (if_neg (fun e' => hy e'.2)).symm
  · exact h.elim
theorem s_aald (C : a_C X cc rt own) (hd : decode cc pc = .ok (.aaload, 1)) : a_Sd X pc (t_aald (pc + 1)) := by
  obtain ⟨p, l, e, R, s, m, args, below, meth, c, Q, D, G, N0, nL, q0, σ0⟩ := X
  obtain ⟨hx, hb, hml, hr, hlk, hown, hts, hK, hN, hXF⟩ := C
  intro k L st σ kc ks h hk q H locs ls hR hl hL hst hS hq
  unfold t_aald at h
  split at h
  · rename_i i hh st'
    obtain ⟨e, h⟩ := a_ge h
    have hlt : i.toNatClampNeg < (kd hh).2 := Nat.not_le.mp fun q => h.1 (Or.inr q)
    rcases Bool.or_eq_true_iff.mp e with e | e
    · obtain ⟨e1, e2⟩ := a_isAE e
      have hat := (hR.1 hh e1).2
      rw [a_E_5 e2] at hat
      exact W.aald (v := va_rf ((σ.2.1 hh i.toNatClampNeg).map q)) (ty := .object RX1) hx hb hat ((hK.2 1 _ rfl).1 _ (fun j => va_rf ((σ.2.1 hh j).map q))) rfl (fun q => by cases q) (by show ¬ (i < 0 ∨ (arrV _ _ _).slots.size ≤ _); rw [arrV_size]; exact h.1) (by show (arrV _ _ _).slots[_]? = _; rw [arrV_read _ _ hlt]) rfl rfl hd (hk _ _ _ _ _ _ h.2 q H locs ls hR hl hL (a_okC (fun h' e' => Or.inl (hR.2.2 hh _ h' e1 (Sum.inr.inj e'))) (a_okT (a_okT hst))) hS hq)
    · obtain ⟨e1, e2⟩ := a_isAE e
      have hat := (hR.1 hh e1).2
      rw [a_E_6 e2] at hat
      exact W.aald (v := va_rf ((σ.2.1 hh i.toNatClampNeg).map q)) (ty := .array .int) hx hb hat ((hK.2 2 _ rfl).1 _ (fun j => va_rf ((σ.2.1 hh j).map q))) rfl (fun q => by cases q) (by show ¬ (i < 0 ∨ (arrV _ _ _).slots.size ≤ _); rw [arrV_size]; exact h.1) (by show (arrV _ _ _).slots[_]? = _; rw [arrV_read _ _ hlt]) rfl rfl hd (hk _ _ _ _ _ _ h.2 q H locs ls hR hl hL (a_okC (fun h' e' => Or.inl (hR.2.2 hh _ h' e1 (Sum.inr.inj e'))) (a_okT (a_okT hst))) hS hq)
  · exact h.elim
theorem s_aast (C : a_C X cc rt own) (hd : decode cc pc = .ok (.aastore, 1)) : a_Sd X pc (t_aast (pc + 1)) := by
  obtain ⟨p, l, e, R, s, m, args, below, meth, c, Q, D, G, N0, nL, q0, σ0⟩ := X
  obtain ⟨hx, hb, hml, hr, hlk, hown, hts, hK, hN, hXF⟩ := C
  intro k L st σ kc ks h hk q H locs ls hR hl hL hst hS hq
  unfold t_aast at h
  split at h
  · rename_i r i hh st'
    obtain ⟨ea, h⟩ := a_ge h
    obtain ⟨e1, e2⟩ := a_isAE ea
    have hlt : i.toNatClampNeg < (kd hh).2 := Nat.not_le.mp fun q => h.1 (Or.inr q)
    have h0 : ¬ i < 0 := fun q => h.1 (Or.inl q)
    have hat := (hR.1 hh e1).2
    have hA := (hR.1 hh e1).1.1
    rw [a_E_5 e2] at hat
    have hlv : (a_uF σ hh i.toNatClampNeg r).2.2 = σ.2.2 := rfl
    have key : ∀ (H1 : Heap) (jj : Nat), H1[q hh]? = some ((vp_cell G.2.1 ((kd hh).2, .inr (.inr (.inr (.inr (fun i => (σ.2.1 hh i).map q)))))).setSlot i.toNatClampNeg (va_rf (r.map q))) → H1.size = H.size → (∀ a, a ≠ q hh → H1[a]? = H[a]?) → W p l e R s m args below meth c H1 (locs ++ [⟨q hh, jj⟩]) kc ks Q (F0 m (pc + 1) ls (st'.map (a_val q))) := by
      intro H1 jj e9 z oq
      refine hk _ _ _ _ _ _ h.2.2 q H1 _ ls (a_R_wr hR e1 hlv (fun _ _ => rfl) (fun h' hn => a_uF_1 hn) ?_ oq (fun k' h' e' => ?_)) hl (a_okML hlv hL) (a_okM hlv (a_okT (a_okT (a_okT hst)))) (hS.put z oq hA) (fun h' w => ⟨(hq h' w).1, (hq h' w).2⟩)
      · rw [a_E_5 e2]
        show H1[q hh]? = some (vp_cell _ _)
        rw [e9, vp_cell_q, vp_cell_q, arrV_store]
        congr 2
        funext y
        unfold updV
        by_cases hy : y = i.toNatClampNeg
        · subst hy
          rw [if_pos rfl]
          have e10 : (a_uF σ hh i.toNatClampNeg r).2.1 hh i.toNatClampNeg = r := if_pos ⟨rfl, rfl⟩
          rw [e10]
        · rw [if_neg hy]
          have e10 : (a_uF σ hh i.toNatClampNeg r).2.1 hh y = σ.2.1 hh y := if_neg (fun e' => hy e'.2)
          rw [e10]
      · by_cases ek : k' = i.toNatClampNeg
        · have e10 : (a_uF σ hh i.toNatClampNeg r).2.1 hh k' = r := if_pos ⟨rfl, ek⟩
          rw [e10] at e'
          exact (a_isE (h.2.1 h' e')).1
        · have e10 : (a_uF σ hh i.toNatClampNeg r).2.1 hh k' = σ.2.1 hh k' := if_neg (fun e' => ek e'.2)
          rw [e10] at e'
          exact hR.2.2 hh k' h' e1 e'
    cases r with
    | none =>
      exact va_WaastN (C := RX1) hx hb hat ((hK.2 1 _ rfl).1 _ (fun j => va_rf ((σ.2.1 hh j).map q))) (fun h => by cases h) (by show ¬ (i < 0 ∨ (arrV _ _ _).slots.size ≤ _); rw [arrV_size]; exact h.1) rfl rfl hd fun H1 e9 z oq => key H1 _ e9 z oq
    | some v =>
      obtain ⟨f1, f2, f3⟩ := a_isE (h.2.1 v rfl)
      have hav := (hR.1 v f1).2
      rw [a_E_o f2 f3 (by omega)] at hav
      obtain ⟨r', hr', cellV, g1, g2, g3, -⟩ := hav
      have hcls := (hK.1 1 _ rfl).2
      obtain ⟨kA, comp, k1, k2, k3, -⟩ := (hK.2 1 _ rfl).2
      have hcomp : comp = D.1 1 := Option.some.inj (k3.symm.trans hcls.1)
      subst hcomp
      have hcls9 := hcls
      obtain ⟨kC, hkC, -⟩ := hcls.2
      exact W.aast hx hb hat (fun q h => by cases h) (fun h => by cases h) k1 k2 rfl hkC ⟨h0, by show _ < (arrV _ _ _).slots.size; rw [arrV_size]; exact hlt⟩ g1 (fun q h => by rw [g3] at h; cases h) (by rw [g2]; exact hkC) (by rw [g2]; exact va_assign hcls9) rfl rfl hd fun H1 e9 z oq => key H1 _ e9 z oq
  · exact h.elim
end AA
end
section
/-! ===== contracts, calls, returns ===== -/
abbrev aP : Type := List aV → aS → aK → Prop
def a_Pre (D : va_G) (G : aG) (N0 : Nat) (q : Nat → Nat) (σ : aS) (as : List aV) : Array Value → State → Prop := va_Pc (as.map (a_val q)) (fun U => N0 ≤ U.heap.size ∧ a_R D G N0 q σ U.heap ∧ va_K D a_cls (a_ty G) U ∧ a_XF U)
def a_Post (D : va_G) (G : aG) (N0 : Nat) (q : Nat → Nat) (σ : aS) (K : aK) : Array Value → State → Outcome → State → Prop := fun _ st o t =>
  ∃ (r : Option aV) (σ' : aS) (q' : Nat → Nat), o = .returned (r.map (a_val q')) ∧ K r σ' ∧ (∀ v, r = some v → a_ok σ' v) ∧ (∀ h, σ.2.2 h = true ∨ h = 63 → q' h = q h ∧ (σ.2.2 h = true → σ'.2.2 h = true)) ∧ a_R D G N0 q' σ' t.heap ∧ va_F (fun a => N0 ≤ a) st t
def a_Con (l : Launch) (D : va_G) (G : aG) (N0 : Nat) (y : MethodName) (cc : ByteArray) (nL : Nat) (rt : Option FieldType) (rm : Room) (spec : aP) : Prop :=
  ∀ (as : List aV) (σ : aS) (K : aK) (q : Nat → Nat), spec as σ K → (∀ v ∈ as, a_ok σ v) → Met l y (Cond.code y cc nL rt :: lw_g) rm (a_Pre D G N0 q σ as) (a_Post D G N0 q σ K) rm.cells rm.slots (fun a => N0 ≤ a)
def a_Y : a_X → Launch → Room → va_G → aG → Nat → Prop := fun (p, l, e, R, s, m, args, below, meth, c, Q, D, G, N0, nL, q0, σ0) l' R' D' G' N0' => l = l' ∧ R = R' ∧ D = D' ∧ G = G' ∧ N0 = N0'
def a_mq : a_X → aK → Nat → Nat → Prop := fun (p, l, e, R, s, m, args, below, meth, c, Q, D, G, N0, nL, q0, σ0) K mc ms => Q = MQ below (a_Post D G N0 q0 σ0 K) args s mc ms (fun a => N0 ≤ a)
theorem a_gin {w : Cond} (hc : w ∈ lw_g) : GoodIn lw_g (w :: lw_g) := fun x hx => by
  have hm : x ∈ lw_g := (List.mem_cons.mp hx).elim (fun e => e ▸ hc) id
  exact ⟨hm, good_of_word (List.mem_filter.mp hm).2⟩
theorem a_valq {σ : aS} {q q' : Nat → Nat} {v : aV} (h : a_ok σ v) (hq : ∀ h, σ.2.2 h = true ∨ h = 63 → q' h = q h) : a_val q' v = a_val q v := by
  cases v with
  | inl x => rfl
  | inr r => cases r with
    | none => rfl
    | some y => exact congrArg (fun z => va_rf (some z)) (hq y (h y rfl))
theorem a_mapq {σ : aS} {q q' : Nat → Nat} {st : List aV} (h : ∀ v ∈ st, a_ok σ v) (hq : ∀ h, σ.2.2 h = true ∨ h = 63 → q' h = q h) : st.map (a_val q') = st.map (a_val q) := List.map_congr_left (fun v hv => a_valq (h v hv) hq)
theorem a_blind {D : va_G} {G : aG} {N0 : Nat} {q : Nat → Nat} {σ : aS} {as : List aV} : FrameBlind (a_Pre D G N0 q σ as) := fun a U g mk h => by
  obtain ⟨h1, h2, h3, h4, h5⟩ := h
  exact ⟨h1, h2, h3, va_K.moved (u := U) (U := U.calling g mk a) (Vm.Alike.refl U.vm) h4, a_XF.same (s := U) (U := U.calling g mk a) rfl h5⟩
section AC
variable {p : Program} {l : Launch} {e : Env} {R : Room} {s : State} {m : MethodId} {args : Array Value} {below : List Frame} {meth : Method} {c : Code} {H : Heap} {locs : List Loc} {kc ks mc ms : Nat} {Q : State → Prop}
variable {pc : Nat} {ls : Array Slot} {rest st0 : List Value} {D : va_G} {G : aG} {N0 : Nat} {q : Nat → Nat} {σ : aS} {K : aK} {a : Array Value}
theorem a_callx (hr : va_Run p l e R s m args below meth c H locs kc ks mc ms (F0 m pc ls st0) rest (a_Post D G N0 q σ K a) (fun a => N0 ≤ a)) (hS : va_S (fun a => N0 ≤ a) s.heap H locs)
    (kk : ∀ (r : Option aV) (σ' : aS) (q' : Nat → Nat) (H1 : Heap) (locs1 : List Loc), K r σ' → (∀ v, r = some v → a_ok σ' v) → (∀ h, σ.2.2 h = true ∨ h = 63 → q' h = q h ∧ (σ.2.2 h = true → σ'.2.2 h = true)) → a_R D G N0 q' σ' H1 → va_S (fun a => N0 ≤ a) s.heap H1 locs1 →
      W p l e R s m args below meth c H1 locs1 (kc + mc) (ks + ms) Q (F0 m (pc + 3) ls (r.toList.map (a_val q') ++ rest))) : W p l e R s m args below meth c H locs kc ks Q (F0 m pc ls st0) := by
  intro T hT X
  obtain ⟨v, st₀, t, T', L, h0, X', hL, e1, e2, ⟨r, σ', q', hv, hK, hok, hq, hR, hz, hkk⟩, st⟩ := hr T hT X
  have hv' : v = r.map (a_val q') := Outcome.returned.inj hv
  subst hv'
  rw [h0] at hz hkk
  have hS1 : va_S (fun a => N0 ≤ a) s.heap T'.heap (locs ++ L) := ⟨Nat.le_trans hS.1 (by rw [e1]; exact hz), fun x h1 h2 => by rw [e1, hkk x (Nat.lt_of_lt_of_le h1 hS.1) h2]; exact hS.2.1 x h1 h2, fun x hx => by
    rcases List.mem_append.mp hx with h | h
    · exact hS.2.2 x h
    · exact hL x h⟩
  obtain ⟨t2, a1, b1⟩ := kk r σ' q' T'.heap (locs ++ L) hK hok hq (by rw [e1]; exact hR) hS1 T' rfl X'
  refine ⟨t2, st t2 ?_, b1⟩
  have e9 : (r.map (a_val q')).toList = r.toList.map (a_val q') := by cases r <;> rfl
  show Steps p.tables e below (T'.setTop { (F0 m pc ls st0) with pc := pc + 3, stack := (r.map (a_val q')).toList ++ rest }) t2
  rw [e9]
  exact a1
end AC
theorem a_ls_q {σ : aS} {q q' : Nat → Nat} {nL : Nat} {L : aL} {ls : Array Slot} (hl : a_ls q nL L ls) (hL : ∀ (i : Nat) (v : aV), L[i]? = some (some v) → a_ok σ v) (hq : ∀ h, σ.2.2 h = true ∨ h = 63 → q' h = q h) : a_ls q' nL L ls := ⟨hl.1, hl.2.1, hl.2.2.1, fun i v hv => by rw [a_valq (hL i v hv) hq]; exact hl.2.2.2 i v hv⟩
theorem a_ok_up {σ σ' : aS} {v : aV} (h : a_ok σ v) (hm : ∀ h, σ.2.2 h = true → σ'.2.2 h = true) : a_ok σ' v := fun x e => (h x e).elim (fun w => Or.inl (hm x w)) Or.inr
def t_call (n mc ms bc bs : Nat) (spec : aP) (nx : Nat) : aT := fun k L st σ kc ks => a_g (decide (n ≤ st.length) && (decide (st.length ≤ n + 8) && (decide (kc + mc ≤ bc) && decide (ks + ms ≤ bs)))) (spec (st.take n).reverse σ (fun r σ' => k nx L (r.toList ++ st.drop n) σ' (kc + mc) (ks + ms)))
theorem a_cg {a b c d : Prop} {_ : Decidable a} {_ : Decidable b} {_ : Decidable c} {_ : Decidable d} {P : Prop} (h : a_g (decide a && (decide b && (decide c && decide d))) P) : a ∧ b ∧ c ∧ d ∧ P := by
  obtain ⟨h1, h2⟩ := a_ge h
  simp only [Bool.and_eq_true, decide_eq_true_eq] at h1
  exact ⟨h1.1, h1.2.1, h1.2.2.1, h1.2.2.2, h2⟩
theorem a_sum {q : Nat → Nat} : ∀ (st : List aV), ((st.map (a_val q)).map fun v => v.category).sum = st.length
  | [] => rfl
  | v :: st => by
    show (a_val q v).category + ((st.map (a_val q)).map fun v => v.category).sum = st.length + 1
    rw [a_cat, a_sum st]
    omega
section AD
variable {X : a_X} {cc bytes : ByteArray} {rt ret : Option FieldType} {own : String} {pc n index maxL bc bs : Nat} {l : Launch} {R rm : Room} {D : va_G} {G : aG} {N0 : Nat} {y : MethodName} {spec : aP}
theorem s_callS (C : a_C X cc rt own) (Y : a_Y X l R D G N0) (hM : a_Con l D G N0 y bytes maxL ret rm spec) (hcode : Cond.code y bytes maxL ret ∈ lw_g) (hlink : Cond.methodLink own index y ∈ lw_g) (hstat : Cond.static y ∈ lw_g) (hini : Cond.initialized y.cls ∈ lw_g)
    (hd : y.cls ≠ "java/lang/invoke/MethodHandle" ∧ y.cls ≠ "java/lang/invoke/VarHandle" ∧ (parseMethodDescriptor y.desc).map (fun d => d.parameters.length) = some n) (hR : rm.frames + 1 ≤ R.frames ∧ 8 + (maxL + 11) + rm.locals ≤ R.locals) (hb : bc = R.cells ∧ bs = R.slots) (hdg : decode cc pc = .ok (.invokestatic index, 3)) : a_Sd X pc (t_call n rm.cells rm.slots bc bs spec (pc + 3)) := by
  obtain ⟨p, l', e, R', s, m, args, below, meth, c, Q, D', G', N0', nL, q0, σ0⟩ := X
  obtain ⟨rfl, rfl, rfl, rfl, rfl⟩ := Y
  obtain ⟨hx, hb1, hml, hr, hlk, hown, hts, hK, hN, hXF⟩ := C
  obtain ⟨rfl, rfl⟩ := hb
  intro k L st σ kc ks h hk q H locs ls hRr hl hL hst hS hq
  obtain ⟨g1, g2, g3, g4, hsp⟩ := a_cg h
  have cb := callB_of (R := R') (Ts := lw_g) (ws := Cond.code y bytes maxL ret :: lw_g) (ws' := lw_g) (rm := rm) (own := own) (index := index) n hts (a_gin hcode) rfl rfl rfl (hts _ hini) (hts _ hlink) hd hR
  have hta : ∀ v ∈ (st.take n).reverse, a_ok σ v := fun v hv => hst v (List.mem_of_mem_take (List.mem_reverse.mp hv))
  refine a_callx (va_runS (As := ((st.take n).reverse).map (a_val q)) (rest := (st.drop n).map (a_val q)) ⟨hx, hb1, hml, hown, hts⟩ (hM _ σ _ q hsp hta) ⟨cb, hts _ hstat⟩ ⟨a_blind, fun U hU hW => ⟨rfl, ?_, ?_, ?_, hXF.warm hW⟩⟩ rfl ?_ hl.1 ?_ ?_ hdg ⟨g3, g4⟩) hS (fun r σ' q' H1 locs1 hKK hok hqq hR1 hS1 => ?_)
  · rw [hU]; exact Nat.le_trans hN hS.1
  · rw [hU]; exact hRr
  · exact va_K.moved hW.alike hK
  · rw [List.length_map, List.length_reverse, List.length_take]; omega
  · show st.map (a_val q) = _
    rw [← List.map_reverse, List.reverse_reverse, ← List.map_append, List.take_append_drop]
  · show 2 * 0 + _ ≤ 8
    rw [a_sum, List.length_drop]
    omega
  · have hd1 : ∀ v ∈ st.drop n, a_ok σ v := fun v hv => hst v (List.mem_of_mem_drop hv)
    have hq1 : ∀ h, σ.2.2 h = true ∨ h = 63 → q' h = q h := fun h w => (hqq h w).1
    have hm1 : ∀ h, σ.2.2 h = true → σ'.2.2 h = true := fun h w => (hqq h (Or.inl w)).2 w
    have := hk _ _ _ _ _ _ hKK q' H1 locs1 ls hR1 (a_ls_q hl hL hq1) (fun i v hv => a_ok_up (hL i v hv) hm1) (fun v hv => by
      rcases List.mem_append.mp hv with w | w
      · exact hok v (by cases r with | none => cases w | some z => exact congrArg some (List.mem_singleton.mp w).symm)
      · exact a_ok_up (hd1 v w) hm1) hS1 (fun h w => ⟨((hqq h (w.elim (fun z => Or.inl ((hq h w).2 z)) Or.inr)).1).trans (hq h w).1, fun z => hm1 h ((hq h w).2 z)⟩)
    rw [List.map_append, a_mapq hd1 hq1] at this
    exact this
theorem s_callV (C : a_C X cc rt own) (Y : a_Y X l R D G N0) {ci : Nat} {Cn : String} {T : u_T} {nf : Nat} (hc : a_cls[ci]? = some (Cn, T, nf)) (hM : a_Con l D G N0 y bytes maxL ret rm spec) (hrec : ∀ as σ K, spec as σ K → ∃ h As, as = .inr (some h) :: As ∧ a_is σ h ci nf = true) (hcode : Cond.code y bytes maxL ret ∈ lw_g) (hlink : Cond.methodLink own index y ∈ lw_g) (hinst : Cond.instanceMethod y ∈ lw_g) (hsel : Cond.selects Cn y y ∈ lw_g) (hini : Cond.initialized y.cls ∈ lw_g)
    (hd : y.cls ≠ "java/lang/invoke/MethodHandle" ∧ y.cls ≠ "java/lang/invoke/VarHandle" ∧ (parseMethodDescriptor y.desc).map (fun d => d.parameters.length) = some n) (hR : rm.frames + 1 ≤ R.frames ∧ 8 + (maxL + 11) + rm.locals ≤ R.locals) (hb : bc = R.cells ∧ bs = R.slots) (hdg : decode cc pc = .ok (.invokevirtual index, 3)) : a_Sd X pc (t_call (n + 1) rm.cells rm.slots bc bs spec (pc + 3)) := by
  obtain ⟨p, l', e, R', s, m, args, below, meth, c, Q, D', G', N0', nL, q0, σ0⟩ := X
  obtain ⟨rfl, rfl, rfl, rfl, rfl⟩ := Y
  obtain ⟨hx, hb1, hml, hr, hlk, hown, hts, hK, hN, hXF⟩ := C
  obtain ⟨rfl, rfl⟩ := hb
  intro k L st σ kc ks h hk q H locs ls hRr hl hL hst hS hq
  obtain ⟨g1, g2, g3, g4, hsp⟩ := a_cg h
  have cb := callB_of (R := R') (Ts := lw_g) (ws := Cond.code y bytes maxL ret :: lw_g) (ws' := lw_g) (rm := rm) (own := own) (index := index) n hts (a_gin hcode) rfl rfl rfl (hts _ hini) (hts _ hlink) hd hR
  have hta : ∀ v ∈ (st.take (n + 1)).reverse, a_ok σ v := fun v hv => hst v (List.mem_of_mem_take (List.mem_reverse.mp hv))
  obtain ⟨hh, As, hAs, his⟩ := hrec _ _ _ hsp
  obtain ⟨f1, f2, f3⟩ := a_isE his
  have hat := (hRr.1 hh f1).2
  rw [a_E_o f2 f3 (a_c4 hc)] at hat
  have hlen : As.length = n := by
    have := congrArg List.length hAs
    rw [List.length_reverse, List.length_take, List.length_cons] at this
    omega
  have hst2 : st.map (a_val q) = (As.map (a_val q)).reverse ++ .ref (q hh) :: (st.drop (n + 1)).map (a_val q) := by
    have e1 : st.take (n + 1) = As.reverse ++ [.inr (some hh)] := by
      have := congrArg List.reverse hAs
      rw [List.reverse_reverse, List.reverse_cons] at this
      exact this
    have e2 : st.map (a_val q) = (st.take (n + 1) ++ st.drop (n + 1)).map (a_val q) := by rw [List.take_append_drop]
    rw [e2, List.map_append, e1, List.map_append, ← List.map_reverse]
    simp [a_val, va_rf]
  have hM1 := hM _ σ _ q hsp hta
  rw [hAs] at hM1
  refine a_callx (va_runV (C := Cn) (b := q hh) (As := As.map (a_val q)) (rest := (st.drop (n + 1)).map (a_val q)) ⟨hx, hb1, hml, hown, hts⟩ hM1 ⟨cb, hts _ hinst, hts _ hsel⟩ ⟨a_blind, va_recv hK (a_P1 hat) (ci := ci) (q0 := 0) hc rfl, fun U hU hW => ⟨rfl, ?_, ?_, ?_, hXF.warm hW⟩⟩ rfl (by rw [List.length_map]; exact hlen) hl.1 hst2 ?_ hdg ⟨g3, g4⟩) hS (fun r σ' q' H1 locs1 hKK hok hqq hR1 hS1 => ?_)
  · rw [hU]; exact Nat.le_trans hN hS.1
  · rw [hU]; exact hRr
  · exact va_K.moved hW.alike hK
  · show 2 * 0 + _ ≤ 8
    rw [a_sum, List.length_drop]
    omega
  · have hd1 : ∀ v ∈ st.drop (n + 1), a_ok σ v := fun v hv => hst v (List.mem_of_mem_drop hv)
    have hq1 : ∀ h, σ.2.2 h = true ∨ h = 63 → q' h = q h := fun h w => (hqq h w).1
    have hm1 : ∀ h, σ.2.2 h = true → σ'.2.2 h = true := fun h w => (hqq h (Or.inl w)).2 w
    have := hk _ _ _ _ _ _ hKK q' H1 locs1 ls hR1 (a_ls_q hl hL hq1) (fun i v hv => a_ok_up (hL i v hv) hm1) (fun v hv => by
      rcases List.mem_append.mp hv with w | w
      · exact hok v (by cases r with | none => cases w | some z => exact congrArg some (List.mem_singleton.mp w).symm)
      · exact a_ok_up (hd1 v w) hm1) hS1 (fun h w => ⟨((hqq h (w.elim (fun z => Or.inl ((hq h w).2 z)) Or.inr)).1).trans (hq h w).1, fun z => hm1 h ((hq h w).2 z)⟩)
    rw [List.map_append, a_mapq hd1 hq1] at this
    exact this
end AD
/-! returns -/
def t_iret (K : aK) (mc ms : Nat) : aT := fun _ _ st σ kc ks => match st with
  | [.inl v] => a_g (decide (kc ≤ mc) && decide (ks ≤ ms)) (K (some (.inl v)) σ)
  | _ => False
def t_zret (K : aK) (mc ms : Nat) : aT := fun _ _ st σ kc ks => match st with
  | [.inl v] => a_g (decide (kc ≤ mc) && decide (ks ≤ ms)) ((v = 0 ∨ v = 1) ∧ K (some (.inl v)) σ)
  | _ => False
def t_aret (K : aK) (mc ms : Nat) : aT := fun _ _ st σ kc ks => match st with
  | [.inr r] => a_g (decide (kc ≤ mc) && decide (ks ≤ ms)) (K (some (.inr r)) σ)
  | _ => False
def t_vret (K : aK) (mc ms : Nat) : aT := fun _ _ st σ kc ks => match st with
  | [] => a_g (decide (kc ≤ mc) && decide (ks ≤ ms)) (K none σ)
  | _ => False
theorem a_cg2 {a b : Prop} {_ : Decidable a} {_ : Decidable b} {P : Prop} (h : a_g (decide a && decide b) P) : a ∧ b ∧ P := by
  obtain ⟨h1, h2⟩ := a_ge h
  simp only [Bool.and_eq_true, decide_eq_true_eq] at h1
  exact ⟨h1.1, h1.2, h2⟩
section AE
variable {X : a_X} {cc : ByteArray} {rt : Option FieldType} {own : String} {pc mc ms : Nat} {K : aK}
theorem s_iret (C : a_C X cc (some .int) own) (M : a_mq X K mc ms) (hd : decode cc pc = .ok (.ireturn, 1)) : a_Sd X pc (t_iret K mc ms) := by
  obtain ⟨p, l, e, R, s, m, args, below, meth, c, Q, D, G, N0, nL, q0, σ0⟩ := X
  obtain ⟨hx, hb, hml, hr, hlk, hown, hts, hK, hN, hXF⟩ := C
  have M : Q = _ := M
  subst M
  intro k L st σ kc ks h hk q H locs ls hR hl hL hst hS hq
  unfold t_iret at h
  split at h
  · rename_i v
    obtain ⟨g1, g2, h⟩ := a_cg2 h
    refine W.widen g1 g2 ?_
    exact W.iret (v := v) hx hb hr (fun t ht hW => ⟨some (.inl v), σ, q, rfl, h, fun w e => (by cases e; intro h' e'; cases e'), fun h' w => hq h' w, (by rw [ht]; exact hR), hS.F ht⟩) hS.2.2 hd hlk
  · exact h.elim
theorem s_zret (C : a_C X cc (some .boolean) own) (M : a_mq X K mc ms) (hd : decode cc pc = .ok (.ireturn, 1)) : a_Sd X pc (t_zret K mc ms) := by
  obtain ⟨p, l, e, R, s, m, args, below, meth, c, Q, D, G, N0, nL, q0, σ0⟩ := X
  obtain ⟨hx, hb, hml, hr, hlk, hown, hts, hK, hN, hXF⟩ := C
  have M : Q = _ := M
  subst M
  intro k L st σ kc ks h hk q H locs ls hR hl hL hst hS hq
  unfold t_zret at h
  split at h
  · rename_i v
    obtain ⟨g1, g2, h⟩ := a_cg2 h
    refine W.widen g1 g2 ?_
    exact W.zret (v := v) hx hb hr (by rcases h.1 with e | e <;> subst e <;> rfl) (fun t ht hW => ⟨some (.inl v), σ, q, rfl, h.2, fun w e => (by cases e; intro h' e'; cases e'), fun h' w => hq h' w, (by rw [ht]; exact hR), hS.F ht⟩) hS.2.2 hd hlk
  · exact h.elim
theorem s_aret {ty : FieldType} (C : a_C X cc (some ty) own) (hty : (∃ n, ty = .object n) ∨ ∃ t, ty = .array t) (M : a_mq X K mc ms) (hd : decode cc pc = .ok (.areturn, 1)) : a_Sd X pc (t_aret K mc ms) := by
  obtain ⟨p, l, e, R, s, m, args, below, meth, c, Q, D, G, N0, nL, q0, σ0⟩ := X
  obtain ⟨hx, hb, hml, hr, hlk, hown, hts, hK, hN, hXF⟩ := C
  have M : Q = _ := M
  subst M
  intro k L st σ kc ks h hk q H locs ls hR hl hL hst hS hq
  unfold t_aret at h
  split at h
  · rename_i r
    obtain ⟨g1, g2, h⟩ := a_cg2 h
    refine W.widen g1 g2 ?_
    exact W.aret (v := a_val q (.inr r)) hx hb hr hty (by cases r with | none => exact Or.inl rfl | some z => exact Or.inr ⟨_, rfl⟩) (fun t ht hW => ⟨some (.inr r), σ, q, rfl, h, fun w e => (by cases e; exact hst _ List.mem_cons_self), fun h' w => hq h' w, (by rw [ht]; exact hR), hS.F ht⟩) hS.2.2 hd hlk
  · exact h.elim
theorem s_vret (C : a_C X cc none own) (M : a_mq X K mc ms) (hd : decode cc pc = .ok (.return_, 1)) : a_Sd X pc (t_vret K mc ms) := by
  obtain ⟨p, l, e, R, s, m, args, below, meth, c, Q, D, G, N0, nL, q0, σ0⟩ := X
  obtain ⟨hx, hb, hml, hr, hlk, hown, hts, hK, hN, hXF⟩ := C
  have M : Q = _ := M
  subst M
  intro k L st σ kc ks h hk q H locs ls hR hl hL hst hS hq
  unfold t_vret at h
  split at h
  · obtain ⟨g1, g2, h⟩ := a_cg2 h
    refine W.widen g1 g2 ?_
    exact W.vret hx hb hr (fun t ht hW => ⟨none, σ, q, rfl, h, fun w e => (by cases e), fun h' w => hq h' w, (by rw [ht]; exact hR), hS.F ht⟩) hS.2.2 hd hlk
  · exact h.elim
end AE
/-- a contract out of the run of its body -/
theorem a_con {l : Launch} {D : va_G} {G : aG} {N0 : Nat} {y : MethodName} {cc : ByteArray} {nL : Nat} {rt : Option FieldType} {rm : Room} {spec : aP} (hy : plainName y.cls = true) (hlen : ∀ as σ K, spec as σ K → as.length ≤ nL)
    (body : ∀ (X : a_X) (as : List aV) (σ : aS) (K : aK), spec as σ K → a_C X cc rt y.cls → a_Y X l rm D G N0 → a_mq X K rm.cells rm.slots → X.2.2.2.2.2.2.2.2.1.name = y.name → a_J X 0 (as.map some ++ List.replicate (nL - as.length) none) [] σ 0 0) : a_Con l D G N0 y cc nL rt rm spec := by
  intro as σ K q hsp hok
  refine Met.ofW (cc := cc) (maxL := nL) (ret := rt) hy rfl ?_
  intro p e s m args below meth c s₁ B hml hv
  obtain ⟨rfl, hN, hR, hK, hXF⟩ := hv
  have hts0 := atoms_spec (ws := Cond.code y cc nL rt :: lw_g) B.pre
  have hown : s.vm.findClass y.cls = some m.cls := findClass_of_methodNamed B.named
  have hnm : meth.name = y.name := (name_of_methodNamed B.named B.method).1
  have hC : a_C (p, l, e, rm, s, m, (as.map (a_val q)).toArray, below, meth, c, MQ below (a_Post D G N0 q σ K) (as.map (a_val q)).toArray s rm.cells rm.slots (fun a => N0 ≤ a), D, G, N0, nL, q, σ) cc rt y.cls :=
    ⟨B.exec, B.bytes, hml, B.returns, B.notSynchronized, hown, fun w hw => hts0 w (List.mem_cons_of_mem _ hw), hK, hN, hXF⟩
  have hlg : lg_sl (as.map (a_val q)) = (as.map (a_val q)).map Slot.val := by
    clear hsp hok hR hK hts0 hC B hXF
    induction as with
    | nil => rfl
    | cons v as ih =>
      rw [List.map_cons]
      have e1 : lg_sl (a_val q v :: as.map (a_val q)) = Slot.val (a_val q v) :: lg_sl (as.map (a_val q)) := by
        cases v with
        | inl x => rfl
        | inr r => cases r <;> rfl
      rw [e1, ih]
      rfl
  have hle := hlen as σ K hsp
  have hln : (lg_sl (as.map (a_val q))).length ≤ nL := by rw [hlg, List.length_map, List.length_map]; exact hle
  have hl := lv_entry (as.map (a_val q)) (n := nL) hln
  rw [lg_entry_eq]
  have hl2 : a_ls q nL (as.map some ++ List.replicate (nL - as.length) none) (lg_sl (as.map (a_val q)) ++ List.replicate (nL - (lg_sl (as.map (a_val q))).length) Slot.unset).toArray := by
    refine ⟨hl.1, by simp; omega, hl.2.1, fun i v hv => ?_⟩
    rw [hlg]
    by_cases hi : i < as.length
    · rw [List.getElem?_append_left (by rw [List.length_map]; exact hi), List.getElem?_map] at hv
      have hv2 : as[i]? = some v := by
        cases hx : as[i]? with
        | none => rw [hx] at hv; cases hv
        | some z => rw [hx] at hv; exact Option.some.inj hv
      rw [List.getElem?_toArray, List.getElem?_append_left (by simp; exact hi), List.getElem?_map, List.getElem?_map, hv2]
      rfl
    · rw [List.getElem?_append_right (by rw [List.length_map]; omega)] at hv
      rw [List.getElem?_replicate] at hv
      split at hv <;> cases hv
  refine body _ as σ K hsp hC ⟨rfl, rfl, rfl, rfl, rfl⟩ rfl hnm q s.heap [] _ hR hl2 (fun i v hv => ?_) (fun v hv => by cases hv) va_S.rf (fun h w => ⟨rfl, id⟩)
  by_cases hi : i < as.length
  · rw [List.getElem?_append_left (by rw [List.length_map]; exact hi), List.getElem?_map] at hv
    have hv2 : as[i]? = some v := by
      cases hx : as[i]? with
      | none => rw [hx] at hv; cases hv
      | some z => rw [hx] at hv; exact Option.some.inj hv
    exact hok v (List.mem_of_getElem? hv2)
  · rw [List.getElem?_append_right (by rw [List.length_map]; omega)] at hv
    rw [List.getElem?_replicate] at hv
    split at hv <;> cases hv
end
section
/-! ===== making cells; constructors' calls ===== -/
def a_new (σ : aS) (h : Nat) (f : Nat → Int32) : aS := (fun h' k' => if h' = h then f k' else σ.1 h' k', fun h' k' => if h' = h then none else σ.2.1 h' k', fun h' => if h' = h then true else σ.2.2 h')
theorem a_new_1 {σ : aS} {h : Nat} {f : Nat → Int32} : (a_new σ h f).1 h = f := by funext k; exact if_pos rfl
theorem a_new_1n {σ : aS} {h h' : Nat} {f : Nat → Int32} (hn : h' ≠ h) : (a_new σ h f).1 h' = σ.1 h' := by funext k; exact if_neg hn
theorem a_new_2 {σ : aS} {h : Nat} {f : Nat → Int32} {k : Nat} : (a_new σ h f).2.1 h k = none := if_pos rfl
theorem a_new_2n {σ : aS} {h h' : Nat} {f : Nat → Int32} (hn : h' ≠ h) : (a_new σ h f).2.1 h' = σ.2.1 h' := by funext k; exact if_neg hn
theorem a_new_3 {σ : aS} {h : Nat} {f : Nat → Int32} : (a_new σ h f).2.2 h = true := if_pos rfl
theorem a_new_3n {σ : aS} {h h' : Nat} {f : Nat → Int32} (hn : h' ≠ h) : (a_new σ h f).2.2 h' = σ.2.2 h' := if_neg hn
theorem a_E_q {G : aG} {q q' : Nat → Nat} {σ σ' : aS} {h : Nat} (h1 : σ'.1 h = σ.1 h) (h2 : σ'.2.1 h = σ.2.1 h) (hq : ∀ k h', σ.2.1 h k = some h' → q' h' = q h') : a_E G q' σ' h = a_E G q σ h := by
  have e : ∀ k, (σ.2.1 h k).map q' = (σ.2.1 h k).map q := fun k => by
    cases hx : σ.2.1 h k with
    | none => rfl
    | some y => exact congrArg some (hq k y hx)
  unfold a_E a_fv
  rw [h1, h2]
  simp only [e]
def a_up (q : Nat → Nat) (h a : Nat) : Nat → Nat := fun h' => if h' = h then a else q h'
theorem a_up_s {q : Nat → Nat} {h a : Nat} : a_up q h a h = a := if_pos rfl
theorem a_up_n {q : Nat → Nat} {h a h' : Nat} (hn : h' ≠ h) : a_up q h a h' = q h' := if_neg hn
theorem a_R_nw {D : va_G} {G : aG} {N0 : Nat} {q : Nat → Nat} {σ : aS} {H H1 : Heap} {h0 a : Nat} {f : Nat → Int32} (hR : a_R D G N0 q σ H) (hl : σ.2.2 h0 = false) (hb : h0 < 256 ∧ h0 ≠ 63) (ha : N0 ≤ a) (hna : ∀ h, σ.2.2 h = true → q h ≠ a) (hold : ∀ h, σ.2.2 h = true → va_at D a_cls (q h, a_E G q σ h) H1)
    (hat : va_at D a_cls (a, a_E G (a_up q h0 a) (a_new σ h0 f) h0) H1) : a_R D G N0 (a_up q h0 a) (a_new σ h0 f) H1 := by
  obtain ⟨r1, r2, r3⟩ := hR
  have hne : ∀ h, σ.2.2 h = true → h ≠ h0 := fun h w e => by rw [e, hl] at w; cases w
  have hlv : ∀ h, (a_new σ h0 f).2.2 h = true → h ≠ h0 → σ.2.2 h = true := fun h w e => by rw [a_new_3n e] at w; exact w
  refine ⟨fun h hh => ?_, fun h h' e1 e2 e3 => ?_, fun h k h' e1 e2 => ?_⟩
  · by_cases e : h = h0
    · subst e
      rw [a_up_s]
      exact ⟨⟨ha, hb⟩, hat⟩
    · have w := hlv h hh e
      rw [a_up_n e, a_E_q (q := q) (σ := σ) (a_new_1n e) (a_new_2n e) (fun k h' z => a_up_n (hne h' (r3 h k h' w z)))]
      exact ⟨(r1 h w).1, hold h w⟩
  · by_cases f1 : h = h0 <;> by_cases f2 : h' = h0
    · rw [f1, f2]
    · rw [f1, a_up_s, a_up_n f2] at e3
      exact absurd e3.symm (hna h' (hlv h' e2 f2))
    · rw [f2, a_up_s, a_up_n f1] at e3
      exact absurd e3 (hna h (hlv h e1 f1))
    · rw [a_up_n f1, a_up_n f2] at e3
      exact r2 h h' (hlv h e1 f1) (hlv h' e2 f2) e3
  · by_cases e : h = h0
    · subst e
      rw [a_new_2] at e2
      cases e2
    · rw [a_new_2n e] at e2
      have w := r3 h k h' (hlv h e1 e) e2
      rw [a_new_3n (hne h' w)]
      exact w
section AN
variable {p : Program} {l : Launch} {e : Env} {R : Room} {s : State} {m : MethodId} {args : Array Value} {below : List Frame} {meth : Method} {c : Code} {H H1 : Heap} {locs : List Loc} {kc ks : Nat} {Q : State → Prop}
variable {pc : Nat} {ls : Array Slot} {D : va_G} {G : aG} {N0 nL : Nat} {q q0 : Nat → Nat} {σ σ0 : aS} {L : aL} {st : List aV} {h0 a : Nat} {f : Nat → Int32}
/-- behind a making: the run goes on in the larger world -/
theorem a_nwJ (hR : a_R D G N0 q σ H) (hl : a_ls q nL L ls) (hL : ∀ (i : Nat) (v : aV), L[i]? = some (some v) → a_ok σ v) (hst : ∀ v ∈ st, a_ok σ v) (hS1 : va_S (fun a => N0 ≤ a) s.heap H1 locs) (hq : ∀ h, σ0.2.2 h = true ∨ h = 63 → q h = q0 h ∧ (σ0.2.2 h = true → σ.2.2 h = true))
    (hlv : σ.2.2 h0 = false) (hb : h0 < 256 ∧ h0 ≠ 63) (ha : N0 ≤ a) (hna : ∀ h, σ.2.2 h = true → q h ≠ a) (hold : ∀ h, σ.2.2 h = true → va_at D a_cls (q h, a_E G q σ h) H1) (hat : va_at D a_cls (a, a_E G (a_up q h0 a) (a_new σ h0 f) h0) H1)
    (J : a_J (p, l, e, R, s, m, args, below, meth, c, Q, D, G, N0, nL, q0, σ0) pc L (.inr (some h0) :: st) (a_new σ h0 f) kc ks) : W p l e R s m args below meth c H1 locs kc ks Q (F0 m pc ls (.ref a :: st.map (a_val q))) := by
  have hq1 : ∀ h, σ.2.2 h = true ∨ h = 63 → a_up q h0 a h = q h := fun h w => a_up_n (w.elim (fun z e => by rw [e, hlv] at z; cases z) (fun z e => hb.2 (by rw [← e]; exact z)))
  have hm1 : ∀ h, σ.2.2 h = true → (a_new σ h0 f).2.2 h = true := fun h w => by
    rw [a_new_3n (fun e => by rw [e, hlv] at w; cases w)]
    exact w
  have := J (a_up q h0 a) H1 locs ls (a_R_nw hR hlv hb ha hna hold hat) (a_ls_q hl hL hq1) (fun i v hv => a_ok_up (hL i v hv) hm1) (a_okC (fun h' e' => by cases e'; exact Or.inl a_new_3) (fun v hv => a_ok_up (hst v hv) hm1)) hS1 (fun h w => ⟨(hq1 h (w.elim (fun z => Or.inl ((hq h w).2 z)) Or.inr)).trans (hq h w).1, fun z => hm1 h ((hq h w).2 z)⟩)
  rw [List.map_cons, a_mapq hst hq1] at this
  have e9 : a_val (a_up q h0 a) (.inr (some h0)) = .ref a := congrArg (fun z => va_rf (some z)) a_up_s
  rw [e9] at this
  exact this
end AN
def a_gb (kc ks nc ns bc bs : Nat) (P : Prop) : Prop := a_g (decide (kc + nc ≤ bc) && decide (ks + ns ≤ bs)) P
def t_new (ci n bc bs nx : Nat) : aT := fun k L st σ kc ks => a_gb kc ks 1 n bc bs (∃ h, σ.2.2 h = false ∧ kd h = (ci, n) ∧ (h < 256 ∧ h ≠ 63) ∧ k nx L (.inr (some h) :: st) (a_new σ h (fun _ => 0)) (kc + 1) (ks + n))
def t_newi (n bc bs nx : Nat) : aT := fun k L st σ kc ks => match st with
  | .inl x :: st' => x = Int32.ofNat n ∧ a_gb kc ks 1 n bc bs (∃ h, σ.2.2 h = false ∧ kd h = (4, n) ∧ (h < 256 ∧ h ≠ 63) ∧ k nx L (.inr (some h) :: st') (a_new σ h (fun _ => 0)) (kc + 1) (ks + n))
  | _ => False
def t_newq (n bc bs nx : Nat) : aT := fun k L st σ kc ks => match st with
  | .inl x :: st' => x = Int32.ofNat n ∧ a_gb kc ks 1 n bc bs (∃ h, σ.2.2 h = false ∧ kd h = (5, n) ∧ (h < 256 ∧ h ≠ 63) ∧ k nx L (.inr (some h) :: st') (a_new σ h (fun _ => 0)) (kc + 1) (ks + n))
  | _ => False
def t_obi (nx : Nat) : aT := fun k L st σ kc ks => match st with
  | .inr (some _) :: st' => a_g (decide (st'.length ≤ 8)) (k nx L st' σ kc ks)
  | _ => False
section AO
variable {X : a_X} {cc bytes : ByteArray} {rt ret : Option FieldType} {own : String} {pc n index maxL bc bs : Nat} {l : Launch} {R rm : Room} {D : va_G} {G : aG} {N0 : Nat} {y : MethodName} {spec : aP}
theorem s_obi (C : a_C X cc rt own) (Y : a_Y X l R D G N0) (hlink : Cond.methodLink own index objectInit ∈ lw_g) (hinst : Cond.instanceMethod objectInit ∈ lw_g) (hcode : Cond.code objectInit ⟨#[0xb1]⟩ 1 none ∈ lw_g) (hR : 1 ≤ R.frames ∧ 20 ≤ R.locals) (hd : decode cc pc = .ok (.invokespecial index, 3)) : a_Sd X pc (t_obi (pc + 3)) := by
  obtain ⟨p, l', e, R', s, m, args, below, meth, c, Q, D', G', N0', nL, q0, σ0⟩ := X
  obtain ⟨rfl, rfl, rfl, rfl, rfl⟩ := Y
  obtain ⟨hx, hb, hml, hr, hlk, hown, hts, hK, hN, hXF⟩ := C
  intro k L st σ kc ks h hk q H locs ls hRr hl hL hst hS hq
  unfold t_obi at h
  split at h
  · rename_i h9 st'
    obtain ⟨ea, h⟩ := a_ge h
    have ea := of_decide_eq_true ea
    refine W.objInit hx hb hown (hts _ hlink) (hts _ hinst) (hts _ hcode) rfl (by rw [hml]; exact hl.1) (rest := st'.map (a_val q)) rfl hd hR.1 ?_ (hk _ _ _ _ _ _ h q H locs ls hRr hl hL (a_okT hst) hS hq)
    show 2 * 0 + _ + 12 ≤ _
    rw [a_sum]
    have := hR.2
    omega
  · exact h.elim
theorem s_new (C : a_C X cc rt own) (Y : a_Y X l R D G N0) {ci : Nat} {Cn : String} {T : u_T} (ty0 : Nat → FieldType) (hty : ∀ k, k < n → parseFieldDescriptor (T k).2.2.1 = some (ty0 k)) (hdf : ∀ k, k < n → defaultValue (ty0 k) = if a_int ci k = true then .int 0 else .null) (hc : a_cls[ci]? = some (Cn, T, n)) (hin : ∀ w ∈ u_ws Cn T n, w ∈ lw_g) (hlink : Cond.classLink own index Cn ∈ lw_g) (hinst : Cond.instantiable Cn n ∈ lw_g) (hini : Cond.initialized Cn ∈ lw_g) (hb : bc = R.cells ∧ bs = R.slots) (hd : decode cc pc = .ok (.new index, 3)) : a_Sd X pc (t_new ci n bc bs (pc + 3)) := by
  obtain ⟨p, l', e, R', s, m, args, below, meth, c, Q, D', G', N0', nL, q0, σ0⟩ := X
  obtain ⟨rfl, rfl, rfl, rfl, rfl⟩ := Y
  obtain ⟨hx, hb1, hml, hr, hlk, hown, hts, hK, hN, hXF⟩ := C
  obtain ⟨rfl, rfl⟩ := hb
  intro k L st σ kc ks h hk q H locs ls hRr hl hL hst hS hq
  obtain ⟨g1, g2, hh, f1, f2, f3, h⟩ := a_cg2 h
  have hKn := hK.1 ci _ hc
  refine W.newcK hx hb1 hown (hts _ hlink) (hts _ hinst) (hts _ hini) rfl hd g1 g2 hKn.2.1 rfl fun H1 kC hkC e1 z1 o1 => ?_
  refine a_nwJ hRr hl hL hst ⟨Nat.le_trans hS.1 (by omega), fun x h1 h2 => (o1 x (Nat.lt_of_lt_of_le h1 hS.1)).trans (hS.2.1 x h1 h2), hS.2.2⟩ hq f1 f3 (Nat.le_trans hN hS.1) (fun h' w e' => ?_) (fun h' w => (hRr.1 h' w).2.kept (o1 _ (hRr.1 h' w).2.lt)) ?_ (hk _ _ _ _ _ _ h)
  · have := (hRr.1 h' w).2.lt
    have e'' : q h' = H.size := e'
    dsimp only at this
    omega
  · rw [a_E_o (ci := ci) (n := n) (by rw [f2]) (by rw [f2]) (a_c4 hc)]
    refine ⟨_, hc, (u_born ty0 hts hin hKn hkC e1 hty).to (fun j hj => ?_)⟩
    rw [a_vpV hj, hdf j hj]
    unfold a_fv
    rw [a_new_1, a_new_2]
    rfl
theorem s_newi (C : a_C X cc rt own) (Y : a_Y X l R D G N0) (hn : n ≤ 1000) (harr : Cond.arrayClass .int ∈ lw_g) (hb : bc = R.cells ∧ bs = R.slots) (hd : decode cc pc = .ok (.newarray .int, 2)) : a_Sd X pc (t_newi n bc bs (pc + 2)) := by
  obtain ⟨p, l', e, R', s, m, args, below, meth, c, Q, D', G', N0', nL, q0, σ0⟩ := X
  obtain ⟨rfl, rfl, rfl, rfl, rfl⟩ := Y
  obtain ⟨hx, hb1, hml, hr, hlk, hown, hts, hK, hN, hXF⟩ := C
  obtain ⟨rfl, rfl⟩ := hb
  intro k L st σ kc ks h hk q H locs ls hRr hl hL hst hS hq
  unfold t_newi at h
  split at h
  · rename_i x st'
    obtain ⟨rfl, h⟩ := h
    obtain ⟨g1, g2, hh, f1, f2, f3, h⟩ := a_cg2 h
    have hn2 : (Int32.ofNat n).toNatClampNeg = n := nI_clamp (by omega)
    refine va_newaK hx hb1 (atype := .int) (hts _ harr) rfl hd rfl (nI_pos (by omega)) hn2 ?_ g1 g2 rfl fun H1 cA e1 z1 o1 hAr hNm => ?_
    · show n * 4 ≤ 536870912
      omega
    have hcA : cA = G'.1 := by
      have h9 : s.vm.findClass ("[" ++ FieldType.int.toString) = some G'.1 := (hK.2 0 _ rfl).2
      exact Option.some.inj (hNm.symm.trans h9)
    subst hcA
    refine a_nwJ hRr hl hL (a_okT hst) ⟨Nat.le_trans hS.1 (by omega), fun x h1 h2 => (o1 x (Nat.lt_of_lt_of_le h1 hS.1)).trans (hS.2.1 x h1 h2), hS.2.2⟩ hq f1 f3 (Nat.le_trans hN hS.1) (fun h' w e' => ?_) (fun h' w => (hRr.1 h' w).2.kept (o1 _ (hRr.1 h' w).2.lt)) ?_ (hk _ _ _ _ _ _ h)
    · have := (hRr.1 h' w).2.lt
      have e'' : q h' = H.size := e'
      dsimp only at this
      omega
    · rw [a_E_4 (by rw [f2])]
      show H1[H.size]? = some (vp_cell _ _)
      rw [e1, vp_cell_i, f2, a_new_1]
      rfl
  · exact h.elim
theorem s_newq (C : a_C X cc rt own) (Y : a_Y X l R D G N0) (hn : n ≤ 1000) (hlink : Cond.classLink own index RX1 ∈ lw_g) (hb : bc = R.cells ∧ bs = R.slots) (hd : decode cc pc = .ok (.anewarray index, 3)) : a_Sd X pc (t_newq n bc bs (pc + 3)) := by
  obtain ⟨p, l', e, R', s, m, args, below, meth, c, Q, D', G', N0', nL, q0, σ0⟩ := X
  obtain ⟨rfl, rfl, rfl, rfl, rfl⟩ := Y
  obtain ⟨hx, hb1, hml, hr, hlk, hown, hts, hK, hN, hXF⟩ := C
  obtain ⟨rfl, rfl⟩ := hb
  intro k L st σ kc ks h hk q H locs ls hRr hl hL hst hS hq
  unfold t_newq at h
  split at h
  · rename_i x st'
    obtain ⟨rfl, h⟩ := h
    obtain ⟨g1, g2, hh, f1, f2, f3, h⟩ := a_cg2 h
    have hn2 : (Int32.ofNat n).toNatClampNeg = n := nI_clamp (by omega)
    refine W.anew hx hb1 hown (hts _ hlink) (va_AO.use hXF.1) rfl hd rfl (nI_pos (by omega)) (by rw [hn2]; omega) g1 (by rw [hn2]; exact g2) fun cA kA comp k1 k2 k3 k4 => ?_
    rw [hn2]
    have hcA : cA = G'.2.1 := by
      obtain ⟨kA', comp', j1, j2, j3, j4⟩ := (hK.2 1 _ rfl).2
      exact Option.some.inj (k1.symm.trans j4)
    subst hcA
    generalize hH1 : H.push ({ cls := G'.2.1, slots := Array.replicate n .null, vm := .none } : Cell) = H1
    have z1 : H1.size = H.size + 1 := by rw [← hH1, Array.size_push]
    have e1 : H1[H.size]? = some (arrV G'.2.1 n (fun _ => .null)) := by rw [← hH1, Array.getElem?_push_size, ← arrV_new]
    have o1 : ∀ q : Nat, q < H.size → H1[q]? = H[q]? := fun q hq => by rw [← hH1, Array.getElem?_push, if_neg (Nat.ne_of_lt hq)]
    refine a_nwJ hRr hl hL (a_okT hst) ⟨Nat.le_trans hS.1 (by omega), fun x h1 h2 => (o1 x (Nat.lt_of_lt_of_le h1 hS.1)).trans (hS.2.1 x h1 h2), hS.2.2⟩ hq f1 f3 (Nat.le_trans hN hS.1) (fun h' w e' => ?_) (fun h' w => (hRr.1 h' w).2.kept (o1 _ (hRr.1 h' w).2.lt)) ?_ (hk _ _ _ _ _ _ h)
    · have := (hRr.1 h' w).2.lt
      have e'' : q h' = H.size := e'
      dsimp only at this
      omega
    · rw [a_E_5 (by rw [f2])]
      show H1[H.size]? = some (vp_cell _ _)
      rw [e1, vp_cell_q, f2]
      simp only [a_new_2]
      rfl
  · exact h.elim
end AO
end
section
/-! ===== constructors' calls, clone, new int[4][8] ===== -/
section AI
variable {X : a_X} {cc bytes : ByteArray} {rt ret : Option FieldType} {own : String} {pc n index maxL bc bs : Nat} {l : Launch} {R rm : Room} {D : va_G} {G : aG} {N0 : Nat} {y : MethodName} {spec : aP}
theorem a_split {st As : List aV} {hh n : Nat} {q : Nat → Nat} (hAs : (st.take (n + 1)).reverse = .inr (some hh) :: As) : st.map (a_val q) = (As.map (a_val q)).reverse ++ .ref (q hh) :: (st.drop (n + 1)).map (a_val q) := by
  have e1 : st.take (n + 1) = As.reverse ++ [.inr (some hh)] := by
    have := congrArg List.reverse hAs
    rw [List.reverse_reverse, List.reverse_cons] at this
    exact this
  have e2 : st.map (a_val q) = (st.take (n + 1) ++ st.drop (n + 1)).map (a_val q) := by rw [List.take_append_drop]
  rw [e2, List.map_append, e1, List.map_append, ← List.map_reverse]
  simp [a_val, va_rf]
theorem s_callI (C : a_C X cc rt own) (Y : a_Y X l R D G N0) (hM : a_Con l D G N0 y bytes maxL none rm spec) (hrec : ∀ as σ K, spec as σ K → ∃ h As, as = .inr (some h) :: As) (hcode : Cond.code y bytes maxL none ∈ lw_g) (hlink : Cond.methodLink own index y ∈ lw_g) (hinst : Cond.instanceMethod y ∈ lw_g) (hini : Cond.initialized y.cls ∈ lw_g) (hnm : y.name = "<init>")
    (hd : y.cls ≠ "java/lang/invoke/MethodHandle" ∧ y.cls ≠ "java/lang/invoke/VarHandle" ∧ (parseMethodDescriptor y.desc).map (fun d => d.parameters.length) = some n) (hR : rm.frames + 1 ≤ R.frames ∧ 8 + (maxL + 11) + rm.locals ≤ R.locals) (hb : bc = R.cells ∧ bs = R.slots) (hdg : decode cc pc = .ok (.invokespecial index, 3)) : a_Sd X pc (t_call (n + 1) rm.cells rm.slots bc bs spec (pc + 3)) := by
  obtain ⟨p, l', e, R', s, m, args, below, meth, c, Q, D', G', N0', nL, q0, σ0⟩ := X
  obtain ⟨rfl, rfl, rfl, rfl, rfl⟩ := Y
  obtain ⟨hx, hb1, hml, hr, hlk, hown, hts, hK, hN, hXF⟩ := C
  obtain ⟨rfl, rfl⟩ := hb
  intro k L st σ kc ks h hk q H locs ls hRr hl hL hst hS hq
  obtain ⟨g1, g2, g3, g4, hsp⟩ := a_cg h
  have cb := callB_of (R := R') (Ts := lw_g) (ws := Cond.code y bytes maxL none :: lw_g) (ws' := lw_g) (rm := rm) (own := own) (index := index) n hts (a_gin hcode) rfl rfl rfl (hts _ hini) (hts _ hlink) hd hR
  have hta : ∀ v ∈ (st.take (n + 1)).reverse, a_ok σ v := fun v hv => hst v (List.mem_of_mem_take (List.mem_reverse.mp hv))
  obtain ⟨hh, As, hAs⟩ := hrec _ _ _ hsp
  have hlen : As.length = n := by
    have := congrArg List.length hAs
    rw [List.length_reverse, List.length_take, List.length_cons] at this
    omega
  have hst2 := a_split (q := q) hAs
  have hM1 := hM _ σ _ q hsp hta
  rw [hAs] at hM1
  refine a_callx (va_runI (b := q hh) (As := As.map (a_val q)) (rest := (st.drop (n + 1)).map (a_val q)) ⟨hx, hb1, hml, hown, hts⟩ hM1 ⟨cb, hnm, hts _ hinst⟩ ⟨a_blind, fun U hU hW => ⟨rfl, ?_, ?_, ?_, hXF.warm hW⟩⟩ rfl (by rw [List.length_map]; exact hlen) hl.1 hst2 ?_ hdg ⟨g3, g4⟩) hS (fun r σ' q' H1 locs1 hKK hok hqq hR1 hS1 => ?_)
  · rw [hU]; exact Nat.le_trans hN hS.1
  · rw [hU]; exact hRr
  · exact va_K.moved hW.alike hK
  · show 2 * 0 + _ ≤ 8
    rw [a_sum, List.length_drop]
    omega
  · have hd1 : ∀ v ∈ st.drop (n + 1), a_ok σ v := fun v hv => hst v (List.mem_of_mem_drop hv)
    have hq1 : ∀ h, σ.2.2 h = true ∨ h = 63 → q' h = q h := fun h w => (hqq h w).1
    have hm1 : ∀ h, σ.2.2 h = true → σ'.2.2 h = true := fun h w => (hqq h (Or.inl w)).2 w
    have := hk _ _ _ _ _ _ hKK q' H1 locs1 ls hR1 (a_ls_q hl hL hq1) (fun i v hv => a_ok_up (hL i v hv) hm1) (fun v hv => by
      rcases List.mem_append.mp hv with w | w
      · exact hok v (by cases r with | none => cases w | some z => exact congrArg some (List.mem_singleton.mp w).symm)
      · exact a_ok_up (hd1 v w) hm1) hS1 (fun h w => ⟨((hqq h (w.elim (fun z => Or.inl ((hq h w).2 z)) Or.inr)).1).trans (hq h w).1, fun z => hm1 h ((hq h w).2 z)⟩)
    rw [List.map_append, a_mapq hd1 hq1] at this
    exact this
/-- the nest mate's constructor -/
theorem s_callIN (C : a_C X cc rt RX2) (Y : a_Y X l R D G N0) (hM : a_Con l D G N0 yX0_init bytes maxL none rm spec) (hrec : ∀ as σ K, spec as σ K → ∃ h As, as = .inr (some h) :: As) (hcode : Cond.code yX0_init bytes maxL none ∈ lw_g) (hinst : Cond.instanceMethod yX0_init ∈ lw_g) (hini : Cond.initialized RX0 ∈ lw_g)
    (hR : rm.frames + 1 ≤ R.frames ∧ 8 + (maxL + 11) + rm.locals ≤ R.locals) (hb : bc = R.cells ∧ bs = R.slots) (hdg : decode cc pc = .ok (.invokespecial 25, 3)) : a_Sd X pc (t_call 1 rm.cells rm.slots bc bs spec (pc + 3)) := by
  obtain ⟨p, l', e, R', s, m, args, below, meth, c, Q, D', G', N0', nL, q0, σ0⟩ := X
  obtain ⟨rfl, rfl, rfl, rfl, rfl⟩ := Y
  obtain ⟨hx, hb1, hml, hr, hlk, hown, hts, hK, hN, hXF⟩ := C
  obtain ⟨rfl, rfl⟩ := hb
  intro k L st σ kc ks h hk q H locs ls hRr hl hL hst hS hq
  obtain ⟨g1, g2, g3, g4, hsp⟩ := a_cg h
  have cb := va_cnB (R := R') (Ts := lw_g) (ws := Cond.code yX0_init bytes maxL none :: lw_g) (ws' := lw_g) (rm := rm) 0 hts (a_gin hcode) rfl rfl rfl hXF.2.2.2 (hts _ hini) (by decide +kernel) hR
  have hta : ∀ v ∈ (st.take (0 + 1)).reverse, a_ok σ v := fun v hv => hst v (List.mem_of_mem_take (List.mem_reverse.mp hv))
  obtain ⟨hh, As, hAs⟩ := hrec _ _ _ hsp
  have hlen : As.length = 0 := by
    have := congrArg List.length hAs
    rw [List.length_reverse, List.length_take, List.length_cons] at this
    omega
  have hst2 := a_split (q := q) (n := 0) hAs
  have hM1 := hM _ σ _ q hsp hta
  rw [show (st.take 1).reverse = _ from hAs] at hM1
  refine a_callx (va_runIN (b := q hh) (As := As.map (a_val q)) (rest := (st.drop (0 + 1)).map (a_val q)) ⟨hx, hb1, hml, hown, hts⟩ hM1 ⟨cb, rfl, hts _ hinst⟩ ⟨a_blind, fun U hU hW => ⟨rfl, ?_, ?_, ?_, hXF.warm hW⟩⟩ rfl (by rw [List.length_map]; exact hlen) hl.1 hst2 ?_ hdg ⟨g3, g4⟩) hS (fun r σ' q' H1 locs1 hKK hok hqq hR1 hS1 => ?_)
  · rw [hU]; exact Nat.le_trans hN hS.1
  · rw [hU]; exact hRr
  · exact va_K.moved hW.alike hK
  · show 2 * 0 + _ ≤ 8
    rw [a_sum, List.length_drop]
    omega
  · have hd1 : ∀ v ∈ st.drop (0 + 1), a_ok σ v := fun v hv => hst v (List.mem_of_mem_drop hv)
    have hq1 : ∀ h, σ.2.2 h = true ∨ h = 63 → q' h = q h := fun h w => (hqq h w).1
    have hm1 : ∀ h, σ.2.2 h = true → σ'.2.2 h = true := fun h w => (hqq h (Or.inl w)).2 w
    have := hk _ _ _ _ _ _ hKK q' H1 locs1 ls hR1 (a_ls_q hl hL hq1) (fun i v hv => a_ok_up (hL i v hv) hm1) (fun v hv => by
      rcases List.mem_append.mp hv with w | w
      · exact hok v (by cases r with | none => cases w | some z => exact congrArg some (List.mem_singleton.mp w).symm)
      · exact a_ok_up (hd1 v w) hm1) hS1 (fun h w => ⟨((hqq h (w.elim (fun z => Or.inl ((hq h w).2 z)) Or.inr)).1).trans (hq h w).1, fun z => hm1 h ((hq h w).2 z)⟩)
    rw [List.map_append, a_mapq hd1 hq1] at this
    exact this
end AI
/-! the world as a list, for clone -/
def a_wl (G : aG) (q : Nat → Nat) (σ : aS) : va_W := ((List.range 256).filter (fun h => σ.2.2 h)).map (fun h => (q h, a_E G q σ h))
theorem a_wl_in {D : va_G} {G : aG} {N0 : Nat} {q : Nat → Nat} {σ : aS} {H : Heap} (hR : a_R D G N0 q σ H) {h : Nat} (hh : σ.2.2 h = true) : ∃ j : Nat, (a_wl G q σ)[j]? = some (q h, a_E G q σ h) :=
  List.getElem?_of_mem (List.mem_map.mpr ⟨h, List.mem_filter.mpr ⟨List.mem_range.mpr (hR.1 h hh).1.2.1, hh⟩, rfl⟩)
theorem a_wl_P {D : va_G} {G : aG} {N0 : Nat} {q : Nat → Nat} {σ : aS} {H : Heap} (hR : a_R D G N0 q σ H) : va_P D a_cls (a_wl G q σ) H := by
  intro k x hx
  obtain ⟨h, hh, rfl⟩ := List.mem_map.mp (List.mem_of_getElem? hx)
  exact (hR.1 h (List.mem_filter.mp hh).2).2
theorem a_wl_D {D : va_G} {G : aG} {N0 : Nat} {q : Nat → Nat} {σ : aS} {H : Heap} (hR : a_R D G N0 q σ H) : va_D (fun a => N0 ≤ a) (a_wl G q σ) := by
  refine ⟨fun i j x y hx hy e => ?_, fun k x hx => ?_⟩
  · unfold a_wl at hx hy
    rw [List.getElem?_map] at hx hy
    cases h1 : ((List.range 256).filter (fun h => σ.2.2 h))[i]? with
    | none => rw [h1] at hx; cases hx
    | some a =>
      cases h2 : ((List.range 256).filter (fun h => σ.2.2 h))[j]? with
      | none => rw [h2] at hy; cases hy
      | some b =>
        rw [h1] at hx
        rw [h2] at hy
        cases hx
        cases hy
        have ha := (List.mem_filter.mp (List.mem_of_getElem? h1)).2
        have hb := (List.mem_filter.mp (List.mem_of_getElem? h2)).2
        have hab : a = b := hR.2.1 a b ha hb e
        have hnd : ((List.range 256).filter (fun h => σ.2.2 h)).Nodup := List.Pairwise.filter _ List.nodup_range
        exact (List.getElem?_inj (List.getElem?_eq_some_iff.mp h1).1 hnd).mp (by rw [h1, h2, hab])
  · obtain ⟨h, hh, rfl⟩ := List.mem_map.mp (List.mem_of_getElem? hx)
    exact (hR.1 h (List.mem_filter.mp hh).2).1.1
def t_clone (bc bs nx : Nat) : aT := fun k L st σ kc ks => match st with
  | .inr (some h) :: st' => a_g (a_is σ h 4 8) (a_g (decide (st'.length ≤ 8)) (a_gb kc ks 1 8 bc bs (∃ h0, σ.2.2 h0 = false ∧ kd h0 = (4, 8) ∧ (h0 < 256 ∧ h0 ≠ 63) ∧ k nx L (.inr (some h0) :: st') (a_new σ h0 (σ.1 h)) (kc + 1) (ks + 8))))
  | _ => False
def t_cast (nx : Nat) : aT := fun k L st σ kc ks => match st with
  | .inr (some h) :: st' => a_g (a_isA σ h 4) (k nx L (.inr (some h) :: st') σ kc ks)
  | _ => False
section AQ
variable {X : a_X} {cc bytes : ByteArray} {rt ret : Option FieldType} {own : String} {pc n index maxL bc bs : Nat} {l : Launch} {R rm : Room} {D : va_G} {G : aG} {N0 : Nat}
theorem s_cast (C : a_C X cc rt own) (hlink : Cond.classLink own index "[I" ∈ lw_g) (hd : decode cc pc = .ok (.checkcast index, 3)) : a_Sd X pc (t_cast (pc + 3)) := by
  obtain ⟨p, l', e, R', s, m, args, below, meth, c, Q, D', G', N0', nL, q0, σ0⟩ := X
  obtain ⟨hx, hb1, hml, hr, hlk, hown, hts, hK, hN, hXF⟩ := C
  intro k L st σ kc ks h hk q H locs ls hRr hl hL hst hS hq
  unfold t_cast at h
  split at h
  · rename_i hh st'
    obtain ⟨ea, h⟩ := a_ge h
    obtain ⟨e1, e2⟩ := a_isAE ea
    have hat := (hRr.1 hh e1).2
    rw [a_E_4 e2] at hat
    have hnm : s.vm.findClass "[I" = some G'.1 := (hK.2 0 _ rfl).2
    exact va_castA (D := D') hx hb1 hown (hts _ hlink) (a_P1 hat) 0 rfl hnm hd (hk _ _ _ _ _ _ h q H locs ls hRr hl hL hst hS hq)
  · exact h.elim
theorem s_clone (C : a_C X cc rt own) (Y : a_Y X l R D G N0) (hlink : Cond.methodLink own index ⟨"[I", "clone", "()Ljava/lang/Object;"⟩ ∈ lw_g) (hsame : Cond.sameMethod "[I" "java/lang/Object" "clone" "()Ljava/lang/Object;" ∈ lw_g) (hnat : Cond.native ⟨"java/lang/Object", "clone", "()Ljava/lang/Object;"⟩ ∈ lw_g) (hinst : Cond.instanceMethod ⟨"java/lang/Object", "clone", "()Ljava/lang/Object;"⟩ ∈ lw_g) (hsel : Cond.selects "[I" ⟨"[I", "clone", "()Ljava/lang/Object;"⟩ ⟨"java/lang/Object", "clone", "()Ljava/lang/Object;"⟩ ∈ lw_g)
    (hR : 1 ≤ R.frames ∧ 22 ≤ R.locals) (hb : bc = R.cells ∧ bs = R.slots) (hd : decode cc pc = .ok (.invokevirtual index, 3)) : a_Sd X pc (t_clone bc bs (pc + 3)) := by
  obtain ⟨p, l', e, R', s, m, args, below, meth, c, Q, D', G', N0', nL, q0, σ0⟩ := X
  obtain ⟨rfl, rfl, rfl, rfl, rfl⟩ := Y
  obtain ⟨hx, hb1, hml, hr, hlk, hown, hts, hK, hN, hXF⟩ := C
  obtain ⟨rfl, rfl⟩ := hb
  intro k L st σ kc ks h hk q H locs ls hRr hl hL hst hS hq
  unfold t_clone at h
  split at h
  · rename_i hh st'
    obtain ⟨ea, h⟩ := a_ge h
    obtain ⟨eb, h⟩ := a_ge h
    have eb := of_decide_eq_true eb
    obtain ⟨g1, g2, h0, f1, f2, f3, h⟩ := a_cg2 h
    obtain ⟨e1, e2, e3⟩ := a_isE ea
    obtain ⟨j, hj⟩ := a_wl_in hRr e1
    rw [a_E_4 e2, e3] at hj
    have hnm : s.vm.findClass "[I" = some G'.1 := (hK.2 0 _ rfl).2
    refine va_clone (D := D') (A := fun a => N0' ≤ a) (H0 := s.heap) (ty := .int) hx hb1 (by rw [hml]; exact hl.1.symm) hown (hts _ hlink) (hts _ hsame) (hts _ hnat) (hts _ hinst) (hts _ hsel) hXF.2.2.1 hK (a_wl_P hRr) (a_wl_D hRr) hS (fun a ha => Nat.le_trans hN ha) j 0 hj rfl hnm ?_ hR.1 ?_ g1 g2 hd (fun qn H1 hK1 hP1 hD1 hS1 => ?_)
    · intro i v hv
      have hlt : i < 8 := by
        have := (Array.getElem?_eq_some_iff.mp hv).1
        rw [vp_cell_i, arrV_size] at this
        exact this
      rw [vp_cell_i, arrV_read _ _ hlt] at hv
      cases hv
      rfl
    · rw [a_sum]
      have := hR.2
      omega
    · have hP2 : ∀ h', σ.2.2 h' = true → ∃ i : Nat, ((a_wl G' q σ) ++ [(qn, .inl (G'.1, 8, .inl (σ.1 hh)))])[i]? = some (q h', a_E G' q σ h') ∧ i < (a_wl G' q σ).length := fun h' w => by
        obtain ⟨i, hi⟩ := a_wl_in hRr w
        have hil := (List.getElem?_eq_some_iff.mp hi).1
        exact ⟨i, by rw [List.getElem?_append_left hil]; exact hi, hil⟩
      have hlast : ((a_wl G' q σ) ++ [(qn, .inl (G'.1, 8, .inl (σ.1 hh)))])[(a_wl G' q σ).length]? = some (qn, (.inl (G'.1, 8, .inl (σ.1 hh)) : va_E)) := by simp
      refine a_nwJ hRr hl hL (a_okT hst) hS1 hq f1 f3 (hD1.2 _ _ hlast) (fun h' w e' => ?_) (fun h' w => ?_) ?_ (hk _ _ _ _ _ _ h)
      · obtain ⟨i, hi, hil⟩ := hP2 h' w
        have := hD1.1 _ _ _ _ hi hlast e'
        omega
      · obtain ⟨i, hi, -⟩ := hP2 h' w
        exact hP1 i _ hi
      · rw [a_E_4 (by rw [f2]), f2, a_new_1]
        exact hP1 _ _ hlast
  · exact h.elim
end AQ
/-! new int[4][8]: handles 1 and 6 .. 9 -/
def a_mnh (h : Nat) : Bool := decide (h = 1) || (decide (6 ≤ h) && decide (h ≤ 9))
def a_mn (σ : aS) : aS := (fun h k => if a_mnh h = true then 0 else σ.1 h k, fun h k => if h = 1 then (if k < 4 then some (6 + k) else none) else if a_mnh h = true then none else σ.2.1 h k, fun h => if a_mnh h = true then true else σ.2.2 h)
def t_mna (bc bs nx : Nat) : aT := fun k L st σ kc ks => match st with
  | .inl x :: .inl y :: st' => (x = 8 ∧ y = 4) ∧ a_gb kc ks 5 36 bc bs ((∀ h, a_mnh h = true → σ.2.2 h = false) ∧ k nx L (.inr (some 1) :: st') (a_mn σ) (kc + 5) (ks + 36))
  | _ => False
theorem a_outer (c : ClassId) (N h0 : Nat) : ∀ i : Nat, Jvm.Free.Multi.outerC c N h0 i = arrV c N (fun j => va_rf (if j < i then some (h0 + 1 + j) else none))
  | 0 => by
    show ({ cls := c, slots := Array.replicate N .null, vm := .none } : Cell) = _
    rw [arrV_new]
    refine congrArg (arrV c N) (funext fun j => ?_)
    simp [va_rf]
  | i + 1 => by
    show (Jvm.Free.Multi.outerC c N h0 i).setSlot i (.ref (h0 + 1 + i)) = _
    rw [a_outer c N h0 i, arrV_store]
    refine congrArg (arrV c N) (funext fun j => ?_)
    by_cases e : j = i
    · subst e
      simp [updV, va_rf]
    · by_cases h : j < i
      · simp [updV, e, h, Nat.lt_succ_of_lt h]
      · simp [updV, e, h, show ¬ j < i + 1 by omega]
theorem s_mna {X : a_X} {cc : ByteArray} {rt : Option FieldType} {own : String} {pc index bc bs : Nat} {l : Launch} {R : Room} {D : va_G} {G : aG} {N0 : Nat} (C : a_C X cc rt own) (Y : a_Y X l R D G N0) (hlink : Cond.classLink own index "[[I" ∈ lw_g) (harr : Cond.arrayClass .int ∈ lw_g) (hb : bc = R.cells ∧ bs = R.slots) (hd : decode cc pc = .ok (.multianewarray index 2, 4)) : a_Sd X pc (t_mna bc bs (pc + 4)) := by
  obtain ⟨p, l', e, R', s, m, args, below, meth, c, Q, D', G', N0', nL, q0, σ0⟩ := X
  obtain ⟨rfl, rfl, rfl, rfl, rfl⟩ := Y
  obtain ⟨hx, hb1, hml, hr, hlk, hown, hts, hK, hN, hXF⟩ := C
  obtain ⟨rfl, rfl⟩ := hb
  intro k L st σ kc ks h hk q H locs ls hRr hl hL hst hS hq
  unfold t_mna at h
  split at h
  · rename_i x y st'
    obtain ⟨⟨rfl, rfl⟩, h⟩ := h
    obtain ⟨g1, g2, f1, h⟩ := a_cg2 h
    intro T hT Xs
    obtain ⟨vm₁, cA, comp, -, fA, fC, hO, -, X', step⟩ := Xs.multianewarray2F (ty := .int) hx hown (hts _ hlink) (show (Cond.arrayOver (.array .int)).before args s = true from hXF.2.1) (hts _ harr) (g := F0 m pc ls ((Sum.inl 8 :: Sum.inl 4 :: st' : List aV).map (a_val q))) rfl (by rw [hb1]; exact hd) (n := 4) (k := 8) (rest := st'.map (a_val q)) rfl (by decide) (by decide) (by decide) (by decide) (by decide) rfl rfl (by show kc + (1 + 4) ≤ _; omega) (by show ks + (4 + 4 * 8) ≤ _; omega)
    have hcA : cA = G'.2.2 := Option.some.inj (fA.symm.trans (hK.2 2 _ rfl).2)
    have hcC : comp = G'.1 := Option.some.inj (fC.symm.trans (hK.2 0 _ rfl).2)
    subst hcA
    subst hcC
    have n4 : (4 : Int32).toNatClampNeg = 4 := by decide
    have n8 : (8 : Int32).toNatClampNeg = 8 := by decide
    rw [n4, n8] at X' step
    generalize hF : Jvm.Free.Multi.fill (T.setVm vm₁) G'.2.2 G'.1 4 8 (defaultValue .int) 4 = F at X' step
    have hTh : (T.setVm vm₁).heap = H := hT
    obtain ⟨k1, k2, -, -⟩ := Jvm.Free.Multi.fill_facts (T.setVm vm₁) G'.2.2 G'.1 4 8 (defaultValue .int) 4
    rw [hF, hTh] at k1 k2
    have hold : ∀ x : Nat, x < H.size → F.heap[x]? = H[x]? := fun x hx => by
      have := Jvm.Free.Multi.fill_old (T.setVm vm₁) G'.2.2 G'.1 4 8 (defaultValue .int) (a := x) (by rw [hTh]; exact hx) 4
      rw [hF, hTh] at this
      exact this
    have hrow : ∀ j : Nat, j < 4 → F.heap[H.size + 1 + j]? = some (vp_cell G'.1 (8, .inl (fun _ => 0))) := fun j hj => by
      have := Jvm.Free.Multi.fill_inner (T.setVm vm₁) G'.2.2 G'.1 4 8 (defaultValue .int) 4 j hj
      rw [hF, hTh] at this
      rw [this]
      show some (Jvm.Free.Multi.innerC G'.1 8 (.int 0)) = some (arrV G'.1 8 (fun _ => .int 0))
      rw [← arrV_new]
      rfl
    rw [a_outer] at k2
    have hlt : ∀ h, σ.2.2 h = true → q h < H.size := fun h w => (hRr.1 h w).2.lt
    have hnm : ∀ h, σ.2.2 h = true → a_mnh h = false := fun h w => by
      cases hz : a_mnh h with
      | false => rfl
      | true => rw [f1 h hz] at w; cases w
    have hlv : ∀ h, (a_mn σ).2.2 h = true → a_mnh h = false → σ.2.2 h = true := fun h w z => by
      have w : (if a_mnh h = true then true else σ.2.2 h) = true := w
      rw [z] at w
      exact w
    have hm1 : ∀ h, σ.2.2 h = true → (a_mn σ).2.2 h = true := fun h w => by
      show (if a_mnh h = true then true else σ.2.2 h) = true
      rw [hnm h w]
      exact w
    have ht1 : ∀ h, a_mnh h = true → h = 1 ∨ h = 6 ∨ h = 7 ∨ h = 8 ∨ h = 9 := fun h w => by
      unfold a_mnh at w
      simp only [Bool.or_eq_true, Bool.and_eq_true, decide_eq_true_eq] at w
      omega
    obtain ⟨qn, hqn⟩ : ∃ qn : Nat → Nat, ∀ h, qn h = if a_mnh h = true then (if h = 1 then H.size else H.size + 1 + (h - 6)) else q h := ⟨fun h => _, fun h => rfl⟩
    have hq1 : ∀ h, σ.2.2 h = true ∨ h = 63 → qn h = q h := fun h w => by
      rw [hqn h]
      rcases w with w | w
      · rw [hnm h w]; rfl
      · rw [w]; rfl
    have hEo : ∀ h, σ.2.2 h = true → a_E G' qn (a_mn σ) h = a_E G' q σ h := fun h w => a_E_q (by
        funext k'
        show (if a_mnh h = true then 0 else σ.1 h k') = _
        rw [hnm h w]; rfl) (by
        funext k'
        show (if h = 1 then _ else if a_mnh h = true then none else σ.2.1 h k') = _
        have : h ≠ 1 := fun z => by rw [z] at w; have := hnm 1 w; cases this
        rw [if_neg this, hnm h w]; rfl) (fun k' h' z => hq1 h' (Or.inl (hRr.2.2 h k' h' w z)))
    have hR1 : a_R D' G' N0' qn (a_mn σ) F.heap := by
      refine ⟨fun h w => ?_, fun h h' w w' z => ?_, fun h k' h' w z => ?_⟩
      · by_cases em : a_mnh h = true
        · have hsz : N0' ≤ H.size := Nat.le_trans hN hS.1
          rcases ht1 h em with rfl | rfl | rfl | rfl | rfl
          · refine ⟨⟨by rw [hqn]; exact hsz, by decide, by decide⟩, ?_⟩
            rw [a_E_6 (by rfl)]
            show F.heap[qn 1]? = some (vp_cell _ _)
            rw [hqn 1, vp_cell_q]
            refine k2.trans (congrArg some (congrArg (arrV G'.2.2 4) (funext fun j => ?_)))
            show va_rf (if j < 4 then some (H.size + 1 + j) else none) = va_rf ((if j < 4 then some (6 + j) else none).map qn)
            by_cases hj : j < 4
            · rw [if_pos hj, if_pos hj]
              have e9 : qn (6 + j) = H.size + 1 + j := by
                rw [hqn]
                have : a_mnh (6 + j) = true := by
                  unfold a_mnh
                  simp only [Bool.or_eq_true, Bool.and_eq_true, decide_eq_true_eq]
                  omega
                rw [this, if_pos rfl, if_neg (by omega)]
                omega
              show va_rf (some (H.size + 1 + j)) = va_rf (some (qn (6 + j)))
              rw [e9]
            · rw [if_neg hj, if_neg hj]; rfl
          all_goals
            refine ⟨⟨by rw [hqn]; exact Nat.le_trans hsz (by show H.size ≤ H.size + 1 + _; omega), by decide, by decide⟩, ?_⟩
            rw [a_E_4 (by rfl)]
            show F.heap[qn _]? = some (vp_cell _ _)
            rw [hqn]
            exact hrow _ (by decide)
        · have em : a_mnh h = false := by simpa using em
          have w2 := hlv h w em
          rw [hEo h w2, hq1 h (Or.inl w2)]
          exact ⟨(hRr.1 h w2).1, (hRr.1 h w2).2.kept (hold _ (hlt h w2))⟩
      · rw [hqn h, hqn h'] at z
        by_cases em : a_mnh h = true <;> by_cases em' : a_mnh h' = true
        · rw [em, em', if_pos rfl, if_pos rfl] at z
          have t1 := ht1 h em
          have t2 := ht1 h' em'
          split at z <;> split at z <;> omega
        · have em' : a_mnh h' = false := by simpa using em'
          have := hlt h' (hlv h' w' em')
          rw [em, em', if_pos (rfl : true = true), if_neg (show ¬ (false = true) by decide)] at z
          split at z <;> omega
        · have em : a_mnh h = false := by simpa using em
          have := hlt h (hlv h w em)
          rw [em, em', if_pos (rfl : true = true), if_neg (show ¬ (false = true) by decide)] at z
          split at z <;> omega
        · have em : a_mnh h = false := by simpa using em
          have em' : a_mnh h' = false := by simpa using em'
          rw [em, em', if_neg (show ¬ (false = true) by decide), if_neg (show ¬ (false = true) by decide)] at z
          exact hRr.2.1 h h' (hlv h w em) (hlv h' w' em') z
      · have z : (if h = 1 then (if k' < 4 then some (6 + k') else none) else if a_mnh h = true then none else σ.2.1 h k') = some h' := z
        by_cases e1 : h = 1
        · rw [if_pos e1] at z
          split at z
          · cases z
            show (if a_mnh (6 + k') = true then true else _) = true
            rw [show a_mnh (6 + k') = true by
              unfold a_mnh
              simp only [Bool.or_eq_true, Bool.and_eq_true, decide_eq_true_eq]
              omega]
            rfl
          · cases z
        · rw [if_neg e1] at z
          by_cases em : a_mnh h = true
          · rw [if_pos em] at z; cases z
          · rw [if_neg em] at z
            have em : a_mnh h = false := by simpa using em
            exact hm1 h' (hRr.2.2 h k' h' (hlv h w em) z)
    have hS1 : va_S (fun a => N0' ≤ a) s.heap F.heap locs := ⟨by rw [k1]; have := hS.1; omega, fun x h1 h2 => (hold x (Nat.lt_of_lt_of_le h1 hS.1)).trans (hS.2.1 x h1 h2), hS.2.2⟩
    have := hk _ _ _ _ _ _ h qn F.heap locs ls hR1 (a_ls_q hl hL hq1) (fun i v hv => a_ok_up (hL i v hv) hm1) (a_okC (fun h' e' => by cases e'; exact Or.inl rfl) (fun v hv => a_ok_up (a_okT (a_okT hst) v hv) hm1)) hS1 (fun h w => ⟨(hq1 h (w.elim (fun z => Or.inl ((hq h w).2 z)) Or.inr)).trans (hq h w).1, fun z => hm1 h ((hq h w).2 z)⟩)
    rw [List.map_cons, a_mapq (a_okT (a_okT hst)) hq1] at this
    have e9 : a_val qn (.inr (some 1)) = .ref H.size := congrArg (fun z => va_rf (some z)) (hqn 1)
    rw [e9] at this
    obtain ⟨t, a1, b1⟩ := this F rfl X'
    refine ⟨t, step t ?_, b1⟩
    have e : T.heap.size = H.size := by rw [hT]
    rw [e]
    exact a1
  · exact h.elim
end
section
/-! ===== words of the tables, by their places ===== -/
abbrev a_rm (n c s : Nat) : Room := { frames := n, cells := c, slots := s, locals := 40 * n }
theorem a_tok_of2 {pc : Nat} {dflt lo hi : Int} {offs : Array Int} {ts : List (Int32 × Nat)} {d : Nat} (n : Nat) (h1 : (pc : Int) + dflt = (d : Int)) (hn : hi = lo + n) (hts : ∀ v ∈ ts.map Prod.fst, lo ≤ v.toInt ∧ v.toInt ≤ hi)
    (h2 : ((List.range (n + 1)).all (fun j => match offs[j]?, ts.lookup (Int32.ofInt (lo + j)) with
      | some off, some t => decide ((pc : Int) + off = (t : Int))
      | _, _ => false)) = true) : a_tok pc dflt lo hi offs ts d := by
  refine a_tok_of n h1 hn hts (fun j hj => ?_)
  have h3 := List.all_eq_true.mp h2 j (List.mem_range.mpr hj)
  split at h3
  · rename_i off t e1 e2
    exact ⟨off, e1, t, e2, of_decide_eq_true h3⟩
  · cases h3
theorem in_X0 : ∀ w ∈ u_ws RX0 TX0 3, w ∈ lw_g := by decide +kernel
theorem in_X1 : ∀ w ∈ u_ws RX1 TX1 7, w ∈ lw_g := by decide +kernel
theorem in_X2 : ∀ w ∈ u_ws RX2 TX2 10, w ∈ lw_g := by decide +kernel
theorem in_X3 : ∀ w ∈ u_ws RX3 TX3 25, w ∈ lw_g := by decide +kernel
theorem df_X0 : ∀ k, k < 3 → defaultValue (tyX0 k) = if a_int 0 k = true then .int 0 else .null := by decide +kernel
theorem df_X1 : ∀ k, k < 7 → defaultValue (tyX1 k) = if a_int 1 k = true then .int 0 else .null := by decide +kernel
theorem df_X2 : ∀ k, k < 10 → defaultValue (tyX2 k) = if a_int 2 k = true then .int 0 else .null := by decide +kernel
theorem df_X3 : ∀ k, k < 25 → defaultValue (tyX3 k) = if a_int 3 k = true then .int 0 else .null := by decide +kernel
theorem ml_X0_3 : Cond.methodLink RX0 3 objectInit ∈ lw_g := a_in (i := 55) rfl rfl
theorem im_obj : Cond.instanceMethod objectInit ∈ lw_g := a_in (i := 44) rfl rfl
theorem co_obj : Cond.code objectInit ⟨#[0xb1]⟩ 1 none ∈ lw_g := a_in (i := 45) rfl rfl
theorem ac_int : Cond.arrayClass .int ∈ lw_g := a_in (i := 68) rfl rfl
theorem lk_X0_9 : Cond.fieldLink RX0 9 (TX0 0).1 (TX0 0).2.1 (TX0 0).2.2.1 ∈ lw_g := a_in (i := 56) rfl rfl
theorem lk_X0_15 : Cond.fieldLink RX0 15 (TX0 1).1 (TX0 1).2.1 (TX0 1).2.2.1 ∈ lw_g := a_in (i := 57) rfl rfl
theorem lk_X0_19 : Cond.fieldLink RX0 19 (TX0 2).1 (TX0 2).2.1 (TX0 2).2.2.1 ∈ lw_g := a_in (i := 59) rfl rfl
theorem co_X0_timesFrom : Cond.code yX0_timesFrom cX0_timesFrom 4 (some .int) ∈ lw_g := a_in (i := 283) rfl rfl
theorem ii_X0 : Cond.initialized RX0 ∈ lw_g := a_in (i := 35) rfl rfl
theorem ml_X0_22 : Cond.methodLink RX0 22 yX0_timesFrom ∈ lw_g := a_in (i := 280) rfl rfl
theorem im_X0_timesFrom : Cond.instanceMethod yX0_timesFrom ∈ lw_g := a_in (i := 282) rfl rfl
theorem se_X0_timesFrom : Cond.selects RX0 yX0_timesFrom yX0_timesFrom ∈ lw_g := a_in (i := 19) rfl rfl
theorem ml_X1_1 : Cond.methodLink RX1 1 objectInit ∈ lw_g := a_in (i := 73) rfl rfl
theorem lk_X1_7 : Cond.fieldLink RX1 7 (TX1 0).1 (TX1 0).2.1 (TX1 0).2.2.1 ∈ lw_g := a_in (i := 74) rfl rfl
theorem lk_X1_13 : Cond.fieldLink RX1 13 (TX1 1).1 (TX1 1).2.1 (TX1 1).2.2.1 ∈ lw_g := a_in (i := 76) rfl rfl
theorem lk_X1_16 : Cond.fieldLink RX1 16 (TX1 2).1 (TX1 2).2.1 (TX1 2).2.2.1 ∈ lw_g := a_in (i := 78) rfl rfl
theorem lk_X1_19 : Cond.fieldLink RX1 19 (TX1 3).1 (TX1 3).2.1 (TX1 3).2.2.1 ∈ lw_g := a_in (i := 80) rfl rfl
theorem lk_X1_22 : Cond.fieldLink RX1 22 (TX1 4).1 (TX1 4).2.1 (TX1 4).2.2.1 ∈ lw_g := a_in (i := 82) rfl rfl
theorem lk_X1_26 : Cond.fieldLink RX1 26 (TX1 5).1 (TX1 5).2.1 (TX1 5).2.2.1 ∈ lw_g := a_in (i := 84) rfl rfl
theorem ml_X2_1 : Cond.methodLink RX2 1 objectInit ∈ lw_g := a_in (i := 43) rfl rfl
theorem cl_X2_9 : Cond.classLink RX2 9 "[[I" ∈ lw_g := a_in (i := 46) rfl rfl
theorem lk_X2_11 : Cond.fieldLink RX2 11 (TX2 0).1 (TX2 0).2.1 (TX2 0).2.2.1 ∈ lw_g := a_in (i := 102) rfl rfl
theorem cl_X2_14 : Cond.classLink RX2 14 RX1 ∈ lw_g := a_in (i := 48) rfl rfl
theorem lk_X2_16 : Cond.fieldLink RX2 16 (TX2 1).1 (TX2 1).2.1 (TX2 1).2.2.1 ∈ lw_g := a_in (i := 103) rfl rfl
theorem lk_X2_20 : Cond.fieldLink RX2 20 (TX2 2).1 (TX2 2).2.1 (TX2 2).2.2.1 ∈ lw_g := a_in (i := 104) rfl rfl
theorem cl_X2_23 : Cond.classLink RX2 23 RX0 ∈ lw_g := a_in (i := 50) rfl rfl
theorem ia_X0 : Cond.instantiable RX0 3 ∈ lw_g := a_in (i := 51) rfl rfl
theorem co_X0_init : Cond.code yX0_init cX0_init 1 none ∈ lw_g := a_in (i := 54) rfl rfl
theorem im_X0_init : Cond.instanceMethod yX0_init ∈ lw_g := a_in (i := 53) rfl rfl
theorem lk_X2_26 : Cond.fieldLink RX2 26 (TX2 3).1 (TX2 3).2.1 (TX2 3).2.2.1 ∈ lw_g := a_in (i := 105) rfl rfl
theorem ia_X1 : Cond.instantiable RX1 7 ∈ lw_g := a_in (i := 69) rfl rfl
theorem ii_X1 : Cond.initialized RX1 ∈ lw_g := a_in (i := 36) rfl rfl
theorem co_X1_init : Cond.code yX1_init cX1_init 7 none ∈ lw_g := a_in (i := 72) rfl rfl
theorem ml_X2_30 : Cond.methodLink RX2 30 yX1_init ∈ lw_g := a_in (i := 70) rfl rfl
theorem im_X1_init : Cond.instanceMethod yX1_init ∈ lw_g := a_in (i := 71) rfl rfl
theorem co_X2_isDye : Cond.code yX2_isDye cX2_isDye 1 (some .boolean) ∈ lw_g := a_in (i := 139) rfl rfl
theorem ii_X2 : Cond.initialized RX2 ∈ lw_g := a_in (i := 34) rfl rfl
theorem ml_X2_33 : Cond.methodLink RX2 33 yX2_isDye ∈ lw_g := a_in (i := 137) rfl rfl
theorem st_X2_isDye : Cond.static yX2_isDye ∈ lw_g := a_in (i := 138) rfl rfl
theorem lk_X2_37 : Cond.fieldLink RX2 37 (TX2 5).1 (TX2 5).2.1 (TX2 5).2.2.1 ∈ lw_g := a_in (i := 107) rfl rfl
theorem co_X2_knowsAll : Cond.code yX2_knowsAll cX2_knowsAll 5 (some .boolean) ∈ lw_g := a_in (i := 147) rfl rfl
theorem ml_X2_41 : Cond.methodLink RX2 41 yX2_knowsAll ∈ lw_g := a_in (i := 144) rfl rfl
theorem im_X2_knowsAll : Cond.instanceMethod yX2_knowsAll ∈ lw_g := a_in (i := 146) rfl rfl
theorem se_X2_knowsAll : Cond.selects RX2 yX2_knowsAll yX2_knowsAll ∈ lw_g := a_in (i := 0) rfl rfl
theorem co_X2_fits : Cond.code yX2_fits cX2_fits 2 (some .boolean) ∈ lw_g := a_in (i := 157) rfl rfl
theorem ml_X2_45 : Cond.methodLink RX2 45 yX2_fits ∈ lw_g := a_in (i := 155) rfl rfl
theorem st_X2_fits : Cond.static yX2_fits ∈ lw_g := a_in (i := 156) rfl rfl
theorem lk_X2_49 : Cond.fieldLink RX2 49 (TX2 4).1 (TX2 4).2.1 (TX2 4).2.2.1 ∈ lw_g := a_in (i := 106) rfl rfl
theorem co_X2_named : Cond.code yX2_named cX2_named 2 (some (.object "PatternLoom$Pattern")) ∈ lw_g := a_in (i := 161) rfl rfl
theorem ml_X2_52 : Cond.methodLink RX2 52 yX2_named ∈ lw_g := a_in (i := 158) rfl rfl
theorem im_X2_named : Cond.instanceMethod yX2_named ∈ lw_g := a_in (i := 160) rfl rfl
theorem se_X2_named : Cond.selects RX2 yX2_named yX2_named ∈ lw_g := a_in (i := 2) rfl rfl
theorem co_X2_rowFor : Cond.code yX2_rowFor cX2_rowFor 3 (some (.array .int)) ∈ lw_g := a_in (i := 165) rfl rfl
theorem ml_X2_56 : Cond.methodLink RX2 56 yX2_rowFor ∈ lw_g := a_in (i := 162) rfl rfl
theorem im_X2_rowFor : Cond.instanceMethod yX2_rowFor ∈ lw_g := a_in (i := 164) rfl rfl
theorem se_X2_rowFor : Cond.selects RX2 yX2_rowFor yX2_rowFor ∈ lw_g := a_in (i := 3) rfl rfl
theorem co_X2_isName : Cond.code yX2_isName cX2_isName 1 (some .boolean) ∈ lw_g := a_in (i := 154) rfl rfl
theorem ml_X2_60 : Cond.methodLink RX2 60 yX2_isName ∈ lw_g := a_in (i := 152) rfl rfl
theorem st_X2_isName : Cond.static yX2_isName ∈ lw_g := a_in (i := 153) rfl rfl
theorem co_X2_isPattern : Cond.code yX2_isPattern cX2_isPattern 2 (some .boolean) ∈ lw_g := a_in (i := 151) rfl rfl
theorem ml_X2_63 : Cond.methodLink RX2 63 yX2_isPattern ∈ lw_g := a_in (i := 148) rfl rfl
theorem im_X2_isPattern : Cond.instanceMethod yX2_isPattern ∈ lw_g := a_in (i := 150) rfl rfl
theorem se_X2_isPattern : Cond.selects RX2 yX2_isPattern yX2_isPattern ∈ lw_g := a_in (i := 1) rfl rfl
theorem co_X2_numbered : Cond.code yX2_numbered cX2_numbered 2 (some (.object "PatternLoom$Pattern")) ∈ lw_g := a_in (i := 180) rfl rfl
theorem ml_X2_66 : Cond.methodLink RX2 66 yX2_numbered ∈ lw_g := a_in (i := 177) rfl rfl
theorem im_X2_numbered : Cond.instanceMethod yX2_numbered ∈ lw_g := a_in (i := 179) rfl rfl
theorem se_X2_numbered : Cond.selects RX2 yX2_numbered yX2_numbered ∈ lw_g := a_in (i := 4) rfl rfl
theorem lk_X2_69 : Cond.fieldLink RX2 69 (TX2 8).1 (TX2 8).2.1 (TX2 8).2.2.1 ∈ lw_g := a_in (i := 110) rfl rfl
theorem co_X2_tellPlace : Cond.code yX2_tellPlace cX2_tellPlace 4 (some .int) ∈ lw_g := a_in (i := 188) rfl rfl
theorem ml_X2_72 : Cond.methodLink RX2 72 yX2_tellPlace ∈ lw_g := a_in (i := 185) rfl rfl
theorem im_X2_tellPlace : Cond.instanceMethod yX2_tellPlace ∈ lw_g := a_in (i := 187) rfl rfl
theorem se_X2_tellPlace : Cond.selects RX2 yX2_tellPlace yX2_tellPlace ∈ lw_g := a_in (i := 5) rfl rfl
theorem lk_X2_76 : Cond.fieldLink RX2 76 (TX2 6).1 (TX2 6).2.1 (TX2 6).2.2.1 ∈ lw_g := a_in (i := 108) rfl rfl
theorem co_X2_isSide : Cond.code yX2_isSide cX2_isSide 1 (some .boolean) ∈ lw_g := a_in (i := 247) rfl rfl
theorem ml_X2_79 : Cond.methodLink RX2 79 yX2_isSide ∈ lw_g := a_in (i := 245) rfl rfl
theorem st_X2_isSide : Cond.static yX2_isSide ∈ lw_g := a_in (i := 246) rfl rfl
theorem co_X0_begin : Cond.code yX0_begin cX0_begin 2 none ∈ lw_g := a_in (i := 251) rfl rfl
theorem ml_X2_82 : Cond.methodLink RX2 82 yX0_begin ∈ lw_g := a_in (i := 248) rfl rfl
theorem im_X0_begin : Cond.instanceMethod yX0_begin ∈ lw_g := a_in (i := 249) rfl rfl
theorem se_X0_begin : Cond.selects RX0 yX0_begin yX0_begin ∈ lw_g := a_in (i := 250) rfl rfl
theorem co_X0_add : Cond.code yX0_add cX0_add 2 none ∈ lw_g := a_in (i := 255) rfl rfl
theorem ml_X2_86 : Cond.methodLink RX2 86 yX0_add ∈ lw_g := a_in (i := 252) rfl rfl
theorem im_X0_add : Cond.instanceMethod yX0_add ∈ lw_g := a_in (i := 253) rfl rfl
theorem se_X0_add : Cond.selects RX0 yX0_add yX0_add ∈ lw_g := a_in (i := 254) rfl rfl
theorem co_X0_colourAt : Cond.code yX0_colourAt cX0_colourAt 2 (some .int) ∈ lw_g := a_in (i := 263) rfl rfl
theorem ml_X2_89 : Cond.methodLink RX2 89 yX0_colourAt ∈ lw_g := a_in (i := 260) rfl rfl
theorem im_X0_colourAt : Cond.instanceMethod yX0_colourAt ∈ lw_g := a_in (i := 261) rfl rfl
theorem se_X0_colourAt : Cond.selects RX0 yX0_colourAt yX0_colourAt ∈ lw_g := a_in (i := 262) rfl rfl
theorem co_X0_changesInRows : Cond.code yX0_changesInRows cX0_changesInRows 3 (some .int) ∈ lw_g := a_in (i := 271) rfl rfl
theorem ml_X2_93 : Cond.methodLink RX2 93 yX0_changesInRows ∈ lw_g := a_in (i := 268) rfl rfl
theorem im_X0_changesInRows : Cond.instanceMethod yX0_changesInRows ∈ lw_g := a_in (i := 269) rfl rfl
theorem se_X0_changesInRows : Cond.selects RX0 yX0_changesInRows yX0_changesInRows ∈ lw_g := a_in (i := 270) rfl rfl
theorem co_X0_mostOften : Cond.code yX0_mostOften cX0_mostOften 5 (some .int) ∈ lw_g := a_in (i := 279) rfl rfl
theorem ml_X2_97 : Cond.methodLink RX2 97 yX0_mostOften ∈ lw_g := a_in (i := 276) rfl rfl
theorem im_X0_mostOften : Cond.instanceMethod yX0_mostOften ∈ lw_g := a_in (i := 277) rfl rfl
theorem se_X0_mostOften : Cond.selects RX0 yX0_mostOften yX0_mostOften ∈ lw_g := a_in (i := 278) rfl rfl
theorem lk_X2_100 : Cond.fieldLink RX2 100 (TX0 1).1 (TX0 1).2.1 (TX0 1).2.2.1 ∈ lw_g := a_in (i := 58) rfl rfl
theorem lk_X2_103 : Cond.fieldLink RX2 103 (TX0 2).1 (TX0 2).2.1 (TX0 2).2.2.1 ∈ lw_g := a_in (i := 60) rfl rfl
theorem lk_X2_106 : Cond.fieldLink RX2 106 (TX2 7).1 (TX2 7).2.1 (TX2 7).2.2.1 ∈ lw_g := a_in (i := 109) rfl rfl
theorem lk_X2_109 : Cond.fieldLink RX2 109 (TX2 9).1 (TX2 9).2.1 (TX2 9).2.2.1 ∈ lw_g := a_in (i := 111) rfl rfl
theorem ml_X2_112 : Cond.methodLink RX2 112 ⟨"[I", "clone", "()Ljava/lang/Object;"⟩ ∈ lw_g := a_in (i := 166) rfl rfl
theorem sm_clone : Cond.sameMethod "[I" "java/lang/Object" "clone" "()Ljava/lang/Object;" ∈ lw_g := a_in (i := 167) rfl rfl
theorem na_clone : Cond.native ⟨"java/lang/Object", "clone", "()Ljava/lang/Object;"⟩ ∈ lw_g := a_in (i := 168) rfl rfl
theorem im_clone : Cond.instanceMethod ⟨"java/lang/Object", "clone", "()Ljava/lang/Object;"⟩ ∈ lw_g := a_in (i := 169) rfl rfl
theorem se_clone : Cond.selects "[I" ⟨"[I", "clone", "()Ljava/lang/Object;"⟩ ⟨"java/lang/Object", "clone", "()Ljava/lang/Object;"⟩ ∈ lw_g := a_in (i := 170) rfl rfl
theorem cl_X2_113 : Cond.classLink RX2 113 "[I" ∈ lw_g := a_in (i := 172) rfl rfl
theorem co_X2_tell : Cond.code yX2_tell cX2_tell 4 (some .int) ∈ lw_g := a_in (i := 192) rfl rfl
theorem ml_X2_118 : Cond.methodLink RX2 118 yX2_tell ∈ lw_g := a_in (i := 189) rfl rfl
theorem im_X2_tell : Cond.instanceMethod yX2_tell ∈ lw_g := a_in (i := 191) rfl rfl
theorem se_X2_tell : Cond.selects RX2 yX2_tell yX2_tell ∈ lw_g := a_in (i := 6) rfl rfl
theorem co_X2_fail : Cond.code yX2_fail cX2_fail 2 (some .int) ∈ lw_g := a_in (i := 196) rfl rfl
theorem ml_X2_121 : Cond.methodLink RX2 121 yX2_fail ∈ lw_g := a_in (i := 193) rfl rfl
theorem im_X2_fail : Cond.instanceMethod yX2_fail ∈ lw_g := a_in (i := 195) rfl rfl
theorem se_X2_fail : Cond.selects RX2 yX2_fail yX2_fail ∈ lw_g := a_in (i := 7) rfl rfl
theorem lk_X2_124 : Cond.fieldLink RX2 124 (TX1 0).1 (TX1 0).2.1 (TX1 0).2.2.1 ∈ lw_g := a_in (i := 75) rfl rfl
theorem lk_X2_127 : Cond.fieldLink RX2 127 (TX1 1).1 (TX1 1).2.1 (TX1 1).2.2.1 ∈ lw_g := a_in (i := 77) rfl rfl
theorem co_X2_tellStripes : Cond.code yX2_tellStripes cX2_tellStripes 3 (some .int) ∈ lw_g := a_in (i := 200) rfl rfl
theorem ml_X2_130 : Cond.methodLink RX2 130 yX2_tellStripes ∈ lw_g := a_in (i := 197) rfl rfl
theorem im_X2_tellStripes : Cond.instanceMethod yX2_tellStripes ∈ lw_g := a_in (i := 199) rfl rfl
theorem se_X2_tellStripes : Cond.selects RX2 yX2_tellStripes yX2_tellStripes ∈ lw_g := a_in (i := 8) rfl rfl
theorem co_X2_tellTwill : Cond.code yX2_tellTwill cX2_tellTwill 4 (some .int) ∈ lw_g := a_in (i := 204) rfl rfl
theorem ml_X2_134 : Cond.methodLink RX2 134 yX2_tellTwill ∈ lw_g := a_in (i := 201) rfl rfl
theorem im_X2_tellTwill : Cond.instanceMethod yX2_tellTwill ∈ lw_g := a_in (i := 203) rfl rfl
theorem se_X2_tellTwill : Cond.selects RX2 yX2_tellTwill yX2_tellTwill ∈ lw_g := a_in (i := 9) rfl rfl
theorem lk_X2_137 : Cond.fieldLink RX2 137 (TX1 2).1 (TX1 2).2.1 (TX1 2).2.2.1 ∈ lw_g := a_in (i := 79) rfl rfl
theorem lk_X2_140 : Cond.fieldLink RX2 140 (TX1 3).1 (TX1 3).2.1 (TX1 3).2.2.1 ∈ lw_g := a_in (i := 81) rfl rfl
theorem co_X2_tellTurned : Cond.code yX2_tellTurned cX2_tellTurned 5 (some .int) ∈ lw_g := a_in (i := 208) rfl rfl
theorem ml_X2_143 : Cond.methodLink RX2 143 yX2_tellTurned ∈ lw_g := a_in (i := 205) rfl rfl
theorem im_X2_tellTurned : Cond.instanceMethod yX2_tellTurned ∈ lw_g := a_in (i := 207) rfl rfl
theorem se_X2_tellTurned : Cond.selects RX2 yX2_tellTurned yX2_tellTurned ∈ lw_g := a_in (i := 10) rfl rfl
theorem co_X2_tellOver : Cond.code yX2_tellOver cX2_tellOver 5 (some .int) ∈ lw_g := a_in (i := 212) rfl rfl
theorem ml_X2_146 : Cond.methodLink RX2 146 yX2_tellOver ∈ lw_g := a_in (i := 209) rfl rfl
theorem im_X2_tellOver : Cond.instanceMethod yX2_tellOver ∈ lw_g := a_in (i := 211) rfl rfl
theorem se_X2_tellOver : Cond.selects RX2 yX2_tellOver yX2_tellOver ∈ lw_g := a_in (i := 11) rfl rfl
theorem co_X2_tellWhere : Cond.code yX2_tellWhere cX2_tellWhere 5 (some .int) ∈ lw_g := a_in (i := 216) rfl rfl
theorem ml_X2_149 : Cond.methodLink RX2 149 yX2_tellWhere ∈ lw_g := a_in (i := 213) rfl rfl
theorem im_X2_tellWhere : Cond.instanceMethod yX2_tellWhere ∈ lw_g := a_in (i := 215) rfl rfl
theorem se_X2_tellWhere : Cond.selects RX2 yX2_tellWhere yX2_tellWhere ∈ lw_g := a_in (i := 12) rfl rfl
theorem co_X2_tellDyed : Cond.code yX2_tellDyed cX2_tellDyed 5 (some .int) ∈ lw_g := a_in (i := 220) rfl rfl
theorem ml_X2_152 : Cond.methodLink RX2 152 yX2_tellDyed ∈ lw_g := a_in (i := 217) rfl rfl
theorem im_X2_tellDyed : Cond.instanceMethod yX2_tellDyed ∈ lw_g := a_in (i := 219) rfl rfl
theorem se_X2_tellDyed : Cond.selects RX2 yX2_tellDyed yX2_tellDyed ∈ lw_g := a_in (i := 13) rfl rfl
theorem co_X2_tellWorn : Cond.code yX2_tellWorn cX2_tellWorn 4 (some .int) ∈ lw_g := a_in (i := 228) rfl rfl
theorem ml_X2_155 : Cond.methodLink RX2 155 yX2_tellWorn ∈ lw_g := a_in (i := 225) rfl rfl
theorem im_X2_tellWorn : Cond.instanceMethod yX2_tellWorn ∈ lw_g := a_in (i := 227) rfl rfl
theorem se_X2_tellWorn : Cond.selects RX2 yX2_tellWorn yX2_tellWorn ∈ lw_g := a_in (i := 15) rfl rfl
theorem co_X2_tellBoth : Cond.code yX2_tellBoth cX2_tellBoth 5 (some .int) ∈ lw_g := a_in (i := 232) rfl rfl
theorem ml_X2_158 : Cond.methodLink RX2 158 yX2_tellBoth ∈ lw_g := a_in (i := 229) rfl rfl
theorem im_X2_tellBoth : Cond.instanceMethod yX2_tellBoth ∈ lw_g := a_in (i := 231) rfl rfl
theorem se_X2_tellBoth : Cond.selects RX2 yX2_tellBoth yX2_tellBoth ∈ lw_g := a_in (i := 16) rfl rfl
theorem co_X2_tellSafe : Cond.code yX2_tellSafe cX2_tellSafe 5 (some .int) ∈ lw_g := a_in (i := 236) rfl rfl
theorem ml_X2_161 : Cond.methodLink RX2 161 yX2_tellSafe ∈ lw_g := a_in (i := 233) rfl rfl
theorem im_X2_tellSafe : Cond.instanceMethod yX2_tellSafe ∈ lw_g := a_in (i := 235) rfl rfl
theorem se_X2_tellSafe : Cond.selects RX2 yX2_tellSafe yX2_tellSafe ∈ lw_g := a_in (i := 17) rfl rfl
theorem lk_X2_164 : Cond.fieldLink RX2 164 (TX1 5).1 (TX1 5).2.1 (TX1 5).2.2.1 ∈ lw_g := a_in (i := 85) rfl rfl
theorem lk_X2_168 : Cond.fieldLink RX2 168 (TX1 4).1 (TX1 4).2.1 (TX1 4).2.2.1 ∈ lw_g := a_in (i := 83) rfl rfl
theorem co_X2_colourOf : Cond.code yX2_colourOf cX2_colourOf 3 (some .int) ∈ lw_g := a_in (i := 224) rfl rfl
theorem ml_X2_171 : Cond.methodLink RX2 171 yX2_colourOf ∈ lw_g := a_in (i := 221) rfl rfl
theorem im_X2_colourOf : Cond.instanceMethod yX2_colourOf ∈ lw_g := a_in (i := 223) rfl rfl
theorem se_X2_colourOf : Cond.selects RX2 yX2_colourOf yX2_colourOf ∈ lw_g := a_in (i := 14) rfl rfl
theorem lk_X2_175 : Cond.fieldLink RX2 175 (TX1 6).1 (TX1 6).2.1 (TX1 6).2.2.1 ∈ lw_g := a_in (i := 86) rfl rfl
theorem co_X2_saves : Cond.code yX2_saves cX2_saves 2 (some .boolean) ∈ lw_g := a_in (i := 240) rfl rfl
theorem ml_X2_178 : Cond.methodLink RX2 178 yX2_saves ∈ lw_g := a_in (i := 237) rfl rfl
theorem im_X2_saves : Cond.instanceMethod yX2_saves ∈ lw_g := a_in (i := 239) rfl rfl
theorem se_X2_saves : Cond.selects RX2 yX2_saves yX2_saves ∈ lw_g := a_in (i := 18) rfl rfl
theorem ml_X3_1 : Cond.methodLink RX3 1 objectInit ∈ lw_g := a_in (i := 297) rfl rfl
theorem lk_X3_7 : Cond.fieldLink RX3 7 (TX3 1).1 (TX3 1).2.1 (TX3 1).2.2.1 ∈ lw_g := a_in (i := 299) rfl rfl
theorem lk_X3_13 : Cond.fieldLink RX3 13 (TX3 2).1 (TX3 2).2.1 (TX3 2).2.2.1 ∈ lw_g := a_in (i := 300) rfl rfl
theorem lk_X3_16 : Cond.fieldLink RX3 16 (TX3 3).1 (TX3 3).2.1 (TX3 3).2.2.1 ∈ lw_g := a_in (i := 301) rfl rfl
theorem lk_X3_19 : Cond.fieldLink RX3 19 (TX3 4).1 (TX3 4).2.1 (TX3 4).2.2.1 ∈ lw_g := a_in (i := 302) rfl rfl
theorem lk_X3_22 : Cond.fieldLink RX3 22 (TX3 5).1 (TX3 5).2.1 (TX3 5).2.2.1 ∈ lw_g := a_in (i := 303) rfl rfl
theorem lk_X3_25 : Cond.fieldLink RX3 25 (TX3 6).1 (TX3 6).2.1 (TX3 6).2.2.1 ∈ lw_g := a_in (i := 304) rfl rfl
theorem lk_X3_28 : Cond.fieldLink RX3 28 (TX3 7).1 (TX3 7).2.1 (TX3 7).2.2.1 ∈ lw_g := a_in (i := 305) rfl rfl
theorem lk_X3_31 : Cond.fieldLink RX3 31 (TX3 8).1 (TX3 8).2.1 (TX3 8).2.2.1 ∈ lw_g := a_in (i := 306) rfl rfl
theorem lk_X3_34 : Cond.fieldLink RX3 34 (TX3 9).1 (TX3 9).2.1 (TX3 9).2.2.1 ∈ lw_g := a_in (i := 307) rfl rfl
theorem lk_X3_37 : Cond.fieldLink RX3 37 (TX3 14).1 (TX3 14).2.1 (TX3 14).2.2.1 ∈ lw_g := a_in (i := 312) rfl rfl
theorem lk_X3_40 : Cond.fieldLink RX3 40 (TX3 15).1 (TX3 15).2.1 (TX3 15).2.2.1 ∈ lw_g := a_in (i := 313) rfl rfl
theorem lk_X3_43 : Cond.fieldLink RX3 43 (TX3 16).1 (TX3 16).2.1 (TX3 16).2.2.1 ∈ lw_g := a_in (i := 314) rfl rfl
theorem lk_X3_46 : Cond.fieldLink RX3 46 (TX3 17).1 (TX3 17).2.1 (TX3 17).2.2.1 ∈ lw_g := a_in (i := 315) rfl rfl
theorem lk_X3_49 : Cond.fieldLink RX3 49 (TX3 18).1 (TX3 18).2.1 (TX3 18).2.2.1 ∈ lw_g := a_in (i := 316) rfl rfl
theorem lk_X3_52 : Cond.fieldLink RX3 52 (TX3 22).1 (TX3 22).2.1 (TX3 22).2.2.1 ∈ lw_g := a_in (i := 320) rfl rfl
theorem lk_X3_55 : Cond.fieldLink RX3 55 (TX3 0).1 (TX3 0).2.1 (TX3 0).2.2.1 ∈ lw_g := a_in (i := 298) rfl rfl
theorem co_X3_in : Cond.code yX3_in cX3_in 3 (some .boolean) ∈ lw_g := a_in (i := 380) rfl rfl
theorem ii_X3 : Cond.initialized RX3 ∈ lw_g := a_in (i := 37) rfl rfl
theorem ml_X3_59 : Cond.methodLink RX3 59 yX3_in ∈ lw_g := a_in (i := 378) rfl rfl
theorem st_X3_in : Cond.static yX3_in ∈ lw_g := a_in (i := 379) rfl rfl
theorem lk_X3_63 : Cond.fieldLink RX3 63 (TX3 10).1 (TX3 10).2.1 (TX3 10).2.2.1 ∈ lw_g := a_in (i := 308) rfl rfl
theorem co_X3_isPattern : Cond.code yX3_isPattern cX3_isPattern 2 (some .boolean) ∈ lw_g := a_in (i := 392) rfl rfl
theorem ml_X3_66 : Cond.methodLink RX3 66 yX3_isPattern ∈ lw_g := a_in (i := 389) rfl rfl
theorem im_X3_isPattern : Cond.instanceMethod yX3_isPattern ∈ lw_g := a_in (i := 391) rfl rfl
theorem se_X3_isPattern : Cond.selects RX3 yX3_isPattern yX3_isPattern ∈ lw_g := a_in (i := 21) rfl rfl
theorem co_X3_areThere : Cond.code yX3_areThere cX3_areThere 5 (some .boolean) ∈ lw_g := a_in (i := 388) rfl rfl
theorem ml_X3_70 : Cond.methodLink RX3 70 yX3_areThere ∈ lw_g := a_in (i := 385) rfl rfl
theorem im_X3_areThere : Cond.instanceMethod yX3_areThere ∈ lw_g := a_in (i := 387) rfl rfl
theorem se_X3_areThere : Cond.selects RX3 yX3_areThere yX3_areThere ∈ lw_g := a_in (i := 20) rfl rfl
theorem lk_X3_74 : Cond.fieldLink RX3 74 (TX3 19).1 (TX3 19).2.1 (TX3 19).2.2.1 ∈ lw_g := a_in (i := 317) rfl rfl
theorem lk_X3_77 : Cond.fieldLink RX3 77 (TX3 20).1 (TX3 20).2.1 (TX3 20).2.2.1 ∈ lw_g := a_in (i := 318) rfl rfl
theorem lk_X3_80 : Cond.fieldLink RX3 80 (TX3 13).1 (TX3 13).2.1 (TX3 13).2.2.1 ∈ lw_g := a_in (i := 311) rfl rfl
theorem lk_X3_83 : Cond.fieldLink RX3 83 (TX3 21).1 (TX3 21).2.1 (TX3 21).2.2.1 ∈ lw_g := a_in (i := 319) rfl rfl
theorem co_X3_tells : Cond.code yX3_tells cX3_tells 2 none ∈ lw_g := a_in (i := 420) rfl rfl
theorem ml_X3_86 : Cond.methodLink RX3 86 yX3_tells ∈ lw_g := a_in (i := 417) rfl rfl
theorem im_X3_tells : Cond.instanceMethod yX3_tells ∈ lw_g := a_in (i := 419) rfl rfl
theorem se_X3_tells : Cond.selects RX3 yX3_tells yX3_tells ∈ lw_g := a_in (i := 26) rfl rfl
theorem co_X3_dyeAt : Cond.code yX3_dyeAt cX3_dyeAt 3 (some .int) ∈ lw_g := a_in (i := 424) rfl rfl
theorem ml_X3_90 : Cond.methodLink RX3 90 yX3_dyeAt ∈ lw_g := a_in (i := 421) rfl rfl
theorem im_X3_dyeAt : Cond.instanceMethod yX3_dyeAt ∈ lw_g := a_in (i := 423) rfl rfl
theorem se_X3_dyeAt : Cond.selects RX3 yX3_dyeAt yX3_dyeAt ∈ lw_g := a_in (i := 27) rfl rfl
theorem co_X3_tellsOf : Cond.code yX3_tellsOf cX3_tellsOf 4 none ∈ lw_g := a_in (i := 428) rfl rfl
theorem ml_X3_94 : Cond.methodLink RX3 94 yX3_tellsOf ∈ lw_g := a_in (i := 425) rfl rfl
theorem im_X3_tellsOf : Cond.instanceMethod yX3_tellsOf ∈ lw_g := a_in (i := 427) rfl rfl
theorem se_X3_tellsOf : Cond.selects RX3 yX3_tellsOf yX3_tellsOf ∈ lw_g := a_in (i := 28) rfl rfl
theorem co_X3_quotient : Cond.code yX3_quotient cX3_quotient 2 (some .int) ∈ lw_g := a_in (i := 431) rfl rfl
theorem ml_X3_98 : Cond.methodLink RX3 98 yX3_quotient ∈ lw_g := a_in (i := 429) rfl rfl
theorem st_X3_quotient : Cond.static yX3_quotient ∈ lw_g := a_in (i := 430) rfl rfl
theorem co_X3_push : Cond.code yX3_push cX3_push 4 none ∈ lw_g := a_in (i := 408) rfl rfl
theorem ml_X3_101 : Cond.methodLink RX3 101 yX3_push ∈ lw_g := a_in (i := 405) rfl rfl
theorem im_X3_push : Cond.instanceMethod yX3_push ∈ lw_g := a_in (i := 407) rfl rfl
theorem se_X3_push : Cond.selects RX3 yX3_push yX3_push ∈ lw_g := a_in (i := 23) rfl rfl
theorem co_X3_turned : Cond.code yX3_turned cX3_turned 5 none ∈ lw_g := a_in (i := 439) rfl rfl
theorem ml_X3_104 : Cond.methodLink RX3 104 yX3_turned ∈ lw_g := a_in (i := 436) rfl rfl
theorem im_X3_turned : Cond.instanceMethod yX3_turned ∈ lw_g := a_in (i := 438) rfl rfl
theorem se_X3_turned : Cond.selects RX3 yX3_turned yX3_turned ∈ lw_g := a_in (i := 30) rfl rfl
theorem lk_X3_107 : Cond.fieldLink RX3 107 (TX3 11).1 (TX3 11).2.1 (TX3 11).2.2.1 ∈ lw_g := a_in (i := 309) rfl rfl
theorem lk_X3_110 : Cond.fieldLink RX3 110 (TX3 12).1 (TX3 12).2.1 (TX3 12).2.2.1 ∈ lw_g := a_in (i := 310) rfl rfl
theorem co_X3_falls : Cond.code yX3_falls cX3_falls 3 none ∈ lw_g := a_in (i := 412) rfl rfl
theorem ml_X3_113 : Cond.methodLink RX3 113 yX3_falls ∈ lw_g := a_in (i := 409) rfl rfl
theorem im_X3_falls : Cond.instanceMethod yX3_falls ∈ lw_g := a_in (i := 411) rfl rfl
theorem se_X3_falls : Cond.selects RX3 yX3_falls yX3_falls ∈ lw_g := a_in (i := 24) rfl rfl
theorem co_X3_alone : Cond.code yX3_alone cX3_alone 4 none ∈ lw_g := a_in (i := 416) rfl rfl
theorem ml_X3_116 : Cond.methodLink RX3 116 yX3_alone ∈ lw_g := a_in (i := 413) rfl rfl
theorem im_X3_alone : Cond.instanceMethod yX3_alone ∈ lw_g := a_in (i := 415) rfl rfl
theorem se_X3_alone : Cond.selects RX3 yX3_alone yX3_alone ∈ lw_g := a_in (i := 25) rfl rfl
theorem co_X3_begins : Cond.code yX3_begins cX3_begins 4 none ∈ lw_g := a_in (i := 435) rfl rfl
theorem ml_X3_119 : Cond.methodLink RX3 119 yX3_begins ∈ lw_g := a_in (i := 432) rfl rfl
theorem im_X3_begins : Cond.instanceMethod yX3_begins ∈ lw_g := a_in (i := 434) rfl rfl
theorem se_X3_begins : Cond.selects RX3 yX3_begins yX3_begins ∈ lw_g := a_in (i := 29) rfl rfl
theorem co_X3_goesOn : Cond.code yX3_goesOn cX3_goesOn 6 none ∈ lw_g := a_in (i := 443) rfl rfl
theorem ml_X3_122 : Cond.methodLink RX3 122 yX3_goesOn ∈ lw_g := a_in (i := 440) rfl rfl
theorem im_X3_goesOn : Cond.instanceMethod yX3_goesOn ∈ lw_g := a_in (i := 442) rfl rfl
theorem se_X3_goesOn : Cond.selects RX3 yX3_goesOn yX3_goesOn ∈ lw_g := a_in (i := 31) rfl rfl
theorem co_X3_work : Cond.code yX3_work cX3_work 6 none ∈ lw_g := a_in (i := 404) rfl rfl
theorem ml_X3_126 : Cond.methodLink RX3 126 yX3_work ∈ lw_g := a_in (i := 401) rfl rfl
theorem im_X3_work : Cond.instanceMethod yX3_work ∈ lw_g := a_in (i := 403) rfl rfl
theorem se_X3_work : Cond.selects RX3 yX3_work yX3_work ∈ lw_g := a_in (i := 22) rfl rfl
theorem lk_X3_129 : Cond.fieldLink RX3 129 (TX3 23).1 (TX3 23).2.1 (TX3 23).2.2.1 ∈ lw_g := a_in (i := 321) rfl rfl
theorem lk_X3_132 : Cond.fieldLink RX3 132 (TX3 24).1 (TX3 24).2.1 (TX3 24).2.2.1 ∈ lw_g := a_in (i := 322) rfl rfl
theorem co_X3_manyOf : Cond.code yX3_manyOf cX3_manyOf 4 (some .int) ∈ lw_g := a_in (i := 463) rfl rfl
theorem ml_X3_135 : Cond.methodLink RX3 135 yX3_manyOf ∈ lw_g := a_in (i := 460) rfl rfl
theorem im_X3_manyOf : Cond.instanceMethod yX3_manyOf ∈ lw_g := a_in (i := 462) rfl rfl
theorem se_X3_manyOf : Cond.selects RX3 yX3_manyOf yX3_manyOf ∈ lw_g := a_in (i := 32) rfl rfl
theorem cl_L_7 : Cond.classLink RL 7 RX2 ∈ lw_g := a_in (i := 38) rfl rfl
theorem ia_X2 : Cond.instantiable RX2 10 ∈ lw_g := a_in (i := 39) rfl rfl
theorem co_X2_init : Cond.code yX2_init cX2_init 3 none ∈ lw_g := a_in (i := 42) rfl rfl
theorem ml_L_9 : Cond.methodLink RL 9 yX2_init ∈ lw_g := a_in (i := 40) rfl rfl
theorem im_X2_init : Cond.instanceMethod yX2_init ∈ lw_g := a_in (i := 41) rfl rfl
theorem cl_L_10 : Cond.classLink RL 10 RX3 ∈ lw_g := a_in (i := 292) rfl rfl
theorem ia_X3 : Cond.instantiable RX3 25 ∈ lw_g := a_in (i := 293) rfl rfl
theorem co_X3_init : Cond.code yX3_init cX3_init 2 none ∈ lw_g := a_in (i := 296) rfl rfl
theorem ml_L_12 : Cond.methodLink RL 12 yX3_init ∈ lw_g := a_in (i := 294) rfl rfl
theorem im_X3_init : Cond.instanceMethod yX3_init ∈ lw_g := a_in (i := 295) rfl rfl
theorem co_X2_dye : Cond.code yX2_dye cX2_dye 5 (some .int) ∈ lw_g := a_in (i := 136) rfl rfl
theorem ml_L_13 : Cond.methodLink RL 13 yX2_dye ∈ lw_g := a_in (i := 133) rfl rfl
theorem im_X2_dye : Cond.instanceMethod yX2_dye ∈ lw_g := a_in (i := 134) rfl rfl
theorem se_X2_dye : Cond.selects RX2 yX2_dye yX2_dye ∈ lw_g := a_in (i := 135) rfl rfl
theorem co_X3_dye : Cond.code yX3_dye cX3_dye 5 (some .int) ∈ lw_g := a_in (i := 377) rfl rfl
theorem ml_L_17 : Cond.methodLink RL 17 yX3_dye ∈ lw_g := a_in (i := 374) rfl rfl
theorem im_X3_dye : Cond.instanceMethod yX3_dye ∈ lw_g := a_in (i := 375) rfl rfl
theorem se_X3_dye : Cond.selects RX3 yX3_dye yX3_dye ∈ lw_g := a_in (i := 376) rfl rfl
theorem co_X2_pattern : Cond.code yX2_pattern cX2_pattern 6 (some .int) ∈ lw_g := a_in (i := 143) rfl rfl
theorem ml_L_18 : Cond.methodLink RL 18 yX2_pattern ∈ lw_g := a_in (i := 140) rfl rfl
theorem im_X2_pattern : Cond.instanceMethod yX2_pattern ∈ lw_g := a_in (i := 141) rfl rfl
theorem se_X2_pattern : Cond.selects RX2 yX2_pattern yX2_pattern ∈ lw_g := a_in (i := 142) rfl rfl
theorem co_X3_pattern : Cond.code yX3_pattern cX3_pattern 7 (some .int) ∈ lw_g := a_in (i := 384) rfl rfl
theorem ml_L_22 : Cond.methodLink RL 22 yX3_pattern ∈ lw_g := a_in (i := 381) rfl rfl
theorem im_X3_pattern : Cond.instanceMethod yX3_pattern ∈ lw_g := a_in (i := 382) rfl rfl
theorem se_X3_pattern : Cond.selects RX3 yX3_pattern yX3_pattern ∈ lw_g := a_in (i := 383) rfl rfl
theorem co_X2_name : Cond.code yX2_name cX2_name 4 (some .int) ∈ lw_g := a_in (i := 176) rfl rfl
theorem ml_L_23 : Cond.methodLink RL 23 yX2_name ∈ lw_g := a_in (i := 173) rfl rfl
theorem im_X2_name : Cond.instanceMethod yX2_name ∈ lw_g := a_in (i := 174) rfl rfl
theorem se_X2_name : Cond.selects RX2 yX2_name yX2_name ∈ lw_g := a_in (i := 175) rfl rfl
theorem co_X3_name : Cond.code yX3_name cX3_name 4 (some .int) ∈ lw_g := a_in (i := 396) rfl rfl
theorem ml_L_27 : Cond.methodLink RL 27 yX3_name ∈ lw_g := a_in (i := 393) rfl rfl
theorem im_X3_name : Cond.instanceMethod yX3_name ∈ lw_g := a_in (i := 394) rfl rfl
theorem se_X3_name : Cond.selects RX3 yX3_name yX3_name ∈ lw_g := a_in (i := 395) rfl rfl
theorem co_X2_ask : Cond.code yX2_ask cX2_ask 5 (some .int) ∈ lw_g := a_in (i := 184) rfl rfl
theorem ml_L_28 : Cond.methodLink RL 28 yX2_ask ∈ lw_g := a_in (i := 181) rfl rfl
theorem im_X2_ask : Cond.instanceMethod yX2_ask ∈ lw_g := a_in (i := 182) rfl rfl
theorem se_X2_ask : Cond.selects RX2 yX2_ask yX2_ask ∈ lw_g := a_in (i := 183) rfl rfl
theorem co_X3_ask : Cond.code yX3_ask cX3_ask 4 (some .int) ∈ lw_g := a_in (i := 400) rfl rfl
theorem ml_L_31 : Cond.methodLink RL 31 yX3_ask ∈ lw_g := a_in (i := 397) rfl rfl
theorem im_X3_ask : Cond.instanceMethod yX3_ask ∈ lw_g := a_in (i := 398) rfl rfl
theorem se_X3_ask : Cond.selects RX3 yX3_ask yX3_ask ∈ lw_g := a_in (i := 399) rfl rfl
theorem co_X2_weave : Cond.code yX2_weave cX2_weave 10 (some .int) ∈ lw_g := a_in (i := 244) rfl rfl
theorem ml_L_32 : Cond.methodLink RL 32 yX2_weave ∈ lw_g := a_in (i := 241) rfl rfl
theorem im_X2_weave : Cond.instanceMethod yX2_weave ∈ lw_g := a_in (i := 242) rfl rfl
theorem se_X2_weave : Cond.selects RX2 yX2_weave yX2_weave ∈ lw_g := a_in (i := 243) rfl rfl
theorem co_X3_weave : Cond.code yX3_weave cX3_weave 7 (some .int) ∈ lw_g := a_in (i := 447) rfl rfl
theorem ml_L_36 : Cond.methodLink RL 36 yX3_weave ∈ lw_g := a_in (i := 444) rfl rfl
theorem im_X3_weave : Cond.instanceMethod yX3_weave ∈ lw_g := a_in (i := 445) rfl rfl
theorem se_X3_weave : Cond.selects RX3 yX3_weave yX3_weave ∈ lw_g := a_in (i := 446) rfl rfl
theorem co_X2_cloth : Cond.code yX2_cloth cX2_cloth 2 (some .int) ∈ lw_g := a_in (i := 259) rfl rfl
theorem ml_L_37 : Cond.methodLink RL 37 yX2_cloth ∈ lw_g := a_in (i := 256) rfl rfl
theorem im_X2_cloth : Cond.instanceMethod yX2_cloth ∈ lw_g := a_in (i := 257) rfl rfl
theorem se_X2_cloth : Cond.selects RX2 yX2_cloth yX2_cloth ∈ lw_g := a_in (i := 258) rfl rfl
theorem co_X3_cloth : Cond.code yX3_cloth cX3_cloth 2 (some .int) ∈ lw_g := a_in (i := 451) rfl rfl
theorem ml_L_41 : Cond.methodLink RL 41 yX3_cloth ∈ lw_g := a_in (i := 448) rfl rfl
theorem im_X3_cloth : Cond.instanceMethod yX3_cloth ∈ lw_g := a_in (i := 449) rfl rfl
theorem se_X3_cloth : Cond.selects RX3 yX3_cloth yX3_cloth ∈ lw_g := a_in (i := 450) rfl rfl
theorem co_X2_changes : Cond.code yX2_changes cX2_changes 1 (some .int) ∈ lw_g := a_in (i := 267) rfl rfl
theorem ml_L_42 : Cond.methodLink RL 42 yX2_changes ∈ lw_g := a_in (i := 264) rfl rfl
theorem im_X2_changes : Cond.instanceMethod yX2_changes ∈ lw_g := a_in (i := 265) rfl rfl
theorem se_X2_changes : Cond.selects RX2 yX2_changes yX2_changes ∈ lw_g := a_in (i := 266) rfl rfl
theorem co_X3_changes : Cond.code yX3_changes cX3_changes 3 (some .int) ∈ lw_g := a_in (i := 455) rfl rfl
theorem ml_L_46 : Cond.methodLink RL 46 yX3_changes ∈ lw_g := a_in (i := 452) rfl rfl
theorem im_X3_changes : Cond.instanceMethod yX3_changes ∈ lw_g := a_in (i := 453) rfl rfl
theorem se_X3_changes : Cond.selects RX3 yX3_changes yX3_changes ∈ lw_g := a_in (i := 454) rfl rfl
theorem co_X2_most : Cond.code yX2_most cX2_most 1 (some .int) ∈ lw_g := a_in (i := 275) rfl rfl
theorem ml_L_47 : Cond.methodLink RL 47 yX2_most ∈ lw_g := a_in (i := 272) rfl rfl
theorem im_X2_most : Cond.instanceMethod yX2_most ∈ lw_g := a_in (i := 273) rfl rfl
theorem se_X2_most : Cond.selects RX2 yX2_most yX2_most ∈ lw_g := a_in (i := 274) rfl rfl
theorem co_X3_most : Cond.code yX3_most cX3_most 5 (some .int) ∈ lw_g := a_in (i := 459) rfl rfl
theorem ml_L_50 : Cond.methodLink RL 50 yX3_most ∈ lw_g := a_in (i := 456) rfl rfl
theorem im_X3_most : Cond.instanceMethod yX3_most ∈ lw_g := a_in (i := 457) rfl rfl
theorem se_X3_most : Cond.selects RX3 yX3_most yX3_most ∈ lw_g := a_in (i := 458) rfl rfl
theorem co_X2_why : Cond.code yX2_why cX2_why 1 (some .int) ∈ lw_g := a_in (i := 287) rfl rfl
theorem ml_L_51 : Cond.methodLink RL 51 yX2_why ∈ lw_g := a_in (i := 284) rfl rfl
theorem im_X2_why : Cond.instanceMethod yX2_why ∈ lw_g := a_in (i := 285) rfl rfl
theorem se_X2_why : Cond.selects RX2 yX2_why yX2_why ∈ lw_g := a_in (i := 286) rfl rfl
theorem co_X3_why : Cond.code yX3_why cX3_why 1 (some .int) ∈ lw_g := a_in (i := 467) rfl rfl
theorem ml_L_54 : Cond.methodLink RL 54 yX3_why ∈ lw_g := a_in (i := 464) rfl rfl
theorem im_X3_why : Cond.instanceMethod yX3_why ∈ lw_g := a_in (i := 465) rfl rfl
theorem se_X3_why : Cond.selects RX3 yX3_why yX3_why ∈ lw_g := a_in (i := 466) rfl rfl
theorem co_X2_count : Cond.code yX2_count cX2_count 2 (some .int) ∈ lw_g := a_in (i := 291) rfl rfl
theorem ml_L_55 : Cond.methodLink RL 55 yX2_count ∈ lw_g := a_in (i := 288) rfl rfl
theorem im_X2_count : Cond.instanceMethod yX2_count ∈ lw_g := a_in (i := 289) rfl rfl
theorem se_X2_count : Cond.selects RX2 yX2_count yX2_count ∈ lw_g := a_in (i := 290) rfl rfl
theorem co_X3_count : Cond.code yX3_count cX3_count 2 (some .int) ∈ lw_g := a_in (i := 471) rfl rfl
theorem ml_L_58 : Cond.methodLink RL 58 yX3_count ∈ lw_g := a_in (i := 468) rfl rfl
theorem im_X3_count : Cond.instanceMethod yX3_count ∈ lw_g := a_in (i := 469) rfl rfl
theorem se_X3_count : Cond.selects RX3 yX3_count yX3_count ∈ lw_g := a_in (i := 470) rfl rfl
end
