section
-- ===== PART A: goes FIRST, ahead of the names: the tables' words, and 'selects' of the private methods out of them =====
/-- a private method of a class that the tables say can be made, by its rows of tables_1 -/
def lw_okq (q : MethodName × Nat) : Prop := (q.1.cls ≠ "java/lang/invoke/MethodHandle" ∧ q.1.cls ≠ "java/lang/invoke/VarHandle") ∧ Cond.instantiable q.1.cls q.2 ∈ tables_1 ∧ Cond.privateMethod q.1 ∈ tables_1 ∧ Cond.instanceMethod q.1 ∈ tables_1
theorem lw_p0 : lw_okq (⟨"PatternLoom", "knowsAll", "(IIII)Z"⟩, 10) := ⟨⟨by decide +kernel, by decide +kernel⟩, List.mem_of_getElem? (i := 6) (by decide +kernel), List.mem_of_getElem? (i := 112) (by decide +kernel), List.mem_of_getElem? (i := 113) (by decide +kernel)⟩
theorem lw_p1 : lw_okq (⟨"PatternLoom", "isPattern", "(I)Z"⟩, 10) := ⟨⟨by decide +kernel, by decide +kernel⟩, List.mem_of_getElem? (i := 6) (by decide +kernel), List.mem_of_getElem? (i := 116) (by decide +kernel), List.mem_of_getElem? (i := 117) (by decide +kernel)⟩
theorem lw_p2 : lw_okq (⟨"PatternLoom", "named", "(I)LPatternLoom$Pattern;"⟩, 10) := ⟨⟨by decide +kernel, by decide +kernel⟩, List.mem_of_getElem? (i := 6) (by decide +kernel), List.mem_of_getElem? (i := 126) (by decide +kernel), List.mem_of_getElem? (i := 127) (by decide +kernel)⟩
theorem lw_p3 : lw_okq (⟨"PatternLoom", "rowFor", "(II)[I"⟩, 10) := ⟨⟨by decide +kernel, by decide +kernel⟩, List.mem_of_getElem? (i := 6) (by decide +kernel), List.mem_of_getElem? (i := 130) (by decide +kernel), List.mem_of_getElem? (i := 131) (by decide +kernel)⟩
theorem lw_p4 : lw_okq (⟨"PatternLoom", "numbered", "(I)LPatternLoom$Pattern;"⟩, 10) := ⟨⟨by decide +kernel, by decide +kernel⟩, List.mem_of_getElem? (i := 6) (by decide +kernel), List.mem_of_getElem? (i := 145) (by decide +kernel), List.mem_of_getElem? (i := 146) (by decide +kernel)⟩
theorem lw_p5 : lw_okq (⟨"PatternLoom", "tellPlace", "(LPatternLoom$Pattern;II)I"⟩, 10) := ⟨⟨by decide +kernel, by decide +kernel⟩, List.mem_of_getElem? (i := 6) (by decide +kernel), List.mem_of_getElem? (i := 153) (by decide +kernel), List.mem_of_getElem? (i := 154) (by decide +kernel)⟩
theorem lw_p6 : lw_okq (⟨"PatternLoom", "tell", "(LPatternLoom$Pattern;II)I"⟩, 10) := ⟨⟨by decide +kernel, by decide +kernel⟩, List.mem_of_getElem? (i := 6) (by decide +kernel), List.mem_of_getElem? (i := 157) (by decide +kernel), List.mem_of_getElem? (i := 158) (by decide +kernel)⟩
theorem lw_p7 : lw_okq (⟨"PatternLoom", "fail", "(I)I"⟩, 10) := ⟨⟨by decide +kernel, by decide +kernel⟩, List.mem_of_getElem? (i := 6) (by decide +kernel), List.mem_of_getElem? (i := 161) (by decide +kernel), List.mem_of_getElem? (i := 162) (by decide +kernel)⟩
theorem lw_p8 : lw_okq (⟨"PatternLoom", "tellStripes", "(LPatternLoom$Pattern;I)I"⟩, 10) := ⟨⟨by decide +kernel, by decide +kernel⟩, List.mem_of_getElem? (i := 6) (by decide +kernel), List.mem_of_getElem? (i := 165) (by decide +kernel), List.mem_of_getElem? (i := 166) (by decide +kernel)⟩
theorem lw_p9 : lw_okq (⟨"PatternLoom", "tellTwill", "(LPatternLoom$Pattern;II)I"⟩, 10) := ⟨⟨by decide +kernel, by decide +kernel⟩, List.mem_of_getElem? (i := 6) (by decide +kernel), List.mem_of_getElem? (i := 169) (by decide +kernel), List.mem_of_getElem? (i := 170) (by decide +kernel)⟩
theorem lw_p10 : lw_okq (⟨"PatternLoom", "tellTurned", "(LPatternLoom$Pattern;II)I"⟩, 10) := ⟨⟨by decide +kernel, by decide +kernel⟩, List.mem_of_getElem? (i := 6) (by decide +kernel), List.mem_of_getElem? (i := 173) (by decide +kernel), List.mem_of_getElem? (i := 174) (by decide +kernel)⟩
theorem lw_p11 : lw_okq (⟨"PatternLoom", "tellOver", "(LPatternLoom$Pattern;II)I"⟩, 10) := ⟨⟨by decide +kernel, by decide +kernel⟩, List.mem_of_getElem? (i := 6) (by decide +kernel), List.mem_of_getElem? (i := 177) (by decide +kernel), List.mem_of_getElem? (i := 178) (by decide +kernel)⟩
theorem lw_p12 : lw_okq (⟨"PatternLoom", "tellWhere", "(LPatternLoom$Pattern;II)I"⟩, 10) := ⟨⟨by decide +kernel, by decide +kernel⟩, List.mem_of_getElem? (i := 6) (by decide +kernel), List.mem_of_getElem? (i := 181) (by decide +kernel), List.mem_of_getElem? (i := 182) (by decide +kernel)⟩
theorem lw_p13 : lw_okq (⟨"PatternLoom", "tellDyed", "(LPatternLoom$Pattern;II)I"⟩, 10) := ⟨⟨by decide +kernel, by decide +kernel⟩, List.mem_of_getElem? (i := 6) (by decide +kernel), List.mem_of_getElem? (i := 185) (by decide +kernel), List.mem_of_getElem? (i := 186) (by decide +kernel)⟩
theorem lw_p14 : lw_okq (⟨"PatternLoom", "colourOf", "([II)I"⟩, 10) := ⟨⟨by decide +kernel, by decide +kernel⟩, List.mem_of_getElem? (i := 6) (by decide +kernel), List.mem_of_getElem? (i := 189) (by decide +kernel), List.mem_of_getElem? (i := 190) (by decide +kernel)⟩
theorem lw_p15 : lw_okq (⟨"PatternLoom", "tellWorn", "(LPatternLoom$Pattern;II)I"⟩, 10) := ⟨⟨by decide +kernel, by decide +kernel⟩, List.mem_of_getElem? (i := 6) (by decide +kernel), List.mem_of_getElem? (i := 193) (by decide +kernel), List.mem_of_getElem? (i := 194) (by decide +kernel)⟩
def lw_privs_1 : List (MethodName × Nat) := [(⟨"PatternLoom", "knowsAll", "(IIII)Z"⟩, 10), (⟨"PatternLoom", "isPattern", "(I)Z"⟩, 10), (⟨"PatternLoom", "named", "(I)LPatternLoom$Pattern;"⟩, 10), (⟨"PatternLoom", "rowFor", "(II)[I"⟩, 10), (⟨"PatternLoom", "numbered", "(I)LPatternLoom$Pattern;"⟩, 10), (⟨"PatternLoom", "tellPlace", "(LPatternLoom$Pattern;II)I"⟩, 10), (⟨"PatternLoom", "tell", "(LPatternLoom$Pattern;II)I"⟩, 10), (⟨"PatternLoom", "fail", "(I)I"⟩, 10), (⟨"PatternLoom", "tellStripes", "(LPatternLoom$Pattern;I)I"⟩, 10), (⟨"PatternLoom", "tellTwill", "(LPatternLoom$Pattern;II)I"⟩, 10), (⟨"PatternLoom", "tellTurned", "(LPatternLoom$Pattern;II)I"⟩, 10), (⟨"PatternLoom", "tellOver", "(LPatternLoom$Pattern;II)I"⟩, 10), (⟨"PatternLoom", "tellWhere", "(LPatternLoom$Pattern;II)I"⟩, 10), (⟨"PatternLoom", "tellDyed", "(LPatternLoom$Pattern;II)I"⟩, 10), (⟨"PatternLoom", "colourOf", "([II)I"⟩, 10), (⟨"PatternLoom", "tellWorn", "(LPatternLoom$Pattern;II)I"⟩, 10)]
theorem lw_r1 : ∀ q ∈ lw_privs_1, lw_okq q := List.forall_mem_cons.mpr ⟨lw_p0, List.forall_mem_cons.mpr ⟨lw_p1, List.forall_mem_cons.mpr ⟨lw_p2, List.forall_mem_cons.mpr ⟨lw_p3, List.forall_mem_cons.mpr ⟨lw_p4, List.forall_mem_cons.mpr ⟨lw_p5, List.forall_mem_cons.mpr ⟨lw_p6, List.forall_mem_cons.mpr ⟨lw_p7, List.forall_mem_cons.mpr ⟨lw_p8, List.forall_mem_cons.mpr ⟨lw_p9, List.forall_mem_cons.mpr ⟨lw_p10, List.forall_mem_cons.mpr ⟨lw_p11, List.forall_mem_cons.mpr ⟨lw_p12, List.forall_mem_cons.mpr ⟨lw_p13, List.forall_mem_cons.mpr ⟨lw_p14, List.forall_mem_cons.mpr ⟨lw_p15, fun _ h => absurd h List.not_mem_nil⟩⟩⟩⟩⟩⟩⟩⟩⟩⟩⟩⟩⟩⟩⟩⟩
theorem lw_p16 : lw_okq (⟨"PatternLoom", "tellBoth", "(LPatternLoom$Pattern;II)I"⟩, 10) := ⟨⟨by decide +kernel, by decide +kernel⟩, List.mem_of_getElem? (i := 6) (by decide +kernel), List.mem_of_getElem? (i := 197) (by decide +kernel), List.mem_of_getElem? (i := 198) (by decide +kernel)⟩
theorem lw_p17 : lw_okq (⟨"PatternLoom", "tellSafe", "(LPatternLoom$Pattern;II)I"⟩, 10) := ⟨⟨by decide +kernel, by decide +kernel⟩, List.mem_of_getElem? (i := 6) (by decide +kernel), List.mem_of_getElem? (i := 201) (by decide +kernel), List.mem_of_getElem? (i := 202) (by decide +kernel)⟩
theorem lw_p18 : lw_okq (⟨"PatternLoom", "saves", "(I)Z"⟩, 10) := ⟨⟨by decide +kernel, by decide +kernel⟩, List.mem_of_getElem? (i := 6) (by decide +kernel), List.mem_of_getElem? (i := 205) (by decide +kernel), List.mem_of_getElem? (i := 206) (by decide +kernel)⟩
theorem lw_p19 : lw_okq (⟨"PatternLoom$Cloth", "timesFrom", "(I)I"⟩, 3) := ⟨⟨by decide +kernel, by decide +kernel⟩, List.mem_of_getElem? (i := 18) (by decide +kernel), List.mem_of_getElem? (i := 248) (by decide +kernel), List.mem_of_getElem? (i := 249) (by decide +kernel)⟩
theorem lw_p20 : lw_okq (⟨"PatternLoomModel", "areThere", "(IIII)Z"⟩, 25) := ⟨⟨by decide +kernel, by decide +kernel⟩, List.mem_of_getElem? (i := 260) (by decide +kernel), List.mem_of_getElem? (i := 353) (by decide +kernel), List.mem_of_getElem? (i := 354) (by decide +kernel)⟩
theorem lw_p21 : lw_okq (⟨"PatternLoomModel", "isPattern", "(I)Z"⟩, 25) := ⟨⟨by decide +kernel, by decide +kernel⟩, List.mem_of_getElem? (i := 260) (by decide +kernel), List.mem_of_getElem? (i := 357) (by decide +kernel), List.mem_of_getElem? (i := 358) (by decide +kernel)⟩
theorem lw_p22 : lw_okq (⟨"PatternLoomModel", "work", "(III)V"⟩, 25) := ⟨⟨by decide +kernel, by decide +kernel⟩, List.mem_of_getElem? (i := 260) (by decide +kernel), List.mem_of_getElem? (i := 369) (by decide +kernel), List.mem_of_getElem? (i := 370) (by decide +kernel)⟩
theorem lw_p23 : lw_okq (⟨"PatternLoomModel", "push", "(III)V"⟩, 25) := ⟨⟨by decide +kernel, by decide +kernel⟩, List.mem_of_getElem? (i := 260) (by decide +kernel), List.mem_of_getElem? (i := 373) (by decide +kernel), List.mem_of_getElem? (i := 374) (by decide +kernel)⟩
theorem lw_p24 : lw_okq (⟨"PatternLoomModel", "falls", "()V"⟩, 25) := ⟨⟨by decide +kernel, by decide +kernel⟩, List.mem_of_getElem? (i := 260) (by decide +kernel), List.mem_of_getElem? (i := 377) (by decide +kernel), List.mem_of_getElem? (i := 378) (by decide +kernel)⟩
theorem lw_p25 : lw_okq (⟨"PatternLoomModel", "alone", "(III)V"⟩, 25) := ⟨⟨by decide +kernel, by decide +kernel⟩, List.mem_of_getElem? (i := 260) (by decide +kernel), List.mem_of_getElem? (i := 381) (by decide +kernel), List.mem_of_getElem? (i := 382) (by decide +kernel)⟩
theorem lw_p26 : lw_okq (⟨"PatternLoomModel", "tells", "(I)V"⟩, 25) := ⟨⟨by decide +kernel, by decide +kernel⟩, List.mem_of_getElem? (i := 260) (by decide +kernel), List.mem_of_getElem? (i := 385) (by decide +kernel), List.mem_of_getElem? (i := 386) (by decide +kernel)⟩
theorem lw_p27 : lw_okq (⟨"PatternLoomModel", "dyeAt", "(II)I"⟩, 25) := ⟨⟨by decide +kernel, by decide +kernel⟩, List.mem_of_getElem? (i := 260) (by decide +kernel), List.mem_of_getElem? (i := 389) (by decide +kernel), List.mem_of_getElem? (i := 390) (by decide +kernel)⟩
theorem lw_p28 : lw_okq (⟨"PatternLoomModel", "tellsOf", "(III)V"⟩, 25) := ⟨⟨by decide +kernel, by decide +kernel⟩, List.mem_of_getElem? (i := 260) (by decide +kernel), List.mem_of_getElem? (i := 393) (by decide +kernel), List.mem_of_getElem? (i := 394) (by decide +kernel)⟩
theorem lw_p29 : lw_okq (⟨"PatternLoomModel", "begins", "(III)V"⟩, 25) := ⟨⟨by decide +kernel, by decide +kernel⟩, List.mem_of_getElem? (i := 260) (by decide +kernel), List.mem_of_getElem? (i := 400) (by decide +kernel), List.mem_of_getElem? (i := 401) (by decide +kernel)⟩
theorem lw_p30 : lw_okq (⟨"PatternLoomModel", "turned", "(III)V"⟩, 25) := ⟨⟨by decide +kernel, by decide +kernel⟩, List.mem_of_getElem? (i := 260) (by decide +kernel), List.mem_of_getElem? (i := 404) (by decide +kernel), List.mem_of_getElem? (i := 405) (by decide +kernel)⟩
theorem lw_p31 : lw_okq (⟨"PatternLoomModel", "goesOn", "(II)V"⟩, 25) := ⟨⟨by decide +kernel, by decide +kernel⟩, List.mem_of_getElem? (i := 260) (by decide +kernel), List.mem_of_getElem? (i := 408) (by decide +kernel), List.mem_of_getElem? (i := 409) (by decide +kernel)⟩
def lw_privs_2 : List (MethodName × Nat) := [(⟨"PatternLoom", "tellBoth", "(LPatternLoom$Pattern;II)I"⟩, 10), (⟨"PatternLoom", "tellSafe", "(LPatternLoom$Pattern;II)I"⟩, 10), (⟨"PatternLoom", "saves", "(I)Z"⟩, 10), (⟨"PatternLoom$Cloth", "timesFrom", "(I)I"⟩, 3), (⟨"PatternLoomModel", "areThere", "(IIII)Z"⟩, 25), (⟨"PatternLoomModel", "isPattern", "(I)Z"⟩, 25), (⟨"PatternLoomModel", "work", "(III)V"⟩, 25), (⟨"PatternLoomModel", "push", "(III)V"⟩, 25), (⟨"PatternLoomModel", "falls", "()V"⟩, 25), (⟨"PatternLoomModel", "alone", "(III)V"⟩, 25), (⟨"PatternLoomModel", "tells", "(I)V"⟩, 25), (⟨"PatternLoomModel", "dyeAt", "(II)I"⟩, 25), (⟨"PatternLoomModel", "tellsOf", "(III)V"⟩, 25), (⟨"PatternLoomModel", "begins", "(III)V"⟩, 25), (⟨"PatternLoomModel", "turned", "(III)V"⟩, 25), (⟨"PatternLoomModel", "goesOn", "(II)V"⟩, 25)]
theorem lw_r2 : ∀ q ∈ lw_privs_2, lw_okq q := List.forall_mem_cons.mpr ⟨lw_p16, List.forall_mem_cons.mpr ⟨lw_p17, List.forall_mem_cons.mpr ⟨lw_p18, List.forall_mem_cons.mpr ⟨lw_p19, List.forall_mem_cons.mpr ⟨lw_p20, List.forall_mem_cons.mpr ⟨lw_p21, List.forall_mem_cons.mpr ⟨lw_p22, List.forall_mem_cons.mpr ⟨lw_p23, List.forall_mem_cons.mpr ⟨lw_p24, List.forall_mem_cons.mpr ⟨lw_p25, List.forall_mem_cons.mpr ⟨lw_p26, List.forall_mem_cons.mpr ⟨lw_p27, List.forall_mem_cons.mpr ⟨lw_p28, List.forall_mem_cons.mpr ⟨lw_p29, List.forall_mem_cons.mpr ⟨lw_p30, List.forall_mem_cons.mpr ⟨lw_p31, fun _ h => absurd h List.not_mem_nil⟩⟩⟩⟩⟩⟩⟩⟩⟩⟩⟩⟩⟩⟩⟩⟩
theorem lw_p32 : lw_okq (⟨"PatternLoomModel", "manyOf", "(I)I"⟩, 25) := ⟨⟨by decide +kernel, by decide +kernel⟩, List.mem_of_getElem? (i := 260) (by decide +kernel), List.mem_of_getElem? (i := 428) (by decide +kernel), List.mem_of_getElem? (i := 429) (by decide +kernel)⟩
def lw_privs_3 : List (MethodName × Nat) := [(⟨"PatternLoomModel", "manyOf", "(I)I"⟩, 25)]
theorem lw_r3 : ∀ q ∈ lw_privs_3, lw_okq q := List.forall_mem_cons.mpr ⟨lw_p32, fun _ h => absurd h List.not_mem_nil⟩
def lw_privs : List (MethodName × Nat) := lw_privs_1 ++ (lw_privs_2 ++ (lw_privs_3))
def lw_tbl : List Cond := k2_sels lw_privs ++ tables_1
theorem lw_privs_ok : ∀ q ∈ lw_privs, lw_okq q := by
  show ∀ q ∈ lw_privs_1 ++ (lw_privs_2 ++ (lw_privs_3)), lw_okq q
  exact List.forall_mem_append.mpr ⟨lw_r1, List.forall_mem_append.mpr ⟨lw_r2, lw_r3⟩⟩

def RX0 : String := "PatternLoom$Cloth"
def TX0 : u_T := fun k => match k with
  | 0 => ("PatternLoom$Cloth", "colours", "[I", true)
  | 1 => ("PatternLoom$Cloth", "size", "I", false)
  | _ => ("PatternLoom$Cloth", "width", "I", false)
def tyX0 : Nat → FieldType := fun k => match k with
  | 0 => .array .int
  | 1 => .int
  | _ => .int
abbrev wsX00 : List Cond := u_ws RX0 TX0 3
theorem nmX0 : ∀ a, a < 3 → ∀ b, b < 3 → a ≠ b → (TX0 a).2.1 ≠ (TX0 b).2.1 := by decide +kernel
theorem tyX0_ok : ∀ k, k < 3 → parseFieldDescriptor (TX0 k).2.2.1 = some (tyX0 k) := by decide +kernel
abbrev cX0_init : ByteArray := prog_2_method_1_code
def yX0_init : MethodName := ⟨RX0, "<init>", "()V"⟩
abbrev cX0_begin : ByteArray := prog_2_method_2_code
def yX0_begin : MethodName := ⟨RX0, "begin", "(I)V"⟩
abbrev cX0_add : ByteArray := prog_2_method_3_code
def yX0_add : MethodName := ⟨RX0, "add", "(I)V"⟩
abbrev cX0_colourAt : ByteArray := prog_2_method_4_code
def yX0_colourAt : MethodName := ⟨RX0, "colourAt", "(I)I"⟩
abbrev cX0_changesInRows : ByteArray := prog_2_method_5_code
def yX0_changesInRows : MethodName := ⟨RX0, "changesInRows", "()I"⟩
abbrev cX0_mostOften : ByteArray := prog_2_method_6_code
def yX0_mostOften : MethodName := ⟨RX0, "mostOften", "()I"⟩
abbrev cX0_timesFrom : ByteArray := prog_2_method_7_code
def yX0_timesFrom : MethodName := ⟨RX0, "timesFrom", "(I)I"⟩
def RX1 : String := "PatternLoom$Pattern"
def TX1 : u_T := fun k => match k with
  | 0 => ("PatternLoom$Pattern", "sort", "I", true)
  | 1 => ("PatternLoom$Pattern", "a", "I", true)
  | 2 => ("PatternLoom$Pattern", "b", "I", true)
  | 3 => ("PatternLoom$Pattern", "c", "I", true)
  | 4 => ("PatternLoom$Pattern", "row", "[I", true)
  | 5 => ("PatternLoom$Pattern", "old", "LPatternLoom$Pattern;", true)
  | _ => ("PatternLoom$Pattern", "wear", "I", false)
def tyX1 : Nat → FieldType := fun k => match k with
  | 0 => .int
  | 1 => .int
  | 2 => .int
  | 3 => .int
  | 4 => .array .int
  | 5 => .object "PatternLoom$Pattern"
  | _ => .int
abbrev wsX10 : List Cond := u_ws RX1 TX1 7
theorem nmX1 : ∀ a, a < 7 → ∀ b, b < 7 → a ≠ b → (TX1 a).2.1 ≠ (TX1 b).2.1 := by decide +kernel
theorem tyX1_ok : ∀ k, k < 7 → parseFieldDescriptor (TX1 k).2.2.1 = some (tyX1 k) := by decide +kernel
abbrev cX1_init : ByteArray := prog_3_method_1_code
def yX1_init : MethodName := ⟨RX1, "<init>", "(IIII[ILPatternLoom$Pattern;)V"⟩
def RX2 : String := "PatternLoom"
def TX2 : u_T := fun k => match k with
  | 0 => ("PatternLoom", "dyes", "[[I", true)
  | 1 => ("PatternLoom", "names", "[LPatternLoom$Pattern;", true)
  | 2 => ("PatternLoom", "patterns", "[LPatternLoom$Pattern;", true)
  | 3 => ("PatternLoom", "woven", "LPatternLoom$Cloth;", true)
  | 4 => ("PatternLoom", "patternCount", "I", false)
  | 5 => ("PatternLoom", "reason", "I", false)
  | 6 => ("PatternLoom", "failure", "I", false)
  | 7 => ("PatternLoom", "asked", "I", false)
  | 8 => ("PatternLoom", "saved", "I", false)
  | _ => ("PatternLoom", "wornTold", "I", false)
def tyX2 : Nat → FieldType := fun k => match k with
  | 0 => .array (.array .int)
  | 1 => .array (.object "PatternLoom$Pattern")
  | 2 => .array (.object "PatternLoom$Pattern")
  | 3 => .object "PatternLoom$Cloth"
  | 4 => .int
  | 5 => .int
  | 6 => .int
  | 7 => .int
  | 8 => .int
  | _ => .int
abbrev wsX20 : List Cond := u_ws RX2 TX2 10
theorem nmX2 : ∀ a, a < 10 → ∀ b, b < 10 → a ≠ b → (TX2 a).2.1 ≠ (TX2 b).2.1 := by decide +kernel
theorem tyX2_ok : ∀ k, k < 10 → parseFieldDescriptor (TX2 k).2.2.1 = some (tyX2 k) := by decide +kernel
abbrev cX2_init : ByteArray := prog_1_method_1_code
def yX2_init : MethodName := ⟨RX2, "<init>", "()V"⟩
abbrev cX2_dye : ByteArray := prog_1_method_2_code
def yX2_dye : MethodName := ⟨RX2, "dye", "(III)I"⟩
abbrev cX2_pattern : ByteArray := prog_1_method_3_code
def yX2_pattern : MethodName := ⟨RX2, "pattern", "(IIII)I"⟩
abbrev cX2_name : ByteArray := prog_1_method_4_code
def yX2_name : MethodName := ⟨RX2, "name", "(II)I"⟩
abbrev cX2_ask : ByteArray := prog_1_method_5_code
def yX2_ask : MethodName := ⟨RX2, "ask", "(III)I"⟩
abbrev cX2_weave : ByteArray := prog_1_method_6_code
def yX2_weave : MethodName := ⟨RX2, "weave", "(IIIII)I"⟩
abbrev cX2_cloth : ByteArray := prog_1_method_7_code
def yX2_cloth : MethodName := ⟨RX2, "cloth", "(I)I"⟩
abbrev cX2_changes : ByteArray := prog_1_method_8_code
def yX2_changes : MethodName := ⟨RX2, "changes", "()I"⟩
abbrev cX2_most : ByteArray := prog_1_method_9_code
def yX2_most : MethodName := ⟨RX2, "most", "()I"⟩
abbrev cX2_why : ByteArray := prog_1_method_10_code
def yX2_why : MethodName := ⟨RX2, "why", "()I"⟩
abbrev cX2_count : ByteArray := prog_1_method_11_code
def yX2_count : MethodName := ⟨RX2, "count", "(I)I"⟩
abbrev cX2_isDye : ByteArray := prog_1_method_12_code
def yX2_isDye : MethodName := ⟨RX2, "isDye", "(I)Z"⟩
abbrev cX2_isName : ByteArray := prog_1_method_13_code
def yX2_isName : MethodName := ⟨RX2, "isName", "(I)Z"⟩
abbrev cX2_isSide : ByteArray := prog_1_method_14_code
def yX2_isSide : MethodName := ⟨RX2, "isSide", "(I)Z"⟩
abbrev cX2_isPattern : ByteArray := prog_1_method_15_code
def yX2_isPattern : MethodName := ⟨RX2, "isPattern", "(I)Z"⟩
abbrev cX2_numbered : ByteArray := prog_1_method_16_code
def yX2_numbered : MethodName := ⟨RX2, "numbered", "(I)LPatternLoom$Pattern;"⟩
abbrev cX2_named : ByteArray := prog_1_method_17_code
def yX2_named : MethodName := ⟨RX2, "named", "(I)LPatternLoom$Pattern;"⟩
abbrev cX2_knowsAll : ByteArray := prog_1_method_18_code
def yX2_knowsAll : MethodName := ⟨RX2, "knowsAll", "(IIII)Z"⟩
abbrev cX2_fits : ByteArray := prog_1_method_19_code
def yX2_fits : MethodName := ⟨RX2, "fits", "(II)Z"⟩
abbrev cX2_rowFor : ByteArray := prog_1_method_20_code
def yX2_rowFor : MethodName := ⟨RX2, "rowFor", "(II)[I"⟩
abbrev cX2_tellPlace : ByteArray := prog_1_method_21_code
def yX2_tellPlace : MethodName := ⟨RX2, "tellPlace", "(LPatternLoom$Pattern;II)I"⟩
abbrev cX2_fail : ByteArray := prog_1_method_22_code
def yX2_fail : MethodName := ⟨RX2, "fail", "(I)I"⟩
abbrev cX2_tell : ByteArray := prog_1_method_23_code
def yX2_tell : MethodName := ⟨RX2, "tell", "(LPatternLoom$Pattern;II)I"⟩
abbrev cX2_tellStripes : ByteArray := prog_1_method_24_code
def yX2_tellStripes : MethodName := ⟨RX2, "tellStripes", "(LPatternLoom$Pattern;I)I"⟩
abbrev cX2_tellTwill : ByteArray := prog_1_method_25_code
def yX2_tellTwill : MethodName := ⟨RX2, "tellTwill", "(LPatternLoom$Pattern;II)I"⟩
abbrev cX2_tellTurned : ByteArray := prog_1_method_26_code
def yX2_tellTurned : MethodName := ⟨RX2, "tellTurned", "(LPatternLoom$Pattern;II)I"⟩
abbrev cX2_tellOver : ByteArray := prog_1_method_27_code
def yX2_tellOver : MethodName := ⟨RX2, "tellOver", "(LPatternLoom$Pattern;II)I"⟩
abbrev cX2_tellWhere : ByteArray := prog_1_method_28_code
def yX2_tellWhere : MethodName := ⟨RX2, "tellWhere", "(LPatternLoom$Pattern;II)I"⟩
abbrev cX2_tellDyed : ByteArray := prog_1_method_29_code
def yX2_tellDyed : MethodName := ⟨RX2, "tellDyed", "(LPatternLoom$Pattern;II)I"⟩
abbrev cX2_colourOf : ByteArray := prog_1_method_30_code
def yX2_colourOf : MethodName := ⟨RX2, "colourOf", "([II)I"⟩
abbrev cX2_tellWorn : ByteArray := prog_1_method_31_code
def yX2_tellWorn : MethodName := ⟨RX2, "tellWorn", "(LPatternLoom$Pattern;II)I"⟩
abbrev cX2_tellBoth : ByteArray := prog_1_method_32_code
def yX2_tellBoth : MethodName := ⟨RX2, "tellBoth", "(LPatternLoom$Pattern;II)I"⟩
abbrev cX2_tellSafe : ByteArray := prog_1_method_33_code
def yX2_tellSafe : MethodName := ⟨RX2, "tellSafe", "(LPatternLoom$Pattern;II)I"⟩
abbrev cX2_saves : ByteArray := prog_1_method_34_code
def yX2_saves : MethodName := ⟨RX2, "saves", "(I)Z"⟩
def RX3 : String := "PatternLoomModel"
def TX3 : u_T := fun k => match k with
  | 0 => ("PatternLoomModel", "patterns", "I", false)
  | 1 => ("PatternLoomModel", "sorts", "[I", true)
  | 2 => ("PatternLoomModel", "as", "[I", true)
  | 3 => ("PatternLoomModel", "bs", "[I", true)
  | 4 => ("PatternLoomModel", "cs", "[I", true)
  | 5 => ("PatternLoomModel", "kept", "[I", true)
  | 6 => ("PatternLoomModel", "old", "[I", true)
  | 7 => ("PatternLoomModel", "asks", "[I", true)
  | 8 => ("PatternLoomModel", "dyes", "[I", true)
  | 9 => ("PatternLoomModel", "names", "[I", true)
  | 10 => ("PatternLoomModel", "why", "I", false)
  | 11 => ("PatternLoomModel", "worn", "I", false)
  | 12 => ("PatternLoomModel", "safes", "I", false)
  | 13 => ("PatternLoomModel", "top", "I", false)
  | 14 => ("PatternLoomModel", "pile", "[I", true)
  | 15 => ("PatternLoomModel", "xs", "[I", true)
  | 16 => ("PatternLoomModel", "ys", "[I", true)
  | 17 => ("PatternLoomModel", "stage", "[I", true)
  | 18 => ("PatternLoomModel", "first", "[I", true)
  | 19 => ("PatternLoomModel", "asked", "I", false)
  | 20 => ("PatternLoomModel", "fault", "I", false)
  | 21 => ("PatternLoomModel", "got", "I", false)
  | 22 => ("PatternLoomModel", "cloth", "[I", true)
  | 23 => ("PatternLoomModel", "size", "I", false)
  | _ => ("PatternLoomModel", "wide", "I", false)
def tyX3 : Nat → FieldType := fun k => match k with
  | 0 => .int
  | 1 => .array .int
  | 2 => .array .int
  | 3 => .array .int
  | 4 => .array .int
  | 5 => .array .int
  | 6 => .array .int
  | 7 => .array .int
  | 8 => .array .int
  | 9 => .array .int
  | 10 => .int
  | 11 => .int
  | 12 => .int
  | 13 => .int
  | 14 => .array .int
  | 15 => .array .int
  | 16 => .array .int
  | 17 => .array .int
  | 18 => .array .int
  | 19 => .int
  | 20 => .int
  | 21 => .int
  | 22 => .array .int
  | 23 => .int
  | _ => .int
abbrev wsX30 : List Cond := u_ws RX3 TX3 25
theorem nmX3 : ∀ a, a < 25 → ∀ b, b < 25 → a ≠ b → (TX3 a).2.1 ≠ (TX3 b).2.1 := by decide +kernel
theorem tyX3_ok : ∀ k, k < 25 → parseFieldDescriptor (TX3 k).2.2.1 = some (tyX3 k) := by decide +kernel
abbrev cX3_in : ByteArray := prog_5_method_2_code
def yX3_in : MethodName := ⟨RX3, "in", "(III)Z"⟩
abbrev cX3_init : ByteArray := prog_5_method_3_code
def yX3_init : MethodName := ⟨RX3, "<init>", "()V"⟩
abbrev cX3_isPattern : ByteArray := prog_5_method_4_code
def yX3_isPattern : MethodName := ⟨RX3, "isPattern", "(I)Z"⟩
abbrev cX3_dye : ByteArray := prog_5_method_5_code
def yX3_dye : MethodName := ⟨RX3, "dye", "(III)I"⟩
abbrev cX3_areThere : ByteArray := prog_5_method_6_code
def yX3_areThere : MethodName := ⟨RX3, "areThere", "(IIII)Z"⟩
abbrev cX3_pattern : ByteArray := prog_5_method_7_code
def yX3_pattern : MethodName := ⟨RX3, "pattern", "(IIII)I"⟩
abbrev cX3_name : ByteArray := prog_5_method_8_code
def yX3_name : MethodName := ⟨RX3, "name", "(II)I"⟩
abbrev cX3_push : ByteArray := prog_5_method_9_code
def yX3_push : MethodName := ⟨RX3, "push", "(III)V"⟩
abbrev cX3_tells : ByteArray := prog_5_method_10_code
def yX3_tells : MethodName := ⟨RX3, "tells", "(I)V"⟩
abbrev cX3_tellsOf : ByteArray := prog_5_method_11_code
def yX3_tellsOf : MethodName := ⟨RX3, "tellsOf", "(III)V"⟩
abbrev cX3_dyeAt : ByteArray := prog_5_method_12_code
def yX3_dyeAt : MethodName := ⟨RX3, "dyeAt", "(II)I"⟩
abbrev cX3_alone : ByteArray := prog_5_method_13_code
def yX3_alone : MethodName := ⟨RX3, "alone", "(III)V"⟩
abbrev cX3_quotient : ByteArray := prog_5_method_14_code
def yX3_quotient : MethodName := ⟨RX3, "quotient", "(II)I"⟩
abbrev cX3_turned : ByteArray := prog_5_method_15_code
def yX3_turned : MethodName := ⟨RX3, "turned", "(III)V"⟩
abbrev cX3_begins : ByteArray := prog_5_method_16_code
def yX3_begins : MethodName := ⟨RX3, "begins", "(III)V"⟩
abbrev cX3_goesOn : ByteArray := prog_5_method_17_code
def yX3_goesOn : MethodName := ⟨RX3, "goesOn", "(II)V"⟩
abbrev cX3_falls : ByteArray := prog_5_method_18_code
def yX3_falls : MethodName := ⟨RX3, "falls", "()V"⟩
abbrev cX3_work : ByteArray := prog_5_method_19_code
def yX3_work : MethodName := ⟨RX3, "work", "(III)V"⟩
abbrev cX3_ask : ByteArray := prog_5_method_20_code
def yX3_ask : MethodName := ⟨RX3, "ask", "(III)I"⟩
abbrev cX3_weave : ByteArray := prog_5_method_21_code
def yX3_weave : MethodName := ⟨RX3, "weave", "(IIIII)I"⟩
abbrev cX3_cloth : ByteArray := prog_5_method_22_code
def yX3_cloth : MethodName := ⟨RX3, "cloth", "(I)I"⟩
abbrev cX3_changes : ByteArray := prog_5_method_23_code
def yX3_changes : MethodName := ⟨RX3, "changes", "()I"⟩
abbrev cX3_manyOf : ByteArray := prog_5_method_24_code
def yX3_manyOf : MethodName := ⟨RX3, "manyOf", "(I)I"⟩
abbrev cX3_most : ByteArray := prog_5_method_25_code
def yX3_most : MethodName := ⟨RX3, "most", "()I"⟩
abbrev cX3_why : ByteArray := prog_5_method_26_code
def yX3_why : MethodName := ⟨RX3, "why", "()I"⟩
abbrev cX3_count : ByteArray := prog_5_method_27_code
def yX3_count : MethodName := ⟨RX3, "count", "(I)I"⟩
def RL : String := "PatternLoomLaw"
abbrev cL_law : ByteArray := code
def yL_law : MethodName := ⟨RL, "law", "([I)Z"⟩

abbrev a_cls : List vw_C := [(RX0, TX0, 3), (RX1, TX1, 7), (RX2, TX2, 10), (RX3, TX3, 25)]
end
section
/-! ===== a small abstract machine over handles: values, worlds, rules (own work) ===== -/
/-- the words that hold in every later state too -/
def lw_g : List Cond := lw_tbl.filter goodWord
theorem a_in {i : Nat} {w : Cond} (h : lw_tbl[i]? = some w) (g : goodWord w = true) : w ∈ lw_g := List.mem_filter.mpr ⟨List.mem_of_getElem? h, g⟩
/-- the other words: array classes, a cast, a nest mate's constructor -/
def a_XF (U : State) : Prop := va_AO RX1 U ∧ (Cond.arrayOver (.array .int)).before #[] U = true ∧ va_Nw (.castable "[I" "java/lang/Cloneable") U ∧ va_Nw (.methodLinkNest RX2 25 yX0_init RX2) U
theorem a_over {u U : State} (hvm : u.vm.Alike U.vm) (h : (Cond.arrayOver (.array .int)).before #[] u = true) : (Cond.arrayOver (.array .int)).before #[] U = true := by
  have e1 : (Cond.arrayOver (.array .int)).before #[] (u.setVm U.vm) = (Cond.arrayOver (.array .int)).before #[] u := Cond.arrayOver_setVmC hvm _
  have e2 : (Cond.arrayOver (.array .int)).before #[] (u.setVm U.vm) = (Cond.arrayOver (.array .int)).before #[] U := rfl
  rw [← e2, e1]
  exact h
theorem a_XF.warm {s U : State} (hW : s.WarmedH U.vm) (h : a_XF s) : a_XF U := ⟨h.1.moved hW.alike, a_over hW.alike h.2.1, h.2.2.1.warmC hW, h.2.2.2.warmM hW⟩
theorem a_XF.same {s U : State} (e : s.vm = U.vm) (h : a_XF s) : a_XF U := ⟨h.1.moved (by rw [e]; exact Vm.Alike.refl _), a_over (by rw [e]; exact Vm.Alike.refl _) h.2.1, h.2.2.1.same rfl e, h.2.2.2.same rfl e⟩
abbrev aV : Type := Int32 ⊕ Option Nat
abbrev aS : Type := (Nat → Nat → Int32) × (Nat → Nat → Option Nat) × (Nat → Bool)
abbrev aL : Type := List (Option aV)
abbrev aG : Type := ClassId × ClassId × ClassId
abbrev aC : Type := Nat → aL → List aV → aS → Nat → Nat → Prop
abbrev aT : Type := aC → aL → List aV → aS → Nat → Nat → Prop
abbrev aK : Type := Option aV → aS → Prop
/-- what the static handles are: kind (0..3 an object of that class, 4 ints, 5 Pattern[], 6 int[][]) and size -/
def a_kt : List (Nat × Nat) := [(2, 10), (6, 4), (5, 6), (5, 60), (0, 3), (4, 144), (4, 8), (4, 8), (4, 8), (4, 8), (4, 0), (4, 0), (4, 0), (4, 0), (4, 0), (4, 0), (3, 25), (4, 60), (4, 60), (4, 60), (4, 60), (4, 480), (4, 60), (4, 60), (4, 32), (4, 6), (4, 0), (4, 0), (4, 0), (4, 0), (4, 104), (4, 104), (4, 104), (4, 104), (4, 104), (4, 0), (4, 0), (4, 0), (4, 144)]
def kd (h : Nat) : Nat × Nat := if h < 64 then a_kt.getD h (4, 0) else if h < 128 then (1, 7) else (4, 8)
def a_it : List (List Bool) := [[false, true, true], [true, true, true, true, false, false, true], [false, false, false, false, true, true, true, true, true, true], [true, false, false, false, false, false, false, false, false, false, true, true, true, true, false, false, false, false, false, true, true, true, false, true, true]]
def a_int (ci k : Nat) : Bool := (a_it.getD ci []).getD k true
def a_val (q : Nat → Nat) : aV → Value := fun v => match v with
  | .inl x => .int x
  | .inr r => va_rf (r.map q)
def a_fv (q : Nat → Nat) (σ : aS) (ci h k : Nat) : Value := if a_int ci k = true then .int (σ.1 h k) else va_rf ((σ.2.1 h k).map q)
def a_E (G : aG) (q : Nat → Nat) (σ : aS) (h : Nat) : va_E :=
  if (kd h).1 = 4 then .inl (G.1, (kd h).2, .inl (σ.1 h))
  else if (kd h).1 = 5 then .inl (G.2.1, (kd h).2, .inr (.inr (.inr (.inr (fun i => (σ.2.1 h i).map q)))))
  else if (kd h).1 = 6 then .inl (G.2.2, (kd h).2, .inr (.inr (.inr (.inr (fun i => (σ.2.1 h i).map q)))))
  else .inr ((kd h).1, (List.range (kd h).2).map (a_fv q σ (kd h).1 h))
abbrev a_ty (G : aG) : List (ClassId × FieldType) := [(G.1, .int), (G.2.1, .object RX1), (G.2.2, .array .int)]
def a_R (D : va_G) (G : aG) (N0 : Nat) (q : Nat → Nat) (σ : aS) (H : Heap) : Prop :=
  (∀ h, σ.2.2 h = true → (N0 ≤ q h ∧ h < 256 ∧ h ≠ 63) ∧ va_at D a_cls (q h, a_E G q σ h) H) ∧
  (∀ h h', σ.2.2 h = true → σ.2.2 h' = true → q h = q h' → h = h') ∧
  (∀ h k h', σ.2.2 h = true → σ.2.1 h k = some h' → σ.2.2 h' = true)
def a_ok (σ : aS) (v : aV) : Prop := ∀ h, v = .inr (some h) → (σ.2.2 h = true ∨ h = 63)
def a_ls (q : Nat → Nat) (nL : Nat) (L : aL) (ls : Array Slot) : Prop := ls.size = nL ∧ L.length = nL ∧ lv_wf ls ∧ ∀ (i : Nat) (v : aV), L[i]? = some (some v) → ls[i]? = some (Slot.val (a_val q v))
abbrev a_X : Type := Program × Launch × Env × Room × State × MethodId × Array Value × List Frame × Method × Code × (State → Prop) × va_G × aG × Nat × Nat × (Nat → Nat) × aS
/-- the machine, at pc with locals L, stack st and world σ, comes to its end -/
def a_J : a_X → aC := fun (p, l, e, R, s, m, args, below, meth, c, Q, D, G, N0, nL, q0, σ0) pc L st σ kc ks =>
  ∀ (q : Nat → Nat) (H : Heap) (locs : List Loc) (ls : Array Slot), a_R D G N0 q σ H → a_ls q nL L ls → (∀ (i : Nat) (v : aV), L[i]? = some (some v) → a_ok σ v) → (∀ v ∈ st, a_ok σ v) → va_S (fun a => N0 ≤ a) s.heap H locs → (∀ h, σ0.2.2 h = true ∨ h = 63 → q h = q0 h ∧ (σ0.2.2 h = true → σ.2.2 h = true)) →
    W p l e R s m args below meth c H locs kc ks Q (F0 m pc ls (st.map (a_val q)))
def a_C : a_X → ByteArray → Option FieldType → String → Prop := fun (p, l, e, R, s, m, args, below, meth, c, Q, D, G, N0, nL, q0, σ0) cc rt own =>
  p.tables.exec = Jvm.exec ∧ c.code = cc ∧ c.maxLocals = nL ∧ meth.sig.returnType = rt ∧ meth.locks = false ∧ s.vm.findClass own = some m.cls ∧ (∀ w ∈ lw_g, w.before args s = true) ∧ va_K D a_cls (a_ty G) s ∧ N0 ≤ s.heap.size ∧ a_XF s
def a_Sd (X : a_X) (pc : Nat) (T : aT) : Prop := ∀ (k : aC) (L : aL) (st : List aV) (σ : aS) (kc ks : Nat), T k L st σ kc ks → (∀ pc' L' st' σ' kc' ks', k pc' L' st' σ' kc' ks' → a_J X pc' L' st' σ' kc' ks') → a_J X pc L st σ kc ks
def a_g (b : Bool) (P : Prop) : Prop := match b with
  | true => P
  | false => False
theorem a_gi {b : Bool} {P : Prop} (h : b = true) (p : P) : a_g b P := by subst h; exact p
theorem a_ge {b : Bool} {P : Prop} (h : a_g b P) : b = true ∧ P := by
  cases b
  · exact h.elim
  · exact ⟨rfl, h⟩
def a_wp (P : List (Nat × aT)) (inv : Nat → Option (aL → List aV → aS → Nat → Nat → Prop)) : Nat → aC
  | 0 => fun _ _ _ _ _ _ => False
  | n + 1 => fun pc L st σ kc ks => match inv pc with
    | some I => I L st σ kc ks
    | none => match P.lookup pc with
      | some T => T (a_wp P inv n) L st σ kc ks
      | none => False
theorem a_lk {P : List (Nat × aT)} {pc : Nat} {T : aT} (h : P.lookup pc = some T) : (pc, T) ∈ P := by
  induction P with
  | nil => cases h
  | cons x P ih =>
    obtain ⟨a, b⟩ := x
    rw [List.lookup_cons] at h
    split at h
    · rename_i he
      have : pc = a := by simpa using he
      subst this
      cases h
      exact List.mem_cons_self
    · exact List.mem_cons_of_mem _ (ih h)
theorem a_wps {X : a_X} {P : List (Nat × aT)} {inv : Nat → Option (aL → List aV → aS → Nat → Nat → Prop)} (hS : ∀ x ∈ P, a_Sd X x.1 x.2) (hI : ∀ pc I, inv pc = some I → ∀ L st σ kc ks, I L st σ kc ks → a_J X pc L st σ kc ks) :
    ∀ n pc L st σ kc ks, a_wp P inv n pc L st σ kc ks → a_J X pc L st σ kc ks := by
  intro n
  induction n with
  | zero => intro pc L st σ kc ks h; exact h.elim
  | succ n ih =>
    intro pc L st σ kc ks h
    unfold a_wp at h
    split at h
    · rename_i I hi
      exact hI pc I hi L st σ kc ks h
    · split at h
      · rename_i T hT
        exact hS _ (a_lk hT) _ L st σ kc ks h (fun pc' L' st' σ' kc' ks' h' => ih pc' L' st' σ' kc' ks' h')
      · exact h.elim
/-- the first step from a loop's head, which the list of invariants names -/
theorem a_wp1 {X : a_X} {P : List (Nat × aT)} {inv : Nat → Option (aL → List aV → aS → Nat → Nat → Prop)} (hS : ∀ x ∈ P, a_Sd X x.1 x.2) (hI : ∀ pc I, inv pc = some I → ∀ L st σ kc ks, I L st σ kc ks → a_J X pc L st σ kc ks)
    (n pc : Nat) (T : aT) (hT : P.lookup pc = some T) {L : aL} {st : List aV} {σ : aS} {kc ks : Nat} (h : T (a_wp P inv n) L st σ kc ks) : a_J X pc L st σ kc ks :=
  hS _ (a_lk hT) _ L st σ kc ks h (fun pc' L' st' σ' kc' ks' h' => a_wps hS hI n pc' L' st' σ' kc' ks' h')
/-! the transformers -/
def a_uI (σ : aS) (h k : Nat) (x : Int32) : aS := (fun h' k' => if h' = h ∧ k' = k then x else σ.1 h' k', σ.2)
def a_uF (σ : aS) (h k : Nat) (r : Option Nat) : aS := (σ.1, fun h' k' => if h' = h ∧ k' = k then r else σ.2.1 h' k', σ.2.2)
def t_ic (v : Int32) (n : Nat) : aT := fun k L st σ kc ks => k n L (.inl v :: st) σ kc ks
def t_ild (i n : Nat) : aT := fun k L st σ kc ks => match L.getD i none with
  | some (.inl x) => k n L (.inl x :: st) σ kc ks
  | _ => False
def t_ald (i n : Nat) : aT := fun k L st σ kc ks => match L.getD i none with
  | some (.inr r) => k n L (.inr r :: st) σ kc ks
  | _ => False
def t_ist (i n : Nat) : aT := fun k L st σ kc ks => match st with
  | .inl x :: st' => a_g (decide (i < L.length)) (k n (L.set i (some (.inl x))) st' σ kc ks)
  | _ => False
def t_ast (i n : Nat) : aT := fun k L st σ kc ks => match st with
  | .inr r :: st' => a_g (decide (i < L.length)) (k n (L.set i (some (.inr r))) st' σ kc ks)
  | _ => False
def t_iinc (i : Nat) (d : Int32) (n : Nat) : aT := fun k L st σ kc ks => match L.getD i none with
  | some (.inl x) => k n (L.set i (some (.inl (x + d)))) st σ kc ks
  | _ => False
def t_add (n : Nat) : aT := fun k L st σ kc ks => match st with
  | .inl y :: .inl x :: st' => k n L (.inl (x + y) :: st') σ kc ks
  | _ => False
def t_sub (n : Nat) : aT := fun k L st σ kc ks => match st with
  | .inl y :: .inl x :: st' => k n L (.inl (x - y) :: st') σ kc ks
  | _ => False
def t_mul (n : Nat) : aT := fun k L st σ kc ks => match st with
  | .inl y :: .inl x :: st' => k n L (.inl (x * y) :: st') σ kc ks
  | _ => False
def t_and (n : Nat) : aT := fun k L st σ kc ks => match st with
  | .inl y :: .inl x :: st' => k n L (.inl (x &&& y) :: st') σ kc ks
  | _ => False
def t_neg (n : Nat) : aT := fun k L st σ kc ks => match st with
  | .inl x :: st' => k n L (.inl (-x) :: st') σ kc ks
  | _ => False
def a_rem (x y : Int32) : Int32 := x - x / y * y
def t_div (n : Nat) : aT := fun k L st σ kc ks => match st with
  | .inl y :: .inl x :: st' => ¬ y = 0 ∧ k n L (.inl (x / y) :: st') σ kc ks
  | _ => False
def t_rem (n : Nat) : aT := fun k L st σ kc ks => match st with
  | .inl y :: .inl x :: st' => ¬ y = 0 ∧ k n L (.inl (a_rem x y) :: st') σ kc ks
  | _ => False
def t_dup (n : Nat) : aT := fun k L st σ kc ks => match st with
  | v :: st' => k n L (v :: v :: st') σ kc ks
  | _ => False
def t_dup2 (n : Nat) : aT := fun k L st σ kc ks => match st with
  | v :: w :: st' => k n L (v :: w :: v :: w :: st') σ kc ks
  | _ => False
def t_if (f : Int32 → Prop) (tgt n : Nat) : aT := fun k L st σ kc ks => match st with
  | .inl x :: st' => (f x → k tgt L st' σ kc ks) ∧ (¬ f x → k n L st' σ kc ks)
  | _ => False
def t_ifc (f : Int32 → Int32 → Prop) (tgt n : Nat) : aT := fun k L st σ kc ks => match st with
  | .inl y :: .inl x :: st' => (f x y → k tgt L st' σ kc ks) ∧ (¬ f x y → k n L st' σ kc ks)
  | _ => False
def t_goto (tgt : Nat) : aT := fun k L st σ kc ks => k tgt L st σ kc ks
def t_null (n : Nat) : aT := fun k L st σ kc ks => k n L (.inr none :: st) σ kc ks
def t_ifnull (tgt n : Nat) : aT := fun k L st σ kc ks => match st with
  | .inr r :: st' => (r = none → k tgt L st' σ kc ks) ∧ (¬ r = none → k n L st' σ kc ks)
  | _ => False
def t_ifnn (tgt n : Nat) : aT := fun k L st σ kc ks => match st with
  | .inr r :: st' => (¬ r = none → k tgt L st' σ kc ks) ∧ (r = none → k n L st' σ kc ks)
  | _ => False
def a_sw (k : Nat → Prop) (x : Int32) : List (Int32 × Nat) → Nat → Prop
  | [], d => k d
  | (v, t) :: r, d => (x = v → k t) ∧ (¬ x = v → a_sw k x r d)
def t_sw (ts : List (Int32 × Nat)) (d : Nat) : aT := fun k L st σ kc ks => match st with
  | .inl x :: st' => a_sw (fun n => k n L st' σ kc ks) x ts d
  | _ => False
def a_is (σ : aS) (h ci n : Nat) : Bool := σ.2.2 h && ((kd h).1 == ci && (kd h).2 == n)
def t_geti (ci n j nx : Nat) : aT := fun k L st σ kc ks => match st with
  | .inr (some h) :: st' => a_g (a_is σ h ci n) (k nx L (.inl (σ.1 h j) :: st') σ kc ks)
  | _ => False
def t_getr (ci n j nx : Nat) : aT := fun k L st σ kc ks => match st with
  | .inr (some h) :: st' => a_g (a_is σ h ci n) (k nx L (.inr (σ.2.1 h j) :: st') σ kc ks)
  | _ => False
def t_puti (ci n j nx : Nat) : aT := fun k L st σ kc ks => match st with
  | .inl x :: .inr (some h) :: st' => a_g (a_is σ h ci n) (k nx L st' (a_uI σ h j x) kc ks)
  | _ => False
def t_putr (ci n j nx : Nat) : aT := fun k L st σ kc ks => match st with
  | .inr r :: .inr (some h) :: st' => a_g (a_is σ h ci n) (¬ r = some 63 ∧ k nx L st' (a_uF σ h j r) kc ks)
  | _ => False
def a_isA (σ : aS) (h ci : Nat) : Bool := σ.2.2 h && (kd h).1 == ci
def t_iald (nx : Nat) : aT := fun k L st σ kc ks => match st with
  | .inl i :: .inr (some h) :: st' => a_g (a_isA σ h 4) (vp_in i (kd h).2 ∧ k nx L (.inl (σ.1 h i.toNatClampNeg) :: st') σ kc ks)
  | _ => False
def t_iast (nx : Nat) : aT := fun k L st σ kc ks => match st with
  | .inl x :: .inl i :: .inr (some h) :: st' => a_g (a_isA σ h 4) (vp_in i (kd h).2 ∧ k nx L st' (a_uI σ h i.toNatClampNeg x) kc ks)
  | _ => False
def t_alen (nx : Nat) : aT := fun k L st σ kc ks => match st with
  | .inr (some h) :: st' => a_g (a_isA σ h 4) (k nx L (.inl (Int32.ofNat (kd h).2) :: st') σ kc ks)
  | _ => False
def t_aald (nx : Nat) : aT := fun k L st σ kc ks => match st with
  | .inl i :: .inr (some h) :: st' => a_g (a_isA σ h 5 || a_isA σ h 6) (vp_in i (kd h).2 ∧ k nx L (.inr (σ.2.1 h i.toNatClampNeg) :: st') σ kc ks)
  | _ => False
def t_aast (nx : Nat) : aT := fun k L st σ kc ks => match st with
  | .inr r :: .inl i :: .inr (some h) :: st' => a_g (a_isA σ h 5) (vp_in i (kd h).2 ∧ (∀ h', r = some h' → a_is σ h' 1 7 = true) ∧ k nx L st' (a_uF σ h i.toNatClampNeg r) kc ks)
  | _ => False
end
section
/-! ===== the transformers' soundness: locals, stack, numbers, branches ===== -/
theorem a_cat (q : Nat → Nat) (v : aV) : (a_val q v).category = 1 := by
  cases v with
  | inl x => rfl
  | inr r => cases r <;> rfl
theorem a_okI {σ : aS} {st : List aV} (x : Int32) (h : ∀ v ∈ st, a_ok σ v) : ∀ v ∈ (Sum.inl x :: st : List aV), a_ok σ v := by
  intro v hv
  rcases List.mem_cons.mp hv with rfl | hv
  · intro h' e; cases e
  · exact h v hv
theorem a_okC {σ : aS} {st : List aV} {w : aV} (hw : a_ok σ w) (h : ∀ v ∈ st, a_ok σ v) : ∀ v ∈ (w :: st : List aV), a_ok σ v := by
  intro v hv
  rcases List.mem_cons.mp hv with rfl | hv
  · exact hw
  · exact h v hv
theorem a_okN {σ : aS} : a_ok σ (.inr none) := fun h e => by cases e
theorem a_okT {σ : aS} {st : List aV} {w : aV} (h : ∀ v ∈ (w :: st : List aV), a_ok σ v) : ∀ v ∈ st, a_ok σ v := fun v hv => h v (List.mem_cons_of_mem _ hv)
theorem a_gd {L : aL} {i : Nat} {v : aV} (h : L.getD i none = some v) : L[i]? = some (some v) := by
  rw [List.getD_eq_getElem?_getD] at h
  cases hx : L[i]? with
  | none => rw [hx] at h; cases h
  | some y => rw [hx] at h; exact congrArg some h
def a_lv (q : Nat → Nat) (L : aL) : List (Nat × Value) := (List.range L.length).filterMap (fun i => ((L[i]?).join).map (fun v => (i, a_val q v)))
theorem a_lv_mem {q : Nat → Nat} {L : aL} {i : Nat} {w : Value} : (i, w) ∈ a_lv q L ↔ ∃ v, L[i]? = some (some v) ∧ w = a_val q v := by
  unfold a_lv
  rw [List.mem_filterMap]
  constructor
  · rintro ⟨j, hj, h⟩
    cases hx : (L[j]?).join with
    | none => rw [hx] at h; cases h
    | some v =>
      rw [hx] at h
      have h9 : (j, a_val q v) = (i, w) := Option.some.inj h
      have e1 : j = i := congrArg Prod.fst h9
      have e2 : a_val q v = w := congrArg Prod.snd h9
      subst e1
      refine ⟨v, ?_, e2.symm⟩
      cases hy : L[j]? with
      | none => rw [hy] at hx; cases hx
      | some z => rw [hy] at hx; exact congrArg some hx
  · rintro ⟨v, h, rfl⟩
    exact ⟨i, List.mem_range.mpr (List.getElem?_eq_some_iff.mp h).1, by rw [h]; rfl⟩
theorem a_ls_has {q : Nat → Nat} {nL : Nat} {L : aL} {ls : Array Slot} (h : a_ls q nL L ls) : lv_has ls nL (a_lv q L) := by
  obtain ⟨h1, h2, h3, h4⟩ := h
  refine ⟨h1, h3, fun x hx => ?_⟩
  obtain ⟨i, w⟩ := x
  obtain ⟨v, hv, rfl⟩ := a_lv_mem.mp hx
  exact h4 i v hv
theorem a_ls_st {q : Nat → Nat} {nL : Nat} {L : aL} {ls ls' : Array Slot} {i : Nat} {v : aV} (h : a_ls q nL L ls) (h' : lv_has ls' nL ((i, a_val q v) :: (a_lv q L).filter (fun q => !(q.1 == i) && !(q.1 + 1 == i && q.2.category == 2)))) : a_ls q nL (L.set i (some v)) ls' := by
  obtain ⟨h1, h2, h3, h4⟩ := h
  obtain ⟨g1, g2, g3⟩ := h'
  refine ⟨g1, by rw [List.length_set]; exact h2, g2, fun j w hw => ?_⟩
  rw [List.getElem?_set] at hw
  by_cases hij : i = j
  · subst hij
    rw [if_pos rfl] at hw
    split at hw
    · cases hw
      exact g3 _ List.mem_cons_self
    · cases hw
  · rw [if_neg hij] at hw
    refine g3 (j, a_val q w) (List.mem_cons_of_mem _ (List.mem_filter.mpr ⟨a_lv_mem.mpr ⟨w, hw, rfl⟩, ?_⟩))
    have e1 : (j == i) = false := by simp; exact fun e => hij e.symm
    simp [e1, a_cat]
theorem a_okS {σ : aS} {L : aL} {i : Nat} {v : aV} (h : ∀ (i : Nat) (v : aV), L[i]? = some (some v) → a_ok σ v) (hv : a_ok σ v) : ∀ (j : Nat) (w : aV), (L.set i (some v))[j]? = some (some w) → a_ok σ w := by
  intro j w hw
  rw [List.getElem?_set] at hw
  by_cases hij : i = j
  · rw [if_pos hij] at hw
    split at hw
    · cases hw; exact hv
    · cases hw
  · rw [if_neg hij] at hw
    exact h j w hw
section AP
variable {X : a_X} {cc : ByteArray} {rt : Option FieldType} {own : String} {pc : Nat}
theorem s_ic (C : a_C X cc rt own) {n : Int} {v : Int32} (hd : decode cc pc = .ok (.iconst n, 1)) (hv : Int32.ofInt n = v) : a_Sd X pc (t_ic v (pc + 1)) := by
  obtain ⟨p, l, e, R, s, m, args, below, meth, c, Q, D, G, N0, nL, q0, σ0⟩ := X
  obtain ⟨hx, hb, -⟩ := C
  intro k L st σ kc ks h hk q H locs ls hR hl hL hst hS hq
  exact lv_iconst hx hb hd hv (hk _ _ _ _ _ _ h q H locs ls hR hl hL (a_okI _ hst) hS hq)
theorem s_bi (C : a_C X cc rt own) {n : Int} {v : Int32} (hd : decode cc pc = .ok (.bipush n, 2)) (hv : (Int8.ofInt n).toInt32 = v) : a_Sd X pc (t_ic v (pc + 2)) := by
  obtain ⟨p, l, e, R, s, m, args, below, meth, c, Q, D, G, N0, nL, q0, σ0⟩ := X
  obtain ⟨hx, hb, -⟩ := C
  intro k L st σ kc ks h hk q H locs ls hR hl hL hst hS hq
  exact lv_bipush hx hb hd hv (hk _ _ _ _ _ _ h q H locs ls hR hl hL (a_okI _ hst) hS hq)
theorem s_si (C : a_C X cc rt own) {n : Int} {v : Int32} (hd : decode cc pc = .ok (.sipush n, 3)) (hv : (Int16.ofInt n).toInt32 = v) : a_Sd X pc (t_ic v (pc + 3)) := by
  obtain ⟨p, l, e, R, s, m, args, below, meth, c, Q, D, G, N0, nL, q0, σ0⟩ := X
  obtain ⟨hx, hb, -⟩ := C
  intro k L st σ kc ks h hk q H locs ls hR hl hL hst hS hq
  exact lv_sipush hx hb hd hv (hk _ _ _ _ _ _ h q H locs ls hR hl hL (a_okI _ hst) hS hq)
theorem s_ildn (C : a_C X cc rt own) {f : Fin 4} {i : Nat} (hd : decode cc pc = .ok (.iload_n f, 1)) (hi : (f : Nat) = i) : a_Sd X pc (t_ild i (pc + 1)) := by
  obtain ⟨p, l, e, R, s, m, args, below, meth, c, Q, D, G, N0, nL, q0, σ0⟩ := X
  obtain ⟨hx, hb, -⟩ := C
  intro k L st σ kc ks h hk q H locs ls hR hl hL hst hS hq
  unfold t_ild at h
  split at h
  · rename_i x e
    exact lv_iload_n hx hb hd hi (hl.2.2.2 i _ (a_gd e)) (hk _ _ _ _ _ _ h q H locs ls hR hl hL (a_okI _ hst) hS hq)
  · exact h.elim
theorem s_ild (C : a_C X cc rt own) {i : Nat} (hd : decode cc pc = .ok (.iload i, 2)) : a_Sd X pc (t_ild i (pc + 2)) := by
  obtain ⟨p, l, e, R, s, m, args, below, meth, c, Q, D, G, N0, nL, q0, σ0⟩ := X
  obtain ⟨hx, hb, -⟩ := C
  intro k L st σ kc ks h hk q H locs ls hR hl hL hst hS hq
  unfold t_ild at h
  split at h
  · rename_i x e
    exact lv_iload hx hb hd (hl.2.2.2 i _ (a_gd e)) (hk _ _ _ _ _ _ h q H locs ls hR hl hL (a_okI _ hst) hS hq)
  · exact h.elim
theorem s_aldn (C : a_C X cc rt own) {f : Fin 4} {i : Nat} (hd : decode cc pc = .ok (.aload_n f, 1)) (hi : (f : Nat) = i) : a_Sd X pc (t_ald i (pc + 1)) := by
  obtain ⟨p, l, e, R, s, m, args, below, meth, c, Q, D, G, N0, nL, q0, σ0⟩ := X
  obtain ⟨hx, hb, -⟩ := C
  intro k L st σ kc ks h hk q H locs ls hR hl hL hst hS hq
  unfold t_ald at h
  split at h
  · rename_i r e
    have e1 := hl.2.2.2 i _ (a_gd e)
    have e2 := hk _ _ _ _ _ _ h q H locs ls hR hl hL (a_okC (hL i _ (a_gd e)) hst) hS hq
    cases r with
    | none => exact lv_aload_nN hx hb hd hi e1 e2
    | some y => exact lv_aload_n hx hb hd hi e1 e2
  · exact h.elim
theorem s_ald (C : a_C X cc rt own) {i : Nat} (hd : decode cc pc = .ok (.aload i, 2)) : a_Sd X pc (t_ald i (pc + 2)) := by
  obtain ⟨p, l, e, R, s, m, args, below, meth, c, Q, D, G, N0, nL, q0, σ0⟩ := X
  obtain ⟨hx, hb, -⟩ := C
  intro k L st σ kc ks h hk q H locs ls hR hl hL hst hS hq
  unfold t_ald at h
  split at h
  · rename_i r e
    have e1 := hl.2.2.2 i _ (a_gd e)
    have e2 := hk _ _ _ _ _ _ h q H locs ls hR hl hL (a_okC (hL i _ (a_gd e)) hst) hS hq
    cases r with
    | none => exact lv_aloadN hx hb hd e1 e2
    | some y => exact lv_aload hx hb hd e1 e2
  · exact h.elim
theorem s_istn (C : a_C X cc rt own) {f : Fin 4} {i : Nat} (hd : decode cc pc = .ok (.istore_n f, 1)) (hi : (f : Nat) = i) : a_Sd X pc (t_ist i (pc + 1)) := by
  obtain ⟨p, l, e, R, s, m, args, below, meth, c, Q, D, G, N0, nL, q0, σ0⟩ := X
  obtain ⟨hx, hb, -⟩ := C
  intro k L st σ kc ks h hk q H locs ls hR hl hL hst hS hq
  unfold t_ist at h
  split at h
  · obtain ⟨e, h⟩ := a_ge h
    have hn : i < nL := by rw [← hl.2.1]; exact of_decide_eq_true e
    exact lv_istore_n hx hb hd hi (a_ls_has hl) hn rfl (fun ls' h' => hk _ _ _ _ _ _ h q H locs ls' hR (a_ls_st hl h') (a_okS hL (fun h e => by cases e)) (a_okT hst) hS hq)
  · exact h.elim
theorem s_ist (C : a_C X cc rt own) {i : Nat} (hd : decode cc pc = .ok (.istore i, 2)) : a_Sd X pc (t_ist i (pc + 2)) := by
  obtain ⟨p, l, e, R, s, m, args, below, meth, c, Q, D, G, N0, nL, q0, σ0⟩ := X
  obtain ⟨hx, hb, -⟩ := C
  intro k L st σ kc ks h hk q H locs ls hR hl hL hst hS hq
  unfold t_ist at h
  split at h
  · obtain ⟨e, h⟩ := a_ge h
    have hn : i < nL := by rw [← hl.2.1]; exact of_decide_eq_true e
    exact lv_istore hx hb hd (a_ls_has hl) hn rfl (fun ls' h' => hk _ _ _ _ _ _ h q H locs ls' hR (a_ls_st hl h') (a_okS hL (fun h e => by cases e)) (a_okT hst) hS hq)
  · exact h.elim
theorem s_astn (C : a_C X cc rt own) {f : Fin 4} {i : Nat} (hd : decode cc pc = .ok (.astore_n f, 1)) (hi : (f : Nat) = i) : a_Sd X pc (t_ast i (pc + 1)) := by
  obtain ⟨p, l, e, R, s, m, args, below, meth, c, Q, D, G, N0, nL, q0, σ0⟩ := X
  obtain ⟨hx, hb, -⟩ := C
  intro k L st σ kc ks h hk q H locs ls hR hl hL hst hS hq
  unfold t_ast at h
  split at h
  · rename_i r st'
    obtain ⟨e, h⟩ := a_ge h
    have hn : i < nL := by rw [← hl.2.1]; exact of_decide_eq_true e
    have hv := hst _ List.mem_cons_self
    cases r with
    | none => exact lv_astore_nN hx hb hd hi (a_ls_has hl) hn rfl (fun ls' h' => hk _ _ _ _ _ _ h q H locs ls' hR (a_ls_st (v := .inr none) hl h') (a_okS hL hv) (a_okT hst) hS hq)
    | some y => exact lv_astore_n hx hb hd hi (a_ls_has hl) hn rfl (fun ls' h' => hk _ _ _ _ _ _ h q H locs ls' hR (a_ls_st (v := .inr (some y)) hl h') (a_okS hL hv) (a_okT hst) hS hq)
  · exact h.elim
theorem s_ast (C : a_C X cc rt own) {i : Nat} (hd : decode cc pc = .ok (.astore i, 2)) : a_Sd X pc (t_ast i (pc + 2)) := by
  obtain ⟨p, l, e, R, s, m, args, below, meth, c, Q, D, G, N0, nL, q0, σ0⟩ := X
  obtain ⟨hx, hb, -⟩ := C
  intro k L st σ kc ks h hk q H locs ls hR hl hL hst hS hq
  unfold t_ast at h
  split at h
  · rename_i r st'
    obtain ⟨e, h⟩ := a_ge h
    have hn : i < nL := by rw [← hl.2.1]; exact of_decide_eq_true e
    have hv := hst _ List.mem_cons_self
    cases r with
    | none => exact lv_astoreN hx hb hd (a_ls_has hl) hn rfl (fun ls' h' => hk _ _ _ _ _ _ h q H locs ls' hR (a_ls_st (v := .inr none) hl h') (a_okS hL hv) (a_okT hst) hS hq)
    | some y => exact lv_astore hx hb hd (a_ls_has hl) hn rfl (fun ls' h' => hk _ _ _ _ _ _ h q H locs ls' hR (a_ls_st (v := .inr (some y)) hl h') (a_okS hL hv) (a_okT hst) hS hq)
  · exact h.elim
theorem s_iinc (C : a_C X cc rt own) {i : Nat} {n : Int} {d : Int32} (hd : decode cc pc = .ok (.iinc i n, 3)) (hn : Int32.ofInt n = d) : a_Sd X pc (t_iinc i d (pc + 3)) := by
  obtain ⟨p, l, e, R, s, m, args, below, meth, c, Q, D, G, N0, nL, q0, σ0⟩ := X
  obtain ⟨hx, hb, -⟩ := C
  intro k L st σ kc ks h hk q H locs ls hR hl hL hst hS hq
  unfold t_iinc at h
  split at h
  · rename_i x e
    have e1 := a_gd e
    obtain ⟨j, hj⟩ := List.getElem?_of_mem (a_lv_mem (q := q).mpr ⟨_, e1, rfl⟩)
    have hi : i < nL := by rw [← hl.2.1]; exact (List.getElem?_eq_some_iff.mp e1).1
    exact lv_iinc (k := j) (x := x) (v := x + d) hx hb hd (a_ls_has hl) hj (by rw [hn]) hi rfl (fun ls' h' => hk _ _ _ _ _ _ h q H locs ls' hR (a_ls_st (v := .inl (x + d)) hl h') (a_okS hL (fun h e => by cases e)) hst hS hq)
  · exact h.elim
theorem s_add (C : a_C X cc rt own) (hd : decode cc pc = .ok (.iadd, 1)) : a_Sd X pc (t_add (pc + 1)) := by
  obtain ⟨p, l, e, R, s, m, args, below, meth, c, Q, D, G, N0, nL, q0, σ0⟩ := X
  obtain ⟨hx, hb, -⟩ := C
  intro k L st σ kc ks h hk q H locs ls hR hl hL hst hS hq
  unfold t_add at h
  split at h
  · exact lv_iadd hx hb hd (hk _ _ _ _ _ _ h q H locs ls hR hl hL (a_okI _ (a_okT (a_okT hst))) hS hq)
  · exact h.elim
theorem s_sub (C : a_C X cc rt own) (hd : decode cc pc = .ok (.isub, 1)) : a_Sd X pc (t_sub (pc + 1)) := by
  obtain ⟨p, l, e, R, s, m, args, below, meth, c, Q, D, G, N0, nL, q0, σ0⟩ := X
  obtain ⟨hx, hb, -⟩ := C
  intro k L st σ kc ks h hk q H locs ls hR hl hL hst hS hq
  unfold t_sub at h
  split at h
  · exact lv_isub hx hb hd (hk _ _ _ _ _ _ h q H locs ls hR hl hL (a_okI _ (a_okT (a_okT hst))) hS hq)
  · exact h.elim
theorem s_mul (C : a_C X cc rt own) (hd : decode cc pc = .ok (.imul, 1)) : a_Sd X pc (t_mul (pc + 1)) := by
  obtain ⟨p, l, e, R, s, m, args, below, meth, c, Q, D, G, N0, nL, q0, σ0⟩ := X
  obtain ⟨hx, hb, -⟩ := C
  intro k L st σ kc ks h hk q H locs ls hR hl hL hst hS hq
  unfold t_mul at h
  split at h
  · exact lv_imul hx hb hd (hk _ _ _ _ _ _ h q H locs ls hR hl hL (a_okI _ (a_okT (a_okT hst))) hS hq)
  · exact h.elim
theorem s_and (C : a_C X cc rt own) (hd : decode cc pc = .ok (.iand, 1)) : a_Sd X pc (t_and (pc + 1)) := by
  obtain ⟨p, l, e, R, s, m, args, below, meth, c, Q, D, G, N0, nL, q0, σ0⟩ := X
  obtain ⟨hx, hb, -⟩ := C
  intro k L st σ kc ks h hk q H locs ls hR hl hL hst hS hq
  unfold t_and at h
  split at h
  · exact lv_iand hx hb hd (hk _ _ _ _ _ _ h q H locs ls hR hl hL (a_okI _ (a_okT (a_okT hst))) hS hq)
  · exact h.elim
theorem s_neg (C : a_C X cc rt own) (hd : decode cc pc = .ok (.ineg, 1)) : a_Sd X pc (t_neg (pc + 1)) := by
  obtain ⟨p, l, e, R, s, m, args, below, meth, c, Q, D, G, N0, nL, q0, σ0⟩ := X
  obtain ⟨hx, hb, -⟩ := C
  intro k L st σ kc ks h hk q H locs ls hR hl hL hst hS hq
  unfold t_neg at h
  split at h
  · exact lv_ineg hx hb hd (hk _ _ _ _ _ _ h q H locs ls hR hl hL (a_okI _ (a_okT hst)) hS hq)
  · exact h.elim
theorem s_div (C : a_C X cc rt own) (hd : decode cc pc = .ok (.idiv, 1)) : a_Sd X pc (t_div (pc + 1)) := by
  obtain ⟨p, l, e, R, s, m, args, below, meth, c, Q, D, G, N0, nL, q0, σ0⟩ := X
  obtain ⟨hx, hb, -⟩ := C
  intro k L st σ kc ks h hk q H locs ls hR hl hL hst hS hq
  unfold t_div at h
  split at h
  · exact lv_idiv hx hb hd h.1 (hk _ _ _ _ _ _ h.2 q H locs ls hR hl hL (a_okI _ (a_okT (a_okT hst))) hS hq)
  · exact h.elim
theorem s_rem (C : a_C X cc rt own) (hd : decode cc pc = .ok (.irem, 1)) : a_Sd X pc (t_rem (pc + 1)) := by
  obtain ⟨p, l, e, R, s, m, args, below, meth, c, Q, D, G, N0, nL, q0, σ0⟩ := X
  obtain ⟨hx, hb, -⟩ := C
  intro k L st σ kc ks h hk q H locs ls hR hl hL hst hS hq
  unfold t_rem at h
  split at h
  · exact lv_irem hx hb hd h.1 (hk _ _ _ _ _ _ h.2 q H locs ls hR hl hL (a_okI _ (a_okT (a_okT hst))) hS hq)
  · exact h.elim
theorem s_dup (C : a_C X cc rt own) (hd : decode cc pc = .ok (.dup, 1)) : a_Sd X pc (t_dup (pc + 1)) := by
  obtain ⟨p, l, e, R, s, m, args, below, meth, c, Q, D, G, N0, nL, q0, σ0⟩ := X
  obtain ⟨hx, hb, -⟩ := C
  intro k L st σ kc ks h hk q H locs ls hR hl hL hst hS hq
  unfold t_dup at h
  split at h
  · exact lv_dup hx hb hd (a_cat _ _) (hk _ _ _ _ _ _ h q H locs ls hR hl hL (a_okC (hst _ List.mem_cons_self) hst) hS hq)
  · exact h.elim
theorem s_dup2 (C : a_C X cc rt own) (hd : decode cc pc = .ok (.dup2, 1)) : a_Sd X pc (t_dup2 (pc + 1)) := by
  obtain ⟨p, l, e, R, s, m, args, below, meth, c, Q, D, G, N0, nL, q0, σ0⟩ := X
  obtain ⟨hx, hb, -⟩ := C
  intro k L st σ kc ks h hk q H locs ls hR hl hL hst hS hq
  unfold t_dup2 at h
  split at h
  · exact lv_dup2_11 hx hb hd (a_cat _ _) (a_cat _ _) (hk _ _ _ _ _ _ h q H locs ls hR hl hL (a_okC (hst _ List.mem_cons_self) (a_okC (hst _ (List.mem_cons_of_mem _ List.mem_cons_self)) hst)) hS hq)
  · exact h.elim
theorem s_goto (C : a_C X cc rt own) {off : Int} {tgt : Nat} (hd : decode cc pc = .ok (.goto off, 3)) (ht : (pc : Int) + off = (tgt : Int)) : a_Sd X pc (t_goto tgt) := by
  obtain ⟨p, l, e, R, s, m, args, below, meth, c, Q, D, G, N0, nL, q0, σ0⟩ := X
  obtain ⟨hx, hb, -⟩ := C
  intro k L st σ kc ks h hk q H locs ls hR hl hL hst hS hq
  exact lv_goto hx hb hd ht (hk _ _ _ _ _ _ h q H locs ls hR hl hL hst hS hq)
theorem s_null (C : a_C X cc rt own) (hd : decode cc pc = .ok (.aconst_null, 1)) : a_Sd X pc (t_null (pc + 1)) := by
  obtain ⟨p, l, e, R, s, m, args, below, meth, c, Q, D, G, N0, nL, q0, σ0⟩ := X
  obtain ⟨hx, hb, -⟩ := C
  intro k L st σ kc ks h hk q H locs ls hR hl hL hst hS hq
  exact lv_null hx hb hd (hk _ _ _ _ _ _ h q H locs ls hR hl hL (a_okC a_okN hst) hS hq)
theorem s_ifnull (C : a_C X cc rt own) {off : Int} {tgt : Nat} (hd : decode cc pc = .ok (.ifnull off, 3)) (ht : (pc : Int) + off = (tgt : Int)) : a_Sd X pc (t_ifnull tgt (pc + 3)) := by
  obtain ⟨p, l, e, R, s, m, args, below, meth, c, Q, D, G, N0, nL, q0, σ0⟩ := X
  obtain ⟨hx, hb, -⟩ := C
  intro k L st σ kc ks h hk q H locs ls hR hl hL hst hS hq
  unfold t_ifnull at h
  split at h
  · rename_i r st'
    cases r with
    | none => exact lv_ifnullN hx hb hd ht (hk _ _ _ _ _ _ (h.1 rfl) q H locs ls hR hl hL (a_okT hst) hS hq)
    | some y => exact lv_ifnull hx hb hd (hk _ _ _ _ _ _ (h.2 (fun e => by cases e)) q H locs ls hR hl hL (a_okT hst) hS hq)
  · exact h.elim
theorem s_ifnn (C : a_C X cc rt own) {off : Int} {tgt : Nat} (hd : decode cc pc = .ok (.ifnonnull off, 3)) (ht : (pc : Int) + off = (tgt : Int)) : a_Sd X pc (t_ifnn tgt (pc + 3)) := by
  obtain ⟨p, l, e, R, s, m, args, below, meth, c, Q, D, G, N0, nL, q0, σ0⟩ := X
  obtain ⟨hx, hb, -⟩ := C
  intro k L st σ kc ks h hk q H locs ls hR hl hL hst hS hq
  unfold t_ifnn at h
  split at h
  · rename_i r st'
    cases r with
    | none => exact lv_ifnonnullN hx hb hd (hk _ _ _ _ _ _ (h.2 rfl) q H locs ls hR hl hL (a_okT hst) hS hq)
    | some y => exact lv_ifnonnull hx hb hd ht (hk _ _ _ _ _ _ (h.1 (fun e => by cases e)) q H locs ls hR hl hL (a_okT hst) hS hq)
  · exact h.elim
theorem s_if_eq (C : a_C X cc rt own) {off : Int} {tgt : Nat} (hd : decode cc pc = .ok (.ifCond .eq off, 3)) (ht : (pc : Int) + off = (tgt : Int)) : a_Sd X pc (t_if (fun x => x = 0) tgt (pc + 3)) := by
  obtain ⟨p, l, e, R, s, m, args, below, meth, c, Q, D, G, N0, nL, q0, σ0⟩ := X
  obtain ⟨hx, hb, -⟩ := C
  intro k L st σ kc ks h hk q H locs ls hR hl hL hst hS hq
  unfold t_if at h
  split at h
  · exact lv_if_eq hx hb hd ht (fun w => hk _ _ _ _ _ _ (h.1 w) q H locs ls hR hl hL (a_okT hst) hS hq) (fun w => hk _ _ _ _ _ _ (h.2 w) q H locs ls hR hl hL (a_okT hst) hS hq)
  · exact h.elim
theorem s_if_ne (C : a_C X cc rt own) {off : Int} {tgt : Nat} (hd : decode cc pc = .ok (.ifCond .ne off, 3)) (ht : (pc : Int) + off = (tgt : Int)) : a_Sd X pc (t_if (fun x => x = 0) (pc + 3) tgt) := by
  obtain ⟨p, l, e, R, s, m, args, below, meth, c, Q, D, G, N0, nL, q0, σ0⟩ := X
  obtain ⟨hx, hb, -⟩ := C
  intro k L st σ kc ks h hk q H locs ls hR hl hL hst hS hq
  unfold t_if at h
  split at h
  · exact lv_if_ne hx hb hd ht (fun w => hk _ _ _ _ _ _ (h.2 w) q H locs ls hR hl hL (a_okT hst) hS hq) (fun w => hk _ _ _ _ _ _ (h.1 w) q H locs ls hR hl hL (a_okT hst) hS hq)
  · exact h.elim
theorem s_if_lt (C : a_C X cc rt own) {off : Int} {tgt : Nat} (hd : decode cc pc = .ok (.ifCond .lt off, 3)) (ht : (pc : Int) + off = (tgt : Int)) : a_Sd X pc (t_if (fun x => x < 0) tgt (pc + 3)) := by
  obtain ⟨p, l, e, R, s, m, args, below, meth, c, Q, D, G, N0, nL, q0, σ0⟩ := X
  obtain ⟨hx, hb, -⟩ := C
  intro k L st σ kc ks h hk q H locs ls hR hl hL hst hS hq
  unfold t_if at h
  split at h
  · exact lv_if_lt hx hb hd ht (fun w => hk _ _ _ _ _ _ (h.1 w) q H locs ls hR hl hL (a_okT hst) hS hq) (fun w => hk _ _ _ _ _ _ (h.2 w) q H locs ls hR hl hL (a_okT hst) hS hq)
  · exact h.elim
theorem s_if_ge (C : a_C X cc rt own) {off : Int} {tgt : Nat} (hd : decode cc pc = .ok (.ifCond .ge off, 3)) (ht : (pc : Int) + off = (tgt : Int)) : a_Sd X pc (t_if (fun x => 0 ≤ x) tgt (pc + 3)) := by
  obtain ⟨p, l, e, R, s, m, args, below, meth, c, Q, D, G, N0, nL, q0, σ0⟩ := X
  obtain ⟨hx, hb, -⟩ := C
  intro k L st σ kc ks h hk q H locs ls hR hl hL hst hS hq
  unfold t_if at h
  split at h
  · exact lv_if_ge hx hb hd ht (fun w => hk _ _ _ _ _ _ (h.1 w) q H locs ls hR hl hL (a_okT hst) hS hq) (fun w => hk _ _ _ _ _ _ (h.2 w) q H locs ls hR hl hL (a_okT hst) hS hq)
  · exact h.elim
theorem s_if_gt (C : a_C X cc rt own) {off : Int} {tgt : Nat} (hd : decode cc pc = .ok (.ifCond .gt off, 3)) (ht : (pc : Int) + off = (tgt : Int)) : a_Sd X pc (t_if (fun x => 0 < x) tgt (pc + 3)) := by
  obtain ⟨p, l, e, R, s, m, args, below, meth, c, Q, D, G, N0, nL, q0, σ0⟩ := X
  obtain ⟨hx, hb, -⟩ := C
  intro k L st σ kc ks h hk q H locs ls hR hl hL hst hS hq
  unfold t_if at h
  split at h
  · exact lv_if_gt hx hb hd ht (fun w => hk _ _ _ _ _ _ (h.1 w) q H locs ls hR hl hL (a_okT hst) hS hq) (fun w => hk _ _ _ _ _ _ (h.2 w) q H locs ls hR hl hL (a_okT hst) hS hq)
  · exact h.elim
theorem s_if_le (C : a_C X cc rt own) {off : Int} {tgt : Nat} (hd : decode cc pc = .ok (.ifCond .le off, 3)) (ht : (pc : Int) + off = (tgt : Int)) : a_Sd X pc (t_if (fun x => x ≤ 0) tgt (pc + 3)) := by
  obtain ⟨p, l, e, R, s, m, args, below, meth, c, Q, D, G, N0, nL, q0, σ0⟩ := X
  obtain ⟨hx, hb, -⟩ := C
  intro k L st σ kc ks h hk q H locs ls hR hl hL hst hS hq
  unfold t_if at h
  split at h
  · exact lv_if_le hx hb hd ht (fun w => hk _ _ _ _ _ _ (h.1 w) q H locs ls hR hl hL (a_okT hst) hS hq) (fun w => hk _ _ _ _ _ _ (h.2 w) q H locs ls hR hl hL (a_okT hst) hS hq)
  · exact h.elim
theorem s_icmp_eq (C : a_C X cc rt own) {off : Int} {tgt : Nat} (hd : decode cc pc = .ok (.if_icmp .eq off, 3)) (ht : (pc : Int) + off = (tgt : Int)) : a_Sd X pc (t_ifc (fun x y => x = y) tgt (pc + 3)) := by
  obtain ⟨p, l, e, R, s, m, args, below, meth, c, Q, D, G, N0, nL, q0, σ0⟩ := X
  obtain ⟨hx, hb, -⟩ := C
  intro k L st σ kc ks h hk q H locs ls hR hl hL hst hS hq
  unfold t_ifc at h
  split at h
  · exact lv_icmp_eq hx hb hd ht (fun w => hk _ _ _ _ _ _ (h.1 w) q H locs ls hR hl hL (a_okT (a_okT hst)) hS hq) (fun w => hk _ _ _ _ _ _ (h.2 w) q H locs ls hR hl hL (a_okT (a_okT hst)) hS hq)
  · exact h.elim
theorem s_icmp_ne (C : a_C X cc rt own) {off : Int} {tgt : Nat} (hd : decode cc pc = .ok (.if_icmp .ne off, 3)) (ht : (pc : Int) + off = (tgt : Int)) : a_Sd X pc (t_ifc (fun x y => x = y) (pc + 3) tgt) := by
  obtain ⟨p, l, e, R, s, m, args, below, meth, c, Q, D, G, N0, nL, q0, σ0⟩ := X
  obtain ⟨hx, hb, -⟩ := C
  intro k L st σ kc ks h hk q H locs ls hR hl hL hst hS hq
  unfold t_ifc at h
  split at h
  · exact lv_icmp_ne hx hb hd ht (fun w => hk _ _ _ _ _ _ (h.2 w) q H locs ls hR hl hL (a_okT (a_okT hst)) hS hq) (fun w => hk _ _ _ _ _ _ (h.1 w) q H locs ls hR hl hL (a_okT (a_okT hst)) hS hq)
  · exact h.elim
theorem s_icmp_lt (C : a_C X cc rt own) {off : Int} {tgt : Nat} (hd : decode cc pc = .ok (.if_icmp .lt off, 3)) (ht : (pc : Int) + off = (tgt : Int)) : a_Sd X pc (t_ifc (fun x y => x < y) tgt (pc + 3)) := by
  obtain ⟨p, l, e, R, s, m, args, below, meth, c, Q, D, G, N0, nL, q0, σ0⟩ := X
  obtain ⟨hx, hb, -⟩ := C
  intro k L st σ kc ks h hk q H locs ls hR hl hL hst hS hq
  unfold t_ifc at h
  split at h
  · exact lv_icmp_lt hx hb hd ht (fun w => hk _ _ _ _ _ _ (h.1 w) q H locs ls hR hl hL (a_okT (a_okT hst)) hS hq) (fun w => hk _ _ _ _ _ _ (h.2 w) q H locs ls hR hl hL (a_okT (a_okT hst)) hS hq)
  · exact h.elim
theorem s_icmp_ge (C : a_C X cc rt own) {off : Int} {tgt : Nat} (hd : decode cc pc = .ok (.if_icmp .ge off, 3)) (ht : (pc : Int) + off = (tgt : Int)) : a_Sd X pc (t_ifc (fun x y => y ≤ x) tgt (pc + 3)) := by
  obtain ⟨p, l, e, R, s, m, args, below, meth, c, Q, D, G, N0, nL, q0, σ0⟩ := X
  obtain ⟨hx, hb, -⟩ := C
  intro k L st σ kc ks h hk q H locs ls hR hl hL hst hS hq
  unfold t_ifc at h
  split at h
  · exact lv_icmp_ge hx hb hd ht (fun w => hk _ _ _ _ _ _ (h.1 w) q H locs ls hR hl hL (a_okT (a_okT hst)) hS hq) (fun w => hk _ _ _ _ _ _ (h.2 w) q H locs ls hR hl hL (a_okT (a_okT hst)) hS hq)
  · exact h.elim
theorem s_icmp_gt (C : a_C X cc rt own) {off : Int} {tgt : Nat} (hd : decode cc pc = .ok (.if_icmp .gt off, 3)) (ht : (pc : Int) + off = (tgt : Int)) : a_Sd X pc (t_ifc (fun x y => y < x) tgt (pc + 3)) := by
  obtain ⟨p, l, e, R, s, m, args, below, meth, c, Q, D, G, N0, nL, q0, σ0⟩ := X
  obtain ⟨hx, hb, -⟩ := C
  intro k L st σ kc ks h hk q H locs ls hR hl hL hst hS hq
  unfold t_ifc at h
  split at h
  · exact lv_icmp_gt hx hb hd ht (fun w => hk _ _ _ _ _ _ (h.1 w) q H locs ls hR hl hL (a_okT (a_okT hst)) hS hq) (fun w => hk _ _ _ _ _ _ (h.2 w) q H locs ls hR hl hL (a_okT (a_okT hst)) hS hq)
  · exact h.elim
theorem s_icmp_le (C : a_C X cc rt own) {off : Int} {tgt : Nat} (hd : decode cc pc = .ok (.if_icmp .le off, 3)) (ht : (pc : Int) + off = (tgt : Int)) : a_Sd X pc (t_ifc (fun x y => x ≤ y) tgt (pc + 3)) := by
  obtain ⟨p, l, e, R, s, m, args, below, meth, c, Q, D, G, N0, nL, q0, σ0⟩ := X
  obtain ⟨hx, hb, -⟩ := C
  intro k L st σ kc ks h hk q H locs ls hR hl hL hst hS hq
  unfold t_ifc at h
  split at h
  · exact lv_icmp_le hx hb hd ht (fun w => hk _ _ _ _ _ _ (h.1 w) q H locs ls hR hl hL (a_okT (a_okT hst)) hS hq) (fun w => hk _ _ _ _ _ _ (h.2 w) q H locs ls hR hl hL (a_okT (a_okT hst)) hS hq)
  · exact h.elim
/-- a tableswitch as a list of its cases: vs lists lo, lo + 1, .. with their targets -/
theorem a_sw_at {k : Nat → Prop} {x : Int32} {d : Nat} : ∀ {ts : List (Int32 × Nat)} {t : Nat}, a_sw k x ts d → ts.lookup x = some t → k t
  | [], t, h, e => by cases e
  | (v, t') :: r, t, h, e => by
    rw [List.lookup_cons] at e
    by_cases hv : x = v
    · subst hv
      simp at e
      subst e
      exact h.1 rfl
    · have e2 : (x == v) = false := by simpa using hv
      rw [e2] at e
      exact a_sw_at (h.2 hv) e
theorem a_sw_no {k : Nat → Prop} {x : Int32} {d : Nat} : ∀ {ts : List (Int32 × Nat)}, a_sw k x ts d → ts.lookup x = none → k d
  | [], h, e => h
  | (v, t') :: r, h, e => by
    rw [List.lookup_cons] at e
    by_cases hv : x = v
    · subst hv
      simp at e
    · have e2 : (x == v) = false := by simpa using hv
      rw [e2] at e
      exact a_sw_no (h.2 hv) e
/-- for each int x: which target the table has, said by a program over all cases -/
def a_tok (pc : Nat) (dflt lo hi : Int) (offs : Array Int) (ts : List (Int32 × Nat)) (d : Nat) : Prop :=
  (pc : Int) + dflt = (d : Int) ∧ (∀ x : Int32, (x.toInt < lo ∨ hi < x.toInt) → ts.lookup x = none) ∧ ∀ x : Int32, ¬ x.toInt < lo → ¬ hi < x.toInt → ∃ (off : Int) (t : Nat), offs[(x.toInt - lo).toNat]? = some off ∧ (pc : Int) + off = (t : Int) ∧ ts.lookup x = some t
theorem a_lk_none {x : Int32} {ts : List (Int32 × Nat)} (h : ∀ v ∈ ts.map Prod.fst, ¬ x = v) : ts.lookup x = none := by
  induction ts with
  | nil => rfl
  | cons a r ih =>
    obtain ⟨v, t⟩ := a
    rw [List.lookup_cons]
    have e : (x == v) = false := by simpa using h v List.mem_cons_self
    rw [e]
    exact ih (fun w hw => h w (List.mem_cons_of_mem _ hw))
/-- the table, checked by a program: lo up to hi in n steps -/
theorem a_tok_of {pc : Nat} {dflt lo hi : Int} {offs : Array Int} {ts : List (Int32 × Nat)} {d : Nat} (n : Nat) (h1 : (pc : Int) + dflt = (d : Int)) (hn : hi = lo + n) (hts : ∀ v ∈ ts.map Prod.fst, lo ≤ v.toInt ∧ v.toInt ≤ hi)
    (h2 : ∀ j, j < n + 1 → (∃ off ∈ offs[j]?, ∃ t ∈ ts.lookup (Int32.ofInt (lo + j)), (pc : Int) + off = (t : Int))) : a_tok pc dflt lo hi offs ts d := by
  refine ⟨h1, fun x hx => a_lk_none (fun v hv e => ?_), fun x h3 h4 => ?_⟩
  · have := hts v hv
    subst e
    omega
  · obtain ⟨j, hj⟩ : ∃ j : Nat, x.toInt - lo = j := ⟨(x.toInt - lo).toNat, by omega⟩
    obtain ⟨off, ho, t, ht, h5⟩ := h2 j (by omega)
    have ex : Int32.ofInt (lo + j) = x := by
      rw [← hj, show lo + (x.toInt - lo) = x.toInt by omega]
      exact Int32.ofInt_toInt x
    rw [ex] at ht
    exact ⟨off, t, by rw [hj]; exact ho, h5, ht⟩
theorem s_tsw (C : a_C X cc rt own) {dflt lo hi : Int} {offs : Array Int} {len : Nat} {ts : List (Int32 × Nat)} {d : Nat} (hd : decode cc pc = .ok (.tableswitch dflt lo hi offs, len)) (hT : a_tok pc dflt lo hi offs ts d) : a_Sd X pc (t_sw ts d) := by
  obtain ⟨p, l, e, R, s, m, args, below, meth, c, Q, D, G, N0, nL, q0, σ0⟩ := X
  obtain ⟨hx, hb, -⟩ := C
  intro k L st σ kc ks h hk q H locs ls hR hl hL hst hS hq
  unfold t_sw at h
  split at h
  · rename_i x st'
    obtain ⟨t1, t2, t3⟩ := hT
    by_cases hx1 : x.toInt < lo ∨ hi < x.toInt
    · exact lv_tableOut hx hb hd hx1 t1 (hk _ _ _ _ _ _ (a_sw_no (k := fun n => k n L st' σ kc ks) h (t2 x hx1)) q H locs ls hR hl hL (a_okT hst) hS hq)
    · have h3 : ¬ x.toInt < lo := fun e => hx1 (Or.inl e)
      have h4 : ¬ hi < x.toInt := fun e => hx1 (Or.inr e)
      obtain ⟨off, t, o1, o2, o3⟩ := t3 x h3 h4
      exact lv_tableIn hx hb hd h3 h4 o1 o2 (hk _ _ _ _ _ _ (a_sw_at (k := fun n => k n L st' σ kc ks) h o3) q H locs ls hR hl hL (a_okT hst) hS hq)
  · exact h.elim
/-- a lookupswitch: ps of the code against the cases -/
def a_lok (pc : Nat) (dflt : Int) (ps : List (Int × Int)) (ts : List (Int32 × Nat)) (d : Nat) : Prop := ∀ x : Int32, ∃ t : Nat, (pc : Int) + Op.lookupswitch.offset ps dflt x.toInt = (t : Int) ∧ ∀ k : Nat → Prop, a_sw k x ts d → k t
theorem a_lok_nil {pc : Nat} {dflt : Int} {d : Nat} (h : (pc : Int) + dflt = (d : Int)) : a_lok pc dflt [] [] d := fun x => ⟨d, h, fun k hk => hk⟩
theorem a_lok_cons {pc : Nat} {dflt a o : Int} {ps : List (Int × Int)} {ts : List (Int32 × Nat)} {d t : Nat} {v : Int32} (hv : v.toInt = a) (ht : (pc : Int) + o = (t : Int)) (h : a_lok pc dflt ps ts d) : a_lok pc dflt ((a, o) :: ps) ((v, t) :: ts) d := by
  intro x
  by_cases hx : x = v
  · subst hx
    refine ⟨t, ?_, fun k hk => hk.1 rfl⟩
    rw [Op.lookupswitch.offset_cons, if_pos hv.symm]
    exact ht
  · obtain ⟨t', h1, h2⟩ := h x
    exact ⟨t', by rw [lv_osw hx hv]; exact h1, fun k hk => h2 k (hk.2 hx)⟩
theorem s_lsw (C : a_C X cc rt own) {dflt : Int} {ps : Array (Int × Int)} {len : Nat} {ts : List (Int32 × Nat)} {d : Nat} (hd : decode cc pc = .ok (.lookupswitch dflt ps, len)) (hp : (ps.toList.zip (ps.toList.drop 1)).all (fun (a, next) => a.1 < next.1) = true) (hT : a_lok pc dflt ps.toList ts d) : a_Sd X pc (t_sw ts d) := by
  obtain ⟨p, l, e, R, s, m, args, below, meth, c, Q, D, G, N0, nL, q0, σ0⟩ := X
  obtain ⟨hx, hb, -⟩ := C
  intro k L st σ kc ks h hk q H locs ls hR hl hL hst hS hq
  unfold t_sw at h
  split at h
  · rename_i x st'
    obtain ⟨t, o1, o2⟩ := hT x
    exact lv_lookup hx hb hd hp rfl o1 (hk _ _ _ _ _ _ (o2 (fun n => k n L st' σ kc ks) h) q H locs ls hR hl hL (a_okT hst) hS hq)
  · exact h.elim
end AP
end
section
/-! ===== the transformers' soundness: fields and arrays ===== -/
theorem a_P1 {D : va_G} {cl : List vw_C} {x : Nat × va_E} {H : Heap} (h : va_at D cl x H) : va_P D cl [x] H := by
  intro k y hy
  have hz : k < 1 := (List.getElem?_eq_some_iff.mp hy).1
  rw [show k = 0 by omega] at hy
  cases hy
  exact h
theorem a_isE {σ : aS} {h ci n : Nat} (e : a_is σ h ci n = true) : σ.2.2 h = true ∧ (kd h).1 = ci ∧ (kd h).2 = n := by
  unfold a_is at e
  simp only [Bool.and_eq_true, beq_iff_eq] at e
  exact ⟨e.1, e.2.1, e.2.2⟩
theorem a_isAE {σ : aS} {h ci : Nat} (e : a_isA σ h ci = true) : σ.2.2 h = true ∧ (kd h).1 = ci := by
  unfold a_isA at e
  simp only [Bool.and_eq_true, beq_iff_eq] at e
  exact ⟨e.1, e.2⟩
theorem a_E_o {G : aG} {q : Nat → Nat} {σ : aS} {h ci n : Nat} (h1 : (kd h).1 = ci) (h2 : (kd h).2 = n) (hc : ci < 4) : a_E G q σ h = .inr (ci, (List.range n).map (a_fv q σ ci h)) := by
  unfold a_E
  rw [h1, h2, if_neg (by omega), if_neg (by omega), if_neg (by omega)]
theorem a_E_4 {G : aG} {q : Nat → Nat} {σ : aS} {h : Nat} (h1 : (kd h).1 = 4) : a_E G q σ h = .inl (G.1, (kd h).2, .inl (σ.1 h)) := by
  unfold a_E
  rw [if_pos h1]
theorem a_E_5 {G : aG} {q : Nat → Nat} {σ : aS} {h : Nat} (h1 : (kd h).1 = 5) : a_E G q σ h = .inl (G.2.1, (kd h).2, .inr (.inr (.inr (.inr (fun i => (σ.2.1 h i).map q))))) := by
  unfold a_E
  rw [if_neg (by omega), if_pos h1]
theorem a_E_6 {G : aG} {q : Nat → Nat} {σ : aS} {h : Nat} (h1 : (kd h).1 = 6) : a_E G q σ h = .inl (G.2.2, (kd h).2, .inr (.inr (.inr (.inr (fun i => (σ.2.1 h i).map q))))) := by
  unfold a_E
  rw [if_neg (by omega), if_neg (by omega), if_pos h1]
theorem a_vpV {n j : Nat} {f : Nat → Value} (hj : j < n) : vp_V ((List.range n).map f) j = f j := by
  unfold vp_V
  rw [List.getD_eq_getElem?_getD, List.getElem?_map, List.getElem?_range hj]
  rfl
theorem a_get? {n j : Nat} {f : Nat → Value} (hj : j < n) : ((List.range n).map f)[j]? = some (f j) := by
  rw [List.getElem?_map, List.getElem?_range hj]
  rfl
theorem a_c4 {ci : Nat} {r : vw_C} (h : a_cls[ci]? = some r) : ci < 4 := (List.getElem?_eq_some_iff.mp h).1
theorem a_E_congr {G : aG} {q : Nat → Nat} {σ σ' : aS} {h : Nat} (h1 : σ'.1 h = σ.1 h) (h2 : σ'.2.1 h = σ.2.1 h) : a_E G q σ' h = a_E G q σ h := by
  unfold a_E a_fv
  rw [h1, h2]
theorem a_uI_1 {σ : aS} {h k : Nat} {x : Int32} {h' : Nat} (hn : h' ≠ h) : (a_uI σ h k x).1 h' = σ.1 h' := by
  funext k'
  exact if_neg (fun e => hn e.1)
theorem a_uF_1 {σ : aS} {h k : Nat} {r : Option Nat} {h' : Nat} (hn : h' ≠ h) : (a_uF σ h k r).2.1 h' = σ.2.1 h' := by
  funext k'
  exact if_neg (fun e => hn e.1)
theorem a_R_wr {D : va_G} {G : aG} {N0 : Nat} {q : Nat → Nat} {σ σ' : aS} {H H1 : Heap} {h0 : Nat} (hR : a_R D G N0 q σ H) (hl : σ.2.2 h0 = true) (hlv : σ'.2.2 = σ.2.2) (h1 : ∀ h, h ≠ h0 → σ'.1 h = σ.1 h) (h2 : ∀ h, h ≠ h0 → σ'.2.1 h = σ.2.1 h)
    (hat : va_at D a_cls (q h0, a_E G q σ' h0) H1) (oq : ∀ a, a ≠ q h0 → H1[a]? = H[a]?) (hwf : ∀ k h', σ'.2.1 h0 k = some h' → σ.2.2 h' = true) : a_R D G N0 q σ' H1 := by
  obtain ⟨r1, r2, r3⟩ := hR
  refine ⟨fun h hh => ?_, fun h h' e1 e2 => ?_, fun h k h' e1 e2 => ?_⟩
  · rw [hlv] at hh
    refine ⟨(r1 h hh).1, ?_⟩
    by_cases e : h = h0
    · subst e; exact hat
    · rw [a_E_congr (h1 h e) (h2 h e)]
      exact (r1 h hh).2.kept (oq _ (fun z => e (r2 h h0 hh hl z)))
  · rw [hlv] at e1 e2
    exact r2 h h' e1 e2
  · rw [hlv] at e1 ⊢
    by_cases e : h = h0
    · subst e; exact hwf k h' e2
    · rw [h2 h e] at e2
      exact r3 h k h' e1 e2
theorem a_okM {σ σ' : aS} (hlv : σ'.2.2 = σ.2.2) {st : List aV} (h : ∀ v ∈ st, a_ok σ v) : ∀ v ∈ st, a_ok σ' v := fun v hv h' e => by rw [hlv]; exact h v hv h' e
theorem a_okML {σ σ' : aS} (hlv : σ'.2.2 = σ.2.2) {L : aL} (h : ∀ (i : Nat) (v : aV), L[i]? = some (some v) → a_ok σ v) : ∀ (i : Nat) (v : aV), L[i]? = some (some v) → a_ok σ' v := fun i v hv h' e => by rw [hlv]; exact h i v hv h' e
section AH
variable {p : Program} {l : Launch} {e : Env} {R : Room} {s : State} {m : MethodId} {args : Array Value} {below : List Frame} {meth : Method} {c : Code} {H : Heap} {locs : List Loc} {cells slots : Nat} {Q : State → Prop}
variable {cc : ByteArray} {pc : Nat} {ls : Array Slot} {rest : List Value} {D : va_G} {a : Nat} {tys : List (ClassId × FieldType)}
/-- a field is put, the cell told by its values; all other cells stay -/
theorem a_put1 (hexec : p.tables.exec = Jvm.exec) (hb : c.code = cc) {own C : String} {T : u_T} {N ci index : Nat} (hts : ∀ w ∈ lw_g, w.before args s = true) (hin : ∀ w ∈ u_ws C T N, w ∈ lw_g) (ty0 : Nat → FieldType) (hty : ∀ k, k < N → parseFieldDescriptor (T k).2.2.1 = some (ty0 k)) (hnm : ∀ a, a < N → ∀ b, b < N → a ≠ b → (T a).2.1 ≠ (T b).2.1) (hown : s.vm.findClass own = some m.cls) (hK : va_K D a_cls tys s) {fs : List Value} (he : va_at D a_cls (a, .inr (ci, fs)) H) (hc : a_cls[ci]? = some (C, T, N)) (k : Nat) (hk : k < N) (hlink : (Cond.fieldLink own index (T k).1 (T k).2.1 (T k).2.2.1).before args s = true) (hfin : (T k).2.2.2 = false ∨ ((T k).2.2.2 = true ∧ meth.name = "<init>" ∧ (T k).1 = own)) {v : Value} (hn : narrow (ty0 k) v = v) (hfit : fits (ty0 k) v = true)
    (hdg : decode cc pc = .ok (.putfield index, 3)) (kk : ∀ (H1 : Heap) (j : Nat), t_OB a (D.1 ci) N (D.2 ci) H1 (updV (vp_V fs) k v) → H1.size = H.size → (∀ q, q ≠ a → H1[q]? = H[q]?) → W p l e R s m args below meth c H1 (locs ++ [⟨a, j⟩]) cells slots Q (F0 m (pc + 3) ls rest)) : W p l e R s m args below meth c H locs cells slots Q (F0 m pc ls (v :: .ref a :: rest)) := by
  have hap := va_apart (own := own) hts hin ty0 hty hnm hK hc
  obtain ⟨r, h1, cell, q1, q2, q3, q4⟩ := he
  have hr : r = (C, T, N) := Option.some.inj (h1.symm.trans hc)
  subst hr
  obtain ⟨hS, hfc, kC, hkC, hkind⟩ := hK.1 ci _ hc
  obtain ⟨cf, kf, fi, f, hi, hsl⟩ := hS k hk
  have hlay := hts _ (hin _ (u_in_lay hk))
  unfold u_lay at hlay
  have hst := (u_facts hfc hkC (u_lays hts hin hk) hi).1
  rcases hfin with hfin | ⟨hfin, hin2, hdecl⟩
  · rw [if_neg (by rw [hfin]; decide)] at hlay
    have h6 := u_store hfc hkC hkind hlay hi (hty k hk) hn hfit
    refine W.putK hexec hb (f := f) ⟨hown, hlink, ⟨_, _, _, hi⟩, hst⟩ (by rw [q2]; exact h6) q1 q3 (by rw [hsl]; exact k2_hasslot (q4 k hk)) rfl rfl hdg fun H' e1 e2 e3 => ?_
    rw [hsl] at e1 ⊢
    exact kk H' _ ⟨_, e1, q2, q3, t_set q4 hap hk v⟩ e2 e3
  · rw [if_pos hfin] at hlay
    have hcf : m.cls = cf := by
      obtain ⟨_, _, c', _, _, _, -, -, hf', -, -, -, hown2, -⟩ := Cond.laysFinal_spec hlay
      have e1 : c' = cf := by have := hi.symm.trans hf'; simp at this; exact this.1.symm
      rw [hdecl] at hown2
      rw [← e1]; exact Option.some.inj (hown.symm.trans hown2)
    have h6 := u_fits hfc hkC hkind (Or.inr hlay) hi (hty k hk) hn hfit
    refine W.putFinK hexec hb hown hlink hi hst hcf hin2 (by rw [q2]; exact h6) q1 q3 (by rw [hsl]; exact k2_hasslot (q4 k hk)) rfl rfl hdg fun H' e1 e2 e3 => ?_
    rw [hsl] at e1 ⊢
    exact kk H' _ ⟨_, e1, q2, q3, t_set q4 hap hk v⟩ e2 e3
end AH
section AF
variable {X : a_X} {cc : ByteArray} {rt : Option FieldType} {own : String} {pc : Nat} {ci n j index : Nat} {Cn : String} {T : u_T}
theorem s_geti (C : a_C X cc rt own) (hc : a_cls[ci]? = some (Cn, T, n)) (hin : ∀ w ∈ u_ws Cn T n, w ∈ lw_g) (hj : j < n) (hlink : Cond.fieldLink own index (T j).1 (T j).2.1 (T j).2.2.1 ∈ lw_g) (hi : a_int ci j = true) (hd : decode cc pc = .ok (.getfield index, 3)) : a_Sd X pc (t_geti ci n j (pc + 3)) := by
  obtain ⟨p, l, e, R, s, m, args, below, meth, c, Q, D, G, N0, nL, q0, σ0⟩ := X
  obtain ⟨hx, hb, hml, hr, hlk, hown, hts, hK, hN, hXF⟩ := C
  intro k L st σ kc ks h hk q H locs ls hR hl hL hst hS hq
  unfold t_geti at h
  split at h
  · rename_i hh st'
    obtain ⟨e, h⟩ := a_ge h
    obtain ⟨e1, e2, e3⟩ := a_isE e
    have hat := (hR.1 hh e1).2
    rw [a_E_o e2 e3 (a_c4 hc)] at hat
    refine va_get (D := D) (v := .int (σ.1 hh j)) hx hb hts hin hown hK (a_P1 hat) 0 rfl hc j hj (hts _ hlink) (fun _ h9 => h9) ?_ hd (hk _ _ _ _ _ _ h q H locs ls hR hl hL (a_okI _ (a_okT hst)) hS hq)
    rw [a_get? hj]
    unfold a_fv
    rw [if_pos hi]
  · exact h.elim
theorem s_getr (C : a_C X cc rt own) (hc : a_cls[ci]? = some (Cn, T, n)) (hin : ∀ w ∈ u_ws Cn T n, w ∈ lw_g) (hj : j < n) (hlink : Cond.fieldLink own index (T j).1 (T j).2.1 (T j).2.2.1 ∈ lw_g) (hi : a_int ci j = false) (hd : decode cc pc = .ok (.getfield index, 3)) : a_Sd X pc (t_getr ci n j (pc + 3)) := by
  obtain ⟨p, l, e, R, s, m, args, below, meth, c, Q, D, G, N0, nL, q0, σ0⟩ := X
  obtain ⟨hx, hb, hml, hr, hlk, hown, hts, hK, hN, hXF⟩ := C
  intro k L st σ kc ks h hk q H locs ls hR hl hL hst hS hq
  unfold t_getr at h
  split at h
  · rename_i hh st'
    obtain ⟨e, h⟩ := a_ge h
    obtain ⟨e1, e2, e3⟩ := a_isE e
    have hat := (hR.1 hh e1).2
    rw [a_E_o e2 e3 (a_c4 hc)] at hat
    refine va_get (D := D) (v := va_rf ((σ.2.1 hh j).map q)) hx hb hts hin hown hK (a_P1 hat) 0 rfl hc j hj (hts _ hlink) (fun _ h9 => h9) ?_ hd (hk _ _ _ _ _ _ h q H locs ls hR hl hL (a_okC (fun h' e' => Or.inl (hR.2.2 hh j h' e1 (Sum.inr.inj e'))) (a_okT hst)) hS hq)
    rw [a_get? hj]
    unfold a_fv
    rw [if_neg (by rw [hi]; decide)]
  · exact h.elim
theorem s_puti (C : a_C X cc rt own) (ty0 : Nat → FieldType) (hty : ∀ k, k < n → parseFieldDescriptor (T k).2.2.1 = some (ty0 k)) (hnm : ∀ a, a < n → ∀ b, b < n → a ≠ b → (T a).2.1 ≠ (T b).2.1) (hc : a_cls[ci]? = some (Cn, T, n)) (hin : ∀ w ∈ u_ws Cn T n, w ∈ lw_g) (hj : j < n) (hlink : Cond.fieldLink own index (T j).1 (T j).2.1 (T j).2.2.1 ∈ lw_g) (hi : a_int ci j = true) (hfin : (T j).2.2.2 = false ∨ ((T j).2.2.2 = true ∧ X.2.2.2.2.2.2.2.2.1.name = "<init>" ∧ (T j).1 = own)) (ht : ty0 j = .int) (hd : decode cc pc = .ok (.putfield index, 3)) : a_Sd X pc (t_puti ci n j (pc + 3)) := by
  obtain ⟨p, l, e, R, s, m, args, below, meth, c, Q, D, G, N0, nL, q0, σ0⟩ := X
  obtain ⟨hx, hb, hml, hr, hlk, hown, hts, hK, hN, hXF⟩ := C
  intro k L st σ kc ks h hk q H locs ls hR hl hL hst hS hq
  unfold t_puti at h
  split at h
  · rename_i x hh st'
    obtain ⟨e, h⟩ := a_ge h
    obtain ⟨e1, e2, e3⟩ := a_isE e
    have hat := (hR.1 hh e1).2
    have hA := (hR.1 hh e1).1.1
    rw [a_E_o e2 e3 (a_c4 hc)] at hat
    refine a_put1 hx hb hts hin ty0 hty hnm hown hK hat hc j hj (hts _ hlink) hfin (by rw [ht]; rfl) (by rw [ht]; rfl) hd (fun H1 jj ho z oq => ?_)
    have hlv : (a_uI σ hh j x).2.2 = σ.2.2 := rfl
    refine hk _ _ _ _ _ _ h q H1 _ ls (a_R_wr hR e1 hlv (fun h' hn => a_uI_1 hn) (fun _ _ => rfl) ?_ oq (fun k' h' e' => hR.2.2 hh k' h' e1 e')) hl (a_okML hlv hL) (a_okM hlv (a_okT (a_okT hst))) (hS.put z oq hA) (fun h' w => ⟨(hq h' w).1, (hq h' w).2⟩)
    rw [a_E_o e2 e3 (a_c4 hc)]
    refine ⟨_, hc, ho.to (fun k' hk' => ?_)⟩
    rw [a_vpV hk']
    unfold updV a_fv
    by_cases ek : k' = j
    · subst ek
      rw [if_pos rfl, if_pos hi]
      show Value.int x = Value.int (if _ then _ else _)
      rw [if_pos ⟨rfl, rfl⟩]
    · rw [if_neg ek, a_vpV hk']
      have e9 : (a_uI σ hh j x).1 hh k' = σ.1 hh k' := if_neg (fun e' => ek e'.2)
      rw [e9]
      rfl
  · exact h.elim
theorem s_putr (C : a_C X cc rt own) (ty0 : Nat → FieldType) (hty : ∀ k, k < n → parseFieldDescriptor (T k).2.2.1 = some (ty0 k)) (hnm : ∀ a, a < n → ∀ b, b < n → a ≠ b → (T a).2.1 ≠ (T b).2.1) (hc : a_cls[ci]? = some (Cn, T, n)) (hin : ∀ w ∈ u_ws Cn T n, w ∈ lw_g) (hj : j < n) (hlink : Cond.fieldLink own index (T j).1 (T j).2.1 (T j).2.2.1 ∈ lw_g) (hi : a_int ci j = false) (hfin : (T j).2.2.2 = false ∨ ((T j).2.2.2 = true ∧ X.2.2.2.2.2.2.2.2.1.name = "<init>" ∧ (T j).1 = own)) (ht : (∃ t, ty0 j = .array t) ∨ ∃ t, ty0 j = .object t) (hd : decode cc pc = .ok (.putfield index, 3)) : a_Sd X pc (t_putr ci n j (pc + 3)) := by
  obtain ⟨p, l, e, R, s, m, args, below, meth, c, Q, D, G, N0, nL, q0, σ0⟩ := X
  obtain ⟨hx, hb, hml, hr, hlk, hown, hts, hK, hN, hXF⟩ := C
  intro k L st σ kc ks h hk q H locs ls hR hl hL hst hS hq
  unfold t_putr at h
  split at h
  · rename_i x hh st'
    obtain ⟨e, h⟩ := a_ge h
    obtain ⟨e1, e2, e3⟩ := a_isE e
    have hat := (hR.1 hh e1).2
    have hA := (hR.1 hh e1).1.1
    rw [a_E_o e2 e3 (a_c4 hc)] at hat
    have hv : a_ok σ (.inr x) := hst _ List.mem_cons_self
    refine a_put1 (v := va_rf (x.map q)) hx hb hts hin ty0 hty hnm hown hK hat hc j hj (hts _ hlink) hfin (by rcases ht with ⟨t, ht⟩ | ⟨t, ht⟩ <;> (rw [ht]; cases x <;> rfl)) (by rcases ht with ⟨t, ht⟩ | ⟨t, ht⟩ <;> (rw [ht]; cases x <;> rfl)) hd (fun H1 jj ho z oq => ?_)
    have hlv : (a_uF σ hh j x).2.2 = σ.2.2 := rfl
    refine hk _ _ _ _ _ _ h.2 q H1 _ ls (a_R_wr hR e1 hlv (fun _ _ => rfl) (fun h' hn => a_uF_1 hn) ?_ oq (fun k' h' e' => ?_)) hl (a_okML hlv hL) (a_okM hlv (a_okT (a_okT hst))) (hS.put z oq hA) (fun h' w => ⟨(hq h' w).1, (hq h' w).2⟩)
    · rw [a_E_o e2 e3 (a_c4 hc)]
      refine ⟨_, hc, ho.to (fun k' hk' => ?_)⟩
      rw [a_vpV hk']
      unfold updV a_fv
      by_cases ek : k' = j
      · subst ek
        rw [if_pos rfl, if_neg (by rw [hi]; decide)]
        have e9 : (a_uF σ hh k' x).2.1 hh k' = x := if_pos ⟨rfl, rfl⟩
        rw [e9]
      · rw [if_neg ek, a_vpV hk']
        have e9 : (a_uF σ hh j x).2.1 hh k' = σ.2.1 hh k' := if_neg (fun e' => ek e'.2)
        rw [e9]
        rfl
    · by_cases ek : k' = j
      · have e9 : (a_uF σ hh j x).2.1 hh k' = x := if_pos ⟨rfl, ek⟩
        rw [e9] at e'
        rcases hv h' (by rw [e']) with w | w
        · exact w
        · exact absurd (by rw [e', w]) h.1
      · have e9 : (a_uF σ hh j x).2.1 hh k' = σ.2.1 hh k' := if_neg (fun e' => ek e'.2)
        rw [e9] at e'
        exact hR.2.2 hh k' h' e1 e'
  · exact h.elim
end AF
section AA
variable {X : a_X} {cc : ByteArray} {rt : Option FieldType} {own : String} {pc : Nat}
theorem s_iald (C : a_C X cc rt own) (hd : decode cc pc = .ok (.iaload, 1)) : a_Sd X pc (t_iald (pc + 1)) := by
  obtain ⟨p, l, e, R, s, m, args, below, meth, c, Q, D, G, N0, nL, q0, σ0⟩ := X
  obtain ⟨hx, hb, hml, hr, hlk, hown, hts, hK, hN, hXF⟩ := C
  intro k L st σ kc ks h hk q H locs ls hR hl hL hst hS hq
  unfold t_iald at h
  split at h
  · rename_i i hh st'
    obtain ⟨e, h⟩ := a_ge h
    obtain ⟨e1, e2⟩ := a_isAE e
    have hat := (hR.1 hh e1).2
    rw [a_E_4 e2] at hat
    exact va_iald (D := D) hx hb hK (a_P1 hat) 0 0 rfl rfl h.1 hd (hk _ _ _ _ _ _ h.2 q H locs ls hR hl hL (a_okI _ (a_okT (a_okT hst))) hS hq)
  · exact h.elim
theorem s_alen (C : a_C X cc rt own) (hd : decode cc pc = .ok (.arraylength, 1)) : a_Sd X pc (t_alen (pc + 1)) := by
  obtain ⟨p, l, e, R, s, m, args, below, meth, c, Q, D, G, N0, nL, q0, σ0⟩ := X
  obtain ⟨hx, hb, hml, hr, hlk, hown, hts, hK, hN, hXF⟩ := C
  intro k L st σ kc ks h hk q H locs ls hR hl hL hst hS hq
  unfold t_alen at h
  split at h
  · rename_i hh st'
    obtain ⟨e, h⟩ := a_ge h
    obtain ⟨e1, e2⟩ := a_isAE e
    have hat := (hR.1 hh e1).2
    rw [a_E_4 e2] at hat
    exact va_alen (D := D) hx hb hK (a_P1 hat) 0 0 rfl rfl rfl hd (hk _ _ _ _ _ _ h q H locs ls hR hl hL (a_okI _ (a_okT hst)) hS hq)
  · exact h.elim
theorem s_iast (C : a_C X cc rt own) (hd : decode cc pc = .ok (.iastore, 1)) : a_Sd X pc (t_iast (pc + 1)) := by
  obtain ⟨p, l, e, R, s, m, args, below, meth, c, Q, D, G, N0, nL, q0, σ0⟩ := X
  obtain ⟨hx, hb, hml, hr, hlk, hown, hts, hK, hN, hXF⟩ := C
  intro k L st σ kc ks h hk q H locs ls hR hl hL hst hS hq
  unfold t_iast at h
  split at h
  · rename_i x i hh st'
    obtain ⟨e, h⟩ := a_ge h
    obtain ⟨e1, e2⟩ := a_isAE e
    have hat := (hR.1 hh e1).2
    have hA := (hR.1 hh e1).1.1
    rw [a_E_4 e2] at hat
    refine W.iast hx hb hat ((hK.2 0 _ rfl).1 _ (fun j => .int (σ.1 hh j))) (fun q => by cases q) (by show ¬ (i < 0 ∨ (arrV _ _ _).slots.size ≤ _); rw [arrV_size]; exact h.1) rfl rfl hd fun H1 e9 z oq => ?_
    have hlv : (a_uI σ hh i.toNatClampNeg x).2.2 = σ.2.2 := rfl
    refine hk _ _ _ _ _ _ h.2 q H1 _ ls (a_R_wr hR e1 hlv (fun h' hn => a_uI_1 hn) (fun _ _ => rfl) ?_ oq (fun k' h' e' => hR.2.2 hh k' h' e1 e')) hl (a_okML hlv hL) (a_okM hlv (a_okT (a_okT (a_okT hst)))) (hS.put z oq hA) (fun h' w => ⟨(hq h' w).1, (hq h' w).2⟩)
    rw [a_E_4 e2]
    show H1[q hh]? = some (vp_cell _ _)
    rw [e9, vp_cell_i, vp_cell_i, arrV_store]
    congr 2
    funext y
    unfold updV
    by_cases hy : y = i.toNatClampNeg
    · subst hy
      rw [if_pos rfl]
      exact congrArg Value.int (if_pos ⟨rfl, rfl⟩).symm
    · rw [if_neg hy]
      exact congrArg Value.int (if_neg (fun e' => hy e'.2)).symm
  · exact h.elim
theorem s_aald (C : a_C X cc rt own) (hd : decode cc pc = .ok (.aaload, 1)) : a_Sd X pc (t_aald (pc + 1)) := by
  obtain ⟨p, l, e, R, s, m, args, below, meth, c, Q, D, G, N0, nL, q0, σ0⟩ := X
  obtain ⟨hx, hb, hml, hr, hlk, hown, hts, hK, hN, hXF⟩ := C
  intro k L st σ kc ks h hk q H locs ls hR hl hL hst hS hq
  unfold t_aald at h
  split at h
  · rename_i i hh st'
    obtain ⟨e, h⟩ := a_ge h
    have hlt : i.toNatClampNeg < (kd hh).2 := Nat.not_le.mp fun q => h.1 (Or.inr q)
    rcases Bool.or_eq_true_iff.mp e with e | e
    · obtain ⟨e1, e2⟩ := a_isAE e
      have hat := (hR.1 hh e1).2
      rw [a_E_5 e2] at hat
      exact W.aald (v := va_rf ((σ.2.1 hh i.toNatClampNeg).map q)) (ty := .object RX1) hx hb hat ((hK.2 1 _ rfl).1 _ (fun j => va_rf ((σ.2.1 hh j).map q))) rfl (fun q => by cases q) (by show ¬ (i < 0 ∨ (arrV _ _ _).slots.size ≤ _); rw [arrV_size]; exact h.1) (by show (arrV _ _ _).slots[_]? = _; rw [arrV_read _ _ hlt]) rfl rfl hd (hk _ _ _ _ _ _ h.2 q H locs ls hR hl hL (a_okC (fun h' e' => Or.inl (hR.2.2 hh _ h' e1 (Sum.inr.inj e'))) (a_okT (a_okT hst))) hS hq)
    · obtain ⟨e1, e2⟩ := a_isAE e
      have hat := (hR.1 hh e1).2
      rw [a_E_6 e2] at hat
      exact W.aald (v := va_rf ((σ.2.1 hh i.toNatClampNeg).map q)) (ty := .array .int) hx hb hat ((hK.2 2 _ rfl).1 _ (fun j => va_rf ((σ.2.1 hh j).map q))) rfl (fun q => by cases q) (by show ¬ (i < 0 ∨ (arrV _ _ _).slots.size ≤ _); rw [arrV_size]; exact h.1) (by show (arrV _ _ _).slots[_]? = _; rw [arrV_read _ _ hlt]) rfl rfl hd (hk _ _ _ _ _ _ h.2 q H locs ls hR hl hL (a_okC (fun h' e' => Or.inl (hR.2.2 hh _ h' e1 (Sum.inr.inj e'))) (a_okT (a_okT hst))) hS hq)
  · exact h.elim
theorem s_aast (C : a_C X cc rt own) (hd : decode cc pc = .ok (.aastore, 1)) : a_Sd X pc (t_aast (pc + 1)) := by
  obtain ⟨p, l, e, R, s, m, args, below, meth, c, Q, D, G, N0, nL, q0, σ0⟩ := X
  obtain ⟨hx, hb, hml, hr, hlk, hown, hts, hK, hN, hXF⟩ := C
  intro k L st σ kc ks h hk q H locs ls hR hl hL hst hS hq
  unfold t_aast at h
  split at h
  · rename_i r i hh st'
    obtain ⟨ea, h⟩ := a_ge h
    obtain ⟨e1, e2⟩ := a_isAE ea
    have hlt : i.toNatClampNeg < (kd hh).2 := Nat.not_le.mp fun q => h.1 (Or.inr q)
    have h0 : ¬ i < 0 := fun q => h.1 (Or.inl q)
    have hat := (hR.1 hh e1).2
    have hA := (hR.1 hh e1).1.1
    rw [a_E_5 e2] at hat
    have hlv : (a_uF σ hh i.toNatClampNeg r).2.2 = σ.2.2 := rfl
    have key : ∀ (H1 : Heap) (jj : Nat), H1[q hh]? = some ((vp_cell G.2.1 ((kd hh).2, .inr (.inr (.inr (.inr (fun i => (σ.2.1 hh i).map q)))))).setSlot i.toNatClampNeg (va_rf (r.map q))) → H1.size = H.size → (∀ a, a ≠ q hh → H1[a]? = H[a]?) → W p l e R s m args below meth c H1 (locs ++ [⟨q hh, jj⟩]) kc ks Q (F0 m (pc + 1) ls (st'.map (a_val q))) := by
      intro H1 jj e9 z oq
      refine hk _ _ _ _ _ _ h.2.2 q H1 _ ls (a_R_wr hR e1 hlv (fun _ _ => rfl) (fun h' hn => a_uF_1 hn) ?_ oq (fun k' h' e' => ?_)) hl (a_okML hlv hL) (a_okM hlv (a_okT (a_okT (a_okT hst)))) (hS.put z oq hA) (fun h' w => ⟨(hq h' w).1, (hq h' w).2⟩)
      · rw [a_E_5 e2]
        show H1[q hh]? = some (vp_cell _ _)
        rw [e9, vp_cell_q, vp_cell_q, arrV_store]
        congr 2
        funext y
        unfold updV
        by_cases hy : y = i.toNatClampNeg
        · subst hy
          rw [if_pos rfl]
          have e10 : (a_uF σ hh i.toNatClampNeg r).2.1 hh i.toNatClampNeg = r := if_pos ⟨rfl, rfl⟩
          rw [e10]
        · rw [if_neg hy]
          have e10 : (a_uF σ hh i.toNatClampNeg r).2.1 hh y = σ.2.1 hh y := if_neg (fun e' => hy e'.2)
          rw [e10]
      · by_cases ek : k' = i.toNatClampNeg
        · have e10 : (a_uF σ hh i.toNatClampNeg r).2.1 hh k' = r := if_pos ⟨rfl, ek⟩
          rw [e10] at e'
          exact (a_isE (h.2.1 h' e')).1
        · have e10 : (a_uF σ hh i.toNatClampNeg r).2.1 hh k' = σ.2.1 hh k' := if_neg (fun e' => ek e'.2)
          rw [e10] at e'
          exact hR.2.2 hh k' h' e1 e'
    cases r with
    | none =>
      exact va_WaastN (C := RX1) hx hb hat ((hK.2 1 _ rfl).1 _ (fun j => va_rf ((σ.2.1 hh j).map q))) (fun h => by cases h) (by show ¬ (i < 0 ∨ (arrV _ _ _).slots.size ≤ _); rw [arrV_size]; exact h.1) rfl rfl hd fun H1 e9 z oq => key H1 _ e9 z oq
    | some v =>
      obtain ⟨f1, f2, f3⟩ := a_isE (h.2.1 v rfl)
      have hav := (hR.1 v f1).2
      rw [a_E_o f2 f3 (by omega)] at hav
      obtain ⟨r', hr', cellV, g1, g2, g3, -⟩ := hav
      have hcls := (hK.1 1 _ rfl).2
      obtain ⟨kA, comp, k1, k2, k3, -⟩ := (hK.2 1 _ rfl).2
      have hcomp : comp = D.1 1 := Option.some.inj (k3.symm.trans hcls.1)
      subst hcomp
      have hcls9 := hcls
      obtain ⟨kC, hkC, -⟩ := hcls.2
      exact W.aast hx hb hat (fun q h => by cases h) (fun h => by cases h) k1 k2 rfl hkC ⟨h0, by show _ < (arrV _ _ _).slots.size; rw [arrV_size]; exact hlt⟩ g1 (fun q h => by rw [g3] at h; cases h) (by rw [g2]; exact hkC) (by rw [g2]; exact va_assign hcls9) rfl rfl hd fun H1 e9 z oq => key H1 _ e9 z oq
  · exact h.elim
end AA
end
section
/-! ===== contracts, calls, returns ===== -/
abbrev aP : Type := List aV → aS → aK → Prop
def a_Pre (D : va_G) (G : aG) (N0 : Nat) (q : Nat → Nat) (σ : aS) (as : List aV) : Array Value → State → Prop := va_Pc (as.map (a_val q)) (fun U => N0 ≤ U.heap.size ∧ a_R D G N0 q σ U.heap ∧ va_K D a_cls (a_ty G) U ∧ a_XF U)
def a_Post (D : va_G) (G : aG) (N0 : Nat) (q : Nat → Nat) (σ : aS) (K : aK) : Array Value → State → Outcome → State → Prop := fun _ st o t =>
  ∃ (r : Option aV) (σ' : aS) (q' : Nat → Nat), o = .returned (r.map (a_val q')) ∧ K r σ' ∧ (∀ v, r = some v → a_ok σ' v) ∧ (∀ h, σ.2.2 h = true ∨ h = 63 → q' h = q h ∧ (σ.2.2 h = true → σ'.2.2 h = true)) ∧ a_R D G N0 q' σ' t.heap ∧ va_F (fun a => N0 ≤ a) st t
def a_Con (l : Launch) (D : va_G) (G : aG) (N0 : Nat) (y : MethodName) (cc : ByteArray) (nL : Nat) (rt : Option FieldType) (rm : Room) (spec : aP) : Prop :=
  ∀ (as : List aV) (σ : aS) (K : aK) (q : Nat → Nat), spec as σ K → (∀ v ∈ as, a_ok σ v) → Met l y (Cond.code y cc nL rt :: lw_g) rm (a_Pre D G N0 q σ as) (a_Post D G N0 q σ K) rm.cells rm.slots (fun a => N0 ≤ a)
def a_Y : a_X → Launch → Room → va_G → aG → Nat → Prop := fun (p, l, e, R, s, m, args, below, meth, c, Q, D, G, N0, nL, q0, σ0) l' R' D' G' N0' => l = l' ∧ R = R' ∧ D = D' ∧ G = G' ∧ N0 = N0'
def a_mq : a_X → aK → Nat → Nat → Prop := fun (p, l, e, R, s, m, args, below, meth, c, Q, D, G, N0, nL, q0, σ0) K mc ms => Q = MQ below (a_Post D G N0 q0 σ0 K) args s mc ms (fun a => N0 ≤ a)
theorem a_gin {w : Cond} (hc : w ∈ lw_g) : GoodIn lw_g (w :: lw_g) := fun x hx => by
  have hm : x ∈ lw_g := (List.mem_cons.mp hx).elim (fun e => e ▸ hc) id
  exact ⟨hm, good_of_word (List.mem_filter.mp hm).2⟩
theorem a_valq {σ : aS} {q q' : Nat → Nat} {v : aV} (h : a_ok σ v) (hq : ∀ h, σ.2.2 h = true ∨ h = 63 → q' h = q h) : a_val q' v = a_val q v := by
  cases v with
  | inl x => rfl
  | inr r => cases r with
    | none => rfl
    | some y => exact congrArg (fun z => va_rf (some z)) (hq y (h y rfl))
theorem a_mapq {σ : aS} {q q' : Nat → Nat} {st : List aV} (h : ∀ v ∈ st, a_ok σ v) (hq : ∀ h, σ.2.2 h = true ∨ h = 63 → q' h = q h) : st.map (a_val q') = st.map (a_val q) := List.map_congr_left (fun v hv => a_valq (h v hv) hq)
theorem a_blind {D : va_G} {G : aG} {N0 : Nat} {q : Nat → Nat} {σ : aS} {as : List aV} : FrameBlind (a_Pre D G N0 q σ as) := fun a U g mk h => by
  obtain ⟨h1, h2, h3, h4, h5⟩ := h
  exact ⟨h1, h2, h3, va_K.moved (u := U) (U := U.calling g mk a) (Vm.Alike.refl U.vm) h4, a_XF.same (s := U) (U := U.calling g mk a) rfl h5⟩
section AC
variable {p : Program} {l : Launch} {e : Env} {R : Room} {s : State} {m : MethodId} {args : Array Value} {below : List Frame} {meth : Method} {c : Code} {H : Heap} {locs : List Loc} {kc ks mc ms : Nat} {Q : State → Prop}
variable {pc : Nat} {ls : Array Slot} {rest st0 : List Value} {D : va_G} {G : aG} {N0 : Nat} {q : Nat → Nat} {σ : aS} {K : aK} {a : Array Value}
theorem a_callx (hr : va_Run p l e R s m args below meth c H locs kc ks mc ms (F0 m pc ls st0) rest (a_Post D G N0 q σ K a) (fun a => N0 ≤ a)) (hS : va_S (fun a => N0 ≤ a) s.heap H locs)
    (kk : ∀ (r : Option aV) (σ' : aS) (q' : Nat → Nat) (H1 : Heap) (locs1 : List Loc), K r σ' → (∀ v, r = some v → a_ok σ' v) → (∀ h, σ.2.2 h = true ∨ h = 63 → q' h = q h ∧ (σ.2.2 h = true → σ'.2.2 h = true)) → a_R D G N0 q' σ' H1 → va_S (fun a => N0 ≤ a) s.heap H1 locs1 →
      W p l e R s m args below meth c H1 locs1 (kc + mc) (ks + ms) Q (F0 m (pc + 3) ls (r.toList.map (a_val q') ++ rest))) : W p l e R s m args below meth c H locs kc ks Q (F0 m pc ls st0) := by
  intro T hT X
  obtain ⟨v, st₀, t, T', L, h0, X', hL, e1, e2, ⟨r, σ', q', hv, hK, hok, hq, hR, hz, hkk⟩, st⟩ := hr T hT X
  have hv' : v = r.map (a_val q') := Outcome.returned.inj hv
  subst hv'
  rw [h0] at hz hkk
  have hS1 : va_S (fun a => N0 ≤ a) s.heap T'.heap (locs ++ L) := ⟨Nat.le_trans hS.1 (by rw [e1]; exact hz), fun x h1 h2 => by rw [e1, hkk x (Nat.lt_of_lt_of_le h1 hS.1) h2]; exact hS.2.1 x h1 h2, fun x hx => by
    rcases List.mem_append.mp hx with h | h
    · exact hS.2.2 x h
    · exact hL x h⟩
  obtain ⟨t2, a1, b1⟩ := kk r σ' q' T'.heap (locs ++ L) hK hok hq (by rw [e1]; exact hR) hS1 T' rfl X'
  refine ⟨t2, st t2 ?_, b1⟩
  have e9 : (r.map (a_val q')).toList = r.toList.map (a_val q') := by cases r <;> rfl
  show Steps p.tables e below (T'.setTop { (F0 m pc ls st0) with pc := pc + 3, stack := (r.map (a_val q')).toList ++ rest }) t2
  rw [e9]
  exact a1
end AC
theorem a_ls_q {σ : aS} {q q' : Nat → Nat} {nL : Nat} {L : aL} {ls : Array Slot} (hl : a_ls q nL L ls) (hL : ∀ (i : Nat) (v : aV), L[i]? = some (some v) → a_ok σ v) (hq : ∀ h, σ.2.2 h = true ∨ h = 63 → q' h = q h) : a_ls q' nL L ls := ⟨hl.1, hl.2.1, hl.2.2.1, fun i v hv => by rw [a_valq (hL i v hv) hq]; exact hl.2.2.2 i v hv⟩
theorem a_ok_up {σ σ' : aS} {v : aV} (h : a_ok σ v) (hm : ∀ h, σ.2.2 h = true → σ'.2.2 h = true) : a_ok σ' v := fun x e => (h x e).elim (fun w => Or.inl (hm x w)) Or.inr
def t_call (n mc ms bc bs : Nat) (spec : aP) (nx : Nat) : aT := fun k L st σ kc ks => a_g (decide (n ≤ st.length) && (decide (st.length ≤ n + 8) && (decide (kc + mc ≤ bc) && decide (ks + ms ≤ bs)))) (spec (st.take n).reverse σ (fun r σ' => k nx L (r.toList ++ st.drop n) σ' (kc + mc) (ks + ms)))
theorem a_cg {a b c d : Prop} {_ : Decidable a} {_ : Decidable b} {_ : Decidable c} {_ : Decidable d} {P : Prop} (h : a_g (decide a && (decide b && (decide c && decide d))) P) : a ∧ b ∧ c ∧ d ∧ P := by
  obtain ⟨h1, h2⟩ := a_ge h
  simp only [Bool.and_eq_true, decide_eq_true_eq] at h1
  exact ⟨h1.1, h1.2.1, h1.2.2.1, h1.2.2.2, h2⟩
theorem a_sum {q : Nat → Nat} : ∀ (st : List aV), ((st.map (a_val q)).map fun v => v.category).sum = st.length
  | [] => rfl
  | v :: st => by
    show (a_val q v).category + ((st.map (a_val q)).map fun v => v.category).sum = st.length + 1
    rw [a_cat, a_sum st]
    omega
section AD
variable {X : a_X} {cc bytes : ByteArray} {rt ret : Option FieldType} {own : String} {pc n index maxL bc bs : Nat} {l : Launch} {R rm : Room} {D : va_G} {G : aG} {N0 : Nat} {y : MethodName} {spec : aP}
theorem s_callS (C : a_C X cc rt own) (Y : a_Y X l R D G N0) (hM : a_Con l D G N0 y bytes maxL ret rm spec) (hcode : Cond.code y bytes maxL ret ∈ lw_g) (hlink : Cond.methodLink own index y ∈ lw_g) (hstat : Cond.static y ∈ lw_g) (hini : Cond.initialized y.cls ∈ lw_g)
    (hd : y.cls ≠ "java/lang/invoke/MethodHandle" ∧ y.cls ≠ "java/lang/invoke/VarHandle" ∧ (parseMethodDescriptor y.desc).map (fun d => d.parameters.length) = some n) (hR : rm.frames + 1 ≤ R.frames ∧ 8 + (maxL + 11) + rm.locals ≤ R.locals) (hb : bc = R.cells ∧ bs = R.slots) (hdg : decode cc pc = .ok (.invokestatic index, 3)) : a_Sd X pc (t_call n rm.cells rm.slots bc bs spec (pc + 3)) := by
  obtain ⟨p, l', e, R', s, m, args, below, meth, c, Q, D', G', N0', nL, q0, σ0⟩ := X
  obtain ⟨rfl, rfl, rfl, rfl, rfl⟩ := Y
  obtain ⟨hx, hb1, hml, hr, hlk, hown, hts, hK, hN, hXF⟩ := C
  obtain ⟨rfl, rfl⟩ := hb
  intro k L st σ kc ks h hk q H locs ls hRr hl hL hst hS hq
  obtain ⟨g1, g2, g3, g4, hsp⟩ := a_cg h
  have cb := callB_of (R := R') (Ts := lw_g) (ws := Cond.code y bytes maxL ret :: lw_g) (ws' := lw_g) (rm := rm) (own := own) (index := index) n hts (a_gin hcode) rfl rfl rfl (hts _ hini) (hts _ hlink) hd hR
  have hta : ∀ v ∈ (st.take n).reverse, a_ok σ v := fun v hv => hst v (List.mem_of_mem_take (List.mem_reverse.mp hv))
  refine a_callx (va_runS (As := ((st.take n).reverse).map (a_val q)) (rest := (st.drop n).map (a_val q)) ⟨hx, hb1, hml, hown, hts⟩ (hM _ σ _ q hsp hta) ⟨cb, hts _ hstat⟩ ⟨a_blind, fun U hU hW => ⟨rfl, ?_, ?_, ?_, hXF.warm hW⟩⟩ rfl ?_ hl.1 ?_ ?_ hdg ⟨g3, g4⟩) hS (fun r σ' q' H1 locs1 hKK hok hqq hR1 hS1 => ?_)
  · rw [hU]; exact Nat.le_trans hN hS.1
  · rw [hU]; exact hRr
  · exact va_K.moved hW.alike hK
  · rw [List.length_map, List.length_reverse, List.length_take]; omega
  · show st.map (a_val q) = _
    rw [← List.map_reverse, List.reverse_reverse, ← List.map_append, List.take_append_drop]
  · show 2 * 0 + _ ≤ 8
    rw [a_sum, List.length_drop]
    omega
  · have hd1 : ∀ v ∈ st.drop n, a_ok σ v := fun v hv => hst v (List.mem_of_mem_drop hv)
    have hq1 : ∀ h, σ.2.2 h = true ∨ h = 63 → q' h = q h := fun h w => (hqq h w).1
    have hm1 : ∀ h, σ.2.2 h = true → σ'.2.2 h = true := fun h w => (hqq h (Or.inl w)).2 w
    have := hk _ _ _ _ _ _ hKK q' H1 locs1 ls hR1 (a_ls_q hl hL hq1) (fun i v hv => a_ok_up (hL i v hv) hm1) (fun v hv => by
      rcases List.mem_append.mp hv with w | w
      · exact hok v (by cases r with | none => cases w | some z => exact congrArg some (List.mem_singleton.mp w).symm)
      · exact a_ok_up (hd1 v w) hm1) hS1 (fun h w => ⟨((hqq h (w.elim (fun z => Or.inl ((hq h w).2 z)) Or.inr)).1).trans (hq h w).1, fun z => hm1 h ((hq h w).2 z)⟩)
    rw [List.map_append, a_mapq hd1 hq1] at this
    exact this
theorem s_callV (C : a_C X cc rt own) (Y : a_Y X l R D G N0) {ci : Nat} {Cn : String} {T : u_T} {nf : Nat} (hc : a_cls[ci]? = some (Cn, T, nf)) (hM : a_Con l D G N0 y bytes maxL ret rm spec) (hrec : ∀ as σ K, spec as σ K → ∃ h As, as = .inr (some h) :: As ∧ a_is σ h ci nf = true) (hcode : Cond.code y bytes maxL ret ∈ lw_g) (hlink : Cond.methodLink own index y ∈ lw_g) (hinst : Cond.instanceMethod y ∈ lw_g) (hsel : Cond.selects Cn y y ∈ lw_g) (hini : Cond.initialized y.cls ∈ lw_g)
    (hd : y.cls ≠ "java/lang/invoke/MethodHandle" ∧ y.cls ≠ "java/lang/invoke/VarHandle" ∧ (parseMethodDescriptor y.desc).map (fun d => d.parameters.length) = some n) (hR : rm.frames + 1 ≤ R.frames ∧ 8 + (maxL + 11) + rm.locals ≤ R.locals) (hb : bc = R.cells ∧ bs = R.slots) (hdg : decode cc pc = .ok (.invokevirtual index, 3)) : a_Sd X pc (t_call (n + 1) rm.cells rm.slots bc bs spec (pc + 3)) := by
  obtain ⟨p, l', e, R', s, m, args, below, meth, c, Q, D', G', N0', nL, q0, σ0⟩ := X
  obtain ⟨rfl, rfl, rfl, rfl, rfl⟩ := Y
  obtain ⟨hx, hb1, hml, hr, hlk, hown, hts, hK, hN, hXF⟩ := C
  obtain ⟨rfl, rfl⟩ := hb
  intro k L st σ kc ks h hk q H locs ls hRr hl hL hst hS hq
  obtain ⟨g1, g2, g3, g4, hsp⟩ := a_cg h
  have cb := callB_of (R := R') (Ts := lw_g) (ws := Cond.code y bytes maxL ret :: lw_g) (ws' := lw_g) (rm := rm) (own := own) (index := index) n hts (a_gin hcode) rfl rfl rfl (hts _ hini) (hts _ hlink) hd hR
  have hta : ∀ v ∈ (st.take (n + 1)).reverse, a_ok σ v := fun v hv => hst v (List.mem_of_mem_take (List.mem_reverse.mp hv))
  obtain ⟨hh, As, hAs, his⟩ := hrec _ _ _ hsp
  obtain ⟨f1, f2, f3⟩ := a_isE his
  have hat := (hRr.1 hh f1).2
  rw [a_E_o f2 f3 (a_c4 hc)] at hat
  have hlen : As.length = n := by
    have := congrArg List.length hAs
    rw [List.length_reverse, List.length_take, List.length_cons] at this
    omega
  have hst2 : st.map (a_val q) = (As.map (a_val q)).reverse ++ .ref (q hh) :: (st.drop (n + 1)).map (a_val q) := by
    have e1 : st.take (n + 1) = As.reverse ++ [.inr (some hh)] := by
      have := congrArg List.reverse hAs
      rw [List.reverse_reverse, List.reverse_cons] at this
      exact this
    have e2 : st.map (a_val q) = (st.take (n + 1) ++ st.drop (n + 1)).map (a_val q) := by rw [List.take_append_drop]
    rw [e2, List.map_append, e1, List.map_append, ← List.map_reverse]
    simp [a_val, va_rf]
  have hM1 := hM _ σ _ q hsp hta
  rw [hAs] at hM1
  refine a_callx (va_runV (C := Cn) (b := q hh) (As := As.map (a_val q)) (rest := (st.drop (n + 1)).map (a_val q)) ⟨hx, hb1, hml, hown, hts⟩ hM1 ⟨cb, hts _ hinst, hts _ hsel⟩ ⟨a_blind, va_recv hK (a_P1 hat) (ci := ci) (q0 := 0) hc rfl, fun U hU hW => ⟨rfl, ?_, ?_, ?_, hXF.warm hW⟩⟩ rfl (by rw [List.length_map]; exact hlen) hl.1 hst2 ?_ hdg ⟨g3, g4⟩) hS (fun r σ' q' H1 locs1 hKK hok hqq hR1 hS1 => ?_)
  · rw [hU]; exact Nat.le_trans hN hS.1
  · rw [hU]; exact hRr
  · exact va_K.moved hW.alike hK
  · show 2 * 0 + _ ≤ 8
    rw [a_sum, List.length_drop]
    omega
  · have hd1 : ∀ v ∈ st.drop (n + 1), a_ok σ v := fun v hv => hst v (List.mem_of_mem_drop hv)
    have hq1 : ∀ h, σ.2.2 h = true ∨ h = 63 → q' h = q h := fun h w => (hqq h w).1
    have hm1 : ∀ h, σ.2.2 h = true → σ'.2.2 h = true := fun h w => (hqq h (Or.inl w)).2 w
    have := hk _ _ _ _ _ _ hKK q' H1 locs1 ls hR1 (a_ls_q hl hL hq1) (fun i v hv => a_ok_up (hL i v hv) hm1) (fun v hv => by
      rcases List.mem_append.mp hv with w | w
      · exact hok v (by cases r with | none => cases w | some z => exact congrArg some (List.mem_singleton.mp w).symm)
      · exact a_ok_up (hd1 v w) hm1) hS1 (fun h w => ⟨((hqq h (w.elim (fun z => Or.inl ((hq h w).2 z)) Or.inr)).1).trans (hq h w).1, fun z => hm1 h ((hq h w).2 z)⟩)
    rw [List.map_append, a_mapq hd1 hq1] at this
    exact this
end AD
/-! returns -/
def t_iret (K : aK) (mc ms : Nat) : aT := fun _ _ st σ kc ks => match st with
  | [.inl v] => a_g (decide (kc ≤ mc) && decide (ks ≤ ms)) (K (some (.inl v)) σ)
  | _ => False
def t_zret (K : aK) (mc ms : Nat) : aT := fun _ _ st σ kc ks => match st with
  | [.inl v] => a_g (decide (kc ≤ mc) && decide (ks ≤ ms)) ((v = 0 ∨ v = 1) ∧ K (some (.inl v)) σ)
  | _ => False
def t_aret (K : aK) (mc ms : Nat) : aT := fun _ _ st σ kc ks => match st with
  | [.inr r] => a_g (decide (kc ≤ mc) && decide (ks ≤ ms)) (K (some (.inr r)) σ)
  | _ => False
def t_vret (K : aK) (mc ms : Nat) : aT := fun _ _ st σ kc ks => match st with
  | [] => a_g (decide (kc ≤ mc) && decide (ks ≤ ms)) (K none σ)
  | _ => False
theorem a_cg2 {a b : Prop} {_ : Decidable a} {_ : Decidable b} {P : Prop} (h : a_g (decide a && decide b) P) : a ∧ b ∧ P := by
  obtain ⟨h1, h2⟩ := a_ge h
  simp only [Bool.and_eq_true, decide_eq_true_eq] at h1
  exact ⟨h1.1, h1.2, h2⟩
section AE
variable {X : a_X} {cc : ByteArray} {rt : Option FieldType} {own : String} {pc mc ms : Nat} {K : aK}
theorem s_iret (C : a_C X cc (some .int) own) (M : a_mq X K mc ms) (hd : decode cc pc = .ok (.ireturn, 1)) : a_Sd X pc (t_iret K mc ms) := by
  obtain ⟨p, l, e, R, s, m, args, below, meth, c, Q, D, G, N0, nL, q0, σ0⟩ := X
  obtain ⟨hx, hb, hml, hr, hlk, hown, hts, hK, hN, hXF⟩ := C
  have M : Q = _ := M
  subst M
  intro k L st σ kc ks h hk q H locs ls hR hl hL hst hS hq
  unfold t_iret at h
  split at h
  · rename_i v
    obtain ⟨g1, g2, h⟩ := a_cg2 h
    refine W.widen g1 g2 ?_
    exact W.iret (v := v) hx hb hr (fun t ht hW => ⟨some (.inl v), σ, q, rfl, h, fun w e => (by cases e; intro h' e'; cases e'), fun h' w => hq h' w, (by rw [ht]; exact hR), hS.F ht⟩) hS.2.2 hd hlk
  · exact h.elim
theorem s_zret (C : a_C X cc (some .boolean) own) (M : a_mq X K mc ms) (hd : decode cc pc = .ok (.ireturn, 1)) : a_Sd X pc (t_zret K mc ms) := by
  obtain ⟨p, l, e, R, s, m, args, below, meth, c, Q, D, G, N0, nL, q0, σ0⟩ := X
  obtain ⟨hx, hb, hml, hr, hlk, hown, hts, hK, hN, hXF⟩ := C
  have M : Q = _ := M
  subst M
  intro k L st σ kc ks h hk q H locs ls hR hl hL hst hS hq
  unfold t_zret at h
  split at h
  · rename_i v
    obtain ⟨g1, g2, h⟩ := a_cg2 h
    refine W.widen g1 g2 ?_
    exact W.zret (v := v) hx hb hr (by rcases h.1 with e | e <;> subst e <;> rfl) (fun t ht hW => ⟨some (.inl v), σ, q, rfl, h.2, fun w e => (by cases e; intro h' e'; cases e'), fun h' w => hq h' w, (by rw [ht]; exact hR), hS.F ht⟩) hS.2.2 hd hlk
  · exact h.elim
theorem s_aret {ty : FieldType} (C : a_C X cc (some ty) own) (hty : (∃ n, ty = .object n) ∨ ∃ t, ty = .array t) (M : a_mq X K mc ms) (hd : decode cc pc = .ok (.areturn, 1)) : a_Sd X pc (t_aret K mc ms) := by
  obtain ⟨p, l, e, R, s, m, args, below, meth, c, Q, D, G, N0, nL, q0, σ0⟩ := X
  obtain ⟨hx, hb, hml, hr, hlk, hown, hts, hK, hN, hXF⟩ := C
  have M : Q = _ := M
  subst M
  intro k L st σ kc ks h hk q H locs ls hR hl hL hst hS hq
  unfold t_aret at h
  split at h
  · rename_i r
    obtain ⟨g1, g2, h⟩ := a_cg2 h
    refine W.widen g1 g2 ?_
    exact W.aret (v := a_val q (.inr r)) hx hb hr hty (by cases r with | none => exact Or.inl rfl | some z => exact Or.inr ⟨_, rfl⟩) (fun t ht hW => ⟨some (.inr r), σ, q, rfl, h, fun w e => (by cases e; exact hst _ List.mem_cons_self), fun h' w => hq h' w, (by rw [ht]; exact hR), hS.F ht⟩) hS.2.2 hd hlk
  · exact h.elim
theorem s_vret (C : a_C X cc none own) (M : a_mq X K mc ms) (hd : decode cc pc = .ok (.return_, 1)) : a_Sd X pc (t_vret K mc ms) := by
  obtain ⟨p, l, e, R, s, m, args, below, meth, c, Q, D, G, N0, nL, q0, σ0⟩ := X
  obtain ⟨hx, hb, hml, hr, hlk, hown, hts, hK, hN, hXF⟩ := C
  have M : Q = _ := M
  subst M
  intro k L st σ kc ks h hk q H locs ls hR hl hL hst hS hq
  unfold t_vret at h
  split at h
  · obtain ⟨g1, g2, h⟩ := a_cg2 h
    refine W.widen g1 g2 ?_
    exact W.vret hx hb hr (fun t ht hW => ⟨none, σ, q, rfl, h, fun w e => (by cases e), fun h' w => hq h' w, (by rw [ht]; exact hR), hS.F ht⟩) hS.2.2 hd hlk
  · exact h.elim
end AE
/-- a contract out of the run of its body -/
theorem a_con {l : Launch} {D : va_G} {G : aG} {N0 : Nat} {y : MethodName} {cc : ByteArray} {nL : Nat} {rt : Option FieldType} {rm : Room} {spec : aP} (hy : plainName y.cls = true) (hlen : ∀ as σ K, spec as σ K → as.length ≤ nL)
    (body : ∀ (X : a_X) (as : List aV) (σ : aS) (K : aK), spec as σ K → a_C X cc rt y.cls → a_Y X l rm D G N0 → a_mq X K rm.cells rm.slots → X.2.2.2.2.2.2.2.2.1.name = y.name → a_J X 0 (as.map some ++ List.replicate (nL - as.length) none) [] σ 0 0) : a_Con l D G N0 y cc nL rt rm spec := by
  intro as σ K q hsp hok
  refine Met.ofW (cc := cc) (maxL := nL) (ret := rt) hy rfl ?_
  intro p e s m args below meth c s₁ B hml hv
  obtain ⟨rfl, hN, hR, hK, hXF⟩ := hv
  have hts0 := atoms_spec (ws := Cond.code y cc nL rt :: lw_g) B.pre
  have hown : s.vm.findClass y.cls = some m.cls := findClass_of_methodNamed B.named
  have hnm : meth.name = y.name := (name_of_methodNamed B.named B.method).1
  have hC : a_C (p, l, e, rm, s, m, (as.map (a_val q)).toArray, below, meth, c, MQ below (a_Post D G N0 q σ K) (as.map (a_val q)).toArray s rm.cells rm.slots (fun a => N0 ≤ a), D, G, N0, nL, q, σ) cc rt y.cls :=
    ⟨B.exec, B.bytes, hml, B.returns, B.notSynchronized, hown, fun w hw => hts0 w (List.mem_cons_of_mem _ hw), hK, hN, hXF⟩
  have hlg : lg_sl (as.map (a_val q)) = (as.map (a_val q)).map Slot.val := by
    clear hsp hok hR hK hts0 hC B hXF
    induction as with
    | nil => rfl
    | cons v as ih =>
      rw [List.map_cons]
      have e1 : lg_sl (a_val q v :: as.map (a_val q)) = Slot.val (a_val q v) :: lg_sl (as.map (a_val q)) := by
        cases v with
        | inl x => rfl
        | inr r => cases r <;> rfl
      rw [e1, ih]
      rfl
  have hle := hlen as σ K hsp
  have hln : (lg_sl (as.map (a_val q))).length ≤ nL := by rw [hlg, List.length_map, List.length_map]; exact hle
  have hl := lv_entry (as.map (a_val q)) (n := nL) hln
  rw [lg_entry_eq]
  have hl2 : a_ls q nL (as.map some ++ List.replicate (nL - as.length) none) (lg_sl (as.map (a_val q)) ++ List.replicate (nL - (lg_sl (as.map (a_val q))).length) Slot.unset).toArray := by
    refine ⟨hl.1, by simp; omega, hl.2.1, fun i v hv => ?_⟩
    rw [hlg]
    by_cases hi : i < as.length
    · rw [List.getElem?_append_left (by rw [List.length_map]; exact hi), List.getElem?_map] at hv
      have hv2 : as[i]? = some v := by
        cases hx : as[i]? with
        | none => rw [hx] at hv; cases hv
        | some z => rw [hx] at hv; exact Option.some.inj hv
      rw [List.getElem?_toArray, List.getElem?_append_left (by simp; exact hi), List.getElem?_map, List.getElem?_map, hv2]
      rfl
    · rw [List.getElem?_append_right (by rw [List.length_map]; omega)] at hv
      rw [List.getElem?_replicate] at hv
      split at hv <;> cases hv
  refine body _ as σ K hsp hC ⟨rfl, rfl, rfl, rfl, rfl⟩ rfl hnm q s.heap [] _ hR hl2 (fun i v hv => ?_) (fun v hv => by cases hv) va_S.rf (fun h w => ⟨rfl, id⟩)
  by_cases hi : i < as.length
  · rw [List.getElem?_append_left (by rw [List.length_map]; exact hi), List.getElem?_map] at hv
    have hv2 : as[i]? = some v := by
      cases hx : as[i]? with
      | none => rw [hx] at hv; cases hv
      | some z => rw [hx] at hv; exact Option.some.inj hv
    exact hok v (List.mem_of_getElem? hv2)
  · rw [List.getElem?_append_right (by rw [List.length_map]; omega)] at hv
    rw [List.getElem?_replicate] at hv
    split at hv <;> cases hv
end
section
/-! ===== making cells; constructors' calls ===== -/
def a_new (σ : aS) (h : Nat) (f : Nat → Int32) : aS := (fun h' k' => if h' = h then f k' else σ.1 h' k', fun h' k' => if h' = h then none else σ.2.1 h' k', fun h' => if h' = h then true else σ.2.2 h')
theorem a_new_1 {σ : aS} {h : Nat} {f : Nat → Int32} : (a_new σ h f).1 h = f := by funext k; exact if_pos rfl
theorem a_new_1n {σ : aS} {h h' : Nat} {f : Nat → Int32} (hn : h' ≠ h) : (a_new σ h f).1 h' = σ.1 h' := by funext k; exact if_neg hn
theorem a_new_2 {σ : aS} {h : Nat} {f : Nat → Int32} {k : Nat} : (a_new σ h f).2.1 h k = none := if_pos rfl
theorem a_new_2n {σ : aS} {h h' : Nat} {f : Nat → Int32} (hn : h' ≠ h) : (a_new σ h f).2.1 h' = σ.2.1 h' := by funext k; exact if_neg hn
theorem a_new_3 {σ : aS} {h : Nat} {f : Nat → Int32} : (a_new σ h f).2.2 h = true := if_pos rfl
theorem a_new_3n {σ : aS} {h h' : Nat} {f : Nat → Int32} (hn : h' ≠ h) : (a_new σ h f).2.2 h' = σ.2.2 h' := if_neg hn
theorem a_E_q {G : aG} {q q' : Nat → Nat} {σ σ' : aS} {h : Nat} (h1 : σ'.1 h = σ.1 h) (h2 : σ'.2.1 h = σ.2.1 h) (hq : ∀ k h', σ.2.1 h k = some h' → q' h' = q h') : a_E G q' σ' h = a_E G q σ h := by
  have e : ∀ k, (σ.2.1 h k).map q' = (σ.2.1 h k).map q := fun k => by
    cases hx : σ.2.1 h k with
    | none => rfl
    | some y => exact congrArg some (hq k y hx)
  unfold a_E a_fv
  rw [h1, h2]
  simp only [e]
def a_up (q : Nat → Nat) (h a : Nat) : Nat → Nat := fun h' => if h' = h then a else q h'
theorem a_up_s {q : Nat → Nat} {h a : Nat} : a_up q h a h = a := if_pos rfl
theorem a_up_n {q : Nat → Nat} {h a h' : Nat} (hn : h' ≠ h) : a_up q h a h' = q h' := if_neg hn
theorem a_R_nw {D : va_G} {G : aG} {N0 : Nat} {q : Nat → Nat} {σ : aS} {H H1 : Heap} {h0 a : Nat} {f : Nat → Int32} (hR : a_R D G N0 q σ H) (hl : σ.2.2 h0 = false) (hb : h0 < 256 ∧ h0 ≠ 63) (ha : N0 ≤ a) (hna : ∀ h, σ.2.2 h = true → q h ≠ a) (hold : ∀ h, σ.2.2 h = true → va_at D a_cls (q h, a_E G q σ h) H1)
    (hat : va_at D a_cls (a, a_E G (a_up q h0 a) (a_new σ h0 f) h0) H1) : a_R D G N0 (a_up q h0 a) (a_new σ h0 f) H1 := by
  obtain ⟨r1, r2, r3⟩ := hR
  have hne : ∀ h, σ.2.2 h = true → h ≠ h0 := fun h w e => by rw [e, hl] at w; cases w
  have hlv : ∀ h, (a_new σ h0 f).2.2 h = true → h ≠ h0 → σ.2.2 h = true := fun h w e => by rw [a_new_3n e] at w; exact w
  refine ⟨fun h hh => ?_, fun h h' e1 e2 e3 => ?_, fun h k h' e1 e2 => ?_⟩
  · by_cases e : h = h0
    · subst e
      rw [a_up_s]
      exact ⟨⟨ha, hb⟩, hat⟩
    · have w := hlv h hh e
      rw [a_up_n e, a_E_q (q := q) (σ := σ) (a_new_1n e) (a_new_2n e) (fun k h' z => a_up_n (hne h' (r3 h k h' w z)))]
      exact ⟨(r1 h w).1, hold h w⟩
  · by_cases f1 : h = h0 <;> by_cases f2 : h' = h0
    · rw [f1, f2]
    · rw [f1, a_up_s, a_up_n f2] at e3
      exact absurd e3.symm (hna h' (hlv h' e2 f2))
    · rw [f2, a_up_s, a_up_n f1] at e3
      exact absurd e3 (hna h (hlv h e1 f1))
    · rw [a_up_n f1, a_up_n f2] at e3
      exact r2 h h' (hlv h e1 f1) (hlv h' e2 f2) e3
  · by_cases e : h = h0
    · subst e
      rw [a_new_2] at e2
      cases e2
    · rw [a_new_2n e] at e2
      have w := r3 h k h' (hlv h e1 e) e2
      rw [a_new_3n (hne h' w)]
      exact w
section AN
variable {p : Program} {l : Launch} {e : Env} {R : Room} {s : State} {m : MethodId} {args : Array Value} {below : List Frame} {meth : Method} {c : Code} {H H1 : Heap} {locs : List Loc} {kc ks : Nat} {Q : State → Prop}
variable {pc : Nat} {ls : Array Slot} {D : va_G} {G : aG} {N0 nL : Nat} {q q0 : Nat → Nat} {σ σ0 : aS} {L : aL} {st : List aV} {h0 a : Nat} {f : Nat → Int32}
/-- behind a making: the run goes on in the larger world -/
theorem a_nwJ (hR : a_R D G N0 q σ H) (hl : a_ls q nL L ls) (hL : ∀ (i : Nat) (v : aV), L[i]? = some (some v) → a_ok σ v) (hst : ∀ v ∈ st, a_ok σ v) (hS1 : va_S (fun a => N0 ≤ a) s.heap H1 locs) (hq : ∀ h, σ0.2.2 h = true ∨ h = 63 → q h = q0 h ∧ (σ0.2.2 h = true → σ.2.2 h = true))
    (hlv : σ.2.2 h0 = false) (hb : h0 < 256 ∧ h0 ≠ 63) (ha : N0 ≤ a) (hna : ∀ h, σ.2.2 h = true → q h ≠ a) (hold : ∀ h, σ.2.2 h = true → va_at D a_cls (q h, a_E G q σ h) H1) (hat : va_at D a_cls (a, a_E G (a_up q h0 a) (a_new σ h0 f) h0) H1)
    (J : a_J (p, l, e, R, s, m, args, below, meth, c, Q, D, G, N0, nL, q0, σ0) pc L (.inr (some h0) :: st) (a_new σ h0 f) kc ks) : W p l e R s m args below meth c H1 locs kc ks Q (F0 m pc ls (.ref a :: st.map (a_val q))) := by
  have hq1 : ∀ h, σ.2.2 h = true ∨ h = 63 → a_up q h0 a h = q h := fun h w => a_up_n (w.elim (fun z e => by rw [e, hlv] at z; cases z) (fun z e => hb.2 (by rw [← e]; exact z)))
  have hm1 : ∀ h, σ.2.2 h = true → (a_new σ h0 f).2.2 h = true := fun h w => by
    rw [a_new_3n (fun e => by rw [e, hlv] at w; cases w)]
    exact w
  have := J (a_up q h0 a) H1 locs ls (a_R_nw hR hlv hb ha hna hold hat) (a_ls_q hl hL hq1) (fun i v hv => a_ok_up (hL i v hv) hm1) (a_okC (fun h' e' => by cases e'; exact Or.inl a_new_3) (fun v hv => a_ok_up (hst v hv) hm1)) hS1 (fun h w => ⟨(hq1 h (w.elim (fun z => Or.inl ((hq h w).2 z)) Or.inr)).trans (hq h w).1, fun z => hm1 h ((hq h w).2 z)⟩)
  rw [List.map_cons, a_mapq hst hq1] at this
  have e9 : a_val (a_up q h0 a) (.inr (some h0)) = .ref a := congrArg (fun z => va_rf (some z)) a_up_s
  rw [e9] at this
  exact this
end AN
def a_gb (kc ks nc ns bc bs : Nat) (P : Prop) : Prop := a_g (decide (kc + nc ≤ bc) && decide (ks + ns ≤ bs)) P
def t_new (ci n bc bs nx : Nat) : aT := fun k L st σ kc ks => a_gb kc ks 1 n bc bs (∃ h, σ.2.2 h = false ∧ kd h = (ci, n) ∧ (h < 256 ∧ h ≠ 63) ∧ k nx L (.inr (some h) :: st) (a_new σ h (fun _ => 0)) (kc + 1) (ks + n))
def t_newi (n bc bs nx : Nat) : aT := fun k L st σ kc ks => match st with
  | .inl x :: st' => x = Int32.ofNat n ∧ a_gb kc ks 1 n bc bs (∃ h, σ.2.2 h = false ∧ kd h = (4, n) ∧ (h < 256 ∧ h ≠ 63) ∧ k nx L (.inr (some h) :: st') (a_new σ h (fun _ => 0)) (kc + 1) (ks + n))
  | _ => False
def t_newq (n bc bs nx : Nat) : aT := fun k L st σ kc ks => match st with
  | .inl x :: st' => x = Int32.ofNat n ∧ a_gb kc ks 1 n bc bs (∃ h, σ.2.2 h = false ∧ kd h = (5, n) ∧ (h < 256 ∧ h ≠ 63) ∧ k nx L (.inr (some h) :: st') (a_new σ h (fun _ => 0)) (kc + 1) (ks + n))
  | _ => False
def t_obi (nx : Nat) : aT := fun k L st σ kc ks => match st with
  | .inr (some _) :: st' => a_g (decide (st'.length ≤ 8)) (k nx L st' σ kc ks)
  | _ => False
section AO
variable {X : a_X} {cc bytes : ByteArray} {rt ret : Option FieldType} {own : String} {pc n index maxL bc bs : Nat} {l : Launch} {R rm : Room} {D : va_G} {G : aG} {N0 : Nat} {y : MethodName} {spec : aP}
theorem s_obi (C : a_C X cc rt own) (Y : a_Y X l R D G N0) (hlink : Cond.methodLink own index objectInit ∈ lw_g) (hinst : Cond.instanceMethod objectInit ∈ lw_g) (hcode : Cond.code objectInit ⟨#[0xb1]⟩ 1 none ∈ lw_g) (hR : 1 ≤ R.frames ∧ 20 ≤ R.locals) (hd : decode cc pc = .ok (.invokespecial index, 3)) : a_Sd X pc (t_obi (pc + 3)) := by
  obtain ⟨p, l', e, R', s, m, args, below, meth, c, Q, D', G', N0', nL, q0, σ0⟩ := X
  obtain ⟨rfl, rfl, rfl, rfl, rfl⟩ := Y
  obtain ⟨hx, hb, hml, hr, hlk, hown, hts, hK, hN, hXF⟩ := C
  intro k L st σ kc ks h hk q H locs ls hRr hl hL hst hS hq
  unfold t_obi at h
  split at h
  · rename_i h9 st'
    obtain ⟨ea, h⟩ := a_ge h
    have ea := of_decide_eq_true ea
    refine W.objInit hx hb hown (hts _ hlink) (hts _ hinst) (hts _ hcode) rfl (by rw [hml]; exact hl.1) (rest := st'.map (a_val q)) rfl hd hR.1 ?_ (hk _ _ _ _ _ _ h q H locs ls hRr hl hL (a_okT hst) hS hq)
    show 2 * 0 + _ + 12 ≤ _
    rw [a_sum]
    have := hR.2
    omega
  · exact h.elim
theorem s_new (C : a_C X cc rt own) (Y : a_Y X l R D G N0) {ci : Nat} {Cn : String} {T : u_T} (ty0 : Nat → FieldType) (hty : ∀ k, k < n → parseFieldDescriptor (T k).2.2.1 = some (ty0 k)) (hdf : ∀ k, k < n → defaultValue (ty0 k) = if a_int ci k = true then .int 0 else .null) (hc : a_cls[ci]? = some (Cn, T, n)) (hin : ∀ w ∈ u_ws Cn T n, w ∈ lw_g) (hlink : Cond.classLink own index Cn ∈ lw_g) (hinst : Cond.instantiable Cn n ∈ lw_g) (hini : Cond.initialized Cn ∈ lw_g) (hb : bc = R.cells ∧ bs = R.slots) (hd : decode cc pc = .ok (.new index, 3)) : a_Sd X pc (t_new ci n bc bs (pc + 3)) := by
  obtain ⟨p, l', e, R', s, m, args, below, meth, c, Q, D', G', N0', nL, q0, σ0⟩ := X
  obtain ⟨rfl, rfl, rfl, rfl, rfl⟩ := Y
  obtain ⟨hx, hb1, hml, hr, hlk, hown, hts, hK, hN, hXF⟩ := C
  obtain ⟨rfl, rfl⟩ := hb
  intro k L st σ kc ks h hk q H locs ls hRr hl hL hst hS hq
  obtain ⟨g1, g2, hh, f1, f2, f3, h⟩ := a_cg2 h
  have hKn := hK.1 ci _ hc
  refine W.newcK hx hb1 hown (hts _ hlink) (hts _ hinst) (hts _ hini) rfl hd g1 g2 hKn.2.1 rfl fun H1 kC hkC e1 z1 o1 => ?_
  refine a_nwJ hRr hl hL hst ⟨Nat.le_trans hS.1 (by omega), fun x h1 h2 => (o1 x (Nat.lt_of_lt_of_le h1 hS.1)).trans (hS.2.1 x h1 h2), hS.2.2⟩ hq f1 f3 (Nat.le_trans hN hS.1) (fun h' w e' => ?_) (fun h' w => (hRr.1 h' w).2.kept (o1 _ (hRr.1 h' w).2.lt)) ?_ (hk _ _ _ _ _ _ h)
  · have := (hRr.1 h' w).2.lt
    have e'' : q h' = H.size := e'
    dsimp only at this
    omega
  · rw [a_E_o (ci := ci) (n := n) (by rw [f2]) (by rw [f2]) (a_c4 hc)]
    refine ⟨_, hc, (u_born ty0 hts hin hKn hkC e1 hty).to (fun j hj => ?_)⟩
    rw [a_vpV hj, hdf j hj]
    unfold a_fv
    rw [a_new_1, a_new_2]
    rfl
theorem s_newi (C : a_C X cc rt own) (Y : a_Y X l R D G N0) (hn : n ≤ 1000) (harr : Cond.arrayClass .int ∈ lw_g) (hb : bc = R.cells ∧ bs = R.slots) (hd : decode cc pc = .ok (.newarray .int, 2)) : a_Sd X pc (t_newi n bc bs (pc + 2)) := by
  obtain ⟨p, l', e, R', s, m, args, below, meth, c, Q, D', G', N0', nL, q0, σ0⟩ := X
  obtain ⟨rfl, rfl, rfl, rfl, rfl⟩ := Y
  obtain ⟨hx, hb1, hml, hr, hlk, hown, hts, hK, hN, hXF⟩ := C
  obtain ⟨rfl, rfl⟩ := hb
  intro k L st σ kc ks h hk q H locs ls hRr hl hL hst hS hq
  unfold t_newi at h
  split at h
  · rename_i x st'
    obtain ⟨rfl, h⟩ := h
    obtain ⟨g1, g2, hh, f1, f2, f3, h⟩ := a_cg2 h
    have hn2 : (Int32.ofNat n).toNatClampNeg = n := nI_clamp (by omega)
    refine va_newaK hx hb1 (atype := .int) (hts _ harr) rfl hd rfl (nI_pos (by omega)) hn2 ?_ g1 g2 rfl fun H1 cA e1 z1 o1 hAr hNm => ?_
    · show n * 4 ≤ 536870912
      omega
    have hcA : cA = G'.1 := by
      have h9 : s.vm.findClass ("[" ++ FieldType.int.toString) = some G'.1 := (hK.2 0 _ rfl).2
      exact Option.some.inj (hNm.symm.trans h9)
    subst hcA
    refine a_nwJ hRr hl hL (a_okT hst) ⟨Nat.le_trans hS.1 (by omega), fun x h1 h2 => (o1 x (Nat.lt_of_lt_of_le h1 hS.1)).trans (hS.2.1 x h1 h2), hS.2.2⟩ hq f1 f3 (Nat.le_trans hN hS.1) (fun h' w e' => ?_) (fun h' w => (hRr.1 h' w).2.kept (o1 _ (hRr.1 h' w).2.lt)) ?_ (hk _ _ _ _ _ _ h)
    · have := (hRr.1 h' w).2.lt
      have e'' : q h' = H.size := e'
      dsimp only at this
      omega
    · rw [a_E_4 (by rw [f2])]
      show H1[H.size]? = some (vp_cell _ _)
      rw [e1, vp_cell_i, f2, a_new_1]
      rfl
  · exact h.elim
theorem s_newq (C : a_C X cc rt own) (Y : a_Y X l R D G N0) (hn : n ≤ 1000) (hlink : Cond.classLink own index RX1 ∈ lw_g) (hb : bc = R.cells ∧ bs = R.slots) (hd : decode cc pc = .ok (.anewarray index, 3)) : a_Sd X pc (t_newq n bc bs (pc + 3)) := by
  obtain ⟨p, l', e, R', s, m, args, below, meth, c, Q, D', G', N0', nL, q0, σ0⟩ := X
  obtain ⟨rfl, rfl, rfl, rfl, rfl⟩ := Y
  obtain ⟨hx, hb1, hml, hr, hlk, hown, hts, hK, hN, hXF⟩ := C
  obtain ⟨rfl, rfl⟩ := hb
  intro k L st σ kc ks h hk q H locs ls hRr hl hL hst hS hq
  unfold t_newq at h
  split at h
  · rename_i x st'
    obtain ⟨rfl, h⟩ := h
    obtain ⟨g1, g2, hh, f1, f2, f3, h⟩ := a_cg2 h
    have hn2 : (Int32.ofNat n).toNatClampNeg = n := nI_clamp (by omega)
    refine W.anew hx hb1 hown (hts _ hlink) (va_AO.use hXF.1) rfl hd rfl (nI_pos (by omega)) (by rw [hn2]; omega) g1 (by rw [hn2]; exact g2) fun cA kA comp k1 k2 k3 k4 => ?_
    rw [hn2]
    have hcA : cA = G'.2.1 := by
      obtain ⟨kA', comp', j1, j2, j3, j4⟩ := (hK.2 1 _ rfl).2
      exact Option.some.inj (k1.symm.trans j4)
    subst hcA
    generalize hH1 : H.push ({ cls := G'.2.1, slots := Array.replicate n .null, vm := .none } : Cell) = H1
    have z1 : H1.size = H.size + 1 := by rw [← hH1, Array.size_push]
    have e1 : H1[H.size]? = some (arrV G'.2.1 n (fun _ => .null)) := by rw [← hH1, Array.getElem?_push_size, ← arrV_new]
    have o1 : ∀ q : Nat, q < H.size → H1[q]? = H[q]? := fun q hq => by rw [← hH1, Array.getElem?_push, if_neg (Nat.ne_of_lt hq)]
    refine a_nwJ hRr hl hL (a_okT hst) ⟨Nat.le_trans hS.1 (by omega), fun x h1 h2 => (o1 x (Nat.lt_of_lt_of_le h1 hS.1)).trans (hS.2.1 x h1 h2), hS.2.2⟩ hq f1 f3 (Nat.le_trans hN hS.1) (fun h' w e' => ?_) (fun h' w => (hRr.1 h' w).2.kept (o1 _ (hRr.1 h' w).2.lt)) ?_ (hk _ _ _ _ _ _ h)
    · have := (hRr.1 h' w).2.lt
      have e'' : q h' = H.size := e'
      dsimp only at this
      omega
    · rw [a_E_5 (by rw [f2])]
      show H1[H.size]? = some (vp_cell _ _)
      rw [e1, vp_cell_q, f2]
      simp only [a_new_2]
      rfl
  · exact h.elim
end AO
end
section
/-! ===== constructors' calls, clone, new int[4][8] ===== -/
section AI
variable {X : a_X} {cc bytes : ByteArray} {rt ret : Option FieldType} {own : String} {pc n index maxL bc bs : Nat} {l : Launch} {R rm : Room} {D : va_G} {G : aG} {N0 : Nat} {y : MethodName} {spec : aP}
theorem a_split {st As : List aV} {hh n : Nat} {q : Nat → Nat} (hAs : (st.take (n + 1)).reverse = .inr (some hh) :: As) : st.map (a_val q) = (As.map (a_val q)).reverse ++ .ref (q hh) :: (st.drop (n + 1)).map (a_val q) := by
  have e1 : st.take (n + 1) = As.reverse ++ [.inr (some hh)] := by
    have := congrArg List.reverse hAs
    rw [List.reverse_reverse, List.reverse_cons] at this
    exact this
  have e2 : st.map (a_val q) = (st.take (n + 1) ++ st.drop (n + 1)).map (a_val q) := by rw [List.take_append_drop]
  rw [e2, List.map_append, e1, List.map_append, ← List.map_reverse]
  simp [a_val, va_rf]
theorem s_callI (C : a_C X cc rt own) (Y : a_Y X l R D G N0) (hM : a_Con l D G N0 y bytes maxL none rm spec) (hrec : ∀ as σ K, spec as σ K → ∃ h As, as = .inr (some h) :: As) (hcode : Cond.code y bytes maxL none ∈ lw_g) (hlink : Cond.methodLink own index y ∈ lw_g) (hinst : Cond.instanceMethod y ∈ lw_g) (hini : Cond.initialized y.cls ∈ lw_g) (hnm : y.name = "<init>")
    (hd : y.cls ≠ "java/lang/invoke/MethodHandle" ∧ y.cls ≠ "java/lang/invoke/VarHandle" ∧ (parseMethodDescriptor y.desc).map (fun d => d.parameters.length) = some n) (hR : rm.frames + 1 ≤ R.frames ∧ 8 + (maxL + 11) + rm.locals ≤ R.locals) (hb : bc = R.cells ∧ bs = R.slots) (hdg : decode cc pc = .ok (.invokespecial index, 3)) : a_Sd X pc (t_call (n + 1) rm.cells rm.slots bc bs spec (pc + 3)) := by
  obtain ⟨p, l', e, R', s, m, args, below, meth, c, Q, D', G', N0', nL, q0, σ0⟩ := X
  obtain ⟨rfl, rfl, rfl, rfl, rfl⟩ := Y
  obtain ⟨hx, hb1, hml, hr, hlk, hown, hts, hK, hN, hXF⟩ := C
  obtain ⟨rfl, rfl⟩ := hb
  intro k L st σ kc ks h hk q H locs ls hRr hl hL hst hS hq
  obtain ⟨g1, g2, g3, g4, hsp⟩ := a_cg h
  have cb := callB_of (R := R') (Ts := lw_g) (ws := Cond.code y bytes maxL none :: lw_g) (ws' := lw_g) (rm := rm) (own := own) (index := index) n hts (a_gin hcode) rfl rfl rfl (hts _ hini) (hts _ hlink) hd hR
  have hta : ∀ v ∈ (st.take (n + 1)).reverse, a_ok σ v := fun v hv => hst v (List.mem_of_mem_take (List.mem_reverse.mp hv))
  obtain ⟨hh, As, hAs⟩ := hrec _ _ _ hsp
  have hlen : As.length = n := by
    have := congrArg List.length hAs
    rw [List.length_reverse, List.length_take, List.length_cons] at this
    omega
  have hst2 := a_split (q := q) hAs
  have hM1 := hM _ σ _ q hsp hta
  rw [hAs] at hM1
  refine a_callx (va_runI (b := q hh) (As := As.map (a_val q)) (rest := (st.drop (n + 1)).map (a_val q)) ⟨hx, hb1, hml, hown, hts⟩ hM1 ⟨cb, hnm, hts _ hinst⟩ ⟨a_blind, fun U hU hW => ⟨rfl, ?_, ?_, ?_, hXF.warm hW⟩⟩ rfl (by rw [List.length_map]; exact hlen) hl.1 hst2 ?_ hdg ⟨g3, g4⟩) hS (fun r σ' q' H1 locs1 hKK hok hqq hR1 hS1 => ?_)
  · rw [hU]; exact Nat.le_trans hN hS.1
  · rw [hU]; exact hRr
  · exact va_K.moved hW.alike hK
  · show 2 * 0 + _ ≤ 8
    rw [a_sum, List.length_drop]
    omega
  · have hd1 : ∀ v ∈ st.drop (n + 1), a_ok σ v := fun v hv => hst v (List.mem_of_mem_drop hv)
    have hq1 : ∀ h, σ.2.2 h = true ∨ h = 63 → q' h = q h := fun h w => (hqq h w).1
    have hm1 : ∀ h, σ.2.2 h = true → σ'.2.2 h = true := fun h w => (hqq h (Or.inl w)).2 w
    have := hk _ _ _ _ _ _ hKK q' H1 locs1 ls hR1 (a_ls_q hl hL hq1) (fun i v hv => a_ok_up (hL i v hv) hm1) (fun v hv => by
      rcases List.mem_append.mp hv with w | w
      · exact hok v (by cases r with | none => cases w | some z => exact congrArg some (List.mem_singleton.mp w).symm)
      · exact a_ok_up (hd1 v w) hm1) hS1 (fun h w => ⟨((hqq h (w.elim (fun z => Or.inl ((hq h w).2 z)) Or.inr)).1).trans (hq h w).1, fun z => hm1 h ((hq h w).2 z)⟩)
    rw [List.map_append, a_mapq hd1 hq1] at this
    exact this
/-- the nest mate's constructor -/
theorem s_callIN (C : a_C X cc rt RX2) (Y : a_Y X l R D G N0) (hM : a_Con l D G N0 yX0_init bytes maxL none rm spec) (hrec : ∀ as σ K, spec as σ K → ∃ h As, as = .inr (some h) :: As) (hcode : Cond.code yX0_init bytes maxL none ∈ lw_g) (hinst : Cond.instanceMethod yX0_init ∈ lw_g) (hini : Cond.initialized RX0 ∈ lw_g)
    (hR : rm.frames + 1 ≤ R.frames ∧ 8 + (maxL + 11) + rm.locals ≤ R.locals) (hb : bc = R.cells ∧ bs = R.slots) (hdg : decode cc pc = .ok (.invokespecial 25, 3)) : a_Sd X pc (t_call 1 rm.cells rm.slots bc bs spec (pc + 3)) := by
  obtain ⟨p, l', e, R', s, m, args, below, meth, c, Q, D', G', N0', nL, q0, σ0⟩ := X
  obtain ⟨rfl, rfl, rfl, rfl, rfl⟩ := Y
  obtain ⟨hx, hb1, hml, hr, hlk, hown, hts, hK, hN, hXF⟩ := C
  obtain ⟨rfl, rfl⟩ := hb
  intro k L st σ kc ks h hk q H locs ls hRr hl hL hst hS hq
  obtain ⟨g1, g2, g3, g4, hsp⟩ := a_cg h
  have cb := va_cnB (R := R') (Ts := lw_g) (ws := Cond.code yX0_init bytes maxL none :: lw_g) (ws' := lw_g) (rm := rm) 0 hts (a_gin hcode) rfl rfl rfl hXF.2.2.2 (hts _ hini) (by decide +kernel) hR
  have hta : ∀ v ∈ (st.take (0 + 1)).reverse, a_ok σ v := fun v hv => hst v (List.mem_of_mem_take (List.mem_reverse.mp hv))
  obtain ⟨hh, As, hAs⟩ := hrec _ _ _ hsp
  have hlen : As.length = 0 := by
    have := congrArg List.length hAs
    rw [List.length_reverse, List.length_take, List.length_cons] at this
    omega
  have hst2 := a_split (q := q) (n := 0) hAs
  have hM1 := hM _ σ _ q hsp hta
  rw [show (st.take 1).reverse = _ from hAs] at hM1
  refine a_callx (va_runIN (b := q hh) (As := As.map (a_val q)) (rest := (st.drop (0 + 1)).map (a_val q)) ⟨hx, hb1, hml, hown, hts⟩ hM1 ⟨cb, rfl, hts _ hinst⟩ ⟨a_blind, fun U hU hW => ⟨rfl, ?_, ?_, ?_, hXF.warm hW⟩⟩ rfl (by rw [List.length_map]; exact hlen) hl.1 hst2 ?_ hdg ⟨g3, g4⟩) hS (fun r σ' q' H1 locs1 hKK hok hqq hR1 hS1 => ?_)
  · rw [hU]; exact Nat.le_trans hN hS.1
  · rw [hU]; exact hRr
  · exact va_K.moved hW.alike hK
  · show 2 * 0 + _ ≤ 8
    rw [a_sum, List.length_drop]
    omega
  · have hd1 : ∀ v ∈ st.drop (0 + 1), a_ok σ v := fun v hv => hst v (List.mem_of_mem_drop hv)
    have hq1 : ∀ h, σ.2.2 h = true ∨ h = 63 → q' h = q h := fun h w => (hqq h w).1
    have hm1 : ∀ h, σ.2.2 h = true → σ'.2.2 h = true := fun h w => (hqq h (Or.inl w)).2 w
    have := hk _ _ _ _ _ _ hKK q' H1 locs1 ls hR1 (a_ls_q hl hL hq1) (fun i v hv => a_ok_up (hL i v hv) hm1) (fun v hv => by
      rcases List.mem_append.mp hv with w | w
      · exact hok v (by cases r with | none => cases w | some z => exact congrArg some (List.mem_singleton.mp w).symm)
      · exact a_ok_up (hd1 v w) hm1) hS1 (fun h w => ⟨((hqq h (w.elim (fun z => Or.inl ((hq h w).2 z)) Or.inr)).1).trans (hq h w).1, fun z => hm1 h ((hq h w).2 z)⟩)
    rw [List.map_append, a_mapq hd1 hq1] at this
    exact this
end AI
/-! the world as a list, for clone -/
def a_wl (G : aG) (q : Nat → Nat) (σ : aS) : va_W := ((List.range 256).filter (fun h => σ.2.2 h)).map (fun h => (q h, a_E G q σ h))
theorem a_wl_in {D : va_G} {G : aG} {N0 : Nat} {q : Nat → Nat} {σ : aS} {H : Heap} (hR : a_R D G N0 q σ H) {h : Nat} (hh : σ.2.2 h = true) : ∃ j : Nat, (a_wl G q σ)[j]? = some (q h, a_E G q σ h) :=
  List.getElem?_of_mem (List.mem_map.mpr ⟨h, List.mem_filter.mpr ⟨List.mem_range.mpr (hR.1 h hh).1.2.1, hh⟩, rfl⟩)
theorem a_wl_P {D : va_G} {G : aG} {N0 : Nat} {q : Nat → Nat} {σ : aS} {H : Heap} (hR : a_R D G N0 q σ H) : va_P D a_cls (a_wl G q σ) H := by
  intro k x hx
  obtain ⟨h, hh, rfl⟩ := List.mem_map.mp (List.mem_of_getElem? hx)
  exact (hR.1 h (List.mem_filter.mp hh).2).2
theorem a_wl_D {D : va_G} {G : aG} {N0 : Nat} {q : Nat → Nat} {σ : aS} {H : Heap} (hR : a_R D G N0 q σ H) : va_D (fun a => N0 ≤ a) (a_wl G q σ) := by
  refine ⟨fun i j x y hx hy e => ?_, fun k x hx => ?_⟩
  · unfold a_wl at hx hy
    rw [List.getElem?_map] at hx hy
    cases h1 : ((List.range 256).filter (fun h => σ.2.2 h))[i]? with
    | none => rw [h1] at hx; cases hx
    | some a =>
      cases h2 : ((List.range 256).filter (fun h => σ.2.2 h))[j]? with
      | none => rw [h2] at hy; cases hy
      | some b =>
        rw [h1] at hx
        rw [h2] at hy
        cases hx
        cases hy
        have ha := (List.mem_filter.mp (List.mem_of_getElem? h1)).2
        have hb := (List.mem_filter.mp (List.mem_of_getElem? h2)).2
        have hab : a = b := hR.2.1 a b ha hb e
        have hnd : ((List.range 256).filter (fun h => σ.2.2 h)).Nodup := List.Pairwise.filter _ List.nodup_range
        exact (List.getElem?_inj (List.getElem?_eq_some_iff.mp h1).1 hnd).mp (by rw [h1, h2, hab])
  · obtain ⟨h, hh, rfl⟩ := List.mem_map.mp (List.mem_of_getElem? hx)
    exact (hR.1 h (List.mem_filter.mp hh).2).1.1
def t_clone (bc bs nx : Nat) : aT := fun k L st σ kc ks => match st with
  | .inr (some h) :: st' => a_g (a_is σ h 4 8) (a_g (decide (st'.length ≤ 8)) (a_gb kc ks 1 8 bc bs (∃ h0, σ.2.2 h0 = false ∧ kd h0 = (4, 8) ∧ (h0 < 256 ∧ h0 ≠ 63) ∧ k nx L (.inr (some h0) :: st') (a_new σ h0 (σ.1 h)) (kc + 1) (ks + 8))))
  | _ => False
def t_cast (nx : Nat) : aT := fun k L st σ kc ks => match st with
  | .inr (some h) :: st' => a_g (a_isA σ h 4) (k nx L (.inr (some h) :: st') σ kc ks)
  | _ => False
section AQ
variable {X : a_X} {cc bytes : ByteArray} {rt ret : Option FieldType} {own : String} {pc n index maxL bc bs : Nat} {l : Launch} {R rm : Room} {D : va_G} {G : aG} {N0 : Nat}
theorem s_cast (C : a_C X cc rt own) (hlink : Cond.classLink own index "[I" ∈ lw_g) (hd : decode cc pc = .ok (.checkcast index, 3)) : a_Sd X pc (t_cast (pc + 3)) := by
  obtain ⟨p, l', e, R', s, m, args, below, meth, c, Q, D', G', N0', nL, q0, σ0⟩ := X
  obtain ⟨hx, hb1, hml, hr, hlk, hown, hts, hK, hN, hXF⟩ := C
  intro k L st σ kc ks h hk q H locs ls hRr hl hL hst hS hq
  unfold t_cast at h
  split at h
  · rename_i hh st'
    obtain ⟨ea, h⟩ := a_ge h
    obtain ⟨e1, e2⟩ := a_isAE ea
    have hat := (hRr.1 hh e1).2
    rw [a_E_4 e2] at hat
    have hnm : s.vm.findClass "[I" = some G'.1 := (hK.2 0 _ rfl).2
    exact va_castA (D := D') hx hb1 hown (hts _ hlink) (a_P1 hat) 0 rfl hnm hd (hk _ _ _ _ _ _ h q H locs ls hRr hl hL hst hS hq)
  · exact h.elim
theorem s_clone (C : a_C X cc rt own) (Y : a_Y X l R D G N0) (hlink : Cond.methodLink own index ⟨"[I", "clone", "()Ljava/lang/Object;"⟩ ∈ lw_g) (hsame : Cond.sameMethod "[I" "java/lang/Object" "clone" "()Ljava/lang/Object;" ∈ lw_g) (hnat : Cond.native ⟨"java/lang/Object", "clone", "()Ljava/lang/Object;"⟩ ∈ lw_g) (hinst : Cond.instanceMethod ⟨"java/lang/Object", "clone", "()Ljava/lang/Object;"⟩ ∈ lw_g) (hsel : Cond.selects "[I" ⟨"[I", "clone", "()Ljava/lang/Object;"⟩ ⟨"java/lang/Object", "clone", "()Ljava/lang/Object;"⟩ ∈ lw_g)
    (hR : 1 ≤ R.frames ∧ 22 ≤ R.locals) (hb : bc = R.cells ∧ bs = R.slots) (hd : decode cc pc = .ok (.invokevirtual index, 3)) : a_Sd X pc (t_clone bc bs (pc + 3)) := by
  obtain ⟨p, l', e, R', s, m, args, below, meth, c, Q, D', G', N0', nL, q0, σ0⟩ := X
  obtain ⟨rfl, rfl, rfl, rfl, rfl⟩ := Y
  obtain ⟨hx, hb1, hml, hr, hlk, hown, hts, hK, hN, hXF⟩ := C
  obtain ⟨rfl, rfl⟩ := hb
  intro k L st σ kc ks h hk q H locs ls hRr hl hL hst hS hq
  unfold t_clone at h
  split at h
  · rename_i hh st'
    obtain ⟨ea, h⟩ := a_ge h
    obtain ⟨eb, h⟩ := a_ge h
    have eb := of_decide_eq_true eb
    obtain ⟨g1, g2, h0, f1, f2, f3, h⟩ := a_cg2 h
    obtain ⟨e1, e2, e3⟩ := a_isE ea
    obtain ⟨j, hj⟩ := a_wl_in hRr e1
    rw [a_E_4 e2, e3] at hj
    have hnm : s.vm.findClass "[I" = some G'.1 := (hK.2 0 _ rfl).2
    refine va_clone (D := D') (A := fun a => N0' ≤ a) (H0 := s.heap) (ty := .int) hx hb1 (by rw [hml]; exact hl.1.symm) hown (hts _ hlink) (hts _ hsame) (hts _ hnat) (hts _ hinst) (hts _ hsel) hXF.2.2.1 hK (a_wl_P hRr) (a_wl_D hRr) hS (fun a ha => Nat.le_trans hN ha) j 0 hj rfl hnm ?_ hR.1 ?_ g1 g2 hd (fun qn H1 hK1 hP1 hD1 hS1 => ?_)
    · intro i v hv
      have hlt : i < 8 := by
        have := (Array.getElem?_eq_some_iff.mp hv).1
        rw [vp_cell_i, arrV_size] at this
        exact this
      rw [vp_cell_i, arrV_read _ _ hlt] at hv
      cases hv
      rfl
    · rw [a_sum]
      have := hR.2
      omega
    · have hP2 : ∀ h', σ.2.2 h' = true → ∃ i : Nat, ((a_wl G' q σ) ++ [(qn, .inl (G'.1, 8, .inl (σ.1 hh)))])[i]? = some (q h', a_E G' q σ h') ∧ i < (a_wl G' q σ).length := fun h' w => by
        obtain ⟨i, hi⟩ := a_wl_in hRr w
        have hil := (List.getElem?_eq_some_iff.mp hi).1
        exact ⟨i, by rw [List.getElem?_append_left hil]; exact hi, hil⟩
      have hlast : ((a_wl G' q σ) ++ [(qn, .inl (G'.1, 8, .inl (σ.1 hh)))])[(a_wl G' q σ).length]? = some (qn, (.inl (G'.1, 8, .inl (σ.1 hh)) : va_E)) := by simp
      refine a_nwJ hRr hl hL (a_okT hst) hS1 hq f1 f3 (hD1.2 _ _ hlast) (fun h' w e' => ?_) (fun h' w => ?_) ?_ (hk _ _ _ _ _ _ h)
      · obtain ⟨i, hi, hil⟩ := hP2 h' w
        have := hD1.1 _ _ _ _ hi hlast e'
        omega
      · obtain ⟨i, hi, -⟩ := hP2 h' w
        exact hP1 i _ hi
      · rw [a_E_4 (by rw [f2]), f2, a_new_1]
        exact hP1 _ _ hlast
  · exact h.elim
end AQ
/-! new int[4][8]: handles 1 and 6 .. 9 -/
def a_mnh (h : Nat) : Bool := decide (h = 1) || (decide (6 ≤ h) && decide (h ≤ 9))
def a_mn (σ : aS) : aS := (fun h k => if a_mnh h = true then 0 else σ.1 h k, fun h k => if h = 1 then (if k < 4 then some (6 + k) else none) else if a_mnh h = true then none else σ.2.1 h k, fun h => if a_mnh h = true then true else σ.2.2 h)
def t_mna (bc bs nx : Nat) : aT := fun k L st σ kc ks => match st with
  | .inl x :: .inl y :: st' => (x = 8 ∧ y = 4) ∧ a_gb kc ks 5 36 bc bs ((∀ h, a_mnh h = true → σ.2.2 h = false) ∧ k nx L (.inr (some 1) :: st') (a_mn σ) (kc + 5) (ks + 36))
  | _ => False
theorem a_outer (c : ClassId) (N h0 : Nat) : ∀ i : Nat, Jvm.Free.Multi.outerC c N h0 i = arrV c N (fun j => va_rf (if j < i then some (h0 + 1 + j) else none))
  | 0 => by
    show ({ cls := c, slots := Array.replicate N .null, vm := .none } : Cell) = _
    rw [arrV_new]
    refine congrArg (arrV c N) (funext fun j => ?_)
    simp [va_rf]
  | i + 1 => by
    show (Jvm.Free.Multi.outerC c N h0 i).setSlot i (.ref (h0 + 1 + i)) = _
    rw [a_outer c N h0 i, arrV_store]
    refine congrArg (arrV c N) (funext fun j => ?_)
    by_cases e : j = i
    · subst e
      simp [updV, va_rf]
    · by_cases h : j < i
      · simp [updV, e, h, Nat.lt_succ_of_lt h]
      · simp [updV, e, h, show ¬ j < i + 1 by omega]
theorem s_mna {X : a_X} {cc : ByteArray} {rt : Option FieldType} {own : String} {pc index bc bs : Nat} {l : Launch} {R : Room} {D : va_G} {G : aG} {N0 : Nat} (C : a_C X cc rt own) (Y : a_Y X l R D G N0) (hlink : Cond.classLink own index "[[I" ∈ lw_g) (harr : Cond.arrayClass .int ∈ lw_g) (hb : bc = R.cells ∧ bs = R.slots) (hd : decode cc pc = .ok (.multianewarray index 2, 4)) : a_Sd X pc (t_mna bc bs (pc + 4)) := by
  obtain ⟨p, l', e, R', s, m, args, below, meth, c, Q, D', G', N0', nL, q0, σ0⟩ := X
  obtain ⟨rfl, rfl, rfl, rfl, rfl⟩ := Y
  obtain ⟨hx, hb1, hml, hr, hlk, hown, hts, hK, hN, hXF⟩ := C
  obtain ⟨rfl, rfl⟩ := hb
  intro k L st σ kc ks h hk q H locs ls hRr hl hL hst hS hq
  unfold t_mna at h
  split at h
  · rename_i x y st'
    obtain ⟨⟨rfl, rfl⟩, h⟩ := h
    obtain ⟨g1, g2, f1, h⟩ := a_cg2 h
    intro T hT Xs
    obtain ⟨vm₁, cA, comp, -, fA, fC, hO, -, X', step⟩ := Xs.multianewarray2F (ty := .int) hx hown (hts _ hlink) (show (Cond.arrayOver (.array .int)).before args s = true from hXF.2.1) (hts _ harr) (g := F0 m pc ls ((Sum.inl 8 :: Sum.inl 4 :: st' : List aV).map (a_val q))) rfl (by rw [hb1]; exact hd) (n := 4) (k := 8) (rest := st'.map (a_val q)) rfl (by decide) (by decide) (by decide) (by decide) (by decide) rfl rfl (by show kc + (1 + 4) ≤ _; omega) (by show ks + (4 + 4 * 8) ≤ _; omega)
    have hcA : cA = G'.2.2 := Option.some.inj (fA.symm.trans (hK.2 2 _ rfl).2)
    have hcC : comp = G'.1 := Option.some.inj (fC.symm.trans (hK.2 0 _ rfl).2)
    subst hcA
    subst hcC
    have n4 : (4 : Int32).toNatClampNeg = 4 := by decide
    have n8 : (8 : Int32).toNatClampNeg = 8 := by decide
    rw [n4, n8] at X' step
    generalize hF : Jvm.Free.Multi.fill (T.setVm vm₁) G'.2.2 G'.1 4 8 (defaultValue .int) 4 = F at X' step
    have hTh : (T.setVm vm₁).heap = H := hT
    obtain ⟨k1, k2, -, -⟩ := Jvm.Free.Multi.fill_facts (T.setVm vm₁) G'.2.2 G'.1 4 8 (defaultValue .int) 4
    rw [hF, hTh] at k1 k2
    have hold : ∀ x : Nat, x < H.size → F.heap[x]? = H[x]? := fun x hx => by
      have := Jvm.Free.Multi.fill_old (T.setVm vm₁) G'.2.2 G'.1 4 8 (defaultValue .int) (a := x) (by rw [hTh]; exact hx) 4
      rw [hF, hTh] at this
      exact this
    have hrow : ∀ j : Nat, j < 4 → F.heap[H.size + 1 + j]? = some (vp_cell G'.1 (8, .inl (fun _ => 0))) := fun j hj => by
      have := Jvm.Free.Multi.fill_inner (T.setVm vm₁) G'.2.2 G'.1 4 8 (defaultValue .int) 4 j hj
      rw [hF, hTh] at this
      rw [this]
      show some (Jvm.Free.Multi.innerC G'.1 8 (.int 0)) = some (arrV G'.1 8 (fun _ => .int 0))
      rw [← arrV_new]
      rfl
    rw [a_outer] at k2
    have hlt : ∀ h, σ.2.2 h = true → q h < H.size := fun h w => (hRr.1 h w).2.lt
    have hnm : ∀ h, σ.2.2 h = true → a_mnh h = false := fun h w => by
      cases hz : a_mnh h with
      | false => rfl
      | true => rw [f1 h hz] at w; cases w
    have hlv : ∀ h, (a_mn σ).2.2 h = true → a_mnh h = false → σ.2.2 h = true := fun h w z => by
      have w : (if a_mnh h = true then true else σ.2.2 h) = true := w
      rw [z] at w
      exact w
    have hm1 : ∀ h, σ.2.2 h = true → (a_mn σ).2.2 h = true := fun h w => by
      show (if a_mnh h = true then true else σ.2.2 h) = true
      rw [hnm h w]
      exact w
    have ht1 : ∀ h, a_mnh h = true → h = 1 ∨ h = 6 ∨ h = 7 ∨ h = 8 ∨ h = 9 := fun h w => by
      unfold a_mnh at w
      simp only [Bool.or_eq_true, Bool.and_eq_true, decide_eq_true_eq] at w
      omega
    obtain ⟨qn, hqn⟩ : ∃ qn : Nat → Nat, ∀ h, qn h = if a_mnh h = true then (if h = 1 then H.size else H.size + 1 + (h - 6)) else q h := ⟨fun h => _, fun h => rfl⟩
    have hq1 : ∀ h, σ.2.2 h = true ∨ h = 63 → qn h = q h := fun h w => by
      rw [hqn h]
      rcases w with w | w
      · rw [hnm h w]; rfl
      · rw [w]; rfl
    have hEo : ∀ h, σ.2.2 h = true → a_E G' qn (a_mn σ) h = a_E G' q σ h := fun h w => a_E_q (by
        funext k'
        show (if a_mnh h = true then 0 else σ.1 h k') = _
        rw [hnm h w]; rfl) (by
        funext k'
        show (if h = 1 then _ else if a_mnh h = true then none else σ.2.1 h k') = _
        have : h ≠ 1 := fun z => by rw [z] at w; have := hnm 1 w; cases this
        rw [if_neg this, hnm h w]; rfl) (fun k' h' z => hq1 h' (Or.inl (hRr.2.2 h k' h' w z)))
    have hR1 : a_R D' G' N0' qn (a_mn σ) F.heap := by
      refine ⟨fun h w => ?_, fun h h' w w' z => ?_, fun h k' h' w z => ?_⟩
      · by_cases em : a_mnh h = true
        · have hsz : N0' ≤ H.size := Nat.le_trans hN hS.1
          rcases ht1 h em with rfl | rfl | rfl | rfl | rfl
          · refine ⟨⟨by rw [hqn]; exact hsz, by decide, by decide⟩, ?_⟩
            rw [a_E_6 (by rfl)]
            show F.heap[qn 1]? = some (vp_cell _ _)
            rw [hqn 1, vp_cell_q]
            refine k2.trans (congrArg some (congrArg (arrV G'.2.2 4) (funext fun j => ?_)))
            show va_rf (if j < 4 then some (H.size + 1 + j) else none) = va_rf ((if j < 4 then some (6 + j) else none).map qn)
            by_cases hj : j < 4
            · rw [if_pos hj, if_pos hj]
              have e9 : qn (6 + j) = H.size + 1 + j := by
                rw [hqn]
                have : a_mnh (6 + j) = true := by
                  unfold a_mnh
                  simp only [Bool.or_eq_true, Bool.and_eq_true, decide_eq_true_eq]
                  omega
                rw [this, if_pos rfl, if_neg (by omega)]
                omega
              show va_rf (some (H.size + 1 + j)) = va_rf (some (qn (6 + j)))
              rw [e9]
            · rw [if_neg hj, if_neg hj]; rfl
          all_goals
            refine ⟨⟨by rw [hqn]; exact Nat.le_trans hsz (by show H.size ≤ H.size + 1 + _; omega), by decide, by decide⟩, ?_⟩
            rw [a_E_4 (by rfl)]
            show F.heap[qn _]? = some (vp_cell _ _)
            rw [hqn]
            exact hrow _ (by decide)
        · have em : a_mnh h = false := by simpa using em
          have w2 := hlv h w em
          rw [hEo h w2, hq1 h (Or.inl w2)]
          exact ⟨(hRr.1 h w2).1, (hRr.1 h w2).2.kept (hold _ (hlt h w2))⟩
      · rw [hqn h, hqn h'] at z
        by_cases em : a_mnh h = true <;> by_cases em' : a_mnh h' = true
        · rw [em, em', if_pos rfl, if_pos rfl] at z
          have t1 := ht1 h em
          have t2 := ht1 h' em'
          split at z <;> split at z <;> omega
        · have em' : a_mnh h' = false := by simpa using em'
          have := hlt h' (hlv h' w' em')
          rw [em, em', if_pos (rfl : true = true), if_neg (show ¬ (false = true) by decide)] at z
          split at z <;> omega
        · have em : a_mnh h = false := by simpa using em
          have := hlt h (hlv h w em)
          rw [em, em', if_pos (rfl : true = true), if_neg (show ¬ (false = true) by decide)] at z
          split at z <;> omega
        · have em : a_mnh h = false := by simpa using em
          have em' : a_mnh h' = false := by simpa using em'
          rw [em, em', if_neg (show ¬ (false = true) by decide), if_neg (show ¬ (false = true) by decide)] at z
          exact hRr.2.1 h h' (hlv h w em) (hlv h' w' em') z
      · have z : (if h = 1 then (if k' < 4 then some (6 + k') else none) else if a_mnh h = true then none else σ.2.1 h k') = some h' := z
        by_cases e1 : h = 1
        · rw [if_pos e1] at z
          split at z
          · cases z
            show (if a_mnh (6 + k') = true then true else _) = true
            rw [show a_mnh (6 + k') = true by
              unfold a_mnh
              simp only [Bool.or_eq_true, Bool.and_eq_true, decide_eq_true_eq]
              omega]
            rfl
          · cases z
        · rw [if_neg e1] at z
          by_cases em : a_mnh h = true
          · rw [if_pos em] at z; cases z
          · rw [if_neg em] at z
            have em : a_mnh h = false := by simpa using em
            exact hm1 h' (hRr.2.2 h k' h' (hlv h w em) z)
    have hS1 : va_S (fun a => N0' ≤ a) s.heap F.heap locs := ⟨by rw [k1]; have := hS.1; omega, fun x h1 h2 => (hold x (Nat.lt_of_lt_of_le h1 hS.1)).trans (hS.2.1 x h1 h2), hS.2.2⟩
    have := hk _ _ _ _ _ _ h qn F.heap locs ls hR1 (a_ls_q hl hL hq1) (fun i v hv => a_ok_up (hL i v hv) hm1) (a_okC (fun h' e' => by cases e'; exact Or.inl rfl) (fun v hv => a_ok_up (a_okT (a_okT hst) v hv) hm1)) hS1 (fun h w => ⟨(hq1 h (w.elim (fun z => Or.inl ((hq h w).2 z)) Or.inr)).trans (hq h w).1, fun z => hm1 h ((hq h w).2 z)⟩)
    rw [List.map_cons, a_mapq (a_okT (a_okT hst)) hq1] at this
    have e9 : a_val qn (.inr (some 1)) = .ref H.size := congrArg (fun z => va_rf (some z)) (hqn 1)
    rw [e9] at this
    obtain ⟨t, a1, b1⟩ := this F rfl X'
    refine ⟨t, step t ?_, b1⟩
    have e : T.heap.size = H.size := by rw [hT]
    rw [e]
    exact a1
  · exact h.elim
end
section
/-! ===== words of the tables, by their places ===== -/
abbrev a_rm (n c s : Nat) : Room := { frames := n, cells := c, slots := s, locals := 40 * n }
theorem a_tok_of2 {pc : Nat} {dflt lo hi : Int} {offs : Array Int} {ts : List (Int32 × Nat)} {d : Nat} (n : Nat) (h1 : (pc : Int) + dflt = (d : Int)) (hn : hi = lo + n) (hts : ∀ v ∈ ts.map Prod.fst, lo ≤ v.toInt ∧ v.toInt ≤ hi)
    (h2 : ((List.range (n + 1)).all (fun j => match offs[j]?, ts.lookup (Int32.ofInt (lo + j)) with
      | some off, some t => decide ((pc : Int) + off = (t : Int))
      | _, _ => false)) = true) : a_tok pc dflt lo hi offs ts d := by
  refine a_tok_of n h1 hn hts (fun j hj => ?_)
  have h3 := List.all_eq_true.mp h2 j (List.mem_range.mpr hj)
  split at h3
  · rename_i off t e1 e2
    exact ⟨off, e1, t, e2, of_decide_eq_true h3⟩
  · cases h3
theorem in_X0 : ∀ w ∈ u_ws RX0 TX0 3, w ∈ lw_g := by decide +kernel
theorem in_X1 : ∀ w ∈ u_ws RX1 TX1 7, w ∈ lw_g := by decide +kernel
theorem in_X2 : ∀ w ∈ u_ws RX2 TX2 10, w ∈ lw_g := by decide +kernel
theorem in_X3 : ∀ w ∈ u_ws RX3 TX3 25, w ∈ lw_g := by decide +kernel
theorem df_X0 : ∀ k, k < 3 → defaultValue (tyX0 k) = if a_int 0 k = true then .int 0 else .null := by decide +kernel
theorem df_X1 : ∀ k, k < 7 → defaultValue (tyX1 k) = if a_int 1 k = true then .int 0 else .null := by decide +kernel
theorem df_X2 : ∀ k, k < 10 → defaultValue (tyX2 k) = if a_int 2 k = true then .int 0 else .null := by decide +kernel
theorem df_X3 : ∀ k, k < 25 → defaultValue (tyX3 k) = if a_int 3 k = true then .int 0 else .null := by decide +kernel
theorem ml_X0_3 : Cond.methodLink RX0 3 objectInit ∈ lw_g := a_in (i := 55) rfl rfl
theorem im_obj : Cond.instanceMethod objectInit ∈ lw_g := a_in (i := 44) rfl rfl
theorem co_obj : Cond.code objectInit ⟨#[0xb1]⟩ 1 none ∈ lw_g := a_in (i := 45) rfl rfl
theorem ac_int : Cond.arrayClass .int ∈ lw_g := a_in (i := 68) rfl rfl
theorem lk_X0_9 : Cond.fieldLink RX0 9 (TX0 0).1 (TX0 0).2.1 (TX0 0).2.2.1 ∈ lw_g := a_in (i := 56) rfl rfl
theorem lk_X0_15 : Cond.fieldLink RX0 15 (TX0 1).1 (TX0 1).2.1 (TX0 1).2.2.1 ∈ lw_g := a_in (i := 57) rfl rfl
theorem lk_X0_19 : Cond.fieldLink RX0 19 (TX0 2).1 (TX0 2).2.1 (TX0 2).2.2.1 ∈ lw_g := a_in (i := 59) rfl rfl
theorem co_X0_timesFrom : Cond.code yX0_timesFrom cX0_timesFrom 4 (some .int) ∈ lw_g := a_in (i := 283) rfl rfl
theorem ii_X0 : Cond.initialized RX0 ∈ lw_g := a_in (i := 35) rfl rfl
theorem ml_X0_22 : Cond.methodLink RX0 22 yX0_timesFrom ∈ lw_g := a_in (i := 280) rfl rfl
theorem im_X0_timesFrom : Cond.instanceMethod yX0_timesFrom ∈ lw_g := a_in (i := 282) rfl rfl
theorem se_X0_timesFrom : Cond.selects RX0 yX0_timesFrom yX0_timesFrom ∈ lw_g := a_in (i := 19) rfl rfl
theorem ml_X1_1 : Cond.methodLink RX1 1 objectInit ∈ lw_g := a_in (i := 73) rfl rfl
theorem lk_X1_7 : Cond.fieldLink RX1 7 (TX1 0).1 (TX1 0).2.1 (TX1 0).2.2.1 ∈ lw_g := a_in (i := 74) rfl rfl
theorem lk_X1_13 : Cond.fieldLink RX1 13 (TX1 1).1 (TX1 1).2.1 (TX1 1).2.2.1 ∈ lw_g := a_in (i := 76) rfl rfl
theorem lk_X1_16 : Cond.fieldLink RX1 16 (TX1 2).1 (TX1 2).2.1 (TX1 2).2.2.1 ∈ lw_g := a_in (i := 78) rfl rfl
theorem lk_X1_19 : Cond.fieldLink RX1 19 (TX1 3).1 (TX1 3).2.1 (TX1 3).2.2.1 ∈ lw_g := a_in (i := 80) rfl rfl
theorem lk_X1_22 : Cond.fieldLink RX1 22 (TX1 4).1 (TX1 4).2.1 (TX1 4).2.2.1 ∈ lw_g := a_in (i := 82) rfl rfl
theorem lk_X1_26 : Cond.fieldLink RX1 26 (TX1 5).1 (TX1 5).2.1 (TX1 5).2.2.1 ∈ lw_g := a_in (i := 84) rfl rfl
theorem ml_X2_1 : Cond.methodLink RX2 1 objectInit ∈ lw_g := a_in (i := 43) rfl rfl
theorem cl_X2_9 : Cond.classLink RX2 9 "[[I" ∈ lw_g := a_in (i := 46) rfl rfl
theorem lk_X2_11 : Cond.fieldLink RX2 11 (TX2 0).1 (TX2 0).2.1 (TX2 0).2.2.1 ∈ lw_g := a_in (i := 102) rfl rfl
theorem cl_X2_14 : Cond.classLink RX2 14 RX1 ∈ lw_g := a_in (i := 48) rfl rfl
theorem lk_X2_16 : Cond.fieldLink RX2 16 (TX2 1).1 (TX2 1).2.1 (TX2 1).2.2.1 ∈ lw_g := a_in (i := 103) rfl rfl
theorem lk_X2_20 : Cond.fieldLink RX2 20 (TX2 2).1 (TX2 2).2.1 (TX2 2).2.2.1 ∈ lw_g := a_in (i := 104) rfl rfl
theorem cl_X2_23 : Cond.classLink RX2 23 RX0 ∈ lw_g := a_in (i := 50) rfl rfl
theorem ia_X0 : Cond.instantiable RX0 3 ∈ lw_g := a_in (i := 51) rfl rfl
theorem co_X0_init : Cond.code yX0_init cX0_init 1 none ∈ lw_g := a_in (i := 54) rfl rfl
theorem im_X0_init : Cond.instanceMethod yX0_init ∈ lw_g := a_in (i := 53) rfl rfl
theorem lk_X2_26 : Cond.fieldLink RX2 26 (TX2 3).1 (TX2 3).2.1 (TX2 3).2.2.1 ∈ lw_g := a_in (i := 105) rfl rfl
theorem ia_X1 : Cond.instantiable RX1 7 ∈ lw_g := a_in (i := 69) rfl rfl
theorem ii_X1 : Cond.initialized RX1 ∈ lw_g := a_in (i := 36) rfl rfl
theorem co_X1_init : Cond.code yX1_init cX1_init 7 none ∈ lw_g := a_in (i := 72) rfl rfl
theorem ml_X2_30 : Cond.methodLink RX2 30 yX1_init ∈ lw_g := a_in (i := 70) rfl rfl
theorem im_X1_init : Cond.instanceMethod yX1_init ∈ lw_g := a_in (i := 71) rfl rfl
theorem co_X2_isDye : Cond.code yX2_isDye cX2_isDye 1 (some .boolean) ∈ lw_g := a_in (i := 139) rfl rfl
theorem ii_X2 : Cond.initialized RX2 ∈ lw_g := a_in (i := 34) rfl rfl
theorem ml_X2_33 : Cond.methodLink RX2 33 yX2_isDye ∈ lw_g := a_in (i := 137) rfl rfl
theorem st_X2_isDye : Cond.static yX2_isDye ∈ lw_g := a_in (i := 138) rfl rfl
theorem lk_X2_37 : Cond.fieldLink RX2 37 (TX2 5).1 (TX2 5).2.1 (TX2 5).2.2.1 ∈ lw_g := a_in (i := 107) rfl rfl
theorem co_X2_knowsAll : Cond.code yX2_knowsAll cX2_knowsAll 5 (some .boolean) ∈ lw_g := a_in (i := 147) rfl rfl
theorem ml_X2_41 : Cond.methodLink RX2 41 yX2_knowsAll ∈ lw_g := a_in (i := 144) rfl rfl
theorem im_X2_knowsAll : Cond.instanceMethod yX2_knowsAll ∈ lw_g := a_in (i := 146) rfl rfl
theorem se_X2_knowsAll : Cond.selects RX2 yX2_knowsAll yX2_knowsAll ∈ lw_g := a_in (i := 0) rfl rfl
theorem co_X2_fits : Cond.code yX2_fits cX2_fits 2 (some .boolean) ∈ lw_g := a_in (i := 157) rfl rfl
theorem ml_X2_45 : Cond.methodLink RX2 45 yX2_fits ∈ lw_g := a_in (i := 155) rfl rfl
theorem st_X2_fits : Cond.static yX2_fits ∈ lw_g := a_in (i := 156) rfl rfl
theorem lk_X2_49 : Cond.fieldLink RX2 49 (TX2 4).1 (TX2 4).2.1 (TX2 4).2.2.1 ∈ lw_g := a_in (i := 106) rfl rfl
theorem co_X2_named : Cond.code yX2_named cX2_named 2 (some (.object "PatternLoom$Pattern")) ∈ lw_g := a_in (i := 161) rfl rfl
theorem ml_X2_52 : Cond.methodLink RX2 52 yX2_named ∈ lw_g := a_in (i := 158) rfl rfl
theorem im_X2_named : Cond.instanceMethod yX2_named ∈ lw_g := a_in (i := 160) rfl rfl
theorem se_X2_named : Cond.selects RX2 yX2_named yX2_named ∈ lw_g := a_in (i := 2) rfl rfl
theorem co_X2_rowFor : Cond.code yX2_rowFor cX2_rowFor 3 (some (.array .int)) ∈ lw_g := a_in (i := 165) rfl rfl
theorem ml_X2_56 : Cond.methodLink RX2 56 yX2_rowFor ∈ lw_g := a_in (i := 162) rfl rfl
theorem im_X2_rowFor : Cond.instanceMethod yX2_rowFor ∈ lw_g := a_in (i := 164) rfl rfl
theorem se_X2_rowFor : Cond.selects RX2 yX2_rowFor yX2_rowFor ∈ lw_g := a_in (i := 3) rfl rfl
theorem co_X2_isName : Cond.code yX2_isName cX2_isName 1 (some .boolean) ∈ lw_g := a_in (i := 154) rfl rfl
theorem ml_X2_60 : Cond.methodLink RX2 60 yX2_isName ∈ lw_g := a_in (i := 152) rfl rfl
theorem st_X2_isName : Cond.static yX2_isName ∈ lw_g := a_in (i := 153) rfl rfl
theorem co_X2_isPattern : Cond.code yX2_isPattern cX2_isPattern 2 (some .boolean) ∈ lw_g := a_in (i := 151) rfl rfl
theorem ml_X2_63 : Cond.methodLink RX2 63 yX2_isPattern ∈ lw_g := a_in (i := 148) rfl rfl
theorem im_X2_isPattern : Cond.instanceMethod yX2_isPattern ∈ lw_g := a_in (i := 150) rfl rfl
theorem se_X2_isPattern : Cond.selects RX2 yX2_isPattern yX2_isPattern ∈ lw_g := a_in (i := 1) rfl rfl
theorem co_X2_numbered : Cond.code yX2_numbered cX2_numbered 2 (some (.object "PatternLoom$Pattern")) ∈ lw_g := a_in (i := 180) rfl rfl
theorem ml_X2_66 : Cond.methodLink RX2 66 yX2_numbered ∈ lw_g := a_in (i := 177) rfl rfl
theorem im_X2_numbered : Cond.instanceMethod yX2_numbered ∈ lw_g := a_in (i := 179) rfl rfl
theorem se_X2_numbered : Cond.selects RX2 yX2_numbered yX2_numbered ∈ lw_g := a_in (i := 4) rfl rfl
theorem lk_X2_69 : Cond.fieldLink RX2 69 (TX2 8).1 (TX2 8).2.1 (TX2 8).2.2.1 ∈ lw_g := a_in (i := 110) rfl rfl
theorem co_X2_tellPlace : Cond.code yX2_tellPlace cX2_tellPlace 4 (some .int) ∈ lw_g := a_in (i := 188) rfl rfl
theorem ml_X2_72 : Cond.methodLink RX2 72 yX2_tellPlace ∈ lw_g := a_in (i := 185) rfl rfl
theorem im_X2_tellPlace : Cond.instanceMethod yX2_tellPlace ∈ lw_g := a_in (i := 187) rfl rfl
theorem se_X2_tellPlace : Cond.selects RX2 yX2_tellPlace yX2_tellPlace ∈ lw_g := a_in (i := 5) rfl rfl
theorem lk_X2_76 : Cond.fieldLink RX2 76 (TX2 6).1 (TX2 6).2.1 (TX2 6).2.2.1 ∈ lw_g := a_in (i := 108) rfl rfl
theorem co_X2_isSide : Cond.code yX2_isSide cX2_isSide 1 (some .boolean) ∈ lw_g := a_in (i := 247) rfl rfl
theorem ml_X2_79 : Cond.methodLink RX2 79 yX2_isSide ∈ lw_g := a_in (i := 245) rfl rfl
theorem st_X2_isSide : Cond.static yX2_isSide ∈ lw_g := a_in (i := 246) rfl rfl
theorem co_X0_begin : Cond.code yX0_begin cX0_begin 2 none ∈ lw_g := a_in (i := 251) rfl rfl
theorem ml_X2_82 : Cond.methodLink RX2 82 yX0_begin ∈ lw_g := a_in (i := 248) rfl rfl
theorem im_X0_begin : Cond.instanceMethod yX0_begin ∈ lw_g := a_in (i := 249) rfl rfl
theorem se_X0_begin : Cond.selects RX0 yX0_begin yX0_begin ∈ lw_g := a_in (i := 250) rfl rfl
theorem co_X0_add : Cond.code yX0_add cX0_add 2 none ∈ lw_g := a_in (i := 255) rfl rfl
theorem ml_X2_86 : Cond.methodLink RX2 86 yX0_add ∈ lw_g := a_in (i := 252) rfl rfl
theorem im_X0_add : Cond.instanceMethod yX0_add ∈ lw_g := a_in (i := 253) rfl rfl
theorem se_X0_add : Cond.selects RX0 yX0_add yX0_add ∈ lw_g := a_in (i := 254) rfl rfl
theorem co_X0_colourAt : Cond.code yX0_colourAt cX0_colourAt 2 (some .int) ∈ lw_g := a_in (i := 263) rfl rfl
theorem ml_X2_89 : Cond.methodLink RX2 89 yX0_colourAt ∈ lw_g := a_in (i := 260) rfl rfl
theorem im_X0_colourAt : Cond.instanceMethod yX0_colourAt ∈ lw_g := a_in (i := 261) rfl rfl
theorem se_X0_colourAt : Cond.selects RX0 yX0_colourAt yX0_colourAt ∈ lw_g := a_in (i := 262) rfl rfl
theorem co_X0_changesInRows : Cond.code yX0_changesInRows cX0_changesInRows 3 (some .int) ∈ lw_g := a_in (i := 271) rfl rfl
theorem ml_X2_93 : Cond.methodLink RX2 93 yX0_changesInRows ∈ lw_g := a_in (i := 268) rfl rfl
theorem im_X0_changesInRows : Cond.instanceMethod yX0_changesInRows ∈ lw_g := a_in (i := 269) rfl rfl
theorem se_X0_changesInRows : Cond.selects RX0 yX0_changesInRows yX0_changesInRows ∈ lw_g := a_in (i := 270) rfl rfl
theorem co_X0_mostOften : Cond.code yX0_mostOften cX0_mostOften 5 (some .int) ∈ lw_g := a_in (i := 279) rfl rfl
theorem ml_X2_97 : Cond.methodLink RX2 97 yX0_mostOften ∈ lw_g := a_in (i := 276) rfl rfl
theorem im_X0_mostOften : Cond.instanceMethod yX0_mostOften ∈ lw_g := a_in (i := 277) rfl rfl
theorem se_X0_mostOften : Cond.selects RX0 yX0_mostOften yX0_mostOften ∈ lw_g := a_in (i := 278) rfl rfl
theorem lk_X2_100 : Cond.fieldLink RX2 100 (TX0 1).1 (TX0 1).2.1 (TX0 1).2.2.1 ∈ lw_g := a_in (i := 58) rfl rfl
theorem lk_X2_103 : Cond.fieldLink RX2 103 (TX0 2).1 (TX0 2).2.1 (TX0 2).2.2.1 ∈ lw_g := a_in (i := 60) rfl rfl
theorem lk_X2_106 : Cond.fieldLink RX2 106 (TX2 7).1 (TX2 7).2.1 (TX2 7).2.2.1 ∈ lw_g := a_in (i := 109) rfl rfl
theorem lk_X2_109 : Cond.fieldLink RX2 109 (TX2 9).1 (TX2 9).2.1 (TX2 9).2.2.1 ∈ lw_g := a_in (i := 111) rfl rfl
theorem ml_X2_112 : Cond.methodLink RX2 112 ⟨"[I", "clone", "()Ljava/lang/Object;"⟩ ∈ lw_g := a_in (i := 166) rfl rfl
theorem sm_clone : Cond.sameMethod "[I" "java/lang/Object" "clone" "()Ljava/lang/Object;" ∈ lw_g := a_in (i := 167) rfl rfl
theorem na_clone : Cond.native ⟨"java/lang/Object", "clone", "()Ljava/lang/Object;"⟩ ∈ lw_g := a_in (i := 168) rfl rfl
theorem im_clone : Cond.instanceMethod ⟨"java/lang/Object", "clone", "()Ljava/lang/Object;"⟩ ∈ lw_g := a_in (i := 169) rfl rfl
theorem se_clone : Cond.selects "[I" ⟨"[I", "clone", "()Ljava/lang/Object;"⟩ ⟨"java/lang/Object", "clone", "()Ljava/lang/Object;"⟩ ∈ lw_g := a_in (i := 170) rfl rfl
theorem cl_X2_113 : Cond.classLink RX2 113 "[I" ∈ lw_g := a_in (i := 172) rfl rfl
theorem co_X2_tell : Cond.code yX2_tell cX2_tell 4 (some .int) ∈ lw_g := a_in (i := 192) rfl rfl
theorem ml_X2_118 : Cond.methodLink RX2 118 yX2_tell ∈ lw_g := a_in (i := 189) rfl rfl
theorem im_X2_tell : Cond.instanceMethod yX2_tell ∈ lw_g := a_in (i := 191) rfl rfl
theorem se_X2_tell : Cond.selects RX2 yX2_tell yX2_tell ∈ lw_g := a_in (i := 6) rfl rfl
theorem co_X2_fail : Cond.code yX2_fail cX2_fail 2 (some .int) ∈ lw_g := a_in (i := 196) rfl rfl
theorem ml_X2_121 : Cond.methodLink RX2 121 yX2_fail ∈ lw_g := a_in (i := 193) rfl rfl
theorem im_X2_fail : Cond.instanceMethod yX2_fail ∈ lw_g := a_in (i := 195) rfl rfl
theorem se_X2_fail : Cond.selects RX2 yX2_fail yX2_fail ∈ lw_g := a_in (i := 7) rfl rfl
theorem lk_X2_124 : Cond.fieldLink RX2 124 (TX1 0).1 (TX1 0).2.1 (TX1 0).2.2.1 ∈ lw_g := a_in (i := 75) rfl rfl
theorem lk_X2_127 : Cond.fieldLink RX2 127 (TX1 1).1 (TX1 1).2.1 (TX1 1).2.2.1 ∈ lw_g := a_in (i := 77) rfl rfl
theorem co_X2_tellStripes : Cond.code yX2_tellStripes cX2_tellStripes 3 (some .int) ∈ lw_g := a_in (i := 200) rfl rfl
theorem ml_X2_130 : Cond.methodLink RX2 130 yX2_tellStripes ∈ lw_g := a_in (i := 197) rfl rfl
theorem im_X2_tellStripes : Cond.instanceMethod yX2_tellStripes ∈ lw_g := a_in (i := 199) rfl rfl
theorem se_X2_tellStripes : Cond.selects RX2 yX2_tellStripes yX2_tellStripes ∈ lw_g := a_in (i := 8) rfl rfl
theorem co_X2_tellTwill : Cond.code yX2_tellTwill cX2_tellTwill 4 (some .int) ∈ lw_g := a_in (i := 204) rfl rfl
theorem ml_X2_134 : Cond.methodLink RX2 134 yX2_tellTwill ∈ lw_g := a_in (i := 201) rfl rfl
theorem im_X2_tellTwill : Cond.instanceMethod yX2_tellTwill ∈ lw_g := a_in (i := 203) rfl rfl
theorem se_X2_tellTwill : Cond.selects RX2 yX2_tellTwill yX2_tellTwill ∈ lw_g := a_in (i := 9) rfl rfl
theorem lk_X2_137 : Cond.fieldLink RX2 137 (TX1 2).1 (TX1 2).2.1 (TX1 2).2.2.1 ∈ lw_g := a_in (i := 79) rfl rfl
theorem lk_X2_140 : Cond.fieldLink RX2 140 (TX1 3).1 (TX1 3).2.1 (TX1 3).2.2.1 ∈ lw_g := a_in (i := 81) rfl rfl
theorem co_X2_tellTurned : Cond.code yX2_tellTurned cX2_tellTurned 5 (some .int) ∈ lw_g := a_in (i := 208) rfl rfl
theorem ml_X2_143 : Cond.methodLink RX2 143 yX2_tellTurned ∈ lw_g := a_in (i := 205) rfl rfl
theorem im_X2_tellTurned : Cond.instanceMethod yX2_tellTurned ∈ lw_g := a_in (i := 207) rfl rfl
theorem se_X2_tellTurned : Cond.selects RX2 yX2_tellTurned yX2_tellTurned ∈ lw_g := a_in (i := 10) rfl rfl
theorem co_X2_tellOver : Cond.code yX2_tellOver cX2_tellOver 5 (some .int) ∈ lw_g := a_in (i := 212) rfl rfl
theorem ml_X2_146 : Cond.methodLink RX2 146 yX2_tellOver ∈ lw_g := a_in (i := 209) rfl rfl
theorem im_X2_tellOver : Cond.instanceMethod yX2_tellOver ∈ lw_g := a_in (i := 211) rfl rfl
theorem se_X2_tellOver : Cond.selects RX2 yX2_tellOver yX2_tellOver ∈ lw_g := a_in (i := 11) rfl rfl
theorem co_X2_tellWhere : Cond.code yX2_tellWhere cX2_tellWhere 5 (some .int) ∈ lw_g := a_in (i := 216) rfl rfl
theorem ml_X2_149 : Cond.methodLink RX2 149 yX2_tellWhere ∈ lw_g := a_in (i := 213) rfl rfl
theorem im_X2_tellWhere : Cond.instanceMethod yX2_tellWhere ∈ lw_g := a_in (i := 215) rfl rfl
theorem se_X2_tellWhere : Cond.selects RX2 yX2_tellWhere yX2_tellWhere ∈ lw_g := a_in (i := 12) rfl rfl
theorem co_X2_tellDyed : Cond.code yX2_tellDyed cX2_tellDyed 5 (some .int) ∈ lw_g := a_in (i := 220) rfl rfl
theorem ml_X2_152 : Cond.methodLink RX2 152 yX2_tellDyed ∈ lw_g := a_in (i := 217) rfl rfl
theorem im_X2_tellDyed : Cond.instanceMethod yX2_tellDyed ∈ lw_g := a_in (i := 219) rfl rfl
theorem se_X2_tellDyed : Cond.selects RX2 yX2_tellDyed yX2_tellDyed ∈ lw_g := a_in (i := 13) rfl rfl
theorem co_X2_tellWorn : Cond.code yX2_tellWorn cX2_tellWorn 4 (some .int) ∈ lw_g := a_in (i := 228) rfl rfl
theorem ml_X2_155 : Cond.methodLink RX2 155 yX2_tellWorn ∈ lw_g := a_in (i := 225) rfl rfl
theorem im_X2_tellWorn : Cond.instanceMethod yX2_tellWorn ∈ lw_g := a_in (i := 227) rfl rfl
theorem se_X2_tellWorn : Cond.selects RX2 yX2_tellWorn yX2_tellWorn ∈ lw_g := a_in (i := 15) rfl rfl
theorem co_X2_tellBoth : Cond.code yX2_tellBoth cX2_tellBoth 5 (some .int) ∈ lw_g := a_in (i := 232) rfl rfl
theorem ml_X2_158 : Cond.methodLink RX2 158 yX2_tellBoth ∈ lw_g := a_in (i := 229) rfl rfl
theorem im_X2_tellBoth : Cond.instanceMethod yX2_tellBoth ∈ lw_g := a_in (i := 231) rfl rfl
theorem se_X2_tellBoth : Cond.selects RX2 yX2_tellBoth yX2_tellBoth ∈ lw_g := a_in (i := 16) rfl rfl
theorem co_X2_tellSafe : Cond.code yX2_tellSafe cX2_tellSafe 5 (some .int) ∈ lw_g := a_in (i := 236) rfl rfl
theorem ml_X2_161 : Cond.methodLink RX2 161 yX2_tellSafe ∈ lw_g := a_in (i := 233) rfl rfl
theorem im_X2_tellSafe : Cond.instanceMethod yX2_tellSafe ∈ lw_g := a_in (i := 235) rfl rfl
theorem se_X2_tellSafe : Cond.selects RX2 yX2_tellSafe yX2_tellSafe ∈ lw_g := a_in (i := 17) rfl rfl
theorem lk_X2_164 : Cond.fieldLink RX2 164 (TX1 5).1 (TX1 5).2.1 (TX1 5).2.2.1 ∈ lw_g := a_in (i := 85) rfl rfl
theorem lk_X2_168 : Cond.fieldLink RX2 168 (TX1 4).1 (TX1 4).2.1 (TX1 4).2.2.1 ∈ lw_g := a_in (i := 83) rfl rfl
theorem co_X2_colourOf : Cond.code yX2_colourOf cX2_colourOf 3 (some .int) ∈ lw_g := a_in (i := 224) rfl rfl
theorem ml_X2_171 : Cond.methodLink RX2 171 yX2_colourOf ∈ lw_g := a_in (i := 221) rfl rfl
theorem im_X2_colourOf : Cond.instanceMethod yX2_colourOf ∈ lw_g := a_in (i := 223) rfl rfl
theorem se_X2_colourOf : Cond.selects RX2 yX2_colourOf yX2_colourOf ∈ lw_g := a_in (i := 14) rfl rfl
theorem lk_X2_175 : Cond.fieldLink RX2 175 (TX1 6).1 (TX1 6).2.1 (TX1 6).2.2.1 ∈ lw_g := a_in (i := 86) rfl rfl
theorem co_X2_saves : Cond.code yX2_saves cX2_saves 2 (some .boolean) ∈ lw_g := a_in (i := 240) rfl rfl
theorem ml_X2_178 : Cond.methodLink RX2 178 yX2_saves ∈ lw_g := a_in (i := 237) rfl rfl
theorem im_X2_saves : Cond.instanceMethod yX2_saves ∈ lw_g := a_in (i := 239) rfl rfl
theorem se_X2_saves : Cond.selects RX2 yX2_saves yX2_saves ∈ lw_g := a_in (i := 18) rfl rfl
theorem ml_X3_1 : Cond.methodLink RX3 1 objectInit ∈ lw_g := a_in (i := 297) rfl rfl
theorem lk_X3_7 : Cond.fieldLink RX3 7 (TX3 1).1 (TX3 1).2.1 (TX3 1).2.2.1 ∈ lw_g := a_in (i := 299) rfl rfl
theorem lk_X3_13 : Cond.fieldLink RX3 13 (TX3 2).1 (TX3 2).2.1 (TX3 2).2.2.1 ∈ lw_g := a_in (i := 300) rfl rfl
theorem lk_X3_16 : Cond.fieldLink RX3 16 (TX3 3).1 (TX3 3).2.1 (TX3 3).2.2.1 ∈ lw_g := a_in (i := 301) rfl rfl
theorem lk_X3_19 : Cond.fieldLink RX3 19 (TX3 4).1 (TX3 4).2.1 (TX3 4).2.2.1 ∈ lw_g := a_in (i := 302) rfl rfl
theorem lk_X3_22 : Cond.fieldLink RX3 22 (TX3 5).1 (TX3 5).2.1 (TX3 5).2.2.1 ∈ lw_g := a_in (i := 303) rfl rfl
theorem lk_X3_25 : Cond.fieldLink RX3 25 (TX3 6).1 (TX3 6).2.1 (TX3 6).2.2.1 ∈ lw_g := a_in (i := 304) rfl rfl
theorem lk_X3_28 : Cond.fieldLink RX3 28 (TX3 7).1 (TX3 7).2.1 (TX3 7).2.2.1 ∈ lw_g := a_in (i := 305) rfl rfl
theorem lk_X3_31 : Cond.fieldLink RX3 31 (TX3 8).1 (TX3 8).2.1 (TX3 8).2.2.1 ∈ lw_g := a_in (i := 306) rfl rfl
theorem lk_X3_34 : Cond.fieldLink RX3 34 (TX3 9).1 (TX3 9).2.1 (TX3 9).2.2.1 ∈ lw_g := a_in (i := 307) rfl rfl
theorem lk_X3_37 : Cond.fieldLink RX3 37 (TX3 14).1 (TX3 14).2.1 (TX3 14).2.2.1 ∈ lw_g := a_in (i := 312) rfl rfl
theorem lk_X3_40 : Cond.fieldLink RX3 40 (TX3 15).1 (TX3 15).2.1 (TX3 15).2.2.1 ∈ lw_g := a_in (i := 313) rfl rfl
theorem lk_X3_43 : Cond.fieldLink RX3 43 (TX3 16).1 (TX3 16).2.1 (TX3 16).2.2.1 ∈ lw_g := a_in (i := 314) rfl rfl
theorem lk_X3_46 : Cond.fieldLink RX3 46 (TX3 17).1 (TX3 17).2.1 (TX3 17).2.2.1 ∈ lw_g := a_in (i := 315) rfl rfl
theorem lk_X3_49 : Cond.fieldLink RX3 49 (TX3 18).1 (TX3 18).2.1 (TX3 18).2.2.1 ∈ lw_g := a_in (i := 316) rfl rfl
theorem lk_X3_52 : Cond.fieldLink RX3 52 (TX3 22).1 (TX3 22).2.1 (TX3 22).2.2.1 ∈ lw_g := a_in (i := 320) rfl rfl
theorem lk_X3_55 : Cond.fieldLink RX3 55 (TX3 0).1 (TX3 0).2.1 (TX3 0).2.2.1 ∈ lw_g := a_in (i := 298) rfl rfl
theorem co_X3_in : Cond.code yX3_in cX3_in 3 (some .boolean) ∈ lw_g := a_in (i := 380) rfl rfl
theorem ii_X3 : Cond.initialized RX3 ∈ lw_g := a_in (i := 37) rfl rfl
theorem ml_X3_59 : Cond.methodLink RX3 59 yX3_in ∈ lw_g := a_in (i := 378) rfl rfl
theorem st_X3_in : Cond.static yX3_in ∈ lw_g := a_in (i := 379) rfl rfl
theorem lk_X3_63 : Cond.fieldLink RX3 63 (TX3 10).1 (TX3 10).2.1 (TX3 10).2.2.1 ∈ lw_g := a_in (i := 308) rfl rfl
theorem co_X3_isPattern : Cond.code yX3_isPattern cX3_isPattern 2 (some .boolean) ∈ lw_g := a_in (i := 392) rfl rfl
theorem ml_X3_66 : Cond.methodLink RX3 66 yX3_isPattern ∈ lw_g := a_in (i := 389) rfl rfl
theorem im_X3_isPattern : Cond.instanceMethod yX3_isPattern ∈ lw_g := a_in (i := 391) rfl rfl
theorem se_X3_isPattern : Cond.selects RX3 yX3_isPattern yX3_isPattern ∈ lw_g := a_in (i := 21) rfl rfl
theorem co_X3_areThere : Cond.code yX3_areThere cX3_areThere 5 (some .boolean) ∈ lw_g := a_in (i := 388) rfl rfl
theorem ml_X3_70 : Cond.methodLink RX3 70 yX3_areThere ∈ lw_g := a_in (i := 385) rfl rfl
theorem im_X3_areThere : Cond.instanceMethod yX3_areThere ∈ lw_g := a_in (i := 387) rfl rfl
theorem se_X3_areThere : Cond.selects RX3 yX3_areThere yX3_areThere ∈ lw_g := a_in (i := 20) rfl rfl
theorem lk_X3_74 : Cond.fieldLink RX3 74 (TX3 19).1 (TX3 19).2.1 (TX3 19).2.2.1 ∈ lw_g := a_in (i := 317) rfl rfl
theorem lk_X3_77 : Cond.fieldLink RX3 77 (TX3 20).1 (TX3 20).2.1 (TX3 20).2.2.1 ∈ lw_g := a_in (i := 318) rfl rfl
theorem lk_X3_80 : Cond.fieldLink RX3 80 (TX3 13).1 (TX3 13).2.1 (TX3 13).2.2.1 ∈ lw_g := a_in (i := 311) rfl rfl
theorem lk_X3_83 : Cond.fieldLink RX3 83 (TX3 21).1 (TX3 21).2.1 (TX3 21).2.2.1 ∈ lw_g := a_in (i := 319) rfl rfl
theorem co_X3_tells : Cond.code yX3_tells cX3_tells 2 none ∈ lw_g := a_in (i := 420) rfl rfl
theorem ml_X3_86 : Cond.methodLink RX3 86 yX3_tells ∈ lw_g := a_in (i := 417) rfl rfl
theorem im_X3_tells : Cond.instanceMethod yX3_tells ∈ lw_g := a_in (i := 419) rfl rfl
theorem se_X3_tells : Cond.selects RX3 yX3_tells yX3_tells ∈ lw_g := a_in (i := 26) rfl rfl
theorem co_X3_dyeAt : Cond.code yX3_dyeAt cX3_dyeAt 3 (some .int) ∈ lw_g := a_in (i := 424) rfl rfl
theorem ml_X3_90 : Cond.methodLink RX3 90 yX3_dyeAt ∈ lw_g := a_in (i := 421) rfl rfl
theorem im_X3_dyeAt : Cond.instanceMethod yX3_dyeAt ∈ lw_g := a_in (i := 423) rfl rfl
theorem se_X3_dyeAt : Cond.selects RX3 yX3_dyeAt yX3_dyeAt ∈ lw_g := a_in (i := 27) rfl rfl
theorem co_X3_tellsOf : Cond.code yX3_tellsOf cX3_tellsOf 4 none ∈ lw_g := a_in (i := 428) rfl rfl
theorem ml_X3_94 : Cond.methodLink RX3 94 yX3_tellsOf ∈ lw_g := a_in (i := 425) rfl rfl
theorem im_X3_tellsOf : Cond.instanceMethod yX3_tellsOf ∈ lw_g := a_in (i := 427) rfl rfl
theorem se_X3_tellsOf : Cond.selects RX3 yX3_tellsOf yX3_tellsOf ∈ lw_g := a_in (i := 28) rfl rfl
theorem co_X3_quotient : Cond.code yX3_quotient cX3_quotient 2 (some .int) ∈ lw_g := a_in (i := 431) rfl rfl
theorem ml_X3_98 : Cond.methodLink RX3 98 yX3_quotient ∈ lw_g := a_in (i := 429) rfl rfl
theorem st_X3_quotient : Cond.static yX3_quotient ∈ lw_g := a_in (i := 430) rfl rfl
theorem co_X3_push : Cond.code yX3_push cX3_push 4 none ∈ lw_g := a_in (i := 408) rfl rfl
theorem ml_X3_101 : Cond.methodLink RX3 101 yX3_push ∈ lw_g := a_in (i := 405) rfl rfl
theorem im_X3_push : Cond.instanceMethod yX3_push ∈ lw_g := a_in (i := 407) rfl rfl
theorem se_X3_push : Cond.selects RX3 yX3_push yX3_push ∈ lw_g := a_in (i := 23) rfl rfl
theorem co_X3_turned : Cond.code yX3_turned cX3_turned 5 none ∈ lw_g := a_in (i := 439) rfl rfl
theorem ml_X3_104 : Cond.methodLink RX3 104 yX3_turned ∈ lw_g := a_in (i := 436) rfl rfl
theorem im_X3_turned : Cond.instanceMethod yX3_turned ∈ lw_g := a_in (i := 438) rfl rfl
theorem se_X3_turned : Cond.selects RX3 yX3_turned yX3_turned ∈ lw_g := a_in (i := 30) rfl rfl
theorem lk_X3_107 : Cond.fieldLink RX3 107 (TX3 11).1 (TX3 11).2.1 (TX3 11).2.2.1 ∈ lw_g := a_in (i := 309) rfl rfl
theorem lk_X3_110 : Cond.fieldLink RX3 110 (TX3 12).1 (TX3 12).2.1 (TX3 12).2.2.1 ∈ lw_g := a_in (i := 310) rfl rfl
theorem co_X3_falls : Cond.code yX3_falls cX3_falls 3 none ∈ lw_g := a_in (i := 412) rfl rfl
theorem ml_X3_113 : Cond.methodLink RX3 113 yX3_falls ∈ lw_g := a_in (i := 409) rfl rfl
theorem im_X3_falls : Cond.instanceMethod yX3_falls ∈ lw_g := a_in (i := 411) rfl rfl
theorem se_X3_falls : Cond.selects RX3 yX3_falls yX3_falls ∈ lw_g := a_in (i := 24) rfl rfl
theorem co_X3_alone : Cond.code yX3_alone cX3_alone 4 none ∈ lw_g := a_in (i := 416) rfl rfl
theorem ml_X3_116 : Cond.methodLink RX3 116 yX3_alone ∈ lw_g := a_in (i := 413) rfl rfl
theorem im_X3_alone : Cond.instanceMethod yX3_alone ∈ lw_g := a_in (i := 415) rfl rfl
theorem se_X3_alone : Cond.selects RX3 yX3_alone yX3_alone ∈ lw_g := a_in (i := 25) rfl rfl
theorem co_X3_begins : Cond.code yX3_begins cX3_begins 4 none ∈ lw_g := a_in (i := 435) rfl rfl
theorem ml_X3_119 : Cond.methodLink RX3 119 yX3_begins ∈ lw_g := a_in (i := 432) rfl rfl
theorem im_X3_begins : Cond.instanceMethod yX3_begins ∈ lw_g := a_in (i := 434) rfl rfl
theorem se_X3_begins : Cond.selects RX3 yX3_begins yX3_begins ∈ lw_g := a_in (i := 29) rfl rfl
theorem co_X3_goesOn : Cond.code yX3_goesOn cX3_goesOn 6 none ∈ lw_g := a_in (i := 443) rfl rfl
theorem ml_X3_122 : Cond.methodLink RX3 122 yX3_goesOn ∈ lw_g := a_in (i := 440) rfl rfl
theorem im_X3_goesOn : Cond.instanceMethod yX3_goesOn ∈ lw_g := a_in (i := 442) rfl rfl
theorem se_X3_goesOn : Cond.selects RX3 yX3_goesOn yX3_goesOn ∈ lw_g := a_in (i := 31) rfl rfl
theorem co_X3_work : Cond.code yX3_work cX3_work 6 none ∈ lw_g := a_in (i := 404) rfl rfl
theorem ml_X3_126 : Cond.methodLink RX3 126 yX3_work ∈ lw_g := a_in (i := 401) rfl rfl
theorem im_X3_work : Cond.instanceMethod yX3_work ∈ lw_g := a_in (i := 403) rfl rfl
theorem se_X3_work : Cond.selects RX3 yX3_work yX3_work ∈ lw_g := a_in (i := 22) rfl rfl
theorem lk_X3_129 : Cond.fieldLink RX3 129 (TX3 23).1 (TX3 23).2.1 (TX3 23).2.2.1 ∈ lw_g := a_in (i := 321) rfl rfl
theorem lk_X3_132 : Cond.fieldLink RX3 132 (TX3 24).1 (TX3 24).2.1 (TX3 24).2.2.1 ∈ lw_g := a_in (i := 322) rfl rfl
theorem co_X3_manyOf : Cond.code yX3_manyOf cX3_manyOf 4 (some .int) ∈ lw_g := a_in (i := 463) rfl rfl
theorem ml_X3_135 : Cond.methodLink RX3 135 yX3_manyOf ∈ lw_g := a_in (i := 460) rfl rfl
theorem im_X3_manyOf : Cond.instanceMethod yX3_manyOf ∈ lw_g := a_in (i := 462) rfl rfl
theorem se_X3_manyOf : Cond.selects RX3 yX3_manyOf yX3_manyOf ∈ lw_g := a_in (i := 32) rfl rfl
theorem cl_L_7 : Cond.classLink RL 7 RX2 ∈ lw_g := a_in (i := 38) rfl rfl
theorem ia_X2 : Cond.instantiable RX2 10 ∈ lw_g := a_in (i := 39) rfl rfl
theorem co_X2_init : Cond.code yX2_init cX2_init 3 none ∈ lw_g := a_in (i := 42) rfl rfl
theorem ml_L_9 : Cond.methodLink RL 9 yX2_init ∈ lw_g := a_in (i := 40) rfl rfl
theorem im_X2_init : Cond.instanceMethod yX2_init ∈ lw_g := a_in (i := 41) rfl rfl
theorem cl_L_10 : Cond.classLink RL 10 RX3 ∈ lw_g := a_in (i := 292) rfl rfl
theorem ia_X3 : Cond.instantiable RX3 25 ∈ lw_g := a_in (i := 293) rfl rfl
theorem co_X3_init : Cond.code yX3_init cX3_init 2 none ∈ lw_g := a_in (i := 296) rfl rfl
theorem ml_L_12 : Cond.methodLink RL 12 yX3_init ∈ lw_g := a_in (i := 294) rfl rfl
theorem im_X3_init : Cond.instanceMethod yX3_init ∈ lw_g := a_in (i := 295) rfl rfl
theorem co_X2_dye : Cond.code yX2_dye cX2_dye 5 (some .int) ∈ lw_g := a_in (i := 136) rfl rfl
theorem ml_L_13 : Cond.methodLink RL 13 yX2_dye ∈ lw_g := a_in (i := 133) rfl rfl
theorem im_X2_dye : Cond.instanceMethod yX2_dye ∈ lw_g := a_in (i := 134) rfl rfl
theorem se_X2_dye : Cond.selects RX2 yX2_dye yX2_dye ∈ lw_g := a_in (i := 135) rfl rfl
theorem co_X3_dye : Cond.code yX3_dye cX3_dye 5 (some .int) ∈ lw_g := a_in (i := 377) rfl rfl
theorem ml_L_17 : Cond.methodLink RL 17 yX3_dye ∈ lw_g := a_in (i := 374) rfl rfl
theorem im_X3_dye : Cond.instanceMethod yX3_dye ∈ lw_g := a_in (i := 375) rfl rfl
theorem se_X3_dye : Cond.selects RX3 yX3_dye yX3_dye ∈ lw_g := a_in (i := 376) rfl rfl
theorem co_X2_pattern : Cond.code yX2_pattern cX2_pattern 6 (some .int) ∈ lw_g := a_in (i := 143) rfl rfl
theorem ml_L_18 : Cond.methodLink RL 18 yX2_pattern ∈ lw_g := a_in (i := 140) rfl rfl
theorem im_X2_pattern : Cond.instanceMethod yX2_pattern ∈ lw_g := a_in (i := 141) rfl rfl
theorem se_X2_pattern : Cond.selects RX2 yX2_pattern yX2_pattern ∈ lw_g := a_in (i := 142) rfl rfl
theorem co_X3_pattern : Cond.code yX3_pattern cX3_pattern 7 (some .int) ∈ lw_g := a_in (i := 384) rfl rfl
theorem ml_L_22 : Cond.methodLink RL 22 yX3_pattern ∈ lw_g := a_in (i := 381) rfl rfl
theorem im_X3_pattern : Cond.instanceMethod yX3_pattern ∈ lw_g := a_in (i := 382) rfl rfl
theorem se_X3_pattern : Cond.selects RX3 yX3_pattern yX3_pattern ∈ lw_g := a_in (i := 383) rfl rfl
theorem co_X2_name : Cond.code yX2_name cX2_name 4 (some .int) ∈ lw_g := a_in (i := 176) rfl rfl
theorem ml_L_23 : Cond.methodLink RL 23 yX2_name ∈ lw_g := a_in (i := 173) rfl rfl
theorem im_X2_name : Cond.instanceMethod yX2_name ∈ lw_g := a_in (i := 174) rfl rfl
theorem se_X2_name : Cond.selects RX2 yX2_name yX2_name ∈ lw_g := a_in (i := 175) rfl rfl
theorem co_X3_name : Cond.code yX3_name cX3_name 4 (some .int) ∈ lw_g := a_in (i := 396) rfl rfl
theorem ml_L_27 : Cond.methodLink RL 27 yX3_name ∈ lw_g := a_in (i := 393) rfl rfl
theorem im_X3_name : Cond.instanceMethod yX3_name ∈ lw_g := a_in (i := 394) rfl rfl
theorem se_X3_name : Cond.selects RX3 yX3_name yX3_name ∈ lw_g := a_in (i := 395) rfl rfl
theorem co_X2_ask : Cond.code yX2_ask cX2_ask 5 (some .int) ∈ lw_g := a_in (i := 184) rfl rfl
theorem ml_L_28 : Cond.methodLink RL 28 yX2_ask ∈ lw_g := a_in (i := 181) rfl rfl
theorem im_X2_ask : Cond.instanceMethod yX2_ask ∈ lw_g := a_in (i := 182) rfl rfl
theorem se_X2_ask : Cond.selects RX2 yX2_ask yX2_ask ∈ lw_g := a_in (i := 183) rfl rfl
theorem co_X3_ask : Cond.code yX3_ask cX3_ask 4 (some .int) ∈ lw_g := a_in (i := 400) rfl rfl
theorem ml_L_31 : Cond.methodLink RL 31 yX3_ask ∈ lw_g := a_in (i := 397) rfl rfl
theorem im_X3_ask : Cond.instanceMethod yX3_ask ∈ lw_g := a_in (i := 398) rfl rfl
theorem se_X3_ask : Cond.selects RX3 yX3_ask yX3_ask ∈ lw_g := a_in (i := 399) rfl rfl
theorem co_X2_weave : Cond.code yX2_weave cX2_weave 10 (some .int) ∈ lw_g := a_in (i := 244) rfl rfl
theorem ml_L_32 : Cond.methodLink RL 32 yX2_weave ∈ lw_g := a_in (i := 241) rfl rfl
theorem im_X2_weave : Cond.instanceMethod yX2_weave ∈ lw_g := a_in (i := 242) rfl rfl
theorem se_X2_weave : Cond.selects RX2 yX2_weave yX2_weave ∈ lw_g := a_in (i := 243) rfl rfl
theorem co_X3_weave : Cond.code yX3_weave cX3_weave 7 (some .int) ∈ lw_g := a_in (i := 447) rfl rfl
theorem ml_L_36 : Cond.methodLink RL 36 yX3_weave ∈ lw_g := a_in (i := 444) rfl rfl
theorem im_X3_weave : Cond.instanceMethod yX3_weave ∈ lw_g := a_in (i := 445) rfl rfl
theorem se_X3_weave : Cond.selects RX3 yX3_weave yX3_weave ∈ lw_g := a_in (i := 446) rfl rfl
theorem co_X2_cloth : Cond.code yX2_cloth cX2_cloth 2 (some .int) ∈ lw_g := a_in (i := 259) rfl rfl
theorem ml_L_37 : Cond.methodLink RL 37 yX2_cloth ∈ lw_g := a_in (i := 256) rfl rfl
theorem im_X2_cloth : Cond.instanceMethod yX2_cloth ∈ lw_g := a_in (i := 257) rfl rfl
theorem se_X2_cloth : Cond.selects RX2 yX2_cloth yX2_cloth ∈ lw_g := a_in (i := 258) rfl rfl
theorem co_X3_cloth : Cond.code yX3_cloth cX3_cloth 2 (some .int) ∈ lw_g := a_in (i := 451) rfl rfl
theorem ml_L_41 : Cond.methodLink RL 41 yX3_cloth ∈ lw_g := a_in (i := 448) rfl rfl
theorem im_X3_cloth : Cond.instanceMethod yX3_cloth ∈ lw_g := a_in (i := 449) rfl rfl
theorem se_X3_cloth : Cond.selects RX3 yX3_cloth yX3_cloth ∈ lw_g := a_in (i := 450) rfl rfl
theorem co_X2_changes : Cond.code yX2_changes cX2_changes 1 (some .int) ∈ lw_g := a_in (i := 267) rfl rfl
theorem ml_L_42 : Cond.methodLink RL 42 yX2_changes ∈ lw_g := a_in (i := 264) rfl rfl
theorem im_X2_changes : Cond.instanceMethod yX2_changes ∈ lw_g := a_in (i := 265) rfl rfl
theorem se_X2_changes : Cond.selects RX2 yX2_changes yX2_changes ∈ lw_g := a_in (i := 266) rfl rfl
theorem co_X3_changes : Cond.code yX3_changes cX3_changes 3 (some .int) ∈ lw_g := a_in (i := 455) rfl rfl
theorem ml_L_46 : Cond.methodLink RL 46 yX3_changes ∈ lw_g := a_in (i := 452) rfl rfl
theorem im_X3_changes : Cond.instanceMethod yX3_changes ∈ lw_g := a_in (i := 453) rfl rfl
theorem se_X3_changes : Cond.selects RX3 yX3_changes yX3_changes ∈ lw_g := a_in (i := 454) rfl rfl
theorem co_X2_most : Cond.code yX2_most cX2_most 1 (some .int) ∈ lw_g := a_in (i := 275) rfl rfl
theorem ml_L_47 : Cond.methodLink RL 47 yX2_most ∈ lw_g := a_in (i := 272) rfl rfl
theorem im_X2_most : Cond.instanceMethod yX2_most ∈ lw_g := a_in (i := 273) rfl rfl
theorem se_X2_most : Cond.selects RX2 yX2_most yX2_most ∈ lw_g := a_in (i := 274) rfl rfl
theorem co_X3_most : Cond.code yX3_most cX3_most 5 (some .int) ∈ lw_g := a_in (i := 459) rfl rfl
theorem ml_L_50 : Cond.methodLink RL 50 yX3_most ∈ lw_g := a_in (i := 456) rfl rfl
theorem im_X3_most : Cond.instanceMethod yX3_most ∈ lw_g := a_in (i := 457) rfl rfl
theorem se_X3_most : Cond.selects RX3 yX3_most yX3_most ∈ lw_g := a_in (i := 458) rfl rfl
theorem co_X2_why : Cond.code yX2_why cX2_why 1 (some .int) ∈ lw_g := a_in (i := 287) rfl rfl
theorem ml_L_51 : Cond.methodLink RL 51 yX2_why ∈ lw_g := a_in (i := 284) rfl rfl
theorem im_X2_why : Cond.instanceMethod yX2_why ∈ lw_g := a_in (i := 285) rfl rfl
theorem se_X2_why : Cond.selects RX2 yX2_why yX2_why ∈ lw_g := a_in (i := 286) rfl rfl
theorem co_X3_why : Cond.code yX3_why cX3_why 1 (some .int) ∈ lw_g := a_in (i := 467) rfl rfl
theorem ml_L_54 : Cond.methodLink RL 54 yX3_why ∈ lw_g := a_in (i := 464) rfl rfl
theorem im_X3_why : Cond.instanceMethod yX3_why ∈ lw_g := a_in (i := 465) rfl rfl
theorem se_X3_why : Cond.selects RX3 yX3_why yX3_why ∈ lw_g := a_in (i := 466) rfl rfl
theorem co_X2_count : Cond.code yX2_count cX2_count 2 (some .int) ∈ lw_g := a_in (i := 291) rfl rfl
theorem ml_L_55 : Cond.methodLink RL 55 yX2_count ∈ lw_g := a_in (i := 288) rfl rfl
theorem im_X2_count : Cond.instanceMethod yX2_count ∈ lw_g := a_in (i := 289) rfl rfl
theorem se_X2_count : Cond.selects RX2 yX2_count yX2_count ∈ lw_g := a_in (i := 290) rfl rfl
theorem co_X3_count : Cond.code yX3_count cX3_count 2 (some .int) ∈ lw_g := a_in (i := 471) rfl rfl
theorem ml_L_58 : Cond.methodLink RL 58 yX3_count ∈ lw_g := a_in (i := 468) rfl rfl
theorem im_X3_count : Cond.instanceMethod yX3_count ∈ lw_g := a_in (i := 469) rfl rfl
theorem se_X3_count : Cond.selects RX3 yX3_count yX3_count ∈ lw_g := a_in (i := 470) rfl rfl
end
section
theorem dX0_init_0 : decode cX0_init 0 = .ok (.aload_n 0, 1) := by decide +kernel
theorem dX0_init_1 : decode cX0_init 1 = .ok (.invokespecial 3, 3) := by decide +kernel
theorem dX0_init_4 : decode cX0_init 4 = .ok (.aload_n 0, 1) := by decide +kernel
theorem dX0_init_5 : decode cX0_init 5 = .ok (.sipush 144, 3) := by decide +kernel
theorem dX0_init_8 : decode cX0_init 8 = .ok (.newarray .int, 2) := by decide +kernel
theorem dX0_init_10 : decode cX0_init 10 = .ok (.putfield 9, 3) := by decide +kernel
theorem dX0_init_13 : decode cX0_init 13 = .ok (.return_, 1) := by decide +kernel
theorem dX0_begin_0 : decode cX0_begin 0 = .ok (.aload_n 0, 1) := by decide +kernel
theorem dX0_begin_1 : decode cX0_begin 1 = .ok (.iconst 0, 1) := by decide +kernel
theorem dX0_begin_2 : decode cX0_begin 2 = .ok (.putfield 15, 3) := by decide +kernel
theorem dX0_begin_5 : decode cX0_begin 5 = .ok (.aload_n 0, 1) := by decide +kernel
theorem dX0_begin_6 : decode cX0_begin 6 = .ok (.iload_n 1, 1) := by decide +kernel
theorem dX0_begin_7 : decode cX0_begin 7 = .ok (.putfield 19, 3) := by decide +kernel
theorem dX0_begin_10 : decode cX0_begin 10 = .ok (.return_, 1) := by decide +kernel
theorem dX0_add_0 : decode cX0_add 0 = .ok (.aload_n 0, 1) := by decide +kernel
theorem dX0_add_1 : decode cX0_add 1 = .ok (.getfield 15, 3) := by decide +kernel
theorem dX0_add_4 : decode cX0_add 4 = .ok (.aload_n 0, 1) := by decide +kernel
theorem dX0_add_5 : decode cX0_add 5 = .ok (.getfield 9, 3) := by decide +kernel
theorem dX0_add_8 : decode cX0_add 8 = .ok (.arraylength, 1) := by decide +kernel
theorem dX0_add_9 : decode cX0_add 9 = .ok (.if_icmp .ge 23, 3) := by decide +kernel
theorem dX0_add_12 : decode cX0_add 12 = .ok (.aload_n 0, 1) := by decide +kernel
theorem dX0_add_13 : decode cX0_add 13 = .ok (.getfield 9, 3) := by decide +kernel
theorem dX0_add_16 : decode cX0_add 16 = .ok (.aload_n 0, 1) := by decide +kernel
theorem dX0_add_17 : decode cX0_add 17 = .ok (.getfield 15, 3) := by decide +kernel
theorem dX0_add_20 : decode cX0_add 20 = .ok (.iload_n 1, 1) := by decide +kernel
theorem dX0_add_21 : decode cX0_add 21 = .ok (.iastore, 1) := by decide +kernel
theorem dX0_add_22 : decode cX0_add 22 = .ok (.aload_n 0, 1) := by decide +kernel
theorem dX0_add_23 : decode cX0_add 23 = .ok (.dup, 1) := by decide +kernel
theorem dX0_add_24 : decode cX0_add 24 = .ok (.getfield 15, 3) := by decide +kernel
theorem dX0_add_27 : decode cX0_add 27 = .ok (.iconst 1, 1) := by decide +kernel
theorem dX0_add_28 : decode cX0_add 28 = .ok (.iadd, 1) := by decide +kernel
theorem dX0_add_29 : decode cX0_add 29 = .ok (.putfield 15, 3) := by decide +kernel
theorem dX0_add_32 : decode cX0_add 32 = .ok (.return_, 1) := by decide +kernel
theorem dX0_colourAt_0 : decode cX0_colourAt 0 = .ok (.iload_n 1, 1) := by decide +kernel
theorem dX0_colourAt_1 : decode cX0_colourAt 1 = .ok (.ifCond .lt 20, 3) := by decide +kernel
theorem dX0_colourAt_4 : decode cX0_colourAt 4 = .ok (.iload_n 1, 1) := by decide +kernel
theorem dX0_colourAt_5 : decode cX0_colourAt 5 = .ok (.aload_n 0, 1) := by decide +kernel
theorem dX0_colourAt_6 : decode cX0_colourAt 6 = .ok (.getfield 15, 3) := by decide +kernel
theorem dX0_colourAt_9 : decode cX0_colourAt 9 = .ok (.if_icmp .ge 12, 3) := by decide +kernel
theorem dX0_colourAt_12 : decode cX0_colourAt 12 = .ok (.aload_n 0, 1) := by decide +kernel
theorem dX0_colourAt_13 : decode cX0_colourAt 13 = .ok (.getfield 9, 3) := by decide +kernel
theorem dX0_colourAt_16 : decode cX0_colourAt 16 = .ok (.iload_n 1, 1) := by decide +kernel
theorem dX0_colourAt_17 : decode cX0_colourAt 17 = .ok (.iaload, 1) := by decide +kernel
theorem dX0_colourAt_18 : decode cX0_colourAt 18 = .ok (.goto 4, 3) := by decide +kernel
theorem dX0_colourAt_21 : decode cX0_colourAt 21 = .ok (.iconst 0, 1) := by decide +kernel
theorem dX0_colourAt_22 : decode cX0_colourAt 22 = .ok (.ireturn, 1) := by decide +kernel
theorem dX0_changesInRows_0 : decode cX0_changesInRows 0 = .ok (.aload_n 0, 1) := by decide +kernel
theorem dX0_changesInRows_1 : decode cX0_changesInRows 1 = .ok (.getfield 19, 3) := by decide +kernel
theorem dX0_changesInRows_4 : decode cX0_changesInRows 4 = .ok (.ifCond .ne 5, 3) := by decide +kernel
theorem dX0_changesInRows_7 : decode cX0_changesInRows 7 = .ok (.iconst 0, 1) := by decide +kernel
theorem dX0_changesInRows_8 : decode cX0_changesInRows 8 = .ok (.ireturn, 1) := by decide +kernel
theorem dX0_changesInRows_9 : decode cX0_changesInRows 9 = .ok (.iconst 0, 1) := by decide +kernel
theorem dX0_changesInRows_10 : decode cX0_changesInRows 10 = .ok (.istore_n 1, 1) := by decide +kernel
theorem dX0_changesInRows_11 : decode cX0_changesInRows 11 = .ok (.iconst 1, 1) := by decide +kernel
theorem dX0_changesInRows_12 : decode cX0_changesInRows 12 = .ok (.istore_n 2, 1) := by decide +kernel
theorem dX0_changesInRows_13 : decode cX0_changesInRows 13 = .ok (.iload_n 2, 1) := by decide +kernel
theorem dX0_changesInRows_14 : decode cX0_changesInRows 14 = .ok (.aload_n 0, 1) := by decide +kernel
theorem dX0_changesInRows_15 : decode cX0_changesInRows 15 = .ok (.getfield 15, 3) := by decide +kernel
theorem dX0_changesInRows_18 : decode cX0_changesInRows 18 = .ok (.if_icmp .ge 38, 3) := by decide +kernel
theorem dX0_changesInRows_21 : decode cX0_changesInRows 21 = .ok (.iload_n 2, 1) := by decide +kernel
theorem dX0_changesInRows_22 : decode cX0_changesInRows 22 = .ok (.aload_n 0, 1) := by decide +kernel
theorem dX0_changesInRows_23 : decode cX0_changesInRows 23 = .ok (.getfield 19, 3) := by decide +kernel
theorem dX0_changesInRows_26 : decode cX0_changesInRows 26 = .ok (.irem, 1) := by decide +kernel
theorem dX0_changesInRows_27 : decode cX0_changesInRows 27 = .ok (.ifCond .eq 23, 3) := by decide +kernel
theorem dX0_changesInRows_30 : decode cX0_changesInRows 30 = .ok (.aload_n 0, 1) := by decide +kernel
theorem dX0_changesInRows_31 : decode cX0_changesInRows 31 = .ok (.getfield 9, 3) := by decide +kernel
theorem dX0_changesInRows_34 : decode cX0_changesInRows 34 = .ok (.iload_n 2, 1) := by decide +kernel
theorem dX0_changesInRows_35 : decode cX0_changesInRows 35 = .ok (.iaload, 1) := by decide +kernel
theorem dX0_changesInRows_36 : decode cX0_changesInRows 36 = .ok (.aload_n 0, 1) := by decide +kernel
theorem dX0_changesInRows_37 : decode cX0_changesInRows 37 = .ok (.getfield 9, 3) := by decide +kernel
theorem dX0_changesInRows_40 : decode cX0_changesInRows 40 = .ok (.iload_n 2, 1) := by decide +kernel
theorem dX0_changesInRows_41 : decode cX0_changesInRows 41 = .ok (.iconst 1, 1) := by decide +kernel
theorem dX0_changesInRows_42 : decode cX0_changesInRows 42 = .ok (.isub, 1) := by decide +kernel
theorem dX0_changesInRows_43 : decode cX0_changesInRows 43 = .ok (.iaload, 1) := by decide +kernel
theorem dX0_changesInRows_44 : decode cX0_changesInRows 44 = .ok (.if_icmp .eq 6, 3) := by decide +kernel
theorem dX0_changesInRows_47 : decode cX0_changesInRows 47 = .ok (.iinc 1 1, 3) := by decide +kernel
theorem dX0_changesInRows_50 : decode cX0_changesInRows 50 = .ok (.iinc 2 1, 3) := by decide +kernel
theorem dX0_changesInRows_53 : decode cX0_changesInRows 53 = .ok (.goto (-40), 3) := by decide +kernel
theorem dX0_changesInRows_56 : decode cX0_changesInRows 56 = .ok (.iload_n 1, 1) := by decide +kernel
theorem dX0_changesInRows_57 : decode cX0_changesInRows 57 = .ok (.ireturn, 1) := by decide +kernel
theorem dX0_mostOften_0 : decode cX0_mostOften 0 = .ok (.iconst 0, 1) := by decide +kernel
theorem dX0_mostOften_1 : decode cX0_mostOften 1 = .ok (.istore_n 1, 1) := by decide +kernel
theorem dX0_mostOften_2 : decode cX0_mostOften 2 = .ok (.iconst 0, 1) := by decide +kernel
theorem dX0_mostOften_3 : decode cX0_mostOften 3 = .ok (.istore_n 2, 1) := by decide +kernel
theorem dX0_mostOften_4 : decode cX0_mostOften 4 = .ok (.iconst 0, 1) := by decide +kernel
theorem dX0_mostOften_5 : decode cX0_mostOften 5 = .ok (.istore_n 3, 1) := by decide +kernel
theorem dX0_mostOften_6 : decode cX0_mostOften 6 = .ok (.iload_n 3, 1) := by decide +kernel
theorem dX0_mostOften_7 : decode cX0_mostOften 7 = .ok (.aload_n 0, 1) := by decide +kernel
theorem dX0_mostOften_8 : decode cX0_mostOften 8 = .ok (.getfield 15, 3) := by decide +kernel
theorem dX0_mostOften_11 : decode cX0_mostOften 11 = .ok (.if_icmp .ge 32, 3) := by decide +kernel
theorem dX0_mostOften_14 : decode cX0_mostOften 14 = .ok (.aload_n 0, 1) := by decide +kernel
theorem dX0_mostOften_15 : decode cX0_mostOften 15 = .ok (.iload_n 3, 1) := by decide +kernel
theorem dX0_mostOften_16 : decode cX0_mostOften 16 = .ok (.invokevirtual 22, 3) := by decide +kernel
theorem dX0_mostOften_19 : decode cX0_mostOften 19 = .ok (.istore 4, 2) := by decide +kernel
theorem dX0_mostOften_21 : decode cX0_mostOften 21 = .ok (.iload 4, 2) := by decide +kernel
theorem dX0_mostOften_23 : decode cX0_mostOften 23 = .ok (.iload_n 2, 1) := by decide +kernel
theorem dX0_mostOften_24 : decode cX0_mostOften 24 = .ok (.if_icmp .le 13, 3) := by decide +kernel
theorem dX0_mostOften_27 : decode cX0_mostOften 27 = .ok (.aload_n 0, 1) := by decide +kernel
theorem dX0_mostOften_28 : decode cX0_mostOften 28 = .ok (.getfield 9, 3) := by decide +kernel
theorem dX0_mostOften_31 : decode cX0_mostOften 31 = .ok (.iload_n 3, 1) := by decide +kernel
theorem dX0_mostOften_32 : decode cX0_mostOften 32 = .ok (.iaload, 1) := by decide +kernel
theorem dX0_mostOften_33 : decode cX0_mostOften 33 = .ok (.istore_n 1, 1) := by decide +kernel
theorem dX0_mostOften_34 : decode cX0_mostOften 34 = .ok (.iload 4, 2) := by decide +kernel
theorem dX0_mostOften_36 : decode cX0_mostOften 36 = .ok (.istore_n 2, 1) := by decide +kernel
theorem dX0_mostOften_37 : decode cX0_mostOften 37 = .ok (.iinc 3 1, 3) := by decide +kernel
theorem dX0_mostOften_40 : decode cX0_mostOften 40 = .ok (.goto (-34), 3) := by decide +kernel
theorem dX0_mostOften_43 : decode cX0_mostOften 43 = .ok (.iload_n 1, 1) := by decide +kernel
theorem dX0_mostOften_44 : decode cX0_mostOften 44 = .ok (.ireturn, 1) := by decide +kernel
theorem dX0_timesFrom_0 : decode cX0_timesFrom 0 = .ok (.iconst 0, 1) := by decide +kernel
theorem dX0_timesFrom_1 : decode cX0_timesFrom 1 = .ok (.istore_n 2, 1) := by decide +kernel
theorem dX0_timesFrom_2 : decode cX0_timesFrom 2 = .ok (.iload_n 1, 1) := by decide +kernel
theorem dX0_timesFrom_3 : decode cX0_timesFrom 3 = .ok (.istore_n 3, 1) := by decide +kernel
theorem dX0_timesFrom_4 : decode cX0_timesFrom 4 = .ok (.iload_n 3, 1) := by decide +kernel
theorem dX0_timesFrom_5 : decode cX0_timesFrom 5 = .ok (.aload_n 0, 1) := by decide +kernel
theorem dX0_timesFrom_6 : decode cX0_timesFrom 6 = .ok (.getfield 15, 3) := by decide +kernel
theorem dX0_timesFrom_9 : decode cX0_timesFrom 9 = .ok (.if_icmp .ge 27, 3) := by decide +kernel
theorem dX0_timesFrom_12 : decode cX0_timesFrom 12 = .ok (.aload_n 0, 1) := by decide +kernel
theorem dX0_timesFrom_13 : decode cX0_timesFrom 13 = .ok (.getfield 9, 3) := by decide +kernel
theorem dX0_timesFrom_16 : decode cX0_timesFrom 16 = .ok (.iload_n 3, 1) := by decide +kernel
theorem dX0_timesFrom_17 : decode cX0_timesFrom 17 = .ok (.iaload, 1) := by decide +kernel
theorem dX0_timesFrom_18 : decode cX0_timesFrom 18 = .ok (.aload_n 0, 1) := by decide +kernel
theorem dX0_timesFrom_19 : decode cX0_timesFrom 19 = .ok (.getfield 9, 3) := by decide +kernel
theorem dX0_timesFrom_22 : decode cX0_timesFrom 22 = .ok (.iload_n 1, 1) := by decide +kernel
theorem dX0_timesFrom_23 : decode cX0_timesFrom 23 = .ok (.iaload, 1) := by decide +kernel
theorem dX0_timesFrom_24 : decode cX0_timesFrom 24 = .ok (.if_icmp .ne 6, 3) := by decide +kernel
theorem dX0_timesFrom_27 : decode cX0_timesFrom 27 = .ok (.iinc 2 1, 3) := by decide +kernel
theorem dX0_timesFrom_30 : decode cX0_timesFrom 30 = .ok (.iinc 3 1, 3) := by decide +kernel
theorem dX0_timesFrom_33 : decode cX0_timesFrom 33 = .ok (.goto (-29), 3) := by decide +kernel
theorem dX0_timesFrom_36 : decode cX0_timesFrom 36 = .ok (.iload_n 2, 1) := by decide +kernel
theorem dX0_timesFrom_37 : decode cX0_timesFrom 37 = .ok (.ireturn, 1) := by decide +kernel
theorem dX1_init_0 : decode cX1_init 0 = .ok (.aload_n 0, 1) := by decide +kernel
theorem dX1_init_1 : decode cX1_init 1 = .ok (.invokespecial 1, 3) := by decide +kernel
theorem dX1_init_4 : decode cX1_init 4 = .ok (.aload_n 0, 1) := by decide +kernel
theorem dX1_init_5 : decode cX1_init 5 = .ok (.iload_n 1, 1) := by decide +kernel
theorem dX1_init_6 : decode cX1_init 6 = .ok (.putfield 7, 3) := by decide +kernel
theorem dX1_init_9 : decode cX1_init 9 = .ok (.aload_n 0, 1) := by decide +kernel
theorem dX1_init_10 : decode cX1_init 10 = .ok (.iload_n 2, 1) := by decide +kernel
theorem dX1_init_11 : decode cX1_init 11 = .ok (.putfield 13, 3) := by decide +kernel
theorem dX1_init_14 : decode cX1_init 14 = .ok (.aload_n 0, 1) := by decide +kernel
theorem dX1_init_15 : decode cX1_init 15 = .ok (.iload_n 3, 1) := by decide +kernel
theorem dX1_init_16 : decode cX1_init 16 = .ok (.putfield 16, 3) := by decide +kernel
theorem dX1_init_19 : decode cX1_init 19 = .ok (.aload_n 0, 1) := by decide +kernel
theorem dX1_init_20 : decode cX1_init 20 = .ok (.iload 4, 2) := by decide +kernel
theorem dX1_init_22 : decode cX1_init 22 = .ok (.putfield 19, 3) := by decide +kernel
theorem dX1_init_25 : decode cX1_init 25 = .ok (.aload_n 0, 1) := by decide +kernel
theorem dX1_init_26 : decode cX1_init 26 = .ok (.aload 5, 2) := by decide +kernel
theorem dX1_init_28 : decode cX1_init 28 = .ok (.putfield 22, 3) := by decide +kernel
theorem dX1_init_31 : decode cX1_init 31 = .ok (.aload_n 0, 1) := by decide +kernel
theorem dX1_init_32 : decode cX1_init 32 = .ok (.aload 6, 2) := by decide +kernel
theorem dX1_init_34 : decode cX1_init 34 = .ok (.putfield 26, 3) := by decide +kernel
theorem dX1_init_37 : decode cX1_init 37 = .ok (.return_, 1) := by decide +kernel
theorem dX2_init_0 : decode cX2_init 0 = .ok (.aload_n 0, 1) := by decide +kernel
theorem dX2_init_1 : decode cX2_init 1 = .ok (.invokespecial 1, 3) := by decide +kernel
theorem dX2_init_4 : decode cX2_init 4 = .ok (.aload_n 0, 1) := by decide +kernel
theorem dX2_init_5 : decode cX2_init 5 = .ok (.iconst 4, 1) := by decide +kernel
theorem dX2_init_6 : decode cX2_init 6 = .ok (.bipush 8, 2) := by decide +kernel
theorem dX2_init_8 : decode cX2_init 8 = .ok (.multianewarray 9 2, 4) := by decide +kernel
theorem dX2_init_12 : decode cX2_init 12 = .ok (.putfield 11, 3) := by decide +kernel
theorem dX2_init_15 : decode cX2_init 15 = .ok (.aload_n 0, 1) := by decide +kernel
theorem dX2_init_16 : decode cX2_init 16 = .ok (.bipush 6, 2) := by decide +kernel
theorem dX2_init_18 : decode cX2_init 18 = .ok (.anewarray 14, 3) := by decide +kernel
theorem dX2_init_21 : decode cX2_init 21 = .ok (.putfield 16, 3) := by decide +kernel
theorem dX2_init_24 : decode cX2_init 24 = .ok (.aload_n 0, 1) := by decide +kernel
theorem dX2_init_25 : decode cX2_init 25 = .ok (.bipush 60, 2) := by decide +kernel
theorem dX2_init_27 : decode cX2_init 27 = .ok (.anewarray 14, 3) := by decide +kernel
theorem dX2_init_30 : decode cX2_init 30 = .ok (.putfield 20, 3) := by decide +kernel
theorem dX2_init_33 : decode cX2_init 33 = .ok (.aload_n 0, 1) := by decide +kernel
theorem dX2_init_34 : decode cX2_init 34 = .ok (.new 23, 3) := by decide +kernel
theorem dX2_init_37 : decode cX2_init 37 = .ok (.dup, 1) := by decide +kernel
theorem dX2_init_38 : decode cX2_init 38 = .ok (.invokespecial 25, 3) := by decide +kernel
theorem dX2_init_41 : decode cX2_init 41 = .ok (.putfield 26, 3) := by decide +kernel
theorem dX2_init_44 : decode cX2_init 44 = .ok (.iconst 0, 1) := by decide +kernel
theorem dX2_init_45 : decode cX2_init 45 = .ok (.istore_n 1, 1) := by decide +kernel
theorem dX2_init_46 : decode cX2_init 46 = .ok (.iload_n 1, 1) := by decide +kernel
theorem dX2_init_47 : decode cX2_init 47 = .ok (.iconst 4, 1) := by decide +kernel
theorem dX2_init_48 : decode cX2_init 48 = .ok (.if_icmp .ge 32, 3) := by decide +kernel
theorem dX2_init_51 : decode cX2_init 51 = .ok (.iconst 0, 1) := by decide +kernel
theorem dX2_init_52 : decode cX2_init 52 = .ok (.istore_n 2, 1) := by decide +kernel
theorem dX2_init_53 : decode cX2_init 53 = .ok (.iload_n 2, 1) := by decide +kernel
theorem dX2_init_54 : decode cX2_init 54 = .ok (.bipush 8, 2) := by decide +kernel
theorem dX2_init_56 : decode cX2_init 56 = .ok (.if_icmp .ge 18, 3) := by decide +kernel
theorem dX2_init_59 : decode cX2_init 59 = .ok (.aload_n 0, 1) := by decide +kernel
theorem dX2_init_60 : decode cX2_init 60 = .ok (.getfield 11, 3) := by decide +kernel
theorem dX2_init_63 : decode cX2_init 63 = .ok (.iload_n 1, 1) := by decide +kernel
theorem dX2_init_64 : decode cX2_init 64 = .ok (.aaload, 1) := by decide +kernel
theorem dX2_init_65 : decode cX2_init 65 = .ok (.iload_n 2, 1) := by decide +kernel
theorem dX2_init_66 : decode cX2_init 66 = .ok (.iload_n 2, 1) := by decide +kernel
theorem dX2_init_67 : decode cX2_init 67 = .ok (.iastore, 1) := by decide +kernel
theorem dX2_init_68 : decode cX2_init 68 = .ok (.iinc 2 1, 3) := by decide +kernel
theorem dX2_init_71 : decode cX2_init 71 = .ok (.goto (-18), 3) := by decide +kernel
theorem dX2_init_74 : decode cX2_init 74 = .ok (.iinc 1 1, 3) := by decide +kernel
theorem dX2_init_77 : decode cX2_init 77 = .ok (.goto (-31), 3) := by decide +kernel
theorem dX2_init_80 : decode cX2_init 80 = .ok (.aload_n 0, 1) := by decide +kernel
theorem dX2_init_81 : decode cX2_init 81 = .ok (.getfield 16, 3) := by decide +kernel
theorem dX2_init_84 : decode cX2_init 84 = .ok (.iconst 0, 1) := by decide +kernel
theorem dX2_init_85 : decode cX2_init 85 = .ok (.new 14, 3) := by decide +kernel
theorem dX2_init_88 : decode cX2_init 88 = .ok (.dup, 1) := by decide +kernel
theorem dX2_init_89 : decode cX2_init 89 = .ok (.bipush 14, 2) := by decide +kernel
theorem dX2_init_91 : decode cX2_init 91 = .ok (.iconst 0, 1) := by decide +kernel
theorem dX2_init_92 : decode cX2_init 92 = .ok (.iconst 0, 1) := by decide +kernel
theorem dX2_init_93 : decode cX2_init 93 = .ok (.iconst 0, 1) := by decide +kernel
theorem dX2_init_94 : decode cX2_init 94 = .ok (.aconst_null, 1) := by decide +kernel
theorem dX2_init_95 : decode cX2_init 95 = .ok (.aconst_null, 1) := by decide +kernel
theorem dX2_init_96 : decode cX2_init 96 = .ok (.invokespecial 30, 3) := by decide +kernel
theorem dX2_init_99 : decode cX2_init 99 = .ok (.aastore, 1) := by decide +kernel
theorem dX2_init_100 : decode cX2_init 100 = .ok (.aload_n 0, 1) := by decide +kernel
theorem dX2_init_101 : decode cX2_init 101 = .ok (.getfield 16, 3) := by decide +kernel
theorem dX2_init_104 : decode cX2_init 104 = .ok (.iconst 1, 1) := by decide +kernel
theorem dX2_init_105 : decode cX2_init 105 = .ok (.new 14, 3) := by decide +kernel
theorem dX2_init_108 : decode cX2_init 108 = .ok (.dup, 1) := by decide +kernel
theorem dX2_init_109 : decode cX2_init 109 = .ok (.bipush 15, 2) := by decide +kernel
theorem dX2_init_111 : decode cX2_init 111 = .ok (.iconst 0, 1) := by decide +kernel
theorem dX2_init_112 : decode cX2_init 112 = .ok (.iconst 0, 1) := by decide +kernel
theorem dX2_init_113 : decode cX2_init 113 = .ok (.iconst 0, 1) := by decide +kernel
theorem dX2_init_114 : decode cX2_init 114 = .ok (.aload_n 0, 1) := by decide +kernel
theorem dX2_init_115 : decode cX2_init 115 = .ok (.getfield 11, 3) := by decide +kernel
theorem dX2_init_118 : decode cX2_init 118 = .ok (.iconst 0, 1) := by decide +kernel
theorem dX2_init_119 : decode cX2_init 119 = .ok (.aaload, 1) := by decide +kernel
theorem dX2_init_120 : decode cX2_init 120 = .ok (.aconst_null, 1) := by decide +kernel
theorem dX2_init_121 : decode cX2_init 121 = .ok (.invokespecial 30, 3) := by decide +kernel
theorem dX2_init_124 : decode cX2_init 124 = .ok (.aastore, 1) := by decide +kernel
theorem dX2_init_125 : decode cX2_init 125 = .ok (.return_, 1) := by decide +kernel
theorem dX2_dye_0 : decode cX2_dye 0 = .ok (.iload_n 1, 1) := by decide +kernel
theorem dX2_dye_1 : decode cX2_dye 1 = .ok (.invokestatic 33, 3) := by decide +kernel
theorem dX2_dye_4 : decode cX2_dye 4 = .ok (.ifCond .eq 13, 3) := by decide +kernel
theorem dX2_dye_7 : decode cX2_dye 7 = .ok (.iload_n 2, 1) := by decide +kernel
theorem dX2_dye_8 : decode cX2_dye 8 = .ok (.ifCond .lt 9, 3) := by decide +kernel
theorem dX2_dye_11 : decode cX2_dye 11 = .ok (.iload_n 2, 1) := by decide +kernel
theorem dX2_dye_12 : decode cX2_dye 12 = .ok (.bipush 8, 2) := by decide +kernel
theorem dX2_dye_14 : decode cX2_dye 14 = .ok (.if_icmp .lt 11, 3) := by decide +kernel
theorem dX2_dye_17 : decode cX2_dye 17 = .ok (.aload_n 0, 1) := by decide +kernel
theorem dX2_dye_18 : decode cX2_dye 18 = .ok (.bipush (-3), 2) := by decide +kernel
theorem dX2_dye_20 : decode cX2_dye 20 = .ok (.putfield 37, 3) := by decide +kernel
theorem dX2_dye_23 : decode cX2_dye 23 = .ok (.iconst 0, 1) := by decide +kernel
theorem dX2_dye_24 : decode cX2_dye 24 = .ok (.ireturn, 1) := by decide +kernel
theorem dX2_dye_25 : decode cX2_dye 25 = .ok (.aload_n 0, 1) := by decide +kernel
theorem dX2_dye_26 : decode cX2_dye 26 = .ok (.getfield 11, 3) := by decide +kernel
theorem dX2_dye_29 : decode cX2_dye 29 = .ok (.iload_n 1, 1) := by decide +kernel
theorem dX2_dye_30 : decode cX2_dye 30 = .ok (.aaload, 1) := by decide +kernel
theorem dX2_dye_31 : decode cX2_dye 31 = .ok (.iload_n 2, 1) := by decide +kernel
theorem dX2_dye_32 : decode cX2_dye 32 = .ok (.iaload, 1) := by decide +kernel
theorem dX2_dye_33 : decode cX2_dye 33 = .ok (.istore 4, 2) := by decide +kernel
theorem dX2_dye_35 : decode cX2_dye 35 = .ok (.aload_n 0, 1) := by decide +kernel
theorem dX2_dye_36 : decode cX2_dye 36 = .ok (.getfield 11, 3) := by decide +kernel
theorem dX2_dye_39 : decode cX2_dye 39 = .ok (.iload_n 1, 1) := by decide +kernel
theorem dX2_dye_40 : decode cX2_dye 40 = .ok (.aaload, 1) := by decide +kernel
theorem dX2_dye_41 : decode cX2_dye 41 = .ok (.iload_n 2, 1) := by decide +kernel
theorem dX2_dye_42 : decode cX2_dye 42 = .ok (.iload_n 3, 1) := by decide +kernel
theorem dX2_dye_43 : decode cX2_dye 43 = .ok (.iastore, 1) := by decide +kernel
theorem dX2_dye_44 : decode cX2_dye 44 = .ok (.aload_n 0, 1) := by decide +kernel
theorem dX2_dye_45 : decode cX2_dye 45 = .ok (.iconst 0, 1) := by decide +kernel
theorem dX2_dye_46 : decode cX2_dye 46 = .ok (.putfield 37, 3) := by decide +kernel
theorem dX2_dye_49 : decode cX2_dye 49 = .ok (.iload 4, 2) := by decide +kernel
theorem dX2_dye_51 : decode cX2_dye 51 = .ok (.ireturn, 1) := by decide +kernel
theorem dX2_pattern_0 : decode cX2_pattern 0 = .ok (.iload_n 1, 1) := by decide +kernel
theorem dX2_pattern_1 : decode cX2_pattern 1 = .ok (.ifCond .lt 9, 3) := by decide +kernel
theorem dX2_pattern_4 : decode cX2_pattern 4 = .ok (.iload_n 1, 1) := by decide +kernel
theorem dX2_pattern_5 : decode cX2_pattern 5 = .ok (.bipush 13, 2) := by decide +kernel
theorem dX2_pattern_7 : decode cX2_pattern 7 = .ok (.if_icmp .le 6, 3) := by decide +kernel
theorem dX2_pattern_10 : decode cX2_pattern 10 = .ok (.bipush (-2), 2) := by decide +kernel
theorem dX2_pattern_12 : decode cX2_pattern 12 = .ok (.ireturn, 1) := by decide +kernel
theorem dX2_pattern_13 : decode cX2_pattern 13 = .ok (.aload_n 0, 1) := by decide +kernel
theorem dX2_pattern_14 : decode cX2_pattern 14 = .ok (.iload_n 1, 1) := by decide +kernel
theorem dX2_pattern_15 : decode cX2_pattern 15 = .ok (.iload_n 2, 1) := by decide +kernel
theorem dX2_pattern_16 : decode cX2_pattern 16 = .ok (.iload_n 3, 1) := by decide +kernel
theorem dX2_pattern_17 : decode cX2_pattern 17 = .ok (.iload 4, 2) := by decide +kernel
theorem dX2_pattern_19 : decode cX2_pattern 19 = .ok (.invokevirtual 41, 3) := by decide +kernel
theorem dX2_pattern_22 : decode cX2_pattern 22 = .ok (.ifCond .ne 6, 3) := by decide +kernel
theorem dX2_pattern_25 : decode cX2_pattern 25 = .ok (.bipush (-3), 2) := by decide +kernel
theorem dX2_pattern_27 : decode cX2_pattern 27 = .ok (.ireturn, 1) := by decide +kernel
theorem dX2_pattern_28 : decode cX2_pattern 28 = .ok (.iload_n 1, 1) := by decide +kernel
theorem dX2_pattern_29 : decode cX2_pattern 29 = .ok (.iload_n 3, 1) := by decide +kernel
theorem dX2_pattern_30 : decode cX2_pattern 30 = .ok (.invokestatic 45, 3) := by decide +kernel
theorem dX2_pattern_33 : decode cX2_pattern 33 = .ok (.ifCond .ne 6, 3) := by decide +kernel
theorem dX2_pattern_36 : decode cX2_pattern 36 = .ok (.bipush (-2), 2) := by decide +kernel
theorem dX2_pattern_38 : decode cX2_pattern 38 = .ok (.ireturn, 1) := by decide +kernel
theorem dX2_pattern_39 : decode cX2_pattern 39 = .ok (.aload_n 0, 1) := by decide +kernel
theorem dX2_pattern_40 : decode cX2_pattern 40 = .ok (.getfield 49, 3) := by decide +kernel
theorem dX2_pattern_43 : decode cX2_pattern 43 = .ok (.bipush 60, 2) := by decide +kernel
theorem dX2_pattern_45 : decode cX2_pattern 45 = .ok (.if_icmp .lt 6, 3) := by decide +kernel
theorem dX2_pattern_48 : decode cX2_pattern 48 = .ok (.bipush (-4), 2) := by decide +kernel
theorem dX2_pattern_50 : decode cX2_pattern 50 = .ok (.ireturn, 1) := by decide +kernel
theorem dX2_pattern_51 : decode cX2_pattern 51 = .ok (.iload_n 1, 1) := by decide +kernel
theorem dX2_pattern_52 : decode cX2_pattern 52 = .ok (.bipush 13, 2) := by decide +kernel
theorem dX2_pattern_54 : decode cX2_pattern 54 = .ok (.if_icmp .ne 11, 3) := by decide +kernel
theorem dX2_pattern_57 : decode cX2_pattern 57 = .ok (.aload_n 0, 1) := by decide +kernel
theorem dX2_pattern_58 : decode cX2_pattern 58 = .ok (.iload_n 2, 1) := by decide +kernel
theorem dX2_pattern_59 : decode cX2_pattern 59 = .ok (.invokevirtual 52, 3) := by decide +kernel
theorem dX2_pattern_62 : decode cX2_pattern 62 = .ok (.goto 4, 3) := by decide +kernel
theorem dX2_pattern_65 : decode cX2_pattern 65 = .ok (.aconst_null, 1) := by decide +kernel
theorem dX2_pattern_66 : decode cX2_pattern 66 = .ok (.astore 5, 2) := by decide +kernel
theorem dX2_pattern_68 : decode cX2_pattern 68 = .ok (.aload_n 0, 1) := by decide +kernel
theorem dX2_pattern_69 : decode cX2_pattern 69 = .ok (.getfield 20, 3) := by decide +kernel
theorem dX2_pattern_72 : decode cX2_pattern 72 = .ok (.aload_n 0, 1) := by decide +kernel
theorem dX2_pattern_73 : decode cX2_pattern 73 = .ok (.getfield 49, 3) := by decide +kernel
theorem dX2_pattern_76 : decode cX2_pattern 76 = .ok (.new 14, 3) := by decide +kernel
theorem dX2_pattern_79 : decode cX2_pattern 79 = .ok (.dup, 1) := by decide +kernel
theorem dX2_pattern_80 : decode cX2_pattern 80 = .ok (.iload_n 1, 1) := by decide +kernel
theorem dX2_pattern_81 : decode cX2_pattern 81 = .ok (.iload_n 2, 1) := by decide +kernel
theorem dX2_pattern_82 : decode cX2_pattern 82 = .ok (.iload_n 3, 1) := by decide +kernel
theorem dX2_pattern_83 : decode cX2_pattern 83 = .ok (.iload 4, 2) := by decide +kernel
theorem dX2_pattern_85 : decode cX2_pattern 85 = .ok (.aload_n 0, 1) := by decide +kernel
theorem dX2_pattern_86 : decode cX2_pattern 86 = .ok (.iload_n 1, 1) := by decide +kernel
theorem dX2_pattern_87 : decode cX2_pattern 87 = .ok (.iload_n 3, 1) := by decide +kernel
theorem dX2_pattern_88 : decode cX2_pattern 88 = .ok (.invokevirtual 56, 3) := by decide +kernel
theorem dX2_pattern_91 : decode cX2_pattern 91 = .ok (.aload 5, 2) := by decide +kernel
theorem dX2_pattern_93 : decode cX2_pattern 93 = .ok (.invokespecial 30, 3) := by decide +kernel
theorem dX2_pattern_96 : decode cX2_pattern 96 = .ok (.aastore, 1) := by decide +kernel
theorem dX2_pattern_97 : decode cX2_pattern 97 = .ok (.aload_n 0, 1) := by decide +kernel
theorem dX2_pattern_98 : decode cX2_pattern 98 = .ok (.dup, 1) := by decide +kernel
theorem dX2_pattern_99 : decode cX2_pattern 99 = .ok (.getfield 49, 3) := by decide +kernel
theorem dX2_pattern_102 : decode cX2_pattern 102 = .ok (.iconst 1, 1) := by decide +kernel
theorem dX2_pattern_103 : decode cX2_pattern 103 = .ok (.iadd, 1) := by decide +kernel
theorem dX2_pattern_104 : decode cX2_pattern 104 = .ok (.putfield 49, 3) := by decide +kernel
theorem dX2_pattern_107 : decode cX2_pattern 107 = .ok (.aload_n 0, 1) := by decide +kernel
theorem dX2_pattern_108 : decode cX2_pattern 108 = .ok (.getfield 49, 3) := by decide +kernel
theorem dX2_pattern_111 : decode cX2_pattern 111 = .ok (.iconst 1, 1) := by decide +kernel
theorem dX2_pattern_112 : decode cX2_pattern 112 = .ok (.isub, 1) := by decide +kernel
theorem dX2_pattern_113 : decode cX2_pattern 113 = .ok (.ireturn, 1) := by decide +kernel
theorem dX2_name_0 : decode cX2_name 0 = .ok (.iload_n 1, 1) := by decide +kernel
theorem dX2_name_1 : decode cX2_name 1 = .ok (.invokestatic 60, 3) := by decide +kernel
theorem dX2_name_4 : decode cX2_name 4 = .ok (.ifCond .eq 16, 3) := by decide +kernel
theorem dX2_name_7 : decode cX2_name 7 = .ok (.iload_n 2, 1) := by decide +kernel
theorem dX2_name_8 : decode cX2_name 8 = .ok (.iconst (-1), 1) := by decide +kernel
theorem dX2_name_9 : decode cX2_name 9 = .ok (.if_icmp .eq 14, 3) := by decide +kernel
theorem dX2_name_12 : decode cX2_name 12 = .ok (.aload_n 0, 1) := by decide +kernel
theorem dX2_name_13 : decode cX2_name 13 = .ok (.iload_n 2, 1) := by decide +kernel
theorem dX2_name_14 : decode cX2_name 14 = .ok (.invokevirtual 63, 3) := by decide +kernel
theorem dX2_name_17 : decode cX2_name 17 = .ok (.ifCond .ne 6, 3) := by decide +kernel
theorem dX2_name_20 : decode cX2_name 20 = .ok (.bipush (-3), 2) := by decide +kernel
theorem dX2_name_22 : decode cX2_name 22 = .ok (.ireturn, 1) := by decide +kernel
theorem dX2_name_23 : decode cX2_name 23 = .ok (.aload_n 0, 1) := by decide +kernel
theorem dX2_name_24 : decode cX2_name 24 = .ok (.getfield 16, 3) := by decide +kernel
theorem dX2_name_27 : decode cX2_name 27 = .ok (.iload_n 1, 1) := by decide +kernel
theorem dX2_name_28 : decode cX2_name 28 = .ok (.aaload, 1) := by decide +kernel
theorem dX2_name_29 : decode cX2_name 29 = .ok (.ifnull 7, 3) := by decide +kernel
theorem dX2_name_32 : decode cX2_name 32 = .ok (.iconst 1, 1) := by decide +kernel
theorem dX2_name_33 : decode cX2_name 33 = .ok (.goto 4, 3) := by decide +kernel
theorem dX2_name_36 : decode cX2_name 36 = .ok (.iconst 0, 1) := by decide +kernel
theorem dX2_name_37 : decode cX2_name 37 = .ok (.istore_n 3, 1) := by decide +kernel
theorem dX2_name_38 : decode cX2_name 38 = .ok (.aload_n 0, 1) := by decide +kernel
theorem dX2_name_39 : decode cX2_name 39 = .ok (.getfield 16, 3) := by decide +kernel
theorem dX2_name_42 : decode cX2_name 42 = .ok (.iload_n 1, 1) := by decide +kernel
theorem dX2_name_43 : decode cX2_name 43 = .ok (.aload_n 0, 1) := by decide +kernel
theorem dX2_name_44 : decode cX2_name 44 = .ok (.iload_n 2, 1) := by decide +kernel
theorem dX2_name_45 : decode cX2_name 45 = .ok (.invokevirtual 66, 3) := by decide +kernel
theorem dX2_name_48 : decode cX2_name 48 = .ok (.aastore, 1) := by decide +kernel
theorem dX2_name_49 : decode cX2_name 49 = .ok (.iload_n 3, 1) := by decide +kernel
theorem dX2_name_50 : decode cX2_name 50 = .ok (.ireturn, 1) := by decide +kernel
theorem dX2_ask_0 : decode cX2_ask 0 = .ok (.aload_n 0, 1) := by decide +kernel
theorem dX2_ask_1 : decode cX2_ask 1 = .ok (.iload_n 1, 1) := by decide +kernel
theorem dX2_ask_2 : decode cX2_ask 2 = .ok (.invokevirtual 63, 3) := by decide +kernel
theorem dX2_ask_5 : decode cX2_ask 5 = .ok (.ifCond .ne 11, 3) := by decide +kernel
theorem dX2_ask_8 : decode cX2_ask 8 = .ok (.aload_n 0, 1) := by decide +kernel
theorem dX2_ask_9 : decode cX2_ask 9 = .ok (.bipush (-3), 2) := by decide +kernel
theorem dX2_ask_11 : decode cX2_ask 11 = .ok (.putfield 37, 3) := by decide +kernel
theorem dX2_ask_14 : decode cX2_ask 14 = .ok (.iconst 0, 1) := by decide +kernel
theorem dX2_ask_15 : decode cX2_ask 15 = .ok (.ireturn, 1) := by decide +kernel
theorem dX2_ask_16 : decode cX2_ask 16 = .ok (.aload_n 0, 1) := by decide +kernel
theorem dX2_ask_17 : decode cX2_ask 17 = .ok (.iconst 0, 1) := by decide +kernel
theorem dX2_ask_18 : decode cX2_ask 18 = .ok (.putfield 69, 3) := by decide +kernel
theorem dX2_ask_21 : decode cX2_ask 21 = .ok (.aload_n 0, 1) := by decide +kernel
theorem dX2_ask_22 : decode cX2_ask 22 = .ok (.aload_n 0, 1) := by decide +kernel
theorem dX2_ask_23 : decode cX2_ask 23 = .ok (.iload_n 1, 1) := by decide +kernel
theorem dX2_ask_24 : decode cX2_ask 24 = .ok (.invokevirtual 66, 3) := by decide +kernel
theorem dX2_ask_27 : decode cX2_ask 27 = .ok (.iload_n 2, 1) := by decide +kernel
theorem dX2_ask_28 : decode cX2_ask 28 = .ok (.iload_n 3, 1) := by decide +kernel
theorem dX2_ask_29 : decode cX2_ask 29 = .ok (.invokevirtual 72, 3) := by decide +kernel
theorem dX2_ask_32 : decode cX2_ask 32 = .ok (.istore 4, 2) := by decide +kernel
theorem dX2_ask_34 : decode cX2_ask 34 = .ok (.aload_n 0, 1) := by decide +kernel
theorem dX2_ask_35 : decode cX2_ask 35 = .ok (.aload_n 0, 1) := by decide +kernel
theorem dX2_ask_36 : decode cX2_ask 36 = .ok (.getfield 76, 3) := by decide +kernel
theorem dX2_ask_39 : decode cX2_ask 39 = .ok (.ifCond .eq 13, 3) := by decide +kernel
theorem dX2_ask_42 : decode cX2_ask 42 = .ok (.bipush (-10), 2) := by decide +kernel
theorem dX2_ask_44 : decode cX2_ask 44 = .ok (.aload_n 0, 1) := by decide +kernel
theorem dX2_ask_45 : decode cX2_ask 45 = .ok (.getfield 76, 3) := by decide +kernel
theorem dX2_ask_48 : decode cX2_ask 48 = .ok (.isub, 1) := by decide +kernel
theorem dX2_ask_49 : decode cX2_ask 49 = .ok (.goto 4, 3) := by decide +kernel
theorem dX2_ask_52 : decode cX2_ask 52 = .ok (.iconst 0, 1) := by decide +kernel
theorem dX2_ask_53 : decode cX2_ask 53 = .ok (.putfield 37, 3) := by decide +kernel
theorem dX2_ask_56 : decode cX2_ask 56 = .ok (.aload_n 0, 1) := by decide +kernel
theorem dX2_ask_57 : decode cX2_ask 57 = .ok (.getfield 76, 3) := by decide +kernel
theorem dX2_ask_60 : decode cX2_ask 60 = .ok (.ifCond .eq 7, 3) := by decide +kernel
theorem dX2_ask_63 : decode cX2_ask 63 = .ok (.iconst 0, 1) := by decide +kernel
theorem dX2_ask_64 : decode cX2_ask 64 = .ok (.goto 5, 3) := by decide +kernel
theorem dX2_ask_67 : decode cX2_ask 67 = .ok (.iload 4, 2) := by decide +kernel
theorem dX2_ask_69 : decode cX2_ask 69 = .ok (.ireturn, 1) := by decide +kernel
theorem dX2_weave_0 : decode cX2_weave 0 = .ok (.aload_n 0, 1) := by decide +kernel
theorem dX2_weave_1 : decode cX2_weave 1 = .ok (.iload_n 1, 1) := by decide +kernel
theorem dX2_weave_2 : decode cX2_weave 2 = .ok (.invokevirtual 63, 3) := by decide +kernel
theorem dX2_weave_5 : decode cX2_weave 5 = .ok (.ifCond .ne 6, 3) := by decide +kernel
theorem dX2_weave_8 : decode cX2_weave 8 = .ok (.bipush (-3), 2) := by decide +kernel
theorem dX2_weave_10 : decode cX2_weave 10 = .ok (.ireturn, 1) := by decide +kernel
theorem dX2_weave_11 : decode cX2_weave 11 = .ok (.iload 4, 2) := by decide +kernel
theorem dX2_weave_13 : decode cX2_weave 13 = .ok (.invokestatic 79, 3) := by decide +kernel
theorem dX2_weave_16 : decode cX2_weave 16 = .ok (.ifCond .eq 11, 3) := by decide +kernel
theorem dX2_weave_19 : decode cX2_weave 19 = .ok (.iload 5, 2) := by decide +kernel
theorem dX2_weave_21 : decode cX2_weave 21 = .ok (.invokestatic 79, 3) := by decide +kernel
theorem dX2_weave_24 : decode cX2_weave 24 = .ok (.ifCond .ne 6, 3) := by decide +kernel
theorem dX2_weave_27 : decode cX2_weave 27 = .ok (.bipush (-2), 2) := by decide +kernel
theorem dX2_weave_29 : decode cX2_weave 29 = .ok (.ireturn, 1) := by decide +kernel
theorem dX2_weave_30 : decode cX2_weave 30 = .ok (.aload_n 0, 1) := by decide +kernel
theorem dX2_weave_31 : decode cX2_weave 31 = .ok (.iconst 0, 1) := by decide +kernel
theorem dX2_weave_32 : decode cX2_weave 32 = .ok (.putfield 69, 3) := by decide +kernel
theorem dX2_weave_35 : decode cX2_weave 35 = .ok (.aload_n 0, 1) := by decide +kernel
theorem dX2_weave_36 : decode cX2_weave 36 = .ok (.getfield 26, 3) := by decide +kernel
theorem dX2_weave_39 : decode cX2_weave 39 = .ok (.iload 4, 2) := by decide +kernel
theorem dX2_weave_41 : decode cX2_weave 41 = .ok (.invokevirtual 82, 3) := by decide +kernel
theorem dX2_weave_44 : decode cX2_weave 44 = .ok (.aload_n 0, 1) := by decide +kernel
theorem dX2_weave_45 : decode cX2_weave 45 = .ok (.iload_n 1, 1) := by decide +kernel
theorem dX2_weave_46 : decode cX2_weave 46 = .ok (.invokevirtual 66, 3) := by decide +kernel
theorem dX2_weave_49 : decode cX2_weave 49 = .ok (.astore 6, 2) := by decide +kernel
theorem dX2_weave_51 : decode cX2_weave 51 = .ok (.iconst 0, 1) := by decide +kernel
theorem dX2_weave_52 : decode cX2_weave 52 = .ok (.istore 7, 2) := by decide +kernel
theorem dX2_weave_54 : decode cX2_weave 54 = .ok (.iload 7, 2) := by decide +kernel
theorem dX2_weave_56 : decode cX2_weave 56 = .ok (.iload 5, 2) := by decide +kernel
theorem dX2_weave_58 : decode cX2_weave 58 = .ok (.if_icmp .ge 65, 3) := by decide +kernel
theorem dX2_weave_61 : decode cX2_weave 61 = .ok (.iconst 0, 1) := by decide +kernel
theorem dX2_weave_62 : decode cX2_weave 62 = .ok (.istore 8, 2) := by decide +kernel
theorem dX2_weave_64 : decode cX2_weave 64 = .ok (.iload 8, 2) := by decide +kernel
theorem dX2_weave_66 : decode cX2_weave 66 = .ok (.iload 4, 2) := by decide +kernel
theorem dX2_weave_68 : decode cX2_weave 68 = .ok (.if_icmp .ge 49, 3) := by decide +kernel
theorem dX2_weave_71 : decode cX2_weave 71 = .ok (.aload_n 0, 1) := by decide +kernel
theorem dX2_weave_72 : decode cX2_weave 72 = .ok (.aload 6, 2) := by decide +kernel
theorem dX2_weave_74 : decode cX2_weave 74 = .ok (.iload_n 2, 1) := by decide +kernel
theorem dX2_weave_75 : decode cX2_weave 75 = .ok (.iload 8, 2) := by decide +kernel
theorem dX2_weave_77 : decode cX2_weave 77 = .ok (.iadd, 1) := by decide +kernel
theorem dX2_weave_78 : decode cX2_weave 78 = .ok (.iload_n 3, 1) := by decide +kernel
theorem dX2_weave_79 : decode cX2_weave 79 = .ok (.iload 7, 2) := by decide +kernel
theorem dX2_weave_81 : decode cX2_weave 81 = .ok (.iadd, 1) := by decide +kernel
theorem dX2_weave_82 : decode cX2_weave 82 = .ok (.invokevirtual 72, 3) := by decide +kernel
theorem dX2_weave_85 : decode cX2_weave 85 = .ok (.istore 9, 2) := by decide +kernel
theorem dX2_weave_87 : decode cX2_weave 87 = .ok (.aload_n 0, 1) := by decide +kernel
theorem dX2_weave_88 : decode cX2_weave 88 = .ok (.getfield 76, 3) := by decide +kernel
theorem dX2_weave_91 : decode cX2_weave 91 = .ok (.ifCond .eq 11, 3) := by decide +kernel
theorem dX2_weave_94 : decode cX2_weave 94 = .ok (.bipush (-10), 2) := by decide +kernel
theorem dX2_weave_96 : decode cX2_weave 96 = .ok (.aload_n 0, 1) := by decide +kernel
theorem dX2_weave_97 : decode cX2_weave 97 = .ok (.getfield 76, 3) := by decide +kernel
theorem dX2_weave_100 : decode cX2_weave 100 = .ok (.isub, 1) := by decide +kernel
theorem dX2_weave_101 : decode cX2_weave 101 = .ok (.ireturn, 1) := by decide +kernel
theorem dX2_weave_102 : decode cX2_weave 102 = .ok (.aload_n 0, 1) := by decide +kernel
theorem dX2_weave_103 : decode cX2_weave 103 = .ok (.getfield 26, 3) := by decide +kernel
theorem dX2_weave_106 : decode cX2_weave 106 = .ok (.iload 9, 2) := by decide +kernel
theorem dX2_weave_108 : decode cX2_weave 108 = .ok (.invokevirtual 86, 3) := by decide +kernel
theorem dX2_weave_111 : decode cX2_weave 111 = .ok (.iinc 8 1, 3) := by decide +kernel
theorem dX2_weave_114 : decode cX2_weave 114 = .ok (.goto (-50), 3) := by decide +kernel
theorem dX2_weave_117 : decode cX2_weave 117 = .ok (.iinc 7 1, 3) := by decide +kernel
theorem dX2_weave_120 : decode cX2_weave 120 = .ok (.goto (-66), 3) := by decide +kernel
theorem dX2_weave_123 : decode cX2_weave 123 = .ok (.iload 4, 2) := by decide +kernel
theorem dX2_weave_125 : decode cX2_weave 125 = .ok (.iload 5, 2) := by decide +kernel
theorem dX2_weave_127 : decode cX2_weave 127 = .ok (.imul, 1) := by decide +kernel
theorem dX2_weave_128 : decode cX2_weave 128 = .ok (.ireturn, 1) := by decide +kernel
theorem dX2_cloth_0 : decode cX2_cloth 0 = .ok (.aload_n 0, 1) := by decide +kernel
theorem dX2_cloth_1 : decode cX2_cloth 1 = .ok (.getfield 26, 3) := by decide +kernel
theorem dX2_cloth_4 : decode cX2_cloth 4 = .ok (.iload_n 1, 1) := by decide +kernel
theorem dX2_cloth_5 : decode cX2_cloth 5 = .ok (.invokevirtual 89, 3) := by decide +kernel
theorem dX2_cloth_8 : decode cX2_cloth 8 = .ok (.ireturn, 1) := by decide +kernel
theorem dX2_changes_0 : decode cX2_changes 0 = .ok (.aload_n 0, 1) := by decide +kernel
theorem dX2_changes_1 : decode cX2_changes 1 = .ok (.getfield 26, 3) := by decide +kernel
theorem dX2_changes_4 : decode cX2_changes 4 = .ok (.invokevirtual 93, 3) := by decide +kernel
theorem dX2_changes_7 : decode cX2_changes 7 = .ok (.ireturn, 1) := by decide +kernel
theorem dX2_most_0 : decode cX2_most 0 = .ok (.aload_n 0, 1) := by decide +kernel
theorem dX2_most_1 : decode cX2_most 1 = .ok (.getfield 26, 3) := by decide +kernel
theorem dX2_most_4 : decode cX2_most 4 = .ok (.invokevirtual 97, 3) := by decide +kernel
theorem dX2_most_7 : decode cX2_most 7 = .ok (.ireturn, 1) := by decide +kernel
theorem dX2_why_0 : decode cX2_why 0 = .ok (.aload_n 0, 1) := by decide +kernel
theorem dX2_why_1 : decode cX2_why 1 = .ok (.getfield 37, 3) := by decide +kernel
theorem dX2_why_4 : decode cX2_why 4 = .ok (.ireturn, 1) := by decide +kernel
theorem dX2_count_0 : decode cX2_count 0 = .ok (.iload_n 1, 1) := by decide +kernel
theorem dX2_count_1 : decode cX2_count 1 = .ok (.tableswitch 66 0 4 #[35, 40, 48, 56, 61], 35) := by decide +kernel
theorem dX2_count_36 : decode cX2_count 36 = .ok (.aload_n 0, 1) := by decide +kernel
theorem dX2_count_37 : decode cX2_count 37 = .ok (.getfield 49, 3) := by decide +kernel
theorem dX2_count_40 : decode cX2_count 40 = .ok (.ireturn, 1) := by decide +kernel
theorem dX2_count_41 : decode cX2_count 41 = .ok (.aload_n 0, 1) := by decide +kernel
theorem dX2_count_42 : decode cX2_count 42 = .ok (.getfield 26, 3) := by decide +kernel
theorem dX2_count_45 : decode cX2_count 45 = .ok (.getfield 100, 3) := by decide +kernel
theorem dX2_count_48 : decode cX2_count 48 = .ok (.ireturn, 1) := by decide +kernel
theorem dX2_count_49 : decode cX2_count 49 = .ok (.aload_n 0, 1) := by decide +kernel
theorem dX2_count_50 : decode cX2_count 50 = .ok (.getfield 26, 3) := by decide +kernel
theorem dX2_count_53 : decode cX2_count 53 = .ok (.getfield 103, 3) := by decide +kernel
theorem dX2_count_56 : decode cX2_count 56 = .ok (.ireturn, 1) := by decide +kernel
theorem dX2_count_57 : decode cX2_count 57 = .ok (.aload_n 0, 1) := by decide +kernel
theorem dX2_count_58 : decode cX2_count 58 = .ok (.getfield 106, 3) := by decide +kernel
theorem dX2_count_61 : decode cX2_count 61 = .ok (.ireturn, 1) := by decide +kernel
theorem dX2_count_62 : decode cX2_count 62 = .ok (.aload_n 0, 1) := by decide +kernel
theorem dX2_count_63 : decode cX2_count 63 = .ok (.getfield 109, 3) := by decide +kernel
theorem dX2_count_66 : decode cX2_count 66 = .ok (.ireturn, 1) := by decide +kernel
theorem dX2_count_67 : decode cX2_count 67 = .ok (.bipush (-2), 2) := by decide +kernel
theorem dX2_count_69 : decode cX2_count 69 = .ok (.ireturn, 1) := by decide +kernel
theorem dX2_isDye_0 : decode cX2_isDye 0 = .ok (.iload_n 0, 1) := by decide +kernel
theorem dX2_isDye_1 : decode cX2_isDye 1 = .ok (.ifCond .lt 12, 3) := by decide +kernel
theorem dX2_isDye_4 : decode cX2_isDye 4 = .ok (.iload_n 0, 1) := by decide +kernel
theorem dX2_isDye_5 : decode cX2_isDye 5 = .ok (.iconst 4, 1) := by decide +kernel
theorem dX2_isDye_6 : decode cX2_isDye 6 = .ok (.if_icmp .ge 7, 3) := by decide +kernel
theorem dX2_isDye_9 : decode cX2_isDye 9 = .ok (.iconst 1, 1) := by decide +kernel
theorem dX2_isDye_10 : decode cX2_isDye 10 = .ok (.goto 4, 3) := by decide +kernel
theorem dX2_isDye_13 : decode cX2_isDye 13 = .ok (.iconst 0, 1) := by decide +kernel
theorem dX2_isDye_14 : decode cX2_isDye 14 = .ok (.ireturn, 1) := by decide +kernel
theorem dX2_isName_0 : decode cX2_isName 0 = .ok (.iload_n 0, 1) := by decide +kernel
theorem dX2_isName_1 : decode cX2_isName 1 = .ok (.ifCond .lt 13, 3) := by decide +kernel
theorem dX2_isName_4 : decode cX2_isName 4 = .ok (.iload_n 0, 1) := by decide +kernel
theorem dX2_isName_5 : decode cX2_isName 5 = .ok (.bipush 6, 2) := by decide +kernel
theorem dX2_isName_7 : decode cX2_isName 7 = .ok (.if_icmp .ge 7, 3) := by decide +kernel
theorem dX2_isName_10 : decode cX2_isName 10 = .ok (.iconst 1, 1) := by decide +kernel
theorem dX2_isName_11 : decode cX2_isName 11 = .ok (.goto 4, 3) := by decide +kernel
theorem dX2_isName_14 : decode cX2_isName 14 = .ok (.iconst 0, 1) := by decide +kernel
theorem dX2_isName_15 : decode cX2_isName 15 = .ok (.ireturn, 1) := by decide +kernel
theorem dX2_isSide_0 : decode cX2_isSide 0 = .ok (.iload_n 0, 1) := by decide +kernel
theorem dX2_isSide_1 : decode cX2_isSide 1 = .ok (.iconst 1, 1) := by decide +kernel
theorem dX2_isSide_2 : decode cX2_isSide 2 = .ok (.if_icmp .lt 13, 3) := by decide +kernel
theorem dX2_isSide_5 : decode cX2_isSide 5 = .ok (.iload_n 0, 1) := by decide +kernel
theorem dX2_isSide_6 : decode cX2_isSide 6 = .ok (.bipush 12, 2) := by decide +kernel
theorem dX2_isSide_8 : decode cX2_isSide 8 = .ok (.if_icmp .gt 7, 3) := by decide +kernel
theorem dX2_isSide_11 : decode cX2_isSide 11 = .ok (.iconst 1, 1) := by decide +kernel
theorem dX2_isSide_12 : decode cX2_isSide 12 = .ok (.goto 4, 3) := by decide +kernel
theorem dX2_isSide_15 : decode cX2_isSide 15 = .ok (.iconst 0, 1) := by decide +kernel
theorem dX2_isSide_16 : decode cX2_isSide 16 = .ok (.ireturn, 1) := by decide +kernel
theorem dX2_isPattern_0 : decode cX2_isPattern 0 = .ok (.iload_n 1, 1) := by decide +kernel
theorem dX2_isPattern_1 : decode cX2_isPattern 1 = .ok (.ifCond .lt 15, 3) := by decide +kernel
theorem dX2_isPattern_4 : decode cX2_isPattern 4 = .ok (.iload_n 1, 1) := by decide +kernel
theorem dX2_isPattern_5 : decode cX2_isPattern 5 = .ok (.aload_n 0, 1) := by decide +kernel
theorem dX2_isPattern_6 : decode cX2_isPattern 6 = .ok (.getfield 49, 3) := by decide +kernel
theorem dX2_isPattern_9 : decode cX2_isPattern 9 = .ok (.if_icmp .ge 7, 3) := by decide +kernel
theorem dX2_isPattern_12 : decode cX2_isPattern 12 = .ok (.iconst 1, 1) := by decide +kernel
theorem dX2_isPattern_13 : decode cX2_isPattern 13 = .ok (.goto 4, 3) := by decide +kernel
theorem dX2_isPattern_16 : decode cX2_isPattern 16 = .ok (.iconst 0, 1) := by decide +kernel
theorem dX2_isPattern_17 : decode cX2_isPattern 17 = .ok (.ireturn, 1) := by decide +kernel
theorem dX2_numbered_0 : decode cX2_numbered 0 = .ok (.aload_n 0, 1) := by decide +kernel
theorem dX2_numbered_1 : decode cX2_numbered 1 = .ok (.iload_n 1, 1) := by decide +kernel
theorem dX2_numbered_2 : decode cX2_numbered 2 = .ok (.invokevirtual 63, 3) := by decide +kernel
theorem dX2_numbered_5 : decode cX2_numbered 5 = .ok (.ifCond .eq 12, 3) := by decide +kernel
theorem dX2_numbered_8 : decode cX2_numbered 8 = .ok (.aload_n 0, 1) := by decide +kernel
theorem dX2_numbered_9 : decode cX2_numbered 9 = .ok (.getfield 20, 3) := by decide +kernel
theorem dX2_numbered_12 : decode cX2_numbered 12 = .ok (.iload_n 1, 1) := by decide +kernel
theorem dX2_numbered_13 : decode cX2_numbered 13 = .ok (.aaload, 1) := by decide +kernel
theorem dX2_numbered_14 : decode cX2_numbered 14 = .ok (.goto 4, 3) := by decide +kernel
theorem dX2_numbered_17 : decode cX2_numbered 17 = .ok (.aconst_null, 1) := by decide +kernel
theorem dX2_numbered_18 : decode cX2_numbered 18 = .ok (.areturn, 1) := by decide +kernel
theorem dX2_named_0 : decode cX2_named 0 = .ok (.iload_n 1, 1) := by decide +kernel
theorem dX2_named_1 : decode cX2_named 1 = .ok (.invokestatic 60, 3) := by decide +kernel
theorem dX2_named_4 : decode cX2_named 4 = .ok (.ifCond .eq 12, 3) := by decide +kernel
theorem dX2_named_7 : decode cX2_named 7 = .ok (.aload_n 0, 1) := by decide +kernel
theorem dX2_named_8 : decode cX2_named 8 = .ok (.getfield 16, 3) := by decide +kernel
theorem dX2_named_11 : decode cX2_named 11 = .ok (.iload_n 1, 1) := by decide +kernel
theorem dX2_named_12 : decode cX2_named 12 = .ok (.aaload, 1) := by decide +kernel
theorem dX2_named_13 : decode cX2_named 13 = .ok (.goto 4, 3) := by decide +kernel
theorem dX2_named_16 : decode cX2_named 16 = .ok (.aconst_null, 1) := by decide +kernel
theorem dX2_named_17 : decode cX2_named 17 = .ok (.areturn, 1) := by decide +kernel
theorem dX2_knowsAll_0 : decode cX2_knowsAll 0 = .ok (.iload_n 1, 1) := by decide +kernel
theorem dX2_knowsAll_1 : decode cX2_knowsAll 1 = .ok (.tableswitch 144 3 13 #[59, 59, 65, 87, 118, 118, 139, 59, 65, 59, 139], 59) := by decide +kernel
theorem dX2_knowsAll_60 : decode cX2_knowsAll 60 = .ok (.aload_n 0, 1) := by decide +kernel
theorem dX2_knowsAll_61 : decode cX2_knowsAll 61 = .ok (.iload_n 2, 1) := by decide +kernel
theorem dX2_knowsAll_62 : decode cX2_knowsAll 62 = .ok (.invokevirtual 63, 3) := by decide +kernel
theorem dX2_knowsAll_65 : decode cX2_knowsAll 65 = .ok (.ireturn, 1) := by decide +kernel
theorem dX2_knowsAll_66 : decode cX2_knowsAll 66 = .ok (.aload_n 0, 1) := by decide +kernel
theorem dX2_knowsAll_67 : decode cX2_knowsAll 67 = .ok (.iload_n 2, 1) := by decide +kernel
theorem dX2_knowsAll_68 : decode cX2_knowsAll 68 = .ok (.invokevirtual 63, 3) := by decide +kernel
theorem dX2_knowsAll_71 : decode cX2_knowsAll 71 = .ok (.ifCond .eq 15, 3) := by decide +kernel
theorem dX2_knowsAll_74 : decode cX2_knowsAll 74 = .ok (.aload_n 0, 1) := by decide +kernel
theorem dX2_knowsAll_75 : decode cX2_knowsAll 75 = .ok (.iload_n 3, 1) := by decide +kernel
theorem dX2_knowsAll_76 : decode cX2_knowsAll 76 = .ok (.invokevirtual 63, 3) := by decide +kernel
theorem dX2_knowsAll_79 : decode cX2_knowsAll 79 = .ok (.ifCond .eq 7, 3) := by decide +kernel
theorem dX2_knowsAll_82 : decode cX2_knowsAll 82 = .ok (.iconst 1, 1) := by decide +kernel
theorem dX2_knowsAll_83 : decode cX2_knowsAll 83 = .ok (.goto 4, 3) := by decide +kernel
theorem dX2_knowsAll_86 : decode cX2_knowsAll 86 = .ok (.iconst 0, 1) := by decide +kernel
theorem dX2_knowsAll_87 : decode cX2_knowsAll 87 = .ok (.ireturn, 1) := by decide +kernel
theorem dX2_knowsAll_88 : decode cX2_knowsAll 88 = .ok (.aload_n 0, 1) := by decide +kernel
theorem dX2_knowsAll_89 : decode cX2_knowsAll 89 = .ok (.iload_n 2, 1) := by decide +kernel
theorem dX2_knowsAll_90 : decode cX2_knowsAll 90 = .ok (.invokevirtual 63, 3) := by decide +kernel
theorem dX2_knowsAll_93 : decode cX2_knowsAll 93 = .ok (.ifCond .eq 24, 3) := by decide +kernel
theorem dX2_knowsAll_96 : decode cX2_knowsAll 96 = .ok (.aload_n 0, 1) := by decide +kernel
theorem dX2_knowsAll_97 : decode cX2_knowsAll 97 = .ok (.iload_n 3, 1) := by decide +kernel
theorem dX2_knowsAll_98 : decode cX2_knowsAll 98 = .ok (.invokevirtual 63, 3) := by decide +kernel
theorem dX2_knowsAll_101 : decode cX2_knowsAll 101 = .ok (.ifCond .eq 16, 3) := by decide +kernel
theorem dX2_knowsAll_104 : decode cX2_knowsAll 104 = .ok (.aload_n 0, 1) := by decide +kernel
theorem dX2_knowsAll_105 : decode cX2_knowsAll 105 = .ok (.iload 4, 2) := by decide +kernel
theorem dX2_knowsAll_107 : decode cX2_knowsAll 107 = .ok (.invokevirtual 63, 3) := by decide +kernel
theorem dX2_knowsAll_110 : decode cX2_knowsAll 110 = .ok (.ifCond .eq 7, 3) := by decide +kernel
theorem dX2_knowsAll_113 : decode cX2_knowsAll 113 = .ok (.iconst 1, 1) := by decide +kernel
theorem dX2_knowsAll_114 : decode cX2_knowsAll 114 = .ok (.goto 4, 3) := by decide +kernel
theorem dX2_knowsAll_117 : decode cX2_knowsAll 117 = .ok (.iconst 0, 1) := by decide +kernel
theorem dX2_knowsAll_118 : decode cX2_knowsAll 118 = .ok (.ireturn, 1) := by decide +kernel
theorem dX2_knowsAll_119 : decode cX2_knowsAll 119 = .ok (.aload_n 0, 1) := by decide +kernel
theorem dX2_knowsAll_120 : decode cX2_knowsAll 120 = .ok (.iload_n 2, 1) := by decide +kernel
theorem dX2_knowsAll_121 : decode cX2_knowsAll 121 = .ok (.invokevirtual 63, 3) := by decide +kernel
theorem dX2_knowsAll_124 : decode cX2_knowsAll 124 = .ok (.ifCond .eq 14, 3) := by decide +kernel
theorem dX2_knowsAll_127 : decode cX2_knowsAll 127 = .ok (.iload_n 3, 1) := by decide +kernel
theorem dX2_knowsAll_128 : decode cX2_knowsAll 128 = .ok (.invokestatic 33, 3) := by decide +kernel
theorem dX2_knowsAll_131 : decode cX2_knowsAll 131 = .ok (.ifCond .eq 7, 3) := by decide +kernel
theorem dX2_knowsAll_134 : decode cX2_knowsAll 134 = .ok (.iconst 1, 1) := by decide +kernel
theorem dX2_knowsAll_135 : decode cX2_knowsAll 135 = .ok (.goto 4, 3) := by decide +kernel
theorem dX2_knowsAll_138 : decode cX2_knowsAll 138 = .ok (.iconst 0, 1) := by decide +kernel
theorem dX2_knowsAll_139 : decode cX2_knowsAll 139 = .ok (.ireturn, 1) := by decide +kernel
theorem dX2_knowsAll_140 : decode cX2_knowsAll 140 = .ok (.iload_n 2, 1) := by decide +kernel
theorem dX2_knowsAll_141 : decode cX2_knowsAll 141 = .ok (.invokestatic 60, 3) := by decide +kernel
theorem dX2_knowsAll_144 : decode cX2_knowsAll 144 = .ok (.ireturn, 1) := by decide +kernel
theorem dX2_knowsAll_145 : decode cX2_knowsAll 145 = .ok (.iconst 1, 1) := by decide +kernel
theorem dX2_knowsAll_146 : decode cX2_knowsAll 146 = .ok (.ireturn, 1) := by decide +kernel
theorem dX2_fits_0 : decode cX2_fits 0 = .ok (.iload_n 0, 1) := by decide +kernel
theorem dX2_fits_1 : decode cX2_fits 1 = .ok (.lookupswitch 82 #[(4, 35), (10, 50), (12, 67)], 35) := by decide +kernel
theorem dX2_fits_36 : decode cX2_fits 36 = .ok (.iload_n 1, 1) := by decide +kernel
theorem dX2_fits_37 : decode cX2_fits 37 = .ok (.ifCond .lt 12, 3) := by decide +kernel
theorem dX2_fits_40 : decode cX2_fits 40 = .ok (.iload_n 1, 1) := by decide +kernel
theorem dX2_fits_41 : decode cX2_fits 41 = .ok (.iconst 3, 1) := by decide +kernel
theorem dX2_fits_42 : decode cX2_fits 42 = .ok (.if_icmp .gt 7, 3) := by decide +kernel
theorem dX2_fits_45 : decode cX2_fits 45 = .ok (.iconst 1, 1) := by decide +kernel
theorem dX2_fits_46 : decode cX2_fits 46 = .ok (.goto 4, 3) := by decide +kernel
theorem dX2_fits_49 : decode cX2_fits 49 = .ok (.iconst 0, 1) := by decide +kernel
theorem dX2_fits_50 : decode cX2_fits 50 = .ok (.ireturn, 1) := by decide +kernel
theorem dX2_fits_51 : decode cX2_fits 51 = .ok (.iload_n 1, 1) := by decide +kernel
theorem dX2_fits_52 : decode cX2_fits 52 = .ok (.iconst 1, 1) := by decide +kernel
theorem dX2_fits_53 : decode cX2_fits 53 = .ok (.if_icmp .lt 13, 3) := by decide +kernel
theorem dX2_fits_56 : decode cX2_fits 56 = .ok (.iload_n 1, 1) := by decide +kernel
theorem dX2_fits_57 : decode cX2_fits 57 = .ok (.bipush 50, 2) := by decide +kernel
theorem dX2_fits_59 : decode cX2_fits 59 = .ok (.if_icmp .gt 7, 3) := by decide +kernel
theorem dX2_fits_62 : decode cX2_fits 62 = .ok (.iconst 1, 1) := by decide +kernel
theorem dX2_fits_63 : decode cX2_fits 63 = .ok (.goto 4, 3) := by decide +kernel
theorem dX2_fits_66 : decode cX2_fits 66 = .ok (.iconst 0, 1) := by decide +kernel
theorem dX2_fits_67 : decode cX2_fits 67 = .ok (.ireturn, 1) := by decide +kernel
theorem dX2_fits_68 : decode cX2_fits 68 = .ok (.iload_n 1, 1) := by decide +kernel
theorem dX2_fits_69 : decode cX2_fits 69 = .ok (.ifCond .lt 12, 3) := by decide +kernel
theorem dX2_fits_72 : decode cX2_fits 72 = .ok (.iload_n 1, 1) := by decide +kernel
theorem dX2_fits_73 : decode cX2_fits 73 = .ok (.iconst 4, 1) := by decide +kernel
theorem dX2_fits_74 : decode cX2_fits 74 = .ok (.if_icmp .ge 7, 3) := by decide +kernel
theorem dX2_fits_77 : decode cX2_fits 77 = .ok (.iconst 1, 1) := by decide +kernel
theorem dX2_fits_78 : decode cX2_fits 78 = .ok (.goto 4, 3) := by decide +kernel
theorem dX2_fits_81 : decode cX2_fits 81 = .ok (.iconst 0, 1) := by decide +kernel
theorem dX2_fits_82 : decode cX2_fits 82 = .ok (.ireturn, 1) := by decide +kernel
theorem dX2_fits_83 : decode cX2_fits 83 = .ok (.iconst 1, 1) := by decide +kernel
theorem dX2_fits_84 : decode cX2_fits 84 = .ok (.ireturn, 1) := by decide +kernel
theorem dX2_rowFor_0 : decode cX2_rowFor 0 = .ok (.iload_n 2, 1) := by decide +kernel
theorem dX2_rowFor_1 : decode cX2_rowFor 1 = .ok (.invokestatic 33, 3) := by decide +kernel
theorem dX2_rowFor_4 : decode cX2_rowFor 4 = .ok (.ifCond .ne 5, 3) := by decide +kernel
theorem dX2_rowFor_7 : decode cX2_rowFor 7 = .ok (.aconst_null, 1) := by decide +kernel
theorem dX2_rowFor_8 : decode cX2_rowFor 8 = .ok (.areturn, 1) := by decide +kernel
theorem dX2_rowFor_9 : decode cX2_rowFor 9 = .ok (.iload_n 1, 1) := by decide +kernel
theorem dX2_rowFor_10 : decode cX2_rowFor 10 = .ok (.bipush 7, 2) := by decide +kernel
theorem dX2_rowFor_12 : decode cX2_rowFor 12 = .ok (.if_icmp .ne 10, 3) := by decide +kernel
theorem dX2_rowFor_15 : decode cX2_rowFor 15 = .ok (.aload_n 0, 1) := by decide +kernel
theorem dX2_rowFor_16 : decode cX2_rowFor 16 = .ok (.getfield 11, 3) := by decide +kernel
theorem dX2_rowFor_19 : decode cX2_rowFor 19 = .ok (.iload_n 2, 1) := by decide +kernel
theorem dX2_rowFor_20 : decode cX2_rowFor 20 = .ok (.aaload, 1) := by decide +kernel
theorem dX2_rowFor_21 : decode cX2_rowFor 21 = .ok (.areturn, 1) := by decide +kernel
theorem dX2_rowFor_22 : decode cX2_rowFor 22 = .ok (.iload_n 1, 1) := by decide +kernel
theorem dX2_rowFor_23 : decode cX2_rowFor 23 = .ok (.bipush 8, 2) := by decide +kernel
theorem dX2_rowFor_25 : decode cX2_rowFor 25 = .ok (.if_icmp .ne 18, 3) := by decide +kernel
theorem dX2_rowFor_28 : decode cX2_rowFor 28 = .ok (.aload_n 0, 1) := by decide +kernel
theorem dX2_rowFor_29 : decode cX2_rowFor 29 = .ok (.getfield 11, 3) := by decide +kernel
theorem dX2_rowFor_32 : decode cX2_rowFor 32 = .ok (.iload_n 2, 1) := by decide +kernel
theorem dX2_rowFor_33 : decode cX2_rowFor 33 = .ok (.aaload, 1) := by decide +kernel
theorem dX2_rowFor_34 : decode cX2_rowFor 34 = .ok (.invokevirtual 112, 3) := by decide +kernel
theorem dX2_rowFor_37 : decode cX2_rowFor 37 = .ok (.checkcast 113, 3) := by decide +kernel
theorem dX2_rowFor_40 : decode cX2_rowFor 40 = .ok (.goto 4, 3) := by decide +kernel
theorem dX2_rowFor_43 : decode cX2_rowFor 43 = .ok (.aconst_null, 1) := by decide +kernel
theorem dX2_rowFor_44 : decode cX2_rowFor 44 = .ok (.areturn, 1) := by decide +kernel
theorem dX2_tellPlace_0 : decode cX2_tellPlace 0 = .ok (.aload_n 0, 1) := by decide +kernel
theorem dX2_tellPlace_1 : decode cX2_tellPlace 1 = .ok (.iconst 0, 1) := by decide +kernel
theorem dX2_tellPlace_2 : decode cX2_tellPlace 2 = .ok (.putfield 106, 3) := by decide +kernel
theorem dX2_tellPlace_5 : decode cX2_tellPlace 5 = .ok (.aload_n 0, 1) := by decide +kernel
theorem dX2_tellPlace_6 : decode cX2_tellPlace 6 = .ok (.iconst 0, 1) := by decide +kernel
theorem dX2_tellPlace_7 : decode cX2_tellPlace 7 = .ok (.putfield 76, 3) := by decide +kernel
theorem dX2_tellPlace_10 : decode cX2_tellPlace 10 = .ok (.aload_n 0, 1) := by decide +kernel
theorem dX2_tellPlace_11 : decode cX2_tellPlace 11 = .ok (.aload_n 1, 1) := by decide +kernel
theorem dX2_tellPlace_12 : decode cX2_tellPlace 12 = .ok (.iload_n 2, 1) := by decide +kernel
theorem dX2_tellPlace_13 : decode cX2_tellPlace 13 = .ok (.iload_n 3, 1) := by decide +kernel
theorem dX2_tellPlace_14 : decode cX2_tellPlace 14 = .ok (.invokevirtual 118, 3) := by decide +kernel
theorem dX2_tellPlace_17 : decode cX2_tellPlace 17 = .ok (.ireturn, 1) := by decide +kernel
theorem dX2_fail_0 : decode cX2_fail 0 = .ok (.aload_n 0, 1) := by decide +kernel
theorem dX2_fail_1 : decode cX2_fail 1 = .ok (.iload_n 1, 1) := by decide +kernel
theorem dX2_fail_2 : decode cX2_fail 2 = .ok (.putfield 76, 3) := by decide +kernel
theorem dX2_fail_5 : decode cX2_fail 5 = .ok (.iconst 0, 1) := by decide +kernel
theorem dX2_fail_6 : decode cX2_fail 6 = .ok (.ireturn, 1) := by decide +kernel
theorem dX2_tell_0 : decode cX2_tell 0 = .ok (.aload_n 0, 1) := by decide +kernel
theorem dX2_tell_1 : decode cX2_tell 1 = .ok (.getfield 106, 3) := by decide +kernel
theorem dX2_tell_4 : decode cX2_tell 4 = .ok (.bipush 100, 2) := by decide +kernel
theorem dX2_tell_6 : decode cX2_tell 6 = .ok (.if_icmp .lt 9, 3) := by decide +kernel
theorem dX2_tell_9 : decode cX2_tell 9 = .ok (.aload_n 0, 1) := by decide +kernel
theorem dX2_tell_10 : decode cX2_tell 10 = .ok (.iconst 4, 1) := by decide +kernel
theorem dX2_tell_11 : decode cX2_tell 11 = .ok (.invokevirtual 121, 3) := by decide +kernel
theorem dX2_tell_14 : decode cX2_tell 14 = .ok (.ireturn, 1) := by decide +kernel
theorem dX2_tell_15 : decode cX2_tell 15 = .ok (.aload_n 0, 1) := by decide +kernel
theorem dX2_tell_16 : decode cX2_tell 16 = .ok (.dup, 1) := by decide +kernel
theorem dX2_tell_17 : decode cX2_tell 17 = .ok (.getfield 106, 3) := by decide +kernel
theorem dX2_tell_20 : decode cX2_tell 20 = .ok (.iconst 1, 1) := by decide +kernel
theorem dX2_tell_21 : decode cX2_tell 21 = .ok (.iadd, 1) := by decide +kernel
theorem dX2_tell_22 : decode cX2_tell 22 = .ok (.putfield 106, 3) := by decide +kernel
theorem dX2_tell_25 : decode cX2_tell 25 = .ok (.aload_n 1, 1) := by decide +kernel
theorem dX2_tell_26 : decode cX2_tell 26 = .ok (.ifnonnull 9, 3) := by decide +kernel
theorem dX2_tell_29 : decode cX2_tell 29 = .ok (.aload_n 0, 1) := by decide +kernel
theorem dX2_tell_30 : decode cX2_tell 30 = .ok (.iconst 3, 1) := by decide +kernel
theorem dX2_tell_31 : decode cX2_tell 31 = .ok (.invokevirtual 121, 3) := by decide +kernel
theorem dX2_tell_34 : decode cX2_tell 34 = .ok (.ireturn, 1) := by decide +kernel
theorem dX2_tell_35 : decode cX2_tell 35 = .ok (.aload_n 1, 1) := by decide +kernel
theorem dX2_tell_36 : decode cX2_tell 36 = .ok (.getfield 124, 3) := by decide +kernel
theorem dX2_tell_39 : decode cX2_tell 39 = .ok (.tableswitch 227 0 15 #[77, 82, 89, 97, 122, 130, 138, 146, 146, 154, 174, 182, 190, 198, 209, 215], 77) := by decide +kernel
theorem dX2_tell_116 : decode cX2_tell 116 = .ok (.aload_n 1, 1) := by decide +kernel
theorem dX2_tell_117 : decode cX2_tell 117 = .ok (.getfield 127, 3) := by decide +kernel
theorem dX2_tell_120 : decode cX2_tell 120 = .ok (.ireturn, 1) := by decide +kernel
theorem dX2_tell_121 : decode cX2_tell 121 = .ok (.aload_n 0, 1) := by decide +kernel
theorem dX2_tell_122 : decode cX2_tell 122 = .ok (.aload_n 1, 1) := by decide +kernel
theorem dX2_tell_123 : decode cX2_tell 123 = .ok (.iload_n 2, 1) := by decide +kernel
theorem dX2_tell_124 : decode cX2_tell 124 = .ok (.invokevirtual 130, 3) := by decide +kernel
theorem dX2_tell_127 : decode cX2_tell 127 = .ok (.ireturn, 1) := by decide +kernel
theorem dX2_tell_128 : decode cX2_tell 128 = .ok (.aload_n 0, 1) := by decide +kernel
theorem dX2_tell_129 : decode cX2_tell 129 = .ok (.aload_n 1, 1) := by decide +kernel
theorem dX2_tell_130 : decode cX2_tell 130 = .ok (.iload_n 2, 1) := by decide +kernel
theorem dX2_tell_131 : decode cX2_tell 131 = .ok (.iload_n 3, 1) := by decide +kernel
theorem dX2_tell_132 : decode cX2_tell 132 = .ok (.invokevirtual 134, 3) := by decide +kernel
theorem dX2_tell_135 : decode cX2_tell 135 = .ok (.ireturn, 1) := by decide +kernel
theorem dX2_tell_136 : decode cX2_tell 136 = .ok (.aload_n 0, 1) := by decide +kernel
theorem dX2_tell_137 : decode cX2_tell 137 = .ok (.aload_n 0, 1) := by decide +kernel
theorem dX2_tell_138 : decode cX2_tell 138 = .ok (.aload_n 1, 1) := by decide +kernel
theorem dX2_tell_139 : decode cX2_tell 139 = .ok (.getfield 127, 3) := by decide +kernel
theorem dX2_tell_142 : decode cX2_tell 142 = .ok (.invokevirtual 66, 3) := by decide +kernel
theorem dX2_tell_145 : decode cX2_tell 145 = .ok (.iload_n 2, 1) := by decide +kernel
theorem dX2_tell_146 : decode cX2_tell 146 = .ok (.aload_n 1, 1) := by decide +kernel
theorem dX2_tell_147 : decode cX2_tell 147 = .ok (.getfield 137, 3) := by decide +kernel
theorem dX2_tell_150 : decode cX2_tell 150 = .ok (.isub, 1) := by decide +kernel
theorem dX2_tell_151 : decode cX2_tell 151 = .ok (.iload_n 3, 1) := by decide +kernel
theorem dX2_tell_152 : decode cX2_tell 152 = .ok (.aload_n 1, 1) := by decide +kernel
theorem dX2_tell_153 : decode cX2_tell 153 = .ok (.getfield 140, 3) := by decide +kernel
theorem dX2_tell_156 : decode cX2_tell 156 = .ok (.isub, 1) := by decide +kernel
theorem dX2_tell_157 : decode cX2_tell 157 = .ok (.invokevirtual 118, 3) := by decide +kernel
theorem dX2_tell_160 : decode cX2_tell 160 = .ok (.ireturn, 1) := by decide +kernel
theorem dX2_tell_161 : decode cX2_tell 161 = .ok (.aload_n 0, 1) := by decide +kernel
theorem dX2_tell_162 : decode cX2_tell 162 = .ok (.aload_n 1, 1) := by decide +kernel
theorem dX2_tell_163 : decode cX2_tell 163 = .ok (.iload_n 2, 1) := by decide +kernel
theorem dX2_tell_164 : decode cX2_tell 164 = .ok (.iload_n 3, 1) := by decide +kernel
theorem dX2_tell_165 : decode cX2_tell 165 = .ok (.invokevirtual 143, 3) := by decide +kernel
theorem dX2_tell_168 : decode cX2_tell 168 = .ok (.ireturn, 1) := by decide +kernel
theorem dX2_tell_169 : decode cX2_tell 169 = .ok (.aload_n 0, 1) := by decide +kernel
theorem dX2_tell_170 : decode cX2_tell 170 = .ok (.aload_n 1, 1) := by decide +kernel
theorem dX2_tell_171 : decode cX2_tell 171 = .ok (.iload_n 2, 1) := by decide +kernel
theorem dX2_tell_172 : decode cX2_tell 172 = .ok (.iload_n 3, 1) := by decide +kernel
theorem dX2_tell_173 : decode cX2_tell 173 = .ok (.invokevirtual 146, 3) := by decide +kernel
theorem dX2_tell_176 : decode cX2_tell 176 = .ok (.ireturn, 1) := by decide +kernel
theorem dX2_tell_177 : decode cX2_tell 177 = .ok (.aload_n 0, 1) := by decide +kernel
theorem dX2_tell_178 : decode cX2_tell 178 = .ok (.aload_n 1, 1) := by decide +kernel
theorem dX2_tell_179 : decode cX2_tell 179 = .ok (.iload_n 2, 1) := by decide +kernel
theorem dX2_tell_180 : decode cX2_tell 180 = .ok (.iload_n 3, 1) := by decide +kernel
theorem dX2_tell_181 : decode cX2_tell 181 = .ok (.invokevirtual 149, 3) := by decide +kernel
theorem dX2_tell_184 : decode cX2_tell 184 = .ok (.ireturn, 1) := by decide +kernel
theorem dX2_tell_185 : decode cX2_tell 185 = .ok (.aload_n 0, 1) := by decide +kernel
theorem dX2_tell_186 : decode cX2_tell 186 = .ok (.aload_n 1, 1) := by decide +kernel
theorem dX2_tell_187 : decode cX2_tell 187 = .ok (.iload_n 2, 1) := by decide +kernel
theorem dX2_tell_188 : decode cX2_tell 188 = .ok (.iload_n 3, 1) := by decide +kernel
theorem dX2_tell_189 : decode cX2_tell 189 = .ok (.invokevirtual 152, 3) := by decide +kernel
theorem dX2_tell_192 : decode cX2_tell 192 = .ok (.ireturn, 1) := by decide +kernel
theorem dX2_tell_193 : decode cX2_tell 193 = .ok (.aload_n 0, 1) := by decide +kernel
theorem dX2_tell_194 : decode cX2_tell 194 = .ok (.aload_n 0, 1) := by decide +kernel
theorem dX2_tell_195 : decode cX2_tell 195 = .ok (.aload_n 1, 1) := by decide +kernel
theorem dX2_tell_196 : decode cX2_tell 196 = .ok (.getfield 127, 3) := by decide +kernel
theorem dX2_tell_199 : decode cX2_tell 199 = .ok (.invokevirtual 52, 3) := by decide +kernel
theorem dX2_tell_202 : decode cX2_tell 202 = .ok (.iload_n 2, 1) := by decide +kernel
theorem dX2_tell_203 : decode cX2_tell 203 = .ok (.iload_n 3, 1) := by decide +kernel
theorem dX2_tell_204 : decode cX2_tell 204 = .ok (.invokevirtual 118, 3) := by decide +kernel
theorem dX2_tell_207 : decode cX2_tell 207 = .ok (.aload_n 1, 1) := by decide +kernel
theorem dX2_tell_208 : decode cX2_tell 208 = .ok (.getfield 137, 3) := by decide +kernel
theorem dX2_tell_211 : decode cX2_tell 211 = .ok (.iadd, 1) := by decide +kernel
theorem dX2_tell_212 : decode cX2_tell 212 = .ok (.ireturn, 1) := by decide +kernel
theorem dX2_tell_213 : decode cX2_tell 213 = .ok (.aload_n 0, 1) := by decide +kernel
theorem dX2_tell_214 : decode cX2_tell 214 = .ok (.aload_n 1, 1) := by decide +kernel
theorem dX2_tell_215 : decode cX2_tell 215 = .ok (.iload_n 2, 1) := by decide +kernel
theorem dX2_tell_216 : decode cX2_tell 216 = .ok (.iload_n 3, 1) := by decide +kernel
theorem dX2_tell_217 : decode cX2_tell 217 = .ok (.invokevirtual 155, 3) := by decide +kernel
theorem dX2_tell_220 : decode cX2_tell 220 = .ok (.ireturn, 1) := by decide +kernel
theorem dX2_tell_221 : decode cX2_tell 221 = .ok (.aload_n 0, 1) := by decide +kernel
theorem dX2_tell_222 : decode cX2_tell 222 = .ok (.aload_n 1, 1) := by decide +kernel
theorem dX2_tell_223 : decode cX2_tell 223 = .ok (.iload_n 2, 1) := by decide +kernel
theorem dX2_tell_224 : decode cX2_tell 224 = .ok (.iload_n 3, 1) := by decide +kernel
theorem dX2_tell_225 : decode cX2_tell 225 = .ok (.invokevirtual 158, 3) := by decide +kernel
theorem dX2_tell_228 : decode cX2_tell 228 = .ok (.ireturn, 1) := by decide +kernel
theorem dX2_tell_229 : decode cX2_tell 229 = .ok (.aload_n 0, 1) := by decide +kernel
theorem dX2_tell_230 : decode cX2_tell 230 = .ok (.aload_n 1, 1) := by decide +kernel
theorem dX2_tell_231 : decode cX2_tell 231 = .ok (.iload_n 2, 1) := by decide +kernel
theorem dX2_tell_232 : decode cX2_tell 232 = .ok (.iload_n 3, 1) := by decide +kernel
theorem dX2_tell_233 : decode cX2_tell 233 = .ok (.invokevirtual 161, 3) := by decide +kernel
theorem dX2_tell_236 : decode cX2_tell 236 = .ok (.ireturn, 1) := by decide +kernel
theorem dX2_tell_237 : decode cX2_tell 237 = .ok (.aload_n 0, 1) := by decide +kernel
theorem dX2_tell_238 : decode cX2_tell 238 = .ok (.aload_n 1, 1) := by decide +kernel
theorem dX2_tell_239 : decode cX2_tell 239 = .ok (.getfield 164, 3) := by decide +kernel
theorem dX2_tell_242 : decode cX2_tell 242 = .ok (.iload_n 2, 1) := by decide +kernel
theorem dX2_tell_243 : decode cX2_tell 243 = .ok (.iload_n 3, 1) := by decide +kernel
theorem dX2_tell_244 : decode cX2_tell 244 = .ok (.invokevirtual 118, 3) := by decide +kernel
theorem dX2_tell_247 : decode cX2_tell 247 = .ok (.ireturn, 1) := by decide +kernel
theorem dX2_tell_248 : decode cX2_tell 248 = .ok (.iload_n 2, 1) := by decide +kernel
theorem dX2_tell_249 : decode cX2_tell 249 = .ok (.iload_n 3, 1) := by decide +kernel
theorem dX2_tell_250 : decode cX2_tell 250 = .ok (.iadd, 1) := by decide +kernel
theorem dX2_tell_251 : decode cX2_tell 251 = .ok (.iconst 2, 1) := by decide +kernel
theorem dX2_tell_252 : decode cX2_tell 252 = .ok (.irem, 1) := by decide +kernel
theorem dX2_tell_253 : decode cX2_tell 253 = .ok (.ireturn, 1) := by decide +kernel
theorem dX2_tell_254 : decode cX2_tell 254 = .ok (.aload_n 0, 1) := by decide +kernel
theorem dX2_tell_255 : decode cX2_tell 255 = .ok (.aload_n 1, 1) := by decide +kernel
theorem dX2_tell_256 : decode cX2_tell 256 = .ok (.getfield 168, 3) := by decide +kernel
theorem dX2_tell_259 : decode cX2_tell 259 = .ok (.iload_n 2, 1) := by decide +kernel
theorem dX2_tell_260 : decode cX2_tell 260 = .ok (.invokevirtual 171, 3) := by decide +kernel
theorem dX2_tell_263 : decode cX2_tell 263 = .ok (.iload_n 3, 1) := by decide +kernel
theorem dX2_tell_264 : decode cX2_tell 264 = .ok (.iadd, 1) := by decide +kernel
theorem dX2_tell_265 : decode cX2_tell 265 = .ok (.ireturn, 1) := by decide +kernel
theorem dX2_tell_266 : decode cX2_tell 266 = .ok (.iconst 0, 1) := by decide +kernel
theorem dX2_tell_267 : decode cX2_tell 267 = .ok (.ireturn, 1) := by decide +kernel
theorem dX2_tellStripes_0 : decode cX2_tellStripes 0 = .ok (.aload_n 1, 1) := by decide +kernel
theorem dX2_tellStripes_1 : decode cX2_tellStripes 1 = .ok (.getfield 140, 3) := by decide +kernel
theorem dX2_tellStripes_4 : decode cX2_tellStripes 4 = .ok (.ifCond .ne 9, 3) := by decide +kernel
theorem dX2_tellStripes_7 : decode cX2_tellStripes 7 = .ok (.aload_n 0, 1) := by decide +kernel
theorem dX2_tellStripes_8 : decode cX2_tellStripes 8 = .ok (.iconst 1, 1) := by decide +kernel
theorem dX2_tellStripes_9 : decode cX2_tellStripes 9 = .ok (.invokevirtual 121, 3) := by decide +kernel
theorem dX2_tellStripes_12 : decode cX2_tellStripes 12 = .ok (.ireturn, 1) := by decide +kernel
theorem dX2_tellStripes_13 : decode cX2_tellStripes 13 = .ok (.iload_n 2, 1) := by decide +kernel
theorem dX2_tellStripes_14 : decode cX2_tellStripes 14 = .ok (.aload_n 1, 1) := by decide +kernel
theorem dX2_tellStripes_15 : decode cX2_tellStripes 15 = .ok (.getfield 140, 3) := by decide +kernel
theorem dX2_tellStripes_18 : decode cX2_tellStripes 18 = .ok (.idiv, 1) := by decide +kernel
theorem dX2_tellStripes_19 : decode cX2_tellStripes 19 = .ok (.iconst 2, 1) := by decide +kernel
theorem dX2_tellStripes_20 : decode cX2_tellStripes 20 = .ok (.irem, 1) := by decide +kernel
theorem dX2_tellStripes_21 : decode cX2_tellStripes 21 = .ok (.ifCond .ne 10, 3) := by decide +kernel
theorem dX2_tellStripes_24 : decode cX2_tellStripes 24 = .ok (.aload_n 1, 1) := by decide +kernel
theorem dX2_tellStripes_25 : decode cX2_tellStripes 25 = .ok (.getfield 127, 3) := by decide +kernel
theorem dX2_tellStripes_28 : decode cX2_tellStripes 28 = .ok (.goto 7, 3) := by decide +kernel
theorem dX2_tellStripes_31 : decode cX2_tellStripes 31 = .ok (.aload_n 1, 1) := by decide +kernel
theorem dX2_tellStripes_32 : decode cX2_tellStripes 32 = .ok (.getfield 137, 3) := by decide +kernel
theorem dX2_tellStripes_35 : decode cX2_tellStripes 35 = .ok (.ireturn, 1) := by decide +kernel
theorem dX2_tellTwill_0 : decode cX2_tellTwill 0 = .ok (.aload_n 1, 1) := by decide +kernel
theorem dX2_tellTwill_1 : decode cX2_tellTwill 1 = .ok (.getfield 137, 3) := by decide +kernel
theorem dX2_tellTwill_4 : decode cX2_tellTwill 4 = .ok (.ifCond .ne 9, 3) := by decide +kernel
theorem dX2_tellTwill_7 : decode cX2_tellTwill 7 = .ok (.aload_n 0, 1) := by decide +kernel
theorem dX2_tellTwill_8 : decode cX2_tellTwill 8 = .ok (.iconst 1, 1) := by decide +kernel
theorem dX2_tellTwill_9 : decode cX2_tellTwill 9 = .ok (.invokevirtual 121, 3) := by decide +kernel
theorem dX2_tellTwill_12 : decode cX2_tellTwill 12 = .ok (.ireturn, 1) := by decide +kernel
theorem dX2_tellTwill_13 : decode cX2_tellTwill 13 = .ok (.iload_n 2, 1) := by decide +kernel
theorem dX2_tellTwill_14 : decode cX2_tellTwill 14 = .ok (.aload_n 1, 1) := by decide +kernel
theorem dX2_tellTwill_15 : decode cX2_tellTwill 15 = .ok (.getfield 127, 3) := by decide +kernel
theorem dX2_tellTwill_18 : decode cX2_tellTwill 18 = .ok (.iload_n 3, 1) := by decide +kernel
theorem dX2_tellTwill_19 : decode cX2_tellTwill 19 = .ok (.imul, 1) := by decide +kernel
theorem dX2_tellTwill_20 : decode cX2_tellTwill 20 = .ok (.iadd, 1) := by decide +kernel
theorem dX2_tellTwill_21 : decode cX2_tellTwill 21 = .ok (.aload_n 1, 1) := by decide +kernel
theorem dX2_tellTwill_22 : decode cX2_tellTwill 22 = .ok (.getfield 137, 3) := by decide +kernel
theorem dX2_tellTwill_25 : decode cX2_tellTwill 25 = .ok (.irem, 1) := by decide +kernel
theorem dX2_tellTwill_26 : decode cX2_tellTwill 26 = .ok (.aload_n 1, 1) := by decide +kernel
theorem dX2_tellTwill_27 : decode cX2_tellTwill 27 = .ok (.getfield 140, 3) := by decide +kernel
theorem dX2_tellTwill_30 : decode cX2_tellTwill 30 = .ok (.iadd, 1) := by decide +kernel
theorem dX2_tellTwill_31 : decode cX2_tellTwill 31 = .ok (.ireturn, 1) := by decide +kernel
theorem dX2_tellTurned_0 : decode cX2_tellTurned 0 = .ok (.aload_n 0, 1) := by decide +kernel
theorem dX2_tellTurned_1 : decode cX2_tellTurned 1 = .ok (.aload_n 1, 1) := by decide +kernel
theorem dX2_tellTurned_2 : decode cX2_tellTurned 2 = .ok (.getfield 127, 3) := by decide +kernel
theorem dX2_tellTurned_5 : decode cX2_tellTurned 5 = .ok (.invokevirtual 66, 3) := by decide +kernel
theorem dX2_tellTurned_8 : decode cX2_tellTurned 8 = .ok (.astore 4, 2) := by decide +kernel
theorem dX2_tellTurned_10 : decode cX2_tellTurned 10 = .ok (.aload_n 1, 1) := by decide +kernel
theorem dX2_tellTurned_11 : decode cX2_tellTurned 11 = .ok (.getfield 137, 3) := by decide +kernel
theorem dX2_tellTurned_14 : decode cX2_tellTurned 14 = .ok (.tableswitch 55 0 2 #[26, 35, 45], 26) := by decide +kernel
theorem dX2_tellTurned_40 : decode cX2_tellTurned 40 = .ok (.aload_n 0, 1) := by decide +kernel
theorem dX2_tellTurned_41 : decode cX2_tellTurned 41 = .ok (.aload 4, 2) := by decide +kernel
theorem dX2_tellTurned_43 : decode cX2_tellTurned 43 = .ok (.iload_n 3, 1) := by decide +kernel
theorem dX2_tellTurned_44 : decode cX2_tellTurned 44 = .ok (.iload_n 2, 1) := by decide +kernel
theorem dX2_tellTurned_45 : decode cX2_tellTurned 45 = .ok (.invokevirtual 118, 3) := by decide +kernel
theorem dX2_tellTurned_48 : decode cX2_tellTurned 48 = .ok (.ireturn, 1) := by decide +kernel
theorem dX2_tellTurned_49 : decode cX2_tellTurned 49 = .ok (.aload_n 0, 1) := by decide +kernel
theorem dX2_tellTurned_50 : decode cX2_tellTurned 50 = .ok (.aload 4, 2) := by decide +kernel
theorem dX2_tellTurned_52 : decode cX2_tellTurned 52 = .ok (.iload_n 2, 1) := by decide +kernel
theorem dX2_tellTurned_53 : decode cX2_tellTurned 53 = .ok (.ineg, 1) := by decide +kernel
theorem dX2_tellTurned_54 : decode cX2_tellTurned 54 = .ok (.iload_n 3, 1) := by decide +kernel
theorem dX2_tellTurned_55 : decode cX2_tellTurned 55 = .ok (.invokevirtual 118, 3) := by decide +kernel
theorem dX2_tellTurned_58 : decode cX2_tellTurned 58 = .ok (.ireturn, 1) := by decide +kernel
theorem dX2_tellTurned_59 : decode cX2_tellTurned 59 = .ok (.aload_n 0, 1) := by decide +kernel
theorem dX2_tellTurned_60 : decode cX2_tellTurned 60 = .ok (.aload 4, 2) := by decide +kernel
theorem dX2_tellTurned_62 : decode cX2_tellTurned 62 = .ok (.iload_n 2, 1) := by decide +kernel
theorem dX2_tellTurned_63 : decode cX2_tellTurned 63 = .ok (.iload_n 3, 1) := by decide +kernel
theorem dX2_tellTurned_64 : decode cX2_tellTurned 64 = .ok (.ineg, 1) := by decide +kernel
theorem dX2_tellTurned_65 : decode cX2_tellTurned 65 = .ok (.invokevirtual 118, 3) := by decide +kernel
theorem dX2_tellTurned_68 : decode cX2_tellTurned 68 = .ok (.ireturn, 1) := by decide +kernel
theorem dX2_tellTurned_69 : decode cX2_tellTurned 69 = .ok (.aload_n 0, 1) := by decide +kernel
theorem dX2_tellTurned_70 : decode cX2_tellTurned 70 = .ok (.aload 4, 2) := by decide +kernel
theorem dX2_tellTurned_72 : decode cX2_tellTurned 72 = .ok (.iload_n 2, 1) := by decide +kernel
theorem dX2_tellTurned_73 : decode cX2_tellTurned 73 = .ok (.iload_n 3, 1) := by decide +kernel
theorem dX2_tellTurned_74 : decode cX2_tellTurned 74 = .ok (.imul, 1) := by decide +kernel
theorem dX2_tellTurned_75 : decode cX2_tellTurned 75 = .ok (.iload_n 2, 1) := by decide +kernel
theorem dX2_tellTurned_76 : decode cX2_tellTurned 76 = .ok (.iload_n 3, 1) := by decide +kernel
theorem dX2_tellTurned_77 : decode cX2_tellTurned 77 = .ok (.iadd, 1) := by decide +kernel
theorem dX2_tellTurned_78 : decode cX2_tellTurned 78 = .ok (.invokevirtual 118, 3) := by decide +kernel
theorem dX2_tellTurned_81 : decode cX2_tellTurned 81 = .ok (.ireturn, 1) := by decide +kernel
theorem dX2_tellOver_0 : decode cX2_tellOver 0 = .ok (.aload_n 0, 1) := by decide +kernel
theorem dX2_tellOver_1 : decode cX2_tellOver 1 = .ok (.aload_n 0, 1) := by decide +kernel
theorem dX2_tellOver_2 : decode cX2_tellOver 2 = .ok (.aload_n 1, 1) := by decide +kernel
theorem dX2_tellOver_3 : decode cX2_tellOver 3 = .ok (.getfield 127, 3) := by decide +kernel
theorem dX2_tellOver_6 : decode cX2_tellOver 6 = .ok (.invokevirtual 66, 3) := by decide +kernel
theorem dX2_tellOver_9 : decode cX2_tellOver 9 = .ok (.iload_n 2, 1) := by decide +kernel
theorem dX2_tellOver_10 : decode cX2_tellOver 10 = .ok (.iload_n 3, 1) := by decide +kernel
theorem dX2_tellOver_11 : decode cX2_tellOver 11 = .ok (.invokevirtual 118, 3) := by decide +kernel
theorem dX2_tellOver_14 : decode cX2_tellOver 14 = .ok (.istore 4, 2) := by decide +kernel
theorem dX2_tellOver_16 : decode cX2_tellOver 16 = .ok (.aload_n 0, 1) := by decide +kernel
theorem dX2_tellOver_17 : decode cX2_tellOver 17 = .ok (.getfield 76, 3) := by decide +kernel
theorem dX2_tellOver_20 : decode cX2_tellOver 20 = .ok (.ifCond .ne 8, 3) := by decide +kernel
theorem dX2_tellOver_23 : decode cX2_tellOver 23 = .ok (.iload 4, 2) := by decide +kernel
theorem dX2_tellOver_25 : decode cX2_tellOver 25 = .ok (.ifCond .eq 6, 3) := by decide +kernel
theorem dX2_tellOver_28 : decode cX2_tellOver 28 = .ok (.iload 4, 2) := by decide +kernel
theorem dX2_tellOver_30 : decode cX2_tellOver 30 = .ok (.ireturn, 1) := by decide +kernel
theorem dX2_tellOver_31 : decode cX2_tellOver 31 = .ok (.aload_n 0, 1) := by decide +kernel
theorem dX2_tellOver_32 : decode cX2_tellOver 32 = .ok (.aload_n 0, 1) := by decide +kernel
theorem dX2_tellOver_33 : decode cX2_tellOver 33 = .ok (.aload_n 1, 1) := by decide +kernel
theorem dX2_tellOver_34 : decode cX2_tellOver 34 = .ok (.getfield 137, 3) := by decide +kernel
theorem dX2_tellOver_37 : decode cX2_tellOver 37 = .ok (.invokevirtual 66, 3) := by decide +kernel
theorem dX2_tellOver_40 : decode cX2_tellOver 40 = .ok (.iload_n 2, 1) := by decide +kernel
theorem dX2_tellOver_41 : decode cX2_tellOver 41 = .ok (.iload_n 3, 1) := by decide +kernel
theorem dX2_tellOver_42 : decode cX2_tellOver 42 = .ok (.invokevirtual 118, 3) := by decide +kernel
theorem dX2_tellOver_45 : decode cX2_tellOver 45 = .ok (.ireturn, 1) := by decide +kernel
theorem dX2_tellWhere_0 : decode cX2_tellWhere 0 = .ok (.aload_n 0, 1) := by decide +kernel
theorem dX2_tellWhere_1 : decode cX2_tellWhere 1 = .ok (.aload_n 0, 1) := by decide +kernel
theorem dX2_tellWhere_2 : decode cX2_tellWhere 2 = .ok (.aload_n 1, 1) := by decide +kernel
theorem dX2_tellWhere_3 : decode cX2_tellWhere 3 = .ok (.getfield 127, 3) := by decide +kernel
theorem dX2_tellWhere_6 : decode cX2_tellWhere 6 = .ok (.invokevirtual 66, 3) := by decide +kernel
theorem dX2_tellWhere_9 : decode cX2_tellWhere 9 = .ok (.iload_n 2, 1) := by decide +kernel
theorem dX2_tellWhere_10 : decode cX2_tellWhere 10 = .ok (.iload_n 3, 1) := by decide +kernel
theorem dX2_tellWhere_11 : decode cX2_tellWhere 11 = .ok (.invokevirtual 118, 3) := by decide +kernel
theorem dX2_tellWhere_14 : decode cX2_tellWhere 14 = .ok (.istore 4, 2) := by decide +kernel
theorem dX2_tellWhere_16 : decode cX2_tellWhere 16 = .ok (.aload_n 0, 1) := by decide +kernel
theorem dX2_tellWhere_17 : decode cX2_tellWhere 17 = .ok (.getfield 76, 3) := by decide +kernel
theorem dX2_tellWhere_20 : decode cX2_tellWhere 20 = .ok (.ifCond .eq 5, 3) := by decide +kernel
theorem dX2_tellWhere_23 : decode cX2_tellWhere 23 = .ok (.iconst 0, 1) := by decide +kernel
theorem dX2_tellWhere_24 : decode cX2_tellWhere 24 = .ok (.ireturn, 1) := by decide +kernel
theorem dX2_tellWhere_25 : decode cX2_tellWhere 25 = .ok (.aload_n 0, 1) := by decide +kernel
theorem dX2_tellWhere_26 : decode cX2_tellWhere 26 = .ok (.aload_n 0, 1) := by decide +kernel
theorem dX2_tellWhere_27 : decode cX2_tellWhere 27 = .ok (.iload 4, 2) := by decide +kernel
theorem dX2_tellWhere_29 : decode cX2_tellWhere 29 = .ok (.ifCond .le 10, 3) := by decide +kernel
theorem dX2_tellWhere_32 : decode cX2_tellWhere 32 = .ok (.aload_n 1, 1) := by decide +kernel
theorem dX2_tellWhere_33 : decode cX2_tellWhere 33 = .ok (.getfield 137, 3) := by decide +kernel
theorem dX2_tellWhere_36 : decode cX2_tellWhere 36 = .ok (.goto 7, 3) := by decide +kernel
theorem dX2_tellWhere_39 : decode cX2_tellWhere 39 = .ok (.aload_n 1, 1) := by decide +kernel
theorem dX2_tellWhere_40 : decode cX2_tellWhere 40 = .ok (.getfield 140, 3) := by decide +kernel
theorem dX2_tellWhere_43 : decode cX2_tellWhere 43 = .ok (.invokevirtual 66, 3) := by decide +kernel
theorem dX2_tellWhere_46 : decode cX2_tellWhere 46 = .ok (.iload_n 2, 1) := by decide +kernel
theorem dX2_tellWhere_47 : decode cX2_tellWhere 47 = .ok (.iload_n 3, 1) := by decide +kernel
theorem dX2_tellWhere_48 : decode cX2_tellWhere 48 = .ok (.invokevirtual 118, 3) := by decide +kernel
theorem dX2_tellWhere_51 : decode cX2_tellWhere 51 = .ok (.ireturn, 1) := by decide +kernel
theorem dX2_tellDyed_0 : decode cX2_tellDyed 0 = .ok (.aload_n 0, 1) := by decide +kernel
theorem dX2_tellDyed_1 : decode cX2_tellDyed 1 = .ok (.aload_n 0, 1) := by decide +kernel
theorem dX2_tellDyed_2 : decode cX2_tellDyed 2 = .ok (.aload_n 1, 1) := by decide +kernel
theorem dX2_tellDyed_3 : decode cX2_tellDyed 3 = .ok (.getfield 127, 3) := by decide +kernel
theorem dX2_tellDyed_6 : decode cX2_tellDyed 6 = .ok (.invokevirtual 66, 3) := by decide +kernel
theorem dX2_tellDyed_9 : decode cX2_tellDyed 9 = .ok (.iload_n 2, 1) := by decide +kernel
theorem dX2_tellDyed_10 : decode cX2_tellDyed 10 = .ok (.iload_n 3, 1) := by decide +kernel
theorem dX2_tellDyed_11 : decode cX2_tellDyed 11 = .ok (.invokevirtual 118, 3) := by decide +kernel
theorem dX2_tellDyed_14 : decode cX2_tellDyed 14 = .ok (.istore 4, 2) := by decide +kernel
theorem dX2_tellDyed_16 : decode cX2_tellDyed 16 = .ok (.aload_n 0, 1) := by decide +kernel
theorem dX2_tellDyed_17 : decode cX2_tellDyed 17 = .ok (.getfield 76, 3) := by decide +kernel
theorem dX2_tellDyed_20 : decode cX2_tellDyed 20 = .ok (.ifCond .eq 5, 3) := by decide +kernel
theorem dX2_tellDyed_23 : decode cX2_tellDyed 23 = .ok (.iconst 0, 1) := by decide +kernel
theorem dX2_tellDyed_24 : decode cX2_tellDyed 24 = .ok (.ireturn, 1) := by decide +kernel
theorem dX2_tellDyed_25 : decode cX2_tellDyed 25 = .ok (.aload_n 0, 1) := by decide +kernel
theorem dX2_tellDyed_26 : decode cX2_tellDyed 26 = .ok (.aload_n 1, 1) := by decide +kernel
theorem dX2_tellDyed_27 : decode cX2_tellDyed 27 = .ok (.getfield 168, 3) := by decide +kernel
theorem dX2_tellDyed_30 : decode cX2_tellDyed 30 = .ok (.iload 4, 2) := by decide +kernel
theorem dX2_tellDyed_32 : decode cX2_tellDyed 32 = .ok (.invokevirtual 171, 3) := by decide +kernel
theorem dX2_tellDyed_35 : decode cX2_tellDyed 35 = .ok (.ireturn, 1) := by decide +kernel
theorem dX2_colourOf_0 : decode cX2_colourOf 0 = .ok (.aload_n 1, 1) := by decide +kernel
theorem dX2_colourOf_1 : decode cX2_colourOf 1 = .ok (.ifnull 13, 3) := by decide +kernel
theorem dX2_colourOf_4 : decode cX2_colourOf 4 = .ok (.iload_n 2, 1) := by decide +kernel
theorem dX2_colourOf_5 : decode cX2_colourOf 5 = .ok (.ifCond .lt 9, 3) := by decide +kernel
theorem dX2_colourOf_8 : decode cX2_colourOf 8 = .ok (.iload_n 2, 1) := by decide +kernel
theorem dX2_colourOf_9 : decode cX2_colourOf 9 = .ok (.aload_n 1, 1) := by decide +kernel
theorem dX2_colourOf_10 : decode cX2_colourOf 10 = .ok (.arraylength, 1) := by decide +kernel
theorem dX2_colourOf_11 : decode cX2_colourOf 11 = .ok (.if_icmp .lt 9, 3) := by decide +kernel
theorem dX2_colourOf_14 : decode cX2_colourOf 14 = .ok (.aload_n 0, 1) := by decide +kernel
theorem dX2_colourOf_15 : decode cX2_colourOf 15 = .ok (.iconst 2, 1) := by decide +kernel
theorem dX2_colourOf_16 : decode cX2_colourOf 16 = .ok (.invokevirtual 121, 3) := by decide +kernel
theorem dX2_colourOf_19 : decode cX2_colourOf 19 = .ok (.ireturn, 1) := by decide +kernel
theorem dX2_colourOf_20 : decode cX2_colourOf 20 = .ok (.aload_n 1, 1) := by decide +kernel
theorem dX2_colourOf_21 : decode cX2_colourOf 21 = .ok (.iload_n 2, 1) := by decide +kernel
theorem dX2_colourOf_22 : decode cX2_colourOf 22 = .ok (.iaload, 1) := by decide +kernel
theorem dX2_colourOf_23 : decode cX2_colourOf 23 = .ok (.ireturn, 1) := by decide +kernel
theorem dX2_tellWorn_0 : decode cX2_tellWorn 0 = .ok (.aload_n 1, 1) := by decide +kernel
theorem dX2_tellWorn_1 : decode cX2_tellWorn 1 = .ok (.dup, 1) := by decide +kernel
theorem dX2_tellWorn_2 : decode cX2_tellWorn 2 = .ok (.getfield 175, 3) := by decide +kernel
theorem dX2_tellWorn_5 : decode cX2_tellWorn 5 = .ok (.iconst 1, 1) := by decide +kernel
theorem dX2_tellWorn_6 : decode cX2_tellWorn 6 = .ok (.iadd, 1) := by decide +kernel
theorem dX2_tellWorn_7 : decode cX2_tellWorn 7 = .ok (.putfield 175, 3) := by decide +kernel
theorem dX2_tellWorn_10 : decode cX2_tellWorn 10 = .ok (.aload_n 1, 1) := by decide +kernel
theorem dX2_tellWorn_11 : decode cX2_tellWorn 11 = .ok (.getfield 175, 3) := by decide +kernel
theorem dX2_tellWorn_14 : decode cX2_tellWorn 14 = .ok (.aload_n 1, 1) := by decide +kernel
theorem dX2_tellWorn_15 : decode cX2_tellWorn 15 = .ok (.getfield 137, 3) := by decide +kernel
theorem dX2_tellWorn_18 : decode cX2_tellWorn 18 = .ok (.if_icmp .ge 18, 3) := by decide +kernel
theorem dX2_tellWorn_21 : decode cX2_tellWorn 21 = .ok (.aload_n 0, 1) := by decide +kernel
theorem dX2_tellWorn_22 : decode cX2_tellWorn 22 = .ok (.aload_n 0, 1) := by decide +kernel
theorem dX2_tellWorn_23 : decode cX2_tellWorn 23 = .ok (.aload_n 1, 1) := by decide +kernel
theorem dX2_tellWorn_24 : decode cX2_tellWorn 24 = .ok (.getfield 127, 3) := by decide +kernel
theorem dX2_tellWorn_27 : decode cX2_tellWorn 27 = .ok (.invokevirtual 66, 3) := by decide +kernel
theorem dX2_tellWorn_30 : decode cX2_tellWorn 30 = .ok (.iload_n 2, 1) := by decide +kernel
theorem dX2_tellWorn_31 : decode cX2_tellWorn 31 = .ok (.iload_n 3, 1) := by decide +kernel
theorem dX2_tellWorn_32 : decode cX2_tellWorn 32 = .ok (.invokevirtual 118, 3) := by decide +kernel
theorem dX2_tellWorn_35 : decode cX2_tellWorn 35 = .ok (.ireturn, 1) := by decide +kernel
theorem dX2_tellWorn_36 : decode cX2_tellWorn 36 = .ok (.aload_n 1, 1) := by decide +kernel
theorem dX2_tellWorn_37 : decode cX2_tellWorn 37 = .ok (.iconst 0, 1) := by decide +kernel
theorem dX2_tellWorn_38 : decode cX2_tellWorn 38 = .ok (.putfield 175, 3) := by decide +kernel
theorem dX2_tellWorn_41 : decode cX2_tellWorn 41 = .ok (.aload_n 0, 1) := by decide +kernel
theorem dX2_tellWorn_42 : decode cX2_tellWorn 42 = .ok (.dup, 1) := by decide +kernel
theorem dX2_tellWorn_43 : decode cX2_tellWorn 43 = .ok (.getfield 109, 3) := by decide +kernel
theorem dX2_tellWorn_46 : decode cX2_tellWorn 46 = .ok (.iconst 1, 1) := by decide +kernel
theorem dX2_tellWorn_47 : decode cX2_tellWorn 47 = .ok (.iadd, 1) := by decide +kernel
theorem dX2_tellWorn_48 : decode cX2_tellWorn 48 = .ok (.putfield 109, 3) := by decide +kernel
theorem dX2_tellWorn_51 : decode cX2_tellWorn 51 = .ok (.aload_n 1, 1) := by decide +kernel
theorem dX2_tellWorn_52 : decode cX2_tellWorn 52 = .ok (.getfield 140, 3) := by decide +kernel
theorem dX2_tellWorn_55 : decode cX2_tellWorn 55 = .ok (.ireturn, 1) := by decide +kernel
theorem dX2_tellBoth_0 : decode cX2_tellBoth 0 = .ok (.aload_n 0, 1) := by decide +kernel
theorem dX2_tellBoth_1 : decode cX2_tellBoth 1 = .ok (.aload_n 0, 1) := by decide +kernel
theorem dX2_tellBoth_2 : decode cX2_tellBoth 2 = .ok (.aload_n 1, 1) := by decide +kernel
theorem dX2_tellBoth_3 : decode cX2_tellBoth 3 = .ok (.getfield 127, 3) := by decide +kernel
theorem dX2_tellBoth_6 : decode cX2_tellBoth 6 = .ok (.invokevirtual 66, 3) := by decide +kernel
theorem dX2_tellBoth_9 : decode cX2_tellBoth 9 = .ok (.iload_n 2, 1) := by decide +kernel
theorem dX2_tellBoth_10 : decode cX2_tellBoth 10 = .ok (.iload_n 3, 1) := by decide +kernel
theorem dX2_tellBoth_11 : decode cX2_tellBoth 11 = .ok (.invokevirtual 118, 3) := by decide +kernel
theorem dX2_tellBoth_14 : decode cX2_tellBoth 14 = .ok (.istore 4, 2) := by decide +kernel
theorem dX2_tellBoth_16 : decode cX2_tellBoth 16 = .ok (.aload_n 0, 1) := by decide +kernel
theorem dX2_tellBoth_17 : decode cX2_tellBoth 17 = .ok (.getfield 76, 3) := by decide +kernel
theorem dX2_tellBoth_20 : decode cX2_tellBoth 20 = .ok (.ifCond .eq 5, 3) := by decide +kernel
theorem dX2_tellBoth_23 : decode cX2_tellBoth 23 = .ok (.iconst 0, 1) := by decide +kernel
theorem dX2_tellBoth_24 : decode cX2_tellBoth 24 = .ok (.ireturn, 1) := by decide +kernel
theorem dX2_tellBoth_25 : decode cX2_tellBoth 25 = .ok (.iload 4, 2) := by decide +kernel
theorem dX2_tellBoth_27 : decode cX2_tellBoth 27 = .ok (.aload_n 1, 1) := by decide +kernel
theorem dX2_tellBoth_28 : decode cX2_tellBoth 28 = .ok (.getfield 140, 3) := by decide +kernel
theorem dX2_tellBoth_31 : decode cX2_tellBoth 31 = .ok (.aload_n 0, 1) := by decide +kernel
theorem dX2_tellBoth_32 : decode cX2_tellBoth 32 = .ok (.aload_n 0, 1) := by decide +kernel
theorem dX2_tellBoth_33 : decode cX2_tellBoth 33 = .ok (.aload_n 1, 1) := by decide +kernel
theorem dX2_tellBoth_34 : decode cX2_tellBoth 34 = .ok (.getfield 137, 3) := by decide +kernel
theorem dX2_tellBoth_37 : decode cX2_tellBoth 37 = .ok (.invokevirtual 66, 3) := by decide +kernel
theorem dX2_tellBoth_40 : decode cX2_tellBoth 40 = .ok (.iload_n 2, 1) := by decide +kernel
theorem dX2_tellBoth_41 : decode cX2_tellBoth 41 = .ok (.iload_n 3, 1) := by decide +kernel
theorem dX2_tellBoth_42 : decode cX2_tellBoth 42 = .ok (.invokevirtual 118, 3) := by decide +kernel
theorem dX2_tellBoth_45 : decode cX2_tellBoth 45 = .ok (.imul, 1) := by decide +kernel
theorem dX2_tellBoth_46 : decode cX2_tellBoth 46 = .ok (.iadd, 1) := by decide +kernel
theorem dX2_tellBoth_47 : decode cX2_tellBoth 47 = .ok (.ireturn, 1) := by decide +kernel
theorem dX2_tellSafe_0 : decode cX2_tellSafe 0 = .ok (.aload_n 0, 1) := by decide +kernel
theorem dX2_tellSafe_1 : decode cX2_tellSafe 1 = .ok (.aload_n 0, 1) := by decide +kernel
theorem dX2_tellSafe_2 : decode cX2_tellSafe 2 = .ok (.aload_n 1, 1) := by decide +kernel
theorem dX2_tellSafe_3 : decode cX2_tellSafe 3 = .ok (.getfield 127, 3) := by decide +kernel
theorem dX2_tellSafe_6 : decode cX2_tellSafe 6 = .ok (.invokevirtual 66, 3) := by decide +kernel
theorem dX2_tellSafe_9 : decode cX2_tellSafe 9 = .ok (.iload_n 2, 1) := by decide +kernel
theorem dX2_tellSafe_10 : decode cX2_tellSafe 10 = .ok (.iload_n 3, 1) := by decide +kernel
theorem dX2_tellSafe_11 : decode cX2_tellSafe 11 = .ok (.invokevirtual 118, 3) := by decide +kernel
theorem dX2_tellSafe_14 : decode cX2_tellSafe 14 = .ok (.istore 4, 2) := by decide +kernel
theorem dX2_tellSafe_16 : decode cX2_tellSafe 16 = .ok (.aload_n 0, 1) := by decide +kernel
theorem dX2_tellSafe_17 : decode cX2_tellSafe 17 = .ok (.getfield 76, 3) := by decide +kernel
theorem dX2_tellSafe_20 : decode cX2_tellSafe 20 = .ok (.ifCond .eq 23, 3) := by decide +kernel
theorem dX2_tellSafe_23 : decode cX2_tellSafe 23 = .ok (.aload_n 0, 1) := by decide +kernel
theorem dX2_tellSafe_24 : decode cX2_tellSafe 24 = .ok (.aload_n 1, 1) := by decide +kernel
theorem dX2_tellSafe_25 : decode cX2_tellSafe 25 = .ok (.getfield 137, 3) := by decide +kernel
theorem dX2_tellSafe_28 : decode cX2_tellSafe 28 = .ok (.invokevirtual 178, 3) := by decide +kernel
theorem dX2_tellSafe_31 : decode cX2_tellSafe 31 = .ok (.ifCond .eq 12, 3) := by decide +kernel
theorem dX2_tellSafe_34 : decode cX2_tellSafe 34 = .ok (.aload_n 0, 1) := by decide +kernel
theorem dX2_tellSafe_35 : decode cX2_tellSafe 35 = .ok (.getfield 69, 3) := by decide +kernel
theorem dX2_tellSafe_38 : decode cX2_tellSafe 38 = .ok (.bipush 20, 2) := by decide +kernel
theorem dX2_tellSafe_40 : decode cX2_tellSafe 40 = .ok (.if_icmp .lt 6, 3) := by decide +kernel
theorem dX2_tellSafe_43 : decode cX2_tellSafe 43 = .ok (.iload 4, 2) := by decide +kernel
theorem dX2_tellSafe_45 : decode cX2_tellSafe 45 = .ok (.ireturn, 1) := by decide +kernel
theorem dX2_tellSafe_46 : decode cX2_tellSafe 46 = .ok (.aload_n 0, 1) := by decide +kernel
theorem dX2_tellSafe_47 : decode cX2_tellSafe 47 = .ok (.dup, 1) := by decide +kernel
theorem dX2_tellSafe_48 : decode cX2_tellSafe 48 = .ok (.getfield 69, 3) := by decide +kernel
theorem dX2_tellSafe_51 : decode cX2_tellSafe 51 = .ok (.iconst 1, 1) := by decide +kernel
theorem dX2_tellSafe_52 : decode cX2_tellSafe 52 = .ok (.iadd, 1) := by decide +kernel
theorem dX2_tellSafe_53 : decode cX2_tellSafe 53 = .ok (.putfield 69, 3) := by decide +kernel
theorem dX2_tellSafe_56 : decode cX2_tellSafe 56 = .ok (.aload_n 0, 1) := by decide +kernel
theorem dX2_tellSafe_57 : decode cX2_tellSafe 57 = .ok (.iconst 0, 1) := by decide +kernel
theorem dX2_tellSafe_58 : decode cX2_tellSafe 58 = .ok (.putfield 76, 3) := by decide +kernel
theorem dX2_tellSafe_61 : decode cX2_tellSafe 61 = .ok (.aload_n 1, 1) := by decide +kernel
theorem dX2_tellSafe_62 : decode cX2_tellSafe 62 = .ok (.getfield 140, 3) := by decide +kernel
theorem dX2_tellSafe_65 : decode cX2_tellSafe 65 = .ok (.ireturn, 1) := by decide +kernel
theorem dX2_saves_0 : decode cX2_saves 0 = .ok (.aload_n 0, 1) := by decide +kernel
theorem dX2_saves_1 : decode cX2_saves 1 = .ok (.getfield 76, 3) := by decide +kernel
theorem dX2_saves_4 : decode cX2_saves 4 = .ok (.iconst 4, 1) := by decide +kernel
theorem dX2_saves_5 : decode cX2_saves 5 = .ok (.if_icmp .eq 19, 3) := by decide +kernel
theorem dX2_saves_8 : decode cX2_saves 8 = .ok (.iload_n 1, 1) := by decide +kernel
theorem dX2_saves_9 : decode cX2_saves 9 = .ok (.ifCond .eq 11, 3) := by decide +kernel
theorem dX2_saves_12 : decode cX2_saves 12 = .ok (.iload_n 1, 1) := by decide +kernel
theorem dX2_saves_13 : decode cX2_saves 13 = .ok (.aload_n 0, 1) := by decide +kernel
theorem dX2_saves_14 : decode cX2_saves 14 = .ok (.getfield 76, 3) := by decide +kernel
theorem dX2_saves_17 : decode cX2_saves 17 = .ok (.if_icmp .ne 7, 3) := by decide +kernel
theorem dX2_saves_20 : decode cX2_saves 20 = .ok (.iconst 1, 1) := by decide +kernel
theorem dX2_saves_21 : decode cX2_saves 21 = .ok (.goto 4, 3) := by decide +kernel
theorem dX2_saves_24 : decode cX2_saves 24 = .ok (.iconst 0, 1) := by decide +kernel
theorem dX2_saves_25 : decode cX2_saves 25 = .ok (.ireturn, 1) := by decide +kernel
end
section
theorem dX3_in_0 : decode cX3_in 0 = .ok (.iload_n 0, 1) := by decide +kernel
theorem dX3_in_1 : decode cX3_in 1 = .ok (.iload_n 1, 1) := by decide +kernel
theorem dX3_in_2 : decode cX3_in 2 = .ok (.if_icmp .lt 12, 3) := by decide +kernel
theorem dX3_in_5 : decode cX3_in 5 = .ok (.iload_n 0, 1) := by decide +kernel
theorem dX3_in_6 : decode cX3_in 6 = .ok (.iload_n 2, 1) := by decide +kernel
theorem dX3_in_7 : decode cX3_in 7 = .ok (.if_icmp .gt 7, 3) := by decide +kernel
theorem dX3_in_10 : decode cX3_in 10 = .ok (.iconst 1, 1) := by decide +kernel
theorem dX3_in_11 : decode cX3_in 11 = .ok (.goto 4, 3) := by decide +kernel
theorem dX3_in_14 : decode cX3_in 14 = .ok (.iconst 0, 1) := by decide +kernel
theorem dX3_in_15 : decode cX3_in 15 = .ok (.ireturn, 1) := by decide +kernel
theorem dX3_init_0 : decode cX3_init 0 = .ok (.aload_n 0, 1) := by decide +kernel
theorem dX3_init_1 : decode cX3_init 1 = .ok (.invokespecial 1, 3) := by decide +kernel
theorem dX3_init_4 : decode cX3_init 4 = .ok (.aload_n 0, 1) := by decide +kernel
theorem dX3_init_5 : decode cX3_init 5 = .ok (.bipush 60, 2) := by decide +kernel
theorem dX3_init_7 : decode cX3_init 7 = .ok (.newarray .int, 2) := by decide +kernel
theorem dX3_init_9 : decode cX3_init 9 = .ok (.putfield 7, 3) := by decide +kernel
theorem dX3_init_12 : decode cX3_init 12 = .ok (.aload_n 0, 1) := by decide +kernel
theorem dX3_init_13 : decode cX3_init 13 = .ok (.bipush 60, 2) := by decide +kernel
theorem dX3_init_15 : decode cX3_init 15 = .ok (.newarray .int, 2) := by decide +kernel
theorem dX3_init_17 : decode cX3_init 17 = .ok (.putfield 13, 3) := by decide +kernel
theorem dX3_init_20 : decode cX3_init 20 = .ok (.aload_n 0, 1) := by decide +kernel
theorem dX3_init_21 : decode cX3_init 21 = .ok (.bipush 60, 2) := by decide +kernel
theorem dX3_init_23 : decode cX3_init 23 = .ok (.newarray .int, 2) := by decide +kernel
theorem dX3_init_25 : decode cX3_init 25 = .ok (.putfield 16, 3) := by decide +kernel
theorem dX3_init_28 : decode cX3_init 28 = .ok (.aload_n 0, 1) := by decide +kernel
theorem dX3_init_29 : decode cX3_init 29 = .ok (.bipush 60, 2) := by decide +kernel
theorem dX3_init_31 : decode cX3_init 31 = .ok (.newarray .int, 2) := by decide +kernel
theorem dX3_init_33 : decode cX3_init 33 = .ok (.putfield 19, 3) := by decide +kernel
theorem dX3_init_36 : decode cX3_init 36 = .ok (.aload_n 0, 1) := by decide +kernel
theorem dX3_init_37 : decode cX3_init 37 = .ok (.sipush 480, 3) := by decide +kernel
theorem dX3_init_40 : decode cX3_init 40 = .ok (.newarray .int, 2) := by decide +kernel
theorem dX3_init_42 : decode cX3_init 42 = .ok (.putfield 22, 3) := by decide +kernel
theorem dX3_init_45 : decode cX3_init 45 = .ok (.aload_n 0, 1) := by decide +kernel
theorem dX3_init_46 : decode cX3_init 46 = .ok (.bipush 60, 2) := by decide +kernel
theorem dX3_init_48 : decode cX3_init 48 = .ok (.newarray .int, 2) := by decide +kernel
theorem dX3_init_50 : decode cX3_init 50 = .ok (.putfield 25, 3) := by decide +kernel
theorem dX3_init_53 : decode cX3_init 53 = .ok (.aload_n 0, 1) := by decide +kernel
theorem dX3_init_54 : decode cX3_init 54 = .ok (.bipush 60, 2) := by decide +kernel
theorem dX3_init_56 : decode cX3_init 56 = .ok (.newarray .int, 2) := by decide +kernel
theorem dX3_init_58 : decode cX3_init 58 = .ok (.putfield 28, 3) := by decide +kernel
theorem dX3_init_61 : decode cX3_init 61 = .ok (.aload_n 0, 1) := by decide +kernel
theorem dX3_init_62 : decode cX3_init 62 = .ok (.bipush 32, 2) := by decide +kernel
theorem dX3_init_64 : decode cX3_init 64 = .ok (.newarray .int, 2) := by decide +kernel
theorem dX3_init_66 : decode cX3_init 66 = .ok (.putfield 31, 3) := by decide +kernel
theorem dX3_init_69 : decode cX3_init 69 = .ok (.aload_n 0, 1) := by decide +kernel
theorem dX3_init_70 : decode cX3_init 70 = .ok (.bipush 6, 2) := by decide +kernel
theorem dX3_init_72 : decode cX3_init 72 = .ok (.newarray .int, 2) := by decide +kernel
theorem dX3_init_74 : decode cX3_init 74 = .ok (.putfield 34, 3) := by decide +kernel
theorem dX3_init_77 : decode cX3_init 77 = .ok (.aload_n 0, 1) := by decide +kernel
theorem dX3_init_78 : decode cX3_init 78 = .ok (.bipush 104, 2) := by decide +kernel
theorem dX3_init_80 : decode cX3_init 80 = .ok (.newarray .int, 2) := by decide +kernel
theorem dX3_init_82 : decode cX3_init 82 = .ok (.putfield 37, 3) := by decide +kernel
theorem dX3_init_85 : decode cX3_init 85 = .ok (.aload_n 0, 1) := by decide +kernel
theorem dX3_init_86 : decode cX3_init 86 = .ok (.bipush 104, 2) := by decide +kernel
theorem dX3_init_88 : decode cX3_init 88 = .ok (.newarray .int, 2) := by decide +kernel
theorem dX3_init_90 : decode cX3_init 90 = .ok (.putfield 40, 3) := by decide +kernel
theorem dX3_init_93 : decode cX3_init 93 = .ok (.aload_n 0, 1) := by decide +kernel
theorem dX3_init_94 : decode cX3_init 94 = .ok (.bipush 104, 2) := by decide +kernel
theorem dX3_init_96 : decode cX3_init 96 = .ok (.newarray .int, 2) := by decide +kernel
theorem dX3_init_98 : decode cX3_init 98 = .ok (.putfield 43, 3) := by decide +kernel
theorem dX3_init_101 : decode cX3_init 101 = .ok (.aload_n 0, 1) := by decide +kernel
theorem dX3_init_102 : decode cX3_init 102 = .ok (.bipush 104, 2) := by decide +kernel
theorem dX3_init_104 : decode cX3_init 104 = .ok (.newarray .int, 2) := by decide +kernel
theorem dX3_init_106 : decode cX3_init 106 = .ok (.putfield 46, 3) := by decide +kernel
theorem dX3_init_109 : decode cX3_init 109 = .ok (.aload_n 0, 1) := by decide +kernel
theorem dX3_init_110 : decode cX3_init 110 = .ok (.bipush 104, 2) := by decide +kernel
theorem dX3_init_112 : decode cX3_init 112 = .ok (.newarray .int, 2) := by decide +kernel
theorem dX3_init_114 : decode cX3_init 114 = .ok (.putfield 49, 3) := by decide +kernel
theorem dX3_init_117 : decode cX3_init 117 = .ok (.aload_n 0, 1) := by decide +kernel
theorem dX3_init_118 : decode cX3_init 118 = .ok (.sipush 144, 3) := by decide +kernel
theorem dX3_init_121 : decode cX3_init 121 = .ok (.newarray .int, 2) := by decide +kernel
theorem dX3_init_123 : decode cX3_init 123 = .ok (.putfield 52, 3) := by decide +kernel
theorem dX3_init_126 : decode cX3_init 126 = .ok (.iconst 0, 1) := by decide +kernel
theorem dX3_init_127 : decode cX3_init 127 = .ok (.istore_n 1, 1) := by decide +kernel
theorem dX3_init_128 : decode cX3_init 128 = .ok (.iload_n 1, 1) := by decide +kernel
theorem dX3_init_129 : decode cX3_init 129 = .ok (.bipush 32, 2) := by decide +kernel
theorem dX3_init_131 : decode cX3_init 131 = .ok (.if_icmp .ge 19, 3) := by decide +kernel
theorem dX3_init_134 : decode cX3_init 134 = .ok (.aload_n 0, 1) := by decide +kernel
theorem dX3_init_135 : decode cX3_init 135 = .ok (.getfield 31, 3) := by decide +kernel
theorem dX3_init_138 : decode cX3_init 138 = .ok (.iload_n 1, 1) := by decide +kernel
theorem dX3_init_139 : decode cX3_init 139 = .ok (.iload_n 1, 1) := by decide +kernel
theorem dX3_init_140 : decode cX3_init 140 = .ok (.bipush 8, 2) := by decide +kernel
theorem dX3_init_142 : decode cX3_init 142 = .ok (.irem, 1) := by decide +kernel
theorem dX3_init_143 : decode cX3_init 143 = .ok (.iastore, 1) := by decide +kernel
theorem dX3_init_144 : decode cX3_init 144 = .ok (.iinc 1 1, 3) := by decide +kernel
theorem dX3_init_147 : decode cX3_init 147 = .ok (.goto (-19), 3) := by decide +kernel
theorem dX3_init_150 : decode cX3_init 150 = .ok (.iconst 0, 1) := by decide +kernel
theorem dX3_init_151 : decode cX3_init 151 = .ok (.istore_n 1, 1) := by decide +kernel
theorem dX3_init_152 : decode cX3_init 152 = .ok (.iload_n 1, 1) := by decide +kernel
theorem dX3_init_153 : decode cX3_init 153 = .ok (.bipush 6, 2) := by decide +kernel
theorem dX3_init_155 : decode cX3_init 155 = .ok (.if_icmp .ge 35, 3) := by decide +kernel
theorem dX3_init_158 : decode cX3_init 158 = .ok (.aload_n 0, 1) := by decide +kernel
theorem dX3_init_159 : decode cX3_init 159 = .ok (.getfield 34, 3) := by decide +kernel
theorem dX3_init_162 : decode cX3_init 162 = .ok (.iload_n 1, 1) := by decide +kernel
theorem dX3_init_163 : decode cX3_init 163 = .ok (.iload_n 1, 1) := by decide +kernel
theorem dX3_init_164 : decode cX3_init 164 = .ok (.ifCond .ne 8, 3) := by decide +kernel
theorem dX3_init_167 : decode cX3_init 167 = .ok (.bipush (-2), 2) := by decide +kernel
theorem dX3_init_169 : decode cX3_init 169 = .ok (.goto 14, 3) := by decide +kernel
theorem dX3_init_172 : decode cX3_init 172 = .ok (.iload_n 1, 1) := by decide +kernel
theorem dX3_init_173 : decode cX3_init 173 = .ok (.iconst 1, 1) := by decide +kernel
theorem dX3_init_174 : decode cX3_init 174 = .ok (.if_icmp .ne 8, 3) := by decide +kernel
theorem dX3_init_177 : decode cX3_init 177 = .ok (.bipush (-3), 2) := by decide +kernel
theorem dX3_init_179 : decode cX3_init 179 = .ok (.goto 4, 3) := by decide +kernel
theorem dX3_init_182 : decode cX3_init 182 = .ok (.iconst (-1), 1) := by decide +kernel
theorem dX3_init_183 : decode cX3_init 183 = .ok (.iastore, 1) := by decide +kernel
theorem dX3_init_184 : decode cX3_init 184 = .ok (.iinc 1 1, 3) := by decide +kernel
theorem dX3_init_187 : decode cX3_init 187 = .ok (.goto (-35), 3) := by decide +kernel
theorem dX3_init_190 : decode cX3_init 190 = .ok (.return_, 1) := by decide +kernel
theorem dX3_isPattern_0 : decode cX3_isPattern 0 = .ok (.iload_n 1, 1) := by decide +kernel
theorem dX3_isPattern_1 : decode cX3_isPattern 1 = .ok (.iconst 0, 1) := by decide +kernel
theorem dX3_isPattern_2 : decode cX3_isPattern 2 = .ok (.aload_n 0, 1) := by decide +kernel
theorem dX3_isPattern_3 : decode cX3_isPattern 3 = .ok (.getfield 55, 3) := by decide +kernel
theorem dX3_isPattern_6 : decode cX3_isPattern 6 = .ok (.iconst 1, 1) := by decide +kernel
theorem dX3_isPattern_7 : decode cX3_isPattern 7 = .ok (.isub, 1) := by decide +kernel
theorem dX3_isPattern_8 : decode cX3_isPattern 8 = .ok (.invokestatic 59, 3) := by decide +kernel
theorem dX3_isPattern_11 : decode cX3_isPattern 11 = .ok (.ireturn, 1) := by decide +kernel
theorem dX3_dye_0 : decode cX3_dye 0 = .ok (.aload_n 0, 1) := by decide +kernel
theorem dX3_dye_1 : decode cX3_dye 1 = .ok (.iload_n 1, 1) := by decide +kernel
theorem dX3_dye_2 : decode cX3_dye 2 = .ok (.iconst 0, 1) := by decide +kernel
theorem dX3_dye_3 : decode cX3_dye 3 = .ok (.iconst 3, 1) := by decide +kernel
theorem dX3_dye_4 : decode cX3_dye 4 = .ok (.invokestatic 59, 3) := by decide +kernel
theorem dX3_dye_7 : decode cX3_dye 7 = .ok (.ifCond .eq 17, 3) := by decide +kernel
theorem dX3_dye_10 : decode cX3_dye 10 = .ok (.iload_n 2, 1) := by decide +kernel
theorem dX3_dye_11 : decode cX3_dye 11 = .ok (.iconst 0, 1) := by decide +kernel
theorem dX3_dye_12 : decode cX3_dye 12 = .ok (.bipush 7, 2) := by decide +kernel
theorem dX3_dye_14 : decode cX3_dye 14 = .ok (.invokestatic 59, 3) := by decide +kernel
theorem dX3_dye_17 : decode cX3_dye 17 = .ok (.ifCond .eq 7, 3) := by decide +kernel
theorem dX3_dye_20 : decode cX3_dye 20 = .ok (.iconst 0, 1) := by decide +kernel
theorem dX3_dye_21 : decode cX3_dye 21 = .ok (.goto 5, 3) := by decide +kernel
theorem dX3_dye_24 : decode cX3_dye 24 = .ok (.bipush (-3), 2) := by decide +kernel
theorem dX3_dye_26 : decode cX3_dye 26 = .ok (.putfield 63, 3) := by decide +kernel
theorem dX3_dye_29 : decode cX3_dye 29 = .ok (.aload_n 0, 1) := by decide +kernel
theorem dX3_dye_30 : decode cX3_dye 30 = .ok (.getfield 63, 3) := by decide +kernel
theorem dX3_dye_33 : decode cX3_dye 33 = .ok (.ifCond .eq 5, 3) := by decide +kernel
theorem dX3_dye_36 : decode cX3_dye 36 = .ok (.iconst 0, 1) := by decide +kernel
theorem dX3_dye_37 : decode cX3_dye 37 = .ok (.ireturn, 1) := by decide +kernel
theorem dX3_dye_38 : decode cX3_dye 38 = .ok (.aload_n 0, 1) := by decide +kernel
theorem dX3_dye_39 : decode cX3_dye 39 = .ok (.getfield 31, 3) := by decide +kernel
theorem dX3_dye_42 : decode cX3_dye 42 = .ok (.bipush 8, 2) := by decide +kernel
theorem dX3_dye_44 : decode cX3_dye 44 = .ok (.iload_n 1, 1) := by decide +kernel
theorem dX3_dye_45 : decode cX3_dye 45 = .ok (.imul, 1) := by decide +kernel
theorem dX3_dye_46 : decode cX3_dye 46 = .ok (.iload_n 2, 1) := by decide +kernel
theorem dX3_dye_47 : decode cX3_dye 47 = .ok (.iadd, 1) := by decide +kernel
theorem dX3_dye_48 : decode cX3_dye 48 = .ok (.iaload, 1) := by decide +kernel
theorem dX3_dye_49 : decode cX3_dye 49 = .ok (.istore 4, 2) := by decide +kernel
theorem dX3_dye_51 : decode cX3_dye 51 = .ok (.aload_n 0, 1) := by decide +kernel
theorem dX3_dye_52 : decode cX3_dye 52 = .ok (.getfield 31, 3) := by decide +kernel
theorem dX3_dye_55 : decode cX3_dye 55 = .ok (.bipush 8, 2) := by decide +kernel
theorem dX3_dye_57 : decode cX3_dye 57 = .ok (.iload_n 1, 1) := by decide +kernel
theorem dX3_dye_58 : decode cX3_dye 58 = .ok (.imul, 1) := by decide +kernel
theorem dX3_dye_59 : decode cX3_dye 59 = .ok (.iload_n 2, 1) := by decide +kernel
theorem dX3_dye_60 : decode cX3_dye 60 = .ok (.iadd, 1) := by decide +kernel
theorem dX3_dye_61 : decode cX3_dye 61 = .ok (.iload_n 3, 1) := by decide +kernel
theorem dX3_dye_62 : decode cX3_dye 62 = .ok (.iastore, 1) := by decide +kernel
theorem dX3_dye_63 : decode cX3_dye 63 = .ok (.iload 4, 2) := by decide +kernel
theorem dX3_dye_65 : decode cX3_dye 65 = .ok (.ireturn, 1) := by decide +kernel
theorem dX3_areThere_0 : decode cX3_areThere 0 = .ok (.iload_n 1, 1) := by decide +kernel
theorem dX3_areThere_1 : decode cX3_areThere 1 = .ok (.tableswitch 156 0 13 #[71, 71, 71, 156, 156, 73, 95, 126, 126, 149, 156, 73, 156, 149], 71) := by decide +kernel
theorem dX3_areThere_72 : decode cX3_areThere 72 = .ok (.iconst 1, 1) := by decide +kernel
theorem dX3_areThere_73 : decode cX3_areThere 73 = .ok (.ireturn, 1) := by decide +kernel
theorem dX3_areThere_74 : decode cX3_areThere 74 = .ok (.aload_n 0, 1) := by decide +kernel
theorem dX3_areThere_75 : decode cX3_areThere 75 = .ok (.iload_n 2, 1) := by decide +kernel
theorem dX3_areThere_76 : decode cX3_areThere 76 = .ok (.invokevirtual 66, 3) := by decide +kernel
theorem dX3_areThere_79 : decode cX3_areThere 79 = .ok (.ifCond .eq 15, 3) := by decide +kernel
theorem dX3_areThere_82 : decode cX3_areThere 82 = .ok (.aload_n 0, 1) := by decide +kernel
theorem dX3_areThere_83 : decode cX3_areThere 83 = .ok (.iload_n 3, 1) := by decide +kernel
theorem dX3_areThere_84 : decode cX3_areThere 84 = .ok (.invokevirtual 66, 3) := by decide +kernel
theorem dX3_areThere_87 : decode cX3_areThere 87 = .ok (.ifCond .eq 7, 3) := by decide +kernel
theorem dX3_areThere_90 : decode cX3_areThere 90 = .ok (.iconst 1, 1) := by decide +kernel
theorem dX3_areThere_91 : decode cX3_areThere 91 = .ok (.goto 4, 3) := by decide +kernel
theorem dX3_areThere_94 : decode cX3_areThere 94 = .ok (.iconst 0, 1) := by decide +kernel
theorem dX3_areThere_95 : decode cX3_areThere 95 = .ok (.ireturn, 1) := by decide +kernel
theorem dX3_areThere_96 : decode cX3_areThere 96 = .ok (.aload_n 0, 1) := by decide +kernel
theorem dX3_areThere_97 : decode cX3_areThere 97 = .ok (.iload_n 2, 1) := by decide +kernel
theorem dX3_areThere_98 : decode cX3_areThere 98 = .ok (.invokevirtual 66, 3) := by decide +kernel
theorem dX3_areThere_101 : decode cX3_areThere 101 = .ok (.ifCond .eq 24, 3) := by decide +kernel
theorem dX3_areThere_104 : decode cX3_areThere 104 = .ok (.aload_n 0, 1) := by decide +kernel
theorem dX3_areThere_105 : decode cX3_areThere 105 = .ok (.iload_n 3, 1) := by decide +kernel
theorem dX3_areThere_106 : decode cX3_areThere 106 = .ok (.invokevirtual 66, 3) := by decide +kernel
theorem dX3_areThere_109 : decode cX3_areThere 109 = .ok (.ifCond .eq 16, 3) := by decide +kernel
theorem dX3_areThere_112 : decode cX3_areThere 112 = .ok (.aload_n 0, 1) := by decide +kernel
theorem dX3_areThere_113 : decode cX3_areThere 113 = .ok (.iload 4, 2) := by decide +kernel
theorem dX3_areThere_115 : decode cX3_areThere 115 = .ok (.invokevirtual 66, 3) := by decide +kernel
theorem dX3_areThere_118 : decode cX3_areThere 118 = .ok (.ifCond .eq 7, 3) := by decide +kernel
theorem dX3_areThere_121 : decode cX3_areThere 121 = .ok (.iconst 1, 1) := by decide +kernel
theorem dX3_areThere_122 : decode cX3_areThere 122 = .ok (.goto 4, 3) := by decide +kernel
theorem dX3_areThere_125 : decode cX3_areThere 125 = .ok (.iconst 0, 1) := by decide +kernel
theorem dX3_areThere_126 : decode cX3_areThere 126 = .ok (.ireturn, 1) := by decide +kernel
theorem dX3_areThere_127 : decode cX3_areThere 127 = .ok (.aload_n 0, 1) := by decide +kernel
theorem dX3_areThere_128 : decode cX3_areThere 128 = .ok (.iload_n 2, 1) := by decide +kernel
theorem dX3_areThere_129 : decode cX3_areThere 129 = .ok (.invokevirtual 66, 3) := by decide +kernel
theorem dX3_areThere_132 : decode cX3_areThere 132 = .ok (.ifCond .eq 16, 3) := by decide +kernel
theorem dX3_areThere_135 : decode cX3_areThere 135 = .ok (.iload_n 3, 1) := by decide +kernel
theorem dX3_areThere_136 : decode cX3_areThere 136 = .ok (.iconst 0, 1) := by decide +kernel
theorem dX3_areThere_137 : decode cX3_areThere 137 = .ok (.iconst 3, 1) := by decide +kernel
theorem dX3_areThere_138 : decode cX3_areThere 138 = .ok (.invokestatic 59, 3) := by decide +kernel
theorem dX3_areThere_141 : decode cX3_areThere 141 = .ok (.ifCond .eq 7, 3) := by decide +kernel
theorem dX3_areThere_144 : decode cX3_areThere 144 = .ok (.iconst 1, 1) := by decide +kernel
theorem dX3_areThere_145 : decode cX3_areThere 145 = .ok (.goto 4, 3) := by decide +kernel
theorem dX3_areThere_148 : decode cX3_areThere 148 = .ok (.iconst 0, 1) := by decide +kernel
theorem dX3_areThere_149 : decode cX3_areThere 149 = .ok (.ireturn, 1) := by decide +kernel
theorem dX3_areThere_150 : decode cX3_areThere 150 = .ok (.iload_n 2, 1) := by decide +kernel
theorem dX3_areThere_151 : decode cX3_areThere 151 = .ok (.iconst 0, 1) := by decide +kernel
theorem dX3_areThere_152 : decode cX3_areThere 152 = .ok (.iconst 5, 1) := by decide +kernel
theorem dX3_areThere_153 : decode cX3_areThere 153 = .ok (.invokestatic 59, 3) := by decide +kernel
theorem dX3_areThere_156 : decode cX3_areThere 156 = .ok (.ireturn, 1) := by decide +kernel
theorem dX3_areThere_157 : decode cX3_areThere 157 = .ok (.aload_n 0, 1) := by decide +kernel
theorem dX3_areThere_158 : decode cX3_areThere 158 = .ok (.iload_n 2, 1) := by decide +kernel
theorem dX3_areThere_159 : decode cX3_areThere 159 = .ok (.invokevirtual 66, 3) := by decide +kernel
theorem dX3_areThere_162 : decode cX3_areThere 162 = .ok (.ireturn, 1) := by decide +kernel
theorem dX3_pattern_0 : decode cX3_pattern 0 = .ok (.iload_n 1, 1) := by decide +kernel
theorem dX3_pattern_1 : decode cX3_pattern 1 = .ok (.iconst 0, 1) := by decide +kernel
theorem dX3_pattern_2 : decode cX3_pattern 2 = .ok (.bipush 13, 2) := by decide +kernel
theorem dX3_pattern_4 : decode cX3_pattern 4 = .ok (.invokestatic 59, 3) := by decide +kernel
theorem dX3_pattern_7 : decode cX3_pattern 7 = .ok (.ifCond .ne 6, 3) := by decide +kernel
theorem dX3_pattern_10 : decode cX3_pattern 10 = .ok (.bipush (-2), 2) := by decide +kernel
theorem dX3_pattern_12 : decode cX3_pattern 12 = .ok (.ireturn, 1) := by decide +kernel
theorem dX3_pattern_13 : decode cX3_pattern 13 = .ok (.aload_n 0, 1) := by decide +kernel
theorem dX3_pattern_14 : decode cX3_pattern 14 = .ok (.iload_n 1, 1) := by decide +kernel
theorem dX3_pattern_15 : decode cX3_pattern 15 = .ok (.iload_n 2, 1) := by decide +kernel
theorem dX3_pattern_16 : decode cX3_pattern 16 = .ok (.iload_n 3, 1) := by decide +kernel
theorem dX3_pattern_17 : decode cX3_pattern 17 = .ok (.iload 4, 2) := by decide +kernel
theorem dX3_pattern_19 : decode cX3_pattern 19 = .ok (.invokevirtual 70, 3) := by decide +kernel
theorem dX3_pattern_22 : decode cX3_pattern 22 = .ok (.ifCond .ne 6, 3) := by decide +kernel
theorem dX3_pattern_25 : decode cX3_pattern 25 = .ok (.bipush (-3), 2) := by decide +kernel
theorem dX3_pattern_27 : decode cX3_pattern 27 = .ok (.ireturn, 1) := by decide +kernel
theorem dX3_pattern_28 : decode cX3_pattern 28 = .ok (.iload_n 1, 1) := by decide +kernel
theorem dX3_pattern_29 : decode cX3_pattern 29 = .ok (.iconst 4, 1) := by decide +kernel
theorem dX3_pattern_30 : decode cX3_pattern 30 = .ok (.if_icmp .ne 12, 3) := by decide +kernel
theorem dX3_pattern_33 : decode cX3_pattern 33 = .ok (.iload_n 3, 1) := by decide +kernel
theorem dX3_pattern_34 : decode cX3_pattern 34 = .ok (.iconst 0, 1) := by decide +kernel
theorem dX3_pattern_35 : decode cX3_pattern 35 = .ok (.iconst 3, 1) := by decide +kernel
theorem dX3_pattern_36 : decode cX3_pattern 36 = .ok (.invokestatic 59, 3) := by decide +kernel
theorem dX3_pattern_39 : decode cX3_pattern 39 = .ok (.ifCond .eq 34, 3) := by decide +kernel
theorem dX3_pattern_42 : decode cX3_pattern 42 = .ok (.iload_n 1, 1) := by decide +kernel
theorem dX3_pattern_43 : decode cX3_pattern 43 = .ok (.bipush 10, 2) := by decide +kernel
theorem dX3_pattern_45 : decode cX3_pattern 45 = .ok (.if_icmp .ne 13, 3) := by decide +kernel
theorem dX3_pattern_48 : decode cX3_pattern 48 = .ok (.iload_n 3, 1) := by decide +kernel
theorem dX3_pattern_49 : decode cX3_pattern 49 = .ok (.iconst 1, 1) := by decide +kernel
theorem dX3_pattern_50 : decode cX3_pattern 50 = .ok (.bipush 50, 2) := by decide +kernel
theorem dX3_pattern_52 : decode cX3_pattern 52 = .ok (.invokestatic 59, 3) := by decide +kernel
theorem dX3_pattern_55 : decode cX3_pattern 55 = .ok (.ifCond .eq 18, 3) := by decide +kernel
theorem dX3_pattern_58 : decode cX3_pattern 58 = .ok (.iload_n 1, 1) := by decide +kernel
theorem dX3_pattern_59 : decode cX3_pattern 59 = .ok (.bipush 12, 2) := by decide +kernel
theorem dX3_pattern_61 : decode cX3_pattern 61 = .ok (.if_icmp .ne 15, 3) := by decide +kernel
theorem dX3_pattern_64 : decode cX3_pattern 64 = .ok (.iload_n 3, 1) := by decide +kernel
theorem dX3_pattern_65 : decode cX3_pattern 65 = .ok (.iconst 0, 1) := by decide +kernel
theorem dX3_pattern_66 : decode cX3_pattern 66 = .ok (.iconst 3, 1) := by decide +kernel
theorem dX3_pattern_67 : decode cX3_pattern 67 = .ok (.invokestatic 59, 3) := by decide +kernel
theorem dX3_pattern_70 : decode cX3_pattern 70 = .ok (.ifCond .ne 6, 3) := by decide +kernel
theorem dX3_pattern_73 : decode cX3_pattern 73 = .ok (.bipush (-2), 2) := by decide +kernel
theorem dX3_pattern_75 : decode cX3_pattern 75 = .ok (.ireturn, 1) := by decide +kernel
theorem dX3_pattern_76 : decode cX3_pattern 76 = .ok (.aload_n 0, 1) := by decide +kernel
theorem dX3_pattern_77 : decode cX3_pattern 77 = .ok (.getfield 55, 3) := by decide +kernel
theorem dX3_pattern_80 : decode cX3_pattern 80 = .ok (.bipush 60, 2) := by decide +kernel
theorem dX3_pattern_82 : decode cX3_pattern 82 = .ok (.if_icmp .ne 6, 3) := by decide +kernel
theorem dX3_pattern_85 : decode cX3_pattern 85 = .ok (.bipush (-4), 2) := by decide +kernel
theorem dX3_pattern_87 : decode cX3_pattern 87 = .ok (.ireturn, 1) := by decide +kernel
theorem dX3_pattern_88 : decode cX3_pattern 88 = .ok (.aload_n 0, 1) := by decide +kernel
theorem dX3_pattern_89 : decode cX3_pattern 89 = .ok (.getfield 55, 3) := by decide +kernel
theorem dX3_pattern_92 : decode cX3_pattern 92 = .ok (.istore 5, 2) := by decide +kernel
theorem dX3_pattern_94 : decode cX3_pattern 94 = .ok (.aload_n 0, 1) := by decide +kernel
theorem dX3_pattern_95 : decode cX3_pattern 95 = .ok (.getfield 7, 3) := by decide +kernel
theorem dX3_pattern_98 : decode cX3_pattern 98 = .ok (.iload 5, 2) := by decide +kernel
theorem dX3_pattern_100 : decode cX3_pattern 100 = .ok (.iload_n 1, 1) := by decide +kernel
theorem dX3_pattern_101 : decode cX3_pattern 101 = .ok (.iastore, 1) := by decide +kernel
theorem dX3_pattern_102 : decode cX3_pattern 102 = .ok (.aload_n 0, 1) := by decide +kernel
theorem dX3_pattern_103 : decode cX3_pattern 103 = .ok (.getfield 13, 3) := by decide +kernel
theorem dX3_pattern_106 : decode cX3_pattern 106 = .ok (.iload 5, 2) := by decide +kernel
theorem dX3_pattern_108 : decode cX3_pattern 108 = .ok (.iload_n 2, 1) := by decide +kernel
theorem dX3_pattern_109 : decode cX3_pattern 109 = .ok (.iastore, 1) := by decide +kernel
theorem dX3_pattern_110 : decode cX3_pattern 110 = .ok (.aload_n 0, 1) := by decide +kernel
theorem dX3_pattern_111 : decode cX3_pattern 111 = .ok (.getfield 16, 3) := by decide +kernel
theorem dX3_pattern_114 : decode cX3_pattern 114 = .ok (.iload 5, 2) := by decide +kernel
theorem dX3_pattern_116 : decode cX3_pattern 116 = .ok (.iload_n 3, 1) := by decide +kernel
theorem dX3_pattern_117 : decode cX3_pattern 117 = .ok (.iastore, 1) := by decide +kernel
theorem dX3_pattern_118 : decode cX3_pattern 118 = .ok (.aload_n 0, 1) := by decide +kernel
theorem dX3_pattern_119 : decode cX3_pattern 119 = .ok (.getfield 19, 3) := by decide +kernel
theorem dX3_pattern_122 : decode cX3_pattern 122 = .ok (.iload 5, 2) := by decide +kernel
theorem dX3_pattern_124 : decode cX3_pattern 124 = .ok (.iload 4, 2) := by decide +kernel
theorem dX3_pattern_126 : decode cX3_pattern 126 = .ok (.iastore, 1) := by decide +kernel
theorem dX3_pattern_127 : decode cX3_pattern 127 = .ok (.aload_n 0, 1) := by decide +kernel
theorem dX3_pattern_128 : decode cX3_pattern 128 = .ok (.getfield 28, 3) := by decide +kernel
theorem dX3_pattern_131 : decode cX3_pattern 131 = .ok (.iload 5, 2) := by decide +kernel
theorem dX3_pattern_133 : decode cX3_pattern 133 = .ok (.iconst 0, 1) := by decide +kernel
theorem dX3_pattern_134 : decode cX3_pattern 134 = .ok (.iastore, 1) := by decide +kernel
theorem dX3_pattern_135 : decode cX3_pattern 135 = .ok (.aload_n 0, 1) := by decide +kernel
theorem dX3_pattern_136 : decode cX3_pattern 136 = .ok (.getfield 25, 3) := by decide +kernel
theorem dX3_pattern_139 : decode cX3_pattern 139 = .ok (.iload 5, 2) := by decide +kernel
theorem dX3_pattern_141 : decode cX3_pattern 141 = .ok (.iload_n 1, 1) := by decide +kernel
theorem dX3_pattern_142 : decode cX3_pattern 142 = .ok (.bipush 13, 2) := by decide +kernel
theorem dX3_pattern_144 : decode cX3_pattern 144 = .ok (.if_icmp .ne 12, 3) := by decide +kernel
theorem dX3_pattern_147 : decode cX3_pattern 147 = .ok (.aload_n 0, 1) := by decide +kernel
theorem dX3_pattern_148 : decode cX3_pattern 148 = .ok (.getfield 34, 3) := by decide +kernel
theorem dX3_pattern_151 : decode cX3_pattern 151 = .ok (.iload_n 2, 1) := by decide +kernel
theorem dX3_pattern_152 : decode cX3_pattern 152 = .ok (.iaload, 1) := by decide +kernel
theorem dX3_pattern_153 : decode cX3_pattern 153 = .ok (.goto 4, 3) := by decide +kernel
theorem dX3_pattern_156 : decode cX3_pattern 156 = .ok (.iconst (-1), 1) := by decide +kernel
theorem dX3_pattern_157 : decode cX3_pattern 157 = .ok (.iastore, 1) := by decide +kernel
theorem dX3_pattern_158 : decode cX3_pattern 158 = .ok (.iconst 0, 1) := by decide +kernel
theorem dX3_pattern_159 : decode cX3_pattern 159 = .ok (.istore 6, 2) := by decide +kernel
theorem dX3_pattern_161 : decode cX3_pattern 161 = .ok (.iload 6, 2) := by decide +kernel
theorem dX3_pattern_163 : decode cX3_pattern 163 = .ok (.bipush 8, 2) := by decide +kernel
theorem dX3_pattern_165 : decode cX3_pattern 165 = .ok (.if_icmp .ge 40, 3) := by decide +kernel
theorem dX3_pattern_168 : decode cX3_pattern 168 = .ok (.iload_n 1, 1) := by decide +kernel
theorem dX3_pattern_169 : decode cX3_pattern 169 = .ok (.bipush 8, 2) := by decide +kernel
theorem dX3_pattern_171 : decode cX3_pattern 171 = .ok (.if_icmp .ne 34, 3) := by decide +kernel
theorem dX3_pattern_174 : decode cX3_pattern 174 = .ok (.aload_n 0, 1) := by decide +kernel
theorem dX3_pattern_175 : decode cX3_pattern 175 = .ok (.getfield 22, 3) := by decide +kernel
theorem dX3_pattern_178 : decode cX3_pattern 178 = .ok (.bipush 8, 2) := by decide +kernel
theorem dX3_pattern_180 : decode cX3_pattern 180 = .ok (.iload 5, 2) := by decide +kernel
theorem dX3_pattern_182 : decode cX3_pattern 182 = .ok (.imul, 1) := by decide +kernel
theorem dX3_pattern_183 : decode cX3_pattern 183 = .ok (.iload 6, 2) := by decide +kernel
theorem dX3_pattern_185 : decode cX3_pattern 185 = .ok (.iadd, 1) := by decide +kernel
theorem dX3_pattern_186 : decode cX3_pattern 186 = .ok (.aload_n 0, 1) := by decide +kernel
theorem dX3_pattern_187 : decode cX3_pattern 187 = .ok (.getfield 31, 3) := by decide +kernel
theorem dX3_pattern_190 : decode cX3_pattern 190 = .ok (.bipush 8, 2) := by decide +kernel
theorem dX3_pattern_192 : decode cX3_pattern 192 = .ok (.iload_n 3, 1) := by decide +kernel
theorem dX3_pattern_193 : decode cX3_pattern 193 = .ok (.imul, 1) := by decide +kernel
theorem dX3_pattern_194 : decode cX3_pattern 194 = .ok (.iload 6, 2) := by decide +kernel
theorem dX3_pattern_196 : decode cX3_pattern 196 = .ok (.iadd, 1) := by decide +kernel
theorem dX3_pattern_197 : decode cX3_pattern 197 = .ok (.iaload, 1) := by decide +kernel
theorem dX3_pattern_198 : decode cX3_pattern 198 = .ok (.iastore, 1) := by decide +kernel
theorem dX3_pattern_199 : decode cX3_pattern 199 = .ok (.iinc 6 1, 3) := by decide +kernel
theorem dX3_pattern_202 : decode cX3_pattern 202 = .ok (.goto (-41), 3) := by decide +kernel
theorem dX3_pattern_205 : decode cX3_pattern 205 = .ok (.aload_n 0, 1) := by decide +kernel
theorem dX3_pattern_206 : decode cX3_pattern 206 = .ok (.dup, 1) := by decide +kernel
theorem dX3_pattern_207 : decode cX3_pattern 207 = .ok (.getfield 55, 3) := by decide +kernel
theorem dX3_pattern_210 : decode cX3_pattern 210 = .ok (.iconst 1, 1) := by decide +kernel
theorem dX3_pattern_211 : decode cX3_pattern 211 = .ok (.iadd, 1) := by decide +kernel
theorem dX3_pattern_212 : decode cX3_pattern 212 = .ok (.putfield 55, 3) := by decide +kernel
theorem dX3_pattern_215 : decode cX3_pattern 215 = .ok (.iload 5, 2) := by decide +kernel
theorem dX3_pattern_217 : decode cX3_pattern 217 = .ok (.ireturn, 1) := by decide +kernel
theorem dX3_name_0 : decode cX3_name 0 = .ok (.iload_n 1, 1) := by decide +kernel
theorem dX3_name_1 : decode cX3_name 1 = .ok (.iconst 0, 1) := by decide +kernel
theorem dX3_name_2 : decode cX3_name 2 = .ok (.iconst 5, 1) := by decide +kernel
theorem dX3_name_3 : decode cX3_name 3 = .ok (.invokestatic 59, 3) := by decide +kernel
theorem dX3_name_6 : decode cX3_name 6 = .ok (.ifCond .eq 16, 3) := by decide +kernel
theorem dX3_name_9 : decode cX3_name 9 = .ok (.iload_n 2, 1) := by decide +kernel
theorem dX3_name_10 : decode cX3_name 10 = .ok (.iconst (-1), 1) := by decide +kernel
theorem dX3_name_11 : decode cX3_name 11 = .ok (.if_icmp .eq 14, 3) := by decide +kernel
theorem dX3_name_14 : decode cX3_name 14 = .ok (.aload_n 0, 1) := by decide +kernel
theorem dX3_name_15 : decode cX3_name 15 = .ok (.iload_n 2, 1) := by decide +kernel
theorem dX3_name_16 : decode cX3_name 16 = .ok (.invokevirtual 66, 3) := by decide +kernel
theorem dX3_name_19 : decode cX3_name 19 = .ok (.ifCond .ne 6, 3) := by decide +kernel
theorem dX3_name_22 : decode cX3_name 22 = .ok (.bipush (-3), 2) := by decide +kernel
theorem dX3_name_24 : decode cX3_name 24 = .ok (.ireturn, 1) := by decide +kernel
theorem dX3_name_25 : decode cX3_name 25 = .ok (.aload_n 0, 1) := by decide +kernel
theorem dX3_name_26 : decode cX3_name 26 = .ok (.getfield 34, 3) := by decide +kernel
theorem dX3_name_29 : decode cX3_name 29 = .ok (.iload_n 1, 1) := by decide +kernel
theorem dX3_name_30 : decode cX3_name 30 = .ok (.iaload, 1) := by decide +kernel
theorem dX3_name_31 : decode cX3_name 31 = .ok (.iconst (-1), 1) := by decide +kernel
theorem dX3_name_32 : decode cX3_name 32 = .ok (.if_icmp .ne 7, 3) := by decide +kernel
theorem dX3_name_35 : decode cX3_name 35 = .ok (.iconst 0, 1) := by decide +kernel
theorem dX3_name_36 : decode cX3_name 36 = .ok (.goto 4, 3) := by decide +kernel
theorem dX3_name_39 : decode cX3_name 39 = .ok (.iconst 1, 1) := by decide +kernel
theorem dX3_name_40 : decode cX3_name 40 = .ok (.istore_n 3, 1) := by decide +kernel
theorem dX3_name_41 : decode cX3_name 41 = .ok (.aload_n 0, 1) := by decide +kernel
theorem dX3_name_42 : decode cX3_name 42 = .ok (.getfield 34, 3) := by decide +kernel
theorem dX3_name_45 : decode cX3_name 45 = .ok (.iload_n 1, 1) := by decide +kernel
theorem dX3_name_46 : decode cX3_name 46 = .ok (.iload_n 2, 1) := by decide +kernel
theorem dX3_name_47 : decode cX3_name 47 = .ok (.iastore, 1) := by decide +kernel
theorem dX3_name_48 : decode cX3_name 48 = .ok (.iload_n 3, 1) := by decide +kernel
theorem dX3_name_49 : decode cX3_name 49 = .ok (.ireturn, 1) := by decide +kernel
theorem dX3_push_0 : decode cX3_push 0 = .ok (.aload_n 0, 1) := by decide +kernel
theorem dX3_push_1 : decode cX3_push 1 = .ok (.getfield 74, 3) := by decide +kernel
theorem dX3_push_4 : decode cX3_push 4 = .ok (.bipush 100, 2) := by decide +kernel
theorem dX3_push_6 : decode cX3_push 6 = .ok (.if_icmp .ne 9, 3) := by decide +kernel
theorem dX3_push_9 : decode cX3_push 9 = .ok (.aload_n 0, 1) := by decide +kernel
theorem dX3_push_10 : decode cX3_push 10 = .ok (.iconst 4, 1) := by decide +kernel
theorem dX3_push_11 : decode cX3_push 11 = .ok (.putfield 77, 3) := by decide +kernel
theorem dX3_push_14 : decode cX3_push 14 = .ok (.return_, 1) := by decide +kernel
theorem dX3_push_15 : decode cX3_push 15 = .ok (.aload_n 0, 1) := by decide +kernel
theorem dX3_push_16 : decode cX3_push 16 = .ok (.dup, 1) := by decide +kernel
theorem dX3_push_17 : decode cX3_push 17 = .ok (.getfield 74, 3) := by decide +kernel
theorem dX3_push_20 : decode cX3_push 20 = .ok (.iconst 1, 1) := by decide +kernel
theorem dX3_push_21 : decode cX3_push 21 = .ok (.iadd, 1) := by decide +kernel
theorem dX3_push_22 : decode cX3_push 22 = .ok (.putfield 74, 3) := by decide +kernel
theorem dX3_push_25 : decode cX3_push 25 = .ok (.iload_n 1, 1) := by decide +kernel
theorem dX3_push_26 : decode cX3_push 26 = .ok (.iconst (-1), 1) := by decide +kernel
theorem dX3_push_27 : decode cX3_push 27 = .ok (.if_icmp .ne 9, 3) := by decide +kernel
theorem dX3_push_30 : decode cX3_push 30 = .ok (.aload_n 0, 1) := by decide +kernel
theorem dX3_push_31 : decode cX3_push 31 = .ok (.iconst 3, 1) := by decide +kernel
theorem dX3_push_32 : decode cX3_push 32 = .ok (.putfield 77, 3) := by decide +kernel
theorem dX3_push_35 : decode cX3_push 35 = .ok (.return_, 1) := by decide +kernel
theorem dX3_push_36 : decode cX3_push 36 = .ok (.aload_n 0, 1) := by decide +kernel
theorem dX3_push_37 : decode cX3_push 37 = .ok (.getfield 37, 3) := by decide +kernel
theorem dX3_push_40 : decode cX3_push 40 = .ok (.aload_n 0, 1) := by decide +kernel
theorem dX3_push_41 : decode cX3_push 41 = .ok (.getfield 80, 3) := by decide +kernel
theorem dX3_push_44 : decode cX3_push 44 = .ok (.iload_n 1, 1) := by decide +kernel
theorem dX3_push_45 : decode cX3_push 45 = .ok (.iastore, 1) := by decide +kernel
theorem dX3_push_46 : decode cX3_push 46 = .ok (.aload_n 0, 1) := by decide +kernel
theorem dX3_push_47 : decode cX3_push 47 = .ok (.getfield 40, 3) := by decide +kernel
theorem dX3_push_50 : decode cX3_push 50 = .ok (.aload_n 0, 1) := by decide +kernel
theorem dX3_push_51 : decode cX3_push 51 = .ok (.getfield 80, 3) := by decide +kernel
theorem dX3_push_54 : decode cX3_push 54 = .ok (.iload_n 2, 1) := by decide +kernel
theorem dX3_push_55 : decode cX3_push 55 = .ok (.iastore, 1) := by decide +kernel
theorem dX3_push_56 : decode cX3_push 56 = .ok (.aload_n 0, 1) := by decide +kernel
theorem dX3_push_57 : decode cX3_push 57 = .ok (.getfield 43, 3) := by decide +kernel
theorem dX3_push_60 : decode cX3_push 60 = .ok (.aload_n 0, 1) := by decide +kernel
theorem dX3_push_61 : decode cX3_push 61 = .ok (.getfield 80, 3) := by decide +kernel
theorem dX3_push_64 : decode cX3_push 64 = .ok (.iload_n 3, 1) := by decide +kernel
theorem dX3_push_65 : decode cX3_push 65 = .ok (.iastore, 1) := by decide +kernel
theorem dX3_push_66 : decode cX3_push 66 = .ok (.aload_n 0, 1) := by decide +kernel
theorem dX3_push_67 : decode cX3_push 67 = .ok (.getfield 46, 3) := by decide +kernel
theorem dX3_push_70 : decode cX3_push 70 = .ok (.aload_n 0, 1) := by decide +kernel
theorem dX3_push_71 : decode cX3_push 71 = .ok (.getfield 80, 3) := by decide +kernel
theorem dX3_push_74 : decode cX3_push 74 = .ok (.iconst 0, 1) := by decide +kernel
theorem dX3_push_75 : decode cX3_push 75 = .ok (.iastore, 1) := by decide +kernel
theorem dX3_push_76 : decode cX3_push 76 = .ok (.aload_n 0, 1) := by decide +kernel
theorem dX3_push_77 : decode cX3_push 77 = .ok (.dup, 1) := by decide +kernel
theorem dX3_push_78 : decode cX3_push 78 = .ok (.getfield 80, 3) := by decide +kernel
theorem dX3_push_81 : decode cX3_push 81 = .ok (.iconst 1, 1) := by decide +kernel
theorem dX3_push_82 : decode cX3_push 82 = .ok (.iadd, 1) := by decide +kernel
theorem dX3_push_83 : decode cX3_push 83 = .ok (.putfield 80, 3) := by decide +kernel
theorem dX3_push_86 : decode cX3_push 86 = .ok (.return_, 1) := by decide +kernel
theorem dX3_tells_0 : decode cX3_tells 0 = .ok (.aload_n 0, 1) := by decide +kernel
theorem dX3_tells_1 : decode cX3_tells 1 = .ok (.iload_n 1, 1) := by decide +kernel
theorem dX3_tells_2 : decode cX3_tells 2 = .ok (.putfield 83, 3) := by decide +kernel
theorem dX3_tells_5 : decode cX3_tells 5 = .ok (.aload_n 0, 1) := by decide +kernel
theorem dX3_tells_6 : decode cX3_tells 6 = .ok (.dup, 1) := by decide +kernel
theorem dX3_tells_7 : decode cX3_tells 7 = .ok (.getfield 80, 3) := by decide +kernel
theorem dX3_tells_10 : decode cX3_tells 10 = .ok (.iconst 1, 1) := by decide +kernel
theorem dX3_tells_11 : decode cX3_tells 11 = .ok (.isub, 1) := by decide +kernel
theorem dX3_tells_12 : decode cX3_tells 12 = .ok (.putfield 80, 3) := by decide +kernel
theorem dX3_tells_15 : decode cX3_tells 15 = .ok (.return_, 1) := by decide +kernel
theorem dX3_tellsOf_0 : decode cX3_tellsOf 0 = .ok (.iload_n 1, 1) := by decide +kernel
theorem dX3_tellsOf_1 : decode cX3_tellsOf 1 = .ok (.iconst 0, 1) := by decide +kernel
theorem dX3_tellsOf_2 : decode cX3_tellsOf 2 = .ok (.bipush 7, 2) := by decide +kernel
theorem dX3_tellsOf_4 : decode cX3_tellsOf 4 = .ok (.invokestatic 59, 3) := by decide +kernel
theorem dX3_tellsOf_7 : decode cX3_tellsOf 7 = .ok (.ifCond .eq 13, 3) := by decide +kernel
theorem dX3_tellsOf_10 : decode cX3_tellsOf 10 = .ok (.aload_n 0, 1) := by decide +kernel
theorem dX3_tellsOf_11 : decode cX3_tellsOf 11 = .ok (.iload_n 2, 1) := by decide +kernel
theorem dX3_tellsOf_12 : decode cX3_tellsOf 12 = .ok (.iload_n 3, 1) := by decide +kernel
theorem dX3_tellsOf_13 : decode cX3_tellsOf 13 = .ok (.iadd, 1) := by decide +kernel
theorem dX3_tellsOf_14 : decode cX3_tellsOf 14 = .ok (.invokevirtual 86, 3) := by decide +kernel
theorem dX3_tellsOf_17 : decode cX3_tellsOf 17 = .ok (.goto 8, 3) := by decide +kernel
theorem dX3_tellsOf_20 : decode cX3_tellsOf 20 = .ok (.aload_n 0, 1) := by decide +kernel
theorem dX3_tellsOf_21 : decode cX3_tellsOf 21 = .ok (.iconst 2, 1) := by decide +kernel
theorem dX3_tellsOf_22 : decode cX3_tellsOf 22 = .ok (.putfield 77, 3) := by decide +kernel
theorem dX3_tellsOf_25 : decode cX3_tellsOf 25 = .ok (.return_, 1) := by decide +kernel
theorem dX3_dyeAt_0 : decode cX3_dyeAt 0 = .ok (.iload_n 2, 1) := by decide +kernel
theorem dX3_dyeAt_1 : decode cX3_dyeAt 1 = .ok (.iconst 0, 1) := by decide +kernel
theorem dX3_dyeAt_2 : decode cX3_dyeAt 2 = .ok (.bipush 7, 2) := by decide +kernel
theorem dX3_dyeAt_4 : decode cX3_dyeAt 4 = .ok (.invokestatic 59, 3) := by decide +kernel
theorem dX3_dyeAt_7 : decode cX3_dyeAt 7 = .ok (.ifCond .eq 17, 3) := by decide +kernel
theorem dX3_dyeAt_10 : decode cX3_dyeAt 10 = .ok (.aload_n 0, 1) := by decide +kernel
theorem dX3_dyeAt_11 : decode cX3_dyeAt 11 = .ok (.getfield 31, 3) := by decide +kernel
theorem dX3_dyeAt_14 : decode cX3_dyeAt 14 = .ok (.bipush 8, 2) := by decide +kernel
theorem dX3_dyeAt_16 : decode cX3_dyeAt 16 = .ok (.iload_n 1, 1) := by decide +kernel
theorem dX3_dyeAt_17 : decode cX3_dyeAt 17 = .ok (.imul, 1) := by decide +kernel
theorem dX3_dyeAt_18 : decode cX3_dyeAt 18 = .ok (.iload_n 2, 1) := by decide +kernel
theorem dX3_dyeAt_19 : decode cX3_dyeAt 19 = .ok (.iadd, 1) := by decide +kernel
theorem dX3_dyeAt_20 : decode cX3_dyeAt 20 = .ok (.iaload, 1) := by decide +kernel
theorem dX3_dyeAt_21 : decode cX3_dyeAt 21 = .ok (.goto 4, 3) := by decide +kernel
theorem dX3_dyeAt_24 : decode cX3_dyeAt 24 = .ok (.iconst 0, 1) := by decide +kernel
theorem dX3_dyeAt_25 : decode cX3_dyeAt 25 = .ok (.ireturn, 1) := by decide +kernel
theorem dX3_alone_0 : decode cX3_alone 0 = .ok (.iload_n 1, 1) := by decide +kernel
theorem dX3_alone_1 : decode cX3_alone 1 = .ok (.bipush (-2), 2) := by decide +kernel
theorem dX3_alone_3 : decode cX3_alone 3 = .ok (.if_icmp .ne 15, 3) := by decide +kernel
theorem dX3_alone_6 : decode cX3_alone 6 = .ok (.aload_n 0, 1) := by decide +kernel
theorem dX3_alone_7 : decode cX3_alone 7 = .ok (.iload_n 2, 1) := by decide +kernel
theorem dX3_alone_8 : decode cX3_alone 8 = .ok (.iload_n 3, 1) := by decide +kernel
theorem dX3_alone_9 : decode cX3_alone 9 = .ok (.iadd, 1) := by decide +kernel
theorem dX3_alone_10 : decode cX3_alone 10 = .ok (.iconst 2, 1) := by decide +kernel
theorem dX3_alone_11 : decode cX3_alone 11 = .ok (.irem, 1) := by decide +kernel
theorem dX3_alone_12 : decode cX3_alone 12 = .ok (.invokevirtual 86, 3) := by decide +kernel
theorem dX3_alone_15 : decode cX3_alone 15 = .ok (.goto 169, 3) := by decide +kernel
theorem dX3_alone_18 : decode cX3_alone 18 = .ok (.iload_n 1, 1) := by decide +kernel
theorem dX3_alone_19 : decode cX3_alone 19 = .ok (.bipush (-3), 2) := by decide +kernel
theorem dX3_alone_21 : decode cX3_alone 21 = .ok (.if_icmp .ne 18, 3) := by decide +kernel
theorem dX3_alone_24 : decode cX3_alone 24 = .ok (.aload_n 0, 1) := by decide +kernel
theorem dX3_alone_25 : decode cX3_alone 25 = .ok (.iload_n 2, 1) := by decide +kernel
theorem dX3_alone_26 : decode cX3_alone 26 = .ok (.aload_n 0, 1) := by decide +kernel
theorem dX3_alone_27 : decode cX3_alone 27 = .ok (.iconst 0, 1) := by decide +kernel
theorem dX3_alone_28 : decode cX3_alone 28 = .ok (.iload_n 2, 1) := by decide +kernel
theorem dX3_alone_29 : decode cX3_alone 29 = .ok (.invokevirtual 90, 3) := by decide +kernel
theorem dX3_alone_32 : decode cX3_alone 32 = .ok (.iload_n 3, 1) := by decide +kernel
theorem dX3_alone_33 : decode cX3_alone 33 = .ok (.invokevirtual 94, 3) := by decide +kernel
theorem dX3_alone_36 : decode cX3_alone 36 = .ok (.goto 148, 3) := by decide +kernel
theorem dX3_alone_39 : decode cX3_alone 39 = .ok (.aload_n 0, 1) := by decide +kernel
theorem dX3_alone_40 : decode cX3_alone 40 = .ok (.getfield 7, 3) := by decide +kernel
theorem dX3_alone_43 : decode cX3_alone 43 = .ok (.iload_n 1, 1) := by decide +kernel
theorem dX3_alone_44 : decode cX3_alone 44 = .ok (.iaload, 1) := by decide +kernel
theorem dX3_alone_45 : decode cX3_alone 45 = .ok (.ifCond .ne 16, 3) := by decide +kernel
theorem dX3_alone_48 : decode cX3_alone 48 = .ok (.aload_n 0, 1) := by decide +kernel
theorem dX3_alone_49 : decode cX3_alone 49 = .ok (.aload_n 0, 1) := by decide +kernel
theorem dX3_alone_50 : decode cX3_alone 50 = .ok (.getfield 13, 3) := by decide +kernel
theorem dX3_alone_53 : decode cX3_alone 53 = .ok (.iload_n 1, 1) := by decide +kernel
theorem dX3_alone_54 : decode cX3_alone 54 = .ok (.iaload, 1) := by decide +kernel
theorem dX3_alone_55 : decode cX3_alone 55 = .ok (.invokevirtual 86, 3) := by decide +kernel
theorem dX3_alone_58 : decode cX3_alone 58 = .ok (.goto 126, 3) := by decide +kernel
theorem dX3_alone_61 : decode cX3_alone 61 = .ok (.aload_n 0, 1) := by decide +kernel
theorem dX3_alone_62 : decode cX3_alone 62 = .ok (.getfield 7, 3) := by decide +kernel
theorem dX3_alone_65 : decode cX3_alone 65 = .ok (.iload_n 1, 1) := by decide +kernel
theorem dX3_alone_66 : decode cX3_alone 66 = .ok (.iaload, 1) := by decide +kernel
theorem dX3_alone_67 : decode cX3_alone 67 = .ok (.iconst 1, 1) := by decide +kernel
theorem dX3_alone_68 : decode cX3_alone 68 = .ok (.if_icmp .ne 57, 3) := by decide +kernel
theorem dX3_alone_71 : decode cX3_alone 71 = .ok (.aload_n 0, 1) := by decide +kernel
theorem dX3_alone_72 : decode cX3_alone 72 = .ok (.getfield 19, 3) := by decide +kernel
theorem dX3_alone_75 : decode cX3_alone 75 = .ok (.iload_n 1, 1) := by decide +kernel
theorem dX3_alone_76 : decode cX3_alone 76 = .ok (.iaload, 1) := by decide +kernel
theorem dX3_alone_77 : decode cX3_alone 77 = .ok (.ifCond .ne 11, 3) := by decide +kernel
theorem dX3_alone_80 : decode cX3_alone 80 = .ok (.aload_n 0, 1) := by decide +kernel
theorem dX3_alone_81 : decode cX3_alone 81 = .ok (.iconst 1, 1) := by decide +kernel
theorem dX3_alone_82 : decode cX3_alone 82 = .ok (.putfield 77, 3) := by decide +kernel
theorem dX3_alone_85 : decode cX3_alone 85 = .ok (.goto 99, 3) := by decide +kernel
theorem dX3_alone_88 : decode cX3_alone 88 = .ok (.aload_n 0, 1) := by decide +kernel
theorem dX3_alone_89 : decode cX3_alone 89 = .ok (.iload_n 2, 1) := by decide +kernel
theorem dX3_alone_90 : decode cX3_alone 90 = .ok (.aload_n 0, 1) := by decide +kernel
theorem dX3_alone_91 : decode cX3_alone 91 = .ok (.getfield 19, 3) := by decide +kernel
theorem dX3_alone_94 : decode cX3_alone 94 = .ok (.iload_n 1, 1) := by decide +kernel
theorem dX3_alone_95 : decode cX3_alone 95 = .ok (.iaload, 1) := by decide +kernel
theorem dX3_alone_96 : decode cX3_alone 96 = .ok (.invokestatic 98, 3) := by decide +kernel
theorem dX3_alone_99 : decode cX3_alone 99 = .ok (.iconst 2, 1) := by decide +kernel
theorem dX3_alone_100 : decode cX3_alone 100 = .ok (.irem, 1) := by decide +kernel
theorem dX3_alone_101 : decode cX3_alone 101 = .ok (.ifCond .ne 12, 3) := by decide +kernel
theorem dX3_alone_104 : decode cX3_alone 104 = .ok (.aload_n 0, 1) := by decide +kernel
theorem dX3_alone_105 : decode cX3_alone 105 = .ok (.getfield 13, 3) := by decide +kernel
theorem dX3_alone_108 : decode cX3_alone 108 = .ok (.iload_n 1, 1) := by decide +kernel
theorem dX3_alone_109 : decode cX3_alone 109 = .ok (.iaload, 1) := by decide +kernel
theorem dX3_alone_110 : decode cX3_alone 110 = .ok (.goto 9, 3) := by decide +kernel
theorem dX3_alone_113 : decode cX3_alone 113 = .ok (.aload_n 0, 1) := by decide +kernel
theorem dX3_alone_114 : decode cX3_alone 114 = .ok (.getfield 16, 3) := by decide +kernel
theorem dX3_alone_117 : decode cX3_alone 117 = .ok (.iload_n 1, 1) := by decide +kernel
theorem dX3_alone_118 : decode cX3_alone 118 = .ok (.iaload, 1) := by decide +kernel
theorem dX3_alone_119 : decode cX3_alone 119 = .ok (.invokevirtual 86, 3) := by decide +kernel
theorem dX3_alone_122 : decode cX3_alone 122 = .ok (.goto 62, 3) := by decide +kernel
theorem dX3_alone_125 : decode cX3_alone 125 = .ok (.aload_n 0, 1) := by decide +kernel
theorem dX3_alone_126 : decode cX3_alone 126 = .ok (.getfield 16, 3) := by decide +kernel
theorem dX3_alone_129 : decode cX3_alone 129 = .ok (.iload_n 1, 1) := by decide +kernel
theorem dX3_alone_130 : decode cX3_alone 130 = .ok (.iaload, 1) := by decide +kernel
theorem dX3_alone_131 : decode cX3_alone 131 = .ok (.ifCond .ne 11, 3) := by decide +kernel
theorem dX3_alone_134 : decode cX3_alone 134 = .ok (.aload_n 0, 1) := by decide +kernel
theorem dX3_alone_135 : decode cX3_alone 135 = .ok (.iconst 1, 1) := by decide +kernel
theorem dX3_alone_136 : decode cX3_alone 136 = .ok (.putfield 77, 3) := by decide +kernel
theorem dX3_alone_139 : decode cX3_alone 139 = .ok (.goto 45, 3) := by decide +kernel
theorem dX3_alone_142 : decode cX3_alone 142 = .ok (.aload_n 0, 1) := by decide +kernel
theorem dX3_alone_143 : decode cX3_alone 143 = .ok (.aload_n 0, 1) := by decide +kernel
theorem dX3_alone_144 : decode cX3_alone 144 = .ok (.getfield 16, 3) := by decide +kernel
theorem dX3_alone_147 : decode cX3_alone 147 = .ok (.iload_n 1, 1) := by decide +kernel
theorem dX3_alone_148 : decode cX3_alone 148 = .ok (.iaload, 1) := by decide +kernel
theorem dX3_alone_149 : decode cX3_alone 149 = .ok (.iconst (-1), 1) := by decide +kernel
theorem dX3_alone_150 : decode cX3_alone 150 = .ok (.if_icmp .ne 7, 3) := by decide +kernel
theorem dX3_alone_153 : decode cX3_alone 153 = .ok (.iconst 0, 1) := by decide +kernel
theorem dX3_alone_154 : decode cX3_alone 154 = .ok (.goto 20, 3) := by decide +kernel
theorem dX3_alone_157 : decode cX3_alone 157 = .ok (.iload_n 2, 1) := by decide +kernel
theorem dX3_alone_158 : decode cX3_alone 158 = .ok (.aload_n 0, 1) := by decide +kernel
theorem dX3_alone_159 : decode cX3_alone 159 = .ok (.getfield 13, 3) := by decide +kernel
theorem dX3_alone_162 : decode cX3_alone 162 = .ok (.iload_n 1, 1) := by decide +kernel
theorem dX3_alone_163 : decode cX3_alone 163 = .ok (.iaload, 1) := by decide +kernel
theorem dX3_alone_164 : decode cX3_alone 164 = .ok (.iload_n 3, 1) := by decide +kernel
theorem dX3_alone_165 : decode cX3_alone 165 = .ok (.imul, 1) := by decide +kernel
theorem dX3_alone_166 : decode cX3_alone 166 = .ok (.iadd, 1) := by decide +kernel
theorem dX3_alone_167 : decode cX3_alone 167 = .ok (.aload_n 0, 1) := by decide +kernel
theorem dX3_alone_168 : decode cX3_alone 168 = .ok (.getfield 16, 3) := by decide +kernel
theorem dX3_alone_171 : decode cX3_alone 171 = .ok (.iload_n 1, 1) := by decide +kernel
theorem dX3_alone_172 : decode cX3_alone 172 = .ok (.iaload, 1) := by decide +kernel
theorem dX3_alone_173 : decode cX3_alone 173 = .ok (.irem, 1) := by decide +kernel
theorem dX3_alone_174 : decode cX3_alone 174 = .ok (.aload_n 0, 1) := by decide +kernel
theorem dX3_alone_175 : decode cX3_alone 175 = .ok (.getfield 19, 3) := by decide +kernel
theorem dX3_alone_178 : decode cX3_alone 178 = .ok (.iload_n 1, 1) := by decide +kernel
theorem dX3_alone_179 : decode cX3_alone 179 = .ok (.iaload, 1) := by decide +kernel
theorem dX3_alone_180 : decode cX3_alone 180 = .ok (.iadd, 1) := by decide +kernel
theorem dX3_alone_181 : decode cX3_alone 181 = .ok (.invokevirtual 86, 3) := by decide +kernel
theorem dX3_alone_184 : decode cX3_alone 184 = .ok (.return_, 1) := by decide +kernel
theorem dX3_quotient_0 : decode cX3_quotient 0 = .ok (.iload_n 1, 1) := by decide +kernel
theorem dX3_quotient_1 : decode cX3_quotient 1 = .ok (.iconst (-1), 1) := by decide +kernel
theorem dX3_quotient_2 : decode cX3_quotient 2 = .ok (.if_icmp .ne 8, 3) := by decide +kernel
theorem dX3_quotient_5 : decode cX3_quotient 5 = .ok (.iload_n 0, 1) := by decide +kernel
theorem dX3_quotient_6 : decode cX3_quotient 6 = .ok (.ineg, 1) := by decide +kernel
theorem dX3_quotient_7 : decode cX3_quotient 7 = .ok (.goto 6, 3) := by decide +kernel
theorem dX3_quotient_10 : decode cX3_quotient 10 = .ok (.iload_n 0, 1) := by decide +kernel
theorem dX3_quotient_11 : decode cX3_quotient 11 = .ok (.iload_n 1, 1) := by decide +kernel
theorem dX3_quotient_12 : decode cX3_quotient 12 = .ok (.idiv, 1) := by decide +kernel
theorem dX3_quotient_13 : decode cX3_quotient 13 = .ok (.ireturn, 1) := by decide +kernel
theorem dX3_turned_0 : decode cX3_turned 0 = .ok (.aload_n 0, 1) := by decide +kernel
theorem dX3_turned_1 : decode cX3_turned 1 = .ok (.getfield 16, 3) := by decide +kernel
theorem dX3_turned_4 : decode cX3_turned 4 = .ok (.iload_n 1, 1) := by decide +kernel
theorem dX3_turned_5 : decode cX3_turned 5 = .ok (.iaload, 1) := by decide +kernel
theorem dX3_turned_6 : decode cX3_turned 6 = .ok (.istore 4, 2) := by decide +kernel
theorem dX3_turned_8 : decode cX3_turned 8 = .ok (.aload_n 0, 1) := by decide +kernel
theorem dX3_turned_9 : decode cX3_turned 9 = .ok (.aload_n 0, 1) := by decide +kernel
theorem dX3_turned_10 : decode cX3_turned 10 = .ok (.getfield 13, 3) := by decide +kernel
theorem dX3_turned_13 : decode cX3_turned 13 = .ok (.iload_n 1, 1) := by decide +kernel
theorem dX3_turned_14 : decode cX3_turned 14 = .ok (.iaload, 1) := by decide +kernel
theorem dX3_turned_15 : decode cX3_turned 15 = .ok (.iload 4, 2) := by decide +kernel
theorem dX3_turned_17 : decode cX3_turned 17 = .ok (.ifCond .ne 7, 3) := by decide +kernel
theorem dX3_turned_20 : decode cX3_turned 20 = .ok (.iload_n 3, 1) := by decide +kernel
theorem dX3_turned_21 : decode cX3_turned 21 = .ok (.goto 27, 3) := by decide +kernel
theorem dX3_turned_24 : decode cX3_turned 24 = .ok (.iload 4, 2) := by decide +kernel
theorem dX3_turned_26 : decode cX3_turned 26 = .ok (.iconst 1, 1) := by decide +kernel
theorem dX3_turned_27 : decode cX3_turned 27 = .ok (.if_icmp .ne 8, 3) := by decide +kernel
theorem dX3_turned_30 : decode cX3_turned 30 = .ok (.iload_n 2, 1) := by decide +kernel
theorem dX3_turned_31 : decode cX3_turned 31 = .ok (.ineg, 1) := by decide +kernel
theorem dX3_turned_32 : decode cX3_turned 32 = .ok (.goto 16, 3) := by decide +kernel
theorem dX3_turned_35 : decode cX3_turned 35 = .ok (.iload 4, 2) := by decide +kernel
theorem dX3_turned_37 : decode cX3_turned 37 = .ok (.iconst 2, 1) := by decide +kernel
theorem dX3_turned_38 : decode cX3_turned 38 = .ok (.if_icmp .ne 7, 3) := by decide +kernel
theorem dX3_turned_41 : decode cX3_turned 41 = .ok (.iload_n 2, 1) := by decide +kernel
theorem dX3_turned_42 : decode cX3_turned 42 = .ok (.goto 6, 3) := by decide +kernel
theorem dX3_turned_45 : decode cX3_turned 45 = .ok (.iload_n 2, 1) := by decide +kernel
theorem dX3_turned_46 : decode cX3_turned 46 = .ok (.iload_n 3, 1) := by decide +kernel
theorem dX3_turned_47 : decode cX3_turned 47 = .ok (.imul, 1) := by decide +kernel
theorem dX3_turned_48 : decode cX3_turned 48 = .ok (.iload 4, 2) := by decide +kernel
theorem dX3_turned_50 : decode cX3_turned 50 = .ok (.ifCond .ne 7, 3) := by decide +kernel
theorem dX3_turned_53 : decode cX3_turned 53 = .ok (.iload_n 2, 1) := by decide +kernel
theorem dX3_turned_54 : decode cX3_turned 54 = .ok (.goto 27, 3) := by decide +kernel
theorem dX3_turned_57 : decode cX3_turned 57 = .ok (.iload 4, 2) := by decide +kernel
theorem dX3_turned_59 : decode cX3_turned 59 = .ok (.iconst 1, 1) := by decide +kernel
theorem dX3_turned_60 : decode cX3_turned 60 = .ok (.if_icmp .ne 7, 3) := by decide +kernel
theorem dX3_turned_63 : decode cX3_turned 63 = .ok (.iload_n 3, 1) := by decide +kernel
theorem dX3_turned_64 : decode cX3_turned 64 = .ok (.goto 17, 3) := by decide +kernel
theorem dX3_turned_67 : decode cX3_turned 67 = .ok (.iload 4, 2) := by decide +kernel
theorem dX3_turned_69 : decode cX3_turned 69 = .ok (.iconst 2, 1) := by decide +kernel
theorem dX3_turned_70 : decode cX3_turned 70 = .ok (.if_icmp .ne 8, 3) := by decide +kernel
theorem dX3_turned_73 : decode cX3_turned 73 = .ok (.iload_n 3, 1) := by decide +kernel
theorem dX3_turned_74 : decode cX3_turned 74 = .ok (.ineg, 1) := by decide +kernel
theorem dX3_turned_75 : decode cX3_turned 75 = .ok (.goto 6, 3) := by decide +kernel
theorem dX3_turned_78 : decode cX3_turned 78 = .ok (.iload_n 2, 1) := by decide +kernel
theorem dX3_turned_79 : decode cX3_turned 79 = .ok (.iload_n 3, 1) := by decide +kernel
theorem dX3_turned_80 : decode cX3_turned 80 = .ok (.iadd, 1) := by decide +kernel
theorem dX3_turned_81 : decode cX3_turned 81 = .ok (.invokevirtual 101, 3) := by decide +kernel
theorem dX3_turned_84 : decode cX3_turned 84 = .ok (.return_, 1) := by decide +kernel
theorem dX3_begins_0 : decode cX3_begins 0 = .ok (.aload_n 0, 1) := by decide +kernel
theorem dX3_begins_1 : decode cX3_begins 1 = .ok (.getfield 7, 3) := by decide +kernel
theorem dX3_begins_4 : decode cX3_begins 4 = .ok (.iload_n 1, 1) := by decide +kernel
theorem dX3_begins_5 : decode cX3_begins 5 = .ok (.iaload, 1) := by decide +kernel
theorem dX3_begins_6 : decode cX3_begins 6 = .ok (.tableswitch 202 3 13 #[58, 87, 202, 202, 202, 202, 97, 117, 202, 202, 187], 58) := by decide +kernel
theorem dX3_begins_64 : decode cX3_begins 64 = .ok (.aload_n 0, 1) := by decide +kernel
theorem dX3_begins_65 : decode cX3_begins 65 = .ok (.aload_n 0, 1) := by decide +kernel
theorem dX3_begins_66 : decode cX3_begins 66 = .ok (.getfield 13, 3) := by decide +kernel
theorem dX3_begins_69 : decode cX3_begins 69 = .ok (.iload_n 1, 1) := by decide +kernel
theorem dX3_begins_70 : decode cX3_begins 70 = .ok (.iaload, 1) := by decide +kernel
theorem dX3_begins_71 : decode cX3_begins 71 = .ok (.iload_n 2, 1) := by decide +kernel
theorem dX3_begins_72 : decode cX3_begins 72 = .ok (.aload_n 0, 1) := by decide +kernel
theorem dX3_begins_73 : decode cX3_begins 73 = .ok (.getfield 16, 3) := by decide +kernel
theorem dX3_begins_76 : decode cX3_begins 76 = .ok (.iload_n 1, 1) := by decide +kernel
theorem dX3_begins_77 : decode cX3_begins 77 = .ok (.iaload, 1) := by decide +kernel
theorem dX3_begins_78 : decode cX3_begins 78 = .ok (.isub, 1) := by decide +kernel
theorem dX3_begins_79 : decode cX3_begins 79 = .ok (.iload_n 3, 1) := by decide +kernel
theorem dX3_begins_80 : decode cX3_begins 80 = .ok (.aload_n 0, 1) := by decide +kernel
theorem dX3_begins_81 : decode cX3_begins 81 = .ok (.getfield 19, 3) := by decide +kernel
theorem dX3_begins_84 : decode cX3_begins 84 = .ok (.iload_n 1, 1) := by decide +kernel
theorem dX3_begins_85 : decode cX3_begins 85 = .ok (.iaload, 1) := by decide +kernel
theorem dX3_begins_86 : decode cX3_begins 86 = .ok (.isub, 1) := by decide +kernel
theorem dX3_begins_87 : decode cX3_begins 87 = .ok (.invokevirtual 101, 3) := by decide +kernel
theorem dX3_begins_90 : decode cX3_begins 90 = .ok (.goto 130, 3) := by decide +kernel
theorem dX3_begins_93 : decode cX3_begins 93 = .ok (.aload_n 0, 1) := by decide +kernel
theorem dX3_begins_94 : decode cX3_begins 94 = .ok (.iload_n 1, 1) := by decide +kernel
theorem dX3_begins_95 : decode cX3_begins 95 = .ok (.iload_n 2, 1) := by decide +kernel
theorem dX3_begins_96 : decode cX3_begins 96 = .ok (.iload_n 3, 1) := by decide +kernel
theorem dX3_begins_97 : decode cX3_begins 97 = .ok (.invokevirtual 104, 3) := by decide +kernel
theorem dX3_begins_100 : decode cX3_begins 100 = .ok (.goto 120, 3) := by decide +kernel
theorem dX3_begins_103 : decode cX3_begins 103 = .ok (.aload_n 0, 1) := by decide +kernel
theorem dX3_begins_104 : decode cX3_begins 104 = .ok (.aload_n 0, 1) := by decide +kernel
theorem dX3_begins_105 : decode cX3_begins 105 = .ok (.getfield 34, 3) := by decide +kernel
theorem dX3_begins_108 : decode cX3_begins 108 = .ok (.aload_n 0, 1) := by decide +kernel
theorem dX3_begins_109 : decode cX3_begins 109 = .ok (.getfield 13, 3) := by decide +kernel
theorem dX3_begins_112 : decode cX3_begins 112 = .ok (.iload_n 1, 1) := by decide +kernel
theorem dX3_begins_113 : decode cX3_begins 113 = .ok (.iaload, 1) := by decide +kernel
theorem dX3_begins_114 : decode cX3_begins 114 = .ok (.iaload, 1) := by decide +kernel
theorem dX3_begins_115 : decode cX3_begins 115 = .ok (.iload_n 2, 1) := by decide +kernel
theorem dX3_begins_116 : decode cX3_begins 116 = .ok (.iload_n 3, 1) := by decide +kernel
theorem dX3_begins_117 : decode cX3_begins 117 = .ok (.invokevirtual 101, 3) := by decide +kernel
theorem dX3_begins_120 : decode cX3_begins 120 = .ok (.goto 100, 3) := by decide +kernel
theorem dX3_begins_123 : decode cX3_begins 123 = .ok (.aload_n 0, 1) := by decide +kernel
theorem dX3_begins_124 : decode cX3_begins 124 = .ok (.getfield 28, 3) := by decide +kernel
theorem dX3_begins_127 : decode cX3_begins 127 = .ok (.iload_n 1, 1) := by decide +kernel
theorem dX3_begins_128 : decode cX3_begins 128 = .ok (.dup2, 1) := by decide +kernel
theorem dX3_begins_129 : decode cX3_begins 129 = .ok (.iaload, 1) := by decide +kernel
theorem dX3_begins_130 : decode cX3_begins 130 = .ok (.iconst 1, 1) := by decide +kernel
theorem dX3_begins_131 : decode cX3_begins 131 = .ok (.iadd, 1) := by decide +kernel
theorem dX3_begins_132 : decode cX3_begins 132 = .ok (.iastore, 1) := by decide +kernel
theorem dX3_begins_133 : decode cX3_begins 133 = .ok (.aload_n 0, 1) := by decide +kernel
theorem dX3_begins_134 : decode cX3_begins 134 = .ok (.getfield 28, 3) := by decide +kernel
theorem dX3_begins_137 : decode cX3_begins 137 = .ok (.iload_n 1, 1) := by decide +kernel
theorem dX3_begins_138 : decode cX3_begins 138 = .ok (.iaload, 1) := by decide +kernel
theorem dX3_begins_139 : decode cX3_begins 139 = .ok (.aload_n 0, 1) := by decide +kernel
theorem dX3_begins_140 : decode cX3_begins 140 = .ok (.getfield 16, 3) := by decide +kernel
theorem dX3_begins_143 : decode cX3_begins 143 = .ok (.iload_n 1, 1) := by decide +kernel
theorem dX3_begins_144 : decode cX3_begins 144 = .ok (.iaload, 1) := by decide +kernel
theorem dX3_begins_145 : decode cX3_begins 145 = .ok (.if_icmp .ne 33, 3) := by decide +kernel
theorem dX3_begins_148 : decode cX3_begins 148 = .ok (.aload_n 0, 1) := by decide +kernel
theorem dX3_begins_149 : decode cX3_begins 149 = .ok (.getfield 28, 3) := by decide +kernel
theorem dX3_begins_152 : decode cX3_begins 152 = .ok (.iload_n 1, 1) := by decide +kernel
theorem dX3_begins_153 : decode cX3_begins 153 = .ok (.iconst 0, 1) := by decide +kernel
theorem dX3_begins_154 : decode cX3_begins 154 = .ok (.iastore, 1) := by decide +kernel
theorem dX3_begins_155 : decode cX3_begins 155 = .ok (.aload_n 0, 1) := by decide +kernel
theorem dX3_begins_156 : decode cX3_begins 156 = .ok (.dup, 1) := by decide +kernel
theorem dX3_begins_157 : decode cX3_begins 157 = .ok (.getfield 107, 3) := by decide +kernel
theorem dX3_begins_160 : decode cX3_begins 160 = .ok (.iconst 1, 1) := by decide +kernel
theorem dX3_begins_161 : decode cX3_begins 161 = .ok (.iadd, 1) := by decide +kernel
theorem dX3_begins_162 : decode cX3_begins 162 = .ok (.putfield 107, 3) := by decide +kernel
theorem dX3_begins_165 : decode cX3_begins 165 = .ok (.aload_n 0, 1) := by decide +kernel
theorem dX3_begins_166 : decode cX3_begins 166 = .ok (.aload_n 0, 1) := by decide +kernel
theorem dX3_begins_167 : decode cX3_begins 167 = .ok (.getfield 19, 3) := by decide +kernel
theorem dX3_begins_170 : decode cX3_begins 170 = .ok (.iload_n 1, 1) := by decide +kernel
theorem dX3_begins_171 : decode cX3_begins 171 = .ok (.iaload, 1) := by decide +kernel
theorem dX3_begins_172 : decode cX3_begins 172 = .ok (.invokevirtual 86, 3) := by decide +kernel
theorem dX3_begins_175 : decode cX3_begins 175 = .ok (.goto 45, 3) := by decide +kernel
theorem dX3_begins_178 : decode cX3_begins 178 = .ok (.aload_n 0, 1) := by decide +kernel
theorem dX3_begins_179 : decode cX3_begins 179 = .ok (.aload_n 0, 1) := by decide +kernel
theorem dX3_begins_180 : decode cX3_begins 180 = .ok (.getfield 13, 3) := by decide +kernel
theorem dX3_begins_183 : decode cX3_begins 183 = .ok (.iload_n 1, 1) := by decide +kernel
theorem dX3_begins_184 : decode cX3_begins 184 = .ok (.iaload, 1) := by decide +kernel
theorem dX3_begins_185 : decode cX3_begins 185 = .ok (.iload_n 2, 1) := by decide +kernel
theorem dX3_begins_186 : decode cX3_begins 186 = .ok (.iload_n 3, 1) := by decide +kernel
theorem dX3_begins_187 : decode cX3_begins 187 = .ok (.invokevirtual 101, 3) := by decide +kernel
theorem dX3_begins_190 : decode cX3_begins 190 = .ok (.goto 30, 3) := by decide +kernel
theorem dX3_begins_193 : decode cX3_begins 193 = .ok (.aload_n 0, 1) := by decide +kernel
theorem dX3_begins_194 : decode cX3_begins 194 = .ok (.aload_n 0, 1) := by decide +kernel
theorem dX3_begins_195 : decode cX3_begins 195 = .ok (.getfield 25, 3) := by decide +kernel
theorem dX3_begins_198 : decode cX3_begins 198 = .ok (.iload_n 1, 1) := by decide +kernel
theorem dX3_begins_199 : decode cX3_begins 199 = .ok (.iaload, 1) := by decide +kernel
theorem dX3_begins_200 : decode cX3_begins 200 = .ok (.iload_n 2, 1) := by decide +kernel
theorem dX3_begins_201 : decode cX3_begins 201 = .ok (.iload_n 3, 1) := by decide +kernel
theorem dX3_begins_202 : decode cX3_begins 202 = .ok (.invokevirtual 101, 3) := by decide +kernel
theorem dX3_begins_205 : decode cX3_begins 205 = .ok (.goto 15, 3) := by decide +kernel
theorem dX3_begins_208 : decode cX3_begins 208 = .ok (.aload_n 0, 1) := by decide +kernel
theorem dX3_begins_209 : decode cX3_begins 209 = .ok (.aload_n 0, 1) := by decide +kernel
theorem dX3_begins_210 : decode cX3_begins 210 = .ok (.getfield 13, 3) := by decide +kernel
theorem dX3_begins_213 : decode cX3_begins 213 = .ok (.iload_n 1, 1) := by decide +kernel
theorem dX3_begins_214 : decode cX3_begins 214 = .ok (.iaload, 1) := by decide +kernel
theorem dX3_begins_215 : decode cX3_begins 215 = .ok (.iload_n 2, 1) := by decide +kernel
theorem dX3_begins_216 : decode cX3_begins 216 = .ok (.iload_n 3, 1) := by decide +kernel
theorem dX3_begins_217 : decode cX3_begins 217 = .ok (.invokevirtual 101, 3) := by decide +kernel
theorem dX3_begins_220 : decode cX3_begins 220 = .ok (.return_, 1) := by decide +kernel
theorem dX3_goesOn_0 : decode cX3_goesOn 0 = .ok (.aload_n 0, 1) := by decide +kernel
theorem dX3_goesOn_1 : decode cX3_goesOn 1 = .ok (.getfield 7, 3) := by decide +kernel
theorem dX3_goesOn_4 : decode cX3_goesOn 4 = .ok (.iload_n 2, 1) := by decide +kernel
theorem dX3_goesOn_5 : decode cX3_goesOn 5 = .ok (.iaload, 1) := by decide +kernel
theorem dX3_goesOn_6 : decode cX3_goesOn 6 = .ok (.istore_n 3, 1) := by decide +kernel
theorem dX3_goesOn_7 : decode cX3_goesOn 7 = .ok (.aload_n 0, 1) := by decide +kernel
theorem dX3_goesOn_8 : decode cX3_goesOn 8 = .ok (.getfield 46, 3) := by decide +kernel
theorem dX3_goesOn_11 : decode cX3_goesOn 11 = .ok (.iload_n 1, 1) := by decide +kernel
theorem dX3_goesOn_12 : decode cX3_goesOn 12 = .ok (.iaload, 1) := by decide +kernel
theorem dX3_goesOn_13 : decode cX3_goesOn 13 = .ok (.iconst 2, 1) := by decide +kernel
theorem dX3_goesOn_14 : decode cX3_goesOn 14 = .ok (.isub, 1) := by decide +kernel
theorem dX3_goesOn_15 : decode cX3_goesOn 15 = .ok (.istore 4, 2) := by decide +kernel
theorem dX3_goesOn_17 : decode cX3_goesOn 17 = .ok (.aload_n 0, 1) := by decide +kernel
theorem dX3_goesOn_18 : decode cX3_goesOn 18 = .ok (.getfield 83, 3) := by decide +kernel
theorem dX3_goesOn_21 : decode cX3_goesOn 21 = .ok (.istore 5, 2) := by decide +kernel
theorem dX3_goesOn_23 : decode cX3_goesOn 23 = .ok (.iload_n 3, 1) := by decide +kernel
theorem dX3_goesOn_24 : decode cX3_goesOn 24 = .ok (.iconst 5, 1) := by decide +kernel
theorem dX3_goesOn_25 : decode cX3_goesOn 25 = .ok (.if_icmp .ne 38, 3) := by decide +kernel
theorem dX3_goesOn_28 : decode cX3_goesOn 28 = .ok (.iload 4, 2) := by decide +kernel
theorem dX3_goesOn_30 : decode cX3_goesOn 30 = .ok (.ifCond .ne 33, 3) := by decide +kernel
theorem dX3_goesOn_33 : decode cX3_goesOn 33 = .ok (.iload 5, 2) := by decide +kernel
theorem dX3_goesOn_35 : decode cX3_goesOn 35 = .ok (.ifCond .ne 28, 3) := by decide +kernel
theorem dX3_goesOn_38 : decode cX3_goesOn 38 = .ok (.aload_n 0, 1) := by decide +kernel
theorem dX3_goesOn_39 : decode cX3_goesOn 39 = .ok (.aload_n 0, 1) := by decide +kernel
theorem dX3_goesOn_40 : decode cX3_goesOn 40 = .ok (.getfield 16, 3) := by decide +kernel
theorem dX3_goesOn_43 : decode cX3_goesOn 43 = .ok (.iload_n 2, 1) := by decide +kernel
theorem dX3_goesOn_44 : decode cX3_goesOn 44 = .ok (.iaload, 1) := by decide +kernel
theorem dX3_goesOn_45 : decode cX3_goesOn 45 = .ok (.aload_n 0, 1) := by decide +kernel
theorem dX3_goesOn_46 : decode cX3_goesOn 46 = .ok (.getfield 40, 3) := by decide +kernel
theorem dX3_goesOn_49 : decode cX3_goesOn 49 = .ok (.iload_n 1, 1) := by decide +kernel
theorem dX3_goesOn_50 : decode cX3_goesOn 50 = .ok (.iaload, 1) := by decide +kernel
theorem dX3_goesOn_51 : decode cX3_goesOn 51 = .ok (.aload_n 0, 1) := by decide +kernel
theorem dX3_goesOn_52 : decode cX3_goesOn 52 = .ok (.getfield 43, 3) := by decide +kernel
theorem dX3_goesOn_55 : decode cX3_goesOn 55 = .ok (.iload_n 1, 1) := by decide +kernel
theorem dX3_goesOn_56 : decode cX3_goesOn 56 = .ok (.iaload, 1) := by decide +kernel
theorem dX3_goesOn_57 : decode cX3_goesOn 57 = .ok (.invokevirtual 101, 3) := by decide +kernel
theorem dX3_goesOn_60 : decode cX3_goesOn 60 = .ok (.goto 225, 3) := by decide +kernel
theorem dX3_goesOn_63 : decode cX3_goesOn 63 = .ok (.iload_n 3, 1) := by decide +kernel
theorem dX3_goesOn_64 : decode cX3_goesOn 64 = .ok (.bipush 6, 2) := by decide +kernel
theorem dX3_goesOn_66 : decode cX3_goesOn 66 = .ok (.if_icmp .ne 47, 3) := by decide +kernel
theorem dX3_goesOn_69 : decode cX3_goesOn 69 = .ok (.iload 4, 2) := by decide +kernel
theorem dX3_goesOn_71 : decode cX3_goesOn 71 = .ok (.ifCond .ne 42, 3) := by decide +kernel
theorem dX3_goesOn_74 : decode cX3_goesOn 74 = .ok (.aload_n 0, 1) := by decide +kernel
theorem dX3_goesOn_75 : decode cX3_goesOn 75 = .ok (.iload 5, 2) := by decide +kernel
theorem dX3_goesOn_77 : decode cX3_goesOn 77 = .ok (.ifCond .le 12, 3) := by decide +kernel
theorem dX3_goesOn_80 : decode cX3_goesOn 80 = .ok (.aload_n 0, 1) := by decide +kernel
theorem dX3_goesOn_81 : decode cX3_goesOn 81 = .ok (.getfield 16, 3) := by decide +kernel
theorem dX3_goesOn_84 : decode cX3_goesOn 84 = .ok (.iload_n 2, 1) := by decide +kernel
theorem dX3_goesOn_85 : decode cX3_goesOn 85 = .ok (.iaload, 1) := by decide +kernel
theorem dX3_goesOn_86 : decode cX3_goesOn 86 = .ok (.goto 9, 3) := by decide +kernel
theorem dX3_goesOn_89 : decode cX3_goesOn 89 = .ok (.aload_n 0, 1) := by decide +kernel
theorem dX3_goesOn_90 : decode cX3_goesOn 90 = .ok (.getfield 19, 3) := by decide +kernel
theorem dX3_goesOn_93 : decode cX3_goesOn 93 = .ok (.iload_n 2, 1) := by decide +kernel
theorem dX3_goesOn_94 : decode cX3_goesOn 94 = .ok (.iaload, 1) := by decide +kernel
theorem dX3_goesOn_95 : decode cX3_goesOn 95 = .ok (.aload_n 0, 1) := by decide +kernel
theorem dX3_goesOn_96 : decode cX3_goesOn 96 = .ok (.getfield 40, 3) := by decide +kernel
theorem dX3_goesOn_99 : decode cX3_goesOn 99 = .ok (.iload_n 1, 1) := by decide +kernel
theorem dX3_goesOn_100 : decode cX3_goesOn 100 = .ok (.iaload, 1) := by decide +kernel
theorem dX3_goesOn_101 : decode cX3_goesOn 101 = .ok (.aload_n 0, 1) := by decide +kernel
theorem dX3_goesOn_102 : decode cX3_goesOn 102 = .ok (.getfield 43, 3) := by decide +kernel
theorem dX3_goesOn_105 : decode cX3_goesOn 105 = .ok (.iload_n 1, 1) := by decide +kernel
theorem dX3_goesOn_106 : decode cX3_goesOn 106 = .ok (.iaload, 1) := by decide +kernel
theorem dX3_goesOn_107 : decode cX3_goesOn 107 = .ok (.invokevirtual 101, 3) := by decide +kernel
theorem dX3_goesOn_110 : decode cX3_goesOn 110 = .ok (.goto 175, 3) := by decide +kernel
theorem dX3_goesOn_113 : decode cX3_goesOn 113 = .ok (.iload_n 3, 1) := by decide +kernel
theorem dX3_goesOn_114 : decode cX3_goesOn 114 = .ok (.bipush 7, 2) := by decide +kernel
theorem dX3_goesOn_116 : decode cX3_goesOn 116 = .ok (.if_icmp .ne 25, 3) := by decide +kernel
theorem dX3_goesOn_119 : decode cX3_goesOn 119 = .ok (.aload_n 0, 1) := by decide +kernel
theorem dX3_goesOn_120 : decode cX3_goesOn 120 = .ok (.iload 5, 2) := by decide +kernel
theorem dX3_goesOn_122 : decode cX3_goesOn 122 = .ok (.aload_n 0, 1) := by decide +kernel
theorem dX3_goesOn_123 : decode cX3_goesOn 123 = .ok (.aload_n 0, 1) := by decide +kernel
theorem dX3_goesOn_124 : decode cX3_goesOn 124 = .ok (.getfield 16, 3) := by decide +kernel
theorem dX3_goesOn_127 : decode cX3_goesOn 127 = .ok (.iload_n 2, 1) := by decide +kernel
theorem dX3_goesOn_128 : decode cX3_goesOn 128 = .ok (.iaload, 1) := by decide +kernel
theorem dX3_goesOn_129 : decode cX3_goesOn 129 = .ok (.iload 5, 2) := by decide +kernel
theorem dX3_goesOn_131 : decode cX3_goesOn 131 = .ok (.invokevirtual 90, 3) := by decide +kernel
theorem dX3_goesOn_134 : decode cX3_goesOn 134 = .ok (.iconst 0, 1) := by decide +kernel
theorem dX3_goesOn_135 : decode cX3_goesOn 135 = .ok (.invokevirtual 94, 3) := by decide +kernel
theorem dX3_goesOn_138 : decode cX3_goesOn 138 = .ok (.goto 147, 3) := by decide +kernel
theorem dX3_goesOn_141 : decode cX3_goesOn 141 = .ok (.iload_n 3, 1) := by decide +kernel
theorem dX3_goesOn_142 : decode cX3_goesOn 142 = .ok (.bipush 8, 2) := by decide +kernel
theorem dX3_goesOn_144 : decode cX3_goesOn 144 = .ok (.if_icmp .ne 40, 3) := by decide +kernel
theorem dX3_goesOn_147 : decode cX3_goesOn 147 = .ok (.aload_n 0, 1) := by decide +kernel
theorem dX3_goesOn_148 : decode cX3_goesOn 148 = .ok (.iload 5, 2) := by decide +kernel
theorem dX3_goesOn_150 : decode cX3_goesOn 150 = .ok (.iload 5, 2) := by decide +kernel
theorem dX3_goesOn_152 : decode cX3_goesOn 152 = .ok (.iconst 0, 1) := by decide +kernel
theorem dX3_goesOn_153 : decode cX3_goesOn 153 = .ok (.bipush 7, 2) := by decide +kernel
theorem dX3_goesOn_155 : decode cX3_goesOn 155 = .ok (.invokestatic 59, 3) := by decide +kernel
theorem dX3_goesOn_158 : decode cX3_goesOn 158 = .ok (.ifCond .eq 18, 3) := by decide +kernel
theorem dX3_goesOn_161 : decode cX3_goesOn 161 = .ok (.aload_n 0, 1) := by decide +kernel
theorem dX3_goesOn_162 : decode cX3_goesOn 162 = .ok (.getfield 22, 3) := by decide +kernel
theorem dX3_goesOn_165 : decode cX3_goesOn 165 = .ok (.bipush 8, 2) := by decide +kernel
theorem dX3_goesOn_167 : decode cX3_goesOn 167 = .ok (.iload_n 2, 1) := by decide +kernel
theorem dX3_goesOn_168 : decode cX3_goesOn 168 = .ok (.imul, 1) := by decide +kernel
theorem dX3_goesOn_169 : decode cX3_goesOn 169 = .ok (.iload 5, 2) := by decide +kernel
theorem dX3_goesOn_171 : decode cX3_goesOn 171 = .ok (.iadd, 1) := by decide +kernel
theorem dX3_goesOn_172 : decode cX3_goesOn 172 = .ok (.iaload, 1) := by decide +kernel
theorem dX3_goesOn_173 : decode cX3_goesOn 173 = .ok (.goto 4, 3) := by decide +kernel
theorem dX3_goesOn_176 : decode cX3_goesOn 176 = .ok (.iconst 0, 1) := by decide +kernel
theorem dX3_goesOn_177 : decode cX3_goesOn 177 = .ok (.iconst 0, 1) := by decide +kernel
theorem dX3_goesOn_178 : decode cX3_goesOn 178 = .ok (.invokevirtual 94, 3) := by decide +kernel
theorem dX3_goesOn_181 : decode cX3_goesOn 181 = .ok (.goto 104, 3) := by decide +kernel
theorem dX3_goesOn_184 : decode cX3_goesOn 184 = .ok (.iload_n 3, 1) := by decide +kernel
theorem dX3_goesOn_185 : decode cX3_goesOn 185 = .ok (.bipush 9, 2) := by decide +kernel
theorem dX3_goesOn_187 : decode cX3_goesOn 187 = .ok (.if_icmp .ne 19, 3) := by decide +kernel
theorem dX3_goesOn_190 : decode cX3_goesOn 190 = .ok (.aload_n 0, 1) := by decide +kernel
theorem dX3_goesOn_191 : decode cX3_goesOn 191 = .ok (.iload 5, 2) := by decide +kernel
theorem dX3_goesOn_193 : decode cX3_goesOn 193 = .ok (.aload_n 0, 1) := by decide +kernel
theorem dX3_goesOn_194 : decode cX3_goesOn 194 = .ok (.getfield 16, 3) := by decide +kernel
theorem dX3_goesOn_197 : decode cX3_goesOn 197 = .ok (.iload_n 2, 1) := by decide +kernel
theorem dX3_goesOn_198 : decode cX3_goesOn 198 = .ok (.iaload, 1) := by decide +kernel
theorem dX3_goesOn_199 : decode cX3_goesOn 199 = .ok (.iadd, 1) := by decide +kernel
theorem dX3_goesOn_200 : decode cX3_goesOn 200 = .ok (.invokevirtual 86, 3) := by decide +kernel
theorem dX3_goesOn_203 : decode cX3_goesOn 203 = .ok (.goto 82, 3) := by decide +kernel
theorem dX3_goesOn_206 : decode cX3_goesOn 206 = .ok (.iload_n 3, 1) := by decide +kernel
theorem dX3_goesOn_207 : decode cX3_goesOn 207 = .ok (.bipush 11, 2) := by decide +kernel
theorem dX3_goesOn_209 : decode cX3_goesOn 209 = .ok (.if_icmp .ne 41, 3) := by decide +kernel
theorem dX3_goesOn_212 : decode cX3_goesOn 212 = .ok (.iload 4, 2) := by decide +kernel
theorem dX3_goesOn_214 : decode cX3_goesOn 214 = .ok (.ifCond .ne 36, 3) := by decide +kernel
theorem dX3_goesOn_217 : decode cX3_goesOn 217 = .ok (.aload_n 0, 1) := by decide +kernel
theorem dX3_goesOn_218 : decode cX3_goesOn 218 = .ok (.getfield 49, 3) := by decide +kernel
theorem dX3_goesOn_221 : decode cX3_goesOn 221 = .ok (.iload_n 1, 1) := by decide +kernel
theorem dX3_goesOn_222 : decode cX3_goesOn 222 = .ok (.iload 5, 2) := by decide +kernel
theorem dX3_goesOn_224 : decode cX3_goesOn 224 = .ok (.iastore, 1) := by decide +kernel
theorem dX3_goesOn_225 : decode cX3_goesOn 225 = .ok (.aload_n 0, 1) := by decide +kernel
theorem dX3_goesOn_226 : decode cX3_goesOn 226 = .ok (.aload_n 0, 1) := by decide +kernel
theorem dX3_goesOn_227 : decode cX3_goesOn 227 = .ok (.getfield 16, 3) := by decide +kernel
theorem dX3_goesOn_230 : decode cX3_goesOn 230 = .ok (.iload_n 2, 1) := by decide +kernel
theorem dX3_goesOn_231 : decode cX3_goesOn 231 = .ok (.iaload, 1) := by decide +kernel
theorem dX3_goesOn_232 : decode cX3_goesOn 232 = .ok (.aload_n 0, 1) := by decide +kernel
theorem dX3_goesOn_233 : decode cX3_goesOn 233 = .ok (.getfield 40, 3) := by decide +kernel
theorem dX3_goesOn_236 : decode cX3_goesOn 236 = .ok (.iload_n 1, 1) := by decide +kernel
theorem dX3_goesOn_237 : decode cX3_goesOn 237 = .ok (.iaload, 1) := by decide +kernel
theorem dX3_goesOn_238 : decode cX3_goesOn 238 = .ok (.aload_n 0, 1) := by decide +kernel
theorem dX3_goesOn_239 : decode cX3_goesOn 239 = .ok (.getfield 43, 3) := by decide +kernel
theorem dX3_goesOn_242 : decode cX3_goesOn 242 = .ok (.iload_n 1, 1) := by decide +kernel
theorem dX3_goesOn_243 : decode cX3_goesOn 243 = .ok (.iaload, 1) := by decide +kernel
theorem dX3_goesOn_244 : decode cX3_goesOn 244 = .ok (.invokevirtual 101, 3) := by decide +kernel
theorem dX3_goesOn_247 : decode cX3_goesOn 247 = .ok (.goto 38, 3) := by decide +kernel
theorem dX3_goesOn_250 : decode cX3_goesOn 250 = .ok (.iload_n 3, 1) := by decide +kernel
theorem dX3_goesOn_251 : decode cX3_goesOn 251 = .ok (.bipush 11, 2) := by decide +kernel
theorem dX3_goesOn_253 : decode cX3_goesOn 253 = .ok (.if_icmp .ne 26, 3) := by decide +kernel
theorem dX3_goesOn_256 : decode cX3_goesOn 256 = .ok (.aload_n 0, 1) := by decide +kernel
theorem dX3_goesOn_257 : decode cX3_goesOn 257 = .ok (.aload_n 0, 1) := by decide +kernel
theorem dX3_goesOn_258 : decode cX3_goesOn 258 = .ok (.getfield 49, 3) := by decide +kernel
theorem dX3_goesOn_261 : decode cX3_goesOn 261 = .ok (.iload_n 1, 1) := by decide +kernel
theorem dX3_goesOn_262 : decode cX3_goesOn 262 = .ok (.iaload, 1) := by decide +kernel
theorem dX3_goesOn_263 : decode cX3_goesOn 263 = .ok (.aload_n 0, 1) := by decide +kernel
theorem dX3_goesOn_264 : decode cX3_goesOn 264 = .ok (.getfield 19, 3) := by decide +kernel
theorem dX3_goesOn_267 : decode cX3_goesOn 267 = .ok (.iload_n 2, 1) := by decide +kernel
theorem dX3_goesOn_268 : decode cX3_goesOn 268 = .ok (.iaload, 1) := by decide +kernel
theorem dX3_goesOn_269 : decode cX3_goesOn 269 = .ok (.iload 5, 2) := by decide +kernel
theorem dX3_goesOn_271 : decode cX3_goesOn 271 = .ok (.imul, 1) := by decide +kernel
theorem dX3_goesOn_272 : decode cX3_goesOn 272 = .ok (.iadd, 1) := by decide +kernel
theorem dX3_goesOn_273 : decode cX3_goesOn 273 = .ok (.invokevirtual 86, 3) := by decide +kernel
theorem dX3_goesOn_276 : decode cX3_goesOn 276 = .ok (.goto 9, 3) := by decide +kernel
theorem dX3_goesOn_279 : decode cX3_goesOn 279 = .ok (.aload_n 0, 1) := by decide +kernel
theorem dX3_goesOn_280 : decode cX3_goesOn 280 = .ok (.iload 5, 2) := by decide +kernel
theorem dX3_goesOn_282 : decode cX3_goesOn 282 = .ok (.invokevirtual 86, 3) := by decide +kernel
theorem dX3_goesOn_285 : decode cX3_goesOn 285 = .ok (.return_, 1) := by decide +kernel
theorem dX3_falls_0 : decode cX3_falls 0 = .ok (.aload_n 0, 1) := by decide +kernel
theorem dX3_falls_1 : decode cX3_falls 1 = .ok (.dup, 1) := by decide +kernel
theorem dX3_falls_2 : decode cX3_falls 2 = .ok (.getfield 80, 3) := by decide +kernel
theorem dX3_falls_5 : decode cX3_falls 5 = .ok (.iconst 1, 1) := by decide +kernel
theorem dX3_falls_6 : decode cX3_falls 6 = .ok (.isub, 1) := by decide +kernel
theorem dX3_falls_7 : decode cX3_falls 7 = .ok (.putfield 80, 3) := by decide +kernel
theorem dX3_falls_10 : decode cX3_falls 10 = .ok (.aload_n 0, 1) := by decide +kernel
theorem dX3_falls_11 : decode cX3_falls 11 = .ok (.getfield 37, 3) := by decide +kernel
theorem dX3_falls_14 : decode cX3_falls 14 = .ok (.aload_n 0, 1) := by decide +kernel
theorem dX3_falls_15 : decode cX3_falls 15 = .ok (.getfield 80, 3) := by decide +kernel
theorem dX3_falls_18 : decode cX3_falls 18 = .ok (.iaload, 1) := by decide +kernel
theorem dX3_falls_19 : decode cX3_falls 19 = .ok (.istore_n 1, 1) := by decide +kernel
theorem dX3_falls_20 : decode cX3_falls 20 = .ok (.iload_n 1, 1) := by decide +kernel
theorem dX3_falls_21 : decode cX3_falls 21 = .ok (.ifCond .lt 57, 3) := by decide +kernel
theorem dX3_falls_24 : decode cX3_falls 24 = .ok (.aload_n 0, 1) := by decide +kernel
theorem dX3_falls_25 : decode cX3_falls 25 = .ok (.getfield 7, 3) := by decide +kernel
theorem dX3_falls_28 : decode cX3_falls 28 = .ok (.iload_n 1, 1) := by decide +kernel
theorem dX3_falls_29 : decode cX3_falls 29 = .ok (.iaload, 1) := by decide +kernel
theorem dX3_falls_30 : decode cX3_falls 30 = .ok (.bipush 12, 2) := by decide +kernel
theorem dX3_falls_32 : decode cX3_falls 32 = .ok (.if_icmp .ne 46, 3) := by decide +kernel
theorem dX3_falls_35 : decode cX3_falls 35 = .ok (.aload_n 0, 1) := by decide +kernel
theorem dX3_falls_36 : decode cX3_falls 36 = .ok (.getfield 77, 3) := by decide +kernel
theorem dX3_falls_39 : decode cX3_falls 39 = .ok (.iconst 4, 1) := by decide +kernel
theorem dX3_falls_40 : decode cX3_falls 40 = .ok (.if_icmp .eq 38, 3) := by decide +kernel
theorem dX3_falls_43 : decode cX3_falls 43 = .ok (.aload_n 0, 1) := by decide +kernel
theorem dX3_falls_44 : decode cX3_falls 44 = .ok (.getfield 16, 3) := by decide +kernel
theorem dX3_falls_47 : decode cX3_falls 47 = .ok (.iload_n 1, 1) := by decide +kernel
theorem dX3_falls_48 : decode cX3_falls 48 = .ok (.iaload, 1) := by decide +kernel
theorem dX3_falls_49 : decode cX3_falls 49 = .ok (.ifCond .eq 16, 3) := by decide +kernel
theorem dX3_falls_52 : decode cX3_falls 52 = .ok (.aload_n 0, 1) := by decide +kernel
theorem dX3_falls_53 : decode cX3_falls 53 = .ok (.getfield 16, 3) := by decide +kernel
theorem dX3_falls_56 : decode cX3_falls 56 = .ok (.iload_n 1, 1) := by decide +kernel
theorem dX3_falls_57 : decode cX3_falls 57 = .ok (.iaload, 1) := by decide +kernel
theorem dX3_falls_58 : decode cX3_falls 58 = .ok (.aload_n 0, 1) := by decide +kernel
theorem dX3_falls_59 : decode cX3_falls 59 = .ok (.getfield 77, 3) := by decide +kernel
theorem dX3_falls_62 : decode cX3_falls 62 = .ok (.if_icmp .ne 16, 3) := by decide +kernel
theorem dX3_falls_65 : decode cX3_falls 65 = .ok (.aload_n 0, 1) := by decide +kernel
theorem dX3_falls_66 : decode cX3_falls 66 = .ok (.getfield 110, 3) := by decide +kernel
theorem dX3_falls_69 : decode cX3_falls 69 = .ok (.bipush 20, 2) := by decide +kernel
theorem dX3_falls_71 : decode cX3_falls 71 = .ok (.if_icmp .ge 7, 3) := by decide +kernel
theorem dX3_falls_74 : decode cX3_falls 74 = .ok (.iconst 1, 1) := by decide +kernel
theorem dX3_falls_75 : decode cX3_falls 75 = .ok (.goto 4, 3) := by decide +kernel
theorem dX3_falls_78 : decode cX3_falls 78 = .ok (.iconst 0, 1) := by decide +kernel
theorem dX3_falls_79 : decode cX3_falls 79 = .ok (.istore_n 2, 1) := by decide +kernel
theorem dX3_falls_80 : decode cX3_falls 80 = .ok (.iload_n 2, 1) := by decide +kernel
theorem dX3_falls_81 : decode cX3_falls 81 = .ok (.ifCond .eq 28, 3) := by decide +kernel
theorem dX3_falls_84 : decode cX3_falls 84 = .ok (.aload_n 0, 1) := by decide +kernel
theorem dX3_falls_85 : decode cX3_falls 85 = .ok (.dup, 1) := by decide +kernel
theorem dX3_falls_86 : decode cX3_falls 86 = .ok (.getfield 110, 3) := by decide +kernel
theorem dX3_falls_89 : decode cX3_falls 89 = .ok (.iconst 1, 1) := by decide +kernel
theorem dX3_falls_90 : decode cX3_falls 90 = .ok (.iadd, 1) := by decide +kernel
theorem dX3_falls_91 : decode cX3_falls 91 = .ok (.putfield 110, 3) := by decide +kernel
theorem dX3_falls_94 : decode cX3_falls 94 = .ok (.aload_n 0, 1) := by decide +kernel
theorem dX3_falls_95 : decode cX3_falls 95 = .ok (.iconst 0, 1) := by decide +kernel
theorem dX3_falls_96 : decode cX3_falls 96 = .ok (.putfield 77, 3) := by decide +kernel
theorem dX3_falls_99 : decode cX3_falls 99 = .ok (.aload_n 0, 1) := by decide +kernel
theorem dX3_falls_100 : decode cX3_falls 100 = .ok (.aload_n 0, 1) := by decide +kernel
theorem dX3_falls_101 : decode cX3_falls 101 = .ok (.getfield 19, 3) := by decide +kernel
theorem dX3_falls_104 : decode cX3_falls 104 = .ok (.iload_n 1, 1) := by decide +kernel
theorem dX3_falls_105 : decode cX3_falls 105 = .ok (.iaload, 1) := by decide +kernel
theorem dX3_falls_106 : decode cX3_falls 106 = .ok (.putfield 83, 3) := by decide +kernel
theorem dX3_falls_109 : decode cX3_falls 109 = .ok (.return_, 1) := by decide +kernel
theorem dX3_work_0 : decode cX3_work 0 = .ok (.aload_n 0, 1) := by decide +kernel
theorem dX3_work_1 : decode cX3_work 1 = .ok (.iconst 0, 1) := by decide +kernel
theorem dX3_work_2 : decode cX3_work 2 = .ok (.putfield 74, 3) := by decide +kernel
theorem dX3_work_5 : decode cX3_work 5 = .ok (.aload_n 0, 1) := by decide +kernel
theorem dX3_work_6 : decode cX3_work 6 = .ok (.iconst 0, 1) := by decide +kernel
theorem dX3_work_7 : decode cX3_work 7 = .ok (.putfield 77, 3) := by decide +kernel
theorem dX3_work_10 : decode cX3_work 10 = .ok (.aload_n 0, 1) := by decide +kernel
theorem dX3_work_11 : decode cX3_work 11 = .ok (.iconst 0, 1) := by decide +kernel
theorem dX3_work_12 : decode cX3_work 12 = .ok (.putfield 80, 3) := by decide +kernel
theorem dX3_work_15 : decode cX3_work 15 = .ok (.aload_n 0, 1) := by decide +kernel
theorem dX3_work_16 : decode cX3_work 16 = .ok (.iconst 0, 1) := by decide +kernel
theorem dX3_work_17 : decode cX3_work 17 = .ok (.putfield 83, 3) := by decide +kernel
theorem dX3_work_20 : decode cX3_work 20 = .ok (.aload_n 0, 1) := by decide +kernel
theorem dX3_work_21 : decode cX3_work 21 = .ok (.iload_n 1, 1) := by decide +kernel
theorem dX3_work_22 : decode cX3_work 22 = .ok (.iload_n 2, 1) := by decide +kernel
theorem dX3_work_23 : decode cX3_work 23 = .ok (.iload_n 3, 1) := by decide +kernel
theorem dX3_work_24 : decode cX3_work 24 = .ok (.invokevirtual 101, 3) := by decide +kernel
theorem dX3_work_27 : decode cX3_work 27 = .ok (.aload_n 0, 1) := by decide +kernel
theorem dX3_work_28 : decode cX3_work 28 = .ok (.getfield 80, 3) := by decide +kernel
theorem dX3_work_31 : decode cX3_work 31 = .ok (.ifCond .le 136, 3) := by decide +kernel
theorem dX3_work_34 : decode cX3_work 34 = .ok (.aload_n 0, 1) := by decide +kernel
theorem dX3_work_35 : decode cX3_work 35 = .ok (.getfield 80, 3) := by decide +kernel
theorem dX3_work_38 : decode cX3_work 38 = .ok (.iconst 1, 1) := by decide +kernel
theorem dX3_work_39 : decode cX3_work 39 = .ok (.isub, 1) := by decide +kernel
theorem dX3_work_40 : decode cX3_work 40 = .ok (.istore 4, 2) := by decide +kernel
theorem dX3_work_42 : decode cX3_work 42 = .ok (.aload_n 0, 1) := by decide +kernel
theorem dX3_work_43 : decode cX3_work 43 = .ok (.getfield 37, 3) := by decide +kernel
theorem dX3_work_46 : decode cX3_work 46 = .ok (.iload 4, 2) := by decide +kernel
theorem dX3_work_48 : decode cX3_work 48 = .ok (.iaload, 1) := by decide +kernel
theorem dX3_work_49 : decode cX3_work 49 = .ok (.istore 5, 2) := by decide +kernel
theorem dX3_work_51 : decode cX3_work 51 = .ok (.aload_n 0, 1) := by decide +kernel
theorem dX3_work_52 : decode cX3_work 52 = .ok (.getfield 77, 3) := by decide +kernel
theorem dX3_work_55 : decode cX3_work 55 = .ok (.ifCond .eq 10, 3) := by decide +kernel
theorem dX3_work_58 : decode cX3_work 58 = .ok (.aload_n 0, 1) := by decide +kernel
theorem dX3_work_59 : decode cX3_work 59 = .ok (.invokevirtual 113, 3) := by decide +kernel
theorem dX3_work_62 : decode cX3_work 62 = .ok (.goto 102, 3) := by decide +kernel
theorem dX3_work_65 : decode cX3_work 65 = .ok (.iload 5, 2) := by decide +kernel
theorem dX3_work_67 : decode cX3_work 67 = .ok (.ifCond .lt 14, 3) := by decide +kernel
theorem dX3_work_70 : decode cX3_work 70 = .ok (.aload_n 0, 1) := by decide +kernel
theorem dX3_work_71 : decode cX3_work 71 = .ok (.getfield 7, 3) := by decide +kernel
theorem dX3_work_74 : decode cX3_work 74 = .ok (.iload 5, 2) := by decide +kernel
theorem dX3_work_76 : decode cX3_work 76 = .ok (.iaload, 1) := by decide +kernel
theorem dX3_work_77 : decode cX3_work 77 = .ok (.iconst 3, 1) := by decide +kernel
theorem dX3_work_78 : decode cX3_work 78 = .ok (.if_icmp .ge 26, 3) := by decide +kernel
theorem dX3_work_81 : decode cX3_work 81 = .ok (.aload_n 0, 1) := by decide +kernel
theorem dX3_work_82 : decode cX3_work 82 = .ok (.iload 5, 2) := by decide +kernel
theorem dX3_work_84 : decode cX3_work 84 = .ok (.aload_n 0, 1) := by decide +kernel
theorem dX3_work_85 : decode cX3_work 85 = .ok (.getfield 40, 3) := by decide +kernel
theorem dX3_work_88 : decode cX3_work 88 = .ok (.iload 4, 2) := by decide +kernel
theorem dX3_work_90 : decode cX3_work 90 = .ok (.iaload, 1) := by decide +kernel
theorem dX3_work_91 : decode cX3_work 91 = .ok (.aload_n 0, 1) := by decide +kernel
theorem dX3_work_92 : decode cX3_work 92 = .ok (.getfield 43, 3) := by decide +kernel
theorem dX3_work_95 : decode cX3_work 95 = .ok (.iload 4, 2) := by decide +kernel
theorem dX3_work_97 : decode cX3_work 97 = .ok (.iaload, 1) := by decide +kernel
theorem dX3_work_98 : decode cX3_work 98 = .ok (.invokevirtual 116, 3) := by decide +kernel
theorem dX3_work_101 : decode cX3_work 101 = .ok (.goto 63, 3) := by decide +kernel
theorem dX3_work_104 : decode cX3_work 104 = .ok (.aload_n 0, 1) := by decide +kernel
theorem dX3_work_105 : decode cX3_work 105 = .ok (.getfield 46, 3) := by decide +kernel
theorem dX3_work_108 : decode cX3_work 108 = .ok (.iload 4, 2) := by decide +kernel
theorem dX3_work_110 : decode cX3_work 110 = .ok (.iaload, 1) := by decide +kernel
theorem dX3_work_111 : decode cX3_work 111 = .ok (.ifCond .ne 34, 3) := by decide +kernel
theorem dX3_work_114 : decode cX3_work 114 = .ok (.aload_n 0, 1) := by decide +kernel
theorem dX3_work_115 : decode cX3_work 115 = .ok (.getfield 46, 3) := by decide +kernel
theorem dX3_work_118 : decode cX3_work 118 = .ok (.iload 4, 2) := by decide +kernel
theorem dX3_work_120 : decode cX3_work 120 = .ok (.iconst 1, 1) := by decide +kernel
theorem dX3_work_121 : decode cX3_work 121 = .ok (.iastore, 1) := by decide +kernel
theorem dX3_work_122 : decode cX3_work 122 = .ok (.aload_n 0, 1) := by decide +kernel
theorem dX3_work_123 : decode cX3_work 123 = .ok (.iload 5, 2) := by decide +kernel
theorem dX3_work_125 : decode cX3_work 125 = .ok (.aload_n 0, 1) := by decide +kernel
theorem dX3_work_126 : decode cX3_work 126 = .ok (.getfield 40, 3) := by decide +kernel
theorem dX3_work_129 : decode cX3_work 129 = .ok (.iload 4, 2) := by decide +kernel
theorem dX3_work_131 : decode cX3_work 131 = .ok (.iaload, 1) := by decide +kernel
theorem dX3_work_132 : decode cX3_work 132 = .ok (.aload_n 0, 1) := by decide +kernel
theorem dX3_work_133 : decode cX3_work 133 = .ok (.getfield 43, 3) := by decide +kernel
theorem dX3_work_136 : decode cX3_work 136 = .ok (.iload 4, 2) := by decide +kernel
theorem dX3_work_138 : decode cX3_work 138 = .ok (.iaload, 1) := by decide +kernel
theorem dX3_work_139 : decode cX3_work 139 = .ok (.invokevirtual 119, 3) := by decide +kernel
theorem dX3_work_142 : decode cX3_work 142 = .ok (.goto 22, 3) := by decide +kernel
theorem dX3_work_145 : decode cX3_work 145 = .ok (.aload_n 0, 1) := by decide +kernel
theorem dX3_work_146 : decode cX3_work 146 = .ok (.getfield 46, 3) := by decide +kernel
theorem dX3_work_149 : decode cX3_work 149 = .ok (.iload 4, 2) := by decide +kernel
theorem dX3_work_151 : decode cX3_work 151 = .ok (.dup2, 1) := by decide +kernel
theorem dX3_work_152 : decode cX3_work 152 = .ok (.iaload, 1) := by decide +kernel
theorem dX3_work_153 : decode cX3_work 153 = .ok (.iconst 1, 1) := by decide +kernel
theorem dX3_work_154 : decode cX3_work 154 = .ok (.iadd, 1) := by decide +kernel
theorem dX3_work_155 : decode cX3_work 155 = .ok (.iastore, 1) := by decide +kernel
theorem dX3_work_156 : decode cX3_work 156 = .ok (.aload_n 0, 1) := by decide +kernel
theorem dX3_work_157 : decode cX3_work 157 = .ok (.iload 4, 2) := by decide +kernel
theorem dX3_work_159 : decode cX3_work 159 = .ok (.iload 5, 2) := by decide +kernel
theorem dX3_work_161 : decode cX3_work 161 = .ok (.invokevirtual 122, 3) := by decide +kernel
theorem dX3_work_164 : decode cX3_work 164 = .ok (.goto (-137), 3) := by decide +kernel
theorem dX3_work_167 : decode cX3_work 167 = .ok (.return_, 1) := by decide +kernel
theorem dX3_ask_0 : decode cX3_ask 0 = .ok (.aload_n 0, 1) := by decide +kernel
theorem dX3_ask_1 : decode cX3_ask 1 = .ok (.aload_n 0, 1) := by decide +kernel
theorem dX3_ask_2 : decode cX3_ask 2 = .ok (.iload_n 1, 1) := by decide +kernel
theorem dX3_ask_3 : decode cX3_ask 3 = .ok (.invokevirtual 66, 3) := by decide +kernel
theorem dX3_ask_6 : decode cX3_ask 6 = .ok (.ifCond .eq 7, 3) := by decide +kernel
theorem dX3_ask_9 : decode cX3_ask 9 = .ok (.iconst 0, 1) := by decide +kernel
theorem dX3_ask_10 : decode cX3_ask 10 = .ok (.goto 5, 3) := by decide +kernel
theorem dX3_ask_13 : decode cX3_ask 13 = .ok (.bipush (-3), 2) := by decide +kernel
theorem dX3_ask_15 : decode cX3_ask 15 = .ok (.putfield 63, 3) := by decide +kernel
theorem dX3_ask_18 : decode cX3_ask 18 = .ok (.aload_n 0, 1) := by decide +kernel
theorem dX3_ask_19 : decode cX3_ask 19 = .ok (.getfield 63, 3) := by decide +kernel
theorem dX3_ask_22 : decode cX3_ask 22 = .ok (.ifCond .eq 5, 3) := by decide +kernel
theorem dX3_ask_25 : decode cX3_ask 25 = .ok (.iconst 0, 1) := by decide +kernel
theorem dX3_ask_26 : decode cX3_ask 26 = .ok (.ireturn, 1) := by decide +kernel
theorem dX3_ask_27 : decode cX3_ask 27 = .ok (.aload_n 0, 1) := by decide +kernel
theorem dX3_ask_28 : decode cX3_ask 28 = .ok (.iconst 0, 1) := by decide +kernel
theorem dX3_ask_29 : decode cX3_ask 29 = .ok (.putfield 110, 3) := by decide +kernel
theorem dX3_ask_32 : decode cX3_ask 32 = .ok (.aload_n 0, 1) := by decide +kernel
theorem dX3_ask_33 : decode cX3_ask 33 = .ok (.iload_n 1, 1) := by decide +kernel
theorem dX3_ask_34 : decode cX3_ask 34 = .ok (.iload_n 2, 1) := by decide +kernel
theorem dX3_ask_35 : decode cX3_ask 35 = .ok (.iload_n 3, 1) := by decide +kernel
theorem dX3_ask_36 : decode cX3_ask 36 = .ok (.invokevirtual 126, 3) := by decide +kernel
theorem dX3_ask_39 : decode cX3_ask 39 = .ok (.aload_n 0, 1) := by decide +kernel
theorem dX3_ask_40 : decode cX3_ask 40 = .ok (.aload_n 0, 1) := by decide +kernel
theorem dX3_ask_41 : decode cX3_ask 41 = .ok (.getfield 77, 3) := by decide +kernel
theorem dX3_ask_44 : decode cX3_ask 44 = .ok (.ifCond .ne 7, 3) := by decide +kernel
theorem dX3_ask_47 : decode cX3_ask 47 = .ok (.iconst 0, 1) := by decide +kernel
theorem dX3_ask_48 : decode cX3_ask 48 = .ok (.goto 10, 3) := by decide +kernel
theorem dX3_ask_51 : decode cX3_ask 51 = .ok (.bipush (-10), 2) := by decide +kernel
theorem dX3_ask_53 : decode cX3_ask 53 = .ok (.aload_n 0, 1) := by decide +kernel
theorem dX3_ask_54 : decode cX3_ask 54 = .ok (.getfield 77, 3) := by decide +kernel
theorem dX3_ask_57 : decode cX3_ask 57 = .ok (.isub, 1) := by decide +kernel
theorem dX3_ask_58 : decode cX3_ask 58 = .ok (.putfield 63, 3) := by decide +kernel
theorem dX3_ask_61 : decode cX3_ask 61 = .ok (.aload_n 0, 1) := by decide +kernel
theorem dX3_ask_62 : decode cX3_ask 62 = .ok (.getfield 77, 3) := by decide +kernel
theorem dX3_ask_65 : decode cX3_ask 65 = .ok (.ifCond .ne 10, 3) := by decide +kernel
theorem dX3_ask_68 : decode cX3_ask 68 = .ok (.aload_n 0, 1) := by decide +kernel
theorem dX3_ask_69 : decode cX3_ask 69 = .ok (.getfield 83, 3) := by decide +kernel
theorem dX3_ask_72 : decode cX3_ask 72 = .ok (.goto 4, 3) := by decide +kernel
theorem dX3_ask_75 : decode cX3_ask 75 = .ok (.iconst 0, 1) := by decide +kernel
theorem dX3_ask_76 : decode cX3_ask 76 = .ok (.ireturn, 1) := by decide +kernel
theorem dX3_weave_0 : decode cX3_weave 0 = .ok (.aload_n 0, 1) := by decide +kernel
theorem dX3_weave_1 : decode cX3_weave 1 = .ok (.iload_n 1, 1) := by decide +kernel
theorem dX3_weave_2 : decode cX3_weave 2 = .ok (.invokevirtual 66, 3) := by decide +kernel
theorem dX3_weave_5 : decode cX3_weave 5 = .ok (.ifCond .ne 6, 3) := by decide +kernel
theorem dX3_weave_8 : decode cX3_weave 8 = .ok (.bipush (-3), 2) := by decide +kernel
theorem dX3_weave_10 : decode cX3_weave 10 = .ok (.ireturn, 1) := by decide +kernel
theorem dX3_weave_11 : decode cX3_weave 11 = .ok (.iload 4, 2) := by decide +kernel
theorem dX3_weave_13 : decode cX3_weave 13 = .ok (.iconst 1, 1) := by decide +kernel
theorem dX3_weave_14 : decode cX3_weave 14 = .ok (.bipush 12, 2) := by decide +kernel
theorem dX3_weave_16 : decode cX3_weave 16 = .ok (.invokestatic 59, 3) := by decide +kernel
theorem dX3_weave_19 : decode cX3_weave 19 = .ok (.ifCond .eq 14, 3) := by decide +kernel
theorem dX3_weave_22 : decode cX3_weave 22 = .ok (.iload 5, 2) := by decide +kernel
theorem dX3_weave_24 : decode cX3_weave 24 = .ok (.iconst 1, 1) := by decide +kernel
theorem dX3_weave_25 : decode cX3_weave 25 = .ok (.bipush 12, 2) := by decide +kernel
theorem dX3_weave_27 : decode cX3_weave 27 = .ok (.invokestatic 59, 3) := by decide +kernel
theorem dX3_weave_30 : decode cX3_weave 30 = .ok (.ifCond .ne 6, 3) := by decide +kernel
theorem dX3_weave_33 : decode cX3_weave 33 = .ok (.bipush (-2), 2) := by decide +kernel
theorem dX3_weave_35 : decode cX3_weave 35 = .ok (.ireturn, 1) := by decide +kernel
theorem dX3_weave_36 : decode cX3_weave 36 = .ok (.aload_n 0, 1) := by decide +kernel
theorem dX3_weave_37 : decode cX3_weave 37 = .ok (.iconst 0, 1) := by decide +kernel
theorem dX3_weave_38 : decode cX3_weave 38 = .ok (.putfield 110, 3) := by decide +kernel
theorem dX3_weave_41 : decode cX3_weave 41 = .ok (.aload_n 0, 1) := by decide +kernel
theorem dX3_weave_42 : decode cX3_weave 42 = .ok (.iconst 0, 1) := by decide +kernel
theorem dX3_weave_43 : decode cX3_weave 43 = .ok (.putfield 129, 3) := by decide +kernel
theorem dX3_weave_46 : decode cX3_weave 46 = .ok (.aload_n 0, 1) := by decide +kernel
theorem dX3_weave_47 : decode cX3_weave 47 = .ok (.iload 4, 2) := by decide +kernel
theorem dX3_weave_49 : decode cX3_weave 49 = .ok (.putfield 132, 3) := by decide +kernel
theorem dX3_weave_52 : decode cX3_weave 52 = .ok (.iconst 0, 1) := by decide +kernel
theorem dX3_weave_53 : decode cX3_weave 53 = .ok (.istore 6, 2) := by decide +kernel
theorem dX3_weave_55 : decode cX3_weave 55 = .ok (.iload 6, 2) := by decide +kernel
theorem dX3_weave_57 : decode cX3_weave 57 = .ok (.iload 4, 2) := by decide +kernel
theorem dX3_weave_59 : decode cX3_weave 59 = .ok (.iload 5, 2) := by decide +kernel
theorem dX3_weave_61 : decode cX3_weave 61 = .ok (.imul, 1) := by decide +kernel
theorem dX3_weave_62 : decode cX3_weave 62 = .ok (.if_icmp .ge 66, 3) := by decide +kernel
theorem dX3_weave_65 : decode cX3_weave 65 = .ok (.aload_n 0, 1) := by decide +kernel
theorem dX3_weave_66 : decode cX3_weave 66 = .ok (.iload_n 1, 1) := by decide +kernel
theorem dX3_weave_67 : decode cX3_weave 67 = .ok (.iload_n 2, 1) := by decide +kernel
theorem dX3_weave_68 : decode cX3_weave 68 = .ok (.iload 6, 2) := by decide +kernel
theorem dX3_weave_70 : decode cX3_weave 70 = .ok (.iload 4, 2) := by decide +kernel
theorem dX3_weave_72 : decode cX3_weave 72 = .ok (.irem, 1) := by decide +kernel
theorem dX3_weave_73 : decode cX3_weave 73 = .ok (.iadd, 1) := by decide +kernel
theorem dX3_weave_74 : decode cX3_weave 74 = .ok (.iload_n 3, 1) := by decide +kernel
theorem dX3_weave_75 : decode cX3_weave 75 = .ok (.iload 6, 2) := by decide +kernel
theorem dX3_weave_77 : decode cX3_weave 77 = .ok (.iload 4, 2) := by decide +kernel
theorem dX3_weave_79 : decode cX3_weave 79 = .ok (.idiv, 1) := by decide +kernel
theorem dX3_weave_80 : decode cX3_weave 80 = .ok (.iadd, 1) := by decide +kernel
theorem dX3_weave_81 : decode cX3_weave 81 = .ok (.invokevirtual 126, 3) := by decide +kernel
theorem dX3_weave_84 : decode cX3_weave 84 = .ok (.aload_n 0, 1) := by decide +kernel
theorem dX3_weave_85 : decode cX3_weave 85 = .ok (.getfield 77, 3) := by decide +kernel
theorem dX3_weave_88 : decode cX3_weave 88 = .ok (.ifCond .eq 11, 3) := by decide +kernel
theorem dX3_weave_91 : decode cX3_weave 91 = .ok (.bipush (-10), 2) := by decide +kernel
theorem dX3_weave_93 : decode cX3_weave 93 = .ok (.aload_n 0, 1) := by decide +kernel
theorem dX3_weave_94 : decode cX3_weave 94 = .ok (.getfield 77, 3) := by decide +kernel
theorem dX3_weave_97 : decode cX3_weave 97 = .ok (.isub, 1) := by decide +kernel
theorem dX3_weave_98 : decode cX3_weave 98 = .ok (.ireturn, 1) := by decide +kernel
theorem dX3_weave_99 : decode cX3_weave 99 = .ok (.aload_n 0, 1) := by decide +kernel
theorem dX3_weave_100 : decode cX3_weave 100 = .ok (.getfield 52, 3) := by decide +kernel
theorem dX3_weave_103 : decode cX3_weave 103 = .ok (.aload_n 0, 1) := by decide +kernel
theorem dX3_weave_104 : decode cX3_weave 104 = .ok (.getfield 129, 3) := by decide +kernel
theorem dX3_weave_107 : decode cX3_weave 107 = .ok (.aload_n 0, 1) := by decide +kernel
theorem dX3_weave_108 : decode cX3_weave 108 = .ok (.getfield 83, 3) := by decide +kernel
theorem dX3_weave_111 : decode cX3_weave 111 = .ok (.iastore, 1) := by decide +kernel
theorem dX3_weave_112 : decode cX3_weave 112 = .ok (.aload_n 0, 1) := by decide +kernel
theorem dX3_weave_113 : decode cX3_weave 113 = .ok (.dup, 1) := by decide +kernel
theorem dX3_weave_114 : decode cX3_weave 114 = .ok (.getfield 129, 3) := by decide +kernel
theorem dX3_weave_117 : decode cX3_weave 117 = .ok (.iconst 1, 1) := by decide +kernel
theorem dX3_weave_118 : decode cX3_weave 118 = .ok (.iadd, 1) := by decide +kernel
theorem dX3_weave_119 : decode cX3_weave 119 = .ok (.putfield 129, 3) := by decide +kernel
theorem dX3_weave_122 : decode cX3_weave 122 = .ok (.iinc 6 1, 3) := by decide +kernel
theorem dX3_weave_125 : decode cX3_weave 125 = .ok (.goto (-70), 3) := by decide +kernel
theorem dX3_weave_128 : decode cX3_weave 128 = .ok (.aload_n 0, 1) := by decide +kernel
theorem dX3_weave_129 : decode cX3_weave 129 = .ok (.getfield 129, 3) := by decide +kernel
theorem dX3_weave_132 : decode cX3_weave 132 = .ok (.ireturn, 1) := by decide +kernel
theorem dX3_cloth_0 : decode cX3_cloth 0 = .ok (.iload_n 1, 1) := by decide +kernel
theorem dX3_cloth_1 : decode cX3_cloth 1 = .ok (.iconst 0, 1) := by decide +kernel
theorem dX3_cloth_2 : decode cX3_cloth 2 = .ok (.aload_n 0, 1) := by decide +kernel
theorem dX3_cloth_3 : decode cX3_cloth 3 = .ok (.getfield 129, 3) := by decide +kernel
theorem dX3_cloth_6 : decode cX3_cloth 6 = .ok (.iconst 1, 1) := by decide +kernel
theorem dX3_cloth_7 : decode cX3_cloth 7 = .ok (.isub, 1) := by decide +kernel
theorem dX3_cloth_8 : decode cX3_cloth 8 = .ok (.invokestatic 59, 3) := by decide +kernel
theorem dX3_cloth_11 : decode cX3_cloth 11 = .ok (.ifCond .eq 12, 3) := by decide +kernel
theorem dX3_cloth_14 : decode cX3_cloth 14 = .ok (.aload_n 0, 1) := by decide +kernel
theorem dX3_cloth_15 : decode cX3_cloth 15 = .ok (.getfield 52, 3) := by decide +kernel
theorem dX3_cloth_18 : decode cX3_cloth 18 = .ok (.iload_n 1, 1) := by decide +kernel
theorem dX3_cloth_19 : decode cX3_cloth 19 = .ok (.iaload, 1) := by decide +kernel
theorem dX3_cloth_20 : decode cX3_cloth 20 = .ok (.goto 4, 3) := by decide +kernel
theorem dX3_cloth_23 : decode cX3_cloth 23 = .ok (.iconst 0, 1) := by decide +kernel
theorem dX3_cloth_24 : decode cX3_cloth 24 = .ok (.ireturn, 1) := by decide +kernel
theorem dX3_changes_0 : decode cX3_changes 0 = .ok (.iconst 0, 1) := by decide +kernel
theorem dX3_changes_1 : decode cX3_changes 1 = .ok (.istore_n 1, 1) := by decide +kernel
theorem dX3_changes_2 : decode cX3_changes 2 = .ok (.iconst 0, 1) := by decide +kernel
theorem dX3_changes_3 : decode cX3_changes 3 = .ok (.istore_n 2, 1) := by decide +kernel
theorem dX3_changes_4 : decode cX3_changes 4 = .ok (.iload_n 2, 1) := by decide +kernel
theorem dX3_changes_5 : decode cX3_changes 5 = .ok (.aload_n 0, 1) := by decide +kernel
theorem dX3_changes_6 : decode cX3_changes 6 = .ok (.getfield 129, 3) := by decide +kernel
theorem dX3_changes_9 : decode cX3_changes 9 = .ok (.if_icmp .ge 43, 3) := by decide +kernel
theorem dX3_changes_12 : decode cX3_changes 12 = .ok (.iload_n 1, 1) := by decide +kernel
theorem dX3_changes_13 : decode cX3_changes 13 = .ok (.iload_n 2, 1) := by decide +kernel
theorem dX3_changes_14 : decode cX3_changes 14 = .ok (.aload_n 0, 1) := by decide +kernel
theorem dX3_changes_15 : decode cX3_changes 15 = .ok (.getfield 132, 3) := by decide +kernel
theorem dX3_changes_18 : decode cX3_changes 18 = .ok (.irem, 1) := by decide +kernel
theorem dX3_changes_19 : decode cX3_changes 19 = .ok (.ifCond .le 24, 3) := by decide +kernel
theorem dX3_changes_22 : decode cX3_changes 22 = .ok (.aload_n 0, 1) := by decide +kernel
theorem dX3_changes_23 : decode cX3_changes 23 = .ok (.getfield 52, 3) := by decide +kernel
theorem dX3_changes_26 : decode cX3_changes 26 = .ok (.iload_n 2, 1) := by decide +kernel
theorem dX3_changes_27 : decode cX3_changes 27 = .ok (.iaload, 1) := by decide +kernel
theorem dX3_changes_28 : decode cX3_changes 28 = .ok (.aload_n 0, 1) := by decide +kernel
theorem dX3_changes_29 : decode cX3_changes 29 = .ok (.getfield 52, 3) := by decide +kernel
theorem dX3_changes_32 : decode cX3_changes 32 = .ok (.iload_n 2, 1) := by decide +kernel
theorem dX3_changes_33 : decode cX3_changes 33 = .ok (.iconst 1, 1) := by decide +kernel
theorem dX3_changes_34 : decode cX3_changes 34 = .ok (.isub, 1) := by decide +kernel
theorem dX3_changes_35 : decode cX3_changes 35 = .ok (.iaload, 1) := by decide +kernel
theorem dX3_changes_36 : decode cX3_changes 36 = .ok (.if_icmp .eq 7, 3) := by decide +kernel
theorem dX3_changes_39 : decode cX3_changes 39 = .ok (.iconst 1, 1) := by decide +kernel
theorem dX3_changes_40 : decode cX3_changes 40 = .ok (.goto 4, 3) := by decide +kernel
theorem dX3_changes_43 : decode cX3_changes 43 = .ok (.iconst 0, 1) := by decide +kernel
theorem dX3_changes_44 : decode cX3_changes 44 = .ok (.iadd, 1) := by decide +kernel
theorem dX3_changes_45 : decode cX3_changes 45 = .ok (.istore_n 1, 1) := by decide +kernel
theorem dX3_changes_46 : decode cX3_changes 46 = .ok (.iinc 2 1, 3) := by decide +kernel
theorem dX3_changes_49 : decode cX3_changes 49 = .ok (.goto (-45), 3) := by decide +kernel
theorem dX3_changes_52 : decode cX3_changes 52 = .ok (.iload_n 1, 1) := by decide +kernel
theorem dX3_changes_53 : decode cX3_changes 53 = .ok (.ireturn, 1) := by decide +kernel
theorem dX3_manyOf_0 : decode cX3_manyOf 0 = .ok (.iconst 0, 1) := by decide +kernel
theorem dX3_manyOf_1 : decode cX3_manyOf 1 = .ok (.istore_n 2, 1) := by decide +kernel
theorem dX3_manyOf_2 : decode cX3_manyOf 2 = .ok (.iconst 0, 1) := by decide +kernel
theorem dX3_manyOf_3 : decode cX3_manyOf 3 = .ok (.istore_n 3, 1) := by decide +kernel
theorem dX3_manyOf_4 : decode cX3_manyOf 4 = .ok (.iload_n 3, 1) := by decide +kernel
theorem dX3_manyOf_5 : decode cX3_manyOf 5 = .ok (.aload_n 0, 1) := by decide +kernel
theorem dX3_manyOf_6 : decode cX3_manyOf 6 = .ok (.getfield 129, 3) := by decide +kernel
theorem dX3_manyOf_9 : decode cX3_manyOf 9 = .ok (.if_icmp .ge 27, 3) := by decide +kernel
theorem dX3_manyOf_12 : decode cX3_manyOf 12 = .ok (.iload_n 2, 1) := by decide +kernel
theorem dX3_manyOf_13 : decode cX3_manyOf 13 = .ok (.aload_n 0, 1) := by decide +kernel
theorem dX3_manyOf_14 : decode cX3_manyOf 14 = .ok (.getfield 52, 3) := by decide +kernel
theorem dX3_manyOf_17 : decode cX3_manyOf 17 = .ok (.iload_n 3, 1) := by decide +kernel
theorem dX3_manyOf_18 : decode cX3_manyOf 18 = .ok (.iaload, 1) := by decide +kernel
theorem dX3_manyOf_19 : decode cX3_manyOf 19 = .ok (.iload_n 1, 1) := by decide +kernel
theorem dX3_manyOf_20 : decode cX3_manyOf 20 = .ok (.if_icmp .ne 7, 3) := by decide +kernel
theorem dX3_manyOf_23 : decode cX3_manyOf 23 = .ok (.iconst 1, 1) := by decide +kernel
theorem dX3_manyOf_24 : decode cX3_manyOf 24 = .ok (.goto 4, 3) := by decide +kernel
theorem dX3_manyOf_27 : decode cX3_manyOf 27 = .ok (.iconst 0, 1) := by decide +kernel
theorem dX3_manyOf_28 : decode cX3_manyOf 28 = .ok (.iadd, 1) := by decide +kernel
theorem dX3_manyOf_29 : decode cX3_manyOf 29 = .ok (.istore_n 2, 1) := by decide +kernel
theorem dX3_manyOf_30 : decode cX3_manyOf 30 = .ok (.iinc 3 1, 3) := by decide +kernel
theorem dX3_manyOf_33 : decode cX3_manyOf 33 = .ok (.goto (-29), 3) := by decide +kernel
theorem dX3_manyOf_36 : decode cX3_manyOf 36 = .ok (.iload_n 2, 1) := by decide +kernel
theorem dX3_manyOf_37 : decode cX3_manyOf 37 = .ok (.ireturn, 1) := by decide +kernel
theorem dX3_most_0 : decode cX3_most 0 = .ok (.iconst 0, 1) := by decide +kernel
theorem dX3_most_1 : decode cX3_most 1 = .ok (.istore_n 1, 1) := by decide +kernel
theorem dX3_most_2 : decode cX3_most 2 = .ok (.iconst 0, 1) := by decide +kernel
theorem dX3_most_3 : decode cX3_most 3 = .ok (.istore_n 2, 1) := by decide +kernel
theorem dX3_most_4 : decode cX3_most 4 = .ok (.iconst 0, 1) := by decide +kernel
theorem dX3_most_5 : decode cX3_most 5 = .ok (.istore_n 3, 1) := by decide +kernel
theorem dX3_most_6 : decode cX3_most 6 = .ok (.iload_n 3, 1) := by decide +kernel
theorem dX3_most_7 : decode cX3_most 7 = .ok (.aload_n 0, 1) := by decide +kernel
theorem dX3_most_8 : decode cX3_most 8 = .ok (.getfield 129, 3) := by decide +kernel
theorem dX3_most_11 : decode cX3_most 11 = .ok (.if_icmp .ge 37, 3) := by decide +kernel
theorem dX3_most_14 : decode cX3_most 14 = .ok (.aload_n 0, 1) := by decide +kernel
theorem dX3_most_15 : decode cX3_most 15 = .ok (.aload_n 0, 1) := by decide +kernel
theorem dX3_most_16 : decode cX3_most 16 = .ok (.getfield 52, 3) := by decide +kernel
theorem dX3_most_19 : decode cX3_most 19 = .ok (.iload_n 3, 1) := by decide +kernel
theorem dX3_most_20 : decode cX3_most 20 = .ok (.iaload, 1) := by decide +kernel
theorem dX3_most_21 : decode cX3_most 21 = .ok (.invokevirtual 135, 3) := by decide +kernel
theorem dX3_most_24 : decode cX3_most 24 = .ok (.istore 4, 2) := by decide +kernel
theorem dX3_most_26 : decode cX3_most 26 = .ok (.iload 4, 2) := by decide +kernel
theorem dX3_most_28 : decode cX3_most 28 = .ok (.iload_n 2, 1) := by decide +kernel
theorem dX3_most_29 : decode cX3_most 29 = .ok (.if_icmp .le 13, 3) := by decide +kernel
theorem dX3_most_32 : decode cX3_most 32 = .ok (.iload 4, 2) := by decide +kernel
theorem dX3_most_34 : decode cX3_most 34 = .ok (.istore_n 2, 1) := by decide +kernel
theorem dX3_most_35 : decode cX3_most 35 = .ok (.aload_n 0, 1) := by decide +kernel
theorem dX3_most_36 : decode cX3_most 36 = .ok (.getfield 52, 3) := by decide +kernel
theorem dX3_most_39 : decode cX3_most 39 = .ok (.iload_n 3, 1) := by decide +kernel
theorem dX3_most_40 : decode cX3_most 40 = .ok (.iaload, 1) := by decide +kernel
theorem dX3_most_41 : decode cX3_most 41 = .ok (.istore_n 1, 1) := by decide +kernel
theorem dX3_most_42 : decode cX3_most 42 = .ok (.iinc 3 1, 3) := by decide +kernel
theorem dX3_most_45 : decode cX3_most 45 = .ok (.goto (-39), 3) := by decide +kernel
theorem dX3_most_48 : decode cX3_most 48 = .ok (.iload_n 1, 1) := by decide +kernel
theorem dX3_most_49 : decode cX3_most 49 = .ok (.ireturn, 1) := by decide +kernel
theorem dX3_why_0 : decode cX3_why 0 = .ok (.aload_n 0, 1) := by decide +kernel
theorem dX3_why_1 : decode cX3_why 1 = .ok (.getfield 63, 3) := by decide +kernel
theorem dX3_why_4 : decode cX3_why 4 = .ok (.ireturn, 1) := by decide +kernel
theorem dX3_count_0 : decode cX3_count 0 = .ok (.iload_n 1, 1) := by decide +kernel
theorem dX3_count_1 : decode cX3_count 1 = .ok (.tableswitch 60 0 4 #[35, 40, 45, 50, 55], 35) := by decide +kernel
theorem dX3_count_36 : decode cX3_count 36 = .ok (.aload_n 0, 1) := by decide +kernel
theorem dX3_count_37 : decode cX3_count 37 = .ok (.getfield 55, 3) := by decide +kernel
theorem dX3_count_40 : decode cX3_count 40 = .ok (.ireturn, 1) := by decide +kernel
theorem dX3_count_41 : decode cX3_count 41 = .ok (.aload_n 0, 1) := by decide +kernel
theorem dX3_count_42 : decode cX3_count 42 = .ok (.getfield 129, 3) := by decide +kernel
theorem dX3_count_45 : decode cX3_count 45 = .ok (.ireturn, 1) := by decide +kernel
theorem dX3_count_46 : decode cX3_count 46 = .ok (.aload_n 0, 1) := by decide +kernel
theorem dX3_count_47 : decode cX3_count 47 = .ok (.getfield 132, 3) := by decide +kernel
theorem dX3_count_50 : decode cX3_count 50 = .ok (.ireturn, 1) := by decide +kernel
theorem dX3_count_51 : decode cX3_count 51 = .ok (.aload_n 0, 1) := by decide +kernel
theorem dX3_count_52 : decode cX3_count 52 = .ok (.getfield 74, 3) := by decide +kernel
theorem dX3_count_55 : decode cX3_count 55 = .ok (.ireturn, 1) := by decide +kernel
theorem dX3_count_56 : decode cX3_count 56 = .ok (.aload_n 0, 1) := by decide +kernel
theorem dX3_count_57 : decode cX3_count 57 = .ok (.getfield 107, 3) := by decide +kernel
theorem dX3_count_60 : decode cX3_count 60 = .ok (.ireturn, 1) := by decide +kernel
theorem dX3_count_61 : decode cX3_count 61 = .ok (.bipush (-2), 2) := by decide +kernel
theorem dX3_count_63 : decode cX3_count 63 = .ok (.ireturn, 1) := by decide +kernel
end
section
theorem dL_law_0 : decode cL_law 0 = .ok (.new 7, 3) := by decide +kernel
theorem dL_law_3 : decode cL_law 3 = .ok (.dup, 1) := by decide +kernel
theorem dL_law_4 : decode cL_law 4 = .ok (.invokespecial 9, 3) := by decide +kernel
theorem dL_law_7 : decode cL_law 7 = .ok (.astore_n 1, 1) := by decide +kernel
theorem dL_law_8 : decode cL_law 8 = .ok (.new 10, 3) := by decide +kernel
theorem dL_law_11 : decode cL_law 11 = .ok (.dup, 1) := by decide +kernel
theorem dL_law_12 : decode cL_law 12 = .ok (.invokespecial 12, 3) := by decide +kernel
theorem dL_law_15 : decode cL_law 15 = .ok (.astore_n 2, 1) := by decide +kernel
theorem dL_law_16 : decode cL_law 16 = .ok (.iconst 0, 1) := by decide +kernel
theorem dL_law_17 : decode cL_law 17 = .ok (.istore_n 3, 1) := by decide +kernel
theorem dL_law_18 : decode cL_law 18 = .ok (.iload_n 3, 1) := by decide +kernel
theorem dL_law_19 : decode cL_law 19 = .ok (.aload_n 0, 1) := by decide +kernel
theorem dL_law_20 : decode cL_law 20 = .ok (.arraylength, 1) := by decide +kernel
theorem dL_law_21 : decode cL_law 21 = .ok (.bipush 6, 2) := by decide +kernel
theorem dL_law_23 : decode cL_law 23 = .ok (.isub, 1) := by decide +kernel
theorem dL_law_24 : decode cL_law 24 = .ok (.if_icmp .gt 390, 3) := by decide +kernel
theorem dL_law_27 : decode cL_law 27 = .ok (.aload_n 0, 1) := by decide +kernel
theorem dL_law_28 : decode cL_law 28 = .ok (.iload_n 3, 1) := by decide +kernel
theorem dL_law_29 : decode cL_law 29 = .ok (.iaload, 1) := by decide +kernel
theorem dL_law_30 : decode cL_law 30 = .ok (.bipush 15, 2) := by decide +kernel
theorem dL_law_32 : decode cL_law 32 = .ok (.iand, 1) := by decide +kernel
theorem dL_law_33 : decode cL_law 33 = .ok (.tableswitch 375 0 9 #[55, 98, 151, 184, 227, 290, 313, 326, 339, 352], 55) := by decide +kernel
theorem dL_law_88 : decode cL_law 88 = .ok (.aload_n 1, 1) := by decide +kernel
theorem dL_law_89 : decode cL_law 89 = .ok (.aload_n 0, 1) := by decide +kernel
theorem dL_law_90 : decode cL_law 90 = .ok (.iload_n 3, 1) := by decide +kernel
theorem dL_law_91 : decode cL_law 91 = .ok (.iconst 1, 1) := by decide +kernel
theorem dL_law_92 : decode cL_law 92 = .ok (.iadd, 1) := by decide +kernel
theorem dL_law_93 : decode cL_law 93 = .ok (.iaload, 1) := by decide +kernel
theorem dL_law_94 : decode cL_law 94 = .ok (.aload_n 0, 1) := by decide +kernel
theorem dL_law_95 : decode cL_law 95 = .ok (.iload_n 3, 1) := by decide +kernel
theorem dL_law_96 : decode cL_law 96 = .ok (.iconst 2, 1) := by decide +kernel
theorem dL_law_97 : decode cL_law 97 = .ok (.iadd, 1) := by decide +kernel
theorem dL_law_98 : decode cL_law 98 = .ok (.iaload, 1) := by decide +kernel
theorem dL_law_99 : decode cL_law 99 = .ok (.aload_n 0, 1) := by decide +kernel
theorem dL_law_100 : decode cL_law 100 = .ok (.iload_n 3, 1) := by decide +kernel
theorem dL_law_101 : decode cL_law 101 = .ok (.iconst 3, 1) := by decide +kernel
theorem dL_law_102 : decode cL_law 102 = .ok (.iadd, 1) := by decide +kernel
theorem dL_law_103 : decode cL_law 103 = .ok (.iaload, 1) := by decide +kernel
theorem dL_law_104 : decode cL_law 104 = .ok (.invokevirtual 13, 3) := by decide +kernel
theorem dL_law_107 : decode cL_law 107 = .ok (.aload_n 2, 1) := by decide +kernel
theorem dL_law_108 : decode cL_law 108 = .ok (.aload_n 0, 1) := by decide +kernel
theorem dL_law_109 : decode cL_law 109 = .ok (.iload_n 3, 1) := by decide +kernel
theorem dL_law_110 : decode cL_law 110 = .ok (.iconst 1, 1) := by decide +kernel
theorem dL_law_111 : decode cL_law 111 = .ok (.iadd, 1) := by decide +kernel
theorem dL_law_112 : decode cL_law 112 = .ok (.iaload, 1) := by decide +kernel
theorem dL_law_113 : decode cL_law 113 = .ok (.aload_n 0, 1) := by decide +kernel
theorem dL_law_114 : decode cL_law 114 = .ok (.iload_n 3, 1) := by decide +kernel
theorem dL_law_115 : decode cL_law 115 = .ok (.iconst 2, 1) := by decide +kernel
theorem dL_law_116 : decode cL_law 116 = .ok (.iadd, 1) := by decide +kernel
theorem dL_law_117 : decode cL_law 117 = .ok (.iaload, 1) := by decide +kernel
theorem dL_law_118 : decode cL_law 118 = .ok (.aload_n 0, 1) := by decide +kernel
theorem dL_law_119 : decode cL_law 119 = .ok (.iload_n 3, 1) := by decide +kernel
theorem dL_law_120 : decode cL_law 120 = .ok (.iconst 3, 1) := by decide +kernel
theorem dL_law_121 : decode cL_law 121 = .ok (.iadd, 1) := by decide +kernel
theorem dL_law_122 : decode cL_law 122 = .ok (.iaload, 1) := by decide +kernel
theorem dL_law_123 : decode cL_law 123 = .ok (.invokevirtual 17, 3) := by decide +kernel
theorem dL_law_126 : decode cL_law 126 = .ok (.if_icmp .eq 282, 3) := by decide +kernel
theorem dL_law_129 : decode cL_law 129 = .ok (.iconst 0, 1) := by decide +kernel
theorem dL_law_130 : decode cL_law 130 = .ok (.ireturn, 1) := by decide +kernel
theorem dL_law_131 : decode cL_law 131 = .ok (.aload_n 1, 1) := by decide +kernel
theorem dL_law_132 : decode cL_law 132 = .ok (.aload_n 0, 1) := by decide +kernel
theorem dL_law_133 : decode cL_law 133 = .ok (.iload_n 3, 1) := by decide +kernel
theorem dL_law_134 : decode cL_law 134 = .ok (.iconst 1, 1) := by decide +kernel
theorem dL_law_135 : decode cL_law 135 = .ok (.iadd, 1) := by decide +kernel
theorem dL_law_136 : decode cL_law 136 = .ok (.iaload, 1) := by decide +kernel
theorem dL_law_137 : decode cL_law 137 = .ok (.aload_n 0, 1) := by decide +kernel
theorem dL_law_138 : decode cL_law 138 = .ok (.iload_n 3, 1) := by decide +kernel
theorem dL_law_139 : decode cL_law 139 = .ok (.iconst 2, 1) := by decide +kernel
theorem dL_law_140 : decode cL_law 140 = .ok (.iadd, 1) := by decide +kernel
theorem dL_law_141 : decode cL_law 141 = .ok (.iaload, 1) := by decide +kernel
theorem dL_law_142 : decode cL_law 142 = .ok (.aload_n 0, 1) := by decide +kernel
theorem dL_law_143 : decode cL_law 143 = .ok (.iload_n 3, 1) := by decide +kernel
theorem dL_law_144 : decode cL_law 144 = .ok (.iconst 3, 1) := by decide +kernel
theorem dL_law_145 : decode cL_law 145 = .ok (.iadd, 1) := by decide +kernel
theorem dL_law_146 : decode cL_law 146 = .ok (.iaload, 1) := by decide +kernel
theorem dL_law_147 : decode cL_law 147 = .ok (.aload_n 0, 1) := by decide +kernel
theorem dL_law_148 : decode cL_law 148 = .ok (.iload_n 3, 1) := by decide +kernel
theorem dL_law_149 : decode cL_law 149 = .ok (.iconst 4, 1) := by decide +kernel
theorem dL_law_150 : decode cL_law 150 = .ok (.iadd, 1) := by decide +kernel
theorem dL_law_151 : decode cL_law 151 = .ok (.iaload, 1) := by decide +kernel
theorem dL_law_152 : decode cL_law 152 = .ok (.invokevirtual 18, 3) := by decide +kernel
theorem dL_law_155 : decode cL_law 155 = .ok (.aload_n 2, 1) := by decide +kernel
theorem dL_law_156 : decode cL_law 156 = .ok (.aload_n 0, 1) := by decide +kernel
theorem dL_law_157 : decode cL_law 157 = .ok (.iload_n 3, 1) := by decide +kernel
theorem dL_law_158 : decode cL_law 158 = .ok (.iconst 1, 1) := by decide +kernel
theorem dL_law_159 : decode cL_law 159 = .ok (.iadd, 1) := by decide +kernel
theorem dL_law_160 : decode cL_law 160 = .ok (.iaload, 1) := by decide +kernel
theorem dL_law_161 : decode cL_law 161 = .ok (.aload_n 0, 1) := by decide +kernel
theorem dL_law_162 : decode cL_law 162 = .ok (.iload_n 3, 1) := by decide +kernel
theorem dL_law_163 : decode cL_law 163 = .ok (.iconst 2, 1) := by decide +kernel
theorem dL_law_164 : decode cL_law 164 = .ok (.iadd, 1) := by decide +kernel
theorem dL_law_165 : decode cL_law 165 = .ok (.iaload, 1) := by decide +kernel
theorem dL_law_166 : decode cL_law 166 = .ok (.aload_n 0, 1) := by decide +kernel
theorem dL_law_167 : decode cL_law 167 = .ok (.iload_n 3, 1) := by decide +kernel
theorem dL_law_168 : decode cL_law 168 = .ok (.iconst 3, 1) := by decide +kernel
theorem dL_law_169 : decode cL_law 169 = .ok (.iadd, 1) := by decide +kernel
theorem dL_law_170 : decode cL_law 170 = .ok (.iaload, 1) := by decide +kernel
theorem dL_law_171 : decode cL_law 171 = .ok (.aload_n 0, 1) := by decide +kernel
theorem dL_law_172 : decode cL_law 172 = .ok (.iload_n 3, 1) := by decide +kernel
theorem dL_law_173 : decode cL_law 173 = .ok (.iconst 4, 1) := by decide +kernel
theorem dL_law_174 : decode cL_law 174 = .ok (.iadd, 1) := by decide +kernel
theorem dL_law_175 : decode cL_law 175 = .ok (.iaload, 1) := by decide +kernel
theorem dL_law_176 : decode cL_law 176 = .ok (.invokevirtual 22, 3) := by decide +kernel
theorem dL_law_179 : decode cL_law 179 = .ok (.if_icmp .eq 229, 3) := by decide +kernel
theorem dL_law_182 : decode cL_law 182 = .ok (.iconst 0, 1) := by decide +kernel
theorem dL_law_183 : decode cL_law 183 = .ok (.ireturn, 1) := by decide +kernel
theorem dL_law_184 : decode cL_law 184 = .ok (.aload_n 1, 1) := by decide +kernel
theorem dL_law_185 : decode cL_law 185 = .ok (.aload_n 0, 1) := by decide +kernel
theorem dL_law_186 : decode cL_law 186 = .ok (.iload_n 3, 1) := by decide +kernel
theorem dL_law_187 : decode cL_law 187 = .ok (.iconst 1, 1) := by decide +kernel
theorem dL_law_188 : decode cL_law 188 = .ok (.iadd, 1) := by decide +kernel
theorem dL_law_189 : decode cL_law 189 = .ok (.iaload, 1) := by decide +kernel
theorem dL_law_190 : decode cL_law 190 = .ok (.aload_n 0, 1) := by decide +kernel
theorem dL_law_191 : decode cL_law 191 = .ok (.iload_n 3, 1) := by decide +kernel
theorem dL_law_192 : decode cL_law 192 = .ok (.iconst 2, 1) := by decide +kernel
theorem dL_law_193 : decode cL_law 193 = .ok (.iadd, 1) := by decide +kernel
theorem dL_law_194 : decode cL_law 194 = .ok (.iaload, 1) := by decide +kernel
theorem dL_law_195 : decode cL_law 195 = .ok (.invokevirtual 23, 3) := by decide +kernel
theorem dL_law_198 : decode cL_law 198 = .ok (.aload_n 2, 1) := by decide +kernel
theorem dL_law_199 : decode cL_law 199 = .ok (.aload_n 0, 1) := by decide +kernel
theorem dL_law_200 : decode cL_law 200 = .ok (.iload_n 3, 1) := by decide +kernel
theorem dL_law_201 : decode cL_law 201 = .ok (.iconst 1, 1) := by decide +kernel
theorem dL_law_202 : decode cL_law 202 = .ok (.iadd, 1) := by decide +kernel
theorem dL_law_203 : decode cL_law 203 = .ok (.iaload, 1) := by decide +kernel
theorem dL_law_204 : decode cL_law 204 = .ok (.aload_n 0, 1) := by decide +kernel
theorem dL_law_205 : decode cL_law 205 = .ok (.iload_n 3, 1) := by decide +kernel
theorem dL_law_206 : decode cL_law 206 = .ok (.iconst 2, 1) := by decide +kernel
theorem dL_law_207 : decode cL_law 207 = .ok (.iadd, 1) := by decide +kernel
theorem dL_law_208 : decode cL_law 208 = .ok (.iaload, 1) := by decide +kernel
theorem dL_law_209 : decode cL_law 209 = .ok (.invokevirtual 27, 3) := by decide +kernel
theorem dL_law_212 : decode cL_law 212 = .ok (.if_icmp .eq 196, 3) := by decide +kernel
theorem dL_law_215 : decode cL_law 215 = .ok (.iconst 0, 1) := by decide +kernel
theorem dL_law_216 : decode cL_law 216 = .ok (.ireturn, 1) := by decide +kernel
theorem dL_law_217 : decode cL_law 217 = .ok (.aload_n 1, 1) := by decide +kernel
theorem dL_law_218 : decode cL_law 218 = .ok (.aload_n 0, 1) := by decide +kernel
theorem dL_law_219 : decode cL_law 219 = .ok (.iload_n 3, 1) := by decide +kernel
theorem dL_law_220 : decode cL_law 220 = .ok (.iconst 1, 1) := by decide +kernel
theorem dL_law_221 : decode cL_law 221 = .ok (.iadd, 1) := by decide +kernel
theorem dL_law_222 : decode cL_law 222 = .ok (.iaload, 1) := by decide +kernel
theorem dL_law_223 : decode cL_law 223 = .ok (.aload_n 0, 1) := by decide +kernel
theorem dL_law_224 : decode cL_law 224 = .ok (.iload_n 3, 1) := by decide +kernel
theorem dL_law_225 : decode cL_law 225 = .ok (.iconst 2, 1) := by decide +kernel
theorem dL_law_226 : decode cL_law 226 = .ok (.iadd, 1) := by decide +kernel
theorem dL_law_227 : decode cL_law 227 = .ok (.iaload, 1) := by decide +kernel
theorem dL_law_228 : decode cL_law 228 = .ok (.aload_n 0, 1) := by decide +kernel
theorem dL_law_229 : decode cL_law 229 = .ok (.iload_n 3, 1) := by decide +kernel
theorem dL_law_230 : decode cL_law 230 = .ok (.iconst 3, 1) := by decide +kernel
theorem dL_law_231 : decode cL_law 231 = .ok (.iadd, 1) := by decide +kernel
theorem dL_law_232 : decode cL_law 232 = .ok (.iaload, 1) := by decide +kernel
theorem dL_law_233 : decode cL_law 233 = .ok (.invokevirtual 28, 3) := by decide +kernel
theorem dL_law_236 : decode cL_law 236 = .ok (.aload_n 2, 1) := by decide +kernel
theorem dL_law_237 : decode cL_law 237 = .ok (.aload_n 0, 1) := by decide +kernel
theorem dL_law_238 : decode cL_law 238 = .ok (.iload_n 3, 1) := by decide +kernel
theorem dL_law_239 : decode cL_law 239 = .ok (.iconst 1, 1) := by decide +kernel
theorem dL_law_240 : decode cL_law 240 = .ok (.iadd, 1) := by decide +kernel
theorem dL_law_241 : decode cL_law 241 = .ok (.iaload, 1) := by decide +kernel
theorem dL_law_242 : decode cL_law 242 = .ok (.aload_n 0, 1) := by decide +kernel
theorem dL_law_243 : decode cL_law 243 = .ok (.iload_n 3, 1) := by decide +kernel
theorem dL_law_244 : decode cL_law 244 = .ok (.iconst 2, 1) := by decide +kernel
theorem dL_law_245 : decode cL_law 245 = .ok (.iadd, 1) := by decide +kernel
theorem dL_law_246 : decode cL_law 246 = .ok (.iaload, 1) := by decide +kernel
theorem dL_law_247 : decode cL_law 247 = .ok (.aload_n 0, 1) := by decide +kernel
theorem dL_law_248 : decode cL_law 248 = .ok (.iload_n 3, 1) := by decide +kernel
theorem dL_law_249 : decode cL_law 249 = .ok (.iconst 3, 1) := by decide +kernel
theorem dL_law_250 : decode cL_law 250 = .ok (.iadd, 1) := by decide +kernel
theorem dL_law_251 : decode cL_law 251 = .ok (.iaload, 1) := by decide +kernel
theorem dL_law_252 : decode cL_law 252 = .ok (.invokevirtual 31, 3) := by decide +kernel
theorem dL_law_255 : decode cL_law 255 = .ok (.if_icmp .eq 153, 3) := by decide +kernel
theorem dL_law_258 : decode cL_law 258 = .ok (.iconst 0, 1) := by decide +kernel
theorem dL_law_259 : decode cL_law 259 = .ok (.ireturn, 1) := by decide +kernel
theorem dL_law_260 : decode cL_law 260 = .ok (.aload_n 1, 1) := by decide +kernel
theorem dL_law_261 : decode cL_law 261 = .ok (.aload_n 0, 1) := by decide +kernel
theorem dL_law_262 : decode cL_law 262 = .ok (.iload_n 3, 1) := by decide +kernel
theorem dL_law_263 : decode cL_law 263 = .ok (.iconst 1, 1) := by decide +kernel
theorem dL_law_264 : decode cL_law 264 = .ok (.iadd, 1) := by decide +kernel
theorem dL_law_265 : decode cL_law 265 = .ok (.iaload, 1) := by decide +kernel
theorem dL_law_266 : decode cL_law 266 = .ok (.aload_n 0, 1) := by decide +kernel
theorem dL_law_267 : decode cL_law 267 = .ok (.iload_n 3, 1) := by decide +kernel
theorem dL_law_268 : decode cL_law 268 = .ok (.iconst 2, 1) := by decide +kernel
theorem dL_law_269 : decode cL_law 269 = .ok (.iadd, 1) := by decide +kernel
theorem dL_law_270 : decode cL_law 270 = .ok (.iaload, 1) := by decide +kernel
theorem dL_law_271 : decode cL_law 271 = .ok (.aload_n 0, 1) := by decide +kernel
theorem dL_law_272 : decode cL_law 272 = .ok (.iload_n 3, 1) := by decide +kernel
theorem dL_law_273 : decode cL_law 273 = .ok (.iconst 3, 1) := by decide +kernel
theorem dL_law_274 : decode cL_law 274 = .ok (.iadd, 1) := by decide +kernel
theorem dL_law_275 : decode cL_law 275 = .ok (.iaload, 1) := by decide +kernel
theorem dL_law_276 : decode cL_law 276 = .ok (.aload_n 0, 1) := by decide +kernel
theorem dL_law_277 : decode cL_law 277 = .ok (.iload_n 3, 1) := by decide +kernel
theorem dL_law_278 : decode cL_law 278 = .ok (.iconst 4, 1) := by decide +kernel
theorem dL_law_279 : decode cL_law 279 = .ok (.iadd, 1) := by decide +kernel
theorem dL_law_280 : decode cL_law 280 = .ok (.iaload, 1) := by decide +kernel
theorem dL_law_281 : decode cL_law 281 = .ok (.aload_n 0, 1) := by decide +kernel
theorem dL_law_282 : decode cL_law 282 = .ok (.iload_n 3, 1) := by decide +kernel
theorem dL_law_283 : decode cL_law 283 = .ok (.iconst 5, 1) := by decide +kernel
theorem dL_law_284 : decode cL_law 284 = .ok (.iadd, 1) := by decide +kernel
theorem dL_law_285 : decode cL_law 285 = .ok (.iaload, 1) := by decide +kernel
theorem dL_law_286 : decode cL_law 286 = .ok (.invokevirtual 32, 3) := by decide +kernel
theorem dL_law_289 : decode cL_law 289 = .ok (.aload_n 2, 1) := by decide +kernel
theorem dL_law_290 : decode cL_law 290 = .ok (.aload_n 0, 1) := by decide +kernel
theorem dL_law_291 : decode cL_law 291 = .ok (.iload_n 3, 1) := by decide +kernel
theorem dL_law_292 : decode cL_law 292 = .ok (.iconst 1, 1) := by decide +kernel
theorem dL_law_293 : decode cL_law 293 = .ok (.iadd, 1) := by decide +kernel
theorem dL_law_294 : decode cL_law 294 = .ok (.iaload, 1) := by decide +kernel
theorem dL_law_295 : decode cL_law 295 = .ok (.aload_n 0, 1) := by decide +kernel
theorem dL_law_296 : decode cL_law 296 = .ok (.iload_n 3, 1) := by decide +kernel
theorem dL_law_297 : decode cL_law 297 = .ok (.iconst 2, 1) := by decide +kernel
theorem dL_law_298 : decode cL_law 298 = .ok (.iadd, 1) := by decide +kernel
theorem dL_law_299 : decode cL_law 299 = .ok (.iaload, 1) := by decide +kernel
theorem dL_law_300 : decode cL_law 300 = .ok (.aload_n 0, 1) := by decide +kernel
theorem dL_law_301 : decode cL_law 301 = .ok (.iload_n 3, 1) := by decide +kernel
theorem dL_law_302 : decode cL_law 302 = .ok (.iconst 3, 1) := by decide +kernel
theorem dL_law_303 : decode cL_law 303 = .ok (.iadd, 1) := by decide +kernel
theorem dL_law_304 : decode cL_law 304 = .ok (.iaload, 1) := by decide +kernel
theorem dL_law_305 : decode cL_law 305 = .ok (.aload_n 0, 1) := by decide +kernel
theorem dL_law_306 : decode cL_law 306 = .ok (.iload_n 3, 1) := by decide +kernel
theorem dL_law_307 : decode cL_law 307 = .ok (.iconst 4, 1) := by decide +kernel
theorem dL_law_308 : decode cL_law 308 = .ok (.iadd, 1) := by decide +kernel
theorem dL_law_309 : decode cL_law 309 = .ok (.iaload, 1) := by decide +kernel
theorem dL_law_310 : decode cL_law 310 = .ok (.aload_n 0, 1) := by decide +kernel
theorem dL_law_311 : decode cL_law 311 = .ok (.iload_n 3, 1) := by decide +kernel
theorem dL_law_312 : decode cL_law 312 = .ok (.iconst 5, 1) := by decide +kernel
theorem dL_law_313 : decode cL_law 313 = .ok (.iadd, 1) := by decide +kernel
theorem dL_law_314 : decode cL_law 314 = .ok (.iaload, 1) := by decide +kernel
theorem dL_law_315 : decode cL_law 315 = .ok (.invokevirtual 36, 3) := by decide +kernel
theorem dL_law_318 : decode cL_law 318 = .ok (.if_icmp .eq 90, 3) := by decide +kernel
theorem dL_law_321 : decode cL_law 321 = .ok (.iconst 0, 1) := by decide +kernel
theorem dL_law_322 : decode cL_law 322 = .ok (.ireturn, 1) := by decide +kernel
theorem dL_law_323 : decode cL_law 323 = .ok (.aload_n 1, 1) := by decide +kernel
theorem dL_law_324 : decode cL_law 324 = .ok (.aload_n 0, 1) := by decide +kernel
theorem dL_law_325 : decode cL_law 325 = .ok (.iload_n 3, 1) := by decide +kernel
theorem dL_law_326 : decode cL_law 326 = .ok (.iconst 1, 1) := by decide +kernel
theorem dL_law_327 : decode cL_law 327 = .ok (.iadd, 1) := by decide +kernel
theorem dL_law_328 : decode cL_law 328 = .ok (.iaload, 1) := by decide +kernel
theorem dL_law_329 : decode cL_law 329 = .ok (.invokevirtual 37, 3) := by decide +kernel
theorem dL_law_332 : decode cL_law 332 = .ok (.aload_n 2, 1) := by decide +kernel
theorem dL_law_333 : decode cL_law 333 = .ok (.aload_n 0, 1) := by decide +kernel
theorem dL_law_334 : decode cL_law 334 = .ok (.iload_n 3, 1) := by decide +kernel
theorem dL_law_335 : decode cL_law 335 = .ok (.iconst 1, 1) := by decide +kernel
theorem dL_law_336 : decode cL_law 336 = .ok (.iadd, 1) := by decide +kernel
theorem dL_law_337 : decode cL_law 337 = .ok (.iaload, 1) := by decide +kernel
theorem dL_law_338 : decode cL_law 338 = .ok (.invokevirtual 41, 3) := by decide +kernel
theorem dL_law_341 : decode cL_law 341 = .ok (.if_icmp .eq 67, 3) := by decide +kernel
theorem dL_law_344 : decode cL_law 344 = .ok (.iconst 0, 1) := by decide +kernel
theorem dL_law_345 : decode cL_law 345 = .ok (.ireturn, 1) := by decide +kernel
theorem dL_law_346 : decode cL_law 346 = .ok (.aload_n 1, 1) := by decide +kernel
theorem dL_law_347 : decode cL_law 347 = .ok (.invokevirtual 42, 3) := by decide +kernel
theorem dL_law_350 : decode cL_law 350 = .ok (.aload_n 2, 1) := by decide +kernel
theorem dL_law_351 : decode cL_law 351 = .ok (.invokevirtual 46, 3) := by decide +kernel
theorem dL_law_354 : decode cL_law 354 = .ok (.if_icmp .eq 54, 3) := by decide +kernel
theorem dL_law_357 : decode cL_law 357 = .ok (.iconst 0, 1) := by decide +kernel
theorem dL_law_358 : decode cL_law 358 = .ok (.ireturn, 1) := by decide +kernel
theorem dL_law_359 : decode cL_law 359 = .ok (.aload_n 1, 1) := by decide +kernel
theorem dL_law_360 : decode cL_law 360 = .ok (.invokevirtual 47, 3) := by decide +kernel
theorem dL_law_363 : decode cL_law 363 = .ok (.aload_n 2, 1) := by decide +kernel
theorem dL_law_364 : decode cL_law 364 = .ok (.invokevirtual 50, 3) := by decide +kernel
theorem dL_law_367 : decode cL_law 367 = .ok (.if_icmp .eq 41, 3) := by decide +kernel
theorem dL_law_370 : decode cL_law 370 = .ok (.iconst 0, 1) := by decide +kernel
theorem dL_law_371 : decode cL_law 371 = .ok (.ireturn, 1) := by decide +kernel
theorem dL_law_372 : decode cL_law 372 = .ok (.aload_n 1, 1) := by decide +kernel
theorem dL_law_373 : decode cL_law 373 = .ok (.invokevirtual 51, 3) := by decide +kernel
theorem dL_law_376 : decode cL_law 376 = .ok (.aload_n 2, 1) := by decide +kernel
theorem dL_law_377 : decode cL_law 377 = .ok (.invokevirtual 54, 3) := by decide +kernel
theorem dL_law_380 : decode cL_law 380 = .ok (.if_icmp .eq 28, 3) := by decide +kernel
theorem dL_law_383 : decode cL_law 383 = .ok (.iconst 0, 1) := by decide +kernel
theorem dL_law_384 : decode cL_law 384 = .ok (.ireturn, 1) := by decide +kernel
theorem dL_law_385 : decode cL_law 385 = .ok (.aload_n 1, 1) := by decide +kernel
theorem dL_law_386 : decode cL_law 386 = .ok (.aload_n 0, 1) := by decide +kernel
theorem dL_law_387 : decode cL_law 387 = .ok (.iload_n 3, 1) := by decide +kernel
theorem dL_law_388 : decode cL_law 388 = .ok (.iconst 1, 1) := by decide +kernel
theorem dL_law_389 : decode cL_law 389 = .ok (.iadd, 1) := by decide +kernel
theorem dL_law_390 : decode cL_law 390 = .ok (.iaload, 1) := by decide +kernel
theorem dL_law_391 : decode cL_law 391 = .ok (.invokevirtual 55, 3) := by decide +kernel
theorem dL_law_394 : decode cL_law 394 = .ok (.aload_n 2, 1) := by decide +kernel
theorem dL_law_395 : decode cL_law 395 = .ok (.aload_n 0, 1) := by decide +kernel
theorem dL_law_396 : decode cL_law 396 = .ok (.iload_n 3, 1) := by decide +kernel
theorem dL_law_397 : decode cL_law 397 = .ok (.iconst 1, 1) := by decide +kernel
theorem dL_law_398 : decode cL_law 398 = .ok (.iadd, 1) := by decide +kernel
theorem dL_law_399 : decode cL_law 399 = .ok (.iaload, 1) := by decide +kernel
theorem dL_law_400 : decode cL_law 400 = .ok (.invokevirtual 58, 3) := by decide +kernel
theorem dL_law_403 : decode cL_law 403 = .ok (.if_icmp .eq 5, 3) := by decide +kernel
theorem dL_law_406 : decode cL_law 406 = .ok (.iconst 0, 1) := by decide +kernel
theorem dL_law_407 : decode cL_law 407 = .ok (.ireturn, 1) := by decide +kernel
theorem dL_law_408 : decode cL_law 408 = .ok (.iinc 3 6, 3) := by decide +kernel
theorem dL_law_411 : decode cL_law 411 = .ok (.goto (-393), 3) := by decide +kernel
theorem dL_law_414 : decode cL_law 414 = .ok (.iconst 1, 1) := by decide +kernel
theorem dL_law_415 : decode cL_law 415 = .ok (.ireturn, 1) := by decide +kernel
end
section
/-! ===== the reference's small methods ===== -/
def a_w (I : Nat → Nat → Int32) (h k : Nat) (x : Int32) : Nat → Nat → Int32 := fun h' k' => if h' = h ∧ k' = k then x else I h' k'
def a_mref (k : Nat) : Bool := (decide (1 ≤ k) && decide (k ≤ 9)) || ((decide (14 ≤ k) && decide (k ≤ 18)) || decide (k = 22))
def a_SR (F : Nat → Nat → Option Nat) : Nat → Nat → Option Nat := fun h k =>
  if h = 0 then (if k < 4 then some (k + 1) else none)
  else if h = 1 then (if k < 4 then some (6 + k) else none)
  else if h = 4 then (if k = 0 then some 5 else none)
  else if h = 16 then (if a_mref k = true then some (16 + k) else none)
  else F h k
def a_LV (B : Nat → Bool) : Nat → Bool := fun h => a_mnh h || (decide (h = 0) || (decide (h = 2) || (decide (h = 3) || (decide (h = 4) || (decide (h = 5) || (decide (h = 16) || ((decide (17 ≤ h) && a_mref (h - 16)) || (decide (64 ≤ h) && B h))))))))
abbrev a_mk (I : Nat → Nat → Int32) (F : Nat → Nat → Option Nat) (B : Nat → Bool) : aS := (I, a_SR F, a_LV B)
abbrev a_ni : Nat → Option (aL → List aV → aS → Nat → Nat → Prop) := fun _ => none
theorem a_nih : ∀ {X : a_X} (pc : Nat) (I : aL → List aV → aS → Nat → Nat → Prop), a_ni pc = some I → ∀ L st σ kc ks, I L st σ kc ks → a_J X pc L st σ kc ks := fun pc I e => by cases e
def m_in (v lo hi : Int32) : Int32 := if v < lo then 0 else if hi < v then 0 else 1
def sp_X3_in : aP := fun as σ K => ∃ v lo hi, as = [.inl v, .inl lo, .inl hi] ∧ K (some (.inl (m_in v lo hi))) σ
def P_X3_in (K : aK) (bc bs : Nat) : List (Nat × aT) := [(0, t_ild 0 1),
  (1, t_ild 1 2),
  (2, t_ifc (fun x y => x < y) 14 5),
  (5, t_ild 0 6),
  (6, t_ild 2 7),
  (7, t_ifc (fun x y => y < x) 14 10),
  (10, t_ic 1 11),
  (11, t_goto 15),
  (14, t_ic 0 15),
  (15, t_zret K bc bs)]
set_option maxRecDepth 100000 in
theorem S_X3_in {X : a_X} {K : aK} {l : Launch} {D : va_G} {G : aG} {N0 : Nat} (C : a_C X cX3_in (some .boolean) RX3) (Y : a_Y X l (a_rm 1 0 0) D G N0) (M : a_mq X K (a_rm 1 0 0).cells (a_rm 1 0 0).slots) : ∀ x ∈ P_X3_in K 0 0, a_Sd X x.1 x.2 := by
  unfold P_X3_in
  refine List.forall_mem_cons.mpr ⟨s_ildn C dX3_in_0 rfl, ?_⟩
  refine List.forall_mem_cons.mpr ⟨s_ildn C dX3_in_1 rfl, ?_⟩
  refine List.forall_mem_cons.mpr ⟨s_icmp_lt C dX3_in_2 (by decide), ?_⟩
  refine List.forall_mem_cons.mpr ⟨s_ildn C dX3_in_5 rfl, ?_⟩
  refine List.forall_mem_cons.mpr ⟨s_ildn C dX3_in_6 rfl, ?_⟩
  refine List.forall_mem_cons.mpr ⟨s_icmp_gt C dX3_in_7 (by decide), ?_⟩
  refine List.forall_mem_cons.mpr ⟨s_ic C dX3_in_10 (by decide), ?_⟩
  refine List.forall_mem_cons.mpr ⟨s_goto C dX3_in_11 (by decide), ?_⟩
  refine List.forall_mem_cons.mpr ⟨s_ic C dX3_in_14 (by decide), ?_⟩
  refine List.forall_mem_cons.mpr ⟨s_zret C M dX3_in_15, ?_⟩
  exact fun _ h => absurd h List.not_mem_nil
theorem con_X3_in {l : Launch} {D : va_G} {G : aG} {N0 : Nat} : a_Con l D G N0 yX3_in cX3_in 3 (some .boolean) (a_rm 1 0 0) sp_X3_in := by
  refine a_con (by decide) (fun as σ K h => by obtain ⟨v, lo, hi, rfl, -⟩ := h; exact Nat.le_refl _) ?_
  intro X as σ K h C Y M _
  obtain ⟨v, lo, hi, rfl, hK⟩ := h
  refine a_wps (S_X3_in C Y M) (inv := a_ni) a_nih 20 _ _ _ _ _ _ ?_
  refine ⟨fun h1 => ?_, fun h1 => ⟨fun h2 => ?_, fun h2 => ?_⟩⟩
  · rw [show m_in v lo hi = 0 from if_pos h1] at hK
    exact ⟨Or.inl rfl, hK⟩
  · rw [show m_in v lo hi = 0 by unfold m_in; rw [if_neg h1, if_pos h2]] at hK
    exact ⟨Or.inl rfl, hK⟩
  · rw [show m_in v lo hi = 1 by unfold m_in; rw [if_neg h1, if_neg h2]] at hK
    exact ⟨Or.inr rfl, hK⟩
def sp_X3_isPattern : aP := fun as σ K => ∃ I F B p, σ = a_mk I F B ∧ as = [.inr (some 16), .inl p] ∧ K (some (.inl (m_in p 0 (I 16 0 - 1)))) σ
theorem rc_X3_isPattern : ∀ as σ K, sp_X3_isPattern as σ K → ∃ h As, as = .inr (some h) :: As ∧ a_is σ h 3 25 = true := by
  rintro as σ K ⟨I, F, B, p, rfl, rfl, -⟩
  exact ⟨16, _, rfl, rfl⟩
def P_X3_isPattern (K : aK) (bc bs : Nat) : List (Nat × aT) := [(0, t_ild 1 1),
  (1, t_ic 0 2),
  (2, t_ald 0 3),
  (3, t_geti 3 25 0 6),
  (6, t_ic 1 7),
  (7, t_sub 8),
  (8, t_call 3 0 0 bc bs sp_X3_in 11),
  (11, t_zret K bc bs)]
set_option maxRecDepth 100000 in
theorem S_X3_isPattern {X : a_X} {K : aK} {l : Launch} {D : va_G} {G : aG} {N0 : Nat} (C : a_C X cX3_isPattern (some .boolean) RX3) (Y : a_Y X l (a_rm 2 0 0) D G N0) (M : a_mq X K (a_rm 2 0 0).cells (a_rm 2 0 0).slots) : ∀ x ∈ P_X3_isPattern K 0 0, a_Sd X x.1 x.2 := by
  unfold P_X3_isPattern
  refine List.forall_mem_cons.mpr ⟨s_ildn C dX3_isPattern_0 rfl, ?_⟩
  refine List.forall_mem_cons.mpr ⟨s_ic C dX3_isPattern_1 (by decide), ?_⟩
  refine List.forall_mem_cons.mpr ⟨s_aldn C dX3_isPattern_2 rfl, ?_⟩
  refine List.forall_mem_cons.mpr ⟨s_geti C rfl in_X3 (by decide) lk_X3_55 rfl dX3_isPattern_3, ?_⟩
  refine List.forall_mem_cons.mpr ⟨s_ic C dX3_isPattern_6 (by decide), ?_⟩
  refine List.forall_mem_cons.mpr ⟨s_sub C dX3_isPattern_7, ?_⟩
  refine List.forall_mem_cons.mpr ⟨s_callS (rm := (a_rm 1 0 0)) C Y con_X3_in co_X3_in ml_X3_59 st_X3_in ii_X3 (by decide +kernel) ⟨by decide, by decide⟩ ⟨rfl, rfl⟩ dX3_isPattern_8, ?_⟩
  refine List.forall_mem_cons.mpr ⟨s_zret C M dX3_isPattern_11, ?_⟩
  exact fun _ h => absurd h List.not_mem_nil
theorem con_X3_isPattern {l : Launch} {D : va_G} {G : aG} {N0 : Nat} : a_Con l D G N0 yX3_isPattern cX3_isPattern 2 (some .boolean) (a_rm 2 0 0) sp_X3_isPattern := by
  refine a_con (by decide) (fun as σ K h => by obtain ⟨I, F, B, p, rfl, rfl, -⟩ := h; exact Nat.le_refl _) ?_
  intro X as σ K h C Y M _
  obtain ⟨I, F, B, p, rfl, rfl, hK⟩ := h
  refine a_wps (S_X3_isPattern C Y M) (inv := a_ni) a_nih 20 _ _ _ _ _ _ ?_
  refine ⟨p, 0, I 16 0 - 1, rfl, ?_, hK⟩
  unfold m_in
  split
  · exact Or.inl rfl
  · split
    · exact Or.inl rfl
    · exact Or.inr rfl
def m_tells (I : Nat → Nat → Int32) (v : Int32) : Nat → Nat → Int32 := a_w (a_w I 16 21 v) 16 13 (I 16 13 - 1)
def sp_X3_tells : aP := fun as σ K => ∃ I F B v, σ = a_mk I F B ∧ as = [.inr (some 16), .inl v] ∧ K none (a_mk (m_tells I v) F B)
theorem rc_X3_tells : ∀ as σ K, sp_X3_tells as σ K → ∃ h As, as = .inr (some h) :: As ∧ a_is σ h 3 25 = true := by
  rintro as σ K ⟨I, F, B, p, rfl, rfl, -⟩
  exact ⟨16, _, rfl, rfl⟩
def P_X3_tells (K : aK) (bc bs : Nat) : List (Nat × aT) := [(0, t_ald 0 1),
  (1, t_ild 1 2),
  (2, t_puti 3 25 21 5),
  (5, t_ald 0 6),
  (6, t_dup 7),
  (7, t_geti 3 25 13 10),
  (10, t_ic 1 11),
  (11, t_sub 12),
  (12, t_puti 3 25 13 15),
  (15, t_vret K bc bs)]
set_option maxRecDepth 100000 in
theorem S_X3_tells {X : a_X} {K : aK} {l : Launch} {D : va_G} {G : aG} {N0 : Nat} (C : a_C X cX3_tells none RX3) (Y : a_Y X l (a_rm 1 0 0) D G N0) (M : a_mq X K (a_rm 1 0 0).cells (a_rm 1 0 0).slots) : ∀ x ∈ P_X3_tells K 0 0, a_Sd X x.1 x.2 := by
  unfold P_X3_tells
  refine List.forall_mem_cons.mpr ⟨s_aldn C dX3_tells_0 rfl, ?_⟩
  refine List.forall_mem_cons.mpr ⟨s_ildn C dX3_tells_1 rfl, ?_⟩
  refine List.forall_mem_cons.mpr ⟨s_puti C tyX3 tyX3_ok nmX3 rfl in_X3 (by decide) lk_X3_83 rfl (Or.inl rfl) rfl dX3_tells_2, ?_⟩
  refine List.forall_mem_cons.mpr ⟨s_aldn C dX3_tells_5 rfl, ?_⟩
  refine List.forall_mem_cons.mpr ⟨s_dup C dX3_tells_6, ?_⟩
  refine List.forall_mem_cons.mpr ⟨s_geti C rfl in_X3 (by decide) lk_X3_80 rfl dX3_tells_7, ?_⟩
  refine List.forall_mem_cons.mpr ⟨s_ic C dX3_tells_10 (by decide), ?_⟩
  refine List.forall_mem_cons.mpr ⟨s_sub C dX3_tells_11, ?_⟩
  refine List.forall_mem_cons.mpr ⟨s_puti C tyX3 tyX3_ok nmX3 rfl in_X3 (by decide) lk_X3_80 rfl (Or.inl rfl) rfl dX3_tells_12, ?_⟩
  refine List.forall_mem_cons.mpr ⟨s_vret C M dX3_tells_15, ?_⟩
  exact fun _ h => absurd h List.not_mem_nil
theorem con_X3_tells {l : Launch} {D : va_G} {G : aG} {N0 : Nat} : a_Con l D G N0 yX3_tells cX3_tells 2 none (a_rm 1 0 0) sp_X3_tells := by
  refine a_con (by decide) (fun as σ K h => by obtain ⟨I, F, B, p, rfl, rfl, -⟩ := h; exact Nat.le_refl _) ?_
  intro X as σ K h C Y M _
  obtain ⟨I, F, B, v, rfl, rfl, hK⟩ := h
  refine a_wps (S_X3_tells C Y M) (inv := a_ni) a_nih 20 _ _ _ _ _ _ ?_
  exact hK
def m_push (I : Nat → Nat → Int32) (c x y : Int32) : Nat → Nat → Int32 :=
  if I 16 19 = 100 then a_w I 16 20 4
  else if c = -1 then a_w (a_w I 16 19 (I 16 19 + 1)) 16 20 3
  else a_w (a_w (a_w (a_w (a_w (a_w I 16 19 (I 16 19 + 1)) 30 (I 16 13).toNatClampNeg c) 31 (I 16 13).toNatClampNeg x) 32 (I 16 13).toNatClampNeg y) 33 (I 16 13).toNatClampNeg 0) 16 13 (I 16 13 + 1)
def sp_X3_push : aP := fun as σ K => ∃ I F B c x y, σ = a_mk I F B ∧ as = [.inr (some 16), .inl c, .inl x, .inl y] ∧ (¬ I 16 19 = 100 → ¬ c = -1 → vp_in (I 16 13) 104) ∧ K none (a_mk (m_push I c x y) F B)
theorem rc_X3_push : ∀ as σ K, sp_X3_push as σ K → ∃ h As, as = .inr (some h) :: As ∧ a_is σ h 3 25 = true := by
  rintro as σ K ⟨I, F, B, c, x, y, rfl, rfl, -⟩
  exact ⟨16, _, rfl, rfl⟩
def P_X3_push (K : aK) (bc bs : Nat) : List (Nat × aT) := [(0, t_ald 0 1),
  (1, t_geti 3 25 19 4),
  (4, t_ic 100 6),
  (6, t_ifc (fun x y => x = y) 9 15),
  (9, t_ald 0 10),
  (10, t_ic 4 11),
  (11, t_puti 3 25 20 14),
  (14, t_vret K bc bs),
  (15, t_ald 0 16),
  (16, t_dup 17),
  (17, t_geti 3 25 19 20),
  (20, t_ic 1 21),
  (21, t_add 22),
  (22, t_puti 3 25 19 25),
  (25, t_ild 1 26),
  (26, t_ic (-1) 27),
  (27, t_ifc (fun x y => x = y) 30 36),
  (30, t_ald 0 31),
  (31, t_ic 3 32),
  (32, t_puti 3 25 20 35),
  (35, t_vret K bc bs),
  (36, t_ald 0 37),
  (37, t_getr 3 25 14 40),
  (40, t_ald 0 41),
  (41, t_geti 3 25 13 44),
  (44, t_ild 1 45),
  (45, t_iast 46),
  (46, t_ald 0 47),
  (47, t_getr 3 25 15 50),
  (50, t_ald 0 51),
  (51, t_geti 3 25 13 54),
  (54, t_ild 2 55),
  (55, t_iast 56),
  (56, t_ald 0 57),
  (57, t_getr 3 25 16 60),
  (60, t_ald 0 61),
  (61, t_geti 3 25 13 64),
  (64, t_ild 3 65),
  (65, t_iast 66),
  (66, t_ald 0 67),
  (67, t_getr 3 25 17 70),
  (70, t_ald 0 71),
  (71, t_geti 3 25 13 74),
  (74, t_ic 0 75),
  (75, t_iast 76),
  (76, t_ald 0 77),
  (77, t_dup 78),
  (78, t_geti 3 25 13 81),
  (81, t_ic 1 82),
  (82, t_add 83),
  (83, t_puti 3 25 13 86),
  (86, t_vret K bc bs)]
set_option maxRecDepth 100000 in
theorem S_X3_push {X : a_X} {K : aK} {l : Launch} {D : va_G} {G : aG} {N0 : Nat} (C : a_C X cX3_push none RX3) (Y : a_Y X l (a_rm 1 0 0) D G N0) (M : a_mq X K (a_rm 1 0 0).cells (a_rm 1 0 0).slots) : ∀ x ∈ P_X3_push K 0 0, a_Sd X x.1 x.2 := by
  unfold P_X3_push
  refine List.forall_mem_cons.mpr ⟨s_aldn C dX3_push_0 rfl, ?_⟩
  refine List.forall_mem_cons.mpr ⟨s_geti C rfl in_X3 (by decide) lk_X3_74 rfl dX3_push_1, ?_⟩
  refine List.forall_mem_cons.mpr ⟨s_bi C dX3_push_4 (by decide), ?_⟩
  refine List.forall_mem_cons.mpr ⟨s_icmp_ne C dX3_push_6 (by decide), ?_⟩
  refine List.forall_mem_cons.mpr ⟨s_aldn C dX3_push_9 rfl, ?_⟩
  refine List.forall_mem_cons.mpr ⟨s_ic C dX3_push_10 (by decide), ?_⟩
  refine List.forall_mem_cons.mpr ⟨s_puti C tyX3 tyX3_ok nmX3 rfl in_X3 (by decide) lk_X3_77 rfl (Or.inl rfl) rfl dX3_push_11, ?_⟩
  refine List.forall_mem_cons.mpr ⟨s_vret C M dX3_push_14, ?_⟩
  refine List.forall_mem_cons.mpr ⟨s_aldn C dX3_push_15 rfl, ?_⟩
  refine List.forall_mem_cons.mpr ⟨s_dup C dX3_push_16, ?_⟩
  refine List.forall_mem_cons.mpr ⟨s_geti C rfl in_X3 (by decide) lk_X3_74 rfl dX3_push_17, ?_⟩
  refine List.forall_mem_cons.mpr ⟨s_ic C dX3_push_20 (by decide), ?_⟩
  refine List.forall_mem_cons.mpr ⟨s_add C dX3_push_21, ?_⟩
  refine List.forall_mem_cons.mpr ⟨s_puti C tyX3 tyX3_ok nmX3 rfl in_X3 (by decide) lk_X3_74 rfl (Or.inl rfl) rfl dX3_push_22, ?_⟩
  refine List.forall_mem_cons.mpr ⟨s_ildn C dX3_push_25 rfl, ?_⟩
  refine List.forall_mem_cons.mpr ⟨s_ic C dX3_push_26 (by decide), ?_⟩
  refine List.forall_mem_cons.mpr ⟨s_icmp_ne C dX3_push_27 (by decide), ?_⟩
  refine List.forall_mem_cons.mpr ⟨s_aldn C dX3_push_30 rfl, ?_⟩
  refine List.forall_mem_cons.mpr ⟨s_ic C dX3_push_31 (by decide), ?_⟩
  refine List.forall_mem_cons.mpr ⟨s_puti C tyX3 tyX3_ok nmX3 rfl in_X3 (by decide) lk_X3_77 rfl (Or.inl rfl) rfl dX3_push_32, ?_⟩
  refine List.forall_mem_cons.mpr ⟨s_vret C M dX3_push_35, ?_⟩
  refine List.forall_mem_cons.mpr ⟨s_aldn C dX3_push_36 rfl, ?_⟩
  refine List.forall_mem_cons.mpr ⟨s_getr C rfl in_X3 (by decide) lk_X3_37 rfl dX3_push_37, ?_⟩
  refine List.forall_mem_cons.mpr ⟨s_aldn C dX3_push_40 rfl, ?_⟩
  refine List.forall_mem_cons.mpr ⟨s_geti C rfl in_X3 (by decide) lk_X3_80 rfl dX3_push_41, ?_⟩
  refine List.forall_mem_cons.mpr ⟨s_ildn C dX3_push_44 rfl, ?_⟩
  refine List.forall_mem_cons.mpr ⟨s_iast C dX3_push_45, ?_⟩
  refine List.forall_mem_cons.mpr ⟨s_aldn C dX3_push_46 rfl, ?_⟩
  refine List.forall_mem_cons.mpr ⟨s_getr C rfl in_X3 (by decide) lk_X3_40 rfl dX3_push_47, ?_⟩
  refine List.forall_mem_cons.mpr ⟨s_aldn C dX3_push_50 rfl, ?_⟩
  refine List.forall_mem_cons.mpr ⟨s_geti C rfl in_X3 (by decide) lk_X3_80 rfl dX3_push_51, ?_⟩
  refine List.forall_mem_cons.mpr ⟨s_ildn C dX3_push_54 rfl, ?_⟩
  refine List.forall_mem_cons.mpr ⟨s_iast C dX3_push_55, ?_⟩
  refine List.forall_mem_cons.mpr ⟨s_aldn C dX3_push_56 rfl, ?_⟩
  refine List.forall_mem_cons.mpr ⟨s_getr C rfl in_X3 (by decide) lk_X3_43 rfl dX3_push_57, ?_⟩
  refine List.forall_mem_cons.mpr ⟨s_aldn C dX3_push_60 rfl, ?_⟩
  refine List.forall_mem_cons.mpr ⟨s_geti C rfl in_X3 (by decide) lk_X3_80 rfl dX3_push_61, ?_⟩
  refine List.forall_mem_cons.mpr ⟨s_ildn C dX3_push_64 rfl, ?_⟩
  refine List.forall_mem_cons.mpr ⟨s_iast C dX3_push_65, ?_⟩
  refine List.forall_mem_cons.mpr ⟨s_aldn C dX3_push_66 rfl, ?_⟩
  refine List.forall_mem_cons.mpr ⟨s_getr C rfl in_X3 (by decide) lk_X3_46 rfl dX3_push_67, ?_⟩
  refine List.forall_mem_cons.mpr ⟨s_aldn C dX3_push_70 rfl, ?_⟩
  refine List.forall_mem_cons.mpr ⟨s_geti C rfl in_X3 (by decide) lk_X3_80 rfl dX3_push_71, ?_⟩
  refine List.forall_mem_cons.mpr ⟨s_ic C dX3_push_74 (by decide), ?_⟩
  refine List.forall_mem_cons.mpr ⟨s_iast C dX3_push_75, ?_⟩
  refine List.forall_mem_cons.mpr ⟨s_aldn C dX3_push_76 rfl, ?_⟩
  refine List.forall_mem_cons.mpr ⟨s_dup C dX3_push_77, ?_⟩
  refine List.forall_mem_cons.mpr ⟨s_geti C rfl in_X3 (by decide) lk_X3_80 rfl dX3_push_78, ?_⟩
  refine List.forall_mem_cons.mpr ⟨s_ic C dX3_push_81 (by decide), ?_⟩
  refine List.forall_mem_cons.mpr ⟨s_add C dX3_push_82, ?_⟩
  refine List.forall_mem_cons.mpr ⟨s_puti C tyX3 tyX3_ok nmX3 rfl in_X3 (by decide) lk_X3_80 rfl (Or.inl rfl) rfl dX3_push_83, ?_⟩
  refine List.forall_mem_cons.mpr ⟨s_vret C M dX3_push_86, ?_⟩
  exact fun _ h => absurd h List.not_mem_nil
theorem con_X3_push {l : Launch} {D : va_G} {G : aG} {N0 : Nat} : a_Con l D G N0 yX3_push cX3_push 4 none (a_rm 1 0 0) sp_X3_push := by
  refine a_con (by decide) (fun as σ K h => by obtain ⟨I, F, B, c, x, y, rfl, rfl, -⟩ := h; exact Nat.le_refl _) ?_
  intro X as σ K h C Y M _
  obtain ⟨I, F, B, c, x, y, rfl, rfl, hv, hK⟩ := h
  refine a_wps (S_X3_push C Y M) (inv := a_ni) a_nih 80 _ _ _ _ _ _ ?_
  refine ⟨fun h1 => ?_, fun h1 => ⟨fun h2 => ?_, fun h2 => ?_⟩⟩
  · rw [show m_push I c x y = _ from if_pos h1] at hK
    exact hK
  · rw [show m_push I c x y = _ by unfold m_push; rw [if_neg h1, if_pos h2]] at hK
    exact hK
  · rw [show m_push I c x y = _ by unfold m_push; rw [if_neg h1, if_neg h2]] at hK
    have hv := hv h1 h2
    exact ⟨hv, hv, hv, hv, hK⟩
end
section
/-! ===== the reference's middle methods ===== -/
theorem m_in_n {v : Int32} {b : Nat} (hb : b < 2 ^ 31) (h : ¬ m_in v 0 (nI b) = 0) : ∃ j, j ≤ b ∧ v = nI j := by
  unfold m_in at h
  by_cases h1 : v < 0
  · rw [if_pos h1] at h; exact absurd rfl h
  · by_cases h2 : nI b < v
    · rw [if_neg h1, if_pos h2] at h; exact absurd rfl h
    · obtain ⟨j, hj, rfl⟩ := nI_of h1
      exact ⟨j, Nat.not_lt.mp (fun w => h2 (nI_lt w hj)), rfl⟩
theorem m_in_y {j b : Nat} (hb : b < 2 ^ 31) (h : j ≤ b) : m_in (nI j) 0 (nI b) = 1 := by
  unfold m_in
  rw [if_neg (nI_pos (by omega)), if_neg (nI_nlt h (by omega))]
theorem m_in_01 (v lo hi : Int32) : m_in v lo hi = 0 ∨ m_in v lo hi = 1 := by
  unfold m_in
  split
  · exact Or.inl rfl
  · split
    · exact Or.inl rfl
    · exact Or.inr rfl
theorem a_8 {d i : Nat} (hd : d < 60) (hi : i < 8) : (8 : Int32) * nI d + nI i = nI (8 * d + i) := by
  rw [show (8 : Int32) = nI 8 from rfl, pk_mul, nI_add]
theorem a_8in {d i : Nat} (hd : d < 4) (hi : i < 8) : vp_in ((8 : Int32) * nI d + nI i) 32 := by
  rw [a_8 (by omega) hi]
  exact vp_in_nI (by omega) (by decide)
def m_tellsOf (I : Nat → Nat → Int32) (i v more : Int32) : Nat → Nat → Int32 := if m_in i 0 7 = 0 then a_w I 16 20 2 else m_tells I (v + more)
def sp_X3_tellsOf : aP := fun as σ K => ∃ I F B i v more, σ = a_mk I F B ∧ as = [.inr (some 16), .inl i, .inl v, .inl more] ∧ K none (a_mk (m_tellsOf I i v more) F B)
theorem rc_X3_tellsOf : ∀ as σ K, sp_X3_tellsOf as σ K → ∃ h As, as = .inr (some h) :: As ∧ a_is σ h 3 25 = true := by
  rintro as σ K ⟨I, F, B, c, x, y, rfl, rfl, -⟩
  exact ⟨16, _, rfl, rfl⟩
def P_X3_tellsOf (K : aK) (bc bs : Nat) : List (Nat × aT) := [(0, t_ild 1 1),
  (1, t_ic 0 2),
  (2, t_ic 7 4),
  (4, t_call 3 0 0 bc bs sp_X3_in 7),
  (7, t_if (fun x => x = 0) 20 10),
  (10, t_ald 0 11),
  (11, t_ild 2 12),
  (12, t_ild 3 13),
  (13, t_add 14),
  (14, t_call 2 0 0 bc bs sp_X3_tells 17),
  (17, t_goto 25),
  (20, t_ald 0 21),
  (21, t_ic 2 22),
  (22, t_puti 3 25 20 25),
  (25, t_vret K bc bs)]
set_option maxRecDepth 100000 in
theorem S_X3_tellsOf {X : a_X} {K : aK} {l : Launch} {D : va_G} {G : aG} {N0 : Nat} (C : a_C X cX3_tellsOf none RX3) (Y : a_Y X l (a_rm 2 0 0) D G N0) (M : a_mq X K (a_rm 2 0 0).cells (a_rm 2 0 0).slots) : ∀ x ∈ P_X3_tellsOf K 0 0, a_Sd X x.1 x.2 := by
  unfold P_X3_tellsOf
  refine List.forall_mem_cons.mpr ⟨s_ildn C dX3_tellsOf_0 rfl, ?_⟩
  refine List.forall_mem_cons.mpr ⟨s_ic C dX3_tellsOf_1 (by decide), ?_⟩
  refine List.forall_mem_cons.mpr ⟨s_bi C dX3_tellsOf_2 (by decide), ?_⟩
  refine List.forall_mem_cons.mpr ⟨s_callS (rm := (a_rm 1 0 0)) C Y con_X3_in co_X3_in ml_X3_59 st_X3_in ii_X3 (by decide +kernel) ⟨by decide, by decide⟩ ⟨rfl, rfl⟩ dX3_tellsOf_4, ?_⟩
  refine List.forall_mem_cons.mpr ⟨s_if_eq C dX3_tellsOf_7 (by decide), ?_⟩
  refine List.forall_mem_cons.mpr ⟨s_aldn C dX3_tellsOf_10 rfl, ?_⟩
  refine List.forall_mem_cons.mpr ⟨s_ildn C dX3_tellsOf_11 rfl, ?_⟩
  refine List.forall_mem_cons.mpr ⟨s_ildn C dX3_tellsOf_12 rfl, ?_⟩
  refine List.forall_mem_cons.mpr ⟨s_add C dX3_tellsOf_13, ?_⟩
  refine List.forall_mem_cons.mpr ⟨s_callV (rm := (a_rm 1 0 0)) (n := 1) C Y (ci := 3) rfl con_X3_tells rc_X3_tells co_X3_tells ml_X3_86 im_X3_tells se_X3_tells ii_X3 (by decide +kernel) ⟨by decide, by decide⟩ ⟨rfl, rfl⟩ dX3_tellsOf_14, ?_⟩
  refine List.forall_mem_cons.mpr ⟨s_goto C dX3_tellsOf_17 (by decide), ?_⟩
  refine List.forall_mem_cons.mpr ⟨s_aldn C dX3_tellsOf_20 rfl, ?_⟩
  refine List.forall_mem_cons.mpr ⟨s_ic C dX3_tellsOf_21 (by decide), ?_⟩
  refine List.forall_mem_cons.mpr ⟨s_puti C tyX3 tyX3_ok nmX3 rfl in_X3 (by decide) lk_X3_77 rfl (Or.inl rfl) rfl dX3_tellsOf_22, ?_⟩
  refine List.forall_mem_cons.mpr ⟨s_vret C M dX3_tellsOf_25, ?_⟩
  exact fun _ h => absurd h List.not_mem_nil
theorem con_X3_tellsOf {l : Launch} {D : va_G} {G : aG} {N0 : Nat} : a_Con l D G N0 yX3_tellsOf cX3_tellsOf 4 none (a_rm 2 0 0) sp_X3_tellsOf := by
  refine a_con (by decide) (fun as σ K h => by obtain ⟨I, F, B, c, x, y, rfl, rfl, -⟩ := h; exact Nat.le_refl _) ?_
  intro X as σ K h C Y M _
  obtain ⟨I, F, B, i, v, more, rfl, rfl, hK⟩ := h
  refine a_wps (S_X3_tellsOf C Y M) (inv := a_ni) a_nih 40 _ _ _ _ _ _ ?_
  refine ⟨i, 0, 7, rfl, fun h1 => ?_, fun h1 => ?_⟩
  · rw [show m_tellsOf I i v more = _ from if_pos h1] at hK
    exact hK
  · rw [show m_tellsOf I i v more = _ from if_neg h1] at hK
    exact ⟨I, F, B, v + more, rfl, rfl, hK⟩
def m_dyeAt (I : Nat → Nat → Int32) (d i : Int32) : Int32 := if m_in i 0 7 = 0 then 0 else I 24 (8 * d + i).toNatClampNeg
def sp_X3_dyeAt : aP := fun as σ K => ∃ I F B d i, σ = a_mk I F B ∧ as = [.inr (some 16), .inl d, .inl i] ∧ (¬ m_in i 0 7 = 0 → vp_in (8 * d + i) 32) ∧ K (some (.inl (m_dyeAt I d i))) σ
theorem rc_X3_dyeAt : ∀ as σ K, sp_X3_dyeAt as σ K → ∃ h As, as = .inr (some h) :: As ∧ a_is σ h 3 25 = true := by
  rintro as σ K ⟨I, F, B, c, x, rfl, rfl, -⟩
  exact ⟨16, _, rfl, rfl⟩
def P_X3_dyeAt (K : aK) (bc bs : Nat) : List (Nat × aT) := [(0, t_ild 2 1),
  (1, t_ic 0 2),
  (2, t_ic 7 4),
  (4, t_call 3 0 0 bc bs sp_X3_in 7),
  (7, t_if (fun x => x = 0) 24 10),
  (10, t_ald 0 11),
  (11, t_getr 3 25 8 14),
  (14, t_ic 8 16),
  (16, t_ild 1 17),
  (17, t_mul 18),
  (18, t_ild 2 19),
  (19, t_add 20),
  (20, t_iald 21),
  (21, t_goto 25),
  (24, t_ic 0 25),
  (25, t_iret K bc bs)]
set_option maxRecDepth 100000 in
theorem S_X3_dyeAt {X : a_X} {K : aK} {l : Launch} {D : va_G} {G : aG} {N0 : Nat} (C : a_C X cX3_dyeAt (some .int) RX3) (Y : a_Y X l (a_rm 2 0 0) D G N0) (M : a_mq X K (a_rm 2 0 0).cells (a_rm 2 0 0).slots) : ∀ x ∈ P_X3_dyeAt K 0 0, a_Sd X x.1 x.2 := by
  unfold P_X3_dyeAt
  refine List.forall_mem_cons.mpr ⟨s_ildn C dX3_dyeAt_0 rfl, ?_⟩
  refine List.forall_mem_cons.mpr ⟨s_ic C dX3_dyeAt_1 (by decide), ?_⟩
  refine List.forall_mem_cons.mpr ⟨s_bi C dX3_dyeAt_2 (by decide), ?_⟩
  refine List.forall_mem_cons.mpr ⟨s_callS (rm := (a_rm 1 0 0)) C Y con_X3_in co_X3_in ml_X3_59 st_X3_in ii_X3 (by decide +kernel) ⟨by decide, by decide⟩ ⟨rfl, rfl⟩ dX3_dyeAt_4, ?_⟩
  refine List.forall_mem_cons.mpr ⟨s_if_eq C dX3_dyeAt_7 (by decide), ?_⟩
  refine List.forall_mem_cons.mpr ⟨s_aldn C dX3_dyeAt_10 rfl, ?_⟩
  refine List.forall_mem_cons.mpr ⟨s_getr C rfl in_X3 (by decide) lk_X3_31 rfl dX3_dyeAt_11, ?_⟩
  refine List.forall_mem_cons.mpr ⟨s_bi C dX3_dyeAt_14 (by decide), ?_⟩
  refine List.forall_mem_cons.mpr ⟨s_ildn C dX3_dyeAt_16 rfl, ?_⟩
  refine List.forall_mem_cons.mpr ⟨s_mul C dX3_dyeAt_17, ?_⟩
  refine List.forall_mem_cons.mpr ⟨s_ildn C dX3_dyeAt_18 rfl, ?_⟩
  refine List.forall_mem_cons.mpr ⟨s_add C dX3_dyeAt_19, ?_⟩
  refine List.forall_mem_cons.mpr ⟨s_iald C dX3_dyeAt_20, ?_⟩
  refine List.forall_mem_cons.mpr ⟨s_goto C dX3_dyeAt_21 (by decide), ?_⟩
  refine List.forall_mem_cons.mpr ⟨s_ic C dX3_dyeAt_24 (by decide), ?_⟩
  refine List.forall_mem_cons.mpr ⟨s_iret C M dX3_dyeAt_25, ?_⟩
  exact fun _ h => absurd h List.not_mem_nil
theorem con_X3_dyeAt {l : Launch} {D : va_G} {G : aG} {N0 : Nat} : a_Con l D G N0 yX3_dyeAt cX3_dyeAt 3 (some .int) (a_rm 2 0 0) sp_X3_dyeAt := by
  refine a_con (by decide) (fun as σ K h => by obtain ⟨I, F, B, c, x, rfl, rfl, -⟩ := h; exact Nat.le_refl _) ?_
  intro X as σ K h C Y M _
  obtain ⟨I, F, B, d, i, rfl, rfl, hv, hK⟩ := h
  refine a_wps (S_X3_dyeAt C Y M) (inv := a_ni) a_nih 40 _ _ _ _ _ _ ?_
  refine ⟨i, 0, 7, rfl, fun h1 => ?_, fun h1 => ⟨hv h1, ?_⟩⟩
  · rw [show m_dyeAt I d i = _ from if_pos h1] at hK
    exact hK
  · rw [show m_dyeAt I d i = _ from if_neg h1] at hK
    exact hK
def m_quot (x b : Int32) : Int32 := if b = -1 then -x else x / b
def sp_X3_quotient : aP := fun as σ K => ∃ x b, as = [.inl x, .inl b] ∧ ¬ b = 0 ∧ K (some (.inl (m_quot x b))) σ
def P_X3_quotient (K : aK) (bc bs : Nat) : List (Nat × aT) := [(0, t_ild 1 1),
  (1, t_ic (-1) 2),
  (2, t_ifc (fun x y => x = y) 5 10),
  (5, t_ild 0 6),
  (6, t_neg 7),
  (7, t_goto 13),
  (10, t_ild 0 11),
  (11, t_ild 1 12),
  (12, t_div 13),
  (13, t_iret K bc bs)]
set_option maxRecDepth 100000 in
theorem S_X3_quotient {X : a_X} {K : aK} {l : Launch} {D : va_G} {G : aG} {N0 : Nat} (C : a_C X cX3_quotient (some .int) RX3) (Y : a_Y X l (a_rm 1 0 0) D G N0) (M : a_mq X K (a_rm 1 0 0).cells (a_rm 1 0 0).slots) : ∀ x ∈ P_X3_quotient K 0 0, a_Sd X x.1 x.2 := by
  unfold P_X3_quotient
  refine List.forall_mem_cons.mpr ⟨s_ildn C dX3_quotient_0 rfl, ?_⟩
  refine List.forall_mem_cons.mpr ⟨s_ic C dX3_quotient_1 (by decide), ?_⟩
  refine List.forall_mem_cons.mpr ⟨s_icmp_ne C dX3_quotient_2 (by decide), ?_⟩
  refine List.forall_mem_cons.mpr ⟨s_ildn C dX3_quotient_5 rfl, ?_⟩
  refine List.forall_mem_cons.mpr ⟨s_neg C dX3_quotient_6, ?_⟩
  refine List.forall_mem_cons.mpr ⟨s_goto C dX3_quotient_7 (by decide), ?_⟩
  refine List.forall_mem_cons.mpr ⟨s_ildn C dX3_quotient_10 rfl, ?_⟩
  refine List.forall_mem_cons.mpr ⟨s_ildn C dX3_quotient_11 rfl, ?_⟩
  refine List.forall_mem_cons.mpr ⟨s_div C dX3_quotient_12, ?_⟩
  refine List.forall_mem_cons.mpr ⟨s_iret C M dX3_quotient_13, ?_⟩
  exact fun _ h => absurd h List.not_mem_nil
theorem con_X3_quotient {l : Launch} {D : va_G} {G : aG} {N0 : Nat} : a_Con l D G N0 yX3_quotient cX3_quotient 2 (some .int) (a_rm 1 0 0) sp_X3_quotient := by
  refine a_con (by decide) (fun as σ K h => by obtain ⟨x, b, rfl, -⟩ := h; exact Nat.le_refl _) ?_
  intro X as σ K h C Y M _
  obtain ⟨x, b, rfl, hb, hK⟩ := h
  refine a_wps (S_X3_quotient C Y M) (inv := a_ni) a_nih 40 _ _ _ _ _ _ ?_
  refine ⟨fun h1 => ?_, fun h1 => ⟨hb, ?_⟩⟩
  · rw [show m_quot x b = _ from if_pos h1] at hK
    exact hK
  · rw [show m_quot x b = _ from if_neg h1] at hK
    exact hK
def m_alone (I : Nat → Nat → Int32) (p x y : Int32) : Nat → Nat → Int32 :=
  if p = -2 then m_tells I (a_rem (x + y) 2)
  else if p = -3 then m_tellsOf I x (m_dyeAt I 0 x) y
  else if I 17 p.toNatClampNeg = 0 then m_tells I (I 18 p.toNatClampNeg)
  else if I 17 p.toNatClampNeg = 1 then (if I 20 p.toNatClampNeg = 0 then a_w I 16 20 1 else m_tells I (if a_rem (m_quot x (I 20 p.toNatClampNeg)) 2 = 0 then I 18 p.toNatClampNeg else I 19 p.toNatClampNeg))
  else if I 19 p.toNatClampNeg = 0 then a_w I 16 20 1
  else m_tells I ((if I 19 p.toNatClampNeg = -1 then 0 else a_rem (x + I 18 p.toNatClampNeg * y) (I 19 p.toNatClampNeg)) + I 20 p.toNatClampNeg)
def sp_X3_alone : aP := fun as σ K => ∃ I F B p x y, σ = a_mk I F B ∧ as = [.inr (some 16), .inl p, .inl x, .inl y] ∧ (¬ p = -2 → ¬ p = -3 → vp_in p 60) ∧ K none (a_mk (m_alone I p x y) F B)
theorem rc_X3_alone : ∀ as σ K, sp_X3_alone as σ K → ∃ h As, as = .inr (some h) :: As ∧ a_is σ h 3 25 = true := by
  rintro as σ K ⟨I, F, B, c, x, y, rfl, rfl, -⟩
  exact ⟨16, _, rfl, rfl⟩
def P_X3_alone (K : aK) (bc bs : Nat) : List (Nat × aT) := [(0, t_ild 1 1),
  (1, t_ic (-2) 3),
  (3, t_ifc (fun x y => x = y) 6 18),
  (6, t_ald 0 7),
  (7, t_ild 2 8),
  (8, t_ild 3 9),
  (9, t_add 10),
  (10, t_ic 2 11),
  (11, t_rem 12),
  (12, t_call 2 0 0 bc bs sp_X3_tells 15),
  (15, t_goto 184),
  (18, t_ild 1 19),
  (19, t_ic (-3) 21),
  (21, t_ifc (fun x y => x = y) 24 39),
  (24, t_ald 0 25),
  (25, t_ild 2 26),
  (26, t_ald 0 27),
  (27, t_ic 0 28),
  (28, t_ild 2 29),
  (29, t_call 3 0 0 bc bs sp_X3_dyeAt 32),
  (32, t_ild 3 33),
  (33, t_call 4 0 0 bc bs sp_X3_tellsOf 36),
  (36, t_goto 184),
  (39, t_ald 0 40),
  (40, t_getr 3 25 1 43),
  (43, t_ild 1 44),
  (44, t_iald 45),
  (45, t_if (fun x => x = 0) 48 61),
  (48, t_ald 0 49),
  (49, t_ald 0 50),
  (50, t_getr 3 25 2 53),
  (53, t_ild 1 54),
  (54, t_iald 55),
  (55, t_call 2 0 0 bc bs sp_X3_tells 58),
  (58, t_goto 184),
  (61, t_ald 0 62),
  (62, t_getr 3 25 1 65),
  (65, t_ild 1 66),
  (66, t_iald 67),
  (67, t_ic 1 68),
  (68, t_ifc (fun x y => x = y) 71 125),
  (71, t_ald 0 72),
  (72, t_getr 3 25 4 75),
  (75, t_ild 1 76),
  (76, t_iald 77),
  (77, t_if (fun x => x = 0) 80 88),
  (80, t_ald 0 81),
  (81, t_ic 1 82),
  (82, t_puti 3 25 20 85),
  (85, t_goto 184),
  (88, t_ald 0 89),
  (89, t_ild 2 90),
  (90, t_ald 0 91),
  (91, t_getr 3 25 4 94),
  (94, t_ild 1 95),
  (95, t_iald 96),
  (96, t_call 2 0 0 bc bs sp_X3_quotient 99),
  (99, t_ic 2 100),
  (100, t_rem 101),
  (101, t_if (fun x => x = 0) 104 113),
  (104, t_ald 0 105),
  (105, t_getr 3 25 2 108),
  (108, t_ild 1 109),
  (109, t_iald 110),
  (110, t_goto 119),
  (113, t_ald 0 114),
  (114, t_getr 3 25 3 117),
  (117, t_ild 1 118),
  (118, t_iald 119),
  (119, t_call 2 0 0 bc bs sp_X3_tells 122),
  (122, t_goto 184),
  (125, t_ald 0 126),
  (126, t_getr 3 25 3 129),
  (129, t_ild 1 130),
  (130, t_iald 131),
  (131, t_if (fun x => x = 0) 134 142),
  (134, t_ald 0 135),
  (135, t_ic 1 136),
  (136, t_puti 3 25 20 139),
  (139, t_goto 184),
  (142, t_ald 0 143),
  (143, t_ald 0 144),
  (144, t_getr 3 25 3 147),
  (147, t_ild 1 148),
  (148, t_iald 149),
  (149, t_ic (-1) 150),
  (150, t_ifc (fun x y => x = y) 153 157),
  (153, t_ic 0 154),
  (154, t_goto 174),
  (157, t_ild 2 158),
  (158, t_ald 0 159),
  (159, t_getr 3 25 2 162),
  (162, t_ild 1 163),
  (163, t_iald 164),
  (164, t_ild 3 165),
  (165, t_mul 166),
  (166, t_add 167),
  (167, t_ald 0 168),
  (168, t_getr 3 25 3 171),
  (171, t_ild 1 172),
  (172, t_iald 173),
  (173, t_rem 174),
  (174, t_ald 0 175),
  (175, t_getr 3 25 4 178),
  (178, t_ild 1 179),
  (179, t_iald 180),
  (180, t_add 181),
  (181, t_call 2 0 0 bc bs sp_X3_tells 184),
  (184, t_vret K bc bs)]
set_option maxRecDepth 100000 in
theorem S_X3_alone {X : a_X} {K : aK} {l : Launch} {D : va_G} {G : aG} {N0 : Nat} (C : a_C X cX3_alone none RX3) (Y : a_Y X l (a_rm 3 0 0) D G N0) (M : a_mq X K (a_rm 3 0 0).cells (a_rm 3 0 0).slots) : ∀ x ∈ P_X3_alone K 0 0, a_Sd X x.1 x.2 := by
  unfold P_X3_alone
  refine List.forall_mem_cons.mpr ⟨s_ildn C dX3_alone_0 rfl, ?_⟩
  refine List.forall_mem_cons.mpr ⟨s_bi C dX3_alone_1 (by decide), ?_⟩
  refine List.forall_mem_cons.mpr ⟨s_icmp_ne C dX3_alone_3 (by decide), ?_⟩
  refine List.forall_mem_cons.mpr ⟨s_aldn C dX3_alone_6 rfl, ?_⟩
  refine List.forall_mem_cons.mpr ⟨s_ildn C dX3_alone_7 rfl, ?_⟩
  refine List.forall_mem_cons.mpr ⟨s_ildn C dX3_alone_8 rfl, ?_⟩
  refine List.forall_mem_cons.mpr ⟨s_add C dX3_alone_9, ?_⟩
  refine List.forall_mem_cons.mpr ⟨s_ic C dX3_alone_10 (by decide), ?_⟩
  refine List.forall_mem_cons.mpr ⟨s_rem C dX3_alone_11, ?_⟩
  refine List.forall_mem_cons.mpr ⟨s_callV (rm := (a_rm 1 0 0)) (n := 1) C Y (ci := 3) rfl con_X3_tells rc_X3_tells co_X3_tells ml_X3_86 im_X3_tells se_X3_tells ii_X3 (by decide +kernel) ⟨by decide, by decide⟩ ⟨rfl, rfl⟩ dX3_alone_12, ?_⟩
  refine List.forall_mem_cons.mpr ⟨s_goto C dX3_alone_15 (by decide), ?_⟩
  refine List.forall_mem_cons.mpr ⟨s_ildn C dX3_alone_18 rfl, ?_⟩
  refine List.forall_mem_cons.mpr ⟨s_bi C dX3_alone_19 (by decide), ?_⟩
  refine List.forall_mem_cons.mpr ⟨s_icmp_ne C dX3_alone_21 (by decide), ?_⟩
  refine List.forall_mem_cons.mpr ⟨s_aldn C dX3_alone_24 rfl, ?_⟩
  refine List.forall_mem_cons.mpr ⟨s_ildn C dX3_alone_25 rfl, ?_⟩
  refine List.forall_mem_cons.mpr ⟨s_aldn C dX3_alone_26 rfl, ?_⟩
  refine List.forall_mem_cons.mpr ⟨s_ic C dX3_alone_27 (by decide), ?_⟩
  refine List.forall_mem_cons.mpr ⟨s_ildn C dX3_alone_28 rfl, ?_⟩
  refine List.forall_mem_cons.mpr ⟨s_callV (rm := (a_rm 2 0 0)) (n := 2) C Y (ci := 3) rfl con_X3_dyeAt rc_X3_dyeAt co_X3_dyeAt ml_X3_90 im_X3_dyeAt se_X3_dyeAt ii_X3 (by decide +kernel) ⟨by decide, by decide⟩ ⟨rfl, rfl⟩ dX3_alone_29, ?_⟩
  refine List.forall_mem_cons.mpr ⟨s_ildn C dX3_alone_32 rfl, ?_⟩
  refine List.forall_mem_cons.mpr ⟨s_callV (rm := (a_rm 2 0 0)) (n := 3) C Y (ci := 3) rfl con_X3_tellsOf rc_X3_tellsOf co_X3_tellsOf ml_X3_94 im_X3_tellsOf se_X3_tellsOf ii_X3 (by decide +kernel) ⟨by decide, by decide⟩ ⟨rfl, rfl⟩ dX3_alone_33, ?_⟩
  refine List.forall_mem_cons.mpr ⟨s_goto C dX3_alone_36 (by decide), ?_⟩
  refine List.forall_mem_cons.mpr ⟨s_aldn C dX3_alone_39 rfl, ?_⟩
  refine List.forall_mem_cons.mpr ⟨s_getr C rfl in_X3 (by decide) lk_X3_7 rfl dX3_alone_40, ?_⟩
  refine List.forall_mem_cons.mpr ⟨s_ildn C dX3_alone_43 rfl, ?_⟩
  refine List.forall_mem_cons.mpr ⟨s_iald C dX3_alone_44, ?_⟩
  refine List.forall_mem_cons.mpr ⟨s_if_ne C dX3_alone_45 (by decide), ?_⟩
  refine List.forall_mem_cons.mpr ⟨s_aldn C dX3_alone_48 rfl, ?_⟩
  refine List.forall_mem_cons.mpr ⟨s_aldn C dX3_alone_49 rfl, ?_⟩
  refine List.forall_mem_cons.mpr ⟨s_getr C rfl in_X3 (by decide) lk_X3_13 rfl dX3_alone_50, ?_⟩
  refine List.forall_mem_cons.mpr ⟨s_ildn C dX3_alone_53 rfl, ?_⟩
  refine List.forall_mem_cons.mpr ⟨s_iald C dX3_alone_54, ?_⟩
  refine List.forall_mem_cons.mpr ⟨s_callV (rm := (a_rm 1 0 0)) (n := 1) C Y (ci := 3) rfl con_X3_tells rc_X3_tells co_X3_tells ml_X3_86 im_X3_tells se_X3_tells ii_X3 (by decide +kernel) ⟨by decide, by decide⟩ ⟨rfl, rfl⟩ dX3_alone_55, ?_⟩
  refine List.forall_mem_cons.mpr ⟨s_goto C dX3_alone_58 (by decide), ?_⟩
  refine List.forall_mem_cons.mpr ⟨s_aldn C dX3_alone_61 rfl, ?_⟩
  refine List.forall_mem_cons.mpr ⟨s_getr C rfl in_X3 (by decide) lk_X3_7 rfl dX3_alone_62, ?_⟩
  refine List.forall_mem_cons.mpr ⟨s_ildn C dX3_alone_65 rfl, ?_⟩
  refine List.forall_mem_cons.mpr ⟨s_iald C dX3_alone_66, ?_⟩
  refine List.forall_mem_cons.mpr ⟨s_ic C dX3_alone_67 (by decide), ?_⟩
  refine List.forall_mem_cons.mpr ⟨s_icmp_ne C dX3_alone_68 (by decide), ?_⟩
  refine List.forall_mem_cons.mpr ⟨s_aldn C dX3_alone_71 rfl, ?_⟩
  refine List.forall_mem_cons.mpr ⟨s_getr C rfl in_X3 (by decide) lk_X3_19 rfl dX3_alone_72, ?_⟩
  refine List.forall_mem_cons.mpr ⟨s_ildn C dX3_alone_75 rfl, ?_⟩
  refine List.forall_mem_cons.mpr ⟨s_iald C dX3_alone_76, ?_⟩
  refine List.forall_mem_cons.mpr ⟨s_if_ne C dX3_alone_77 (by decide), ?_⟩
  refine List.forall_mem_cons.mpr ⟨s_aldn C dX3_alone_80 rfl, ?_⟩
  refine List.forall_mem_cons.mpr ⟨s_ic C dX3_alone_81 (by decide), ?_⟩
  refine List.forall_mem_cons.mpr ⟨s_puti C tyX3 tyX3_ok nmX3 rfl in_X3 (by decide) lk_X3_77 rfl (Or.inl rfl) rfl dX3_alone_82, ?_⟩
  refine List.forall_mem_cons.mpr ⟨s_goto C dX3_alone_85 (by decide), ?_⟩
  refine List.forall_mem_cons.mpr ⟨s_aldn C dX3_alone_88 rfl, ?_⟩
  refine List.forall_mem_cons.mpr ⟨s_ildn C dX3_alone_89 rfl, ?_⟩
  refine List.forall_mem_cons.mpr ⟨s_aldn C dX3_alone_90 rfl, ?_⟩
  refine List.forall_mem_cons.mpr ⟨s_getr C rfl in_X3 (by decide) lk_X3_19 rfl dX3_alone_91, ?_⟩
  refine List.forall_mem_cons.mpr ⟨s_ildn C dX3_alone_94 rfl, ?_⟩
  refine List.forall_mem_cons.mpr ⟨s_iald C dX3_alone_95, ?_⟩
  refine List.forall_mem_cons.mpr ⟨s_callS (rm := (a_rm 1 0 0)) C Y con_X3_quotient co_X3_quotient ml_X3_98 st_X3_quotient ii_X3 (by decide +kernel) ⟨by decide, by decide⟩ ⟨rfl, rfl⟩ dX3_alone_96, ?_⟩
  refine List.forall_mem_cons.mpr ⟨s_ic C dX3_alone_99 (by decide), ?_⟩
  refine List.forall_mem_cons.mpr ⟨s_rem C dX3_alone_100, ?_⟩
  refine List.forall_mem_cons.mpr ⟨s_if_ne C dX3_alone_101 (by decide), ?_⟩
  refine List.forall_mem_cons.mpr ⟨s_aldn C dX3_alone_104 rfl, ?_⟩
  refine List.forall_mem_cons.mpr ⟨s_getr C rfl in_X3 (by decide) lk_X3_13 rfl dX3_alone_105, ?_⟩
  refine List.forall_mem_cons.mpr ⟨s_ildn C dX3_alone_108 rfl, ?_⟩
  refine List.forall_mem_cons.mpr ⟨s_iald C dX3_alone_109, ?_⟩
  refine List.forall_mem_cons.mpr ⟨s_goto C dX3_alone_110 (by decide), ?_⟩
  refine List.forall_mem_cons.mpr ⟨s_aldn C dX3_alone_113 rfl, ?_⟩
  refine List.forall_mem_cons.mpr ⟨s_getr C rfl in_X3 (by decide) lk_X3_16 rfl dX3_alone_114, ?_⟩
  refine List.forall_mem_cons.mpr ⟨s_ildn C dX3_alone_117 rfl, ?_⟩
  refine List.forall_mem_cons.mpr ⟨s_iald C dX3_alone_118, ?_⟩
  refine List.forall_mem_cons.mpr ⟨s_callV (rm := (a_rm 1 0 0)) (n := 1) C Y (ci := 3) rfl con_X3_tells rc_X3_tells co_X3_tells ml_X3_86 im_X3_tells se_X3_tells ii_X3 (by decide +kernel) ⟨by decide, by decide⟩ ⟨rfl, rfl⟩ dX3_alone_119, ?_⟩
  refine List.forall_mem_cons.mpr ⟨s_goto C dX3_alone_122 (by decide), ?_⟩
  refine List.forall_mem_cons.mpr ⟨s_aldn C dX3_alone_125 rfl, ?_⟩
  refine List.forall_mem_cons.mpr ⟨s_getr C rfl in_X3 (by decide) lk_X3_16 rfl dX3_alone_126, ?_⟩
  refine List.forall_mem_cons.mpr ⟨s_ildn C dX3_alone_129 rfl, ?_⟩
  refine List.forall_mem_cons.mpr ⟨s_iald C dX3_alone_130, ?_⟩
  refine List.forall_mem_cons.mpr ⟨s_if_ne C dX3_alone_131 (by decide), ?_⟩
  refine List.forall_mem_cons.mpr ⟨s_aldn C dX3_alone_134 rfl, ?_⟩
  refine List.forall_mem_cons.mpr ⟨s_ic C dX3_alone_135 (by decide), ?_⟩
  refine List.forall_mem_cons.mpr ⟨s_puti C tyX3 tyX3_ok nmX3 rfl in_X3 (by decide) lk_X3_77 rfl (Or.inl rfl) rfl dX3_alone_136, ?_⟩
  refine List.forall_mem_cons.mpr ⟨s_goto C dX3_alone_139 (by decide), ?_⟩
  refine List.forall_mem_cons.mpr ⟨s_aldn C dX3_alone_142 rfl, ?_⟩
  refine List.forall_mem_cons.mpr ⟨s_aldn C dX3_alone_143 rfl, ?_⟩
  refine List.forall_mem_cons.mpr ⟨s_getr C rfl in_X3 (by decide) lk_X3_16 rfl dX3_alone_144, ?_⟩
  refine List.forall_mem_cons.mpr ⟨s_ildn C dX3_alone_147 rfl, ?_⟩
  refine List.forall_mem_cons.mpr ⟨s_iald C dX3_alone_148, ?_⟩
  refine List.forall_mem_cons.mpr ⟨s_ic C dX3_alone_149 (by decide), ?_⟩
  refine List.forall_mem_cons.mpr ⟨s_icmp_ne C dX3_alone_150 (by decide), ?_⟩
  refine List.forall_mem_cons.mpr ⟨s_ic C dX3_alone_153 (by decide), ?_⟩
  refine List.forall_mem_cons.mpr ⟨s_goto C dX3_alone_154 (by decide), ?_⟩
  refine List.forall_mem_cons.mpr ⟨s_ildn C dX3_alone_157 rfl, ?_⟩
  refine List.forall_mem_cons.mpr ⟨s_aldn C dX3_alone_158 rfl, ?_⟩
  refine List.forall_mem_cons.mpr ⟨s_getr C rfl in_X3 (by decide) lk_X3_13 rfl dX3_alone_159, ?_⟩
  refine List.forall_mem_cons.mpr ⟨s_ildn C dX3_alone_162 rfl, ?_⟩
  refine List.forall_mem_cons.mpr ⟨s_iald C dX3_alone_163, ?_⟩
  refine List.forall_mem_cons.mpr ⟨s_ildn C dX3_alone_164 rfl, ?_⟩
  refine List.forall_mem_cons.mpr ⟨s_mul C dX3_alone_165, ?_⟩
  refine List.forall_mem_cons.mpr ⟨s_add C dX3_alone_166, ?_⟩
  refine List.forall_mem_cons.mpr ⟨s_aldn C dX3_alone_167 rfl, ?_⟩
  refine List.forall_mem_cons.mpr ⟨s_getr C rfl in_X3 (by decide) lk_X3_16 rfl dX3_alone_168, ?_⟩
  refine List.forall_mem_cons.mpr ⟨s_ildn C dX3_alone_171 rfl, ?_⟩
  refine List.forall_mem_cons.mpr ⟨s_iald C dX3_alone_172, ?_⟩
  refine List.forall_mem_cons.mpr ⟨s_rem C dX3_alone_173, ?_⟩
  refine List.forall_mem_cons.mpr ⟨s_aldn C dX3_alone_174 rfl, ?_⟩
  refine List.forall_mem_cons.mpr ⟨s_getr C rfl in_X3 (by decide) lk_X3_19 rfl dX3_alone_175, ?_⟩
  refine List.forall_mem_cons.mpr ⟨s_ildn C dX3_alone_178 rfl, ?_⟩
  refine List.forall_mem_cons.mpr ⟨s_iald C dX3_alone_179, ?_⟩
  refine List.forall_mem_cons.mpr ⟨s_add C dX3_alone_180, ?_⟩
  refine List.forall_mem_cons.mpr ⟨s_callV (rm := (a_rm 1 0 0)) (n := 1) C Y (ci := 3) rfl con_X3_tells rc_X3_tells co_X3_tells ml_X3_86 im_X3_tells se_X3_tells ii_X3 (by decide +kernel) ⟨by decide, by decide⟩ ⟨rfl, rfl⟩ dX3_alone_181, ?_⟩
  refine List.forall_mem_cons.mpr ⟨s_vret C M dX3_alone_184, ?_⟩
  exact fun _ h => absurd h List.not_mem_nil
set_option maxRecDepth 20000 in
theorem con_X3_alone {l : Launch} {D : va_G} {G : aG} {N0 : Nat} : a_Con l D G N0 yX3_alone cX3_alone 4 none (a_rm 3 0 0) sp_X3_alone := by
  refine a_con (by decide) (fun as σ K h => by obtain ⟨I, F, B, c, x, y, rfl, rfl, -⟩ := h; exact Nat.le_refl _) ?_
  intro X as σ K h C Y M _
  obtain ⟨I, F, B, p, x, y, rfl, rfl, hv, hK⟩ := h
  refine a_wps (S_X3_alone C Y M) (inv := a_ni) a_nih 120 _ _ _ _ _ _ ?_
  refine ⟨fun h1 => ⟨by decide, I, F, B, a_rem (x + y) 2, rfl, rfl, ?_⟩, fun h1 => ⟨fun h2 => ⟨I, F, B, 0, x, rfl, rfl, fun h3 => ?_, I, F, B, x, m_dyeAt I 0 x, y, rfl, rfl, ?_⟩, fun h2 => ?_⟩⟩
  · rw [show m_alone I p x y = _ from if_pos h1] at hK
    exact hK
  · obtain ⟨j, hj, rfl⟩ := m_in_n (b := 7) (by decide) h3
    exact a_8in (d := 0) (by decide) (by omega)
  · rw [show m_alone I p x y = _ by unfold m_alone; rw [if_neg h1, if_pos h2]] at hK
    exact hK
  · have hp := hv h1 h2
    refine ⟨hp, fun h3 => ⟨hp, I, F, B, _, rfl, rfl, ?_⟩, fun h3 => ⟨hp, fun h4 => ⟨hp, fun h5 => ?_, fun h5 => ⟨hp, x, _, rfl, h5, by decide, fun h6 => ⟨hp, I, F, B, _, rfl, rfl, ?_⟩, fun h6 => ⟨hp, I, F, B, _, rfl, rfl, ?_⟩⟩⟩, fun h4 => ⟨hp, fun h5 => ?_, fun h5 => ⟨hp, fun h6 => ⟨hp, I, F, B, _, rfl, rfl, ?_⟩, fun h6 => ⟨hp, hp, h5, hp, I, F, B, _, rfl, rfl, ?_⟩⟩⟩⟩⟩
    · rw [show m_alone I p x y = _ by unfold m_alone; rw [if_neg h1, if_neg h2, if_pos h3]] at hK
      exact hK
    · rw [show m_alone I p x y = _ by unfold m_alone; rw [if_neg h1, if_neg h2, if_neg h3, if_pos h4, if_pos h5]] at hK
      exact hK
    · rw [show m_alone I p x y = _ by unfold m_alone; rw [if_neg h1, if_neg h2, if_neg h3, if_pos h4, if_neg h5, if_pos h6]] at hK
      exact hK
    · rw [show m_alone I p x y = _ by unfold m_alone; rw [if_neg h1, if_neg h2, if_neg h3, if_pos h4, if_neg h5, if_neg h6]] at hK
      exact hK
    · rw [show m_alone I p x y = _ by unfold m_alone; rw [if_neg h1, if_neg h2, if_neg h3, if_neg h4, if_pos h5]] at hK
      exact hK
    · rw [show m_alone I p x y = _ by unfold m_alone; rw [if_neg h1, if_neg h2, if_neg h3, if_neg h4, if_neg h5, if_pos h6]] at hK
      exact hK
    · rw [show m_alone I p x y = _ by unfold m_alone; rw [if_neg h1, if_neg h2, if_neg h3, if_neg h4, if_neg h5, if_neg h6]] at hK
      exact hK
def m_tx (b x y : Int32) : Int32 := if b = 0 then y else if b = 1 then -x else if b = 2 then x else x * y
def m_ty (b x y : Int32) : Int32 := if b = 0 then x else if b = 1 then y else if b = 2 then -y else x + y
def sp_X3_turned : aP := fun as σ K => ∃ I F B p x y, σ = a_mk I F B ∧ as = [.inr (some 16), .inl p, .inl x, .inl y] ∧ vp_in p 60 ∧ (¬ I 16 19 = 100 → ¬ I 18 p.toNatClampNeg = -1 → vp_in (I 16 13) 104) ∧ K none (a_mk (m_push I (I 18 p.toNatClampNeg) (m_tx (I 19 p.toNatClampNeg) x y) (m_ty (I 19 p.toNatClampNeg) x y)) F B)
theorem rc_X3_turned : ∀ as σ K, sp_X3_turned as σ K → ∃ h As, as = .inr (some h) :: As ∧ a_is σ h 3 25 = true := by
  rintro as σ K ⟨I, F, B, c, x, y, rfl, rfl, -⟩
  exact ⟨16, _, rfl, rfl⟩
def P_X3_turned (K : aK) (bc bs : Nat) : List (Nat × aT) := [(0, t_ald 0 1),
  (1, t_getr 3 25 3 4),
  (4, t_ild 1 5),
  (5, t_iald 6),
  (6, t_ist 4 8),
  (8, t_ald 0 9),
  (9, t_ald 0 10),
  (10, t_getr 3 25 2 13),
  (13, t_ild 1 14),
  (14, t_iald 15),
  (15, t_ild 4 17),
  (17, t_if (fun x => x = 0) 20 24),
  (20, t_ild 3 21),
  (21, t_goto 48),
  (24, t_ild 4 26),
  (26, t_ic 1 27),
  (27, t_ifc (fun x y => x = y) 30 35),
  (30, t_ild 2 31),
  (31, t_neg 32),
  (32, t_goto 48),
  (35, t_ild 4 37),
  (37, t_ic 2 38),
  (38, t_ifc (fun x y => x = y) 41 45),
  (41, t_ild 2 42),
  (42, t_goto 48),
  (45, t_ild 2 46),
  (46, t_ild 3 47),
  (47, t_mul 48),
  (48, t_ild 4 50),
  (50, t_if (fun x => x = 0) 53 57),
  (53, t_ild 2 54),
  (54, t_goto 81),
  (57, t_ild 4 59),
  (59, t_ic 1 60),
  (60, t_ifc (fun x y => x = y) 63 67),
  (63, t_ild 3 64),
  (64, t_goto 81),
  (67, t_ild 4 69),
  (69, t_ic 2 70),
  (70, t_ifc (fun x y => x = y) 73 78),
  (73, t_ild 3 74),
  (74, t_neg 75),
  (75, t_goto 81),
  (78, t_ild 2 79),
  (79, t_ild 3 80),
  (80, t_add 81),
  (81, t_call 4 0 0 bc bs sp_X3_push 84),
  (84, t_vret K bc bs)]
set_option maxRecDepth 100000 in
theorem S_X3_turned {X : a_X} {K : aK} {l : Launch} {D : va_G} {G : aG} {N0 : Nat} (C : a_C X cX3_turned none RX3) (Y : a_Y X l (a_rm 2 0 0) D G N0) (M : a_mq X K (a_rm 2 0 0).cells (a_rm 2 0 0).slots) : ∀ x ∈ P_X3_turned K 0 0, a_Sd X x.1 x.2 := by
  unfold P_X3_turned
  refine List.forall_mem_cons.mpr ⟨s_aldn C dX3_turned_0 rfl, ?_⟩
  refine List.forall_mem_cons.mpr ⟨s_getr C rfl in_X3 (by decide) lk_X3_16 rfl dX3_turned_1, ?_⟩
  refine List.forall_mem_cons.mpr ⟨s_ildn C dX3_turned_4 rfl, ?_⟩
  refine List.forall_mem_cons.mpr ⟨s_iald C dX3_turned_5, ?_⟩
  refine List.forall_mem_cons.mpr ⟨s_ist C dX3_turned_6, ?_⟩
  refine List.forall_mem_cons.mpr ⟨s_aldn C dX3_turned_8 rfl, ?_⟩
  refine List.forall_mem_cons.mpr ⟨s_aldn C dX3_turned_9 rfl, ?_⟩
  refine List.forall_mem_cons.mpr ⟨s_getr C rfl in_X3 (by decide) lk_X3_13 rfl dX3_turned_10, ?_⟩
  refine List.forall_mem_cons.mpr ⟨s_ildn C dX3_turned_13 rfl, ?_⟩
  refine List.forall_mem_cons.mpr ⟨s_iald C dX3_turned_14, ?_⟩
  refine List.forall_mem_cons.mpr ⟨s_ild C dX3_turned_15, ?_⟩
  refine List.forall_mem_cons.mpr ⟨s_if_ne C dX3_turned_17 (by decide), ?_⟩
  refine List.forall_mem_cons.mpr ⟨s_ildn C dX3_turned_20 rfl, ?_⟩
  refine List.forall_mem_cons.mpr ⟨s_goto C dX3_turned_21 (by decide), ?_⟩
  refine List.forall_mem_cons.mpr ⟨s_ild C dX3_turned_24, ?_⟩
  refine List.forall_mem_cons.mpr ⟨s_ic C dX3_turned_26 (by decide), ?_⟩
  refine List.forall_mem_cons.mpr ⟨s_icmp_ne C dX3_turned_27 (by decide), ?_⟩
  refine List.forall_mem_cons.mpr ⟨s_ildn C dX3_turned_30 rfl, ?_⟩
  refine List.forall_mem_cons.mpr ⟨s_neg C dX3_turned_31, ?_⟩
  refine List.forall_mem_cons.mpr ⟨s_goto C dX3_turned_32 (by decide), ?_⟩
  refine List.forall_mem_cons.mpr ⟨s_ild C dX3_turned_35, ?_⟩
  refine List.forall_mem_cons.mpr ⟨s_ic C dX3_turned_37 (by decide), ?_⟩
  refine List.forall_mem_cons.mpr ⟨s_icmp_ne C dX3_turned_38 (by decide), ?_⟩
  refine List.forall_mem_cons.mpr ⟨s_ildn C dX3_turned_41 rfl, ?_⟩
  refine List.forall_mem_cons.mpr ⟨s_goto C dX3_turned_42 (by decide), ?_⟩
  refine List.forall_mem_cons.mpr ⟨s_ildn C dX3_turned_45 rfl, ?_⟩
  refine List.forall_mem_cons.mpr ⟨s_ildn C dX3_turned_46 rfl, ?_⟩
  refine List.forall_mem_cons.mpr ⟨s_mul C dX3_turned_47, ?_⟩
  refine List.forall_mem_cons.mpr ⟨s_ild C dX3_turned_48, ?_⟩
  refine List.forall_mem_cons.mpr ⟨s_if_ne C dX3_turned_50 (by decide), ?_⟩
  refine List.forall_mem_cons.mpr ⟨s_ildn C dX3_turned_53 rfl, ?_⟩
  refine List.forall_mem_cons.mpr ⟨s_goto C dX3_turned_54 (by decide), ?_⟩
  refine List.forall_mem_cons.mpr ⟨s_ild C dX3_turned_57, ?_⟩
  refine List.forall_mem_cons.mpr ⟨s_ic C dX3_turned_59 (by decide), ?_⟩
  refine List.forall_mem_cons.mpr ⟨s_icmp_ne C dX3_turned_60 (by decide), ?_⟩
  refine List.forall_mem_cons.mpr ⟨s_ildn C dX3_turned_63 rfl, ?_⟩
  refine List.forall_mem_cons.mpr ⟨s_goto C dX3_turned_64 (by decide), ?_⟩
  refine List.forall_mem_cons.mpr ⟨s_ild C dX3_turned_67, ?_⟩
  refine List.forall_mem_cons.mpr ⟨s_ic C dX3_turned_69 (by decide), ?_⟩
  refine List.forall_mem_cons.mpr ⟨s_icmp_ne C dX3_turned_70 (by decide), ?_⟩
  refine List.forall_mem_cons.mpr ⟨s_ildn C dX3_turned_73 rfl, ?_⟩
  refine List.forall_mem_cons.mpr ⟨s_neg C dX3_turned_74, ?_⟩
  refine List.forall_mem_cons.mpr ⟨s_goto C dX3_turned_75 (by decide), ?_⟩
  refine List.forall_mem_cons.mpr ⟨s_ildn C dX3_turned_78 rfl, ?_⟩
  refine List.forall_mem_cons.mpr ⟨s_ildn C dX3_turned_79 rfl, ?_⟩
  refine List.forall_mem_cons.mpr ⟨s_add C dX3_turned_80, ?_⟩
  refine List.forall_mem_cons.mpr ⟨s_callV (rm := (a_rm 1 0 0)) (n := 3) C Y (ci := 3) rfl con_X3_push rc_X3_push co_X3_push ml_X3_101 im_X3_push se_X3_push ii_X3 (by decide +kernel) ⟨by decide, by decide⟩ ⟨rfl, rfl⟩ dX3_turned_81, ?_⟩
  refine List.forall_mem_cons.mpr ⟨s_vret C M dX3_turned_84, ?_⟩
  exact fun _ h => absurd h List.not_mem_nil
set_option maxRecDepth 20000 in
theorem con_X3_turned {l : Launch} {D : va_G} {G : aG} {N0 : Nat} : a_Con l D G N0 yX3_turned cX3_turned 5 none (a_rm 2 0 0) sp_X3_turned := by
  refine a_con (by decide) (fun as σ K h => by obtain ⟨I, F, B, c, x, y, rfl, rfl, -⟩ := h; exact (by decide : 4 ≤ 5)) ?_
  intro X as σ K h C Y M _
  obtain ⟨I, F, B, p, x, y, rfl, rfl, hp, hv, hK⟩ := h
  refine a_wps (S_X3_turned C Y M) (inv := a_ni) a_nih 120 _ _ _ _ _ _ ?_
  refine ⟨hp, hp, fun h1 => ?_, fun h1 => ⟨fun h2 => ?_, fun h2 => ⟨fun h3 => ?_, fun h3 => ?_⟩⟩⟩
  · rw [show m_tx (I 19 p.toNatClampNeg) x y = _ from if_pos h1, show m_ty (I 19 p.toNatClampNeg) x y = _ from if_pos h1] at hK
    exact ⟨fun _ => ⟨I, F, B, _, _, _, rfl, rfl, hv, hK⟩, fun w => absurd h1 w⟩
  · rw [show m_tx (I 19 p.toNatClampNeg) x y = _ by unfold m_tx; rw [if_neg h1, if_pos h2], show m_ty (I 19 p.toNatClampNeg) x y = _ by unfold m_ty; rw [if_neg h1, if_pos h2]] at hK
    exact ⟨fun w => absurd w h1, fun _ => ⟨fun _ => ⟨I, F, B, _, _, _, rfl, rfl, hv, hK⟩, fun w => absurd h2 w⟩⟩
  · rw [show m_tx (I 19 p.toNatClampNeg) x y = _ by unfold m_tx; rw [if_neg h1, if_neg h2, if_pos h3], show m_ty (I 19 p.toNatClampNeg) x y = _ by unfold m_ty; rw [if_neg h1, if_neg h2, if_pos h3]] at hK
    exact ⟨fun w => absurd w h1, fun _ => ⟨fun w => absurd w h2, fun _ => ⟨fun _ => ⟨I, F, B, _, _, _, rfl, rfl, hv, hK⟩, fun w => absurd h3 w⟩⟩⟩
  · rw [show m_tx (I 19 p.toNatClampNeg) x y = _ by unfold m_tx; rw [if_neg h1, if_neg h2, if_neg h3], show m_ty (I 19 p.toNatClampNeg) x y = _ by unfold m_ty; rw [if_neg h1, if_neg h2, if_neg h3]] at hK
    exact ⟨fun w => absurd w h1, fun _ => ⟨fun w => absurd w h2, fun _ => ⟨fun w => absurd w h3, fun _ => ⟨I, F, B, _, _, _, rfl, rfl, hv, hK⟩⟩⟩⟩
end
section
/-! ===== the reference's steps: begins, goesOn, falls ===== -/
def m_begins (I : Nat → Nat → Int32) (p x y : Int32) : Nat → Nat → Int32 :=
  if I 17 p.toNatClampNeg = 3 then m_push I (I 18 p.toNatClampNeg) (x - I 19 p.toNatClampNeg) (y - I 20 p.toNatClampNeg)
  else if I 17 p.toNatClampNeg = 4 then m_push I (I 18 p.toNatClampNeg) (m_tx (I 19 p.toNatClampNeg) x y) (m_ty (I 19 p.toNatClampNeg) x y)
  else if I 17 p.toNatClampNeg = 9 then m_push I (I 25 (I 18 p.toNatClampNeg).toNatClampNeg) x y
  else if I 17 p.toNatClampNeg = 10 then (if I 23 p.toNatClampNeg + 1 = I 19 p.toNatClampNeg then m_tells (a_w (a_w (a_w I 23 p.toNatClampNeg (I 23 p.toNatClampNeg + 1)) 23 p.toNatClampNeg 0) 16 11 (I 16 11 + 1)) (I 20 p.toNatClampNeg) else m_push (a_w I 23 p.toNatClampNeg (I 23 p.toNatClampNeg + 1)) (I 18 p.toNatClampNeg) x y)
  else if I 17 p.toNatClampNeg = 13 then m_push I (I 22 p.toNatClampNeg) x y
  else m_push I (I 18 p.toNatClampNeg) x y
theorem m_begins_d {I : Nat → Nat → Int32} {p x y : Int32} (h3 : ¬ I 17 p.toNatClampNeg = 3) (h4 : ¬ I 17 p.toNatClampNeg = 4) (h9 : ¬ I 17 p.toNatClampNeg = 9) (h10 : ¬ I 17 p.toNatClampNeg = 10) (h13 : ¬ I 17 p.toNatClampNeg = 13) : m_begins I p x y = m_push I (I 18 p.toNatClampNeg) x y := by
  unfold m_begins
  rw [if_neg h3, if_neg h4, if_neg h9, if_neg h10, if_neg h13]
def sp_X3_begins : aP := fun as σ K => ∃ I F B p x y, σ = a_mk I F B ∧ as = [.inr (some 16), .inl p, .inl x, .inl y] ∧ vp_in p 60 ∧ vp_in (I 16 13) 104 ∧ (I 17 p.toNatClampNeg = 9 → vp_in (I 18 p.toNatClampNeg) 6) ∧ K none (a_mk (m_begins I p x y) F B)
theorem rc_X3_begins : ∀ as σ K, sp_X3_begins as σ K → ∃ h As, as = .inr (some h) :: As ∧ a_is σ h 3 25 = true := by
  rintro as σ K ⟨I, F, B, c, x, y, rfl, rfl, -⟩
  exact ⟨16, _, rfl, rfl⟩
theorem a_ww {I : Nat → Nat → Int32} {h k : Nat} {x : Int32} : a_w I h k x h k = x := if_pos ⟨rfl, rfl⟩
def P_X3_begins (K : aK) (bc bs : Nat) : List (Nat × aT) := [(0, t_ald 0 1),
  (1, t_getr 3 25 1 4),
  (4, t_ild 1 5),
  (5, t_iald 6),
  (6, t_sw [(3, 64), (4, 93), (5, 208), (6, 208), (7, 208), (8, 208), (9, 103), (10, 123), (11, 208), (12, 208), (13, 193)] 208),
  (64, t_ald 0 65),
  (65, t_ald 0 66),
  (66, t_getr 3 25 2 69),
  (69, t_ild 1 70),
  (70, t_iald 71),
  (71, t_ild 2 72),
  (72, t_ald 0 73),
  (73, t_getr 3 25 3 76),
  (76, t_ild 1 77),
  (77, t_iald 78),
  (78, t_sub 79),
  (79, t_ild 3 80),
  (80, t_ald 0 81),
  (81, t_getr 3 25 4 84),
  (84, t_ild 1 85),
  (85, t_iald 86),
  (86, t_sub 87),
  (87, t_call 4 0 0 bc bs sp_X3_push 90),
  (90, t_goto 220),
  (93, t_ald 0 94),
  (94, t_ild 1 95),
  (95, t_ild 2 96),
  (96, t_ild 3 97),
  (97, t_call 4 0 0 bc bs sp_X3_turned 100),
  (100, t_goto 220),
  (103, t_ald 0 104),
  (104, t_ald 0 105),
  (105, t_getr 3 25 9 108),
  (108, t_ald 0 109),
  (109, t_getr 3 25 2 112),
  (112, t_ild 1 113),
  (113, t_iald 114),
  (114, t_iald 115),
  (115, t_ild 2 116),
  (116, t_ild 3 117),
  (117, t_call 4 0 0 bc bs sp_X3_push 120),
  (120, t_goto 220),
  (123, t_ald 0 124),
  (124, t_getr 3 25 7 127),
  (127, t_ild 1 128),
  (128, t_dup2 129),
  (129, t_iald 130),
  (130, t_ic 1 131),
  (131, t_add 132),
  (132, t_iast 133),
  (133, t_ald 0 134),
  (134, t_getr 3 25 7 137),
  (137, t_ild 1 138),
  (138, t_iald 139),
  (139, t_ald 0 140),
  (140, t_getr 3 25 3 143),
  (143, t_ild 1 144),
  (144, t_iald 145),
  (145, t_ifc (fun x y => x = y) 148 178),
  (148, t_ald 0 149),
  (149, t_getr 3 25 7 152),
  (152, t_ild 1 153),
  (153, t_ic 0 154),
  (154, t_iast 155),
  (155, t_ald 0 156),
  (156, t_dup 157),
  (157, t_geti 3 25 11 160),
  (160, t_ic 1 161),
  (161, t_add 162),
  (162, t_puti 3 25 11 165),
  (165, t_ald 0 166),
  (166, t_ald 0 167),
  (167, t_getr 3 25 4 170),
  (170, t_ild 1 171),
  (171, t_iald 172),
  (172, t_call 2 0 0 bc bs sp_X3_tells 175),
  (175, t_goto 220),
  (178, t_ald 0 179),
  (179, t_ald 0 180),
  (180, t_getr 3 25 2 183),
  (183, t_ild 1 184),
  (184, t_iald 185),
  (185, t_ild 2 186),
  (186, t_ild 3 187),
  (187, t_call 4 0 0 bc bs sp_X3_push 190),
  (190, t_goto 220),
  (193, t_ald 0 194),
  (194, t_ald 0 195),
  (195, t_getr 3 25 6 198),
  (198, t_ild 1 199),
  (199, t_iald 200),
  (200, t_ild 2 201),
  (201, t_ild 3 202),
  (202, t_call 4 0 0 bc bs sp_X3_push 205),
  (205, t_goto 220),
  (208, t_ald 0 209),
  (209, t_ald 0 210),
  (210, t_getr 3 25 2 213),
  (213, t_ild 1 214),
  (214, t_iald 215),
  (215, t_ild 2 216),
  (216, t_ild 3 217),
  (217, t_call 4 0 0 bc bs sp_X3_push 220),
  (220, t_vret K bc bs)]
set_option maxRecDepth 100000 in
theorem S_X3_begins {X : a_X} {K : aK} {l : Launch} {D : va_G} {G : aG} {N0 : Nat} (C : a_C X cX3_begins none RX3) (Y : a_Y X l (a_rm 3 0 0) D G N0) (M : a_mq X K (a_rm 3 0 0).cells (a_rm 3 0 0).slots) : ∀ x ∈ P_X3_begins K 0 0, a_Sd X x.1 x.2 := by
  unfold P_X3_begins
  refine List.forall_mem_cons.mpr ⟨s_aldn C dX3_begins_0 rfl, ?_⟩
  refine List.forall_mem_cons.mpr ⟨s_getr C rfl in_X3 (by decide) lk_X3_7 rfl dX3_begins_1, ?_⟩
  refine List.forall_mem_cons.mpr ⟨s_ildn C dX3_begins_4 rfl, ?_⟩
  refine List.forall_mem_cons.mpr ⟨s_iald C dX3_begins_5, ?_⟩
  refine List.forall_mem_cons.mpr ⟨s_tsw C dX3_begins_6 (a_tok_of2 10 (by decide) (by decide) (by decide) (by decide)), ?_⟩
  refine List.forall_mem_cons.mpr ⟨s_aldn C dX3_begins_64 rfl, ?_⟩
  refine List.forall_mem_cons.mpr ⟨s_aldn C dX3_begins_65 rfl, ?_⟩
  refine List.forall_mem_cons.mpr ⟨s_getr C rfl in_X3 (by decide) lk_X3_13 rfl dX3_begins_66, ?_⟩
  refine List.forall_mem_cons.mpr ⟨s_ildn C dX3_begins_69 rfl, ?_⟩
  refine List.forall_mem_cons.mpr ⟨s_iald C dX3_begins_70, ?_⟩
  refine List.forall_mem_cons.mpr ⟨s_ildn C dX3_begins_71 rfl, ?_⟩
  refine List.forall_mem_cons.mpr ⟨s_aldn C dX3_begins_72 rfl, ?_⟩
  refine List.forall_mem_cons.mpr ⟨s_getr C rfl in_X3 (by decide) lk_X3_16 rfl dX3_begins_73, ?_⟩
  refine List.forall_mem_cons.mpr ⟨s_ildn C dX3_begins_76 rfl, ?_⟩
  refine List.forall_mem_cons.mpr ⟨s_iald C dX3_begins_77, ?_⟩
  refine List.forall_mem_cons.mpr ⟨s_sub C dX3_begins_78, ?_⟩
  refine List.forall_mem_cons.mpr ⟨s_ildn C dX3_begins_79 rfl, ?_⟩
  refine List.forall_mem_cons.mpr ⟨s_aldn C dX3_begins_80 rfl, ?_⟩
  refine List.forall_mem_cons.mpr ⟨s_getr C rfl in_X3 (by decide) lk_X3_19 rfl dX3_begins_81, ?_⟩
  refine List.forall_mem_cons.mpr ⟨s_ildn C dX3_begins_84 rfl, ?_⟩
  refine List.forall_mem_cons.mpr ⟨s_iald C dX3_begins_85, ?_⟩
  refine List.forall_mem_cons.mpr ⟨s_sub C dX3_begins_86, ?_⟩
  refine List.forall_mem_cons.mpr ⟨s_callV (rm := (a_rm 1 0 0)) (n := 3) C Y (ci := 3) rfl con_X3_push rc_X3_push co_X3_push ml_X3_101 im_X3_push se_X3_push ii_X3 (by decide +kernel) ⟨by decide, by decide⟩ ⟨rfl, rfl⟩ dX3_begins_87, ?_⟩
  refine List.forall_mem_cons.mpr ⟨s_goto C dX3_begins_90 (by decide), ?_⟩
  refine List.forall_mem_cons.mpr ⟨s_aldn C dX3_begins_93 rfl, ?_⟩
  refine List.forall_mem_cons.mpr ⟨s_ildn C dX3_begins_94 rfl, ?_⟩
  refine List.forall_mem_cons.mpr ⟨s_ildn C dX3_begins_95 rfl, ?_⟩
  refine List.forall_mem_cons.mpr ⟨s_ildn C dX3_begins_96 rfl, ?_⟩
  refine List.forall_mem_cons.mpr ⟨s_callV (rm := (a_rm 2 0 0)) (n := 3) C Y (ci := 3) rfl con_X3_turned rc_X3_turned co_X3_turned ml_X3_104 im_X3_turned se_X3_turned ii_X3 (by decide +kernel) ⟨by decide, by decide⟩ ⟨rfl, rfl⟩ dX3_begins_97, ?_⟩
  refine List.forall_mem_cons.mpr ⟨s_goto C dX3_begins_100 (by decide), ?_⟩
  refine List.forall_mem_cons.mpr ⟨s_aldn C dX3_begins_103 rfl, ?_⟩
  refine List.forall_mem_cons.mpr ⟨s_aldn C dX3_begins_104 rfl, ?_⟩
  refine List.forall_mem_cons.mpr ⟨s_getr C rfl in_X3 (by decide) lk_X3_34 rfl dX3_begins_105, ?_⟩
  refine List.forall_mem_cons.mpr ⟨s_aldn C dX3_begins_108 rfl, ?_⟩
  refine List.forall_mem_cons.mpr ⟨s_getr C rfl in_X3 (by decide) lk_X3_13 rfl dX3_begins_109, ?_⟩
  refine List.forall_mem_cons.mpr ⟨s_ildn C dX3_begins_112 rfl, ?_⟩
  refine List.forall_mem_cons.mpr ⟨s_iald C dX3_begins_113, ?_⟩
  refine List.forall_mem_cons.mpr ⟨s_iald C dX3_begins_114, ?_⟩
  refine List.forall_mem_cons.mpr ⟨s_ildn C dX3_begins_115 rfl, ?_⟩
  refine List.forall_mem_cons.mpr ⟨s_ildn C dX3_begins_116 rfl, ?_⟩
  refine List.forall_mem_cons.mpr ⟨s_callV (rm := (a_rm 1 0 0)) (n := 3) C Y (ci := 3) rfl con_X3_push rc_X3_push co_X3_push ml_X3_101 im_X3_push se_X3_push ii_X3 (by decide +kernel) ⟨by decide, by decide⟩ ⟨rfl, rfl⟩ dX3_begins_117, ?_⟩
  refine List.forall_mem_cons.mpr ⟨s_goto C dX3_begins_120 (by decide), ?_⟩
  refine List.forall_mem_cons.mpr ⟨s_aldn C dX3_begins_123 rfl, ?_⟩
  refine List.forall_mem_cons.mpr ⟨s_getr C rfl in_X3 (by decide) lk_X3_28 rfl dX3_begins_124, ?_⟩
  refine List.forall_mem_cons.mpr ⟨s_ildn C dX3_begins_127 rfl, ?_⟩
  refine List.forall_mem_cons.mpr ⟨s_dup2 C dX3_begins_128, ?_⟩
  refine List.forall_mem_cons.mpr ⟨s_iald C dX3_begins_129, ?_⟩
  refine List.forall_mem_cons.mpr ⟨s_ic C dX3_begins_130 (by decide), ?_⟩
  refine List.forall_mem_cons.mpr ⟨s_add C dX3_begins_131, ?_⟩
  refine List.forall_mem_cons.mpr ⟨s_iast C dX3_begins_132, ?_⟩
  refine List.forall_mem_cons.mpr ⟨s_aldn C dX3_begins_133 rfl, ?_⟩
  refine List.forall_mem_cons.mpr ⟨s_getr C rfl in_X3 (by decide) lk_X3_28 rfl dX3_begins_134, ?_⟩
  refine List.forall_mem_cons.mpr ⟨s_ildn C dX3_begins_137 rfl, ?_⟩
  refine List.forall_mem_cons.mpr ⟨s_iald C dX3_begins_138, ?_⟩
  refine List.forall_mem_cons.mpr ⟨s_aldn C dX3_begins_139 rfl, ?_⟩
  refine List.forall_mem_cons.mpr ⟨s_getr C rfl in_X3 (by decide) lk_X3_16 rfl dX3_begins_140, ?_⟩
  refine List.forall_mem_cons.mpr ⟨s_ildn C dX3_begins_143 rfl, ?_⟩
  refine List.forall_mem_cons.mpr ⟨s_iald C dX3_begins_144, ?_⟩
  refine List.forall_mem_cons.mpr ⟨s_icmp_ne C dX3_begins_145 (by decide), ?_⟩
  refine List.forall_mem_cons.mpr ⟨s_aldn C dX3_begins_148 rfl, ?_⟩
  refine List.forall_mem_cons.mpr ⟨s_getr C rfl in_X3 (by decide) lk_X3_28 rfl dX3_begins_149, ?_⟩
  refine List.forall_mem_cons.mpr ⟨s_ildn C dX3_begins_152 rfl, ?_⟩
  refine List.forall_mem_cons.mpr ⟨s_ic C dX3_begins_153 (by decide), ?_⟩
  refine List.forall_mem_cons.mpr ⟨s_iast C dX3_begins_154, ?_⟩
  refine List.forall_mem_cons.mpr ⟨s_aldn C dX3_begins_155 rfl, ?_⟩
  refine List.forall_mem_cons.mpr ⟨s_dup C dX3_begins_156, ?_⟩
  refine List.forall_mem_cons.mpr ⟨s_geti C rfl in_X3 (by decide) lk_X3_107 rfl dX3_begins_157, ?_⟩
  refine List.forall_mem_cons.mpr ⟨s_ic C dX3_begins_160 (by decide), ?_⟩
  refine List.forall_mem_cons.mpr ⟨s_add C dX3_begins_161, ?_⟩
  refine List.forall_mem_cons.mpr ⟨s_puti C tyX3 tyX3_ok nmX3 rfl in_X3 (by decide) lk_X3_107 rfl (Or.inl rfl) rfl dX3_begins_162, ?_⟩
  refine List.forall_mem_cons.mpr ⟨s_aldn C dX3_begins_165 rfl, ?_⟩
  refine List.forall_mem_cons.mpr ⟨s_aldn C dX3_begins_166 rfl, ?_⟩
  refine List.forall_mem_cons.mpr ⟨s_getr C rfl in_X3 (by decide) lk_X3_19 rfl dX3_begins_167, ?_⟩
  refine List.forall_mem_cons.mpr ⟨s_ildn C dX3_begins_170 rfl, ?_⟩
  refine List.forall_mem_cons.mpr ⟨s_iald C dX3_begins_171, ?_⟩
  refine List.forall_mem_cons.mpr ⟨s_callV (rm := (a_rm 1 0 0)) (n := 1) C Y (ci := 3) rfl con_X3_tells rc_X3_tells co_X3_tells ml_X3_86 im_X3_tells se_X3_tells ii_X3 (by decide +kernel) ⟨by decide, by decide⟩ ⟨rfl, rfl⟩ dX3_begins_172, ?_⟩
  refine List.forall_mem_cons.mpr ⟨s_goto C dX3_begins_175 (by decide), ?_⟩
  refine List.forall_mem_cons.mpr ⟨s_aldn C dX3_begins_178 rfl, ?_⟩
  refine List.forall_mem_cons.mpr ⟨s_aldn C dX3_begins_179 rfl, ?_⟩
  refine List.forall_mem_cons.mpr ⟨s_getr C rfl in_X3 (by decide) lk_X3_13 rfl dX3_begins_180, ?_⟩
  refine List.forall_mem_cons.mpr ⟨s_ildn C dX3_begins_183 rfl, ?_⟩
  refine List.forall_mem_cons.mpr ⟨s_iald C dX3_begins_184, ?_⟩
  refine List.forall_mem_cons.mpr ⟨s_ildn C dX3_begins_185 rfl, ?_⟩
  refine List.forall_mem_cons.mpr ⟨s_ildn C dX3_begins_186 rfl, ?_⟩
  refine List.forall_mem_cons.mpr ⟨s_callV (rm := (a_rm 1 0 0)) (n := 3) C Y (ci := 3) rfl con_X3_push rc_X3_push co_X3_push ml_X3_101 im_X3_push se_X3_push ii_X3 (by decide +kernel) ⟨by decide, by decide⟩ ⟨rfl, rfl⟩ dX3_begins_187, ?_⟩
  refine List.forall_mem_cons.mpr ⟨s_goto C dX3_begins_190 (by decide), ?_⟩
  refine List.forall_mem_cons.mpr ⟨s_aldn C dX3_begins_193 rfl, ?_⟩
  refine List.forall_mem_cons.mpr ⟨s_aldn C dX3_begins_194 rfl, ?_⟩
  refine List.forall_mem_cons.mpr ⟨s_getr C rfl in_X3 (by decide) lk_X3_25 rfl dX3_begins_195, ?_⟩
  refine List.forall_mem_cons.mpr ⟨s_ildn C dX3_begins_198 rfl, ?_⟩
  refine List.forall_mem_cons.mpr ⟨s_iald C dX3_begins_199, ?_⟩
  refine List.forall_mem_cons.mpr ⟨s_ildn C dX3_begins_200 rfl, ?_⟩
  refine List.forall_mem_cons.mpr ⟨s_ildn C dX3_begins_201 rfl, ?_⟩
  refine List.forall_mem_cons.mpr ⟨s_callV (rm := (a_rm 1 0 0)) (n := 3) C Y (ci := 3) rfl con_X3_push rc_X3_push co_X3_push ml_X3_101 im_X3_push se_X3_push ii_X3 (by decide +kernel) ⟨by decide, by decide⟩ ⟨rfl, rfl⟩ dX3_begins_202, ?_⟩
  refine List.forall_mem_cons.mpr ⟨s_goto C dX3_begins_205 (by decide), ?_⟩
  refine List.forall_mem_cons.mpr ⟨s_aldn C dX3_begins_208 rfl, ?_⟩
  refine List.forall_mem_cons.mpr ⟨s_aldn C dX3_begins_209 rfl, ?_⟩
  refine List.forall_mem_cons.mpr ⟨s_getr C rfl in_X3 (by decide) lk_X3_13 rfl dX3_begins_210, ?_⟩
  refine List.forall_mem_cons.mpr ⟨s_ildn C dX3_begins_213 rfl, ?_⟩
  refine List.forall_mem_cons.mpr ⟨s_iald C dX3_begins_214, ?_⟩
  refine List.forall_mem_cons.mpr ⟨s_ildn C dX3_begins_215 rfl, ?_⟩
  refine List.forall_mem_cons.mpr ⟨s_ildn C dX3_begins_216 rfl, ?_⟩
  refine List.forall_mem_cons.mpr ⟨s_callV (rm := (a_rm 1 0 0)) (n := 3) C Y (ci := 3) rfl con_X3_push rc_X3_push co_X3_push ml_X3_101 im_X3_push se_X3_push ii_X3 (by decide +kernel) ⟨by decide, by decide⟩ ⟨rfl, rfl⟩ dX3_begins_217, ?_⟩
  refine List.forall_mem_cons.mpr ⟨s_vret C M dX3_begins_220, ?_⟩
  exact fun _ h => absurd h List.not_mem_nil
set_option maxRecDepth 20000 in
theorem con_X3_begins {l : Launch} {D : va_G} {G : aG} {N0 : Nat} : a_Con l D G N0 yX3_begins cX3_begins 4 none (a_rm 3 0 0) sp_X3_begins := by
  refine a_con (by decide) (fun as σ K h => by obtain ⟨I, F, B, c, x, y, rfl, rfl, -⟩ := h; exact Nat.le_refl _) ?_
  intro X as σ K h C Y M _
  obtain ⟨I, F, B, p, x, y, rfl, rfl, hp, ht, hn, hK⟩ := h
  refine a_wps (S_X3_begins C Y M) (inv := a_ni) a_nih 120 _ _ _ _ _ _ ?_
  have ne : ∀ {a b : Int32}, I 17 p.toNatClampNeg = a → ¬ a = b → ¬ I 17 p.toNatClampNeg = b := fun h w e => w (h.symm.trans e)
  refine ⟨hp, fun h3 => ?_, fun h3 => ⟨fun h4 => ?_, fun h4 => ⟨fun h5 => ?_, fun h5 => ⟨fun h6 => ?_, fun h6 => ⟨fun h7 => ?_, fun h7 => ⟨fun h8 => ?_, fun h8 => ⟨fun h9 => ?_, fun h9 => ⟨fun h10 => ?_, fun h10 => ⟨fun h11 => ?_, fun h11 => ⟨fun h12 => ?_, fun h12 => ⟨fun h13 => ?_, fun h13 => ?_⟩⟩⟩⟩⟩⟩⟩⟩⟩⟩⟩
  · rw [show m_begins I p x y = _ from if_pos h3] at hK
    exact ⟨hp, hp, hp, I, F, B, _, _, _, rfl, rfl, fun _ _ => ht, hK⟩
  · rw [show m_begins I p x y = _ by unfold m_begins; rw [if_neg h3, if_pos h4]] at hK
    exact ⟨I, F, B, _, _, _, rfl, rfl, hp, fun _ _ => ht, hK⟩
  · rw [m_begins_d h3 h4 (ne h5 (by decide)) (ne h5 (by decide)) (ne h5 (by decide))] at hK
    exact ⟨hp, I, F, B, _, _, _, rfl, rfl, fun _ _ => ht, hK⟩
  · rw [m_begins_d h3 h4 (ne h6 (by decide)) (ne h6 (by decide)) (ne h6 (by decide))] at hK
    exact ⟨hp, I, F, B, _, _, _, rfl, rfl, fun _ _ => ht, hK⟩
  · rw [m_begins_d h3 h4 (ne h7 (by decide)) (ne h7 (by decide)) (ne h7 (by decide))] at hK
    exact ⟨hp, I, F, B, _, _, _, rfl, rfl, fun _ _ => ht, hK⟩
  · rw [m_begins_d h3 h4 (ne h8 (by decide)) (ne h8 (by decide)) (ne h8 (by decide))] at hK
    exact ⟨hp, I, F, B, _, _, _, rfl, rfl, fun _ _ => ht, hK⟩
  · rw [show m_begins I p x y = _ by unfold m_begins; rw [if_neg h3, if_neg h4, if_pos h9]] at hK
    exact ⟨hp, hn h9, I, F, B, _, _, _, rfl, rfl, fun _ _ => ht, hK⟩
  · refine ⟨hp, hp, hp, hp, fun h => ?_, fun h => ?_⟩
    · have h : a_w I 23 p.toNatClampNeg (I 23 p.toNatClampNeg + 1) 23 p.toNatClampNeg = I 19 p.toNatClampNeg := h
      rw [a_ww] at h
      rw [show m_begins I p x y = _ by unfold m_begins; rw [if_neg h3, if_neg h4, if_neg h9, if_pos h10, if_pos h]] at hK
      exact ⟨hp, hp, _, F, B, _, rfl, rfl, hK⟩
    · have h : ¬ a_w I 23 p.toNatClampNeg (I 23 p.toNatClampNeg + 1) 23 p.toNatClampNeg = I 19 p.toNatClampNeg := h
      rw [a_ww] at h
      rw [show m_begins I p x y = _ by unfold m_begins; rw [if_neg h3, if_neg h4, if_neg h9, if_pos h10, if_neg h]] at hK
      exact ⟨hp, _, F, B, _, _, _, rfl, rfl, fun _ _ => ht, hK⟩
  · rw [m_begins_d h3 h4 h9 h10 (ne h11 (by decide))] at hK
    exact ⟨hp, I, F, B, _, _, _, rfl, rfl, fun _ _ => ht, hK⟩
  · rw [m_begins_d h3 h4 h9 h10 (ne h12 (by decide))] at hK
    exact ⟨hp, I, F, B, _, _, _, rfl, rfl, fun _ _ => ht, hK⟩
  · rw [show m_begins I p x y = _ by unfold m_begins; rw [if_neg h3, if_neg h4, if_neg h9, if_neg h10, if_pos h13]] at hK
    exact ⟨hp, I, F, B, _, _, _, rfl, rfl, fun _ _ => ht, hK⟩
  · rw [m_begins_d h3 h4 h9 h10 h13] at hK
    exact ⟨hp, I, F, B, _, _, _, rfl, rfl, fun _ _ => ht, hK⟩
def m_goesOn (I : Nat → Nat → Int32) (f p : Int32) : Nat → Nat → Int32 :=
  if I 17 p.toNatClampNeg = 5 ∧ I 33 f.toNatClampNeg - 2 = 0 ∧ I 16 21 = 0 then m_push I (I 19 p.toNatClampNeg) (I 31 f.toNatClampNeg) (I 32 f.toNatClampNeg)
  else if I 17 p.toNatClampNeg = 6 ∧ I 33 f.toNatClampNeg - 2 = 0 then m_push I (if I 16 21 ≤ 0 then I 20 p.toNatClampNeg else I 19 p.toNatClampNeg) (I 31 f.toNatClampNeg) (I 32 f.toNatClampNeg)
  else if I 17 p.toNatClampNeg = 7 then m_tellsOf I (I 16 21) (m_dyeAt I (I 19 p.toNatClampNeg) (I 16 21)) 0
  else if I 17 p.toNatClampNeg = 8 then m_tellsOf I (I 16 21) (if m_in (I 16 21) 0 7 = 0 then 0 else I 21 (8 * p + I 16 21).toNatClampNeg) 0
  else if I 17 p.toNatClampNeg = 9 then m_tells I (I 16 21 + I 19 p.toNatClampNeg)
  else if I 17 p.toNatClampNeg = 11 ∧ I 33 f.toNatClampNeg - 2 = 0 then m_push (a_w I 34 f.toNatClampNeg (I 16 21)) (I 19 p.toNatClampNeg) (I 31 f.toNatClampNeg) (I 32 f.toNatClampNeg)
  else if I 17 p.toNatClampNeg = 11 then m_tells I (I 34 f.toNatClampNeg + I 20 p.toNatClampNeg * I 16 21)
  else m_tells I (I 16 21)
def sp_X3_goesOn : aP := fun as σ K => ∃ I F B f p, σ = a_mk I F B ∧ as = [.inr (some 16), .inl f, .inl p] ∧ vp_in f 104 ∧ vp_in p 60 ∧ vp_in (I 16 13) 104 ∧ (I 17 p.toNatClampNeg = 7 → ¬ m_in (I 16 21) 0 7 = 0 → vp_in (8 * I 19 p.toNatClampNeg + I 16 21) 32) ∧ (I 17 p.toNatClampNeg = 8 → ¬ m_in (I 16 21) 0 7 = 0 → vp_in (8 * p + I 16 21) 480) ∧ K none (a_mk (m_goesOn I f p) F B)
theorem rc_X3_goesOn : ∀ as σ K, sp_X3_goesOn as σ K → ∃ h As, as = .inr (some h) :: As ∧ a_is σ h 3 25 = true := by
  rintro as σ K ⟨I, F, B, c, x, rfl, rfl, -⟩
  exact ⟨16, _, rfl, rfl⟩
def P_X3_goesOn (K : aK) (bc bs : Nat) : List (Nat × aT) := [(0, t_ald 0 1),
  (1, t_getr 3 25 1 4),
  (4, t_ild 2 5),
  (5, t_iald 6),
  (6, t_ist 3 7),
  (7, t_ald 0 8),
  (8, t_getr 3 25 17 11),
  (11, t_ild 1 12),
  (12, t_iald 13),
  (13, t_ic 2 14),
  (14, t_sub 15),
  (15, t_ist 4 17),
  (17, t_ald 0 18),
  (18, t_geti 3 25 21 21),
  (21, t_ist 5 23),
  (23, t_ild 3 24),
  (24, t_ic 5 25),
  (25, t_ifc (fun x y => x = y) 28 63),
  (28, t_ild 4 30),
  (30, t_if (fun x => x = 0) 33 63),
  (33, t_ild 5 35),
  (35, t_if (fun x => x = 0) 38 63),
  (38, t_ald 0 39),
  (39, t_ald 0 40),
  (40, t_getr 3 25 3 43),
  (43, t_ild 2 44),
  (44, t_iald 45),
  (45, t_ald 0 46),
  (46, t_getr 3 25 15 49),
  (49, t_ild 1 50),
  (50, t_iald 51),
  (51, t_ald 0 52),
  (52, t_getr 3 25 16 55),
  (55, t_ild 1 56),
  (56, t_iald 57),
  (57, t_call 4 0 0 bc bs sp_X3_push 60),
  (60, t_goto 285),
  (63, t_ild 3 64),
  (64, t_ic 6 66),
  (66, t_ifc (fun x y => x = y) 69 113),
  (69, t_ild 4 71),
  (71, t_if (fun x => x = 0) 74 113),
  (74, t_ald 0 75),
  (75, t_ild 5 77),
  (77, t_if (fun x => x ≤ 0) 89 80),
  (80, t_ald 0 81),
  (81, t_getr 3 25 3 84),
  (84, t_ild 2 85),
  (85, t_iald 86),
  (86, t_goto 95),
  (89, t_ald 0 90),
  (90, t_getr 3 25 4 93),
  (93, t_ild 2 94),
  (94, t_iald 95),
  (95, t_ald 0 96),
  (96, t_getr 3 25 15 99),
  (99, t_ild 1 100),
  (100, t_iald 101),
  (101, t_ald 0 102),
  (102, t_getr 3 25 16 105),
  (105, t_ild 1 106),
  (106, t_iald 107),
  (107, t_call 4 0 0 bc bs sp_X3_push 110),
  (110, t_goto 285),
  (113, t_ild 3 114),
  (114, t_ic 7 116),
  (116, t_ifc (fun x y => x = y) 119 141),
  (119, t_ald 0 120),
  (120, t_ild 5 122),
  (122, t_ald 0 123),
  (123, t_ald 0 124),
  (124, t_getr 3 25 3 127),
  (127, t_ild 2 128),
  (128, t_iald 129),
  (129, t_ild 5 131),
  (131, t_call 3 0 0 bc bs sp_X3_dyeAt 134),
  (134, t_ic 0 135),
  (135, t_call 4 0 0 bc bs sp_X3_tellsOf 138),
  (138, t_goto 285),
  (141, t_ild 3 142),
  (142, t_ic 8 144),
  (144, t_ifc (fun x y => x = y) 147 184),
  (147, t_ald 0 148),
  (148, t_ild 5 150),
  (150, t_ild 5 152),
  (152, t_ic 0 153),
  (153, t_ic 7 155),
  (155, t_call 3 0 0 bc bs sp_X3_in 158),
  (158, t_if (fun x => x = 0) 176 161),
  (161, t_ald 0 162),
  (162, t_getr 3 25 5 165),
  (165, t_ic 8 167),
  (167, t_ild 2 168),
  (168, t_mul 169),
  (169, t_ild 5 171),
  (171, t_add 172),
  (172, t_iald 173),
  (173, t_goto 177),
  (176, t_ic 0 177),
  (177, t_ic 0 178),
  (178, t_call 4 0 0 bc bs sp_X3_tellsOf 181),
  (181, t_goto 285),
  (184, t_ild 3 185),
  (185, t_ic 9 187),
  (187, t_ifc (fun x y => x = y) 190 206),
  (190, t_ald 0 191),
  (191, t_ild 5 193),
  (193, t_ald 0 194),
  (194, t_getr 3 25 3 197),
  (197, t_ild 2 198),
  (198, t_iald 199),
  (199, t_add 200),
  (200, t_call 2 0 0 bc bs sp_X3_tells 203),
  (203, t_goto 285),
  (206, t_ild 3 207),
  (207, t_ic 11 209),
  (209, t_ifc (fun x y => x = y) 212 250),
  (212, t_ild 4 214),
  (214, t_if (fun x => x = 0) 217 250),
  (217, t_ald 0 218),
  (218, t_getr 3 25 18 221),
  (221, t_ild 1 222),
  (222, t_ild 5 224),
  (224, t_iast 225),
  (225, t_ald 0 226),
  (226, t_ald 0 227),
  (227, t_getr 3 25 3 230),
  (230, t_ild 2 231),
  (231, t_iald 232),
  (232, t_ald 0 233),
  (233, t_getr 3 25 15 236),
  (236, t_ild 1 237),
  (237, t_iald 238),
  (238, t_ald 0 239),
  (239, t_getr 3 25 16 242),
  (242, t_ild 1 243),
  (243, t_iald 244),
  (244, t_call 4 0 0 bc bs sp_X3_push 247),
  (247, t_goto 285),
  (250, t_ild 3 251),
  (251, t_ic 11 253),
  (253, t_ifc (fun x y => x = y) 256 279),
  (256, t_ald 0 257),
  (257, t_ald 0 258),
  (258, t_getr 3 25 18 261),
  (261, t_ild 1 262),
  (262, t_iald 263),
  (263, t_ald 0 264),
  (264, t_getr 3 25 4 267),
  (267, t_ild 2 268),
  (268, t_iald 269),
  (269, t_ild 5 271),
  (271, t_mul 272),
  (272, t_add 273),
  (273, t_call 2 0 0 bc bs sp_X3_tells 276),
  (276, t_goto 285),
  (279, t_ald 0 280),
  (280, t_ild 5 282),
  (282, t_call 2 0 0 bc bs sp_X3_tells 285),
  (285, t_vret K bc bs)]
set_option maxRecDepth 100000 in
theorem S_X3_goesOn {X : a_X} {K : aK} {l : Launch} {D : va_G} {G : aG} {N0 : Nat} (C : a_C X cX3_goesOn none RX3) (Y : a_Y X l (a_rm 3 0 0) D G N0) (M : a_mq X K (a_rm 3 0 0).cells (a_rm 3 0 0).slots) : ∀ x ∈ P_X3_goesOn K 0 0, a_Sd X x.1 x.2 := by
  unfold P_X3_goesOn
  refine List.forall_mem_cons.mpr ⟨s_aldn C dX3_goesOn_0 rfl, ?_⟩
  refine List.forall_mem_cons.mpr ⟨s_getr C rfl in_X3 (by decide) lk_X3_7 rfl dX3_goesOn_1, ?_⟩
  refine List.forall_mem_cons.mpr ⟨s_ildn C dX3_goesOn_4 rfl, ?_⟩
  refine List.forall_mem_cons.mpr ⟨s_iald C dX3_goesOn_5, ?_⟩
  refine List.forall_mem_cons.mpr ⟨s_istn C dX3_goesOn_6 rfl, ?_⟩
  refine List.forall_mem_cons.mpr ⟨s_aldn C dX3_goesOn_7 rfl, ?_⟩
  refine List.forall_mem_cons.mpr ⟨s_getr C rfl in_X3 (by decide) lk_X3_46 rfl dX3_goesOn_8, ?_⟩
  refine List.forall_mem_cons.mpr ⟨s_ildn C dX3_goesOn_11 rfl, ?_⟩
  refine List.forall_mem_cons.mpr ⟨s_iald C dX3_goesOn_12, ?_⟩
  refine List.forall_mem_cons.mpr ⟨s_ic C dX3_goesOn_13 (by decide), ?_⟩
  refine List.forall_mem_cons.mpr ⟨s_sub C dX3_goesOn_14, ?_⟩
  refine List.forall_mem_cons.mpr ⟨s_ist C dX3_goesOn_15, ?_⟩
  refine List.forall_mem_cons.mpr ⟨s_aldn C dX3_goesOn_17 rfl, ?_⟩
  refine List.forall_mem_cons.mpr ⟨s_geti C rfl in_X3 (by decide) lk_X3_83 rfl dX3_goesOn_18, ?_⟩
  refine List.forall_mem_cons.mpr ⟨s_ist C dX3_goesOn_21, ?_⟩
  refine List.forall_mem_cons.mpr ⟨s_ildn C dX3_goesOn_23 rfl, ?_⟩
  refine List.forall_mem_cons.mpr ⟨s_ic C dX3_goesOn_24 (by decide), ?_⟩
  refine List.forall_mem_cons.mpr ⟨s_icmp_ne C dX3_goesOn_25 (by decide), ?_⟩
  refine List.forall_mem_cons.mpr ⟨s_ild C dX3_goesOn_28, ?_⟩
  refine List.forall_mem_cons.mpr ⟨s_if_ne C dX3_goesOn_30 (by decide), ?_⟩
  refine List.forall_mem_cons.mpr ⟨s_ild C dX3_goesOn_33, ?_⟩
  refine List.forall_mem_cons.mpr ⟨s_if_ne C dX3_goesOn_35 (by decide), ?_⟩
  refine List.forall_mem_cons.mpr ⟨s_aldn C dX3_goesOn_38 rfl, ?_⟩
  refine List.forall_mem_cons.mpr ⟨s_aldn C dX3_goesOn_39 rfl, ?_⟩
  refine List.forall_mem_cons.mpr ⟨s_getr C rfl in_X3 (by decide) lk_X3_16 rfl dX3_goesOn_40, ?_⟩
  refine List.forall_mem_cons.mpr ⟨s_ildn C dX3_goesOn_43 rfl, ?_⟩
  refine List.forall_mem_cons.mpr ⟨s_iald C dX3_goesOn_44, ?_⟩
  refine List.forall_mem_cons.mpr ⟨s_aldn C dX3_goesOn_45 rfl, ?_⟩
  refine List.forall_mem_cons.mpr ⟨s_getr C rfl in_X3 (by decide) lk_X3_40 rfl dX3_goesOn_46, ?_⟩
  refine List.forall_mem_cons.mpr ⟨s_ildn C dX3_goesOn_49 rfl, ?_⟩
  refine List.forall_mem_cons.mpr ⟨s_iald C dX3_goesOn_50, ?_⟩
  refine List.forall_mem_cons.mpr ⟨s_aldn C dX3_goesOn_51 rfl, ?_⟩
  refine List.forall_mem_cons.mpr ⟨s_getr C rfl in_X3 (by decide) lk_X3_43 rfl dX3_goesOn_52, ?_⟩
  refine List.forall_mem_cons.mpr ⟨s_ildn C dX3_goesOn_55 rfl, ?_⟩
  refine List.forall_mem_cons.mpr ⟨s_iald C dX3_goesOn_56, ?_⟩
  refine List.forall_mem_cons.mpr ⟨s_callV (rm := (a_rm 1 0 0)) (n := 3) C Y (ci := 3) rfl con_X3_push rc_X3_push co_X3_push ml_X3_101 im_X3_push se_X3_push ii_X3 (by decide +kernel) ⟨by decide, by decide⟩ ⟨rfl, rfl⟩ dX3_goesOn_57, ?_⟩
  refine List.forall_mem_cons.mpr ⟨s_goto C dX3_goesOn_60 (by decide), ?_⟩
  refine List.forall_mem_cons.mpr ⟨s_ildn C dX3_goesOn_63 rfl, ?_⟩
  refine List.forall_mem_cons.mpr ⟨s_bi C dX3_goesOn_64 (by decide), ?_⟩
  refine List.forall_mem_cons.mpr ⟨s_icmp_ne C dX3_goesOn_66 (by decide), ?_⟩
  refine List.forall_mem_cons.mpr ⟨s_ild C dX3_goesOn_69, ?_⟩
  refine List.forall_mem_cons.mpr ⟨s_if_ne C dX3_goesOn_71 (by decide), ?_⟩
  refine List.forall_mem_cons.mpr ⟨s_aldn C dX3_goesOn_74 rfl, ?_⟩
  refine List.forall_mem_cons.mpr ⟨s_ild C dX3_goesOn_75, ?_⟩
  refine List.forall_mem_cons.mpr ⟨s_if_le C dX3_goesOn_77 (by decide), ?_⟩
  refine List.forall_mem_cons.mpr ⟨s_aldn C dX3_goesOn_80 rfl, ?_⟩
  refine List.forall_mem_cons.mpr ⟨s_getr C rfl in_X3 (by decide) lk_X3_16 rfl dX3_goesOn_81, ?_⟩
  refine List.forall_mem_cons.mpr ⟨s_ildn C dX3_goesOn_84 rfl, ?_⟩
  refine List.forall_mem_cons.mpr ⟨s_iald C dX3_goesOn_85, ?_⟩
  refine List.forall_mem_cons.mpr ⟨s_goto C dX3_goesOn_86 (by decide), ?_⟩
  refine List.forall_mem_cons.mpr ⟨s_aldn C dX3_goesOn_89 rfl, ?_⟩
  refine List.forall_mem_cons.mpr ⟨s_getr C rfl in_X3 (by decide) lk_X3_19 rfl dX3_goesOn_90, ?_⟩
  refine List.forall_mem_cons.mpr ⟨s_ildn C dX3_goesOn_93 rfl, ?_⟩
  refine List.forall_mem_cons.mpr ⟨s_iald C dX3_goesOn_94, ?_⟩
  refine List.forall_mem_cons.mpr ⟨s_aldn C dX3_goesOn_95 rfl, ?_⟩
  refine List.forall_mem_cons.mpr ⟨s_getr C rfl in_X3 (by decide) lk_X3_40 rfl dX3_goesOn_96, ?_⟩
  refine List.forall_mem_cons.mpr ⟨s_ildn C dX3_goesOn_99 rfl, ?_⟩
  refine List.forall_mem_cons.mpr ⟨s_iald C dX3_goesOn_100, ?_⟩
  refine List.forall_mem_cons.mpr ⟨s_aldn C dX3_goesOn_101 rfl, ?_⟩
  refine List.forall_mem_cons.mpr ⟨s_getr C rfl in_X3 (by decide) lk_X3_43 rfl dX3_goesOn_102, ?_⟩
  refine List.forall_mem_cons.mpr ⟨s_ildn C dX3_goesOn_105 rfl, ?_⟩
  refine List.forall_mem_cons.mpr ⟨s_iald C dX3_goesOn_106, ?_⟩
  refine List.forall_mem_cons.mpr ⟨s_callV (rm := (a_rm 1 0 0)) (n := 3) C Y (ci := 3) rfl con_X3_push rc_X3_push co_X3_push ml_X3_101 im_X3_push se_X3_push ii_X3 (by decide +kernel) ⟨by decide, by decide⟩ ⟨rfl, rfl⟩ dX3_goesOn_107, ?_⟩
  refine List.forall_mem_cons.mpr ⟨s_goto C dX3_goesOn_110 (by decide), ?_⟩
  refine List.forall_mem_cons.mpr ⟨s_ildn C dX3_goesOn_113 rfl, ?_⟩
  refine List.forall_mem_cons.mpr ⟨s_bi C dX3_goesOn_114 (by decide), ?_⟩
  refine List.forall_mem_cons.mpr ⟨s_icmp_ne C dX3_goesOn_116 (by decide), ?_⟩
  refine List.forall_mem_cons.mpr ⟨s_aldn C dX3_goesOn_119 rfl, ?_⟩
  refine List.forall_mem_cons.mpr ⟨s_ild C dX3_goesOn_120, ?_⟩
  refine List.forall_mem_cons.mpr ⟨s_aldn C dX3_goesOn_122 rfl, ?_⟩
  refine List.forall_mem_cons.mpr ⟨s_aldn C dX3_goesOn_123 rfl, ?_⟩
  refine List.forall_mem_cons.mpr ⟨s_getr C rfl in_X3 (by decide) lk_X3_16 rfl dX3_goesOn_124, ?_⟩
  refine List.forall_mem_cons.mpr ⟨s_ildn C dX3_goesOn_127 rfl, ?_⟩
  refine List.forall_mem_cons.mpr ⟨s_iald C dX3_goesOn_128, ?_⟩
  refine List.forall_mem_cons.mpr ⟨s_ild C dX3_goesOn_129, ?_⟩
  refine List.forall_mem_cons.mpr ⟨s_callV (rm := (a_rm 2 0 0)) (n := 2) C Y (ci := 3) rfl con_X3_dyeAt rc_X3_dyeAt co_X3_dyeAt ml_X3_90 im_X3_dyeAt se_X3_dyeAt ii_X3 (by decide +kernel) ⟨by decide, by decide⟩ ⟨rfl, rfl⟩ dX3_goesOn_131, ?_⟩
  refine List.forall_mem_cons.mpr ⟨s_ic C dX3_goesOn_134 (by decide), ?_⟩
  refine List.forall_mem_cons.mpr ⟨s_callV (rm := (a_rm 2 0 0)) (n := 3) C Y (ci := 3) rfl con_X3_tellsOf rc_X3_tellsOf co_X3_tellsOf ml_X3_94 im_X3_tellsOf se_X3_tellsOf ii_X3 (by decide +kernel) ⟨by decide, by decide⟩ ⟨rfl, rfl⟩ dX3_goesOn_135, ?_⟩
  refine List.forall_mem_cons.mpr ⟨s_goto C dX3_goesOn_138 (by decide), ?_⟩
  refine List.forall_mem_cons.mpr ⟨s_ildn C dX3_goesOn_141 rfl, ?_⟩
  refine List.forall_mem_cons.mpr ⟨s_bi C dX3_goesOn_142 (by decide), ?_⟩
  refine List.forall_mem_cons.mpr ⟨s_icmp_ne C dX3_goesOn_144 (by decide), ?_⟩
  refine List.forall_mem_cons.mpr ⟨s_aldn C dX3_goesOn_147 rfl, ?_⟩
  refine List.forall_mem_cons.mpr ⟨s_ild C dX3_goesOn_148, ?_⟩
  refine List.forall_mem_cons.mpr ⟨s_ild C dX3_goesOn_150, ?_⟩
  refine List.forall_mem_cons.mpr ⟨s_ic C dX3_goesOn_152 (by decide), ?_⟩
  refine List.forall_mem_cons.mpr ⟨s_bi C dX3_goesOn_153 (by decide), ?_⟩
  refine List.forall_mem_cons.mpr ⟨s_callS (rm := (a_rm 1 0 0)) C Y con_X3_in co_X3_in ml_X3_59 st_X3_in ii_X3 (by decide +kernel) ⟨by decide, by decide⟩ ⟨rfl, rfl⟩ dX3_goesOn_155, ?_⟩
  refine List.forall_mem_cons.mpr ⟨s_if_eq C dX3_goesOn_158 (by decide), ?_⟩
  refine List.forall_mem_cons.mpr ⟨s_aldn C dX3_goesOn_161 rfl, ?_⟩
  refine List.forall_mem_cons.mpr ⟨s_getr C rfl in_X3 (by decide) lk_X3_22 rfl dX3_goesOn_162, ?_⟩
  refine List.forall_mem_cons.mpr ⟨s_bi C dX3_goesOn_165 (by decide), ?_⟩
  refine List.forall_mem_cons.mpr ⟨s_ildn C dX3_goesOn_167 rfl, ?_⟩
  refine List.forall_mem_cons.mpr ⟨s_mul C dX3_goesOn_168, ?_⟩
  refine List.forall_mem_cons.mpr ⟨s_ild C dX3_goesOn_169, ?_⟩
  refine List.forall_mem_cons.mpr ⟨s_add C dX3_goesOn_171, ?_⟩
  refine List.forall_mem_cons.mpr ⟨s_iald C dX3_goesOn_172, ?_⟩
  refine List.forall_mem_cons.mpr ⟨s_goto C dX3_goesOn_173 (by decide), ?_⟩
  refine List.forall_mem_cons.mpr ⟨s_ic C dX3_goesOn_176 (by decide), ?_⟩
  refine List.forall_mem_cons.mpr ⟨s_ic C dX3_goesOn_177 (by decide), ?_⟩
  refine List.forall_mem_cons.mpr ⟨s_callV (rm := (a_rm 2 0 0)) (n := 3) C Y (ci := 3) rfl con_X3_tellsOf rc_X3_tellsOf co_X3_tellsOf ml_X3_94 im_X3_tellsOf se_X3_tellsOf ii_X3 (by decide +kernel) ⟨by decide, by decide⟩ ⟨rfl, rfl⟩ dX3_goesOn_178, ?_⟩
  refine List.forall_mem_cons.mpr ⟨s_goto C dX3_goesOn_181 (by decide), ?_⟩
  refine List.forall_mem_cons.mpr ⟨s_ildn C dX3_goesOn_184 rfl, ?_⟩
  refine List.forall_mem_cons.mpr ⟨s_bi C dX3_goesOn_185 (by decide), ?_⟩
  refine List.forall_mem_cons.mpr ⟨s_icmp_ne C dX3_goesOn_187 (by decide), ?_⟩
  refine List.forall_mem_cons.mpr ⟨s_aldn C dX3_goesOn_190 rfl, ?_⟩
  refine List.forall_mem_cons.mpr ⟨s_ild C dX3_goesOn_191, ?_⟩
  refine List.forall_mem_cons.mpr ⟨s_aldn C dX3_goesOn_193 rfl, ?_⟩
  refine List.forall_mem_cons.mpr ⟨s_getr C rfl in_X3 (by decide) lk_X3_16 rfl dX3_goesOn_194, ?_⟩
  refine List.forall_mem_cons.mpr ⟨s_ildn C dX3_goesOn_197 rfl, ?_⟩
  refine List.forall_mem_cons.mpr ⟨s_iald C dX3_goesOn_198, ?_⟩
  refine List.forall_mem_cons.mpr ⟨s_add C dX3_goesOn_199, ?_⟩
  refine List.forall_mem_cons.mpr ⟨s_callV (rm := (a_rm 1 0 0)) (n := 1) C Y (ci := 3) rfl con_X3_tells rc_X3_tells co_X3_tells ml_X3_86 im_X3_tells se_X3_tells ii_X3 (by decide +kernel) ⟨by decide, by decide⟩ ⟨rfl, rfl⟩ dX3_goesOn_200, ?_⟩
  refine List.forall_mem_cons.mpr ⟨s_goto C dX3_goesOn_203 (by decide), ?_⟩
  refine List.forall_mem_cons.mpr ⟨s_ildn C dX3_goesOn_206 rfl, ?_⟩
  refine List.forall_mem_cons.mpr ⟨s_bi C dX3_goesOn_207 (by decide), ?_⟩
  refine List.forall_mem_cons.mpr ⟨s_icmp_ne C dX3_goesOn_209 (by decide), ?_⟩
  refine List.forall_mem_cons.mpr ⟨s_ild C dX3_goesOn_212, ?_⟩
  refine List.forall_mem_cons.mpr ⟨s_if_ne C dX3_goesOn_214 (by decide), ?_⟩
  refine List.forall_mem_cons.mpr ⟨s_aldn C dX3_goesOn_217 rfl, ?_⟩
  refine List.forall_mem_cons.mpr ⟨s_getr C rfl in_X3 (by decide) lk_X3_49 rfl dX3_goesOn_218, ?_⟩
  refine List.forall_mem_cons.mpr ⟨s_ildn C dX3_goesOn_221 rfl, ?_⟩
  refine List.forall_mem_cons.mpr ⟨s_ild C dX3_goesOn_222, ?_⟩
  refine List.forall_mem_cons.mpr ⟨s_iast C dX3_goesOn_224, ?_⟩
  refine List.forall_mem_cons.mpr ⟨s_aldn C dX3_goesOn_225 rfl, ?_⟩
  refine List.forall_mem_cons.mpr ⟨s_aldn C dX3_goesOn_226 rfl, ?_⟩
  refine List.forall_mem_cons.mpr ⟨s_getr C rfl in_X3 (by decide) lk_X3_16 rfl dX3_goesOn_227, ?_⟩
  refine List.forall_mem_cons.mpr ⟨s_ildn C dX3_goesOn_230 rfl, ?_⟩
  refine List.forall_mem_cons.mpr ⟨s_iald C dX3_goesOn_231, ?_⟩
  refine List.forall_mem_cons.mpr ⟨s_aldn C dX3_goesOn_232 rfl, ?_⟩
  refine List.forall_mem_cons.mpr ⟨s_getr C rfl in_X3 (by decide) lk_X3_40 rfl dX3_goesOn_233, ?_⟩
  refine List.forall_mem_cons.mpr ⟨s_ildn C dX3_goesOn_236 rfl, ?_⟩
  refine List.forall_mem_cons.mpr ⟨s_iald C dX3_goesOn_237, ?_⟩
  refine List.forall_mem_cons.mpr ⟨s_aldn C dX3_goesOn_238 rfl, ?_⟩
  refine List.forall_mem_cons.mpr ⟨s_getr C rfl in_X3 (by decide) lk_X3_43 rfl dX3_goesOn_239, ?_⟩
  refine List.forall_mem_cons.mpr ⟨s_ildn C dX3_goesOn_242 rfl, ?_⟩
  refine List.forall_mem_cons.mpr ⟨s_iald C dX3_goesOn_243, ?_⟩
  refine List.forall_mem_cons.mpr ⟨s_callV (rm := (a_rm 1 0 0)) (n := 3) C Y (ci := 3) rfl con_X3_push rc_X3_push co_X3_push ml_X3_101 im_X3_push se_X3_push ii_X3 (by decide +kernel) ⟨by decide, by decide⟩ ⟨rfl, rfl⟩ dX3_goesOn_244, ?_⟩
  refine List.forall_mem_cons.mpr ⟨s_goto C dX3_goesOn_247 (by decide), ?_⟩
  refine List.forall_mem_cons.mpr ⟨s_ildn C dX3_goesOn_250 rfl, ?_⟩
  refine List.forall_mem_cons.mpr ⟨s_bi C dX3_goesOn_251 (by decide), ?_⟩
  refine List.forall_mem_cons.mpr ⟨s_icmp_ne C dX3_goesOn_253 (by decide), ?_⟩
  refine List.forall_mem_cons.mpr ⟨s_aldn C dX3_goesOn_256 rfl, ?_⟩
  refine List.forall_mem_cons.mpr ⟨s_aldn C dX3_goesOn_257 rfl, ?_⟩
  refine List.forall_mem_cons.mpr ⟨s_getr C rfl in_X3 (by decide) lk_X3_49 rfl dX3_goesOn_258, ?_⟩
  refine List.forall_mem_cons.mpr ⟨s_ildn C dX3_goesOn_261 rfl, ?_⟩
  refine List.forall_mem_cons.mpr ⟨s_iald C dX3_goesOn_262, ?_⟩
  refine List.forall_mem_cons.mpr ⟨s_aldn C dX3_goesOn_263 rfl, ?_⟩
  refine List.forall_mem_cons.mpr ⟨s_getr C rfl in_X3 (by decide) lk_X3_19 rfl dX3_goesOn_264, ?_⟩
  refine List.forall_mem_cons.mpr ⟨s_ildn C dX3_goesOn_267 rfl, ?_⟩
  refine List.forall_mem_cons.mpr ⟨s_iald C dX3_goesOn_268, ?_⟩
  refine List.forall_mem_cons.mpr ⟨s_ild C dX3_goesOn_269, ?_⟩
  refine List.forall_mem_cons.mpr ⟨s_mul C dX3_goesOn_271, ?_⟩
  refine List.forall_mem_cons.mpr ⟨s_add C dX3_goesOn_272, ?_⟩
  refine List.forall_mem_cons.mpr ⟨s_callV (rm := (a_rm 1 0 0)) (n := 1) C Y (ci := 3) rfl con_X3_tells rc_X3_tells co_X3_tells ml_X3_86 im_X3_tells se_X3_tells ii_X3 (by decide +kernel) ⟨by decide, by decide⟩ ⟨rfl, rfl⟩ dX3_goesOn_273, ?_⟩
  refine List.forall_mem_cons.mpr ⟨s_goto C dX3_goesOn_276 (by decide), ?_⟩
  refine List.forall_mem_cons.mpr ⟨s_aldn C dX3_goesOn_279 rfl, ?_⟩
  refine List.forall_mem_cons.mpr ⟨s_ild C dX3_goesOn_280, ?_⟩
  refine List.forall_mem_cons.mpr ⟨s_callV (rm := (a_rm 1 0 0)) (n := 1) C Y (ci := 3) rfl con_X3_tells rc_X3_tells co_X3_tells ml_X3_86 im_X3_tells se_X3_tells ii_X3 (by decide +kernel) ⟨by decide, by decide⟩ ⟨rfl, rfl⟩ dX3_goesOn_282, ?_⟩
  refine List.forall_mem_cons.mpr ⟨s_vret C M dX3_goesOn_285, ?_⟩
  exact fun _ h => absurd h List.not_mem_nil
set_option maxRecDepth 20000 in
theorem con_X3_goesOn {l : Launch} {D : va_G} {G : aG} {N0 : Nat} : a_Con l D G N0 yX3_goesOn cX3_goesOn 6 none (a_rm 3 0 0) sp_X3_goesOn := by
  refine a_con (by decide) (fun as σ K h => by obtain ⟨I, F, B, c, x, rfl, rfl, -⟩ := h; exact (by decide : 3 ≤ 6)) ?_
  intro X as σ K h C Y M _
  obtain ⟨I, F, B, f, p, rfl, rfl, hf, hp, ht, h7v, h8v, hK⟩ := h
  refine a_wps (S_X3_goesOn C Y M) (inv := a_ni) a_nih 160 _ _ _ _ _ _ ?_
  have ne : ∀ {a b : Int32}, I 17 p.toNatClampNeg = a → ¬ a = b → ¬ I 17 p.toNatClampNeg = b := fun h w e => w (h.symm.trans e)
  by_cases h5 : I 17 p.toNatClampNeg = 5
  · by_cases hk : I 33 f.toNatClampNeg - 2 = 0
    · by_cases hv : I 16 21 = 0
      · rw [show m_goesOn I f p = _ from if_pos ⟨h5, hk, hv⟩] at hK
        exact ⟨hp, hf, fun _ => ⟨fun _ => ⟨fun _ => ⟨hp, hf, hf, I, F, B, _, _, _, rfl, rfl, fun _ _ => ht, hK⟩, fun w => absurd hv w⟩, fun w => absurd hk w⟩, fun w => absurd h5 w⟩
      · rw [show m_goesOn I f p = _ by unfold m_goesOn; rw [if_neg (fun w => hv w.2.2), if_neg (fun w => ne h5 (by decide) w.1), if_neg (ne h5 (by decide)), if_neg (ne h5 (by decide)), if_neg (ne h5 (by decide)), if_neg (fun w => ne h5 (by decide) w.1), if_neg (ne h5 (by decide))]] at hK
        exact ⟨hp, hf, fun _ => ⟨fun _ => ⟨fun w => absurd w hv, fun _ => ⟨fun w => absurd w (ne h5 (by decide)), fun _ => ⟨fun w => absurd w (ne h5 (by decide)), fun _ => ⟨fun w => absurd w (ne h5 (by decide)), fun _ => ⟨fun w => absurd w (ne h5 (by decide)), fun _ => ⟨fun w => absurd w (ne h5 (by decide)), fun _ => ⟨fun w => absurd w (ne h5 (by decide)), fun _ => ⟨I, F, B, _, rfl, rfl, hK⟩⟩⟩⟩⟩⟩⟩⟩, fun w => absurd hk w⟩, fun w => absurd h5 w⟩
    · rw [show m_goesOn I f p = _ by unfold m_goesOn; rw [if_neg (fun w => hk w.2.1), if_neg (fun w => ne h5 (by decide) w.1), if_neg (ne h5 (by decide)), if_neg (ne h5 (by decide)), if_neg (ne h5 (by decide)), if_neg (fun w => ne h5 (by decide) w.1), if_neg (ne h5 (by decide))]] at hK
      exact ⟨hp, hf, fun _ => ⟨fun w => absurd w hk, fun _ => ⟨fun w => absurd w (ne h5 (by decide)), fun _ => ⟨fun w => absurd w (ne h5 (by decide)), fun _ => ⟨fun w => absurd w (ne h5 (by decide)), fun _ => ⟨fun w => absurd w (ne h5 (by decide)), fun _ => ⟨fun w => absurd w (ne h5 (by decide)), fun _ => ⟨fun w => absurd w (ne h5 (by decide)), fun _ => ⟨I, F, B, _, rfl, rfl, hK⟩⟩⟩⟩⟩⟩⟩⟩, fun w => absurd h5 w⟩
  · by_cases h6 : I 17 p.toNatClampNeg = 6
    · by_cases hk : I 33 f.toNatClampNeg - 2 = 0
      · rw [show m_goesOn I f p = _ by unfold m_goesOn; rw [if_neg (fun w => h5 w.1), if_pos ⟨h6, hk⟩]] at hK
        refine ⟨hp, hf, fun w => absurd w h5, fun _ => ⟨fun _ => ⟨fun _ => ⟨fun h0 => ⟨hp, hf, hf, I, F, B, _, _, _, rfl, rfl, fun _ _ => ht, ?_⟩, fun h0 => ⟨hp, hf, hf, I, F, B, _, _, _, rfl, rfl, fun _ _ => ht, ?_⟩⟩, fun w => absurd hk w⟩, fun w => absurd h6 w⟩⟩
        · rw [if_pos h0] at hK; exact hK
        · rw [if_neg h0] at hK; exact hK
      · rw [show m_goesOn I f p = _ by unfold m_goesOn; rw [if_neg (fun w => h5 w.1), if_neg (fun w => hk w.2), if_neg (ne h6 (by decide)), if_neg (ne h6 (by decide)), if_neg (ne h6 (by decide)), if_neg (fun w => ne h6 (by decide) w.1), if_neg (ne h6 (by decide))]] at hK
        exact ⟨hp, hf, fun w => absurd w h5, fun _ => ⟨fun _ => ⟨fun w => absurd w hk, fun _ => ⟨fun w => absurd w (ne h6 (by decide)), fun _ => ⟨fun w => absurd w (ne h6 (by decide)), fun _ => ⟨fun w => absurd w (ne h6 (by decide)), fun _ => ⟨fun w => absurd w (ne h6 (by decide)), fun _ => ⟨fun w => absurd w (ne h6 (by decide)), fun _ => ⟨I, F, B, _, rfl, rfl, hK⟩⟩⟩⟩⟩⟩⟩, fun w => absurd h6 w⟩⟩
    · by_cases h7 : I 17 p.toNatClampNeg = 7
      · rw [show m_goesOn I f p = _ by unfold m_goesOn; rw [if_neg (fun w => h5 w.1), if_neg (fun w => h6 w.1), if_pos h7]] at hK
        exact ⟨hp, hf, fun w => absurd w h5, fun _ => ⟨fun w => absurd w h6, fun _ => ⟨fun _ => ⟨hp, I, F, B, _, _, rfl, rfl, h7v h7, I, F, B, _, _, _, rfl, rfl, hK⟩, fun w => absurd h7 w⟩⟩⟩
      · by_cases h8 : I 17 p.toNatClampNeg = 8
        · rw [show m_goesOn I f p = _ by unfold m_goesOn; rw [if_neg (fun w => h5 w.1), if_neg (fun w => h6 w.1), if_neg h7, if_pos h8]] at hK
          refine ⟨hp, hf, fun w => absurd w h5, fun _ => ⟨fun w => absurd w h6, fun _ => ⟨fun w => absurd w h7, fun _ => ⟨fun _ => ⟨_, _, _, rfl, fun h0 => ⟨I, F, B, _, _, _, rfl, rfl, ?_⟩, fun h0 => ⟨h8v h8 h0, I, F, B, _, _, _, rfl, rfl, ?_⟩⟩, fun w => absurd h8 w⟩⟩⟩⟩
          · rw [if_pos h0] at hK; exact hK
          · rw [if_neg h0] at hK; exact hK
        · by_cases h9 : I 17 p.toNatClampNeg = 9
          · rw [show m_goesOn I f p = _ by unfold m_goesOn; rw [if_neg (fun w => h5 w.1), if_neg (fun w => h6 w.1), if_neg h7, if_neg h8, if_pos h9]] at hK
            exact ⟨hp, hf, fun w => absurd w h5, fun _ => ⟨fun w => absurd w h6, fun _ => ⟨fun w => absurd w h7, fun _ => ⟨fun w => absurd w h8, fun _ => ⟨fun _ => ⟨hp, I, F, B, _, rfl, rfl, hK⟩, fun w => absurd h9 w⟩⟩⟩⟩⟩
          · by_cases h11 : I 17 p.toNatClampNeg = 11
            · by_cases hk : I 33 f.toNatClampNeg - 2 = 0
              · rw [show m_goesOn I f p = _ by unfold m_goesOn; rw [if_neg (fun w => h5 w.1), if_neg (fun w => h6 w.1), if_neg h7, if_neg h8, if_neg h9, if_pos ⟨h11, hk⟩]] at hK
                exact ⟨hp, hf, fun w => absurd w h5, fun _ => ⟨fun w => absurd w h6, fun _ => ⟨fun w => absurd w h7, fun _ => ⟨fun w => absurd w h8, fun _ => ⟨fun w => absurd w h9, fun _ => ⟨fun _ => ⟨fun _ => ⟨hf, hp, hf, hf, _, F, B, _, _, _, rfl, rfl, fun _ _ => ht, hK⟩, fun w => absurd hk w⟩, fun w => absurd h11 w⟩⟩⟩⟩⟩⟩
              · rw [show m_goesOn I f p = _ by unfold m_goesOn; rw [if_neg (fun w => h5 w.1), if_neg (fun w => h6 w.1), if_neg h7, if_neg h8, if_neg h9, if_neg (fun w => hk w.2), if_pos h11]] at hK
                exact ⟨hp, hf, fun w => absurd w h5, fun _ => ⟨fun w => absurd w h6, fun _ => ⟨fun w => absurd w h7, fun _ => ⟨fun w => absurd w h8, fun _ => ⟨fun w => absurd w h9, fun _ => ⟨fun _ => ⟨fun w => absurd w hk, fun _ => ⟨fun _ => ⟨hf, hp, I, F, B, _, rfl, rfl, hK⟩, fun w => absurd h11 w⟩⟩, fun w => absurd h11 w⟩⟩⟩⟩⟩⟩
            · rw [show m_goesOn I f p = _ by unfold m_goesOn; rw [if_neg (fun w => h5 w.1), if_neg (fun w => h6 w.1), if_neg h7, if_neg h8, if_neg h9, if_neg (fun w => h11 w.1), if_neg h11]] at hK
              exact ⟨hp, hf, fun w => absurd w h5, fun _ => ⟨fun w => absurd w h6, fun _ => ⟨fun w => absurd w h7, fun _ => ⟨fun w => absurd w h8, fun _ => ⟨fun w => absurd w h9, fun _ => ⟨fun w => absurd w h11, fun _ => ⟨fun w => absurd w h11, fun _ => ⟨I, F, B, _, rfl, rfl, hK⟩⟩⟩⟩⟩⟩⟩⟩
def m_fp (I : Nat → Nat → Int32) : Int32 := I 30 (I 16 13 - 1).toNatClampNeg
def m_falls (I : Nat → Nat → Int32) : Nat → Nat → Int32 :=
  if ¬ m_fp I < 0 ∧ I 17 (m_fp I).toNatClampNeg = 12 ∧ ¬ I 16 20 = 4 ∧ (I 19 (m_fp I).toNatClampNeg = 0 ∨ I 19 (m_fp I).toNatClampNeg = I 16 20) ∧ ¬ 20 ≤ I 16 12 then a_w (a_w (a_w (a_w I 16 13 (I 16 13 - 1)) 16 12 (I 16 12 + 1)) 16 20 0) 16 21 (I 20 (m_fp I).toNatClampNeg)
  else a_w I 16 13 (I 16 13 - 1)
def sp_X3_falls : aP := fun as σ K => ∃ I F B, σ = a_mk I F B ∧ as = [.inr (some 16)] ∧ vp_in (I 16 13 - 1) 104 ∧ (¬ m_fp I < 0 → vp_in (m_fp I) 60) ∧ K none (a_mk (m_falls I) F B)
theorem rc_X3_falls : ∀ as σ K, sp_X3_falls as σ K → ∃ h As, as = .inr (some h) :: As ∧ a_is σ h 3 25 = true := by
  rintro as σ K ⟨I, F, B, rfl, rfl, -⟩
  exact ⟨16, _, rfl, rfl⟩
def P_X3_falls (K : aK) (bc bs : Nat) : List (Nat × aT) := [(0, t_ald 0 1),
  (1, t_dup 2),
  (2, t_geti 3 25 13 5),
  (5, t_ic 1 6),
  (6, t_sub 7),
  (7, t_puti 3 25 13 10),
  (10, t_ald 0 11),
  (11, t_getr 3 25 14 14),
  (14, t_ald 0 15),
  (15, t_geti 3 25 13 18),
  (18, t_iald 19),
  (19, t_ist 1 20),
  (20, t_ild 1 21),
  (21, t_if (fun x => x < 0) 78 24),
  (24, t_ald 0 25),
  (25, t_getr 3 25 1 28),
  (28, t_ild 1 29),
  (29, t_iald 30),
  (30, t_ic 12 32),
  (32, t_ifc (fun x y => x = y) 35 78),
  (35, t_ald 0 36),
  (36, t_geti 3 25 20 39),
  (39, t_ic 4 40),
  (40, t_ifc (fun x y => x = y) 78 43),
  (43, t_ald 0 44),
  (44, t_getr 3 25 3 47),
  (47, t_ild 1 48),
  (48, t_iald 49),
  (49, t_if (fun x => x = 0) 65 52),
  (52, t_ald 0 53),
  (53, t_getr 3 25 3 56),
  (56, t_ild 1 57),
  (57, t_iald 58),
  (58, t_ald 0 59),
  (59, t_geti 3 25 20 62),
  (62, t_ifc (fun x y => x = y) 65 78),
  (65, t_ald 0 66),
  (66, t_geti 3 25 12 69),
  (69, t_ic 20 71),
  (71, t_ifc (fun x y => y ≤ x) 78 74),
  (74, t_ic 1 75),
  (75, t_goto 79),
  (78, t_ic 0 79),
  (79, t_ist 2 80),
  (80, t_ild 2 81),
  (81, t_if (fun x => x = 0) 109 84),
  (84, t_ald 0 85),
  (85, t_dup 86),
  (86, t_geti 3 25 12 89),
  (89, t_ic 1 90),
  (90, t_add 91),
  (91, t_puti 3 25 12 94),
  (94, t_ald 0 95),
  (95, t_ic 0 96),
  (96, t_puti 3 25 20 99),
  (99, t_ald 0 100),
  (100, t_ald 0 101),
  (101, t_getr 3 25 4 104),
  (104, t_ild 1 105),
  (105, t_iald 106),
  (106, t_puti 3 25 21 109),
  (109, t_vret K bc bs)]
set_option maxRecDepth 100000 in
theorem S_X3_falls {X : a_X} {K : aK} {l : Launch} {D : va_G} {G : aG} {N0 : Nat} (C : a_C X cX3_falls none RX3) (Y : a_Y X l (a_rm 1 0 0) D G N0) (M : a_mq X K (a_rm 1 0 0).cells (a_rm 1 0 0).slots) : ∀ x ∈ P_X3_falls K 0 0, a_Sd X x.1 x.2 := by
  unfold P_X3_falls
  refine List.forall_mem_cons.mpr ⟨s_aldn C dX3_falls_0 rfl, ?_⟩
  refine List.forall_mem_cons.mpr ⟨s_dup C dX3_falls_1, ?_⟩
  refine List.forall_mem_cons.mpr ⟨s_geti C rfl in_X3 (by decide) lk_X3_80 rfl dX3_falls_2, ?_⟩
  refine List.forall_mem_cons.mpr ⟨s_ic C dX3_falls_5 (by decide), ?_⟩
  refine List.forall_mem_cons.mpr ⟨s_sub C dX3_falls_6, ?_⟩
  refine List.forall_mem_cons.mpr ⟨s_puti C tyX3 tyX3_ok nmX3 rfl in_X3 (by decide) lk_X3_80 rfl (Or.inl rfl) rfl dX3_falls_7, ?_⟩
  refine List.forall_mem_cons.mpr ⟨s_aldn C dX3_falls_10 rfl, ?_⟩
  refine List.forall_mem_cons.mpr ⟨s_getr C rfl in_X3 (by decide) lk_X3_37 rfl dX3_falls_11, ?_⟩
  refine List.forall_mem_cons.mpr ⟨s_aldn C dX3_falls_14 rfl, ?_⟩
  refine List.forall_mem_cons.mpr ⟨s_geti C rfl in_X3 (by decide) lk_X3_80 rfl dX3_falls_15, ?_⟩
  refine List.forall_mem_cons.mpr ⟨s_iald C dX3_falls_18, ?_⟩
  refine List.forall_mem_cons.mpr ⟨s_istn C dX3_falls_19 rfl, ?_⟩
  refine List.forall_mem_cons.mpr ⟨s_ildn C dX3_falls_20 rfl, ?_⟩
  refine List.forall_mem_cons.mpr ⟨s_if_lt C dX3_falls_21 (by decide), ?_⟩
  refine List.forall_mem_cons.mpr ⟨s_aldn C dX3_falls_24 rfl, ?_⟩
  refine List.forall_mem_cons.mpr ⟨s_getr C rfl in_X3 (by decide) lk_X3_7 rfl dX3_falls_25, ?_⟩
  refine List.forall_mem_cons.mpr ⟨s_ildn C dX3_falls_28 rfl, ?_⟩
  refine List.forall_mem_cons.mpr ⟨s_iald C dX3_falls_29, ?_⟩
  refine List.forall_mem_cons.mpr ⟨s_bi C dX3_falls_30 (by decide), ?_⟩
  refine List.forall_mem_cons.mpr ⟨s_icmp_ne C dX3_falls_32 (by decide), ?_⟩
  refine List.forall_mem_cons.mpr ⟨s_aldn C dX3_falls_35 rfl, ?_⟩
  refine List.forall_mem_cons.mpr ⟨s_geti C rfl in_X3 (by decide) lk_X3_77 rfl dX3_falls_36, ?_⟩
  refine List.forall_mem_cons.mpr ⟨s_ic C dX3_falls_39 (by decide), ?_⟩
  refine List.forall_mem_cons.mpr ⟨s_icmp_eq C dX3_falls_40 (by decide), ?_⟩
  refine List.forall_mem_cons.mpr ⟨s_aldn C dX3_falls_43 rfl, ?_⟩
  refine List.forall_mem_cons.mpr ⟨s_getr C rfl in_X3 (by decide) lk_X3_16 rfl dX3_falls_44, ?_⟩
  refine List.forall_mem_cons.mpr ⟨s_ildn C dX3_falls_47 rfl, ?_⟩
  refine List.forall_mem_cons.mpr ⟨s_iald C dX3_falls_48, ?_⟩
  refine List.forall_mem_cons.mpr ⟨s_if_eq C dX3_falls_49 (by decide), ?_⟩
  refine List.forall_mem_cons.mpr ⟨s_aldn C dX3_falls_52 rfl, ?_⟩
  refine List.forall_mem_cons.mpr ⟨s_getr C rfl in_X3 (by decide) lk_X3_16 rfl dX3_falls_53, ?_⟩
  refine List.forall_mem_cons.mpr ⟨s_ildn C dX3_falls_56 rfl, ?_⟩
  refine List.forall_mem_cons.mpr ⟨s_iald C dX3_falls_57, ?_⟩
  refine List.forall_mem_cons.mpr ⟨s_aldn C dX3_falls_58 rfl, ?_⟩
  refine List.forall_mem_cons.mpr ⟨s_geti C rfl in_X3 (by decide) lk_X3_77 rfl dX3_falls_59, ?_⟩
  refine List.forall_mem_cons.mpr ⟨s_icmp_ne C dX3_falls_62 (by decide), ?_⟩
  refine List.forall_mem_cons.mpr ⟨s_aldn C dX3_falls_65 rfl, ?_⟩
  refine List.forall_mem_cons.mpr ⟨s_geti C rfl in_X3 (by decide) lk_X3_110 rfl dX3_falls_66, ?_⟩
  refine List.forall_mem_cons.mpr ⟨s_bi C dX3_falls_69 (by decide), ?_⟩
  refine List.forall_mem_cons.mpr ⟨s_icmp_ge C dX3_falls_71 (by decide), ?_⟩
  refine List.forall_mem_cons.mpr ⟨s_ic C dX3_falls_74 (by decide), ?_⟩
  refine List.forall_mem_cons.mpr ⟨s_goto C dX3_falls_75 (by decide), ?_⟩
  refine List.forall_mem_cons.mpr ⟨s_ic C dX3_falls_78 (by decide), ?_⟩
  refine List.forall_mem_cons.mpr ⟨s_istn C dX3_falls_79 rfl, ?_⟩
  refine List.forall_mem_cons.mpr ⟨s_ildn C dX3_falls_80 rfl, ?_⟩
  refine List.forall_mem_cons.mpr ⟨s_if_eq C dX3_falls_81 (by decide), ?_⟩
  refine List.forall_mem_cons.mpr ⟨s_aldn C dX3_falls_84 rfl, ?_⟩
  refine List.forall_mem_cons.mpr ⟨s_dup C dX3_falls_85, ?_⟩
  refine List.forall_mem_cons.mpr ⟨s_geti C rfl in_X3 (by decide) lk_X3_110 rfl dX3_falls_86, ?_⟩
  refine List.forall_mem_cons.mpr ⟨s_ic C dX3_falls_89 (by decide), ?_⟩
  refine List.forall_mem_cons.mpr ⟨s_add C dX3_falls_90, ?_⟩
  refine List.forall_mem_cons.mpr ⟨s_puti C tyX3 tyX3_ok nmX3 rfl in_X3 (by decide) lk_X3_110 rfl (Or.inl rfl) rfl dX3_falls_91, ?_⟩
  refine List.forall_mem_cons.mpr ⟨s_aldn C dX3_falls_94 rfl, ?_⟩
  refine List.forall_mem_cons.mpr ⟨s_ic C dX3_falls_95 (by decide), ?_⟩
  refine List.forall_mem_cons.mpr ⟨s_puti C tyX3 tyX3_ok nmX3 rfl in_X3 (by decide) lk_X3_77 rfl (Or.inl rfl) rfl dX3_falls_96, ?_⟩
  refine List.forall_mem_cons.mpr ⟨s_aldn C dX3_falls_99 rfl, ?_⟩
  refine List.forall_mem_cons.mpr ⟨s_aldn C dX3_falls_100 rfl, ?_⟩
  refine List.forall_mem_cons.mpr ⟨s_getr C rfl in_X3 (by decide) lk_X3_19 rfl dX3_falls_101, ?_⟩
  refine List.forall_mem_cons.mpr ⟨s_ildn C dX3_falls_104 rfl, ?_⟩
  refine List.forall_mem_cons.mpr ⟨s_iald C dX3_falls_105, ?_⟩
  refine List.forall_mem_cons.mpr ⟨s_puti C tyX3 tyX3_ok nmX3 rfl in_X3 (by decide) lk_X3_83 rfl (Or.inl rfl) rfl dX3_falls_106, ?_⟩
  refine List.forall_mem_cons.mpr ⟨s_vret C M dX3_falls_109, ?_⟩
  exact fun _ h => absurd h List.not_mem_nil
set_option maxRecDepth 20000 in
theorem con_X3_falls {l : Launch} {D : va_G} {G : aG} {N0 : Nat} : a_Con l D G N0 yX3_falls cX3_falls 3 none (a_rm 1 0 0) sp_X3_falls := by
  refine a_con (by decide) (fun as σ K h => by obtain ⟨I, F, B, rfl, rfl, -⟩ := h; exact (by decide : 1 ≤ 3)) ?_
  intro X as σ K h C Y M _
  obtain ⟨I, F, B, rfl, rfl, ht, hv, hK⟩ := h
  refine a_wps (S_X3_falls C Y M) (inv := a_ni) a_nih 100 _ _ _ _ _ _ ?_
  have n0 : ¬ (0 : Int32) = 0 → False := fun w => w rfl
  have n1 : ¬ (1 : Int32) = 0 := by decide
  by_cases h1 : m_fp I < 0
  · rw [show m_falls I = _ from if_neg (fun w => w.1 h1)] at hK
    exact ⟨ht, fun _ => ⟨fun _ => hK, fun w => (n0 w).elim⟩, fun w => absurd h1 w⟩
  · have hp := hv h1
    by_cases h2 : I 17 (m_fp I).toNatClampNeg = 12
    · by_cases h3 : I 16 20 = 4
      · rw [show m_falls I = _ from if_neg (fun w => w.2.2.1 h3)] at hK
        exact ⟨ht, fun w => absurd w h1, fun _ => ⟨hp, fun _ => ⟨fun _ => ⟨fun _ => hK, fun w => (n0 w).elim⟩, fun w => absurd h3 w⟩, fun w => absurd h2 w⟩⟩
      · by_cases h4 : I 19 (m_fp I).toNatClampNeg = 0
        · by_cases h6 : 20 ≤ I 16 12
          · rw [show m_falls I = _ from if_neg (fun w => w.2.2.2.2 h6)] at hK
            exact ⟨ht, fun w => absurd w h1, fun _ => ⟨hp, fun _ => ⟨fun w => absurd w h3, fun _ => ⟨hp, fun _ => ⟨fun _ => ⟨fun _ => hK, fun w => (n0 w).elim⟩, fun w => absurd h6 w⟩, fun w => absurd h4 w⟩⟩, fun w => absurd h2 w⟩⟩
          · rw [show m_falls I = _ from if_pos ⟨h1, h2, h3, Or.inl h4, h6⟩] at hK
            exact ⟨ht, fun w => absurd w h1, fun _ => ⟨hp, fun _ => ⟨fun w => absurd w h3, fun _ => ⟨hp, fun _ => ⟨fun w => absurd w h6, fun _ => ⟨fun w => absurd w n1, fun _ => ⟨hp, hK⟩⟩⟩, fun w => absurd h4 w⟩⟩, fun w => absurd h2 w⟩⟩
        · by_cases h5 : I 19 (m_fp I).toNatClampNeg = I 16 20
          · by_cases h6 : 20 ≤ I 16 12
            · rw [show m_falls I = _ from if_neg (fun w => w.2.2.2.2 h6)] at hK
              exact ⟨ht, fun w => absurd w h1, fun _ => ⟨hp, fun _ => ⟨fun w => absurd w h3, fun _ => ⟨hp, fun w => absurd w h4, fun _ => ⟨hp, fun _ => ⟨fun _ => ⟨fun _ => hK, fun w => (n0 w).elim⟩, fun w => absurd h6 w⟩, fun w => absurd h5 w⟩⟩⟩, fun w => absurd h2 w⟩⟩
            · rw [show m_falls I = _ from if_pos ⟨h1, h2, h3, Or.inr h5, h6⟩] at hK
              exact ⟨ht, fun w => absurd w h1, fun _ => ⟨hp, fun _ => ⟨fun w => absurd w h3, fun _ => ⟨hp, fun w => absurd w h4, fun _ => ⟨hp, fun _ => ⟨fun w => absurd w h6, fun _ => ⟨fun w => absurd w n1, fun _ => ⟨hp, hK⟩⟩⟩, fun w => absurd h5 w⟩⟩⟩, fun w => absurd h2 w⟩⟩
          · rw [show m_falls I = _ from if_neg (fun w => w.2.2.2.1.elim h4 h5)] at hK
            exact ⟨ht, fun w => absurd w h1, fun _ => ⟨hp, fun _ => ⟨fun w => absurd w h3, fun _ => ⟨hp, fun w => absurd w h4, fun _ => ⟨hp, fun w => absurd w h5, fun _ => ⟨fun _ => hK, fun w => (n0 w).elim⟩⟩⟩⟩, fun w => absurd h2 w⟩⟩
    · rw [show m_falls I = _ from if_neg (fun w => h2 w.2.1)] at hK
      exact ⟨ht, fun w => absurd w h1, fun _ => ⟨hp, fun w => absurd w h2, fun _ => ⟨fun _ => hK, fun w => (n0 w).elim⟩⟩⟩
end
section
/-! ===== what a pattern tells, in numbers; the reference's loop ===== -/
abbrev tS : Type := Int32 × Int32 × Int32 × (Nat → Int32)
abbrev tR : Type := Int32 × Int32 × tS
abbrev tF : Type := Int32 → Int32 → Int32 → tS → tR
def t_over (rc : tF) (a b x y : Int32) (s : tS) : tR := if (rc a x y s).1 = 0 ∧ (rc a x y s).2.1 = 0 then rc b x y (rc a x y s).2.2 else rc a x y s
def t_where (rc : tF) (a b c x y : Int32) (s : tS) : tR := if (rc a x y s).1 = 0 then rc (if (rc a x y s).2.1 ≤ 0 then c else b) x y (rc a x y s).2.2 else rc a x y s
def t_dyed (g : Int32 → Int32) (r : tR) : tR := if r.1 = 0 then (if m_in r.2.1 0 7 = 0 then (2, 0, r.2.2) else (0, g r.2.1, r.2.2)) else r
def t_named (b : Int32) (r : tR) : tR := (r.1, r.2.1 + b, r.2.2)
def t_worn (rc : tF) (a b c : Int32) (p : Nat) (x y : Int32) (s : tS) : tR := if s.2.2.2 p + 1 = b then (0, c, s.1, s.2.1, s.2.2.1 + 1, upd s.2.2.2 p 0) else rc a x y (s.1, s.2.1, s.2.2.1, upd s.2.2.2 p (s.2.2.2 p + 1))
def t_both (rc : tF) (a b c x y : Int32) (s : tS) : tR := if (rc a x y s).1 = 0 then ((rc b x y (rc a x y s).2.2).1, (rc a x y s).2.1 + c * (rc b x y (rc a x y s).2.2).2.1, (rc b x y (rc a x y s).2.2).2.2) else rc a x y s
def t_safe (b c : Int32) (r : tR) : tR := if ¬ r.1 = 0 ∧ ¬ r.1 = 4 ∧ (b = 0 ∨ b = r.1) ∧ ¬ 20 ≤ r.2.2.2.1 then (0, c, r.2.2.1, r.2.2.2.1 + 1, r.2.2.2.2) else r
def t_s (M : Nat → Nat → Int32) (rc : tF) (p : Nat) (x y : Int32) (s : tS) : tR :=
  if M 17 p = 0 then (0, M 18 p, s)
  else if M 17 p = 1 then (if M 20 p = 0 then (1, 0, s) else (0, if a_rem (x / M 20 p) 2 = 0 then M 18 p else M 19 p, s))
  else if M 17 p = 2 then (if M 19 p = 0 then (1, 0, s) else (0, a_rem (x + M 18 p * y) (M 19 p) + M 20 p, s))
  else if M 17 p = 3 then rc (M 18 p) (x - M 19 p) (y - M 20 p) s
  else if M 17 p = 4 then rc (M 18 p) (m_tx (M 19 p) x y) (m_ty (M 19 p) x y) s
  else if M 17 p = 5 then t_over rc (M 18 p) (M 19 p) x y s
  else if M 17 p = 6 then t_where rc (M 18 p) (M 19 p) (M 20 p) x y s
  else if M 17 p = 7 then t_dyed (fun v => M 24 (8 * M 19 p + v).toNatClampNeg) (rc (M 18 p) x y s)
  else if M 17 p = 8 then t_dyed (fun v => M 21 (8 * nI p + v).toNatClampNeg) (rc (M 18 p) x y s)
  else if M 17 p = 9 then t_named (M 19 p) (rc (M 25 (M 18 p).toNatClampNeg) x y s)
  else if M 17 p = 10 then t_worn rc (M 18 p) (M 19 p) (M 20 p) p x y s
  else if M 17 p = 11 then t_both rc (M 18 p) (M 19 p) (M 20 p) x y s
  else if M 17 p = 12 then t_safe (M 19 p) (M 20 p) (rc (M 18 p) x y s)
  else rc (M 22 p) x y s
def t_b (M : Nat → Nat → Int32) (rc : tF) (c x y : Int32) (s : tS) : tR :=
  if c = -1 then (3, 0, s)
  else if c = -2 then (0, a_rem (x + y) 2, s)
  else if c = -3 then (if m_in x 0 7 = 0 then (2, 0, s) else (0, M 24 x.toNatClampNeg + y, s))
  else t_s M rc c.toNatClampNeg x y s
/-- what the pattern c tells at x, y: failure (0: none), colour, and what asking did; D bounds the depth -/
def tt_T (M : Nat → Nat → Int32) : Nat → tF
  | 0 => fun _ _ _ s => (4, 0, s)
  | D + 1 => fun c x y s => if 100 ≤ s.1 then (4, 0, s) else t_b M (tt_T M D) c x y (s.1 + 1, s.2)
def m_vc (n : Nat) (c : Int32) : Prop := ∃ j, j < n ∧ c = nI j
def m_cd (n : Nat) (c : Int32) : Prop := c = -1 ∨ c = -2 ∨ c = -3 ∨ m_vc n c
def m_ok (M : Nat → Nat → Int32) (n p : Nat) : Prop := ∃ s : Nat, s ≤ 13 ∧ M 17 p = nI s ∧ (3 ≤ s → s ≠ 9 → s ≠ 13 → m_vc n (M 18 p)) ∧ ((s = 5 ∨ s = 6 ∨ s = 11) → m_vc n (M 19 p)) ∧ (s = 6 → m_vc n (M 20 p)) ∧ ((s = 7 ∨ s = 8) → m_vc 4 (M 19 p)) ∧ ((s = 9 ∨ s = 13) → m_vc 6 (M 18 p)) ∧ (s = 13 → m_cd n (M 22 p))
def m_D (M : Nat → Nat → Int32) (n : Nat) : Prop := n ≤ 60 ∧ (∀ p, p < n → m_ok M n p) ∧ ∀ k, k < 6 → m_cd n (M 25 k)
/-- the reference's store with its moving parts told one by one -/
def m_p (M : Nat → Nat → Int32) (k f g sf wn tp : Int32) (ak pl px py sg fs : Nat → Int32) : Nat → Nat → Int32 := fun h j =>
  if h = 16 then (if j = 11 then wn else if j = 12 then sf else if j = 13 then tp else if j = 19 then k else if j = 20 then f else if j = 21 then g else M 16 j)
  else if h = 23 then ak j else if h = 30 then pl j else if h = 31 then px j else if h = 32 then py j else if h = 33 then sg j else if h = 34 then fs j else M h j
section MP
variable {M : Nat → Nat → Int32} {k f g sf wn tp x : Int32} {ak pl px py sg fs : Nat → Int32} {t : Nat}
theorem mp_11 : a_w (m_p M k f g sf wn tp ak pl px py sg fs) 16 11 x = m_p M k f g sf x tp ak pl px py sg fs := by
  funext h j; unfold a_w m_p
  by_cases e : h = 16
  · subst e; by_cases e2 : j = 11 <;> simp [e2]
  · simp [e]
theorem mp_12 : a_w (m_p M k f g sf wn tp ak pl px py sg fs) 16 12 x = m_p M k f g x wn tp ak pl px py sg fs := by
  funext h j; unfold a_w m_p
  by_cases e : h = 16
  · subst e; by_cases e2 : j = 12 <;> simp [e2]
  · simp [e]
theorem mp_13 : a_w (m_p M k f g sf wn tp ak pl px py sg fs) 16 13 x = m_p M k f g sf wn x ak pl px py sg fs := by
  funext h j; unfold a_w m_p
  by_cases e : h = 16
  · subst e; by_cases e2 : j = 13 <;> simp [e2]
  · simp [e]
theorem mp_19 : a_w (m_p M k f g sf wn tp ak pl px py sg fs) 16 19 x = m_p M x f g sf wn tp ak pl px py sg fs := by
  funext h j; unfold a_w m_p
  by_cases e : h = 16
  · subst e; by_cases e2 : j = 19 <;> simp [e2]
  · simp [e]
theorem mp_20 : a_w (m_p M k f g sf wn tp ak pl px py sg fs) 16 20 x = m_p M k x g sf wn tp ak pl px py sg fs := by
  funext h j; unfold a_w m_p
  by_cases e : h = 16
  · subst e; by_cases e2 : j = 20 <;> simp [e2]
  · simp [e]
theorem mp_21 : a_w (m_p M k f g sf wn tp ak pl px py sg fs) 16 21 x = m_p M k f x sf wn tp ak pl px py sg fs := by
  funext h j; unfold a_w m_p
  by_cases e : h = 16
  · subst e; by_cases e2 : j = 21 <;> simp [e2]
  · simp [e]
theorem mp_a23 : a_w (m_p M k f g sf wn tp ak pl px py sg fs) 23 t x = m_p M k f g sf wn tp (upd ak t x) pl px py sg fs := by
  funext h j; unfold a_w m_p upd
  by_cases e : h = 23
  · subst e; by_cases e2 : j = t <;> simp [e2]
  · simp [e]
theorem mp_a30 : a_w (m_p M k f g sf wn tp ak pl px py sg fs) 30 t x = m_p M k f g sf wn tp ak (upd pl t x) px py sg fs := by
  funext h j; unfold a_w m_p upd
  by_cases e : h = 30
  · subst e; by_cases e2 : j = t <;> simp [e2]
  · simp [e]
theorem mp_a31 : a_w (m_p M k f g sf wn tp ak pl px py sg fs) 31 t x = m_p M k f g sf wn tp ak pl (upd px t x) py sg fs := by
  funext h j; unfold a_w m_p upd
  by_cases e : h = 31
  · subst e; by_cases e2 : j = t <;> simp [e2]
  · simp [e]
theorem mp_a32 : a_w (m_p M k f g sf wn tp ak pl px py sg fs) 32 t x = m_p M k f g sf wn tp ak pl px (upd py t x) sg fs := by
  funext h j; unfold a_w m_p upd
  by_cases e : h = 32
  · subst e; by_cases e2 : j = t <;> simp [e2]
  · simp [e]
theorem mp_a33 : a_w (m_p M k f g sf wn tp ak pl px py sg fs) 33 t x = m_p M k f g sf wn tp ak pl px py (upd sg t x) fs := by
  funext h j; unfold a_w m_p upd
  by_cases e : h = 33
  · subst e; by_cases e2 : j = t <;> simp [e2]
  · simp [e]
theorem mp_a34 : a_w (m_p M k f g sf wn tp ak pl px py sg fs) 34 t x = m_p M k f g sf wn tp ak pl px py sg (upd fs t x) := by
  funext h j; unfold a_w m_p upd
  by_cases e : h = 34
  · subst e; by_cases e2 : j = t <;> simp [e2]
  · simp [e]
/-- a store is its own moving parts -/
theorem mp_self (I : Nat → Nat → Int32) : m_p I (I 16 19) (I 16 20) (I 16 21) (I 16 12) (I 16 11) (I 16 13) (I 23) (I 30) (I 31) (I 32) (I 33) (I 34) = I := by
  funext h j; unfold m_p
  by_cases e : h = 16
  · subst e
    by_cases e1 : j = 11
    · simp [e1]
    · by_cases e2 : j = 12
      · simp [e2]
      · by_cases e3 : j = 13
        · simp [e3]
        · by_cases e4 : j = 19
          · simp [e4]
          · by_cases e5 : j = 20
            · simp [e5]
            · by_cases e6 : j = 21
              · simp [e6]
              · simp [e1, e2, e3, e4, e5, e6]
  · by_cases e1 : h = 23
    · simp [e1]
    · by_cases e2 : h = 30
      · simp [e2]
      · by_cases e3 : h = 31
        · simp [e3]
        · by_cases e4 : h = 32
          · simp [e4]
          · by_cases e5 : h = 33
            · simp [e5]
            · by_cases e6 : h = 34
              · simp [e6]
              · simp [e, e1, e2, e3, e4, e5, e6]
end MP
def P_X3_work (K : aK) (bc bs : Nat) : List (Nat × aT) := [(0, t_ald 0 1),
  (1, t_ic 0 2),
  (2, t_puti 3 25 19 5),
  (5, t_ald 0 6),
  (6, t_ic 0 7),
  (7, t_puti 3 25 20 10),
  (10, t_ald 0 11),
  (11, t_ic 0 12),
  (12, t_puti 3 25 13 15),
  (15, t_ald 0 16),
  (16, t_ic 0 17),
  (17, t_puti 3 25 21 20),
  (20, t_ald 0 21),
  (21, t_ild 1 22),
  (22, t_ild 2 23),
  (23, t_ild 3 24),
  (24, t_call 4 0 0 bc bs sp_X3_push 27),
  (27, t_ald 0 28),
  (28, t_geti 3 25 13 31),
  (31, t_if (fun x => x ≤ 0) 167 34),
  (34, t_ald 0 35),
  (35, t_geti 3 25 13 38),
  (38, t_ic 1 39),
  (39, t_sub 40),
  (40, t_ist 4 42),
  (42, t_ald 0 43),
  (43, t_getr 3 25 14 46),
  (46, t_ild 4 48),
  (48, t_iald 49),
  (49, t_ist 5 51),
  (51, t_ald 0 52),
  (52, t_geti 3 25 20 55),
  (55, t_if (fun x => x = 0) 65 58),
  (58, t_ald 0 59),
  (59, t_call 1 0 0 bc bs sp_X3_falls 62),
  (62, t_goto 164),
  (65, t_ild 5 67),
  (67, t_if (fun x => x < 0) 81 70),
  (70, t_ald 0 71),
  (71, t_getr 3 25 1 74),
  (74, t_ild 5 76),
  (76, t_iald 77),
  (77, t_ic 3 78),
  (78, t_ifc (fun x y => y ≤ x) 104 81),
  (81, t_ald 0 82),
  (82, t_ild 5 84),
  (84, t_ald 0 85),
  (85, t_getr 3 25 15 88),
  (88, t_ild 4 90),
  (90, t_iald 91),
  (91, t_ald 0 92),
  (92, t_getr 3 25 16 95),
  (95, t_ild 4 97),
  (97, t_iald 98),
  (98, t_call 4 0 0 bc bs sp_X3_alone 101),
  (101, t_goto 164),
  (104, t_ald 0 105),
  (105, t_getr 3 25 17 108),
  (108, t_ild 4 110),
  (110, t_iald 111),
  (111, t_if (fun x => x = 0) 114 145),
  (114, t_ald 0 115),
  (115, t_getr 3 25 17 118),
  (118, t_ild 4 120),
  (120, t_ic 1 121),
  (121, t_iast 122),
  (122, t_ald 0 123),
  (123, t_ild 5 125),
  (125, t_ald 0 126),
  (126, t_getr 3 25 15 129),
  (129, t_ild 4 131),
  (131, t_iald 132),
  (132, t_ald 0 133),
  (133, t_getr 3 25 16 136),
  (136, t_ild 4 138),
  (138, t_iald 139),
  (139, t_call 4 0 0 bc bs sp_X3_begins 142),
  (142, t_goto 164),
  (145, t_ald 0 146),
  (146, t_getr 3 25 17 149),
  (149, t_ild 4 151),
  (151, t_dup2 152),
  (152, t_iald 153),
  (153, t_ic 1 154),
  (154, t_add 155),
  (155, t_iast 156),
  (156, t_ald 0 157),
  (157, t_ild 4 159),
  (159, t_ild 5 161),
  (161, t_call 3 0 0 bc bs sp_X3_goesOn 164),
  (164, t_goto 27),
  (167, t_vret K bc bs)]
set_option maxRecDepth 100000 in
theorem S_X3_work {X : a_X} {K : aK} {l : Launch} {D : va_G} {G : aG} {N0 : Nat} (C : a_C X cX3_work none RX3) (Y : a_Y X l (a_rm 4 0 0) D G N0) (M : a_mq X K (a_rm 4 0 0).cells (a_rm 4 0 0).slots) : ∀ x ∈ P_X3_work K 0 0, a_Sd X x.1 x.2 := by
  unfold P_X3_work
  refine List.forall_mem_cons.mpr ⟨s_aldn C dX3_work_0 rfl, ?_⟩
  refine List.forall_mem_cons.mpr ⟨s_ic C dX3_work_1 (by decide), ?_⟩
  refine List.forall_mem_cons.mpr ⟨s_puti C tyX3 tyX3_ok nmX3 rfl in_X3 (by decide) lk_X3_74 rfl (Or.inl rfl) rfl dX3_work_2, ?_⟩
  refine List.forall_mem_cons.mpr ⟨s_aldn C dX3_work_5 rfl, ?_⟩
  refine List.forall_mem_cons.mpr ⟨s_ic C dX3_work_6 (by decide), ?_⟩
  refine List.forall_mem_cons.mpr ⟨s_puti C tyX3 tyX3_ok nmX3 rfl in_X3 (by decide) lk_X3_77 rfl (Or.inl rfl) rfl dX3_work_7, ?_⟩
  refine List.forall_mem_cons.mpr ⟨s_aldn C dX3_work_10 rfl, ?_⟩
  refine List.forall_mem_cons.mpr ⟨s_ic C dX3_work_11 (by decide), ?_⟩
  refine List.forall_mem_cons.mpr ⟨s_puti C tyX3 tyX3_ok nmX3 rfl in_X3 (by decide) lk_X3_80 rfl (Or.inl rfl) rfl dX3_work_12, ?_⟩
  refine List.forall_mem_cons.mpr ⟨s_aldn C dX3_work_15 rfl, ?_⟩
  refine List.forall_mem_cons.mpr ⟨s_ic C dX3_work_16 (by decide), ?_⟩
  refine List.forall_mem_cons.mpr ⟨s_puti C tyX3 tyX3_ok nmX3 rfl in_X3 (by decide) lk_X3_83 rfl (Or.inl rfl) rfl dX3_work_17, ?_⟩
  refine List.forall_mem_cons.mpr ⟨s_aldn C dX3_work_20 rfl, ?_⟩
  refine List.forall_mem_cons.mpr ⟨s_ildn C dX3_work_21 rfl, ?_⟩
  refine List.forall_mem_cons.mpr ⟨s_ildn C dX3_work_22 rfl, ?_⟩
  refine List.forall_mem_cons.mpr ⟨s_ildn C dX3_work_23 rfl, ?_⟩
  refine List.forall_mem_cons.mpr ⟨s_callV (rm := (a_rm 1 0 0)) (n := 3) C Y (ci := 3) rfl con_X3_push rc_X3_push co_X3_push ml_X3_101 im_X3_push se_X3_push ii_X3 (by decide +kernel) ⟨by decide, by decide⟩ ⟨rfl, rfl⟩ dX3_work_24, ?_⟩
  refine List.forall_mem_cons.mpr ⟨s_aldn C dX3_work_27 rfl, ?_⟩
  refine List.forall_mem_cons.mpr ⟨s_geti C rfl in_X3 (by decide) lk_X3_80 rfl dX3_work_28, ?_⟩
  refine List.forall_mem_cons.mpr ⟨s_if_le C dX3_work_31 (by decide), ?_⟩
  refine List.forall_mem_cons.mpr ⟨s_aldn C dX3_work_34 rfl, ?_⟩
  refine List.forall_mem_cons.mpr ⟨s_geti C rfl in_X3 (by decide) lk_X3_80 rfl dX3_work_35, ?_⟩
  refine List.forall_mem_cons.mpr ⟨s_ic C dX3_work_38 (by decide), ?_⟩
  refine List.forall_mem_cons.mpr ⟨s_sub C dX3_work_39, ?_⟩
  refine List.forall_mem_cons.mpr ⟨s_ist C dX3_work_40, ?_⟩
  refine List.forall_mem_cons.mpr ⟨s_aldn C dX3_work_42 rfl, ?_⟩
  refine List.forall_mem_cons.mpr ⟨s_getr C rfl in_X3 (by decide) lk_X3_37 rfl dX3_work_43, ?_⟩
  refine List.forall_mem_cons.mpr ⟨s_ild C dX3_work_46, ?_⟩
  refine List.forall_mem_cons.mpr ⟨s_iald C dX3_work_48, ?_⟩
  refine List.forall_mem_cons.mpr ⟨s_ist C dX3_work_49, ?_⟩
  refine List.forall_mem_cons.mpr ⟨s_aldn C dX3_work_51 rfl, ?_⟩
  refine List.forall_mem_cons.mpr ⟨s_geti C rfl in_X3 (by decide) lk_X3_77 rfl dX3_work_52, ?_⟩
  refine List.forall_mem_cons.mpr ⟨s_if_eq C dX3_work_55 (by decide), ?_⟩
  refine List.forall_mem_cons.mpr ⟨s_aldn C dX3_work_58 rfl, ?_⟩
  refine List.forall_mem_cons.mpr ⟨s_callV (rm := (a_rm 1 0 0)) (n := 0) C Y (ci := 3) rfl con_X3_falls rc_X3_falls co_X3_falls ml_X3_113 im_X3_falls se_X3_falls ii_X3 (by decide +kernel) ⟨by decide, by decide⟩ ⟨rfl, rfl⟩ dX3_work_59, ?_⟩
  refine List.forall_mem_cons.mpr ⟨s_goto C dX3_work_62 (by decide), ?_⟩
  refine List.forall_mem_cons.mpr ⟨s_ild C dX3_work_65, ?_⟩
  refine List.forall_mem_cons.mpr ⟨s_if_lt C dX3_work_67 (by decide), ?_⟩
  refine List.forall_mem_cons.mpr ⟨s_aldn C dX3_work_70 rfl, ?_⟩
  refine List.forall_mem_cons.mpr ⟨s_getr C rfl in_X3 (by decide) lk_X3_7 rfl dX3_work_71, ?_⟩
  refine List.forall_mem_cons.mpr ⟨s_ild C dX3_work_74, ?_⟩
  refine List.forall_mem_cons.mpr ⟨s_iald C dX3_work_76, ?_⟩
  refine List.forall_mem_cons.mpr ⟨s_ic C dX3_work_77 (by decide), ?_⟩
  refine List.forall_mem_cons.mpr ⟨s_icmp_ge C dX3_work_78 (by decide), ?_⟩
  refine List.forall_mem_cons.mpr ⟨s_aldn C dX3_work_81 rfl, ?_⟩
  refine List.forall_mem_cons.mpr ⟨s_ild C dX3_work_82, ?_⟩
  refine List.forall_mem_cons.mpr ⟨s_aldn C dX3_work_84 rfl, ?_⟩
  refine List.forall_mem_cons.mpr ⟨s_getr C rfl in_X3 (by decide) lk_X3_40 rfl dX3_work_85, ?_⟩
  refine List.forall_mem_cons.mpr ⟨s_ild C dX3_work_88, ?_⟩
  refine List.forall_mem_cons.mpr ⟨s_iald C dX3_work_90, ?_⟩
  refine List.forall_mem_cons.mpr ⟨s_aldn C dX3_work_91 rfl, ?_⟩
  refine List.forall_mem_cons.mpr ⟨s_getr C rfl in_X3 (by decide) lk_X3_43 rfl dX3_work_92, ?_⟩
  refine List.forall_mem_cons.mpr ⟨s_ild C dX3_work_95, ?_⟩
  refine List.forall_mem_cons.mpr ⟨s_iald C dX3_work_97, ?_⟩
  refine List.forall_mem_cons.mpr ⟨s_callV (rm := (a_rm 3 0 0)) (n := 3) C Y (ci := 3) rfl con_X3_alone rc_X3_alone co_X3_alone ml_X3_116 im_X3_alone se_X3_alone ii_X3 (by decide +kernel) ⟨by decide, by decide⟩ ⟨rfl, rfl⟩ dX3_work_98, ?_⟩
  refine List.forall_mem_cons.mpr ⟨s_goto C dX3_work_101 (by decide), ?_⟩
  refine List.forall_mem_cons.mpr ⟨s_aldn C dX3_work_104 rfl, ?_⟩
  refine List.forall_mem_cons.mpr ⟨s_getr C rfl in_X3 (by decide) lk_X3_46 rfl dX3_work_105, ?_⟩
  refine List.forall_mem_cons.mpr ⟨s_ild C dX3_work_108, ?_⟩
  refine List.forall_mem_cons.mpr ⟨s_iald C dX3_work_110, ?_⟩
  refine List.forall_mem_cons.mpr ⟨s_if_ne C dX3_work_111 (by decide), ?_⟩
  refine List.forall_mem_cons.mpr ⟨s_aldn C dX3_work_114 rfl, ?_⟩
  refine List.forall_mem_cons.mpr ⟨s_getr C rfl in_X3 (by decide) lk_X3_46 rfl dX3_work_115, ?_⟩
  refine List.forall_mem_cons.mpr ⟨s_ild C dX3_work_118, ?_⟩
  refine List.forall_mem_cons.mpr ⟨s_ic C dX3_work_120 (by decide), ?_⟩
  refine List.forall_mem_cons.mpr ⟨s_iast C dX3_work_121, ?_⟩
  refine List.forall_mem_cons.mpr ⟨s_aldn C dX3_work_122 rfl, ?_⟩
  refine List.forall_mem_cons.mpr ⟨s_ild C dX3_work_123, ?_⟩
  refine List.forall_mem_cons.mpr ⟨s_aldn C dX3_work_125 rfl, ?_⟩
  refine List.forall_mem_cons.mpr ⟨s_getr C rfl in_X3 (by decide) lk_X3_40 rfl dX3_work_126, ?_⟩
  refine List.forall_mem_cons.mpr ⟨s_ild C dX3_work_129, ?_⟩
  refine List.forall_mem_cons.mpr ⟨s_iald C dX3_work_131, ?_⟩
  refine List.forall_mem_cons.mpr ⟨s_aldn C dX3_work_132 rfl, ?_⟩
  refine List.forall_mem_cons.mpr ⟨s_getr C rfl in_X3 (by decide) lk_X3_43 rfl dX3_work_133, ?_⟩
  refine List.forall_mem_cons.mpr ⟨s_ild C dX3_work_136, ?_⟩
  refine List.forall_mem_cons.mpr ⟨s_iald C dX3_work_138, ?_⟩
  refine List.forall_mem_cons.mpr ⟨s_callV (rm := (a_rm 3 0 0)) (n := 3) C Y (ci := 3) rfl con_X3_begins rc_X3_begins co_X3_begins ml_X3_119 im_X3_begins se_X3_begins ii_X3 (by decide +kernel) ⟨by decide, by decide⟩ ⟨rfl, rfl⟩ dX3_work_139, ?_⟩
  refine List.forall_mem_cons.mpr ⟨s_goto C dX3_work_142 (by decide), ?_⟩
  refine List.forall_mem_cons.mpr ⟨s_aldn C dX3_work_145 rfl, ?_⟩
  refine List.forall_mem_cons.mpr ⟨s_getr C rfl in_X3 (by decide) lk_X3_46 rfl dX3_work_146, ?_⟩
  refine List.forall_mem_cons.mpr ⟨s_ild C dX3_work_149, ?_⟩
  refine List.forall_mem_cons.mpr ⟨s_dup2 C dX3_work_151, ?_⟩
  refine List.forall_mem_cons.mpr ⟨s_iald C dX3_work_152, ?_⟩
  refine List.forall_mem_cons.mpr ⟨s_ic C dX3_work_153 (by decide), ?_⟩
  refine List.forall_mem_cons.mpr ⟨s_add C dX3_work_154, ?_⟩
  refine List.forall_mem_cons.mpr ⟨s_iast C dX3_work_155, ?_⟩
  refine List.forall_mem_cons.mpr ⟨s_aldn C dX3_work_156 rfl, ?_⟩
  refine List.forall_mem_cons.mpr ⟨s_ild C dX3_work_157, ?_⟩
  refine List.forall_mem_cons.mpr ⟨s_ild C dX3_work_159, ?_⟩
  refine List.forall_mem_cons.mpr ⟨s_callV (rm := (a_rm 3 0 0)) (n := 2) C Y (ci := 3) rfl con_X3_goesOn rc_X3_goesOn co_X3_goesOn ml_X3_122 im_X3_goesOn se_X3_goesOn ii_X3 (by decide +kernel) ⟨by decide, by decide⟩ ⟨rfl, rfl⟩ dX3_work_161, ?_⟩
  refine List.forall_mem_cons.mpr ⟨s_goto C dX3_work_164 (by decide), ?_⟩
  refine List.forall_mem_cons.mpr ⟨s_vret C M dX3_work_167, ?_⟩
  exact fun _ h => absurd h List.not_mem_nil
end
section
/-! ===== the reference's loop tells what the pattern tells ===== -/
def w_Lh (X : a_X) (F : Nat → Nat → Option Nat) (B : Nat → Bool) (I : Nat → Nat → Int32) : Prop := ∀ (p x y : Int32) (f q : Option aV), a_J X 27 [some (.inr (some 16)), some (.inl p), some (.inl x), some (.inl y), f, q] [] (a_mk I F B) 0 0
def w_inv (X : a_X) : Nat → Option (aL → List aV → aS → Nat → Nat → Prop) := fun pc => if pc = 27 then some (fun L st σ kc ks => a_J X 27 L st σ kc ks) else none
theorem w_invh {X : a_X} : ∀ pc I, w_inv X pc = some I → ∀ L st σ kc ks, I L st σ kc ks → a_J X pc L st σ kc ks := by
  intro pc I e L st σ kc ks h
  unfold w_inv at e
  split at e
  · rename_i hp
    cases e
    subst hp
    exact h
  · cases e
abbrev w5 : Type := (Nat → Int32) × (Nat → Int32) × (Nat → Int32) × (Nat → Int32) × (Nat → Int32)
abbrev m_q (M : Nat → Nat → Int32) (k f g sf wn tp : Int32) (ak : Nat → Int32) (A : w5) : Nat → Nat → Int32 := m_p M k f g sf wn tp ak A.1 A.2.1 A.2.2.1 A.2.2.2.1 A.2.2.2.2
def w_ag (t : Nat) (A A' : w5) : Prop := ∀ i, i < t → A'.1 i = A.1 i ∧ A'.2.1 i = A.2.1 i ∧ A'.2.2.1 i = A.2.2.1 i ∧ A'.2.2.2.1 i = A.2.2.2.1 i ∧ A'.2.2.2.2 i = A.2.2.2.2 i
theorem w_ag_rf {t : Nat} {A : w5} : w_ag t A A := fun _ _ => ⟨rfl, rfl, rfl, rfl, rfl⟩
theorem w_ag_tr {t : Nat} {A A' A'' : w5} (h : w_ag t A A') (h' : w_ag t A' A'') : w_ag t A A'' := fun i hi => ⟨(h' i hi).1.trans (h i hi).1, (h' i hi).2.1.trans (h i hi).2.1, (h' i hi).2.2.1.trans (h i hi).2.2.1, (h' i hi).2.2.2.1.trans (h i hi).2.2.2.1, (h' i hi).2.2.2.2.trans (h i hi).2.2.2.2⟩
theorem w_ag_le {t t' : Nat} {A A' : w5} (h : w_ag t A A') (hle : t' ≤ t) : w_ag t' A A' := fun i hi => h i (by omega)
abbrev w_put (A : w5) (t : Nat) (c x y s : Int32) : w5 := (upd A.1 t c, upd A.2.1 t x, upd A.2.2.1 t y, upd A.2.2.2.1 t s, A.2.2.2.2)
abbrev w_sg (A : w5) (t : Nat) (s : Int32) : w5 := (A.1, A.2.1, A.2.2.1, upd A.2.2.2.1 t s, A.2.2.2.2)
abbrev w_fs (A : w5) (t : Nat) (s : Int32) : w5 := (A.1, A.2.1, A.2.2.1, A.2.2.2.1, upd A.2.2.2.2 t s)
theorem u_s {f : Nat → Int32} {t : Nat} {x : Int32} : upd f t x t = x := if_pos rfl
theorem u_n {f : Nat → Int32} {t i : Nat} {x : Int32} (h : i < t) : upd f t x i = f i := if_neg (by omega)
theorem w_ag_put {t : Nat} {A : w5} {c x y s : Int32} : w_ag t A (w_put A t c x y s) := fun i hi => ⟨u_n hi, u_n hi, u_n hi, u_n hi, rfl⟩
theorem w_ag_sg {t : Nat} {A : w5} {s : Int32} : w_ag t A (w_sg A t s) := fun i hi => ⟨rfl, rfl, rfl, u_n hi, rfl⟩
theorem w_ag_fs {t : Nat} {A : w5} {s : Int32} : w_ag t A (w_fs A t s) := fun i hi => ⟨rfl, rfl, rfl, rfl, u_n hi⟩
section WS
variable {X : a_X} {K : aK} {F : Nat → Nat → Option Nat} {B : Nat → Bool} {M : Nat → Nat → Int32} {k g sf wn : Int32} {f : Int32} {ak : Nat → Int32} {A : w5} {t p : Nat}
theorem w_clamp {t : Nat} (ht : t < 104) : (nI (t + 1) - 1).toNatClampNeg = t := by rw [nI_pred]; exact nI_clamp (by omega)
theorem w_vin {t : Nat} (ht : t < 104) : vp_in (nI (t + 1) - 1) 104 := by rw [nI_pred]; exact vp_in_nI ht (by decide)
set_option maxRecDepth 20000 in
theorem w_exit (hS : ∀ x ∈ P_X3_work K 0 0, a_Sd X x.1 x.2) {I : Nat → Nat → Int32} (h0 : I 16 13 = 0) (hK : K none (a_mk I F B)) : w_Lh X F B I := by
  intro p x y f q
  refine a_wp1 hS w_invh 60 27 _ rfl ?_
  exact ⟨fun _ => hK, fun w => absurd (by show I 16 13 ≤ 0; rw [h0]; decide) w⟩
set_option maxRecDepth 20000 in
theorem w_falls (hS : ∀ x ∈ P_X3_work K 0 0, a_Sd X x.1 x.2) {I : Nat → Nat → Int32} (ht : ¬ I 16 13 ≤ 0) (hf : vp_in (I 16 13 - 1) 104) (h0 : ¬ I 16 20 = 0) (hq : ¬ m_fp I < 0 → vp_in (m_fp I) 60) (hJ : w_Lh X F B (m_falls I)) : w_Lh X F B I := by
  intro p x y f q
  refine a_wp1 hS w_invh 60 27 _ rfl ?_
  exact ⟨fun w => absurd w ht, fun _ => ⟨hf, fun w => absurd w h0, fun _ => ⟨I, F, B, rfl, rfl, hf, hq, hJ _ _ _ _ _⟩⟩⟩
set_option maxRecDepth 20000 in
theorem w_alone1 (hS : ∀ x ∈ P_X3_work K 0 0, a_Sd X x.1 x.2) {I : Nat → Nat → Int32} (ht : ¬ I 16 13 ≤ 0) (hf : vp_in (I 16 13 - 1) 104) (h0 : I 16 20 = 0) (hq : m_fp I = -2 ∨ m_fp I = -3) (hJ : w_Lh X F B (m_alone I (m_fp I) (I 31 (I 16 13 - 1).toNatClampNeg) (I 32 (I 16 13 - 1).toNatClampNeg))) : w_Lh X F B I := by
  intro p x y f q
  refine a_wp1 hS w_invh 60 27 _ rfl ?_
  have hn : m_fp I < 0 := by rcases hq with h | h <;> rw [h] <;> decide
  exact ⟨fun w => absurd w ht, fun _ => ⟨hf, fun _ => ⟨fun _ => ⟨hf, hf, I, F, B, _, _, _, rfl, rfl, fun w1 w2 => absurd hq (fun z => z.elim w1 w2), hJ _ _ _ _ _⟩, fun w => absurd hn w⟩, fun w => absurd h0 w⟩⟩
set_option maxRecDepth 20000 in
theorem w_alone2 (hS : ∀ x ∈ P_X3_work K 0 0, a_Sd X x.1 x.2) {I : Nat → Nat → Int32} (ht : ¬ I 16 13 ≤ 0) (hf : vp_in (I 16 13 - 1) 104) (h0 : I 16 20 = 0) (hn : ¬ m_fp I < 0) (hp : vp_in (m_fp I) 60) (h3 : ¬ 3 ≤ I 17 (m_fp I).toNatClampNeg) (hJ : w_Lh X F B (m_alone I (m_fp I) (I 31 (I 16 13 - 1).toNatClampNeg) (I 32 (I 16 13 - 1).toNatClampNeg))) : w_Lh X F B I := by
  intro p x y f q
  refine a_wp1 hS w_invh 60 27 _ rfl ?_
  exact ⟨fun w => absurd w ht, fun _ => ⟨hf, fun _ => ⟨fun w => absurd w hn, fun _ => ⟨hp, fun w => absurd w h3, fun _ => ⟨hf, hf, I, F, B, _, _, _, rfl, rfl, fun _ _ => hp, hJ _ _ _ _ _⟩⟩⟩, fun w => absurd h0 w⟩⟩
set_option maxRecDepth 20000 in
theorem w_begins (hS : ∀ x ∈ P_X3_work K 0 0, a_Sd X x.1 x.2) {I : Nat → Nat → Int32} (ht : ¬ I 16 13 ≤ 0) (hf : vp_in (I 16 13 - 1) 104) (h0 : I 16 20 = 0) (hn : ¬ m_fp I < 0) (hp : vp_in (m_fp I) 60) (h3 : 3 ≤ I 17 (m_fp I).toNatClampNeg) (hs : I 33 (I 16 13 - 1).toNatClampNeg = 0) (ht4 : vp_in (I 16 13) 104) (h9 : I 17 (m_fp I).toNatClampNeg = 9 → vp_in (I 18 (m_fp I).toNatClampNeg) 6) (hJ : w_Lh X F B (m_begins (a_w I 33 (I 16 13 - 1).toNatClampNeg 1) (m_fp I) (I 31 (I 16 13 - 1).toNatClampNeg) (I 32 (I 16 13 - 1).toNatClampNeg))) : w_Lh X F B I := by
  intro p x y f q
  refine a_wp1 hS w_invh 80 27 _ rfl ?_
  exact ⟨fun w => absurd w ht, fun _ => ⟨hf, fun _ => ⟨fun w => absurd w hn, fun _ => ⟨hp, fun _ => ⟨hf, fun _ => ⟨hf, hf, hf, a_w I 33 (I 16 13 - 1).toNatClampNeg 1, F, B, _, _, _, rfl, rfl, hp, ht4, h9, hJ _ _ _ _ _⟩, fun w => absurd hs w⟩, fun w => absurd h3 w⟩⟩, fun w => absurd h0 w⟩⟩
set_option maxRecDepth 20000 in
theorem w_goesOn (hS : ∀ x ∈ P_X3_work K 0 0, a_Sd X x.1 x.2) {I : Nat → Nat → Int32} (ht : ¬ I 16 13 ≤ 0) (hf : vp_in (I 16 13 - 1) 104) (h0 : I 16 20 = 0) (hn : ¬ m_fp I < 0) (hp : vp_in (m_fp I) 60) (h3 : 3 ≤ I 17 (m_fp I).toNatClampNeg) (hs : ¬ I 33 (I 16 13 - 1).toNatClampNeg = 0) (ht4 : vp_in (I 16 13) 104) (h7 : I 17 (m_fp I).toNatClampNeg = 7 → ¬ m_in (I 16 21) 0 7 = 0 → vp_in (8 * I 19 (m_fp I).toNatClampNeg + I 16 21) 32) (h8 : I 17 (m_fp I).toNatClampNeg = 8 → ¬ m_in (I 16 21) 0 7 = 0 → vp_in (8 * m_fp I + I 16 21) 480) (hJ : w_Lh X F B (m_goesOn (a_w I 33 (I 16 13 - 1).toNatClampNeg (I 33 (I 16 13 - 1).toNatClampNeg + 1)) (I 16 13 - 1) (m_fp I))) : w_Lh X F B I := by
  intro p x y f q
  refine a_wp1 hS w_invh 80 27 _ rfl ?_
  exact ⟨fun w => absurd w ht, fun _ => ⟨hf, fun _ => ⟨fun w => absurd w hn, fun _ => ⟨hp, fun _ => ⟨hf, fun w => absurd w hs, fun _ => ⟨hf, hf, a_w I 33 (I 16 13 - 1).toNatClampNeg (I 33 (I 16 13 - 1).toNatClampNeg + 1), F, B, _, _, rfl, rfl, hf, hp, ht4, h7, h8, hJ _ _ _ _ _⟩⟩, fun w => absurd h3 w⟩⟩, fun w => absurd h0 w⟩⟩
theorem w_fpq (ht : t < 104) : m_fp (m_q M k f g sf wn (nI (t + 1)) ak A) = A.1 t := by
  show A.1 (nI (t + 1) - 1).toNatClampNeg = A.1 t
  rw [w_clamp ht]
theorem w_npos (ht : t < 104) : ¬ nI (t + 1) ≤ 0 := nI_nle (by omega) (by omega)
theorem w_pc {p : Nat} (hp : p < 60) : (nI p).toNatClampNeg = p := nI_clamp (by omega)
/-- a failure goes down one frame -/
theorem w_fail (hS : ∀ x ∈ P_X3_work K 0 0, a_Sd X x.1 x.2) (ht : t < 104) (hf : ¬ f = 0) (hp : p < 60) (hA : A.1 t = nI p) (h12 : ¬ M 17 p = 12) (hJ : w_Lh X F B (m_q M k f g sf wn (nI t) ak A)) : w_Lh X F B (m_q M k f g sf wn (nI (t + 1)) ak A) := by
  have e := (w_fpq (M := M) (k := k) (f := f) (g := g) (sf := sf) (wn := wn) (ak := ak) ht).trans hA
  refine w_falls hS (w_npos ht) (w_vin ht) hf (fun _ => by rw [e]; exact vp_in_nI hp (by decide)) ?_
  unfold m_falls
  rw [if_neg (fun w => h12 (by have := w.2.1; rw [e, w_pc hp] at this; exact this))]
  have e2 : a_w (m_q M k f g sf wn (nI (t + 1)) ak A) 16 13 (nI (t + 1) - 1) = m_q M k f g sf wn (nI t) ak A := by rw [nI_pred]; exact mp_13
  rw [show a_w (m_q M k f g sf wn (nI (t + 1)) ak A) 16 13 (m_q M k f g sf wn (nI (t + 1)) ak A 16 13 - 1) = _ from e2]
  exact hJ
theorem w_failn (hS : ∀ x ∈ P_X3_work K 0 0, a_Sd X x.1 x.2) (ht : t < 104) (hf : ¬ f = 0) (hA : A.1 t < 0) (hJ : w_Lh X F B (m_q M k f g sf wn (nI t) ak A)) : w_Lh X F B (m_q M k f g sf wn (nI (t + 1)) ak A) := by
  have e := (w_fpq (M := M) (k := k) (f := f) (g := g) (sf := sf) (wn := wn) (ak := ak) (A := A) ht)
  refine w_falls hS (w_npos ht) (w_vin ht) hf (fun w => absurd (by rw [e]; exact hA) w) ?_
  unfold m_falls
  rw [if_neg (fun w => w.1 (by rw [e]; exact hA))]
  have e2 : a_w (m_q M k f g sf wn (nI (t + 1)) ak A) 16 13 (nI (t + 1) - 1) = m_q M k f g sf wn (nI t) ak A := by rw [nI_pred]; exact mp_13
  rw [show a_w (m_q M k f g sf wn (nI (t + 1)) ak A) 16 13 (m_q M k f g sf wn (nI (t + 1)) ak A 16 13 - 1) = _ from e2]
  exact hJ
/-- a SAFE frame meets a failure -/
theorem w_safe (hS : ∀ x ∈ P_X3_work K 0 0, a_Sd X x.1 x.2) (ht : t < 104) (hf : ¬ f = 0) (hp : p < 60) (hA : A.1 t = nI p) (h12 : M 17 p = 12) (hJ : w_Lh X F B (if ¬ f = 0 ∧ ¬ f = 4 ∧ (M 19 p = 0 ∨ M 19 p = f) ∧ ¬ 20 ≤ sf then m_q M k 0 (M 20 p) (sf + 1) wn (nI t) ak A else m_q M k f g sf wn (nI t) ak A)) : w_Lh X F B (m_q M k f g sf wn (nI (t + 1)) ak A) := by
  have e := (w_fpq (M := M) (k := k) (f := f) (g := g) (sf := sf) (wn := wn) (ak := ak) ht).trans hA
  have hn : ¬ nI p < 0 := nI_pos (by omega)
  refine w_falls hS (w_npos ht) (w_vin ht) hf (fun _ => by rw [e]; exact vp_in_nI hp (by decide)) ?_
  unfold m_falls
  rw [e, w_pc hp]
  have e2 : a_w (m_q M k f g sf wn (nI (t + 1)) ak A) 16 13 (nI (t + 1) - 1) = m_q M k f g sf wn (nI t) ak A := by rw [nI_pred]; exact mp_13
  rw [show a_w (m_q M k f g sf wn (nI (t + 1)) ak A) 16 13 (m_q M k f g sf wn (nI (t + 1)) ak A 16 13 - 1) = _ from e2]
  by_cases hc : ¬ f = 0 ∧ ¬ f = 4 ∧ (M 19 p = 0 ∨ M 19 p = f) ∧ ¬ 20 ≤ sf
  · rw [if_pos hc] at hJ
    rw [if_pos ⟨hn, h12, hc.2.1, hc.2.2.1, hc.2.2.2⟩, mp_12, mp_20, mp_21]
    exact hJ
  · rw [if_neg hc] at hJ
    rw [if_neg (fun w => hc ⟨hf, w.2.2.1, w.2.2.2.1, w.2.2.2.2⟩)]
    exact hJ
theorem w_tells (v : Int32) : m_tells (m_q M k f g sf wn (nI (t + 1)) ak A) v = m_q M k f v sf wn (nI t) ak A := by
  show a_w (a_w (m_q M k f g sf wn (nI (t + 1)) ak A) 16 21 v) 16 13 (nI (t + 1) - 1) = _
  rw [nI_pred, mp_21, mp_13]
theorem w_tellsOf (i v : Int32) (m : Int32) : m_tellsOf (m_q M k f g sf wn (nI (t + 1)) ak A) i v m = if m_in i 0 7 = 0 then m_q M k 2 g sf wn (nI (t + 1)) ak A else m_q M k f (v + m) sf wn (nI t) ak A := by
  unfold m_tellsOf
  by_cases h : m_in i 0 7 = 0
  · rw [if_pos h, if_pos h, mp_20]
  · rw [if_neg h, if_neg h, w_tells]
theorem w_push (ht : t < 104) {kn : Nat} (hk : kn < 100) (c x y : Int32) (hc : ¬ c = -1) : m_push (m_q M (nI kn) f g sf wn (nI t) ak A) c x y = m_q M (nI (kn + 1)) f g sf wn (nI (t + 1)) ak (w_put A t c x y 0) := by
  have h1 : ¬ nI kn = 100 := fun w => by
    have := (nI_eq (by omega) (by decide)).mp (w.trans (show (100 : Int32) = nI 100 from rfl))
    omega
  have hcl : (nI t).toNatClampNeg = t := nI_clamp (by omega)
  unfold m_push
  rw [if_neg (show ¬ m_q M (nI kn) f g sf wn (nI t) ak A 16 19 = 100 from h1), if_neg hc]
  show a_w (a_w (a_w (a_w (a_w (a_w (m_q M (nI kn) f g sf wn (nI t) ak A) 16 19 (nI kn + 1)) 30 (nI t).toNatClampNeg c) 31 (nI t).toNatClampNeg x) 32 (nI t).toNatClampNeg y) 33 (nI t).toNatClampNeg 0) 16 13 (nI t + 1) = _
  rw [hcl, nI_1, nI_1, mp_19, mp_a30, mp_a31, mp_a32, mp_a33, mp_13]
end WS
end
section
/-! ===== the loop, by induction on the depth ===== -/
def tk_P (rc : tF) : Prop := ∀ (c x y : Int32) (s : tS) (k : Nat), s.1 = nI k → k ≤ 100 → ∃ k', k ≤ k' ∧ k' ≤ 100 ∧ (rc c x y s).2.2.1 = nI k'
theorem tk_s {M : Nat → Nat → Int32} {rc : tF} (h : tk_P rc) (p : Nat) (x y : Int32) (s : tS) (k : Nat) (hs : s.1 = nI k) (hk : k ≤ 100) : ∃ k', k ≤ k' ∧ k' ≤ 100 ∧ (t_s M rc p x y s).2.2.1 = nI k' := by
  have base : ∃ k', k ≤ k' ∧ k' ≤ 100 ∧ s.1 = nI k' := ⟨k, Nat.le_refl _, hk, hs⟩
  unfold t_s
  by_cases h0 : M 17 p = 0
  · rw [if_pos h0]; exact base
  rw [if_neg h0]
  by_cases h1 : M 17 p = 1
  · rw [if_pos h1]
    by_cases hz : M 20 p = 0
    · rw [if_pos hz]; exact base
    · rw [if_neg hz]; exact base
  rw [if_neg h1]
  by_cases h2 : M 17 p = 2
  · rw [if_pos h2]
    by_cases hz : M 19 p = 0
    · rw [if_pos hz]; exact base
    · rw [if_neg hz]; exact base
  rw [if_neg h2]
  by_cases h3 : M 17 p = 3
  · rw [if_pos h3]; exact h _ _ _ s k hs hk
  rw [if_neg h3]
  by_cases h4 : M 17 p = 4
  · rw [if_pos h4]; exact h _ _ _ s k hs hk
  rw [if_neg h4]
  by_cases h5 : M 17 p = 5
  · rw [if_pos h5]
    unfold t_over
    obtain ⟨k1, a1, a2, a3⟩ := h (M 18 p) x y s k hs hk
    by_cases hz : (rc (M 18 p) x y s).1 = 0 ∧ (rc (M 18 p) x y s).2.1 = 0
    · rw [if_pos hz]
      obtain ⟨k2, b1, b2, b3⟩ := h (M 19 p) x y _ k1 a3 a2
      exact ⟨k2, by omega, b2, b3⟩
    · rw [if_neg hz]; exact ⟨k1, a1, a2, a3⟩
  rw [if_neg h5]
  by_cases h6 : M 17 p = 6
  · rw [if_pos h6]
    unfold t_where
    obtain ⟨k1, a1, a2, a3⟩ := h (M 18 p) x y s k hs hk
    by_cases hz : (rc (M 18 p) x y s).1 = 0
    · rw [if_pos hz]
      obtain ⟨k2, b1, b2, b3⟩ := h (if (rc (M 18 p) x y s).2.1 ≤ 0 then M 20 p else M 19 p) x y _ k1 a3 a2
      exact ⟨k2, by omega, b2, b3⟩
    · rw [if_neg hz]; exact ⟨k1, a1, a2, a3⟩
  rw [if_neg h6]
  have dy : ∀ g : Int32 → Int32, ∃ k', k ≤ k' ∧ k' ≤ 100 ∧ (t_dyed g (rc (M 18 p) x y s)).2.2.1 = nI k' := fun g => by
    obtain ⟨k1, a1, a2, a3⟩ := h (M 18 p) x y s k hs hk
    unfold t_dyed
    by_cases hz : (rc (M 18 p) x y s).1 = 0
    · rw [if_pos hz]
      by_cases hy : m_in (rc (M 18 p) x y s).2.1 0 7 = 0
      · rw [if_pos hy]; exact ⟨k1, a1, a2, a3⟩
      · rw [if_neg hy]; exact ⟨k1, a1, a2, a3⟩
    · rw [if_neg hz]; exact ⟨k1, a1, a2, a3⟩
  by_cases h7 : M 17 p = 7
  · rw [if_pos h7]; exact dy _
  rw [if_neg h7]
  by_cases h8 : M 17 p = 8
  · rw [if_pos h8]; exact dy _
  rw [if_neg h8]
  by_cases h9 : M 17 p = 9
  · rw [if_pos h9]; exact h _ _ _ s k hs hk
  rw [if_neg h9]
  by_cases h10 : M 17 p = 10
  · rw [if_pos h10]
    unfold t_worn
    by_cases hz : s.2.2.2 p + 1 = M 19 p
    · rw [if_pos hz]; exact base
    · rw [if_neg hz]; exact h _ _ _ _ k hs hk
  rw [if_neg h10]
  by_cases h11 : M 17 p = 11
  · rw [if_pos h11]
    unfold t_both
    obtain ⟨k1, a1, a2, a3⟩ := h (M 18 p) x y s k hs hk
    by_cases hz : (rc (M 18 p) x y s).1 = 0
    · rw [if_pos hz]
      obtain ⟨k2, b1, b2, b3⟩ := h (M 19 p) x y _ k1 a3 a2
      exact ⟨k2, by omega, b2, b3⟩
    · rw [if_neg hz]; exact ⟨k1, a1, a2, a3⟩
  rw [if_neg h11]
  by_cases h12 : M 17 p = 12
  · rw [if_pos h12]
    obtain ⟨k1, a1, a2, a3⟩ := h (M 18 p) x y s k hs hk
    unfold t_safe
    by_cases hz : ¬ (rc (M 18 p) x y s).1 = 0 ∧ ¬ (rc (M 18 p) x y s).1 = 4 ∧ (M 19 p = 0 ∨ M 19 p = (rc (M 18 p) x y s).1) ∧ ¬ 20 ≤ (rc (M 18 p) x y s).2.2.2.1
    · rw [if_pos hz]; exact ⟨k1, a1, a2, a3⟩
    · rw [if_neg hz]; exact ⟨k1, a1, a2, a3⟩
  rw [if_neg h12]
  exact h _ _ _ s k hs hk
theorem tk_T {M : Nat → Nat → Int32} : ∀ D, tk_P (tt_T M D) := by
  intro D
  induction D with
  | zero => exact fun c x y s k hs hk => ⟨k, Nat.le_refl _, hk, hs⟩
  | succ D ih =>
    intro c x y s k hs hk
    show ∃ k', k ≤ k' ∧ k' ≤ 100 ∧ (if 100 ≤ s.1 then ((4, 0, s) : tR) else t_b M (tt_T M D) c x y (s.1 + 1, s.2)).2.2.1 = nI k'
    by_cases h1 : 100 ≤ s.1
    · rw [if_pos h1]; exact ⟨k, Nat.le_refl _, hk, hs⟩
    · rw [if_neg h1]
      have hk2 : k < 100 := by
        rcases Nat.lt_or_ge k 100 with w | w
        · exact w
        · exact absurd (by rw [hs]; exact nI_le (a := 100) w (by omega)) h1
      have e : s.1 + 1 = nI (k + 1) := by rw [hs, nI_1]
      have hs2 : ((s.1 + 1, s.2) : tS).1 = nI (k + 1) := e
      unfold t_b
      by_cases c1 : c = -1
      · rw [if_pos c1]; exact ⟨k + 1, by omega, by omega, hs2⟩
      rw [if_neg c1]
      by_cases c2 : c = -2
      · rw [if_pos c2]; exact ⟨k + 1, by omega, by omega, hs2⟩
      rw [if_neg c2]
      by_cases c3 : c = -3
      · rw [if_pos c3]
        by_cases c4 : m_in x 0 7 = 0
        · rw [if_pos c4]; exact ⟨k + 1, by omega, by omega, hs2⟩
        · rw [if_neg c4]; exact ⟨k + 1, by omega, by omega, hs2⟩
      rw [if_neg c3]
      obtain ⟨k', a1, a2, a3⟩ := tk_s (M := M) ih c.toNatClampNeg x y (s.1 + 1, s.2) (k + 1) hs2 (by omega)
      exact ⟨k', by omega, a2, a3⟩
theorem i_divm1 (x : Int32) : x / (-1) = -x := by
  apply Int32.toBitVec_inj.mp
  show BitVec.sdiv x.toBitVec (-1 : Int32).toBitVec = -x.toBitVec
  rw [show (-1 : Int32).toBitVec = BitVec.allOnes 32 from rfl]
  apply BitVec.eq_of_toInt_eq
  rw [BitVec.toInt_sdiv, BitVec.toInt_allOnes, BitVec.toInt_neg]
  simp
theorem i_quot (x b : Int32) : m_quot x b = x / b := by
  unfold m_quot
  by_cases h : b = -1
  · rw [if_pos h, h, i_divm1]
  · rw [if_neg h]
theorem i_remm1 (x : Int32) : a_rem x (-1) = 0 := by
  unfold a_rem
  rw [i_divm1]
  have e1 : (-x) * (-1) = x := by rw [Int32.neg_mul, Int32.mul_neg, Int32.mul_one, Int32.neg_neg]
  rw [e1, Int32.sub_self]
abbrev m_r (M : Nat → Nat → Int32) (s : tS) (f g tp : Int32) (A : w5) : Nat → Nat → Int32 := m_q M s.1 f g s.2.1 s.2.2.1 tp s.2.2.2 A
section WR
variable {X : a_X} {K : aK} {F : Nat → Nat → Option Nat} {B : Nat → Bool} {M : Nat → Nat → Int32} {k g sf wn : Int32} {f : Int32} {ak : Nat → Int32} {A : w5} {t p n : Nat}
theorem w_go (hp : p < 60) (ht : t < 104) : m_goesOn (m_q M k f g sf wn (nI (t + 1)) ak A) (nI t) (nI p) =
    (if M 17 p = 5 ∧ A.2.2.2.1 t - 2 = 0 ∧ g = 0 then m_push (m_q M k f g sf wn (nI (t + 1)) ak A) (M 19 p) (A.2.1 t) (A.2.2.1 t)
    else if M 17 p = 6 ∧ A.2.2.2.1 t - 2 = 0 then m_push (m_q M k f g sf wn (nI (t + 1)) ak A) (if g ≤ 0 then M 20 p else M 19 p) (A.2.1 t) (A.2.2.1 t)
    else if M 17 p = 7 then m_tellsOf (m_q M k f g sf wn (nI (t + 1)) ak A) g (m_dyeAt M (M 19 p) g) 0
    else if M 17 p = 8 then m_tellsOf (m_q M k f g sf wn (nI (t + 1)) ak A) g (if m_in g 0 7 = 0 then 0 else M 21 (8 * nI p + g).toNatClampNeg) 0
    else if M 17 p = 9 then m_tells (m_q M k f g sf wn (nI (t + 1)) ak A) (g + M 19 p)
    else if M 17 p = 11 ∧ A.2.2.2.1 t - 2 = 0 then m_push (m_q M k f g sf wn (nI (t + 1)) ak (w_fs A t g)) (M 19 p) (A.2.1 t) (A.2.2.1 t)
    else if M 17 p = 11 then m_tells (m_q M k f g sf wn (nI (t + 1)) ak A) (A.2.2.2.2 t + M 20 p * g)
    else m_tells (m_q M k f g sf wn (nI (t + 1)) ak A) g) := by
  unfold m_goesOn
  rw [w_pc hp, show (nI t).toNatClampNeg = t from nI_clamp (by omega)]
  rw [show a_w (m_q M k f g sf wn (nI (t + 1)) ak A) 34 t (m_q M k f g sf wn (nI (t + 1)) ak A 16 21) = m_q M k f g sf wn (nI (t + 1)) ak (w_fs A t g) from mp_a34]
  rfl
theorem w_be (hp : p < 60) (x y : Int32) : m_begins (m_q M k f g sf wn (nI (t + 1)) ak A) (nI p) x y =
    (if M 17 p = 3 then m_push (m_q M k f g sf wn (nI (t + 1)) ak A) (M 18 p) (x - M 19 p) (y - M 20 p)
    else if M 17 p = 4 then m_push (m_q M k f g sf wn (nI (t + 1)) ak A) (M 18 p) (m_tx (M 19 p) x y) (m_ty (M 19 p) x y)
    else if M 17 p = 9 then m_push (m_q M k f g sf wn (nI (t + 1)) ak A) (M 25 (M 18 p).toNatClampNeg) x y
    else if M 17 p = 10 then (if ak p + 1 = M 19 p then m_tells (m_q M k f g sf (wn + 1) (nI (t + 1)) (upd ak p 0) A) (M 20 p) else m_push (m_q M k f g sf wn (nI (t + 1)) (upd ak p (ak p + 1)) A) (M 18 p) x y)
    else if M 17 p = 13 then m_push (m_q M k f g sf wn (nI (t + 1)) ak A) (M 22 p) x y
    else m_push (m_q M k f g sf wn (nI (t + 1)) ak A) (M 18 p) x y) := by
  unfold m_begins
  rw [w_pc hp]
  rw [show a_w (m_q M k f g sf wn (nI (t + 1)) ak A) 23 p (m_q M k f g sf wn (nI (t + 1)) ak A 23 p + 1) = m_q M k f g sf wn (nI (t + 1)) (upd ak p (ak p + 1)) A from mp_a23]
  rw [show a_w (m_q M k f g sf wn (nI (t + 1)) (upd ak p (ak p + 1)) A) 23 p 0 = m_q M k f g sf wn (nI (t + 1)) (upd (upd ak p (ak p + 1)) p 0) A from mp_a23]
  rw [show upd (upd ak p (ak p + 1)) p 0 = upd ak p 0 by funext j; unfold upd; by_cases e : j = p <;> simp [e]]
  rw [show a_w (m_q M k f g sf wn (nI (t + 1)) (upd ak p 0) A) 16 11 (m_q M k f g sf wn (nI (t + 1)) ak A 16 11 + 1) = m_q M k f g sf (wn + 1) (nI (t + 1)) (upd ak p 0) A from mp_11]
  rfl
/-- a frame goes on -/
theorem w_on (hS : ∀ x ∈ P_X3_work K 0 0, a_Sd X x.1 x.2) (ht : t < 103) (hp : p < 60) (hA : A.1 t = nI p) {s v : Nat} (hso : M 17 p = nI s) (h3 : 3 ≤ s) (h13 : s ≤ 13) {sv : Int32} (hsg : A.2.2.2.1 t = sv) (h0 : ¬ sv = 0) (h7 : s = 7 → m_vc 4 (M 19 p)) (hJ : w_Lh X F B (m_goesOn (m_q M k 0 g sf wn (nI (t + 1)) ak (w_sg A t (sv + 1))) (nI t) (nI p))) : w_Lh X F B (m_q M k 0 g sf wn (nI (t + 1)) ak A) := by
  have e := (w_fpq (M := M) (k := k) (f := 0) (g := g) (sf := sf) (wn := wn) (ak := ak) (t := t) (by omega)).trans hA
  have ecl := w_clamp (t := t) (by omega)
  have esg : m_q M k 0 g sf wn (nI (t + 1)) ak A 33 (m_q M k 0 g sf wn (nI (t + 1)) ak A 16 13 - 1).toNatClampNeg = sv := by
    show A.2.2.2.1 (nI (t + 1) - 1).toNatClampNeg = sv
    rw [ecl]; exact hsg
  refine w_goesOn hS (w_npos (by omega)) (w_vin (by omega)) rfl (by rw [e]; exact nI_pos (by omega)) (by rw [e]; exact vp_in_nI hp (by decide)) ?_ (by rw [esg]; exact h0) (vp_in_nI (by omega) (by decide)) ?_ ?_ ?_
  · rw [e, w_pc hp]
    show 3 ≤ M 17 p
    rw [hso]
    exact nI_le (a := 3) h3 (by omega)
  · rw [e, w_pc hp]
    intro h7' hm
    have h7' : M 17 p = 7 := h7'
    have : s = 7 := (nI_eq (by omega) (by decide)).mp (hso.symm.trans h7')
    obtain ⟨d, hd, he⟩ := h7 this
    obtain ⟨j, hj, hg⟩ := m_in_n (b := 7) (by decide) hm
    show vp_in (8 * M 19 p + g) 32
    have hg : g = nI j := hg
    rw [he, hg]
    exact a_8in hd (by omega)
  · rw [e]
    intro _ hm
    obtain ⟨j, hj, hg⟩ := m_in_n (b := 7) (by decide) hm
    have hg : g = nI j := hg
    show vp_in (8 * nI p + g) 480
    rw [hg, a_8 hp (by omega)]
    exact vp_in_nI (by omega) (by decide)
  · rw [e, esg]
    have e1 : (m_q M k 0 g sf wn (nI (t + 1)) ak A 16 13 - 1) = nI t := nI_pred t
    rw [e1, show (nI t).toNatClampNeg = t from nI_clamp (by omega)]
    rw [show a_w (m_q M k 0 g sf wn (nI (t + 1)) ak A) 33 t (sv + 1) = m_q M k 0 g sf wn (nI (t + 1)) ak (w_sg A t (sv + 1)) from mp_a33]
    exact hJ
end WR
end
section
/-! ===== the loop tells what the pattern tells ===== -/
theorem nI_neg {p : Nat} (hp : p < 2 ^ 31) {c : Int32} (hc : c < 0) : ¬ nI p = c := fun e => nI_pos hp (by rw [e]; exact hc)
theorem z_1 : ¬ (1 : Int32) = 0 := by decide
theorem z_2 : ¬ (2 : Int32) = 0 := by decide
theorem z_3 : ¬ (3 : Int32) = 0 := by decide
theorem z_4 : ¬ (4 : Int32) = 0 := by decide
section WQ
variable {X : a_X} {K : aK} {F : Nat → Nat → Option Nat} {B : Nat → Bool} {M : Nat → Nat → Int32} {k g sf wn : Int32} {f : Int32} {ak : Nat → Int32} {A : w5} {t p n : Nat}
theorem w_al (hp : p < 60) (x y : Int32) : m_alone (m_q M k f g sf wn (nI (t + 1)) ak A) (nI p) x y =
    (if M 17 p = 0 then m_q M k f (M 18 p) sf wn (nI t) ak A
    else if M 17 p = 1 then (if M 20 p = 0 then m_q M k 1 g sf wn (nI (t + 1)) ak A else m_q M k f (if a_rem (x / M 20 p) 2 = 0 then M 18 p else M 19 p) sf wn (nI t) ak A)
    else if M 19 p = 0 then m_q M k 1 g sf wn (nI (t + 1)) ak A
    else m_q M k f (a_rem (x + M 18 p * y) (M 19 p) + M 20 p) sf wn (nI t) ak A) := by
  unfold m_alone
  rw [if_neg (nI_neg (by omega) (by decide)), if_neg (nI_neg (by omega) (by decide)), w_pc hp]
  rw [show a_w (m_q M k f g sf wn (nI (t + 1)) ak A) 16 20 1 = m_q M k 1 g sf wn (nI (t + 1)) ak A from mp_20]
  rw [w_tells, w_tells, w_tells, i_quot]
  have e : (if M 19 p = -1 then 0 else a_rem (x + M 18 p * y) (M 19 p)) = a_rem (x + M 18 p * y) (M 19 p) := by
    by_cases h : M 19 p = -1
    · rw [if_pos h, h, i_remm1]
    · rw [if_neg h]
  rw [← e]
  rfl
/-- a frame's start -/
theorem w_st (hS : ∀ x ∈ P_X3_work K 0 0, a_Sd X x.1 x.2) (ht : t < 103) (hp : p < 60) {s : Nat} (hso : M 17 p = nI s) (h3 : 3 ≤ s) (h13 : s ≤ 13) (h9 : s = 9 → m_vc 6 (M 18 p)) {x y : Int32} (hJ : w_Lh X F B (m_begins (m_q M k 0 g sf wn (nI (t + 1)) ak (w_sg (w_put A t (nI p) x y 0) t 1)) (nI p) x y)) : w_Lh X F B (m_q M k 0 g sf wn (nI (t + 1)) ak (w_put A t (nI p) x y 0)) := by
  have e := (w_fpq (M := M) (k := k) (f := 0) (g := g) (sf := sf) (wn := wn) (ak := ak) (A := w_put A t (nI p) x y 0) (t := t) (by omega)).trans u_s
  have ecl := w_clamp (t := t) (by omega)
  have ei : (m_q M k 0 g sf wn (nI (t + 1)) ak (w_put A t (nI p) x y 0) 16 13 - 1).toNatClampNeg = t := ecl
  refine w_begins hS (w_npos (by omega)) (w_vin (by omega)) rfl (by rw [e]; exact nI_pos (by omega)) (by rw [e]; exact vp_in_nI hp (by decide)) ?_ ?_ (vp_in_nI (by omega) (by decide)) ?_ ?_
  · rw [e, w_pc hp]
    show 3 ≤ M 17 p
    rw [hso]
    exact nI_le (a := 3) h3 (by omega)
  · rw [ei]; exact u_s
  · rw [e, w_pc hp]
    intro h9'
    have h9' : M 17 p = 9 := h9'
    obtain ⟨j, hj, he⟩ := h9 ((nI_eq (by omega) (by decide)).mp (hso.symm.trans h9'))
    show vp_in (M 18 p) 6
    rw [he]
    exact vp_in_nI hj (by decide)
  · rw [e, ei]
    rw [show m_q M k 0 g sf wn (nI (t + 1)) ak (w_put A t (nI p) x y 0) 31 t = x from u_s, show m_q M k 0 g sf wn (nI (t + 1)) ak (w_put A t (nI p) x y 0) 32 t = y from u_s]
    rw [show a_w (m_q M k 0 g sf wn (nI (t + 1)) ak (w_put A t (nI p) x y 0)) 33 t 1 = m_q M k 0 g sf wn (nI (t + 1)) ak (w_sg (w_put A t (nI p) x y 0) t 1) from mp_a33]
    exact hJ
/-- a frame whose last asked one has told: it tells the same -/
theorem w_ret1 (hS : ∀ x ∈ P_X3_work K 0 0, a_Sd X x.1 x.2) (ht : t < 103) (hp : p < 60) (hA : A.1 t = nI p) {s : Nat} (hso : M 17 p = nI s) (h3 : 3 ≤ s) (h13 : s ≤ 13) {sv : Int32} (hsg : A.2.2.2.1 t = sv) (h0 : ¬ sv = 0) (r : tR) (hg : r.1 = 0 → g = r.2.1)
    (n5 : ¬ (M 17 p = 5 ∧ sv + 1 - 2 = 0 ∧ g = 0)) (n6 : ¬ (M 17 p = 6 ∧ sv + 1 - 2 = 0)) (n7 : ¬ M 17 p = 7) (n8 : ¬ M 17 p = 8) (n9 : ¬ M 17 p = 9) (n11 : ¬ M 17 p = 11)
    (hf : ¬ r.1 = 0 → w_Lh X F B (m_r M r.2.2 r.1 g (nI (t + 1)) A)) (H : ∀ A', w_ag t A A' → r.1 = 0 → w_Lh X F B (m_r M r.2.2 r.1 r.2.1 (nI t) A')) : w_Lh X F B (m_r M r.2.2 r.1 g (nI (t + 1)) A) := by
  by_cases hz : r.1 = 0
  · have H := H (w_sg A t (sv + 1)) w_ag_sg hz
    rw [← hg hz, hz] at H
    rw [hz]
    refine w_on hS ht hp hA hso h3 h13 (v := 0) hsg h0 (fun h => absurd (by rw [hso, h]; rfl) n7) ?_
    rw [w_go hp (by omega)]
    rw [if_neg (fun w => n5 ⟨w.1, by have := w.2.1; rw [show (w_sg A t (sv + 1)).2.2.2.1 t = sv + 1 from u_s] at this; exact this, w.2.2⟩), if_neg (fun w => n6 ⟨w.1, by have := w.2; rw [show (w_sg A t (sv + 1)).2.2.2.1 t = sv + 1 from u_s] at this; exact this⟩), if_neg n7, if_neg n8, if_neg n9, if_neg (fun w => n11 w.1), if_neg n11, w_tells]
    exact H
  · exact hf hz
set_option maxHeartbeats 4000000 in
theorem w_RL (hS : ∀ x ∈ P_X3_work K 0 0, a_Sd X x.1 x.2) (hM : m_D M n) : ∀ (D : Nat) (c x y : Int32) (s : tS) (k t : Nat) (g : Int32) (A : w5), m_cd n c → s.1 = nI k → t ≤ k → k ≤ 100 → 101 ≤ k + D →
    (∀ (g' : Int32) (A' : w5), ((tt_T M D c x y s).1 = 0 → g' = (tt_T M D c x y s).2.1) → w_ag t A A' → w_Lh X F B (m_r M (tt_T M D c x y s).2.2 (tt_T M D c x y s).1 g' (nI t) A')) → w_Lh X F B (m_push (m_r M s 0 g (nI t) A) c x y) := by
  intro D
  induction D with
  | zero => intro c x y s k t g A _ _ _ h1 h2; omega
  | succ D ih =>
    intro c x y s k t g A hc hs htk hk hD H
    obtain ⟨s1, sf, wn, ak⟩ := s
    have hs : s1 = nI k := hs
    subst hs
    by_cases hk1 : k = 100
    · subst hk1
      have hT : tt_T M (D + 1) c x y (nI 100, sf, wn, ak) = (4, 0, nI 100, sf, wn, ak) := by
        show (if (100 : Int32) ≤ nI 100 then ((4, 0, nI 100, sf, wn, ak) : tR) else t_b M (tt_T M D) c x y (nI 100 + 1, sf, wn, ak)) = _
        rw [if_pos (by decide)]
      rw [hT] at H
      have e : m_push (m_r M (nI 100, sf, wn, ak) 0 g (nI t) A) c x y = m_q M (nI 100) 4 g sf wn (nI t) ak A := by
        unfold m_push
        rw [if_pos (show m_r M (nI 100, sf, wn, ak) 0 g (nI t) A 16 19 = 100 from rfl)]
        exact mp_20
      rw [e]
      exact H g A (fun w => absurd w z_4) w_ag_rf
    have hk2 : k < 100 := by omega
    have hT : tt_T M (D + 1) c x y (nI k, sf, wn, ak) = t_b M (tt_T M D) c x y (nI (k + 1), sf, wn, ak) := by
      show (if 100 ≤ nI k then ((4, 0, nI k, sf, wn, ak) : tR) else t_b M (tt_T M D) c x y (nI k + 1, sf, wn, ak)) = _
      rw [if_neg (fun w => by have := (nI_leI (a := 100) (by decide) (by omega)).mp w; omega), nI_1]
    rw [hT] at H
    clear hT
    have htk3 : t < 103 := by omega
    rcases hc with rfl | rfl | rfl | ⟨p, hpn, rfl⟩
    · have hb : t_b M (tt_T M D) (-1) x y (nI (k + 1), sf, wn, ak) = (3, 0, nI (k + 1), sf, wn, ak) := if_pos rfl
      rw [hb] at H
      have e : m_push (m_r M (nI k, sf, wn, ak) 0 g (nI t) A) (-1) x y = m_q M (nI (k + 1)) 3 g sf wn (nI t) ak A := by
        unfold m_push
        rw [if_neg (show ¬ m_r M (nI k, sf, wn, ak) 0 g (nI t) A 16 19 = 100 from fun w => by have := (nI_eq (b := 100) (by omega) (by decide)).mp w; omega), if_pos rfl]
        show a_w (a_w (m_q M (nI k) 0 g sf wn (nI t) ak A) 16 19 (nI k + 1)) 16 20 3 = _
        rw [nI_1, mp_19, mp_20]
      rw [e]
      exact H g A (fun w => absurd w z_3) w_ag_rf
    · have hb : t_b M (tt_T M D) (-2) x y (nI (k + 1), sf, wn, ak) = (0, a_rem (x + y) 2, nI (k + 1), sf, wn, ak) := by
        unfold t_b
        rw [if_neg (by decide), if_pos rfl]
      rw [hb] at H
      rw [w_push (by omega) hk2 _ _ _ (by decide)]
      have e := (w_fpq (M := M) (k := nI (k + 1)) (f := 0) (g := g) (sf := sf) (wn := wn) (ak := ak) (A := w_put A t (-2) x y 0) (t := t) (by omega)).trans u_s
      have ei : (m_q M (nI (k + 1)) 0 g sf wn (nI (t + 1)) ak (w_put A t (-2) x y 0) 16 13 - 1).toNatClampNeg = t := w_clamp (by omega)
      refine w_alone1 hS (w_npos (by omega)) (w_vin (by omega)) rfl (Or.inl e) ?_
      rw [e, ei, show m_q M (nI (k + 1)) 0 g sf wn (nI (t + 1)) ak (w_put A t (-2) x y 0) 31 t = x from u_s, show m_q M (nI (k + 1)) 0 g sf wn (nI (t + 1)) ak (w_put A t (-2) x y 0) 32 t = y from u_s]
      rw [show m_alone (m_q M (nI (k + 1)) 0 g sf wn (nI (t + 1)) ak (w_put A t (-2) x y 0)) (-2) x y = _ from if_pos rfl, w_tells]
      exact H _ _ (fun _ => rfl) w_ag_put
    · rw [w_push (by omega) hk2 _ _ _ (by decide)]
      have e := (w_fpq (M := M) (k := nI (k + 1)) (f := 0) (g := g) (sf := sf) (wn := wn) (ak := ak) (A := w_put A t (-3) x y 0) (t := t) (by omega)).trans u_s
      have ei : (m_q M (nI (k + 1)) 0 g sf wn (nI (t + 1)) ak (w_put A t (-3) x y 0) 16 13 - 1).toNatClampNeg = t := w_clamp (by omega)
      refine w_alone1 hS (w_npos (by omega)) (w_vin (by omega)) rfl (Or.inr e) ?_
      rw [e, ei, show m_q M (nI (k + 1)) 0 g sf wn (nI (t + 1)) ak (w_put A t (-3) x y 0) 31 t = x from u_s, show m_q M (nI (k + 1)) 0 g sf wn (nI (t + 1)) ak (w_put A t (-3) x y 0) 32 t = y from u_s]
      rw [show m_alone (m_q M (nI (k + 1)) 0 g sf wn (nI (t + 1)) ak (w_put A t (-3) x y 0)) (-3) x y = _ by unfold m_alone; rw [if_neg (by decide), if_pos rfl], w_tellsOf]
      by_cases hx : m_in x 0 7 = 0
      · have hb : t_b M (tt_T M D) (-3) x y (nI (k + 1), sf, wn, ak) = (2, 0, nI (k + 1), sf, wn, ak) := by
          unfold t_b
          rw [if_neg (by decide), if_neg (by decide), if_pos rfl, if_pos hx]
        rw [hb] at H
        rw [if_pos hx]
        refine w_failn hS (by omega) (by decide) (by show upd A.1 t (-3) t < 0; rw [u_s]; decide) ?_
        exact H _ _ (fun w => absurd w z_2) w_ag_put
      · have hb : t_b M (tt_T M D) (-3) x y (nI (k + 1), sf, wn, ak) = (0, M 24 x.toNatClampNeg + y, nI (k + 1), sf, wn, ak) := by
          unfold t_b
          rw [if_neg (by decide), if_neg (by decide), if_pos rfl, if_neg hx]
        rw [hb] at H
        rw [if_neg hx]
        have ed : m_dyeAt (m_q M (nI (k + 1)) 0 g sf wn (nI (t + 1)) ak (w_put A t (-3) x y 0)) 0 x = M 24 x.toNatClampNeg := by
          unfold m_dyeAt
          rw [if_neg hx, Int32.mul_zero, Int32.zero_add]
          rfl
        rw [ed]
        exact H _ _ (fun _ => rfl) w_ag_put
    · have hp : p < 60 := Nat.lt_of_lt_of_le hpn hM.1
      have hb : t_b M (tt_T M D) (nI p) x y (nI (k + 1), sf, wn, ak) = t_s M (tt_T M D) p x y (nI (k + 1), sf, wn, ak) := by
        unfold t_b
        rw [if_neg (nI_neg (by omega) (by decide)), if_neg (nI_neg (by omega) (by decide)), if_neg (nI_neg (by omega) (by decide)), w_pc hp]
      rw [hb] at H
      clear hb
      rw [w_push (by omega) hk2 _ _ _ (nI_neg (by omega) (by decide))]
      obtain ⟨s, hs13, hso, hva, hvb, hvc, hvd, hvn, hvo⟩ := hM.2.1 p hpn
      by_cases hs3 : s < 3
      · -- plain, stripes, twill
        have e := (w_fpq (M := M) (k := nI (k + 1)) (f := 0) (g := g) (sf := sf) (wn := wn) (ak := ak) (A := w_put A t (nI p) x y 0) (t := t) (by omega)).trans u_s
        have ei : (m_q M (nI (k + 1)) 0 g sf wn (nI (t + 1)) ak (w_put A t (nI p) x y 0) 16 13 - 1).toNatClampNeg = t := w_clamp (by omega)
        refine w_alone2 hS (w_npos (by omega)) (w_vin (by omega)) rfl (by rw [e]; exact nI_pos (by omega)) (by rw [e]; exact vp_in_nI hp (by decide)) ?_ ?_
        · rw [e, w_pc hp]
          show ¬ 3 ≤ M 17 p
          rw [hso]
          exact fun w => by have := (nI_leI (a := 3) (by decide) (by omega)).mp w; omega
        rw [e, ei, show m_q M (nI (k + 1)) 0 g sf wn (nI (t + 1)) ak (w_put A t (nI p) x y 0) 31 t = x from u_s, show m_q M (nI (k + 1)) 0 g sf wn (nI (t + 1)) ak (w_put A t (nI p) x y 0) 32 t = y from u_s, w_al hp]
        rcases (show s = 0 ∨ s = 1 ∨ s = 2 by omega) with rfl | rfl | rfl
        · have h0 : M 17 p = 0 := hso
          rw [if_pos h0]
          rw [show t_s M (tt_T M D) p x y (nI (k + 1), sf, wn, ak) = _ from if_pos h0] at H
          exact H _ _ (fun _ => rfl) w_ag_put
        · have h1 : M 17 p = 1 := hso
          have n0 : ¬ M 17 p = 0 := by rw [h1]; decide
          rw [if_neg n0, if_pos h1]
          by_cases hz : M 20 p = 0
          · rw [if_pos hz]
            rw [show t_s M (tt_T M D) p x y (nI (k + 1), sf, wn, ak) = _ by unfold t_s; rw [if_neg n0, if_pos h1, if_pos hz]] at H
            exact w_fail hS (by omega) (by decide) hp u_s (by rw [h1]; decide) (H _ _ (fun w => absurd w z_1) w_ag_put)
          · rw [if_neg hz]
            rw [show t_s M (tt_T M D) p x y (nI (k + 1), sf, wn, ak) = _ by unfold t_s; rw [if_neg n0, if_pos h1, if_neg hz]] at H
            exact H _ _ (fun _ => rfl) w_ag_put
        · have h2 : M 17 p = 2 := hso
          have n0 : ¬ M 17 p = 0 := by rw [h2]; decide
          have n1 : ¬ M 17 p = 1 := by rw [h2]; decide
          rw [if_neg n0, if_neg n1]
          by_cases hz : M 19 p = 0
          · rw [if_pos hz]
            rw [show t_s M (tt_T M D) p x y (nI (k + 1), sf, wn, ak) = _ by unfold t_s; rw [if_neg n0, if_neg n1, if_pos h2, if_pos hz]] at H
            exact w_fail hS (by omega) (by decide) hp u_s (by rw [h2]; decide) (H _ _ (fun w => absurd w z_1) w_ag_put)
          · rw [if_neg hz]
            rw [show t_s M (tt_T M D) p x y (nI (k + 1), sf, wn, ak) = _ by unfold t_s; rw [if_neg n0, if_neg n1, if_pos h2, if_neg hz]] at H
            exact H _ _ (fun _ => rfl) w_ag_put
      have hs3 : 3 ≤ s := by omega
      refine w_st hS htk3 hp hso hs3 hs13 (fun h => hvn (Or.inl h)) ?_
      rw [w_be hp]
      have ne : ∀ j : Nat, j ≤ 13 → s ≠ j → ¬ M 17 p = nI j := fun j hj hn e => hn ((nI_eq (by omega) (by omega)).mp (hso.symm.trans e))
      have n0 : ¬ M 17 p = 0 := ne 0 (by omega) (by omega)
      have n1 : ¬ M 17 p = 1 := ne 1 (by omega) (by omega)
      have n2 : ¬ M 17 p = 2 := ne 2 (by omega) (by omega)
      generalize hA2 : w_sg (w_put A t (nI p) x y 0) t 1 = A2
      have a1 : A2.1 t = nI p := by rw [← hA2]; exact u_s
      have a2 : A2.2.1 t = x := by rw [← hA2]; exact u_s
      have a3 : A2.2.2.1 t = y := by rw [← hA2]; exact u_s
      have a4 : A2.2.2.2.1 t = 1 := by rw [← hA2]; exact u_s
      have aA : w_ag t A A2 := by rw [← hA2]; exact w_ag_tr w_ag_put w_ag_sg
      clear hA2
      -- an asking from this frame
      have call : ∀ (a x' y' : Int32) (S' : tS) (k1 : Nat) (g1 : Int32) (A3 : w5), m_cd n a → S'.1 = nI k1 → k + 1 ≤ k1 → k1 ≤ 100 → (∀ (g' : Int32) (A' : w5), ((tt_T M D a x' y' S').1 = 0 → g' = (tt_T M D a x' y' S').2.1) → w_ag (t + 1) A3 A' → w_Lh X F B (m_r M (tt_T M D a x' y' S').2.2 (tt_T M D a x' y' S').1 g' (nI (t + 1)) A')) → w_Lh X F B (m_push (m_r M S' 0 g1 (nI (t + 1)) A3) a x' y') :=
        fun a x' y' S' k1 g1 A3 c1 c2 c3 c4 c5 => ih a x' y' S' k1 (t + 1) g1 A3 c1 c2 (by omega) c4 (by omega) c5
      have vc : ∀ {a : Int32}, m_vc n a → m_cd n a := fun h => Or.inr (Or.inr (Or.inr h))
      -- one asking, told on as it is
      have one : ∀ (a x' y' : Int32) (S' : tS), m_cd n a → S'.1 = nI (k + 1) → s ≠ 5 → s ≠ 6 → s ≠ 7 → s ≠ 8 → s ≠ 9 → s ≠ 11 → s ≠ 12 → (∀ (g' : Int32) (A' : w5), ((tt_T M D a x' y' S').1 = 0 → g' = (tt_T M D a x' y' S').2.1) → w_ag t A A' → w_Lh X F B (m_r M (tt_T M D a x' y' S').2.2 (tt_T M D a x' y' S').1 g' (nI t) A')) → w_Lh X F B (m_push (m_r M S' 0 g (nI (t + 1)) A2) a x' y') := by
        intro a x' y' S' c1 c2 e5 e6 e7 e8 e9 e11 e12 HH
        refine call a x' y' S' (k + 1) g A2 c1 c2 (by omega) (by omega) (fun g' A' hg ag => ?_)
        have at' := ag t (by omega)
        have aA' : w_ag t A A' := w_ag_tr aA (w_ag_le ag (by omega))
        have b1 : A'.1 t = nI p := at'.1.trans a1
        refine w_ret1 hS htk3 hp b1 hso hs3 hs13 (sv := 1) (at'.2.2.2.1.trans a4) (by decide) _ hg (fun w => ne 5 (by omega) e5 w.1) (fun w => ne 6 (by omega) e6 w.1) (ne 7 (by omega) e7) (ne 8 (by omega) e8) (ne 9 (by omega) e9) (ne 11 (by omega) e11) (fun hz => ?_) (fun A'' ag2 hz => ?_)
        · exact w_fail hS (by omega) hz hp b1 (ne 12 (by omega) e12) (HH g' A' hg aA')
        · exact HH _ A'' (fun _ => rfl) (w_ag_tr aA' ag2)
      rcases (show s = 3 ∨ s = 4 ∨ s = 5 ∨ s = 6 ∨ s = 7 ∨ s = 8 ∨ s = 9 ∨ s = 10 ∨ s = 11 ∨ s = 12 ∨ s = 13 by omega) with rfl | rfl | rfl | rfl | rfl | rfl | rfl | rfl | rfl | rfl | rfl
      · have h3 : M 17 p = 3 := hso
        rw [if_pos h3]
        rw [show t_s M (tt_T M D) p x y (nI (k + 1), sf, wn, ak) = _ by unfold t_s; rw [if_neg n0, if_neg n1, if_neg n2, if_pos h3]] at H
        exact one _ _ _ (nI (k + 1), sf, wn, ak) (vc (hva (by omega) (by omega) (by omega))) rfl (by omega) (by omega) (by omega) (by omega) (by omega) (by omega) (by omega) H
      · have h4 : M 17 p = 4 := hso
        have n3 : ¬ M 17 p = 3 := ne 3 (by omega) (by omega)
        rw [if_neg n3, if_pos h4]
        rw [show t_s M (tt_T M D) p x y (nI (k + 1), sf, wn, ak) = _ by unfold t_s; rw [if_neg n0, if_neg n1, if_neg n2, if_neg n3, if_pos h4]] at H
        exact one _ _ _ (nI (k + 1), sf, wn, ak) (vc (hva (by omega) (by omega) (by omega))) rfl (by omega) (by omega) (by omega) (by omega) (by omega) (by omega) (by omega) H
      · have h5 : M 17 p = 5 := hso
        have n3 : ¬ M 17 p = 3 := ne 3 (by omega) (by omega)
        have n4 : ¬ M 17 p = 4 := ne 4 (by omega) (by omega)
        have n6 : ¬ M 17 p = 6 := ne 6 (by omega) (by omega)
        have n7 : ¬ M 17 p = 7 := ne 7 (by omega) (by omega)
        have n8 : ¬ M 17 p = 8 := ne 8 (by omega) (by omega)
        have n9 : ¬ M 17 p = 9 := ne 9 (by omega) (by omega)
        have n10 : ¬ M 17 p = 10 := ne 10 (by omega) (by omega)
        have n11 : ¬ M 17 p = 11 := ne 11 (by omega) (by omega)
        have n12 : ¬ M 17 p = 12 := ne 12 (by omega) (by omega)
        have n13 : ¬ M 17 p = 13 := ne 13 (by omega) (by omega)
        rw [if_neg n3, if_neg n4, if_neg n9, if_neg n10, if_neg n13]
        rw [show t_s M (tt_T M D) p x y (nI (k + 1), sf, wn, ak) = _ by unfold t_s; rw [if_neg n0, if_neg n1, if_neg n2, if_neg n3, if_neg n4, if_pos h5]] at H
        refine call (M 18 p) x y (nI (k + 1), sf, wn, ak) (k + 1) g A2 (vc (hva (by omega) (by omega) (by omega))) rfl (by omega) (by omega) (fun g' A' hg ag => ?_)
        obtain ⟨k1, kk1, kk2, kk3⟩ := tk_T (M := M) D (M 18 p) x y (nI (k + 1), sf, wn, ak) (k + 1) rfl (by omega)
        have at' := ag t (by omega)
        have aA' : w_ag t A A' := w_ag_tr aA (w_ag_le ag (by omega))
        have b1 : A'.1 t = nI p := at'.1.trans a1
        have b2 : A'.2.1 t = x := at'.2.1.trans a2
        have b3 : A'.2.2.1 t = y := at'.2.2.1.trans a3
        have b4 : A'.2.2.2.1 t = 1 := at'.2.2.2.1.trans a4
        by_cases hz : (tt_T M D (M 18 p) x y (nI (k + 1), sf, wn, ak)).1 = 0
        · by_cases hv : (tt_T M D (M 18 p) x y (nI (k + 1), sf, wn, ak)).2.1 = 0
          · rw [show t_over (tt_T M D) (M 18 p) (M 19 p) x y (nI (k + 1), sf, wn, ak) = _ from if_pos ⟨hz, hv⟩] at H
            rw [hz]
            refine w_on hS htk3 hp b1 hso hs3 hs13 (v := 0) b4 (by decide) (fun h => absurd h (by decide)) ?_
            rw [w_go hp (by omega), if_pos ⟨h5, (by show upd A'.2.2.2.1 t (1 + 1) t - 2 = 0; rw [u_s]; decide), (hg hz).trans hv⟩]
            rw [show (w_sg A' t (1 + 1)).2.1 t = x from b2, show (w_sg A' t (1 + 1)).2.2.1 t = y from b3]
            refine call (M 19 p) x y _ k1 g' (w_sg A' t (1 + 1)) (vc (hvb (Or.inl rfl))) kk3 (by omega) kk2 (fun g2 A4 hg2 ag2 => ?_)
            have at2 := ag2 t (by omega)
            have aA4 : w_ag t A A4 := w_ag_tr (w_ag_tr aA' w_ag_sg) (w_ag_le ag2 (by omega))
            have d1 : A4.1 t = nI p := at2.1.trans b1
            exact w_ret1 hS htk3 hp d1 hso hs3 hs13 (sv := 1 + 1) (at2.2.2.2.1.trans u_s) (by decide) _ hg2 (fun w => absurd w.2.1 (by decide)) (fun w => n6 w.1) n7 n8 n9 n11 (fun hz2 => w_fail hS (by omega) hz2 hp d1 n12 (H g2 A4 hg2 aA4)) (fun A5 ag5 hz2 => H _ A5 (fun _ => rfl) (w_ag_tr aA4 ag5))
          · rw [show t_over (tt_T M D) (M 18 p) (M 19 p) x y (nI (k + 1), sf, wn, ak) = _ from if_neg (fun w => hv w.2)] at H
            exact w_ret1 hS htk3 hp b1 hso hs3 hs13 (sv := 1) b4 (by decide) _ hg (fun w => hv ((hg hz).symm.trans w.2.2)) (fun w => n6 w.1) n7 n8 n9 n11 (fun hz2 => absurd hz hz2) (fun A5 ag5 hz2 => H _ A5 (fun _ => rfl) (w_ag_tr aA' ag5))
        · rw [show t_over (tt_T M D) (M 18 p) (M 19 p) x y (nI (k + 1), sf, wn, ak) = _ from if_neg (fun w => hz w.1)] at H
          exact w_fail hS (by omega) hz hp b1 n12 (H g' A' hg aA')
      · have h6 : M 17 p = 6 := hso
        have n3 : ¬ M 17 p = 3 := ne 3 (by omega) (by omega)
        have n4 : ¬ M 17 p = 4 := ne 4 (by omega) (by omega)
        have n5 : ¬ M 17 p = 5 := ne 5 (by omega) (by omega)
        have n7 : ¬ M 17 p = 7 := ne 7 (by omega) (by omega)
        have n8 : ¬ M 17 p = 8 := ne 8 (by omega) (by omega)
        have n9 : ¬ M 17 p = 9 := ne 9 (by omega) (by omega)
        have n10 : ¬ M 17 p = 10 := ne 10 (by omega) (by omega)
        have n11 : ¬ M 17 p = 11 := ne 11 (by omega) (by omega)
        have n12 : ¬ M 17 p = 12 := ne 12 (by omega) (by omega)
        have n13 : ¬ M 17 p = 13 := ne 13 (by omega) (by omega)
        rw [if_neg n3, if_neg n4, if_neg n9, if_neg n10, if_neg n13]
        rw [show t_s M (tt_T M D) p x y (nI (k + 1), sf, wn, ak) = _ by unfold t_s; rw [if_neg n0, if_neg n1, if_neg n2, if_neg n3, if_neg n4, if_neg n5, if_pos h6]] at H
        refine call (M 18 p) x y (nI (k + 1), sf, wn, ak) (k + 1) g A2 (vc (hva (by omega) (by omega) (by omega))) rfl (by omega) (by omega) (fun g' A' hg ag => ?_)
        obtain ⟨k1, kk1, kk2, kk3⟩ := tk_T (M := M) D (M 18 p) x y (nI (k + 1), sf, wn, ak) (k + 1) rfl (by omega)
        have at' := ag t (by omega)
        have aA' : w_ag t A A' := w_ag_tr aA (w_ag_le ag (by omega))
        have b1 : A'.1 t = nI p := at'.1.trans a1
        have b2 : A'.2.1 t = x := at'.2.1.trans a2
        have b3 : A'.2.2.1 t = y := at'.2.2.1.trans a3
        have b4 : A'.2.2.2.1 t = 1 := at'.2.2.2.1.trans a4
        by_cases hz : (tt_T M D (M 18 p) x y (nI (k + 1), sf, wn, ak)).1 = 0
        · rw [show t_where (tt_T M D) (M 18 p) (M 19 p) (M 20 p) x y (nI (k + 1), sf, wn, ak) = _ from if_pos hz] at H
          rw [hz]
          refine w_on hS htk3 hp b1 hso hs3 hs13 (v := 0) b4 (by decide) (fun h => absurd h (by decide)) ?_
          rw [w_go hp (by omega), if_neg (fun w => n5 w.1), if_pos ⟨h6, (by show upd A'.2.2.2.1 t (1 + 1) t - 2 = 0; rw [u_s]; decide)⟩]
          rw [show (w_sg A' t (1 + 1)).2.1 t = x from b2, show (w_sg A' t (1 + 1)).2.2.1 t = y from b3]
          rw [← hg hz] at H
          refine call _ x y _ k1 g' (w_sg A' t (1 + 1)) ?_ kk3 (by omega) kk2 (fun g2 A4 hg2 ag2 => ?_)
          · by_cases hl : g' ≤ 0
            · rw [if_pos hl]; exact vc (hvc rfl)
            · rw [if_neg hl]; exact vc (hvb (Or.inr (Or.inl rfl)))
          have at2 := ag2 t (by omega)
          have aA4 : w_ag t A A4 := w_ag_tr (w_ag_tr aA' w_ag_sg) (w_ag_le ag2 (by omega))
          have d1 : A4.1 t = nI p := at2.1.trans b1
          exact w_ret1 hS htk3 hp d1 hso hs3 hs13 (sv := 1 + 1) (at2.2.2.2.1.trans u_s) (by decide) _ hg2 (fun w => n5 w.1) (fun w => absurd w.2 (by decide)) n7 n8 n9 n11 (fun hz2 => w_fail hS (by omega) hz2 hp d1 n12 (H g2 A4 hg2 aA4)) (fun A5 ag5 hz2 => H _ A5 (fun _ => rfl) (w_ag_tr aA4 ag5))
        · rw [show t_where (tt_T M D) (M 18 p) (M 19 p) (M 20 p) x y (nI (k + 1), sf, wn, ak) = _ from if_neg hz] at H
          exact w_fail hS (by omega) hz hp b1 n12 (H g' A' hg aA')
      · have h7 : M 17 p = 7 := hso
        have n3 : ¬ M 17 p = 3 := ne 3 (by omega) (by omega)
        have n4 : ¬ M 17 p = 4 := ne 4 (by omega) (by omega)
        have n5 : ¬ M 17 p = 5 := ne 5 (by omega) (by omega)
        have n6 : ¬ M 17 p = 6 := ne 6 (by omega) (by omega)
        have n8 : ¬ M 17 p = 8 := ne 8 (by omega) (by omega)
        have n9 : ¬ M 17 p = 9 := ne 9 (by omega) (by omega)
        have n10 : ¬ M 17 p = 10 := ne 10 (by omega) (by omega)
        have n11 : ¬ M 17 p = 11 := ne 11 (by omega) (by omega)
        have n12 : ¬ M 17 p = 12 := ne 12 (by omega) (by omega)
        have n13 : ¬ M 17 p = 13 := ne 13 (by omega) (by omega)
        rw [if_neg n3, if_neg n4, if_neg n9, if_neg n10, if_neg n13]
        rw [show t_s M (tt_T M D) p x y (nI (k + 1), sf, wn, ak) = _ by unfold t_s; rw [if_neg n0, if_neg n1, if_neg n2, if_neg n3, if_neg n4, if_neg n5, if_neg n6, if_pos h7]] at H
        refine call (M 18 p) x y (nI (k + 1), sf, wn, ak) (k + 1) g A2 (vc (hva (by omega) (by omega) (by omega))) rfl (by omega) (by omega) (fun g' A' hg ag => ?_)
        have at' := ag t (by omega)
        have aA' : w_ag t A A' := w_ag_tr aA (w_ag_le ag (by omega))
        have b1 : A'.1 t = nI p := at'.1.trans a1
        have b2 : A'.2.1 t = x := at'.2.1.trans a2
        have b3 : A'.2.2.1 t = y := at'.2.2.1.trans a3
        have b4 : A'.2.2.2.1 t = 1 := at'.2.2.2.1.trans a4
        generalize tt_T M D (M 18 p) x y (nI (k + 1), sf, wn, ak) = r at hg H ⊢
        by_cases hz : r.1 = 0
        · have hg1 := hg hz
          rw [hz]
          refine w_on hS htk3 hp b1 hso hs3 hs13 (v := 0) b4 (by decide) (fun h => hvd (Or.inl h)) ?_
          rw [w_go hp (by omega), if_neg (fun w => n5 w.1), if_neg (fun w => n6 w.1), if_pos h7, w_tellsOf]
          by_cases hi : m_in g' 0 7 = 0
          · rw [if_pos hi]
            rw [show t_dyed (fun v => M 24 (8 * M 19 p + v).toNatClampNeg) r = (2, 0, r.2.2) by unfold t_dyed; rw [if_pos hz, if_pos (by rw [← hg1]; exact hi)]] at H
            exact w_fail hS (by omega) (by decide) hp (A := w_sg A' t (1 + 1)) b1 n12 (H g' (w_sg A' t (1 + 1)) (fun w => absurd w z_2) (w_ag_tr aA' w_ag_sg))
          · rw [if_neg hi]
            rw [show t_dyed (fun v => M 24 (8 * M 19 p + v).toNatClampNeg) r = (0, M 24 (8 * M 19 p + g').toNatClampNeg, r.2.2) by unfold t_dyed; rw [if_pos hz, if_neg (by rw [← hg1]; exact hi), ← hg1]] at H
            rw [show m_dyeAt M (M 19 p) g' = _ from if_neg hi, Int32.add_zero]
            exact H _ (w_sg A' t (1 + 1)) (fun _ => rfl) (w_ag_tr aA' w_ag_sg)
        · rw [show t_dyed (fun v => M 24 (8 * M 19 p + v).toNatClampNeg) r = r from if_neg hz] at H
          exact w_fail hS (by omega) hz hp b1 n12 (H g' A' hg aA')
      · have h8 : M 17 p = 8 := hso
        have n3 : ¬ M 17 p = 3 := ne 3 (by omega) (by omega)
        have n4 : ¬ M 17 p = 4 := ne 4 (by omega) (by omega)
        have n5 : ¬ M 17 p = 5 := ne 5 (by omega) (by omega)
        have n6 : ¬ M 17 p = 6 := ne 6 (by omega) (by omega)
        have n7 : ¬ M 17 p = 7 := ne 7 (by omega) (by omega)
        have n9 : ¬ M 17 p = 9 := ne 9 (by omega) (by omega)
        have n10 : ¬ M 17 p = 10 := ne 10 (by omega) (by omega)
        have n11 : ¬ M 17 p = 11 := ne 11 (by omega) (by omega)
        have n12 : ¬ M 17 p = 12 := ne 12 (by omega) (by omega)
        have n13 : ¬ M 17 p = 13 := ne 13 (by omega) (by omega)
        rw [if_neg n3, if_neg n4, if_neg n9, if_neg n10, if_neg n13]
        rw [show t_s M (tt_T M D) p x y (nI (k + 1), sf, wn, ak) = _ by unfold t_s; rw [if_neg n0, if_neg n1, if_neg n2, if_neg n3, if_neg n4, if_neg n5, if_neg n6, if_neg n7, if_pos h8]] at H
        refine call (M 18 p) x y (nI (k + 1), sf, wn, ak) (k + 1) g A2 (vc (hva (by omega) (by omega) (by omega))) rfl (by omega) (by omega) (fun g' A' hg ag => ?_)
        have at' := ag t (by omega)
        have aA' : w_ag t A A' := w_ag_tr aA (w_ag_le ag (by omega))
        have b1 : A'.1 t = nI p := at'.1.trans a1
        have b2 : A'.2.1 t = x := at'.2.1.trans a2
        have b3 : A'.2.2.1 t = y := at'.2.2.1.trans a3
        have b4 : A'.2.2.2.1 t = 1 := at'.2.2.2.1.trans a4
        generalize tt_T M D (M 18 p) x y (nI (k + 1), sf, wn, ak) = r at hg H ⊢
        by_cases hz : r.1 = 0
        · have hg1 := hg hz
          rw [hz]
          refine w_on hS htk3 hp b1 hso hs3 hs13 (v := 0) b4 (by decide) (fun h => absurd h (by decide)) ?_
          rw [w_go hp (by omega), if_neg (fun w => n5 w.1), if_neg (fun w => n6 w.1), if_neg n7, if_pos h8, w_tellsOf]
          by_cases hi : m_in g' 0 7 = 0
          · rw [if_pos hi]
            rw [show t_dyed (fun v => M 21 (8 * nI p + v).toNatClampNeg) r = (2, 0, r.2.2) by unfold t_dyed; rw [if_pos hz, if_pos (by rw [← hg1]; exact hi)]] at H
            exact w_fail hS (by omega) (by decide) hp (A := w_sg A' t (1 + 1)) b1 n12 (H g' (w_sg A' t (1 + 1)) (fun w => absurd w z_2) (w_ag_tr aA' w_ag_sg))
          · rw [if_neg hi]
            rw [show t_dyed (fun v => M 21 (8 * nI p + v).toNatClampNeg) r = (0, M 21 (8 * nI p + g').toNatClampNeg, r.2.2) by unfold t_dyed; rw [if_pos hz, if_neg (by rw [← hg1]; exact hi), ← hg1]] at H
            rw [if_neg hi, Int32.add_zero]
            exact H _ (w_sg A' t (1 + 1)) (fun _ => rfl) (w_ag_tr aA' w_ag_sg)
        · rw [show t_dyed (fun v => M 21 (8 * nI p + v).toNatClampNeg) r = r from if_neg hz] at H
          exact w_fail hS (by omega) hz hp b1 n12 (H g' A' hg aA')
      · have h9 : M 17 p = 9 := hso
        have n3 : ¬ M 17 p = 3 := ne 3 (by omega) (by omega)
        have n4 : ¬ M 17 p = 4 := ne 4 (by omega) (by omega)
        have n5 : ¬ M 17 p = 5 := ne 5 (by omega) (by omega)
        have n6 : ¬ M 17 p = 6 := ne 6 (by omega) (by omega)
        have n7 : ¬ M 17 p = 7 := ne 7 (by omega) (by omega)
        have n8 : ¬ M 17 p = 8 := ne 8 (by omega) (by omega)
        have n10 : ¬ M 17 p = 10 := ne 10 (by omega) (by omega)
        have n11 : ¬ M 17 p = 11 := ne 11 (by omega) (by omega)
        have n12 : ¬ M 17 p = 12 := ne 12 (by omega) (by omega)
        have n13 : ¬ M 17 p = 13 := ne 13 (by omega) (by omega)
        rw [if_neg n3, if_neg n4, if_pos h9]
        rw [show t_s M (tt_T M D) p x y (nI (k + 1), sf, wn, ak) = _ by unfold t_s; rw [if_neg n0, if_neg n1, if_neg n2, if_neg n3, if_neg n4, if_neg n5, if_neg n6, if_neg n7, if_neg n8, if_pos h9]] at H
        refine call _ x y (nI (k + 1), sf, wn, ak) (k + 1) g A2 ?_ rfl (by omega) (by omega) (fun g' A' hg ag => ?_)
        · obtain ⟨j, hj, he⟩ := hvn (Or.inl rfl)
          rw [he, show (nI j).toNatClampNeg = j from nI_clamp (by omega)]
          exact hM.2.2 j hj
        have at' := ag t (by omega)
        have aA' : w_ag t A A' := w_ag_tr aA (w_ag_le ag (by omega))
        have b1 : A'.1 t = nI p := at'.1.trans a1
        have b2 : A'.2.1 t = x := at'.2.1.trans a2
        have b3 : A'.2.2.1 t = y := at'.2.2.1.trans a3
        have b4 : A'.2.2.2.1 t = 1 := at'.2.2.2.1.trans a4
        generalize tt_T M D (M 25 (M 18 p).toNatClampNeg) x y (nI (k + 1), sf, wn, ak) = r at hg H ⊢
        by_cases hz : r.1 = 0
        · have hg1 := hg hz
          have H2 := H (g' + M 19 p) (w_sg A' t (1 + 1)) (fun _ => by rw [hg1]; rfl) (w_ag_tr aA' w_ag_sg)
          rw [show (t_named (M 19 p) r).1 = 0 from hz] at H2
          rw [hz]
          refine w_on hS htk3 hp b1 hso hs3 hs13 (v := 0) b4 (by decide) (fun h => absurd h (by decide)) ?_
          rw [w_go hp (by omega), if_neg (fun w => n5 w.1), if_neg (fun w => n6 w.1), if_neg n7, if_neg n8, if_pos h9, w_tells]
          exact H2
        · exact w_fail hS (by omega) hz hp b1 n12 (H g' A' (fun w => absurd w hz) aA')
      · have h10 : M 17 p = 10 := hso
        have n3 : ¬ M 17 p = 3 := ne 3 (by omega) (by omega)
        have n4 : ¬ M 17 p = 4 := ne 4 (by omega) (by omega)
        have n5 : ¬ M 17 p = 5 := ne 5 (by omega) (by omega)
        have n6 : ¬ M 17 p = 6 := ne 6 (by omega) (by omega)
        have n7 : ¬ M 17 p = 7 := ne 7 (by omega) (by omega)
        have n8 : ¬ M 17 p = 8 := ne 8 (by omega) (by omega)
        have n9 : ¬ M 17 p = 9 := ne 9 (by omega) (by omega)
        have n11 : ¬ M 17 p = 11 := ne 11 (by omega) (by omega)
        have n12 : ¬ M 17 p = 12 := ne 12 (by omega) (by omega)
        have n13 : ¬ M 17 p = 13 := ne 13 (by omega) (by omega)
        rw [if_neg n3, if_neg n4, if_neg n9, if_pos h10]
        rw [show t_s M (tt_T M D) p x y (nI (k + 1), sf, wn, ak) = _ by unfold t_s; rw [if_neg n0, if_neg n1, if_neg n2, if_neg n3, if_neg n4, if_neg n5, if_neg n6, if_neg n7, if_neg n8, if_neg n9, if_pos h10]] at H
        by_cases hw : ak p + 1 = M 19 p
        · rw [if_pos hw, w_tells]
          rw [show t_worn (tt_T M D) (M 18 p) (M 19 p) (M 20 p) p x y (nI (k + 1), sf, wn, ak) = _ from if_pos hw] at H
          exact H _ A2 (fun _ => rfl) aA
        · rw [if_neg hw]
          rw [show t_worn (tt_T M D) (M 18 p) (M 19 p) (M 20 p) p x y (nI (k + 1), sf, wn, ak) = _ from if_neg hw] at H
          exact one _ _ _ (nI (k + 1), sf, wn, upd ak p (ak p + 1)) (vc (hva (by omega) (by omega) (by omega))) rfl (by omega) (by omega) (by omega) (by omega) (by omega) (by omega) (by omega) H
      · have h11 : M 17 p = 11 := hso
        have n3 : ¬ M 17 p = 3 := ne 3 (by omega) (by omega)
        have n4 : ¬ M 17 p = 4 := ne 4 (by omega) (by omega)
        have n5 : ¬ M 17 p = 5 := ne 5 (by omega) (by omega)
        have n6 : ¬ M 17 p = 6 := ne 6 (by omega) (by omega)
        have n7 : ¬ M 17 p = 7 := ne 7 (by omega) (by omega)
        have n8 : ¬ M 17 p = 8 := ne 8 (by omega) (by omega)
        have n9 : ¬ M 17 p = 9 := ne 9 (by omega) (by omega)
        have n10 : ¬ M 17 p = 10 := ne 10 (by omega) (by omega)
        have n12 : ¬ M 17 p = 12 := ne 12 (by omega) (by omega)
        have n13 : ¬ M 17 p = 13 := ne 13 (by omega) (by omega)
        rw [if_neg n3, if_neg n4, if_neg n9, if_neg n10, if_neg n13]
        rw [show t_s M (tt_T M D) p x y (nI (k + 1), sf, wn, ak) = _ by unfold t_s; rw [if_neg n0, if_neg n1, if_neg n2, if_neg n3, if_neg n4, if_neg n5, if_neg n6, if_neg n7, if_neg n8, if_neg n9, if_neg n10, if_pos h11]] at H
        refine call (M 18 p) x y (nI (k + 1), sf, wn, ak) (k + 1) g A2 (vc (hva (by omega) (by omega) (by omega))) rfl (by omega) (by omega) (fun g' A' hg ag => ?_)
        obtain ⟨k1, kk1, kk2, kk3⟩ := tk_T (M := M) D (M 18 p) x y (nI (k + 1), sf, wn, ak) (k + 1) rfl (by omega)
        have at' := ag t (by omega)
        have aA' : w_ag t A A' := w_ag_tr aA (w_ag_le ag (by omega))
        have b1 : A'.1 t = nI p := at'.1.trans a1
        have b2 : A'.2.1 t = x := at'.2.1.trans a2
        have b3 : A'.2.2.1 t = y := at'.2.2.1.trans a3
        have b4 : A'.2.2.2.1 t = 1 := at'.2.2.2.1.trans a4
        by_cases hz : (tt_T M D (M 18 p) x y (nI (k + 1), sf, wn, ak)).1 = 0
        · rw [show t_both (tt_T M D) (M 18 p) (M 19 p) (M 20 p) x y (nI (k + 1), sf, wn, ak) = _ from if_pos hz] at H
          have hg1 := hg hz
          rw [hz]
          refine w_on hS htk3 hp b1 hso hs3 hs13 (v := 0) b4 (by decide) (fun h => absurd h (by decide)) ?_
          rw [w_go hp (by omega), if_neg (fun w => n5 w.1), if_neg (fun w => n6 w.1), if_neg n7, if_neg n8, if_neg n9, if_pos ⟨h11, (by show upd A'.2.2.2.1 t (1 + 1) t - 2 = 0; rw [u_s]; decide)⟩]
          rw [show (w_sg A' t (1 + 1)).2.1 t = x from b2, show (w_sg A' t (1 + 1)).2.2.1 t = y from b3]
          refine call (M 19 p) x y _ k1 g' (w_fs (w_sg A' t (1 + 1)) t g') (vc (hvb (Or.inr (Or.inr rfl)))) kk3 (by omega) kk2 (fun g2 A4 hg2 ag2 => ?_)
          have at2 := ag2 t (by omega)
          have aA4 : w_ag t A A4 := w_ag_tr (w_ag_tr (w_ag_tr aA' w_ag_sg) w_ag_fs) (w_ag_le ag2 (by omega))
          have d1 : A4.1 t = nI p := at2.1.trans b1
          have d4 : A4.2.2.2.1 t = 1 + 1 := at2.2.2.2.1.trans u_s
          have d5 : A4.2.2.2.2 t = g' := at2.2.2.2.2.trans u_s
          rw [← hg1] at H
          generalize tt_T M D (M 19 p) x y (tt_T M D (M 18 p) x y (nI (k + 1), sf, wn, ak)).2.2 = r2 at hg2 H ⊢
          by_cases hz2 : r2.1 = 0
          · have H2 := H (g' + M 20 p * g2) (w_sg A4 t (1 + 1 + 1)) (fun _ => by rw [hg2 hz2]) (w_ag_tr aA4 w_ag_sg)
            rw [show ((r2.1, g' + M 20 p * r2.2.1, r2.2.2) : tR).1 = 0 from hz2] at H2
            rw [hz2]
            refine w_on hS htk3 hp d1 hso hs3 hs13 (v := 0) d4 (by decide) (fun h => absurd h (by decide)) ?_
            rw [w_go hp (by omega), if_neg (fun w => n5 w.1), if_neg (fun w => n6 w.1), if_neg n7, if_neg n8, if_neg n9, if_neg (fun w => absurd (show (1 : Int32) + 1 + 1 - 2 = 0 by have := w.2; rw [show (w_sg A4 t (1 + 1 + 1)).2.2.2.1 t = 1 + 1 + 1 from u_s] at this; exact this) (by decide)), if_pos h11, w_tells]
            rw [show (w_sg A4 t (1 + 1 + 1)).2.2.2.2 t = g' from d5]
            exact H2
          · exact w_fail hS (by omega) hz2 hp d1 n12 (H g2 A4 (fun w => absurd w hz2) aA4)
        · rw [show t_both (tt_T M D) (M 18 p) (M 19 p) (M 20 p) x y (nI (k + 1), sf, wn, ak) = _ from if_neg hz] at H
          exact w_fail hS (by omega) hz hp b1 n12 (H g' A' hg aA')
      · have h12 : M 17 p = 12 := hso
        have n3 : ¬ M 17 p = 3 := ne 3 (by omega) (by omega)
        have n4 : ¬ M 17 p = 4 := ne 4 (by omega) (by omega)
        have n5 : ¬ M 17 p = 5 := ne 5 (by omega) (by omega)
        have n6 : ¬ M 17 p = 6 := ne 6 (by omega) (by omega)
        have n7 : ¬ M 17 p = 7 := ne 7 (by omega) (by omega)
        have n8 : ¬ M 17 p = 8 := ne 8 (by omega) (by omega)
        have n9 : ¬ M 17 p = 9 := ne 9 (by omega) (by omega)
        have n10 : ¬ M 17 p = 10 := ne 10 (by omega) (by omega)
        have n11 : ¬ M 17 p = 11 := ne 11 (by omega) (by omega)
        have n13 : ¬ M 17 p = 13 := ne 13 (by omega) (by omega)
        rw [if_neg n3, if_neg n4, if_neg n9, if_neg n10, if_neg n13]
        rw [show t_s M (tt_T M D) p x y (nI (k + 1), sf, wn, ak) = _ by unfold t_s; rw [if_neg n0, if_neg n1, if_neg n2, if_neg n3, if_neg n4, if_neg n5, if_neg n6, if_neg n7, if_neg n8, if_neg n9, if_neg n10, if_neg n11, if_pos h12]] at H
        refine call (M 18 p) x y (nI (k + 1), sf, wn, ak) (k + 1) g A2 (vc (hva (by omega) (by omega) (by omega))) rfl (by omega) (by omega) (fun g' A' hg ag => ?_)
        have at' := ag t (by omega)
        have aA' : w_ag t A A' := w_ag_tr aA (w_ag_le ag (by omega))
        have b1 : A'.1 t = nI p := at'.1.trans a1
        have b2 : A'.2.1 t = x := at'.2.1.trans a2
        have b3 : A'.2.2.1 t = y := at'.2.2.1.trans a3
        have b4 : A'.2.2.2.1 t = 1 := at'.2.2.2.1.trans a4
        generalize tt_T M D (M 18 p) x y (nI (k + 1), sf, wn, ak) = r at hg H ⊢
        refine w_ret1 hS htk3 hp b1 hso hs3 hs13 (sv := 1) b4 (by decide) r hg (fun w => n5 w.1) (fun w => n6 w.1) n7 n8 n9 n11 (fun hz => ?_) (fun A5 ag5 hz => ?_)
        · refine w_safe hS (by omega) hz hp b1 h12 ?_
          by_cases hc : ¬ r.1 = 0 ∧ ¬ r.1 = 4 ∧ (M 19 p = 0 ∨ M 19 p = r.1) ∧ ¬ 20 ≤ r.2.2.2.1
          · rw [if_pos hc]
            rw [show t_safe (M 19 p) (M 20 p) r = _ from if_pos hc] at H
            exact H _ A' (fun _ => rfl) aA'
          · rw [if_neg hc]
            rw [show t_safe (M 19 p) (M 20 p) r = _ from if_neg hc] at H
            exact H g' A' hg aA'
        · rw [show t_safe (M 19 p) (M 20 p) r = _ from if_neg (fun w => w.1 hz)] at H
          exact H _ A5 (fun _ => rfl) (w_ag_tr aA' ag5)
      · have h13 : M 17 p = 13 := hso
        have n3 : ¬ M 17 p = 3 := ne 3 (by omega) (by omega)
        have n4 : ¬ M 17 p = 4 := ne 4 (by omega) (by omega)
        have n5 : ¬ M 17 p = 5 := ne 5 (by omega) (by omega)
        have n6 : ¬ M 17 p = 6 := ne 6 (by omega) (by omega)
        have n7 : ¬ M 17 p = 7 := ne 7 (by omega) (by omega)
        have n8 : ¬ M 17 p = 8 := ne 8 (by omega) (by omega)
        have n9 : ¬ M 17 p = 9 := ne 9 (by omega) (by omega)
        have n10 : ¬ M 17 p = 10 := ne 10 (by omega) (by omega)
        have n11 : ¬ M 17 p = 11 := ne 11 (by omega) (by omega)
        have n12 : ¬ M 17 p = 12 := ne 12 (by omega) (by omega)
        rw [if_neg n3, if_neg n4, if_neg n9, if_neg n10, if_pos h13]
        rw [show t_s M (tt_T M D) p x y (nI (k + 1), sf, wn, ak) = _ by unfold t_s; rw [if_neg n0, if_neg n1, if_neg n2, if_neg n3, if_neg n4, if_neg n5, if_neg n6, if_neg n7, if_neg n8, if_neg n9, if_neg n10, if_neg n11, if_neg n12]] at H
        exact one _ _ _ (nI (k + 1), sf, wn, ak) (hvo rfl) rfl (by omega) (by omega) (by omega) (by omega) (by omega) (by omega) (by omega) H
end WQ
end
section
/-! ===== the reference's public methods (but pattern and the loops over the cloth) ===== -/
theorem tt_congr {M M' : Nat → Nat → Int32} (h17 : M 17 = M' 17) (h18 : M 18 = M' 18) (h19 : M 19 = M' 19) (h20 : M 20 = M' 20) (h21 : M 21 = M' 21) (h22 : M 22 = M' 22) (h24 : M 24 = M' 24) (h25 : M 25 = M' 25) : ∀ D, tt_T M D = tt_T M' D := by
  intro D
  induction D with
  | zero => rfl
  | succ D ih =>
    funext c x y s
    show (if 100 ≤ s.1 then ((4, 0, s) : tR) else t_b M (tt_T M D) c x y (s.1 + 1, s.2)) = (if 100 ≤ s.1 then ((4, 0, s) : tR) else t_b M' (tt_T M' D) c x y (s.1 + 1, s.2))
    rw [ih]
    unfold t_b t_s
    rw [h17, h18, h19, h20, h21, h22, h24, h25]
def sp_X3_work : aP := fun as σ K => ∃ I F B n E c x y, σ = a_mk I F B ∧ as = [.inr (some 16), .inl c, .inl x, .inl y] ∧ 101 ≤ E ∧ m_D I n ∧ m_cd n c ∧ ∀ (r : tR), r = tt_T I E c x y (0, I 16 12, I 16 11, I 23) → ∀ (g' : Int32) (A' : w5), (r.1 = 0 → g' = r.2.1) → K none (a_mk (m_r I r.2.2 r.1 g' 0 A') F B)
theorem rc_X3_work : ∀ as σ K, sp_X3_work as σ K → ∃ h As, as = .inr (some h) :: As ∧ a_is σ h 3 25 = true := by
  rintro as σ K ⟨I, F, B, n, E, c, x, y, rfl, rfl, -⟩
  exact ⟨16, _, rfl, rfl⟩
theorem w_e0 (I : Nat → Nat → Int32) : a_w (a_w (a_w (a_w I 16 19 0) 16 20 0) 16 13 0) 16 21 0 = m_r I (0, I 16 12, I 16 11, I 23) 0 0 (nI 0) (I 30, I 31, I 32, I 33, I 34) :=
  (congrArg (fun J => a_w (a_w (a_w (a_w J 16 19 0) 16 20 0) 16 13 0) 16 21 0) (mp_self I).symm).trans (by rw [mp_19, mp_20, mp_13, mp_21]; rfl)
set_option maxRecDepth 20000 in
theorem con_X3_work {l : Launch} {D : va_G} {G : aG} {N0 : Nat} : a_Con l D G N0 yX3_work cX3_work 6 none (a_rm 4 0 0) sp_X3_work := by
  refine a_con (by decide) (fun as σ K h => by obtain ⟨I, F, B, n, E, c, x, y, rfl, rfl, -⟩ := h; exact (by decide : 4 ≤ 6)) ?_
  intro X as σ K h C Y M _
  obtain ⟨I, F, B, n, E, c, x, y, rfl, rfl, hE, hD, hc, hK⟩ := h
  have hS := S_X3_work C Y M
  refine a_wps hS (inv := w_inv X) w_invh 60 _ _ _ _ _ _ ?_
  refine ⟨_, F, B, c, x, y, rfl, rfl, fun _ _ => (vp_in_nI (n := 0) (by decide) (by decide) : vp_in (nI 0) 104), ?_⟩
  have h := w_RL (X := X) (F := F) (B := B) hS hD E c x y (0, I 16 12, I 16 11, I 23) 0 0 0 (I 30, I 31, I 32, I 33, I 34) hc rfl (Nat.le_refl _) (by omega) (by omega) (fun g' A' hg _ => w_exit hS rfl (hK _ rfl g' A' hg))
  rw [← w_e0 I] at h
  exact h c x y none none
def m_wh (f : Int32) : Int32 := if f = 0 then 0 else -10 - f
def m_an (r : tR) : Int32 := if r.1 = 0 then r.2.1 else 0
def sp_X3_ask : aP := fun as σ K => ∃ I F B n E p x y, σ = a_mk I F B ∧ as = [.inr (some 16), .inl p, .inl x, .inl y] ∧ 101 ≤ E ∧ m_D I n ∧ (¬ m_in p 0 (I 16 0 - 1) = 0 → m_cd n p) ∧
  (m_in p 0 (I 16 0 - 1) = 0 → K (some (.inl 0)) (a_mk (a_w I 16 10 (-3)) F B)) ∧
  (¬ m_in p 0 (I 16 0 - 1) = 0 → ∀ (r : tR), r = tt_T I E p x y (0, 0, I 16 11, I 23) → ∀ (g' : Int32) (A' : w5), K (some (.inl (m_an r))) (a_mk (a_w (m_r (a_w (a_w I 16 10 0) 16 12 0) r.2.2 r.1 g' 0 A') 16 10 (m_wh r.1)) F B))
theorem rc_X3_ask : ∀ as σ K, sp_X3_ask as σ K → ∃ h As, as = .inr (some h) :: As ∧ a_is σ h 3 25 = true := by
  rintro as σ K ⟨I, F, B, n, E, c, x, y, rfl, rfl, -⟩
  exact ⟨16, _, rfl, rfl⟩
def P_X3_ask (K : aK) (bc bs : Nat) : List (Nat × aT) := [(0, t_ald 0 1),
  (1, t_ald 0 2),
  (2, t_ild 1 3),
  (3, t_call 2 0 0 bc bs sp_X3_isPattern 6),
  (6, t_if (fun x => x = 0) 13 9),
  (9, t_ic 0 10),
  (10, t_goto 15),
  (13, t_ic (-3) 15),
  (15, t_puti 3 25 10 18),
  (18, t_ald 0 19),
  (19, t_geti 3 25 10 22),
  (22, t_if (fun x => x = 0) 27 25),
  (25, t_ic 0 26),
  (26, t_iret K bc bs),
  (27, t_ald 0 28),
  (28, t_ic 0 29),
  (29, t_puti 3 25 12 32),
  (32, t_ald 0 33),
  (33, t_ild 1 34),
  (34, t_ild 2 35),
  (35, t_ild 3 36),
  (36, t_call 4 0 0 bc bs sp_X3_work 39),
  (39, t_ald 0 40),
  (40, t_ald 0 41),
  (41, t_geti 3 25 20 44),
  (44, t_if (fun x => x = 0) 47 51),
  (47, t_ic 0 48),
  (48, t_goto 58),
  (51, t_ic (-10) 53),
  (53, t_ald 0 54),
  (54, t_geti 3 25 20 57),
  (57, t_sub 58),
  (58, t_puti 3 25 10 61),
  (61, t_ald 0 62),
  (62, t_geti 3 25 20 65),
  (65, t_if (fun x => x = 0) 68 75),
  (68, t_ald 0 69),
  (69, t_geti 3 25 21 72),
  (72, t_goto 76),
  (75, t_ic 0 76),
  (76, t_iret K bc bs)]
set_option maxRecDepth 100000 in
theorem S_X3_ask {X : a_X} {K : aK} {l : Launch} {D : va_G} {G : aG} {N0 : Nat} (C : a_C X cX3_ask (some .int) RX3) (Y : a_Y X l (a_rm 5 0 0) D G N0) (M : a_mq X K (a_rm 5 0 0).cells (a_rm 5 0 0).slots) : ∀ x ∈ P_X3_ask K 0 0, a_Sd X x.1 x.2 := by
  unfold P_X3_ask
  refine List.forall_mem_cons.mpr ⟨s_aldn C dX3_ask_0 rfl, ?_⟩
  refine List.forall_mem_cons.mpr ⟨s_aldn C dX3_ask_1 rfl, ?_⟩
  refine List.forall_mem_cons.mpr ⟨s_ildn C dX3_ask_2 rfl, ?_⟩
  refine List.forall_mem_cons.mpr ⟨s_callV (rm := (a_rm 2 0 0)) (n := 1) C Y (ci := 3) rfl con_X3_isPattern rc_X3_isPattern co_X3_isPattern ml_X3_66 im_X3_isPattern se_X3_isPattern ii_X3 (by decide +kernel) ⟨by decide, by decide⟩ ⟨rfl, rfl⟩ dX3_ask_3, ?_⟩
  refine List.forall_mem_cons.mpr ⟨s_if_eq C dX3_ask_6 (by decide), ?_⟩
  refine List.forall_mem_cons.mpr ⟨s_ic C dX3_ask_9 (by decide), ?_⟩
  refine List.forall_mem_cons.mpr ⟨s_goto C dX3_ask_10 (by decide), ?_⟩
  refine List.forall_mem_cons.mpr ⟨s_bi C dX3_ask_13 (by decide), ?_⟩
  refine List.forall_mem_cons.mpr ⟨s_puti C tyX3 tyX3_ok nmX3 rfl in_X3 (by decide) lk_X3_63 rfl (Or.inl rfl) rfl dX3_ask_15, ?_⟩
  refine List.forall_mem_cons.mpr ⟨s_aldn C dX3_ask_18 rfl, ?_⟩
  refine List.forall_mem_cons.mpr ⟨s_geti C rfl in_X3 (by decide) lk_X3_63 rfl dX3_ask_19, ?_⟩
  refine List.forall_mem_cons.mpr ⟨s_if_eq C dX3_ask_22 (by decide), ?_⟩
  refine List.forall_mem_cons.mpr ⟨s_ic C dX3_ask_25 (by decide), ?_⟩
  refine List.forall_mem_cons.mpr ⟨s_iret C M dX3_ask_26, ?_⟩
  refine List.forall_mem_cons.mpr ⟨s_aldn C dX3_ask_27 rfl, ?_⟩
  refine List.forall_mem_cons.mpr ⟨s_ic C dX3_ask_28 (by decide), ?_⟩
  refine List.forall_mem_cons.mpr ⟨s_puti C tyX3 tyX3_ok nmX3 rfl in_X3 (by decide) lk_X3_110 rfl (Or.inl rfl) rfl dX3_ask_29, ?_⟩
  refine List.forall_mem_cons.mpr ⟨s_aldn C dX3_ask_32 rfl, ?_⟩
  refine List.forall_mem_cons.mpr ⟨s_ildn C dX3_ask_33 rfl, ?_⟩
  refine List.forall_mem_cons.mpr ⟨s_ildn C dX3_ask_34 rfl, ?_⟩
  refine List.forall_mem_cons.mpr ⟨s_ildn C dX3_ask_35 rfl, ?_⟩
  refine List.forall_mem_cons.mpr ⟨s_callV (rm := (a_rm 4 0 0)) (n := 3) C Y (ci := 3) rfl con_X3_work rc_X3_work co_X3_work ml_X3_126 im_X3_work se_X3_work ii_X3 (by decide +kernel) ⟨by decide, by decide⟩ ⟨rfl, rfl⟩ dX3_ask_36, ?_⟩
  refine List.forall_mem_cons.mpr ⟨s_aldn C dX3_ask_39 rfl, ?_⟩
  refine List.forall_mem_cons.mpr ⟨s_aldn C dX3_ask_40 rfl, ?_⟩
  refine List.forall_mem_cons.mpr ⟨s_geti C rfl in_X3 (by decide) lk_X3_77 rfl dX3_ask_41, ?_⟩
  refine List.forall_mem_cons.mpr ⟨s_if_ne C dX3_ask_44 (by decide), ?_⟩
  refine List.forall_mem_cons.mpr ⟨s_ic C dX3_ask_47 (by decide), ?_⟩
  refine List.forall_mem_cons.mpr ⟨s_goto C dX3_ask_48 (by decide), ?_⟩
  refine List.forall_mem_cons.mpr ⟨s_bi C dX3_ask_51 (by decide), ?_⟩
  refine List.forall_mem_cons.mpr ⟨s_aldn C dX3_ask_53 rfl, ?_⟩
  refine List.forall_mem_cons.mpr ⟨s_geti C rfl in_X3 (by decide) lk_X3_77 rfl dX3_ask_54, ?_⟩
  refine List.forall_mem_cons.mpr ⟨s_sub C dX3_ask_57, ?_⟩
  refine List.forall_mem_cons.mpr ⟨s_puti C tyX3 tyX3_ok nmX3 rfl in_X3 (by decide) lk_X3_63 rfl (Or.inl rfl) rfl dX3_ask_58, ?_⟩
  refine List.forall_mem_cons.mpr ⟨s_aldn C dX3_ask_61 rfl, ?_⟩
  refine List.forall_mem_cons.mpr ⟨s_geti C rfl in_X3 (by decide) lk_X3_77 rfl dX3_ask_62, ?_⟩
  refine List.forall_mem_cons.mpr ⟨s_if_ne C dX3_ask_65 (by decide), ?_⟩
  refine List.forall_mem_cons.mpr ⟨s_aldn C dX3_ask_68 rfl, ?_⟩
  refine List.forall_mem_cons.mpr ⟨s_geti C rfl in_X3 (by decide) lk_X3_83 rfl dX3_ask_69, ?_⟩
  refine List.forall_mem_cons.mpr ⟨s_goto C dX3_ask_72 (by decide), ?_⟩
  refine List.forall_mem_cons.mpr ⟨s_ic C dX3_ask_75 (by decide), ?_⟩
  refine List.forall_mem_cons.mpr ⟨s_iret C M dX3_ask_76, ?_⟩
  exact fun _ h => absurd h List.not_mem_nil
set_option maxRecDepth 20000 in
theorem con_X3_ask {l : Launch} {D : va_G} {G : aG} {N0 : Nat} : a_Con l D G N0 yX3_ask cX3_ask 4 (some .int) (a_rm 5 0 0) sp_X3_ask := by
  refine a_con (by decide) (fun as σ K h => by obtain ⟨I, F, B, n, E, c, x, y, rfl, rfl, -⟩ := h; exact (by decide : 4 ≤ 4)) ?_
  intro X as σ K h C Y M _
  obtain ⟨I, F, B, n, E, p, x, y, rfl, rfl, hE, hD, hc, hK1, hK2⟩ := h
  refine a_wps (S_X3_ask C Y M) (inv := a_ni) a_nih 60 _ _ _ _ _ _ ?_
  refine ⟨I, F, B, p, rfl, rfl, fun h1 => ?_, fun h1 => ?_⟩
  · exact ⟨fun w => absurd w (show ¬ (-3 : Int32) = 0 by decide), fun _ => hK1 h1⟩
  · have hK := hK2 h1
    refine ⟨fun _ => ⟨_, F, B, n, E, p, x, y, rfl, rfl, hE, hD, hc h1, fun r hr g' A' hg => ?_⟩, fun w => absurd (rfl : (0 : Int32) = 0) w⟩
    have hr2 : r = tt_T I E p x y (0, 0, I 16 11, I 23) := by
      rw [hr]
      exact congrFun (congrFun (congrFun (congrFun (tt_congr (M := (a_uI (a_uI (a_mk I F B) 16 10 0) 16 12 0).1) (M' := I) rfl rfl rfl rfl rfl rfl rfl rfl E) p) x) y) (0, 0, I 16 11, I 23)
    have hK := hK r hr2 g' A'
    clear hr hr2
    by_cases hz : r.1 = 0
    · rw [show m_an r = _ from if_pos hz, show m_wh r.1 = _ from if_pos hz, ← hg hz] at hK
      exact ⟨fun _ => ⟨fun _ => hK, fun w => absurd hz w⟩, fun w => absurd hz w⟩
    · rw [show m_an r = _ from if_neg hz, show m_wh r.1 = _ from if_neg hz] at hK
      exact ⟨fun w => absurd w hz, fun _ => ⟨fun w => absurd w hz, fun _ => hK⟩⟩
def sp_X3_dye : aP := fun as σ K => ∃ I F B d i v, σ = a_mk I F B ∧ as = [.inr (some 16), .inl d, .inl i, .inl v] ∧
  ((m_in d 0 3 = 0 ∨ m_in i 0 7 = 0) → K (some (.inl 0)) (a_mk (a_w I 16 10 (-3)) F B)) ∧ (¬ m_in d 0 3 = 0 → ¬ m_in i 0 7 = 0 → K (some (.inl (I 24 (8 * d + i).toNatClampNeg))) (a_mk (a_w (a_w I 16 10 0) 24 (8 * d + i).toNatClampNeg v) F B))
theorem rc_X3_dye : ∀ as σ K, sp_X3_dye as σ K → ∃ h As, as = .inr (some h) :: As ∧ a_is σ h 3 25 = true := by
  rintro as σ K ⟨I, F, B, c, x, y, rfl, rfl, -⟩
  exact ⟨16, _, rfl, rfl⟩
def P_X3_dye (K : aK) (bc bs : Nat) : List (Nat × aT) := [(0, t_ald 0 1),
  (1, t_ild 1 2),
  (2, t_ic 0 3),
  (3, t_ic 3 4),
  (4, t_call 3 0 0 bc bs sp_X3_in 7),
  (7, t_if (fun x => x = 0) 24 10),
  (10, t_ild 2 11),
  (11, t_ic 0 12),
  (12, t_ic 7 14),
  (14, t_call 3 0 0 bc bs sp_X3_in 17),
  (17, t_if (fun x => x = 0) 24 20),
  (20, t_ic 0 21),
  (21, t_goto 26),
  (24, t_ic (-3) 26),
  (26, t_puti 3 25 10 29),
  (29, t_ald 0 30),
  (30, t_geti 3 25 10 33),
  (33, t_if (fun x => x = 0) 38 36),
  (36, t_ic 0 37),
  (37, t_iret K bc bs),
  (38, t_ald 0 39),
  (39, t_getr 3 25 8 42),
  (42, t_ic 8 44),
  (44, t_ild 1 45),
  (45, t_mul 46),
  (46, t_ild 2 47),
  (47, t_add 48),
  (48, t_iald 49),
  (49, t_ist 4 51),
  (51, t_ald 0 52),
  (52, t_getr 3 25 8 55),
  (55, t_ic 8 57),
  (57, t_ild 1 58),
  (58, t_mul 59),
  (59, t_ild 2 60),
  (60, t_add 61),
  (61, t_ild 3 62),
  (62, t_iast 63),
  (63, t_ild 4 65),
  (65, t_iret K bc bs)]
set_option maxRecDepth 100000 in
theorem S_X3_dye {X : a_X} {K : aK} {l : Launch} {D : va_G} {G : aG} {N0 : Nat} (C : a_C X cX3_dye (some .int) RX3) (Y : a_Y X l (a_rm 2 0 0) D G N0) (M : a_mq X K (a_rm 2 0 0).cells (a_rm 2 0 0).slots) : ∀ x ∈ P_X3_dye K 0 0, a_Sd X x.1 x.2 := by
  unfold P_X3_dye
  refine List.forall_mem_cons.mpr ⟨s_aldn C dX3_dye_0 rfl, ?_⟩
  refine List.forall_mem_cons.mpr ⟨s_ildn C dX3_dye_1 rfl, ?_⟩
  refine List.forall_mem_cons.mpr ⟨s_ic C dX3_dye_2 (by decide), ?_⟩
  refine List.forall_mem_cons.mpr ⟨s_ic C dX3_dye_3 (by decide), ?_⟩
  refine List.forall_mem_cons.mpr ⟨s_callS (rm := (a_rm 1 0 0)) C Y con_X3_in co_X3_in ml_X3_59 st_X3_in ii_X3 (by decide +kernel) ⟨by decide, by decide⟩ ⟨rfl, rfl⟩ dX3_dye_4, ?_⟩
  refine List.forall_mem_cons.mpr ⟨s_if_eq C dX3_dye_7 (by decide), ?_⟩
  refine List.forall_mem_cons.mpr ⟨s_ildn C dX3_dye_10 rfl, ?_⟩
  refine List.forall_mem_cons.mpr ⟨s_ic C dX3_dye_11 (by decide), ?_⟩
  refine List.forall_mem_cons.mpr ⟨s_bi C dX3_dye_12 (by decide), ?_⟩
  refine List.forall_mem_cons.mpr ⟨s_callS (rm := (a_rm 1 0 0)) C Y con_X3_in co_X3_in ml_X3_59 st_X3_in ii_X3 (by decide +kernel) ⟨by decide, by decide⟩ ⟨rfl, rfl⟩ dX3_dye_14, ?_⟩
  refine List.forall_mem_cons.mpr ⟨s_if_eq C dX3_dye_17 (by decide), ?_⟩
  refine List.forall_mem_cons.mpr ⟨s_ic C dX3_dye_20 (by decide), ?_⟩
  refine List.forall_mem_cons.mpr ⟨s_goto C dX3_dye_21 (by decide), ?_⟩
  refine List.forall_mem_cons.mpr ⟨s_bi C dX3_dye_24 (by decide), ?_⟩
  refine List.forall_mem_cons.mpr ⟨s_puti C tyX3 tyX3_ok nmX3 rfl in_X3 (by decide) lk_X3_63 rfl (Or.inl rfl) rfl dX3_dye_26, ?_⟩
  refine List.forall_mem_cons.mpr ⟨s_aldn C dX3_dye_29 rfl, ?_⟩
  refine List.forall_mem_cons.mpr ⟨s_geti C rfl in_X3 (by decide) lk_X3_63 rfl dX3_dye_30, ?_⟩
  refine List.forall_mem_cons.mpr ⟨s_if_eq C dX3_dye_33 (by decide), ?_⟩
  refine List.forall_mem_cons.mpr ⟨s_ic C dX3_dye_36 (by decide), ?_⟩
  refine List.forall_mem_cons.mpr ⟨s_iret C M dX3_dye_37, ?_⟩
  refine List.forall_mem_cons.mpr ⟨s_aldn C dX3_dye_38 rfl, ?_⟩
  refine List.forall_mem_cons.mpr ⟨s_getr C rfl in_X3 (by decide) lk_X3_31 rfl dX3_dye_39, ?_⟩
  refine List.forall_mem_cons.mpr ⟨s_bi C dX3_dye_42 (by decide), ?_⟩
  refine List.forall_mem_cons.mpr ⟨s_ildn C dX3_dye_44 rfl, ?_⟩
  refine List.forall_mem_cons.mpr ⟨s_mul C dX3_dye_45, ?_⟩
  refine List.forall_mem_cons.mpr ⟨s_ildn C dX3_dye_46 rfl, ?_⟩
  refine List.forall_mem_cons.mpr ⟨s_add C dX3_dye_47, ?_⟩
  refine List.forall_mem_cons.mpr ⟨s_iald C dX3_dye_48, ?_⟩
  refine List.forall_mem_cons.mpr ⟨s_ist C dX3_dye_49, ?_⟩
  refine List.forall_mem_cons.mpr ⟨s_aldn C dX3_dye_51 rfl, ?_⟩
  refine List.forall_mem_cons.mpr ⟨s_getr C rfl in_X3 (by decide) lk_X3_31 rfl dX3_dye_52, ?_⟩
  refine List.forall_mem_cons.mpr ⟨s_bi C dX3_dye_55 (by decide), ?_⟩
  refine List.forall_mem_cons.mpr ⟨s_ildn C dX3_dye_57 rfl, ?_⟩
  refine List.forall_mem_cons.mpr ⟨s_mul C dX3_dye_58, ?_⟩
  refine List.forall_mem_cons.mpr ⟨s_ildn C dX3_dye_59 rfl, ?_⟩
  refine List.forall_mem_cons.mpr ⟨s_add C dX3_dye_60, ?_⟩
  refine List.forall_mem_cons.mpr ⟨s_ildn C dX3_dye_61 rfl, ?_⟩
  refine List.forall_mem_cons.mpr ⟨s_iast C dX3_dye_62, ?_⟩
  refine List.forall_mem_cons.mpr ⟨s_ild C dX3_dye_63, ?_⟩
  refine List.forall_mem_cons.mpr ⟨s_iret C M dX3_dye_65, ?_⟩
  exact fun _ h => absurd h List.not_mem_nil
set_option maxRecDepth 20000 in
theorem con_X3_dye {l : Launch} {D : va_G} {G : aG} {N0 : Nat} : a_Con l D G N0 yX3_dye cX3_dye 5 (some .int) (a_rm 2 0 0) sp_X3_dye := by
  refine a_con (by decide) (fun as σ K h => by obtain ⟨I, F, B, c, x, y, rfl, rfl, -⟩ := h; exact (by decide : 4 ≤ 5)) ?_
  intro X as σ K h C Y M _
  obtain ⟨I, F, B, d, i, v, rfl, rfl, hK1, hK2⟩ := h
  refine a_wps (S_X3_dye C Y M) (inv := a_ni) a_nih 60 _ _ _ _ _ _ ?_
  refine ⟨d, 0, 3, rfl, fun h1 => ?_, fun h1 => ⟨i, 0, 7, rfl, fun h2 => ?_, fun h2 => ?_⟩⟩
  · exact ⟨fun w => absurd w (show ¬ (-3 : Int32) = 0 by decide), fun _ => hK1 (Or.inl h1)⟩
  · exact ⟨fun w => absurd w (show ¬ (-3 : Int32) = 0 by decide), fun _ => hK1 (Or.inr h2)⟩
  · have hv : vp_in (8 * d + i) 32 := by
      obtain ⟨d', hd, rfl⟩ := m_in_n (b := 3) (by decide) h1
      obtain ⟨i', hi, rfl⟩ := m_in_n (b := 7) (by decide) h2
      exact a_8in (by omega) (by omega)
    exact ⟨fun _ => ⟨hv, hv, hK2 h1 h2⟩, fun w => absurd (rfl : (0 : Int32) = 0) w⟩
def m_there (c0 s a b c : Int32) : Int32 :=
  if s = 0 then 1 else if s = 1 then 1 else if s = 2 then 1 else if s = 3 then m_in a 0 c0 else if s = 4 then m_in a 0 c0
  else if s = 5 then (if m_in a 0 c0 = 0 then 0 else if m_in b 0 c0 = 0 then 0 else 1)
  else if s = 6 then (if m_in a 0 c0 = 0 then 0 else if m_in b 0 c0 = 0 then 0 else if m_in c 0 c0 = 0 then 0 else 1)
  else if s = 7 then (if m_in a 0 c0 = 0 then 0 else if m_in b 0 3 = 0 then 0 else 1)
  else if s = 8 then (if m_in a 0 c0 = 0 then 0 else if m_in b 0 3 = 0 then 0 else 1)
  else if s = 9 then m_in a 0 5 else if s = 10 then m_in a 0 c0
  else if s = 11 then (if m_in a 0 c0 = 0 then 0 else if m_in b 0 c0 = 0 then 0 else 1)
  else if s = 12 then m_in a 0 c0 else if s = 13 then m_in a 0 5 else m_in a 0 c0
def sp_X3_areThere : aP := fun as σ K => ∃ I F B s a b c, σ = a_mk I F B ∧ as = [.inr (some 16), .inl s, .inl a, .inl b, .inl c] ∧ K (some (.inl (m_there (I 16 0 - 1) s a b c))) σ
theorem rc_X3_areThere : ∀ as σ K, sp_X3_areThere as σ K → ∃ h As, as = .inr (some h) :: As ∧ a_is σ h 3 25 = true := by
  rintro as σ K ⟨I, F, B, s, a, b, c, rfl, rfl, -⟩
  exact ⟨16, _, rfl, rfl⟩
def P_X3_areThere (K : aK) (bc bs : Nat) : List (Nat × aT) := [(0, t_ild 1 1),
  (1, t_sw [(0, 72), (1, 72), (2, 72), (3, 157), (4, 157), (5, 74), (6, 96), (7, 127), (8, 127), (9, 150), (10, 157), (11, 74), (12, 157), (13, 150)] 157),
  (72, t_ic 1 73),
  (73, t_zret K bc bs),
  (74, t_ald 0 75),
  (75, t_ild 2 76),
  (76, t_call 2 0 0 bc bs sp_X3_isPattern 79),
  (79, t_if (fun x => x = 0) 94 82),
  (82, t_ald 0 83),
  (83, t_ild 3 84),
  (84, t_call 2 0 0 bc bs sp_X3_isPattern 87),
  (87, t_if (fun x => x = 0) 94 90),
  (90, t_ic 1 91),
  (91, t_goto 95),
  (94, t_ic 0 95),
  (95, t_zret K bc bs),
  (96, t_ald 0 97),
  (97, t_ild 2 98),
  (98, t_call 2 0 0 bc bs sp_X3_isPattern 101),
  (101, t_if (fun x => x = 0) 125 104),
  (104, t_ald 0 105),
  (105, t_ild 3 106),
  (106, t_call 2 0 0 bc bs sp_X3_isPattern 109),
  (109, t_if (fun x => x = 0) 125 112),
  (112, t_ald 0 113),
  (113, t_ild 4 115),
  (115, t_call 2 0 0 bc bs sp_X3_isPattern 118),
  (118, t_if (fun x => x = 0) 125 121),
  (121, t_ic 1 122),
  (122, t_goto 126),
  (125, t_ic 0 126),
  (126, t_zret K bc bs),
  (127, t_ald 0 128),
  (128, t_ild 2 129),
  (129, t_call 2 0 0 bc bs sp_X3_isPattern 132),
  (132, t_if (fun x => x = 0) 148 135),
  (135, t_ild 3 136),
  (136, t_ic 0 137),
  (137, t_ic 3 138),
  (138, t_call 3 0 0 bc bs sp_X3_in 141),
  (141, t_if (fun x => x = 0) 148 144),
  (144, t_ic 1 145),
  (145, t_goto 149),
  (148, t_ic 0 149),
  (149, t_zret K bc bs),
  (150, t_ild 2 151),
  (151, t_ic 0 152),
  (152, t_ic 5 153),
  (153, t_call 3 0 0 bc bs sp_X3_in 156),
  (156, t_zret K bc bs),
  (157, t_ald 0 158),
  (158, t_ild 2 159),
  (159, t_call 2 0 0 bc bs sp_X3_isPattern 162),
  (162, t_zret K bc bs)]
set_option maxRecDepth 100000 in
theorem S_X3_areThere {X : a_X} {K : aK} {l : Launch} {D : va_G} {G : aG} {N0 : Nat} (C : a_C X cX3_areThere (some .boolean) RX3) (Y : a_Y X l (a_rm 3 0 0) D G N0) (M : a_mq X K (a_rm 3 0 0).cells (a_rm 3 0 0).slots) : ∀ x ∈ P_X3_areThere K 0 0, a_Sd X x.1 x.2 := by
  unfold P_X3_areThere
  refine List.forall_mem_cons.mpr ⟨s_ildn C dX3_areThere_0 rfl, ?_⟩
  refine List.forall_mem_cons.mpr ⟨s_tsw C dX3_areThere_1 (a_tok_of2 13 (by decide) (by decide) (by decide) (by decide)), ?_⟩
  refine List.forall_mem_cons.mpr ⟨s_ic C dX3_areThere_72 (by decide), ?_⟩
  refine List.forall_mem_cons.mpr ⟨s_zret C M dX3_areThere_73, ?_⟩
  refine List.forall_mem_cons.mpr ⟨s_aldn C dX3_areThere_74 rfl, ?_⟩
  refine List.forall_mem_cons.mpr ⟨s_ildn C dX3_areThere_75 rfl, ?_⟩
  refine List.forall_mem_cons.mpr ⟨s_callV (rm := (a_rm 2 0 0)) (n := 1) C Y (ci := 3) rfl con_X3_isPattern rc_X3_isPattern co_X3_isPattern ml_X3_66 im_X3_isPattern se_X3_isPattern ii_X3 (by decide +kernel) ⟨by decide, by decide⟩ ⟨rfl, rfl⟩ dX3_areThere_76, ?_⟩
  refine List.forall_mem_cons.mpr ⟨s_if_eq C dX3_areThere_79 (by decide), ?_⟩
  refine List.forall_mem_cons.mpr ⟨s_aldn C dX3_areThere_82 rfl, ?_⟩
  refine List.forall_mem_cons.mpr ⟨s_ildn C dX3_areThere_83 rfl, ?_⟩
  refine List.forall_mem_cons.mpr ⟨s_callV (rm := (a_rm 2 0 0)) (n := 1) C Y (ci := 3) rfl con_X3_isPattern rc_X3_isPattern co_X3_isPattern ml_X3_66 im_X3_isPattern se_X3_isPattern ii_X3 (by decide +kernel) ⟨by decide, by decide⟩ ⟨rfl, rfl⟩ dX3_areThere_84, ?_⟩
  refine List.forall_mem_cons.mpr ⟨s_if_eq C dX3_areThere_87 (by decide), ?_⟩
  refine List.forall_mem_cons.mpr ⟨s_ic C dX3_areThere_90 (by decide), ?_⟩
  refine List.forall_mem_cons.mpr ⟨s_goto C dX3_areThere_91 (by decide), ?_⟩
  refine List.forall_mem_cons.mpr ⟨s_ic C dX3_areThere_94 (by decide), ?_⟩
  refine List.forall_mem_cons.mpr ⟨s_zret C M dX3_areThere_95, ?_⟩
  refine List.forall_mem_cons.mpr ⟨s_aldn C dX3_areThere_96 rfl, ?_⟩
  refine List.forall_mem_cons.mpr ⟨s_ildn C dX3_areThere_97 rfl, ?_⟩
  refine List.forall_mem_cons.mpr ⟨s_callV (rm := (a_rm 2 0 0)) (n := 1) C Y (ci := 3) rfl con_X3_isPattern rc_X3_isPattern co_X3_isPattern ml_X3_66 im_X3_isPattern se_X3_isPattern ii_X3 (by decide +kernel) ⟨by decide, by decide⟩ ⟨rfl, rfl⟩ dX3_areThere_98, ?_⟩
  refine List.forall_mem_cons.mpr ⟨s_if_eq C dX3_areThere_101 (by decide), ?_⟩
  refine List.forall_mem_cons.mpr ⟨s_aldn C dX3_areThere_104 rfl, ?_⟩
  refine List.forall_mem_cons.mpr ⟨s_ildn C dX3_areThere_105 rfl, ?_⟩
  refine List.forall_mem_cons.mpr ⟨s_callV (rm := (a_rm 2 0 0)) (n := 1) C Y (ci := 3) rfl con_X3_isPattern rc_X3_isPattern co_X3_isPattern ml_X3_66 im_X3_isPattern se_X3_isPattern ii_X3 (by decide +kernel) ⟨by decide, by decide⟩ ⟨rfl, rfl⟩ dX3_areThere_106, ?_⟩
  refine List.forall_mem_cons.mpr ⟨s_if_eq C dX3_areThere_109 (by decide), ?_⟩
  refine List.forall_mem_cons.mpr ⟨s_aldn C dX3_areThere_112 rfl, ?_⟩
  refine List.forall_mem_cons.mpr ⟨s_ild C dX3_areThere_113, ?_⟩
  refine List.forall_mem_cons.mpr ⟨s_callV (rm := (a_rm 2 0 0)) (n := 1) C Y (ci := 3) rfl con_X3_isPattern rc_X3_isPattern co_X3_isPattern ml_X3_66 im_X3_isPattern se_X3_isPattern ii_X3 (by decide +kernel) ⟨by decide, by decide⟩ ⟨rfl, rfl⟩ dX3_areThere_115, ?_⟩
  refine List.forall_mem_cons.mpr ⟨s_if_eq C dX3_areThere_118 (by decide), ?_⟩
  refine List.forall_mem_cons.mpr ⟨s_ic C dX3_areThere_121 (by decide), ?_⟩
  refine List.forall_mem_cons.mpr ⟨s_goto C dX3_areThere_122 (by decide), ?_⟩
  refine List.forall_mem_cons.mpr ⟨s_ic C dX3_areThere_125 (by decide), ?_⟩
  refine List.forall_mem_cons.mpr ⟨s_zret C M dX3_areThere_126, ?_⟩
  refine List.forall_mem_cons.mpr ⟨s_aldn C dX3_areThere_127 rfl, ?_⟩
  refine List.forall_mem_cons.mpr ⟨s_ildn C dX3_areThere_128 rfl, ?_⟩
  refine List.forall_mem_cons.mpr ⟨s_callV (rm := (a_rm 2 0 0)) (n := 1) C Y (ci := 3) rfl con_X3_isPattern rc_X3_isPattern co_X3_isPattern ml_X3_66 im_X3_isPattern se_X3_isPattern ii_X3 (by decide +kernel) ⟨by decide, by decide⟩ ⟨rfl, rfl⟩ dX3_areThere_129, ?_⟩
  refine List.forall_mem_cons.mpr ⟨s_if_eq C dX3_areThere_132 (by decide), ?_⟩
  refine List.forall_mem_cons.mpr ⟨s_ildn C dX3_areThere_135 rfl, ?_⟩
  refine List.forall_mem_cons.mpr ⟨s_ic C dX3_areThere_136 (by decide), ?_⟩
  refine List.forall_mem_cons.mpr ⟨s_ic C dX3_areThere_137 (by decide), ?_⟩
  refine List.forall_mem_cons.mpr ⟨s_callS (rm := (a_rm 1 0 0)) C Y con_X3_in co_X3_in ml_X3_59 st_X3_in ii_X3 (by decide +kernel) ⟨by decide, by decide⟩ ⟨rfl, rfl⟩ dX3_areThere_138, ?_⟩
  refine List.forall_mem_cons.mpr ⟨s_if_eq C dX3_areThere_141 (by decide), ?_⟩
  refine List.forall_mem_cons.mpr ⟨s_ic C dX3_areThere_144 (by decide), ?_⟩
  refine List.forall_mem_cons.mpr ⟨s_goto C dX3_areThere_145 (by decide), ?_⟩
  refine List.forall_mem_cons.mpr ⟨s_ic C dX3_areThere_148 (by decide), ?_⟩
  refine List.forall_mem_cons.mpr ⟨s_zret C M dX3_areThere_149, ?_⟩
  refine List.forall_mem_cons.mpr ⟨s_ildn C dX3_areThere_150 rfl, ?_⟩
  refine List.forall_mem_cons.mpr ⟨s_ic C dX3_areThere_151 (by decide), ?_⟩
  refine List.forall_mem_cons.mpr ⟨s_ic C dX3_areThere_152 (by decide), ?_⟩
  refine List.forall_mem_cons.mpr ⟨s_callS (rm := (a_rm 1 0 0)) C Y con_X3_in co_X3_in ml_X3_59 st_X3_in ii_X3 (by decide +kernel) ⟨by decide, by decide⟩ ⟨rfl, rfl⟩ dX3_areThere_153, ?_⟩
  refine List.forall_mem_cons.mpr ⟨s_zret C M dX3_areThere_156, ?_⟩
  refine List.forall_mem_cons.mpr ⟨s_aldn C dX3_areThere_157 rfl, ?_⟩
  refine List.forall_mem_cons.mpr ⟨s_ildn C dX3_areThere_158 rfl, ?_⟩
  refine List.forall_mem_cons.mpr ⟨s_callV (rm := (a_rm 2 0 0)) (n := 1) C Y (ci := 3) rfl con_X3_isPattern rc_X3_isPattern co_X3_isPattern ml_X3_66 im_X3_isPattern se_X3_isPattern ii_X3 (by decide +kernel) ⟨by decide, by decide⟩ ⟨rfl, rfl⟩ dX3_areThere_159, ?_⟩
  refine List.forall_mem_cons.mpr ⟨s_zret C M dX3_areThere_162, ?_⟩
  exact fun _ h => absurd h List.not_mem_nil
set_option maxRecDepth 20000 in
theorem con_X3_areThere {l : Launch} {D : va_G} {G : aG} {N0 : Nat} : a_Con l D G N0 yX3_areThere cX3_areThere 5 (some .boolean) (a_rm 3 0 0) sp_X3_areThere := by
  refine a_con (by decide) (fun as σ K h => by obtain ⟨I, F, B, s, a, b, c, rfl, rfl, -⟩ := h; exact (by decide : 5 ≤ 5)) ?_
  intro X as σ K h C Y M _
  obtain ⟨I, F, B, s, a, b, c, rfl, rfl, hK⟩ := h
  refine a_wps (S_X3_areThere C Y M) (inv := a_ni) a_nih 60 _ _ _ _ _ _ ?_
  unfold m_there at hK
  refine ⟨fun h0 => ?_, fun h0 => ⟨fun h1 => ?_, fun h1 => ⟨fun h2 => ?_, fun h2 => ⟨fun h3 => ?_, fun h3 => ⟨fun h4 => ?_, fun h4 => ⟨fun h5 => ?_, fun h5 => ⟨fun h6 => ?_, fun h6 => ⟨fun h7 => ?_, fun h7 => ⟨fun h8 => ?_, fun h8 => ⟨fun h9 => ?_, fun h9 => ⟨fun h10 => ?_, fun h10 => ⟨fun h11 => ?_, fun h11 => ⟨fun h12 => ?_, fun h12 => ⟨fun h13 => ?_, fun h13 => ?_⟩⟩⟩⟩⟩⟩⟩⟩⟩⟩⟩⟩⟩⟩
  · rw [if_pos h0] at hK; exact ⟨Or.inr rfl, hK⟩
  · rw [if_neg h0, if_pos h1] at hK; exact ⟨Or.inr rfl, hK⟩
  · rw [if_neg h0, if_neg h1, if_pos h2] at hK; exact ⟨Or.inr rfl, hK⟩
  · rw [if_neg h0, if_neg h1, if_neg h2, if_pos h3] at hK; exact ⟨I, F, B, _, rfl, rfl, m_in_01 _ _ _, hK⟩
  · rw [if_neg h0, if_neg h1, if_neg h2, if_neg h3, if_pos h4] at hK; exact ⟨I, F, B, _, rfl, rfl, m_in_01 _ _ _, hK⟩
  · rw [if_neg h0, if_neg h1, if_neg h2, if_neg h3, if_neg h4, if_pos h5] at hK
    refine ⟨I, F, B, _, rfl, rfl, fun z => ?_, fun z => ⟨I, F, B, _, rfl, rfl, fun z2 => ?_, fun z2 => ?_⟩⟩
    · rw [if_pos z] at hK; exact ⟨Or.inl rfl, hK⟩
    · rw [if_neg z, if_pos z2] at hK; exact ⟨Or.inl rfl, hK⟩
    · rw [if_neg z, if_neg z2] at hK; exact ⟨Or.inr rfl, hK⟩
  · rw [if_neg h0, if_neg h1, if_neg h2, if_neg h3, if_neg h4, if_neg h5, if_pos h6] at hK
    refine ⟨I, F, B, _, rfl, rfl, fun z => ?_, fun z => ⟨I, F, B, _, rfl, rfl, fun z2 => ?_, fun z2 => ⟨I, F, B, _, rfl, rfl, fun z3 => ?_, fun z3 => ?_⟩⟩⟩
    · rw [if_pos z] at hK; exact ⟨Or.inl rfl, hK⟩
    · rw [if_neg z, if_pos z2] at hK; exact ⟨Or.inl rfl, hK⟩
    · rw [if_neg z, if_neg z2, if_pos z3] at hK; exact ⟨Or.inl rfl, hK⟩
    · rw [if_neg z, if_neg z2, if_neg z3] at hK; exact ⟨Or.inr rfl, hK⟩
  · rw [if_neg h0, if_neg h1, if_neg h2, if_neg h3, if_neg h4, if_neg h5, if_neg h6, if_pos h7] at hK
    refine ⟨I, F, B, _, rfl, rfl, fun z => ?_, fun z => ⟨_, _, _, rfl, fun z2 => ?_, fun z2 => ?_⟩⟩
    · rw [if_pos z] at hK; exact ⟨Or.inl rfl, hK⟩
    · rw [if_neg z, if_pos z2] at hK; exact ⟨Or.inl rfl, hK⟩
    · rw [if_neg z, if_neg z2] at hK; exact ⟨Or.inr rfl, hK⟩
  · rw [if_neg h0, if_neg h1, if_neg h2, if_neg h3, if_neg h4, if_neg h5, if_neg h6, if_neg h7, if_pos h8] at hK
    refine ⟨I, F, B, _, rfl, rfl, fun z => ?_, fun z => ⟨_, _, _, rfl, fun z2 => ?_, fun z2 => ?_⟩⟩
    · rw [if_pos z] at hK; exact ⟨Or.inl rfl, hK⟩
    · rw [if_neg z, if_pos z2] at hK; exact ⟨Or.inl rfl, hK⟩
    · rw [if_neg z, if_neg z2] at hK; exact ⟨Or.inr rfl, hK⟩
  · rw [if_neg h0, if_neg h1, if_neg h2, if_neg h3, if_neg h4, if_neg h5, if_neg h6, if_neg h7, if_neg h8, if_pos h9] at hK; exact ⟨_, _, _, rfl, m_in_01 _ _ _, hK⟩
  · rw [if_neg h0, if_neg h1, if_neg h2, if_neg h3, if_neg h4, if_neg h5, if_neg h6, if_neg h7, if_neg h8, if_neg h9, if_pos h10] at hK; exact ⟨I, F, B, _, rfl, rfl, m_in_01 _ _ _, hK⟩
  · rw [if_neg h0, if_neg h1, if_neg h2, if_neg h3, if_neg h4, if_neg h5, if_neg h6, if_neg h7, if_neg h8, if_neg h9, if_neg h10, if_pos h11] at hK
    refine ⟨I, F, B, _, rfl, rfl, fun z => ?_, fun z => ⟨I, F, B, _, rfl, rfl, fun z2 => ?_, fun z2 => ?_⟩⟩
    · rw [if_pos z] at hK; exact ⟨Or.inl rfl, hK⟩
    · rw [if_neg z, if_pos z2] at hK; exact ⟨Or.inl rfl, hK⟩
    · rw [if_neg z, if_neg z2] at hK; exact ⟨Or.inr rfl, hK⟩
  · rw [if_neg h0, if_neg h1, if_neg h2, if_neg h3, if_neg h4, if_neg h5, if_neg h6, if_neg h7, if_neg h8, if_neg h9, if_neg h10, if_neg h11, if_pos h12] at hK; exact ⟨I, F, B, _, rfl, rfl, m_in_01 _ _ _, hK⟩
  · rw [if_neg h0, if_neg h1, if_neg h2, if_neg h3, if_neg h4, if_neg h5, if_neg h6, if_neg h7, if_neg h8, if_neg h9, if_neg h10, if_neg h11, if_neg h12, if_pos h13] at hK; exact ⟨_, _, _, rfl, m_in_01 _ _ _, hK⟩
  · rw [if_neg h0, if_neg h1, if_neg h2, if_neg h3, if_neg h4, if_neg h5, if_neg h6, if_neg h7, if_neg h8, if_neg h9, if_neg h10, if_neg h11, if_neg h12, if_neg h13] at hK; exact ⟨I, F, B, _, rfl, rfl, m_in_01 _ _ _, hK⟩
def sp_X3_name : aP := fun as σ K => ∃ I F B n p, σ = a_mk I F B ∧ as = [.inr (some 16), .inl n, .inl p] ∧
  ((m_in n 0 5 = 0 ∨ (¬ p = -1 ∧ m_in p 0 (I 16 0 - 1) = 0)) → K (some (.inl (-3))) σ) ∧ (¬ m_in n 0 5 = 0 → (p = -1 ∨ ¬ m_in p 0 (I 16 0 - 1) = 0) → K (some (.inl (if I 25 n.toNatClampNeg = -1 then 0 else 1))) (a_mk (a_w I 25 n.toNatClampNeg p) F B))
theorem rc_X3_name : ∀ as σ K, sp_X3_name as σ K → ∃ h As, as = .inr (some h) :: As ∧ a_is σ h 3 25 = true := by
  rintro as σ K ⟨I, F, B, n, p, rfl, rfl, -⟩
  exact ⟨16, _, rfl, rfl⟩
def P_X3_name (K : aK) (bc bs : Nat) : List (Nat × aT) := [(0, t_ild 1 1),
  (1, t_ic 0 2),
  (2, t_ic 5 3),
  (3, t_call 3 0 0 bc bs sp_X3_in 6),
  (6, t_if (fun x => x = 0) 22 9),
  (9, t_ild 2 10),
  (10, t_ic (-1) 11),
  (11, t_ifc (fun x y => x = y) 25 14),
  (14, t_ald 0 15),
  (15, t_ild 2 16),
  (16, t_call 2 0 0 bc bs sp_X3_isPattern 19),
  (19, t_if (fun x => x = 0) 22 25),
  (22, t_ic (-3) 24),
  (24, t_iret K bc bs),
  (25, t_ald 0 26),
  (26, t_getr 3 25 9 29),
  (29, t_ild 1 30),
  (30, t_iald 31),
  (31, t_ic (-1) 32),
  (32, t_ifc (fun x y => x = y) 35 39),
  (35, t_ic 0 36),
  (36, t_goto 40),
  (39, t_ic 1 40),
  (40, t_ist 3 41),
  (41, t_ald 0 42),
  (42, t_getr 3 25 9 45),
  (45, t_ild 1 46),
  (46, t_ild 2 47),
  (47, t_iast 48),
  (48, t_ild 3 49),
  (49, t_iret K bc bs)]
set_option maxRecDepth 100000 in
theorem S_X3_name {X : a_X} {K : aK} {l : Launch} {D : va_G} {G : aG} {N0 : Nat} (C : a_C X cX3_name (some .int) RX3) (Y : a_Y X l (a_rm 3 0 0) D G N0) (M : a_mq X K (a_rm 3 0 0).cells (a_rm 3 0 0).slots) : ∀ x ∈ P_X3_name K 0 0, a_Sd X x.1 x.2 := by
  unfold P_X3_name
  refine List.forall_mem_cons.mpr ⟨s_ildn C dX3_name_0 rfl, ?_⟩
  refine List.forall_mem_cons.mpr ⟨s_ic C dX3_name_1 (by decide), ?_⟩
  refine List.forall_mem_cons.mpr ⟨s_ic C dX3_name_2 (by decide), ?_⟩
  refine List.forall_mem_cons.mpr ⟨s_callS (rm := (a_rm 1 0 0)) C Y con_X3_in co_X3_in ml_X3_59 st_X3_in ii_X3 (by decide +kernel) ⟨by decide, by decide⟩ ⟨rfl, rfl⟩ dX3_name_3, ?_⟩
  refine List.forall_mem_cons.mpr ⟨s_if_eq C dX3_name_6 (by decide), ?_⟩
  refine List.forall_mem_cons.mpr ⟨s_ildn C dX3_name_9 rfl, ?_⟩
  refine List.forall_mem_cons.mpr ⟨s_ic C dX3_name_10 (by decide), ?_⟩
  refine List.forall_mem_cons.mpr ⟨s_icmp_eq C dX3_name_11 (by decide), ?_⟩
  refine List.forall_mem_cons.mpr ⟨s_aldn C dX3_name_14 rfl, ?_⟩
  refine List.forall_mem_cons.mpr ⟨s_ildn C dX3_name_15 rfl, ?_⟩
  refine List.forall_mem_cons.mpr ⟨s_callV (rm := (a_rm 2 0 0)) (n := 1) C Y (ci := 3) rfl con_X3_isPattern rc_X3_isPattern co_X3_isPattern ml_X3_66 im_X3_isPattern se_X3_isPattern ii_X3 (by decide +kernel) ⟨by decide, by decide⟩ ⟨rfl, rfl⟩ dX3_name_16, ?_⟩
  refine List.forall_mem_cons.mpr ⟨s_if_ne C dX3_name_19 (by decide), ?_⟩
  refine List.forall_mem_cons.mpr ⟨s_bi C dX3_name_22 (by decide), ?_⟩
  refine List.forall_mem_cons.mpr ⟨s_iret C M dX3_name_24, ?_⟩
  refine List.forall_mem_cons.mpr ⟨s_aldn C dX3_name_25 rfl, ?_⟩
  refine List.forall_mem_cons.mpr ⟨s_getr C rfl in_X3 (by decide) lk_X3_34 rfl dX3_name_26, ?_⟩
  refine List.forall_mem_cons.mpr ⟨s_ildn C dX3_name_29 rfl, ?_⟩
  refine List.forall_mem_cons.mpr ⟨s_iald C dX3_name_30, ?_⟩
  refine List.forall_mem_cons.mpr ⟨s_ic C dX3_name_31 (by decide), ?_⟩
  refine List.forall_mem_cons.mpr ⟨s_icmp_ne C dX3_name_32 (by decide), ?_⟩
  refine List.forall_mem_cons.mpr ⟨s_ic C dX3_name_35 (by decide), ?_⟩
  refine List.forall_mem_cons.mpr ⟨s_goto C dX3_name_36 (by decide), ?_⟩
  refine List.forall_mem_cons.mpr ⟨s_ic C dX3_name_39 (by decide), ?_⟩
  refine List.forall_mem_cons.mpr ⟨s_istn C dX3_name_40 rfl, ?_⟩
  refine List.forall_mem_cons.mpr ⟨s_aldn C dX3_name_41 rfl, ?_⟩
  refine List.forall_mem_cons.mpr ⟨s_getr C rfl in_X3 (by decide) lk_X3_34 rfl dX3_name_42, ?_⟩
  refine List.forall_mem_cons.mpr ⟨s_ildn C dX3_name_45 rfl, ?_⟩
  refine List.forall_mem_cons.mpr ⟨s_ildn C dX3_name_46 rfl, ?_⟩
  refine List.forall_mem_cons.mpr ⟨s_iast C dX3_name_47, ?_⟩
  refine List.forall_mem_cons.mpr ⟨s_ildn C dX3_name_48 rfl, ?_⟩
  refine List.forall_mem_cons.mpr ⟨s_iret C M dX3_name_49, ?_⟩
  exact fun _ h => absurd h List.not_mem_nil
set_option maxRecDepth 20000 in
theorem con_X3_name {l : Launch} {D : va_G} {G : aG} {N0 : Nat} : a_Con l D G N0 yX3_name cX3_name 4 (some .int) (a_rm 3 0 0) sp_X3_name := by
  refine a_con (by decide) (fun as σ K h => by obtain ⟨I, F, B, n, p, rfl, rfl, -⟩ := h; exact (by decide : 3 ≤ 4)) ?_
  intro X as σ K h C Y M _
  obtain ⟨I, F, B, n, p, rfl, rfl, hK1, hK2⟩ := h
  refine a_wps (S_X3_name C Y M) (inv := a_ni) a_nih 60 _ _ _ _ _ _ ?_
  refine ⟨n, 0, 5, rfl, fun h1 => hK1 (Or.inl h1), fun h1 => ?_⟩
  have hn : vp_in n 6 := by
    obtain ⟨j, hj, rfl⟩ := m_in_n (b := 5) (by decide) h1
    exact vp_in_nI (by omega) (by decide)
  refine ⟨fun h2 => ⟨hn, fun h4 => ⟨hn, ?_⟩, fun h4 => ⟨hn, ?_⟩⟩, fun h2 => ⟨I, F, B, p, rfl, rfl, fun h3 => hK1 (Or.inr ⟨h2, h3⟩), fun h3 => ⟨hn, fun h4 => ⟨hn, ?_⟩, fun h4 => ⟨hn, ?_⟩⟩⟩⟩
  · have hK := hK2 h1 (Or.inl h2)
    rw [if_pos h4] at hK; exact hK
  · have hK := hK2 h1 (Or.inl h2)
    rw [if_neg h4] at hK; exact hK
  · have hK := hK2 h1 (Or.inr h3)
    rw [if_pos h4] at hK; exact hK
  · have hK := hK2 h1 (Or.inr h3)
    rw [if_neg h4] at hK; exact hK
def sp_X3_cloth : aP := fun as σ K => ∃ I F B i, σ = a_mk I F B ∧ as = [.inr (some 16), .inl i] ∧ (¬ m_in i 0 (I 16 23 - 1) = 0 → vp_in i 144) ∧ K (some (.inl (if m_in i 0 (I 16 23 - 1) = 0 then 0 else I 38 i.toNatClampNeg))) σ
theorem rc_X3_cloth : ∀ as σ K, sp_X3_cloth as σ K → ∃ h As, as = .inr (some h) :: As ∧ a_is σ h 3 25 = true := by
  rintro as σ K ⟨I, F, B, p, rfl, rfl, -⟩
  exact ⟨16, _, rfl, rfl⟩
def P_X3_cloth (K : aK) (bc bs : Nat) : List (Nat × aT) := [(0, t_ild 1 1),
  (1, t_ic 0 2),
  (2, t_ald 0 3),
  (3, t_geti 3 25 23 6),
  (6, t_ic 1 7),
  (7, t_sub 8),
  (8, t_call 3 0 0 bc bs sp_X3_in 11),
  (11, t_if (fun x => x = 0) 23 14),
  (14, t_ald 0 15),
  (15, t_getr 3 25 22 18),
  (18, t_ild 1 19),
  (19, t_iald 20),
  (20, t_goto 24),
  (23, t_ic 0 24),
  (24, t_iret K bc bs)]
set_option maxRecDepth 100000 in
theorem S_X3_cloth {X : a_X} {K : aK} {l : Launch} {D : va_G} {G : aG} {N0 : Nat} (C : a_C X cX3_cloth (some .int) RX3) (Y : a_Y X l (a_rm 2 0 0) D G N0) (M : a_mq X K (a_rm 2 0 0).cells (a_rm 2 0 0).slots) : ∀ x ∈ P_X3_cloth K 0 0, a_Sd X x.1 x.2 := by
  unfold P_X3_cloth
  refine List.forall_mem_cons.mpr ⟨s_ildn C dX3_cloth_0 rfl, ?_⟩
  refine List.forall_mem_cons.mpr ⟨s_ic C dX3_cloth_1 (by decide), ?_⟩
  refine List.forall_mem_cons.mpr ⟨s_aldn C dX3_cloth_2 rfl, ?_⟩
  refine List.forall_mem_cons.mpr ⟨s_geti C rfl in_X3 (by decide) lk_X3_129 rfl dX3_cloth_3, ?_⟩
  refine List.forall_mem_cons.mpr ⟨s_ic C dX3_cloth_6 (by decide), ?_⟩
  refine List.forall_mem_cons.mpr ⟨s_sub C dX3_cloth_7, ?_⟩
  refine List.forall_mem_cons.mpr ⟨s_callS (rm := (a_rm 1 0 0)) C Y con_X3_in co_X3_in ml_X3_59 st_X3_in ii_X3 (by decide +kernel) ⟨by decide, by decide⟩ ⟨rfl, rfl⟩ dX3_cloth_8, ?_⟩
  refine List.forall_mem_cons.mpr ⟨s_if_eq C dX3_cloth_11 (by decide), ?_⟩
  refine List.forall_mem_cons.mpr ⟨s_aldn C dX3_cloth_14 rfl, ?_⟩
  refine List.forall_mem_cons.mpr ⟨s_getr C rfl in_X3 (by decide) lk_X3_52 rfl dX3_cloth_15, ?_⟩
  refine List.forall_mem_cons.mpr ⟨s_ildn C dX3_cloth_18 rfl, ?_⟩
  refine List.forall_mem_cons.mpr ⟨s_iald C dX3_cloth_19, ?_⟩
  refine List.forall_mem_cons.mpr ⟨s_goto C dX3_cloth_20 (by decide), ?_⟩
  refine List.forall_mem_cons.mpr ⟨s_ic C dX3_cloth_23 (by decide), ?_⟩
  refine List.forall_mem_cons.mpr ⟨s_iret C M dX3_cloth_24, ?_⟩
  exact fun _ h => absurd h List.not_mem_nil
theorem con_X3_cloth {l : Launch} {D : va_G} {G : aG} {N0 : Nat} : a_Con l D G N0 yX3_cloth cX3_cloth 2 (some .int) (a_rm 2 0 0) sp_X3_cloth := by
  refine a_con (by decide) (fun as σ K h => by obtain ⟨I, F, B, p, rfl, rfl, -⟩ := h; exact (by decide : 2 ≤ 2)) ?_
  intro X as σ K h C Y M _
  obtain ⟨I, F, B, i, rfl, rfl, hv, hK⟩ := h
  refine a_wps (S_X3_cloth C Y M) (inv := a_ni) a_nih 60 _ _ _ _ _ _ ?_
  refine ⟨i, 0, _, rfl, fun h1 => ?_, fun h1 => ⟨hv h1, ?_⟩⟩
  · rw [if_pos h1] at hK; exact hK
  · rw [if_neg h1] at hK; exact hK
def sp_X3_why : aP := fun as σ K => ∃ I F B, σ = a_mk I F B ∧ as = [.inr (some 16)] ∧ K (some (.inl (I 16 10))) σ
theorem rc_X3_why : ∀ as σ K, sp_X3_why as σ K → ∃ h As, as = .inr (some h) :: As ∧ a_is σ h 3 25 = true := by
  rintro as σ K ⟨I, F, B, rfl, rfl, -⟩
  exact ⟨16, _, rfl, rfl⟩
def P_X3_why (K : aK) (bc bs : Nat) : List (Nat × aT) := [(0, t_ald 0 1),
  (1, t_geti 3 25 10 4),
  (4, t_iret K bc bs)]
set_option maxRecDepth 100000 in
theorem S_X3_why {X : a_X} {K : aK} {l : Launch} {D : va_G} {G : aG} {N0 : Nat} (C : a_C X cX3_why (some .int) RX3) (Y : a_Y X l (a_rm 1 0 0) D G N0) (M : a_mq X K (a_rm 1 0 0).cells (a_rm 1 0 0).slots) : ∀ x ∈ P_X3_why K 0 0, a_Sd X x.1 x.2 := by
  unfold P_X3_why
  refine List.forall_mem_cons.mpr ⟨s_aldn C dX3_why_0 rfl, ?_⟩
  refine List.forall_mem_cons.mpr ⟨s_geti C rfl in_X3 (by decide) lk_X3_63 rfl dX3_why_1, ?_⟩
  refine List.forall_mem_cons.mpr ⟨s_iret C M dX3_why_4, ?_⟩
  exact fun _ h => absurd h List.not_mem_nil
theorem con_X3_why {l : Launch} {D : va_G} {G : aG} {N0 : Nat} : a_Con l D G N0 yX3_why cX3_why 1 (some .int) (a_rm 1 0 0) sp_X3_why := by
  refine a_con (by decide) (fun as σ K h => by obtain ⟨I, F, B, rfl, rfl, -⟩ := h; exact (by decide : 1 ≤ 1)) ?_
  intro X as σ K h C Y M _
  obtain ⟨I, F, B, rfl, rfl, hK⟩ := h
  exact a_wps (S_X3_why C Y M) (inv := a_ni) a_nih 60 _ _ _ _ _ _ hK
def m_cnt (a b c d e w : Int32) : Int32 := if w = 0 then a else if w = 1 then b else if w = 2 then c else if w = 3 then d else if w = 4 then e else -2
def sp_X3_count : aP := fun as σ K => ∃ I F B w, σ = a_mk I F B ∧ as = [.inr (some 16), .inl w] ∧ K (some (.inl (m_cnt (I 16 0) (I 16 23) (I 16 24) (I 16 19) (I 16 11) w))) σ
theorem rc_X3_count : ∀ as σ K, sp_X3_count as σ K → ∃ h As, as = .inr (some h) :: As ∧ a_is σ h 3 25 = true := by
  rintro as σ K ⟨I, F, B, w, rfl, rfl, -⟩
  exact ⟨16, _, rfl, rfl⟩
def P_X3_count (K : aK) (bc bs : Nat) : List (Nat × aT) := [(0, t_ild 1 1),
  (1, t_sw [(0, 36), (1, 41), (2, 46), (3, 51), (4, 56)] 61),
  (36, t_ald 0 37),
  (37, t_geti 3 25 0 40),
  (40, t_iret K bc bs),
  (41, t_ald 0 42),
  (42, t_geti 3 25 23 45),
  (45, t_iret K bc bs),
  (46, t_ald 0 47),
  (47, t_geti 3 25 24 50),
  (50, t_iret K bc bs),
  (51, t_ald 0 52),
  (52, t_geti 3 25 19 55),
  (55, t_iret K bc bs),
  (56, t_ald 0 57),
  (57, t_geti 3 25 11 60),
  (60, t_iret K bc bs),
  (61, t_ic (-2) 63),
  (63, t_iret K bc bs)]
set_option maxRecDepth 100000 in
theorem S_X3_count {X : a_X} {K : aK} {l : Launch} {D : va_G} {G : aG} {N0 : Nat} (C : a_C X cX3_count (some .int) RX3) (Y : a_Y X l (a_rm 1 0 0) D G N0) (M : a_mq X K (a_rm 1 0 0).cells (a_rm 1 0 0).slots) : ∀ x ∈ P_X3_count K 0 0, a_Sd X x.1 x.2 := by
  unfold P_X3_count
  refine List.forall_mem_cons.mpr ⟨s_ildn C dX3_count_0 rfl, ?_⟩
  refine List.forall_mem_cons.mpr ⟨s_tsw C dX3_count_1 (a_tok_of2 4 (by decide) (by decide) (by decide) (by decide)), ?_⟩
  refine List.forall_mem_cons.mpr ⟨s_aldn C dX3_count_36 rfl, ?_⟩
  refine List.forall_mem_cons.mpr ⟨s_geti C rfl in_X3 (by decide) lk_X3_55 rfl dX3_count_37, ?_⟩
  refine List.forall_mem_cons.mpr ⟨s_iret C M dX3_count_40, ?_⟩
  refine List.forall_mem_cons.mpr ⟨s_aldn C dX3_count_41 rfl, ?_⟩
  refine List.forall_mem_cons.mpr ⟨s_geti C rfl in_X3 (by decide) lk_X3_129 rfl dX3_count_42, ?_⟩
  refine List.forall_mem_cons.mpr ⟨s_iret C M dX3_count_45, ?_⟩
  refine List.forall_mem_cons.mpr ⟨s_aldn C dX3_count_46 rfl, ?_⟩
  refine List.forall_mem_cons.mpr ⟨s_geti C rfl in_X3 (by decide) lk_X3_132 rfl dX3_count_47, ?_⟩
  refine List.forall_mem_cons.mpr ⟨s_iret C M dX3_count_50, ?_⟩
  refine List.forall_mem_cons.mpr ⟨s_aldn C dX3_count_51 rfl, ?_⟩
  refine List.forall_mem_cons.mpr ⟨s_geti C rfl in_X3 (by decide) lk_X3_74 rfl dX3_count_52, ?_⟩
  refine List.forall_mem_cons.mpr ⟨s_iret C M dX3_count_55, ?_⟩
  refine List.forall_mem_cons.mpr ⟨s_aldn C dX3_count_56 rfl, ?_⟩
  refine List.forall_mem_cons.mpr ⟨s_geti C rfl in_X3 (by decide) lk_X3_107 rfl dX3_count_57, ?_⟩
  refine List.forall_mem_cons.mpr ⟨s_iret C M dX3_count_60, ?_⟩
  refine List.forall_mem_cons.mpr ⟨s_bi C dX3_count_61 (by decide), ?_⟩
  refine List.forall_mem_cons.mpr ⟨s_iret C M dX3_count_63, ?_⟩
  exact fun _ h => absurd h List.not_mem_nil
theorem con_X3_count {l : Launch} {D : va_G} {G : aG} {N0 : Nat} : a_Con l D G N0 yX3_count cX3_count 2 (some .int) (a_rm 1 0 0) sp_X3_count := by
  refine a_con (by decide) (fun as σ K h => by obtain ⟨I, F, B, w, rfl, rfl, -⟩ := h; exact (by decide : 2 ≤ 2)) ?_
  intro X as σ K h C Y M _
  obtain ⟨I, F, B, w, rfl, rfl, hK⟩ := h
  refine a_wps (S_X3_count C Y M) (inv := a_ni) a_nih 60 _ _ _ _ _ _ ?_
  unfold m_cnt at hK
  refine ⟨fun h0 => ?_, fun h0 => ⟨fun h1 => ?_, fun h1 => ⟨fun h2 => ?_, fun h2 => ⟨fun h3 => ?_, fun h3 => ⟨fun h4 => ?_, fun h4 => ?_⟩⟩⟩⟩⟩
  · rw [if_pos h0] at hK; exact hK
  · rw [if_neg h0, if_pos h1] at hK; exact hK
  · rw [if_neg h0, if_neg h1, if_pos h2] at hK; exact hK
  · rw [if_neg h0, if_neg h1, if_neg h2, if_pos h3] at hK; exact hK
  · rw [if_neg h0, if_neg h1, if_neg h2, if_neg h3, if_pos h4] at hK; exact hK
  · rw [if_neg h0, if_neg h1, if_neg h2, if_neg h3, if_neg h4] at hK; exact hK
end
section
/-! ===== the reference's loops over the cloth; pattern; weave ===== -/
def a_iv (X : a_X) (hs : List Nat) : Nat → Option (aL → List aV → aS → Nat → Nat → Prop) := fun pc => match hs.elem pc with
  | true => some (fun L st σ kc ks => a_J X pc L st σ kc ks)
  | false => none
theorem a_ivh {X : a_X} {hs : List Nat} : ∀ pc I, a_iv X hs pc = some I → ∀ L st σ kc ks, I L st σ kc ks → a_J X pc L st σ kc ks := by
  intro pc I e L st σ kc ks h
  unfold a_iv at e
  split at e
  · cases e; exact h
  · cases e
def c_n (C : Nat → Int32) (v : Int32) : Nat → Nat
  | 0 => 0
  | k + 1 => c_n C v k + (if C k = v then 1 else 0)
theorem c_n_le (C : Nat → Int32) (v : Int32) : ∀ k, c_n C v k ≤ k
  | 0 => Nat.le_refl _
  | k + 1 => by
    have := c_n_le C v k
    show c_n C v k + (if C k = v then 1 else 0) ≤ k + 1
    split <;> omega
def sp_X3_manyOf : aP := fun as σ K => ∃ I F B sz v, σ = a_mk I F B ∧ as = [.inr (some 16), .inl v] ∧ I 16 23 = nI sz ∧ sz ≤ 144 ∧ K (some (.inl (nI (c_n (I 38) v sz)))) σ
theorem rc_X3_manyOf : ∀ as σ K, sp_X3_manyOf as σ K → ∃ h As, as = .inr (some h) :: As ∧ a_is σ h 3 25 = true := by
  rintro as σ K ⟨I, F, B, sz, v, rfl, rfl, -⟩
  exact ⟨16, _, rfl, rfl⟩
def P_X3_manyOf (K : aK) (bc bs : Nat) : List (Nat × aT) := [(0, t_ic 0 1),
  (1, t_ist 2 2),
  (2, t_ic 0 3),
  (3, t_ist 3 4),
  (4, t_ild 3 5),
  (5, t_ald 0 6),
  (6, t_geti 3 25 23 9),
  (9, t_ifc (fun x y => y ≤ x) 36 12),
  (12, t_ild 2 13),
  (13, t_ald 0 14),
  (14, t_getr 3 25 22 17),
  (17, t_ild 3 18),
  (18, t_iald 19),
  (19, t_ild 1 20),
  (20, t_ifc (fun x y => x = y) 23 27),
  (23, t_ic 1 24),
  (24, t_goto 28),
  (27, t_ic 0 28),
  (28, t_add 29),
  (29, t_ist 2 30),
  (30, t_iinc 3 1 33),
  (33, t_goto 4),
  (36, t_ild 2 37),
  (37, t_iret K bc bs)]
set_option maxRecDepth 100000 in
theorem S_X3_manyOf {X : a_X} {K : aK} {l : Launch} {D : va_G} {G : aG} {N0 : Nat} (C : a_C X cX3_manyOf (some .int) RX3) (Y : a_Y X l (a_rm 1 0 0) D G N0) (M : a_mq X K (a_rm 1 0 0).cells (a_rm 1 0 0).slots) : ∀ x ∈ P_X3_manyOf K 0 0, a_Sd X x.1 x.2 := by
  unfold P_X3_manyOf
  refine List.forall_mem_cons.mpr ⟨s_ic C dX3_manyOf_0 (by decide), ?_⟩
  refine List.forall_mem_cons.mpr ⟨s_istn C dX3_manyOf_1 rfl, ?_⟩
  refine List.forall_mem_cons.mpr ⟨s_ic C dX3_manyOf_2 (by decide), ?_⟩
  refine List.forall_mem_cons.mpr ⟨s_istn C dX3_manyOf_3 rfl, ?_⟩
  refine List.forall_mem_cons.mpr ⟨s_ildn C dX3_manyOf_4 rfl, ?_⟩
  refine List.forall_mem_cons.mpr ⟨s_aldn C dX3_manyOf_5 rfl, ?_⟩
  refine List.forall_mem_cons.mpr ⟨s_geti C rfl in_X3 (by decide) lk_X3_129 rfl dX3_manyOf_6, ?_⟩
  refine List.forall_mem_cons.mpr ⟨s_icmp_ge C dX3_manyOf_9 (by decide), ?_⟩
  refine List.forall_mem_cons.mpr ⟨s_ildn C dX3_manyOf_12 rfl, ?_⟩
  refine List.forall_mem_cons.mpr ⟨s_aldn C dX3_manyOf_13 rfl, ?_⟩
  refine List.forall_mem_cons.mpr ⟨s_getr C rfl in_X3 (by decide) lk_X3_52 rfl dX3_manyOf_14, ?_⟩
  refine List.forall_mem_cons.mpr ⟨s_ildn C dX3_manyOf_17 rfl, ?_⟩
  refine List.forall_mem_cons.mpr ⟨s_iald C dX3_manyOf_18, ?_⟩
  refine List.forall_mem_cons.mpr ⟨s_ildn C dX3_manyOf_19 rfl, ?_⟩
  refine List.forall_mem_cons.mpr ⟨s_icmp_ne C dX3_manyOf_20 (by decide), ?_⟩
  refine List.forall_mem_cons.mpr ⟨s_ic C dX3_manyOf_23 (by decide), ?_⟩
  refine List.forall_mem_cons.mpr ⟨s_goto C dX3_manyOf_24 (by decide), ?_⟩
  refine List.forall_mem_cons.mpr ⟨s_ic C dX3_manyOf_27 (by decide), ?_⟩
  refine List.forall_mem_cons.mpr ⟨s_add C dX3_manyOf_28, ?_⟩
  refine List.forall_mem_cons.mpr ⟨s_istn C dX3_manyOf_29 rfl, ?_⟩
  refine List.forall_mem_cons.mpr ⟨s_iinc C dX3_manyOf_30 (by decide), ?_⟩
  refine List.forall_mem_cons.mpr ⟨s_goto C dX3_manyOf_33 (by decide), ?_⟩
  refine List.forall_mem_cons.mpr ⟨s_ildn C dX3_manyOf_36 rfl, ?_⟩
  refine List.forall_mem_cons.mpr ⟨s_iret C M dX3_manyOf_37, ?_⟩
  exact fun _ h => absurd h List.not_mem_nil
set_option maxRecDepth 20000 in
theorem con_X3_manyOf {l : Launch} {D : va_G} {G : aG} {N0 : Nat} : a_Con l D G N0 yX3_manyOf cX3_manyOf 4 (some .int) (a_rm 1 0 0) sp_X3_manyOf := by
  refine a_con (by decide) (fun as σ K h => by obtain ⟨I, F, B, sz, v, rfl, rfl, -⟩ := h; exact (by decide : 2 ≤ 4)) ?_
  intro X as σ K h C Y M _
  obtain ⟨I, F, B, sz, v, rfl, rfl, hsz, hle, hK⟩ := h
  have hS := S_X3_manyOf C Y M
  have loop : ∀ m i, i + m = sz → a_J X 4 [some (.inr (some 16)), some (.inl v), some (.inl (nI (c_n (I 38) v i))), some (.inl (nI i))] [] (a_mk I F B) 0 0 := by
    intro m
    induction m with
    | zero =>
      intro i hi
      have hi : i = sz := by omega
      subst hi
      exact a_wp1 hS a_ivh (inv := a_iv X [4]) 40 4 _ rfl ⟨fun _ => hK, fun w => absurd (show I 16 23 ≤ nI i by rw [hsz]; exact Int32.le_refl _) w⟩
    | succ m ih =>
      intro i hi
      have hlt : i < sz := by omega
      have hn : ¬ I 16 23 ≤ nI i := by rw [hsz]; exact nI_ge hlt (by omega)
      have hcl : (nI i).toNatClampNeg = i := nI_clamp (by omega)
      have hv : vp_in (nI i) 144 := vp_in_nI (by omega) (by decide)
      have ih := ih (i + 1) (by omega)
      refine a_wp1 hS a_ivh (inv := a_iv X [4]) 40 4 _ rfl ⟨fun w => absurd w hn, fun _ => ⟨hv, fun h => ?_, fun h => ?_⟩⟩
      · have h : I 38 (nI i).toNatClampNeg = v := h
        rw [hcl] at h
        rw [show c_n (I 38) v (i + 1) = c_n (I 38) v i + 1 by show c_n (I 38) v i + (if _ then _ else _) = _; rw [if_pos h], ← nI_1 i, ← nI_1] at ih
        exact ih
      · have h : ¬ I 38 (nI i).toNatClampNeg = v := h
        rw [hcl] at h
        rw [show c_n (I 38) v (i + 1) = c_n (I 38) v i by show c_n (I 38) v i + (if _ then _ else _) = _; rw [if_neg h]; rfl, ← nI_1 i, ← Int32.add_zero (nI (c_n (I 38) v i))] at ih
        exact ih
  exact a_wps hS (inv := a_iv X [4]) a_ivh 20 _ _ _ _ _ _ (loop sz 0 (by omega))
def c_g (C : Nat → Int32) (wd : Nat) : Nat → Nat
  | 0 => 0
  | k + 1 => c_g C wd k + (if ¬ k % wd = 0 ∧ ¬ C k = C (k - 1) then 1 else 0)
def sp_X3_changes : aP := fun as σ K => ∃ I F B sz wd, σ = a_mk I F B ∧ as = [.inr (some 16)] ∧ I 16 23 = nI sz ∧ I 16 24 = nI wd ∧ sz ≤ 144 ∧ wd ≤ 12 ∧ (0 < sz → 0 < wd) ∧ K (some (.inl (nI (c_g (I 38) wd sz)))) σ
theorem rc_X3_changes : ∀ as σ K, sp_X3_changes as σ K → ∃ h As, as = .inr (some h) :: As ∧ a_is σ h 3 25 = true := by
  rintro as σ K ⟨I, F, B, sz, v, rfl, rfl, -⟩
  exact ⟨16, _, rfl, rfl⟩
theorem a_remN {a d : Nat} (ha : a < 2 ^ 31) (h0 : 0 < d) (hd : d < 2 ^ 31) : a_rem (nI a) (nI d) = nI (a % d) := pk_rem ha h0 hd
def P_X3_changes (K : aK) (bc bs : Nat) : List (Nat × aT) := [(0, t_ic 0 1),
  (1, t_ist 1 2),
  (2, t_ic 0 3),
  (3, t_ist 2 4),
  (4, t_ild 2 5),
  (5, t_ald 0 6),
  (6, t_geti 3 25 23 9),
  (9, t_ifc (fun x y => y ≤ x) 52 12),
  (12, t_ild 1 13),
  (13, t_ild 2 14),
  (14, t_ald 0 15),
  (15, t_geti 3 25 24 18),
  (18, t_rem 19),
  (19, t_if (fun x => x ≤ 0) 43 22),
  (22, t_ald 0 23),
  (23, t_getr 3 25 22 26),
  (26, t_ild 2 27),
  (27, t_iald 28),
  (28, t_ald 0 29),
  (29, t_getr 3 25 22 32),
  (32, t_ild 2 33),
  (33, t_ic 1 34),
  (34, t_sub 35),
  (35, t_iald 36),
  (36, t_ifc (fun x y => x = y) 43 39),
  (39, t_ic 1 40),
  (40, t_goto 44),
  (43, t_ic 0 44),
  (44, t_add 45),
  (45, t_ist 1 46),
  (46, t_iinc 2 1 49),
  (49, t_goto 4),
  (52, t_ild 1 53),
  (53, t_iret K bc bs)]
set_option maxRecDepth 100000 in
theorem S_X3_changes {X : a_X} {K : aK} {l : Launch} {D : va_G} {G : aG} {N0 : Nat} (C : a_C X cX3_changes (some .int) RX3) (Y : a_Y X l (a_rm 1 0 0) D G N0) (M : a_mq X K (a_rm 1 0 0).cells (a_rm 1 0 0).slots) : ∀ x ∈ P_X3_changes K 0 0, a_Sd X x.1 x.2 := by
  unfold P_X3_changes
  refine List.forall_mem_cons.mpr ⟨s_ic C dX3_changes_0 (by decide), ?_⟩
  refine List.forall_mem_cons.mpr ⟨s_istn C dX3_changes_1 rfl, ?_⟩
  refine List.forall_mem_cons.mpr ⟨s_ic C dX3_changes_2 (by decide), ?_⟩
  refine List.forall_mem_cons.mpr ⟨s_istn C dX3_changes_3 rfl, ?_⟩
  refine List.forall_mem_cons.mpr ⟨s_ildn C dX3_changes_4 rfl, ?_⟩
  refine List.forall_mem_cons.mpr ⟨s_aldn C dX3_changes_5 rfl, ?_⟩
  refine List.forall_mem_cons.mpr ⟨s_geti C rfl in_X3 (by decide) lk_X3_129 rfl dX3_changes_6, ?_⟩
  refine List.forall_mem_cons.mpr ⟨s_icmp_ge C dX3_changes_9 (by decide), ?_⟩
  refine List.forall_mem_cons.mpr ⟨s_ildn C dX3_changes_12 rfl, ?_⟩
  refine List.forall_mem_cons.mpr ⟨s_ildn C dX3_changes_13 rfl, ?_⟩
  refine List.forall_mem_cons.mpr ⟨s_aldn C dX3_changes_14 rfl, ?_⟩
  refine List.forall_mem_cons.mpr ⟨s_geti C rfl in_X3 (by decide) lk_X3_132 rfl dX3_changes_15, ?_⟩
  refine List.forall_mem_cons.mpr ⟨s_rem C dX3_changes_18, ?_⟩
  refine List.forall_mem_cons.mpr ⟨s_if_le C dX3_changes_19 (by decide), ?_⟩
  refine List.forall_mem_cons.mpr ⟨s_aldn C dX3_changes_22 rfl, ?_⟩
  refine List.forall_mem_cons.mpr ⟨s_getr C rfl in_X3 (by decide) lk_X3_52 rfl dX3_changes_23, ?_⟩
  refine List.forall_mem_cons.mpr ⟨s_ildn C dX3_changes_26 rfl, ?_⟩
  refine List.forall_mem_cons.mpr ⟨s_iald C dX3_changes_27, ?_⟩
  refine List.forall_mem_cons.mpr ⟨s_aldn C dX3_changes_28 rfl, ?_⟩
  refine List.forall_mem_cons.mpr ⟨s_getr C rfl in_X3 (by decide) lk_X3_52 rfl dX3_changes_29, ?_⟩
  refine List.forall_mem_cons.mpr ⟨s_ildn C dX3_changes_32 rfl, ?_⟩
  refine List.forall_mem_cons.mpr ⟨s_ic C dX3_changes_33 (by decide), ?_⟩
  refine List.forall_mem_cons.mpr ⟨s_sub C dX3_changes_34, ?_⟩
  refine List.forall_mem_cons.mpr ⟨s_iald C dX3_changes_35, ?_⟩
  refine List.forall_mem_cons.mpr ⟨s_icmp_eq C dX3_changes_36 (by decide), ?_⟩
  refine List.forall_mem_cons.mpr ⟨s_ic C dX3_changes_39 (by decide), ?_⟩
  refine List.forall_mem_cons.mpr ⟨s_goto C dX3_changes_40 (by decide), ?_⟩
  refine List.forall_mem_cons.mpr ⟨s_ic C dX3_changes_43 (by decide), ?_⟩
  refine List.forall_mem_cons.mpr ⟨s_add C dX3_changes_44, ?_⟩
  refine List.forall_mem_cons.mpr ⟨s_istn C dX3_changes_45 rfl, ?_⟩
  refine List.forall_mem_cons.mpr ⟨s_iinc C dX3_changes_46 (by decide), ?_⟩
  refine List.forall_mem_cons.mpr ⟨s_goto C dX3_changes_49 (by decide), ?_⟩
  refine List.forall_mem_cons.mpr ⟨s_ildn C dX3_changes_52 rfl, ?_⟩
  refine List.forall_mem_cons.mpr ⟨s_iret C M dX3_changes_53, ?_⟩
  exact fun _ h => absurd h List.not_mem_nil
set_option maxRecDepth 20000 in
theorem con_X3_changes {l : Launch} {D : va_G} {G : aG} {N0 : Nat} : a_Con l D G N0 yX3_changes cX3_changes 3 (some .int) (a_rm 1 0 0) sp_X3_changes := by
  refine a_con (by decide) (fun as σ K h => by obtain ⟨I, F, B, sz, v, rfl, rfl, -⟩ := h; exact (by decide : 1 ≤ 3)) ?_
  intro X as σ K h C Y M _
  obtain ⟨I, F, B, sz, wd, rfl, rfl, hsz, hwd, hle, hw12, hw0, hK⟩ := h
  have hS := S_X3_changes C Y M
  have loop : ∀ m i, i + m = sz → a_J X 4 [some (.inr (some 16)), some (.inl (nI (c_g (I 38) wd i))), some (.inl (nI i))] [] (a_mk I F B) 0 0 := by
    intro m
    induction m with
    | zero =>
      intro i hi
      have hi : i = sz := by omega
      subst hi
      exact a_wp1 hS a_ivh (inv := a_iv X [4]) 40 4 _ rfl ⟨fun _ => hK, fun w => absurd (show I 16 23 ≤ nI i by rw [hsz]; exact Int32.le_refl _) w⟩
    | succ m ih =>
      intro i hi
      have hlt : i < sz := by omega
      have hn : ¬ I 16 23 ≤ nI i := by rw [hsz]; exact nI_ge hlt (by omega)
      have hcl : (nI i).toNatClampNeg = i := nI_clamp (by omega)
      have hv : vp_in (nI i) 144 := vp_in_nI (by omega) (by decide)
      have hwp : 0 < wd := hw0 (by omega)
      have hwne : ¬ I 16 24 = 0 := by rw [hwd]; exact nI_ne0 hwp (by omega)
      have erem : a_rem (nI i) (I 16 24) = nI (i % wd) := by rw [hwd]; exact a_remN (by omega) hwp (by omega)
      have ih := ih (i + 1) (by omega)
      refine a_wp1 hS a_ivh (inv := a_iv X [4]) 40 4 _ rfl ⟨fun w => absurd w hn, fun _ => ⟨hwne, fun h => ?_, fun h => ?_⟩⟩
      · have h : a_rem (nI i) (I 16 24) ≤ 0 := h
        rw [erem] at h
        have hz : i % wd = 0 := by
          rcases Nat.eq_zero_or_pos (i % wd) with z | z
          · exact z
          · exact absurd h (nI_nle z (by have := Nat.mod_lt i hwp; omega))
        rw [show c_g (I 38) wd (i + 1) = c_g (I 38) wd i by show c_g (I 38) wd i + (if _ then _ else _) = _; rw [if_neg (fun w => w.1 hz)]; rfl, ← nI_1 i, ← Int32.add_zero (nI (c_g (I 38) wd i))] at ih
        exact ih
      · have h : ¬ a_rem (nI i) (I 16 24) ≤ 0 := h
        rw [erem] at h
        have hz : ¬ i % wd = 0 := fun z => h (by rw [z]; decide)
        have hi0 : 0 < i := by
          rcases Nat.eq_zero_or_pos i with z | z
          · subst z; rw [Nat.zero_mod] at hz; exact absurd rfl hz
          · exact z
        obtain ⟨i', rfl⟩ : ∃ i', i = i' + 1 := ⟨i - 1, by omega⟩
        have hcl2 : (nI (i' + 1) - 1).toNatClampNeg = i' := by rw [nI_pred]; exact nI_clamp (by omega)
        refine ⟨hv, by show vp_in (nI (i' + 1) - 1) 144; rw [nI_pred]; exact vp_in_nI (by omega) (by decide), fun h2 => ?_, fun h2 => ?_⟩
        · have h2 : I 38 (nI (i' + 1)).toNatClampNeg = I 38 (nI (i' + 1) - 1).toNatClampNeg := h2
          rw [hcl, hcl2] at h2
          rw [show c_g (I 38) wd (i' + 1 + 1) = c_g (I 38) wd (i' + 1) by show c_g (I 38) wd (i' + 1) + (if _ then _ else _) = _; rw [if_neg (fun w => w.2 h2)]; rfl, ← nI_1 (i' + 1), ← Int32.add_zero (nI (c_g (I 38) wd (i' + 1)))] at ih
          exact ih
        · have h2 : ¬ I 38 (nI (i' + 1)).toNatClampNeg = I 38 (nI (i' + 1) - 1).toNatClampNeg := h2
          rw [hcl, hcl2] at h2
          rw [show c_g (I 38) wd (i' + 1 + 1) = c_g (I 38) wd (i' + 1) + 1 by show c_g (I 38) wd (i' + 1) + (if _ then _ else _) = _; rw [if_pos ⟨hz, h2⟩], ← nI_1 (i' + 1), ← nI_1 (c_g (I 38) wd (i' + 1))] at ih
          exact ih
  exact a_wps hS (inv := a_iv X [4]) a_ivh 20 _ _ _ _ _ _ (loop sz 0 (by omega))
/-- the best so far: colour and how often -/
def c_b (C : Nat → Int32) (sz : Nat) : Nat → Int32 × Nat
  | 0 => (0, 0)
  | k + 1 => if c_n C (C k) sz ≤ (c_b C sz k).2 then c_b C sz k else (C k, c_n C (C k) sz)
theorem c_b_le (C : Nat → Int32) (sz : Nat) : ∀ k, (c_b C sz k).2 ≤ sz
  | 0 => Nat.zero_le _
  | k + 1 => by
    show (if c_n C (C k) sz ≤ (c_b C sz k).2 then c_b C sz k else (C k, c_n C (C k) sz)).2 ≤ sz
    split
    · exact c_b_le C sz k
    · exact c_n_le _ _ _
def sp_X3_most : aP := fun as σ K => ∃ I F B sz, σ = a_mk I F B ∧ as = [.inr (some 16)] ∧ I 16 23 = nI sz ∧ sz ≤ 144 ∧ K (some (.inl (c_b (I 38) sz sz).1)) σ
theorem rc_X3_most : ∀ as σ K, sp_X3_most as σ K → ∃ h As, as = .inr (some h) :: As ∧ a_is σ h 3 25 = true := by
  rintro as σ K ⟨I, F, B, sz, rfl, rfl, -⟩
  exact ⟨16, _, rfl, rfl⟩
def P_X3_most (K : aK) (bc bs : Nat) : List (Nat × aT) := [(0, t_ic 0 1),
  (1, t_ist 1 2),
  (2, t_ic 0 3),
  (3, t_ist 2 4),
  (4, t_ic 0 5),
  (5, t_ist 3 6),
  (6, t_ild 3 7),
  (7, t_ald 0 8),
  (8, t_geti 3 25 23 11),
  (11, t_ifc (fun x y => y ≤ x) 48 14),
  (14, t_ald 0 15),
  (15, t_ald 0 16),
  (16, t_getr 3 25 22 19),
  (19, t_ild 3 20),
  (20, t_iald 21),
  (21, t_call 2 0 0 bc bs sp_X3_manyOf 24),
  (24, t_ist 4 26),
  (26, t_ild 4 28),
  (28, t_ild 2 29),
  (29, t_ifc (fun x y => x ≤ y) 42 32),
  (32, t_ild 4 34),
  (34, t_ist 2 35),
  (35, t_ald 0 36),
  (36, t_getr 3 25 22 39),
  (39, t_ild 3 40),
  (40, t_iald 41),
  (41, t_ist 1 42),
  (42, t_iinc 3 1 45),
  (45, t_goto 6),
  (48, t_ild 1 49),
  (49, t_iret K bc bs)]
set_option maxRecDepth 100000 in
theorem S_X3_most {X : a_X} {K : aK} {l : Launch} {D : va_G} {G : aG} {N0 : Nat} (C : a_C X cX3_most (some .int) RX3) (Y : a_Y X l (a_rm 2 0 0) D G N0) (M : a_mq X K (a_rm 2 0 0).cells (a_rm 2 0 0).slots) : ∀ x ∈ P_X3_most K 0 0, a_Sd X x.1 x.2 := by
  unfold P_X3_most
  refine List.forall_mem_cons.mpr ⟨s_ic C dX3_most_0 (by decide), ?_⟩
  refine List.forall_mem_cons.mpr ⟨s_istn C dX3_most_1 rfl, ?_⟩
  refine List.forall_mem_cons.mpr ⟨s_ic C dX3_most_2 (by decide), ?_⟩
  refine List.forall_mem_cons.mpr ⟨s_istn C dX3_most_3 rfl, ?_⟩
  refine List.forall_mem_cons.mpr ⟨s_ic C dX3_most_4 (by decide), ?_⟩
  refine List.forall_mem_cons.mpr ⟨s_istn C dX3_most_5 rfl, ?_⟩
  refine List.forall_mem_cons.mpr ⟨s_ildn C dX3_most_6 rfl, ?_⟩
  refine List.forall_mem_cons.mpr ⟨s_aldn C dX3_most_7 rfl, ?_⟩
  refine List.forall_mem_cons.mpr ⟨s_geti C rfl in_X3 (by decide) lk_X3_129 rfl dX3_most_8, ?_⟩
  refine List.forall_mem_cons.mpr ⟨s_icmp_ge C dX3_most_11 (by decide), ?_⟩
  refine List.forall_mem_cons.mpr ⟨s_aldn C dX3_most_14 rfl, ?_⟩
  refine List.forall_mem_cons.mpr ⟨s_aldn C dX3_most_15 rfl, ?_⟩
  refine List.forall_mem_cons.mpr ⟨s_getr C rfl in_X3 (by decide) lk_X3_52 rfl dX3_most_16, ?_⟩
  refine List.forall_mem_cons.mpr ⟨s_ildn C dX3_most_19 rfl, ?_⟩
  refine List.forall_mem_cons.mpr ⟨s_iald C dX3_most_20, ?_⟩
  refine List.forall_mem_cons.mpr ⟨s_callV (rm := (a_rm 1 0 0)) (n := 1) C Y (ci := 3) rfl con_X3_manyOf rc_X3_manyOf co_X3_manyOf ml_X3_135 im_X3_manyOf se_X3_manyOf ii_X3 (by decide +kernel) ⟨by decide, by decide⟩ ⟨rfl, rfl⟩ dX3_most_21, ?_⟩
  refine List.forall_mem_cons.mpr ⟨s_ist C dX3_most_24, ?_⟩
  refine List.forall_mem_cons.mpr ⟨s_ild C dX3_most_26, ?_⟩
  refine List.forall_mem_cons.mpr ⟨s_ildn C dX3_most_28 rfl, ?_⟩
  refine List.forall_mem_cons.mpr ⟨s_icmp_le C dX3_most_29 (by decide), ?_⟩
  refine List.forall_mem_cons.mpr ⟨s_ild C dX3_most_32, ?_⟩
  refine List.forall_mem_cons.mpr ⟨s_istn C dX3_most_34 rfl, ?_⟩
  refine List.forall_mem_cons.mpr ⟨s_aldn C dX3_most_35 rfl, ?_⟩
  refine List.forall_mem_cons.mpr ⟨s_getr C rfl in_X3 (by decide) lk_X3_52 rfl dX3_most_36, ?_⟩
  refine List.forall_mem_cons.mpr ⟨s_ildn C dX3_most_39 rfl, ?_⟩
  refine List.forall_mem_cons.mpr ⟨s_iald C dX3_most_40, ?_⟩
  refine List.forall_mem_cons.mpr ⟨s_istn C dX3_most_41 rfl, ?_⟩
  refine List.forall_mem_cons.mpr ⟨s_iinc C dX3_most_42 (by decide), ?_⟩
  refine List.forall_mem_cons.mpr ⟨s_goto C dX3_most_45 (by decide), ?_⟩
  refine List.forall_mem_cons.mpr ⟨s_ildn C dX3_most_48 rfl, ?_⟩
  refine List.forall_mem_cons.mpr ⟨s_iret C M dX3_most_49, ?_⟩
  exact fun _ h => absurd h List.not_mem_nil
set_option maxRecDepth 20000 in
theorem con_X3_most {l : Launch} {D : va_G} {G : aG} {N0 : Nat} : a_Con l D G N0 yX3_most cX3_most 5 (some .int) (a_rm 2 0 0) sp_X3_most := by
  refine a_con (by decide) (fun as σ K h => by obtain ⟨I, F, B, sz, rfl, rfl, -⟩ := h; exact (by decide : 1 ≤ 5)) ?_
  intro X as σ K h C Y M _
  obtain ⟨I, F, B, sz, rfl, rfl, hsz, hle, hK⟩ := h
  have hS := S_X3_most C Y M
  have loop : ∀ m i (q : Option aV), i + m = sz → a_J X 6 [some (.inr (some 16)), some (.inl (c_b (I 38) sz i).1), some (.inl (nI (c_b (I 38) sz i).2)), some (.inl (nI i)), q] [] (a_mk I F B) 0 0 := by
    intro m
    induction m with
    | zero =>
      intro i q hi
      have hi : i = sz := by omega
      subst hi
      exact a_wp1 hS a_ivh (inv := a_iv X [6]) 40 6 _ rfl ⟨fun _ => hK, fun w => absurd (show I 16 23 ≤ nI i by rw [hsz]; exact Int32.le_refl _) w⟩
    | succ m ih =>
      intro i q hi
      have hlt : i < sz := by omega
      have hn : ¬ I 16 23 ≤ nI i := by rw [hsz]; exact nI_ge hlt (by omega)
      have hcl : (nI i).toNatClampNeg = i := nI_clamp (by omega)
      have hv : vp_in (nI i) 144 := vp_in_nI (by omega) (by decide)
      have b1 := c_n_le (I 38) (I 38 i) sz
      have b2 := c_b_le (I 38) sz i
      refine a_wp1 hS a_ivh (inv := a_iv X [6]) 40 6 _ rfl ⟨fun w => absurd w hn, fun _ => ⟨hv, I, F, B, sz, I 38 i, rfl, ?_, hsz, hle, fun h => ?_, fun h => ⟨hv, ?_⟩⟩⟩
      · show [Sum.inr (some 16), Sum.inl (I 38 (nI i).toNatClampNeg)] = _
        rw [hcl]
      · have h : nI (c_n (I 38) (I 38 i) sz) ≤ nI (c_b (I 38) sz i).2 := h
        have h := (nI_leI (by omega) (by omega)).mp h
        have ih := ih (i + 1) (some (.inl (nI (c_n (I 38) (I 38 i) sz)))) (by omega)
        rw [show c_b (I 38) sz (i + 1) = c_b (I 38) sz i from if_pos h, ← nI_1 i] at ih
        exact ih
      · have h : ¬ nI (c_n (I 38) (I 38 i) sz) ≤ nI (c_b (I 38) sz i).2 := h
        have h : ¬ c_n (I 38) (I 38 i) sz ≤ (c_b (I 38) sz i).2 := fun w => h ((nI_leI (by omega) (by omega)).mpr w)
        have ih := ih (i + 1) (some (.inl (nI (c_n (I 38) (I 38 i) sz)))) (by omega)
        rw [show c_b (I 38) sz (i + 1) = (I 38 i, c_n (I 38) (I 38 i) sz) from if_neg h, ← nI_1 i] at ih
        show a_J X 6 [some (.inr (some 16)), some (.inl (I 38 (nI i).toNatClampNeg)), some (.inl (nI (c_n (I 38) (I 38 i) sz))), some (.inl (nI i + 1)), some (.inl (nI (c_n (I 38) (I 38 i) sz)))] [] (a_mk I F B) 0 0
        rw [hcl]
        exact ih
  exact a_wps hS (inv := a_iv X [6]) a_ivh 20 _ _ _ _ _ _ (loop sz 0 none (by omega))
end
section
/-! ===== the reference's pattern and weave ===== -/
def m_bad (s b : Int32) : Prop := (s = 4 ∧ m_in b 0 3 = 0) ∨ (s = 10 ∧ m_in b 1 50 = 0) ∨ (s = 12 ∧ m_in b 0 3 = 0)
def m_cpy (J : Nat → Nat → Int32) (n d k : Nat) : Nat → Nat → Int32 := fun h j => if h = 21 ∧ 8 * n ≤ j ∧ j < 8 * n + k then J 24 (8 * d + (j - 8 * n)) else J h j
theorem m_cpy_0 (J : Nat → Nat → Int32) (n d : Nat) : m_cpy J n d 0 = J := by
  funext h j
  exact if_neg (fun w => by omega)
theorem m_cpy_s (J : Nat → Nat → Int32) (n d k : Nat) : a_w (m_cpy J n d k) 21 (8 * n + k) (J 24 (8 * d + k)) = m_cpy J n d (k + 1) := by
  funext h j
  unfold a_w m_cpy
  by_cases e : h = 21 ∧ j = 8 * n + k
  · rw [if_pos e, if_pos ⟨e.1, by omega, by omega⟩, e.2, Nat.add_sub_cancel_left]
  · rw [if_neg e]
    by_cases e2 : h = 21 ∧ 8 * n ≤ j ∧ j < 8 * n + k
    · rw [if_pos e2, if_pos ⟨e2.1, e2.2.1, by omega⟩]
    · rw [if_neg e2, if_neg (fun w => e2 ⟨w.1, w.2.1, by
        rcases Nat.lt_or_ge j (8 * n + k) with z | z
        · exact z
        · exact absurd ⟨w.1, by omega⟩ e⟩)]
def m_p6 (I : Nat → Nat → Int32) (n : Nat) (s a b c : Int32) : Nat → Nat → Int32 := a_w (a_w (a_w (a_w (a_w (a_w I 17 n s) 18 n a) 19 n b) 20 n c) 23 n 0) 22 n (if s = 13 then I 25 a.toNatClampNeg else -1)
def m_pt (I : Nat → Nat → Int32) (n : Nat) (s a b c : Int32) : Nat → Nat → Int32 := a_w (if s = 8 then m_cpy (m_p6 I n s a b c) n b.toNatClampNeg 8 else m_p6 I n s a b c) 16 0 (nI (n + 1))
def sp_X3_pattern : aP := fun as σ K => ∃ I F B n s a b c, σ = a_mk I F B ∧ as = [.inr (some 16), .inl s, .inl a, .inl b, .inl c] ∧ I 16 0 = nI n ∧ n ≤ 60 ∧
  (m_in s 0 13 = 0 → K (some (.inl (-2))) σ) ∧ (¬ m_in s 0 13 = 0 → m_there (nI n - 1) s a b c = 0 → K (some (.inl (-3))) σ) ∧
  (¬ m_in s 0 13 = 0 → ¬ m_there (nI n - 1) s a b c = 0 → m_bad s b → K (some (.inl (-2))) σ) ∧
  (¬ m_in s 0 13 = 0 → ¬ m_there (nI n - 1) s a b c = 0 → ¬ m_bad s b → n = 60 → K (some (.inl (-4))) σ) ∧
  (¬ m_in s 0 13 = 0 → ¬ m_there (nI n - 1) s a b c = 0 → ¬ m_bad s b → n < 60 → K (some (.inl (nI n))) (a_mk (m_pt I n s a b c) F B))
theorem rc_X3_pattern : ∀ as σ K, sp_X3_pattern as σ K → ∃ h As, as = .inr (some h) :: As ∧ a_is σ h 3 25 = true := by
  rintro as σ K ⟨I, F, B, n, s, a, b, c, rfl, rfl, -⟩
  exact ⟨16, _, rfl, rfl⟩
def P_X3_pattern (K : aK) (bc bs : Nat) : List (Nat × aT) := [(0, t_ild 1 1),
  (1, t_ic 0 2),
  (2, t_ic 13 4),
  (4, t_call 3 0 0 bc bs sp_X3_in 7),
  (7, t_if (fun x => x = 0) 10 13),
  (10, t_ic (-2) 12),
  (12, t_iret K bc bs),
  (13, t_ald 0 14),
  (14, t_ild 1 15),
  (15, t_ild 2 16),
  (16, t_ild 3 17),
  (17, t_ild 4 19),
  (19, t_call 5 0 0 bc bs sp_X3_areThere 22),
  (22, t_if (fun x => x = 0) 25 28),
  (25, t_ic (-3) 27),
  (27, t_iret K bc bs),
  (28, t_ild 1 29),
  (29, t_ic 4 30),
  (30, t_ifc (fun x y => x = y) 33 42),
  (33, t_ild 3 34),
  (34, t_ic 0 35),
  (35, t_ic 3 36),
  (36, t_call 3 0 0 bc bs sp_X3_in 39),
  (39, t_if (fun x => x = 0) 73 42),
  (42, t_ild 1 43),
  (43, t_ic 10 45),
  (45, t_ifc (fun x y => x = y) 48 58),
  (48, t_ild 3 49),
  (49, t_ic 1 50),
  (50, t_ic 50 52),
  (52, t_call 3 0 0 bc bs sp_X3_in 55),
  (55, t_if (fun x => x = 0) 73 58),
  (58, t_ild 1 59),
  (59, t_ic 12 61),
  (61, t_ifc (fun x y => x = y) 64 76),
  (64, t_ild 3 65),
  (65, t_ic 0 66),
  (66, t_ic 3 67),
  (67, t_call 3 0 0 bc bs sp_X3_in 70),
  (70, t_if (fun x => x = 0) 73 76),
  (73, t_ic (-2) 75),
  (75, t_iret K bc bs),
  (76, t_ald 0 77),
  (77, t_geti 3 25 0 80),
  (80, t_ic 60 82),
  (82, t_ifc (fun x y => x = y) 85 88),
  (85, t_ic (-4) 87),
  (87, t_iret K bc bs),
  (88, t_ald 0 89),
  (89, t_geti 3 25 0 92),
  (92, t_ist 5 94),
  (94, t_ald 0 95),
  (95, t_getr 3 25 1 98),
  (98, t_ild 5 100),
  (100, t_ild 1 101),
  (101, t_iast 102),
  (102, t_ald 0 103),
  (103, t_getr 3 25 2 106),
  (106, t_ild 5 108),
  (108, t_ild 2 109),
  (109, t_iast 110),
  (110, t_ald 0 111),
  (111, t_getr 3 25 3 114),
  (114, t_ild 5 116),
  (116, t_ild 3 117),
  (117, t_iast 118),
  (118, t_ald 0 119),
  (119, t_getr 3 25 4 122),
  (122, t_ild 5 124),
  (124, t_ild 4 126),
  (126, t_iast 127),
  (127, t_ald 0 128),
  (128, t_getr 3 25 7 131),
  (131, t_ild 5 133),
  (133, t_ic 0 134),
  (134, t_iast 135),
  (135, t_ald 0 136),
  (136, t_getr 3 25 6 139),
  (139, t_ild 5 141),
  (141, t_ild 1 142),
  (142, t_ic 13 144),
  (144, t_ifc (fun x y => x = y) 147 156),
  (147, t_ald 0 148),
  (148, t_getr 3 25 9 151),
  (151, t_ild 2 152),
  (152, t_iald 153),
  (153, t_goto 157),
  (156, t_ic (-1) 157),
  (157, t_iast 158),
  (158, t_ic 0 159),
  (159, t_ist 6 161),
  (161, t_ild 6 163),
  (163, t_ic 8 165),
  (165, t_ifc (fun x y => y ≤ x) 205 168),
  (168, t_ild 1 169),
  (169, t_ic 8 171),
  (171, t_ifc (fun x y => x = y) 174 205),
  (174, t_ald 0 175),
  (175, t_getr 3 25 5 178),
  (178, t_ic 8 180),
  (180, t_ild 5 182),
  (182, t_mul 183),
  (183, t_ild 6 185),
  (185, t_add 186),
  (186, t_ald 0 187),
  (187, t_getr 3 25 8 190),
  (190, t_ic 8 192),
  (192, t_ild 3 193),
  (193, t_mul 194),
  (194, t_ild 6 196),
  (196, t_add 197),
  (197, t_iald 198),
  (198, t_iast 199),
  (199, t_iinc 6 1 202),
  (202, t_goto 161),
  (205, t_ald 0 206),
  (206, t_dup 207),
  (207, t_geti 3 25 0 210),
  (210, t_ic 1 211),
  (211, t_add 212),
  (212, t_puti 3 25 0 215),
  (215, t_ild 5 217),
  (217, t_iret K bc bs)]
set_option maxRecDepth 100000 in
theorem S_X3_pattern {X : a_X} {K : aK} {l : Launch} {D : va_G} {G : aG} {N0 : Nat} (C : a_C X cX3_pattern (some .int) RX3) (Y : a_Y X l (a_rm 4 0 0) D G N0) (M : a_mq X K (a_rm 4 0 0).cells (a_rm 4 0 0).slots) : ∀ x ∈ P_X3_pattern K 0 0, a_Sd X x.1 x.2 := by
  unfold P_X3_pattern
  refine List.forall_mem_cons.mpr ⟨s_ildn C dX3_pattern_0 rfl, ?_⟩
  refine List.forall_mem_cons.mpr ⟨s_ic C dX3_pattern_1 (by decide), ?_⟩
  refine List.forall_mem_cons.mpr ⟨s_bi C dX3_pattern_2 (by decide), ?_⟩
  refine List.forall_mem_cons.mpr ⟨s_callS (rm := (a_rm 1 0 0)) C Y con_X3_in co_X3_in ml_X3_59 st_X3_in ii_X3 (by decide +kernel) ⟨by decide, by decide⟩ ⟨rfl, rfl⟩ dX3_pattern_4, ?_⟩
  refine List.forall_mem_cons.mpr ⟨s_if_ne C dX3_pattern_7 (by decide), ?_⟩
  refine List.forall_mem_cons.mpr ⟨s_bi C dX3_pattern_10 (by decide), ?_⟩
  refine List.forall_mem_cons.mpr ⟨s_iret C M dX3_pattern_12, ?_⟩
  refine List.forall_mem_cons.mpr ⟨s_aldn C dX3_pattern_13 rfl, ?_⟩
  refine List.forall_mem_cons.mpr ⟨s_ildn C dX3_pattern_14 rfl, ?_⟩
  refine List.forall_mem_cons.mpr ⟨s_ildn C dX3_pattern_15 rfl, ?_⟩
  refine List.forall_mem_cons.mpr ⟨s_ildn C dX3_pattern_16 rfl, ?_⟩
  refine List.forall_mem_cons.mpr ⟨s_ild C dX3_pattern_17, ?_⟩
  refine List.forall_mem_cons.mpr ⟨s_callV (rm := (a_rm 3 0 0)) (n := 4) C Y (ci := 3) rfl con_X3_areThere rc_X3_areThere co_X3_areThere ml_X3_70 im_X3_areThere se_X3_areThere ii_X3 (by decide +kernel) ⟨by decide, by decide⟩ ⟨rfl, rfl⟩ dX3_pattern_19, ?_⟩
  refine List.forall_mem_cons.mpr ⟨s_if_ne C dX3_pattern_22 (by decide), ?_⟩
  refine List.forall_mem_cons.mpr ⟨s_bi C dX3_pattern_25 (by decide), ?_⟩
  refine List.forall_mem_cons.mpr ⟨s_iret C M dX3_pattern_27, ?_⟩
  refine List.forall_mem_cons.mpr ⟨s_ildn C dX3_pattern_28 rfl, ?_⟩
  refine List.forall_mem_cons.mpr ⟨s_ic C dX3_pattern_29 (by decide), ?_⟩
  refine List.forall_mem_cons.mpr ⟨s_icmp_ne C dX3_pattern_30 (by decide), ?_⟩
  refine List.forall_mem_cons.mpr ⟨s_ildn C dX3_pattern_33 rfl, ?_⟩
  refine List.forall_mem_cons.mpr ⟨s_ic C dX3_pattern_34 (by decide), ?_⟩
  refine List.forall_mem_cons.mpr ⟨s_ic C dX3_pattern_35 (by decide), ?_⟩
  refine List.forall_mem_cons.mpr ⟨s_callS (rm := (a_rm 1 0 0)) C Y con_X3_in co_X3_in ml_X3_59 st_X3_in ii_X3 (by decide +kernel) ⟨by decide, by decide⟩ ⟨rfl, rfl⟩ dX3_pattern_36, ?_⟩
  refine List.forall_mem_cons.mpr ⟨s_if_eq C dX3_pattern_39 (by decide), ?_⟩
  refine List.forall_mem_cons.mpr ⟨s_ildn C dX3_pattern_42 rfl, ?_⟩
  refine List.forall_mem_cons.mpr ⟨s_bi C dX3_pattern_43 (by decide), ?_⟩
  refine List.forall_mem_cons.mpr ⟨s_icmp_ne C dX3_pattern_45 (by decide), ?_⟩
  refine List.forall_mem_cons.mpr ⟨s_ildn C dX3_pattern_48 rfl, ?_⟩
  refine List.forall_mem_cons.mpr ⟨s_ic C dX3_pattern_49 (by decide), ?_⟩
  refine List.forall_mem_cons.mpr ⟨s_bi C dX3_pattern_50 (by decide), ?_⟩
  refine List.forall_mem_cons.mpr ⟨s_callS (rm := (a_rm 1 0 0)) C Y con_X3_in co_X3_in ml_X3_59 st_X3_in ii_X3 (by decide +kernel) ⟨by decide, by decide⟩ ⟨rfl, rfl⟩ dX3_pattern_52, ?_⟩
  refine List.forall_mem_cons.mpr ⟨s_if_eq C dX3_pattern_55 (by decide), ?_⟩
  refine List.forall_mem_cons.mpr ⟨s_ildn C dX3_pattern_58 rfl, ?_⟩
  refine List.forall_mem_cons.mpr ⟨s_bi C dX3_pattern_59 (by decide), ?_⟩
  refine List.forall_mem_cons.mpr ⟨s_icmp_ne C dX3_pattern_61 (by decide), ?_⟩
  refine List.forall_mem_cons.mpr ⟨s_ildn C dX3_pattern_64 rfl, ?_⟩
  refine List.forall_mem_cons.mpr ⟨s_ic C dX3_pattern_65 (by decide), ?_⟩
  refine List.forall_mem_cons.mpr ⟨s_ic C dX3_pattern_66 (by decide), ?_⟩
  refine List.forall_mem_cons.mpr ⟨s_callS (rm := (a_rm 1 0 0)) C Y con_X3_in co_X3_in ml_X3_59 st_X3_in ii_X3 (by decide +kernel) ⟨by decide, by decide⟩ ⟨rfl, rfl⟩ dX3_pattern_67, ?_⟩
  refine List.forall_mem_cons.mpr ⟨s_if_ne C dX3_pattern_70 (by decide), ?_⟩
  refine List.forall_mem_cons.mpr ⟨s_bi C dX3_pattern_73 (by decide), ?_⟩
  refine List.forall_mem_cons.mpr ⟨s_iret C M dX3_pattern_75, ?_⟩
  refine List.forall_mem_cons.mpr ⟨s_aldn C dX3_pattern_76 rfl, ?_⟩
  refine List.forall_mem_cons.mpr ⟨s_geti C rfl in_X3 (by decide) lk_X3_55 rfl dX3_pattern_77, ?_⟩
  refine List.forall_mem_cons.mpr ⟨s_bi C dX3_pattern_80 (by decide), ?_⟩
  refine List.forall_mem_cons.mpr ⟨s_icmp_ne C dX3_pattern_82 (by decide), ?_⟩
  refine List.forall_mem_cons.mpr ⟨s_bi C dX3_pattern_85 (by decide), ?_⟩
  refine List.forall_mem_cons.mpr ⟨s_iret C M dX3_pattern_87, ?_⟩
  refine List.forall_mem_cons.mpr ⟨s_aldn C dX3_pattern_88 rfl, ?_⟩
  refine List.forall_mem_cons.mpr ⟨s_geti C rfl in_X3 (by decide) lk_X3_55 rfl dX3_pattern_89, ?_⟩
  refine List.forall_mem_cons.mpr ⟨s_ist C dX3_pattern_92, ?_⟩
  refine List.forall_mem_cons.mpr ⟨s_aldn C dX3_pattern_94 rfl, ?_⟩
  refine List.forall_mem_cons.mpr ⟨s_getr C rfl in_X3 (by decide) lk_X3_7 rfl dX3_pattern_95, ?_⟩
  refine List.forall_mem_cons.mpr ⟨s_ild C dX3_pattern_98, ?_⟩
  refine List.forall_mem_cons.mpr ⟨s_ildn C dX3_pattern_100 rfl, ?_⟩
  refine List.forall_mem_cons.mpr ⟨s_iast C dX3_pattern_101, ?_⟩
  refine List.forall_mem_cons.mpr ⟨s_aldn C dX3_pattern_102 rfl, ?_⟩
  refine List.forall_mem_cons.mpr ⟨s_getr C rfl in_X3 (by decide) lk_X3_13 rfl dX3_pattern_103, ?_⟩
  refine List.forall_mem_cons.mpr ⟨s_ild C dX3_pattern_106, ?_⟩
  refine List.forall_mem_cons.mpr ⟨s_ildn C dX3_pattern_108 rfl, ?_⟩
  refine List.forall_mem_cons.mpr ⟨s_iast C dX3_pattern_109, ?_⟩
  refine List.forall_mem_cons.mpr ⟨s_aldn C dX3_pattern_110 rfl, ?_⟩
  refine List.forall_mem_cons.mpr ⟨s_getr C rfl in_X3 (by decide) lk_X3_16 rfl dX3_pattern_111, ?_⟩
  refine List.forall_mem_cons.mpr ⟨s_ild C dX3_pattern_114, ?_⟩
  refine List.forall_mem_cons.mpr ⟨s_ildn C dX3_pattern_116 rfl, ?_⟩
  refine List.forall_mem_cons.mpr ⟨s_iast C dX3_pattern_117, ?_⟩
  refine List.forall_mem_cons.mpr ⟨s_aldn C dX3_pattern_118 rfl, ?_⟩
  refine List.forall_mem_cons.mpr ⟨s_getr C rfl in_X3 (by decide) lk_X3_19 rfl dX3_pattern_119, ?_⟩
  refine List.forall_mem_cons.mpr ⟨s_ild C dX3_pattern_122, ?_⟩
  refine List.forall_mem_cons.mpr ⟨s_ild C dX3_pattern_124, ?_⟩
  refine List.forall_mem_cons.mpr ⟨s_iast C dX3_pattern_126, ?_⟩
  refine List.forall_mem_cons.mpr ⟨s_aldn C dX3_pattern_127 rfl, ?_⟩
  refine List.forall_mem_cons.mpr ⟨s_getr C rfl in_X3 (by decide) lk_X3_28 rfl dX3_pattern_128, ?_⟩
  refine List.forall_mem_cons.mpr ⟨s_ild C dX3_pattern_131, ?_⟩
  refine List.forall_mem_cons.mpr ⟨s_ic C dX3_pattern_133 (by decide), ?_⟩
  refine List.forall_mem_cons.mpr ⟨s_iast C dX3_pattern_134, ?_⟩
  refine List.forall_mem_cons.mpr ⟨s_aldn C dX3_pattern_135 rfl, ?_⟩
  refine List.forall_mem_cons.mpr ⟨s_getr C rfl in_X3 (by decide) lk_X3_25 rfl dX3_pattern_136, ?_⟩
  refine List.forall_mem_cons.mpr ⟨s_ild C dX3_pattern_139, ?_⟩
  refine List.forall_mem_cons.mpr ⟨s_ildn C dX3_pattern_141 rfl, ?_⟩
  refine List.forall_mem_cons.mpr ⟨s_bi C dX3_pattern_142 (by decide), ?_⟩
  refine List.forall_mem_cons.mpr ⟨s_icmp_ne C dX3_pattern_144 (by decide), ?_⟩
  refine List.forall_mem_cons.mpr ⟨s_aldn C dX3_pattern_147 rfl, ?_⟩
  refine List.forall_mem_cons.mpr ⟨s_getr C rfl in_X3 (by decide) lk_X3_34 rfl dX3_pattern_148, ?_⟩
  refine List.forall_mem_cons.mpr ⟨s_ildn C dX3_pattern_151 rfl, ?_⟩
  refine List.forall_mem_cons.mpr ⟨s_iald C dX3_pattern_152, ?_⟩
  refine List.forall_mem_cons.mpr ⟨s_goto C dX3_pattern_153 (by decide), ?_⟩
  refine List.forall_mem_cons.mpr ⟨s_ic C dX3_pattern_156 (by decide), ?_⟩
  refine List.forall_mem_cons.mpr ⟨s_iast C dX3_pattern_157, ?_⟩
  refine List.forall_mem_cons.mpr ⟨s_ic C dX3_pattern_158 (by decide), ?_⟩
  refine List.forall_mem_cons.mpr ⟨s_ist C dX3_pattern_159, ?_⟩
  refine List.forall_mem_cons.mpr ⟨s_ild C dX3_pattern_161, ?_⟩
  refine List.forall_mem_cons.mpr ⟨s_bi C dX3_pattern_163 (by decide), ?_⟩
  refine List.forall_mem_cons.mpr ⟨s_icmp_ge C dX3_pattern_165 (by decide), ?_⟩
  refine List.forall_mem_cons.mpr ⟨s_ildn C dX3_pattern_168 rfl, ?_⟩
  refine List.forall_mem_cons.mpr ⟨s_bi C dX3_pattern_169 (by decide), ?_⟩
  refine List.forall_mem_cons.mpr ⟨s_icmp_ne C dX3_pattern_171 (by decide), ?_⟩
  refine List.forall_mem_cons.mpr ⟨s_aldn C dX3_pattern_174 rfl, ?_⟩
  refine List.forall_mem_cons.mpr ⟨s_getr C rfl in_X3 (by decide) lk_X3_22 rfl dX3_pattern_175, ?_⟩
  refine List.forall_mem_cons.mpr ⟨s_bi C dX3_pattern_178 (by decide), ?_⟩
  refine List.forall_mem_cons.mpr ⟨s_ild C dX3_pattern_180, ?_⟩
  refine List.forall_mem_cons.mpr ⟨s_mul C dX3_pattern_182, ?_⟩
  refine List.forall_mem_cons.mpr ⟨s_ild C dX3_pattern_183, ?_⟩
  refine List.forall_mem_cons.mpr ⟨s_add C dX3_pattern_185, ?_⟩
  refine List.forall_mem_cons.mpr ⟨s_aldn C dX3_pattern_186 rfl, ?_⟩
  refine List.forall_mem_cons.mpr ⟨s_getr C rfl in_X3 (by decide) lk_X3_31 rfl dX3_pattern_187, ?_⟩
  refine List.forall_mem_cons.mpr ⟨s_bi C dX3_pattern_190 (by decide), ?_⟩
  refine List.forall_mem_cons.mpr ⟨s_ildn C dX3_pattern_192 rfl, ?_⟩
  refine List.forall_mem_cons.mpr ⟨s_mul C dX3_pattern_193, ?_⟩
  refine List.forall_mem_cons.mpr ⟨s_ild C dX3_pattern_194, ?_⟩
  refine List.forall_mem_cons.mpr ⟨s_add C dX3_pattern_196, ?_⟩
  refine List.forall_mem_cons.mpr ⟨s_iald C dX3_pattern_197, ?_⟩
  refine List.forall_mem_cons.mpr ⟨s_iast C dX3_pattern_198, ?_⟩
  refine List.forall_mem_cons.mpr ⟨s_iinc C dX3_pattern_199 (by decide), ?_⟩
  refine List.forall_mem_cons.mpr ⟨s_goto C dX3_pattern_202 (by decide), ?_⟩
  refine List.forall_mem_cons.mpr ⟨s_aldn C dX3_pattern_205 rfl, ?_⟩
  refine List.forall_mem_cons.mpr ⟨s_dup C dX3_pattern_206, ?_⟩
  refine List.forall_mem_cons.mpr ⟨s_geti C rfl in_X3 (by decide) lk_X3_55 rfl dX3_pattern_207, ?_⟩
  refine List.forall_mem_cons.mpr ⟨s_ic C dX3_pattern_210 (by decide), ?_⟩
  refine List.forall_mem_cons.mpr ⟨s_add C dX3_pattern_211, ?_⟩
  refine List.forall_mem_cons.mpr ⟨s_puti C tyX3 tyX3_ok nmX3 rfl in_X3 (by decide) lk_X3_55 rfl (Or.inl rfl) rfl dX3_pattern_212, ?_⟩
  refine List.forall_mem_cons.mpr ⟨s_ild C dX3_pattern_215, ?_⟩
  refine List.forall_mem_cons.mpr ⟨s_iret C M dX3_pattern_217, ?_⟩
  exact fun _ h => absurd h List.not_mem_nil
theorem m_there_13 {c0 a b c : Int32} (h : ¬ m_there c0 13 a b c = 0) : m_vc 6 a := by
  have e : m_there c0 13 a b c = m_in a 0 5 := by
    unfold m_there
    rw [if_neg (by decide), if_neg (by decide), if_neg (by decide), if_neg (by decide), if_neg (by decide), if_neg (by decide), if_neg (by decide), if_neg (by decide), if_neg (by decide), if_neg (by decide), if_neg (by decide), if_neg (by decide), if_neg (by decide), if_pos rfl]
  rw [e] at h
  obtain ⟨j, hj, rfl⟩ := m_in_n (b := 5) (by decide) h
  exact ⟨j, by omega, rfl⟩
theorem m_there_8 {c0 a b c : Int32} (h : ¬ m_there c0 8 a b c = 0) : m_vc 4 b := by
  have e : m_there c0 8 a b c = (if m_in a 0 c0 = 0 then 0 else if m_in b 0 3 = 0 then 0 else 1) := by
    unfold m_there
    rw [if_neg (by decide), if_neg (by decide), if_neg (by decide), if_neg (by decide), if_neg (by decide), if_neg (by decide), if_neg (by decide), if_neg (by decide), if_pos rfl]
  rw [e] at h
  by_cases h1 : m_in a 0 c0 = 0
  · rw [if_pos h1] at h; exact absurd rfl h
  · rw [if_neg h1] at h
    by_cases h2 : m_in b 0 3 = 0
    · rw [if_pos h2] at h; exact absurd rfl h
    · obtain ⟨j, hj, rfl⟩ := m_in_n (b := 3) (by decide) h2
      exact ⟨j, by omega, rfl⟩
set_option maxRecDepth 20000 in
set_option maxHeartbeats 4000000 in
theorem con_X3_pattern {l : Launch} {D : va_G} {G : aG} {N0 : Nat} : a_Con l D G N0 yX3_pattern cX3_pattern 7 (some .int) (a_rm 4 0 0) sp_X3_pattern := by
  refine a_con (by decide) (fun as σ K h => by obtain ⟨I, F, B, n, s, a, b, c, rfl, rfl, -⟩ := h; exact (by decide : 5 ≤ 7)) ?_
  intro X as σ K h C Y M _
  obtain ⟨I, F, B, n, s, a, b, c, rfl, rfl, hn, hle, hK1, hK2, hK3, hK4, hK5⟩ := h
  have hS := S_X3_pattern C Y M
  by_cases h13 : m_in s 0 13 = 0
  · refine a_wps hS (inv := a_iv X [76, 161]) a_ivh 60 _ _ _ _ _ _ ?_
    exact ⟨s, 0, 13, rfl, fun _ => hK1 h13, fun w => absurd h13 w⟩
  by_cases hth : m_there (nI n - 1) s a b c = 0
  · have hth' : m_there (I 16 0 - 1) s a b c = 0 := by rw [hn]; exact hth
    refine a_wps hS (inv := a_iv X [76, 161]) a_ivh 60 _ _ _ _ _ _ ?_
    exact ⟨s, 0, 13, rfl, fun w => absurd w h13, fun _ => ⟨I, F, B, s, a, b, c, rfl, rfl, fun _ => hK2 h13 hth, fun w => absurd hth' w⟩⟩
  have hth' : ¬ m_there (I 16 0 - 1) s a b c = 0 := by rw [hn]; exact hth
  by_cases hbad : m_bad s b
  · have hK := hK3 h13 hth hbad
    refine a_wps hS (inv := a_iv X [76, 161]) a_ivh 60 _ _ _ _ _ _ ?_
    refine ⟨s, 0, 13, rfl, fun w => absurd w h13, fun _ => ⟨I, F, B, s, a, b, c, rfl, rfl, fun w => absurd w hth', fun _ => ?_⟩⟩
    rcases hbad with ⟨e, hb⟩ | ⟨e, hb⟩ | ⟨e, hb⟩
    · exact ⟨fun _ => ⟨b, 0, 3, rfl, fun _ => hK, fun w => absurd hb w⟩, fun w => absurd e w⟩
    · exact ⟨fun w => absurd (e.symm.trans w) (by decide), fun _ => ⟨fun _ => ⟨b, 1, 50, rfl, fun _ => hK, fun w => absurd hb w⟩, fun w => absurd e w⟩⟩
    · exact ⟨fun w => absurd (e.symm.trans w) (by decide), fun _ => ⟨fun w => absurd (e.symm.trans w) (by decide), fun _ => ⟨fun _ => ⟨b, 0, 3, rfl, fun _ => hK, fun w => absurd hb w⟩, fun w => absurd e w⟩⟩⟩
  -- the tail: from 76 on
  have tail : a_J X 76 [some (.inr (some 16)), some (.inl s), some (.inl a), some (.inl b), some (.inl c), none, none] [] (a_mk I F B) 0 0 := by
    by_cases h60 : n = 60
    · have e60 : I 16 0 = 60 := by rw [hn, h60]; rfl
      exact a_wp1 hS a_ivh (inv := a_iv X [76, 161]) 60 76 _ rfl ⟨fun _ => hK4 h13 hth hbad h60, fun w => absurd e60 w⟩
    have hlt : n < 60 := by omega
    have n60 : ¬ I 16 0 = 60 := by
      rw [hn]
      intro w
      have := (nI_eq (b := 60) (by omega) (by decide)).mp w
      omega
    have hK := hK5 h13 hth hbad hlt
    have hv : vp_in (I 16 0) 60 := by rw [hn]; exact vp_in_nI hlt (by decide)
    have hcl : (I 16 0).toNatClampNeg = n := by rw [hn]; exact nI_clamp (by omega)
    -- the loop
    have e6 : a_w (a_w (a_w (a_w (a_w I 17 n s) 18 n a) 19 n b) 20 n c) 23 n 0 = a_w (a_w (a_w (a_w (a_w I 17 (I 16 0).toNatClampNeg s) 18 (I 16 0).toNatClampNeg a) 19 (I 16 0).toNatClampNeg b) 20 (I 16 0).toNatClampNeg c) 23 (I 16 0).toNatClampNeg 0 := by rw [hcl]
    have loop : a_J X 161 [some (.inr (some 16)), some (.inl s), some (.inl a), some (.inl b), some (.inl c), some (.inl (nI n)), some (.inl 0)] [] (a_mk (m_p6 I n s a b c) F B) 0 0 := by
      have hr : m_p6 I n s a b c 16 0 = nI n := hn
      by_cases h8 : s = 8
      · obtain ⟨d, hd, rfl⟩ := m_there_8 (h8 ▸ hth)
        have go : ∀ m i, i + m = 8 → a_J X 161 [some (.inr (some 16)), some (.inl s), some (.inl a), some (.inl (nI d)), some (.inl c), some (.inl (nI n)), some (.inl (nI i))] [] (a_mk (m_cpy (m_p6 I n s a (nI d) c) n d i) F B) 0 0 := by
          intro m
          induction m with
          | zero =>
            intro i hi
            have hi : i = 8 := by omega
            subst hi
            have e : m_pt I n s a (nI d) c = a_w (m_cpy (m_p6 I n s a (nI d) c) n d 8) 16 0 (nI (n + 1)) := by
              unfold m_pt
              rw [if_pos h8, show (nI d).toNatClampNeg = d from nI_clamp (by omega)]
            rw [e, ← nI_1 n, ← hr] at hK
            exact a_wp1 hS a_ivh (inv := a_iv X [76, 161]) 60 161 _ rfl ⟨fun _ => hr ▸ hK, fun w => absurd (show (8 : Int32) ≤ nI 8 by decide) w⟩
          | succ m ih =>
            intro i hi
            have hn8 : ¬ (8 : Int32) ≤ nI i := by
              intro w
              have := (nI_leI (a := 8) (by decide) (by omega)).mp w
              omega
            have f1 : vp_in (8 * nI d + nI i) 32 := a_8in hd (by omega)
            have f2 : vp_in (8 * nI n + nI i) 480 := by rw [a_8 hlt (by omega)]; exact vp_in_nI (by omega) (by decide)
            have c1 : (8 * nI d + nI i : Int32).toNatClampNeg = 8 * d + i := by rw [a_8 (by omega) (by omega)]; exact nI_clamp (by omega)
            have c2 : (8 * nI n + nI i : Int32).toNatClampNeg = 8 * n + i := by rw [a_8 hlt (by omega)]; exact nI_clamp (by omega)
            have ih := ih (i + 1) (by omega)
            rw [← m_cpy_s, ← nI_1 i, ← c1, ← c2] at ih
            exact a_wp1 hS a_ivh (inv := a_iv X [76, 161]) 60 161 _ rfl ⟨fun w => absurd w hn8, fun _ => ⟨fun _ => ⟨f1, f2, ih⟩, fun w => absurd h8 w⟩⟩
        have := go 8 0 (by omega)
        rw [m_cpy_0] at this
        exact this
      · have e : m_pt I n s a b c = a_w (m_p6 I n s a b c) 16 0 (nI (n + 1)) := by unfold m_pt; rw [if_neg h8]
        rw [e, ← nI_1 n, ← hr] at hK
        exact a_wp1 hS a_ivh (inv := a_iv X [76, 161]) 60 161 _ rfl ⟨fun w => absurd w (by decide), fun _ => ⟨fun w => absurd w h8, fun _ => hr ▸ hK⟩⟩
    by_cases hs13 : s = 13
    · have ha : vp_in a 6 := by
        obtain ⟨j, hj, rfl⟩ := m_there_13 (hs13 ▸ hth)
        exact vp_in_nI hj (by decide)
      have e : m_p6 I n s a b c = a_w (a_w (a_w (a_w (a_w (a_w I 17 (I 16 0).toNatClampNeg s) 18 (I 16 0).toNatClampNeg a) 19 (I 16 0).toNatClampNeg b) 20 (I 16 0).toNatClampNeg c) 23 (I 16 0).toNatClampNeg 0) 22 (I 16 0).toNatClampNeg (I 25 a.toNatClampNeg) := by
        unfold m_p6
        rw [if_pos hs13, hcl]
      rw [e, ← hn] at loop
      exact a_wp1 hS a_ivh (inv := a_iv X [76, 161]) 80 76 _ rfl ⟨fun w => absurd w n60, fun _ => ⟨hv, hv, hv, hv, hv, fun _ => ⟨ha, hv, loop⟩, fun w => absurd hs13 w⟩⟩
    · have e : m_p6 I n s a b c = a_w (a_w (a_w (a_w (a_w (a_w I 17 (I 16 0).toNatClampNeg s) 18 (I 16 0).toNatClampNeg a) 19 (I 16 0).toNatClampNeg b) 20 (I 16 0).toNatClampNeg c) 23 (I 16 0).toNatClampNeg 0) 22 (I 16 0).toNatClampNeg (-1) := by
        unfold m_p6
        rw [if_neg hs13, hcl]
      rw [e, ← hn] at loop
      exact a_wp1 hS a_ivh (inv := a_iv X [76, 161]) 80 76 _ rfl ⟨fun w => absurd w n60, fun _ => ⟨hv, hv, hv, hv, hv, fun w => absurd w hs13, fun _ => ⟨hv, loop⟩⟩⟩
  refine a_wps hS (inv := a_iv X [76, 161]) a_ivh 60 _ _ _ _ _ _ ?_
  refine ⟨s, 0, 13, rfl, fun w => absurd w h13, fun _ => ⟨I, F, B, s, a, b, c, rfl, rfl, fun w => absurd w hth', fun _ => ?_⟩⟩
  by_cases e4 : s = 4
  · exact ⟨fun _ => ⟨b, 0, 3, rfl, fun w => absurd (Or.inl ⟨e4, w⟩) hbad, fun _ => ⟨fun w => absurd (e4.symm.trans w) (by decide), fun _ => ⟨fun w => absurd (e4.symm.trans w) (by decide), fun _ => tail⟩⟩⟩, fun w => absurd e4 w⟩
  · refine ⟨fun w => absurd w e4, fun _ => ?_⟩
    by_cases e10 : s = 10
    · exact ⟨fun _ => ⟨b, 1, 50, rfl, fun w => absurd (Or.inr (Or.inl ⟨e10, w⟩)) hbad, fun _ => ⟨fun w => absurd (e10.symm.trans w) (by decide), fun _ => tail⟩⟩, fun w => absurd e10 w⟩
    · refine ⟨fun w => absurd w e10, fun _ => ?_⟩
      by_cases e12 : s = 12
      · exact ⟨fun _ => ⟨b, 0, 3, rfl, fun w => absurd (Or.inr (Or.inr ⟨e12, w⟩)) hbad, fun _ => tail⟩, fun w => absurd e12 w⟩
      · exact ⟨fun w => absurd w e12, fun _ => tail⟩
end
section
/-! ===== the reference's weave and its constructor ===== -/
abbrev tW : Type := Int32 × Nat × tS × (Nat → Int32)
def t_wv (T : Int32 → Int32 → tS → tR) (x y : Int32) (w : Nat) : Nat → Nat → tS → (Nat → Int32) → tW
  | 0, k, s, C => (0, k, s, C)
  | m + 1, k, s, C => if (T (x + nI (k % w)) (y + nI (k / w)) (0, s.2)).1 = 0 then t_wv T x y w m (k + 1) (T (x + nI (k % w)) (y + nI (k / w)) (0, s.2)).2.2 (upd C k (T (x + nI (k % w)) (y + nI (k / w)) (0, s.2)).2.1) else ((T (x + nI (k % w)) (y + nI (k / w)) (0, s.2)).1, k, (T (x + nI (k % w)) (y + nI (k / w)) (0, s.2)).2.2, C)
def m_c (I : Nat → Nat → Int32) (sz wd : Int32) (C : Nat → Int32) : Nat → Nat → Int32 := fun h j => if h = 16 then (if j = 23 then sz else if j = 24 then wd else I 16 j) else if h = 38 then C j else I h j
section MC
variable {I M : Nat → Nat → Int32} {k f g sf wn tp x sz wd : Int32} {ak pl px py sg fs C : Nat → Int32} {t : Nat}
theorem mc_23 : a_w (m_p (m_c I sz wd C) k f g sf wn tp ak pl px py sg fs) 16 23 x = m_p (m_c I x wd C) k f g sf wn tp ak pl px py sg fs := by
  funext h j; unfold a_w m_p m_c
  by_cases e : h = 16
  · subst e; by_cases e2 : j = 23 <;> simp [e2]
  · simp [e]
theorem mc_24 : a_w (m_p (m_c I sz wd C) k f g sf wn tp ak pl px py sg fs) 16 24 x = m_p (m_c I sz x C) k f g sf wn tp ak pl px py sg fs := by
  funext h j; unfold a_w m_p m_c
  by_cases e : h = 16
  · subst e; by_cases e2 : j = 24 <;> simp [e2]
  · simp [e]
theorem mc_38 : a_w (m_p (m_c I sz wd C) k f g sf wn tp ak pl px py sg fs) 38 t x = m_p (m_c I sz wd (upd C t x)) k f g sf wn tp ak pl px py sg fs := by
  funext h j; unfold a_w m_p m_c upd
  by_cases e : h = 38
  · subst e; by_cases e2 : j = t <;> simp [e2]
  · simp [e]
theorem mc_self (I : Nat → Nat → Int32) : m_c I (I 16 23) (I 16 24) (I 38) = I := by
  funext h j; unfold m_c
  by_cases e : h = 16
  · subst e
    by_cases e1 : j = 23
    · simp [e1]
    · by_cases e2 : j = 24
      · simp [e2]
      · simp [e1, e2]
  · by_cases e1 : h = 38
    · simp [e1]
    · simp [e, e1]
theorem mp_mp {k' f' g' sf' wn' tp' : Int32} {ak' pl' px' py' sg' fs' : Nat → Int32} : m_p (m_p M k f g sf wn tp ak pl px py sg fs) k' f' g' sf' wn' tp' ak' pl' px' py' sg' fs' = m_p M k' f' g' sf' wn' tp' ak' pl' px' py' sg' fs' := by
  funext h j; unfold m_p
  by_cases e : h = 16
  · subst e
    by_cases e1 : j = 11
    · simp [e1]
    · by_cases e2 : j = 12
      · simp [e2]
      · by_cases e3 : j = 13
        · simp [e3]
        · by_cases e4 : j = 19
          · simp [e4]
          · by_cases e5 : j = 20
            · simp [e5]
            · by_cases e6 : j = 21
              · simp [e6]
              · simp [e1, e2, e3, e4, e5, e6]
  · by_cases e1 : h = 23
    · simp [e1]
    · by_cases e2 : h = 30
      · simp [e2]
      · by_cases e3 : h = 31
        · simp [e3]
        · by_cases e4 : h = 32
          · simp [e4]
          · by_cases e5 : h = 33
            · simp [e5]
            · by_cases e6 : h = 34
              · simp [e6]
              · simp [e, e1, e2, e3, e4, e5, e6]
end MC
def m_wr (R : tW) : Int32 := if R.1 = 0 then nI R.2.1 else -10 - R.1
def sp_X3_weave : aP := fun as σ K => ∃ I F B n E p x y w h, σ = a_mk I F B ∧ as = [.inr (some 16), .inl p, .inl x, .inl y, .inl w, .inl h] ∧ 101 ≤ E ∧ m_D I n ∧ (¬ m_in p 0 (I 16 0 - 1) = 0 → m_cd n p) ∧
  (m_in p 0 (I 16 0 - 1) = 0 → K (some (.inl (-3))) σ) ∧ (¬ m_in p 0 (I 16 0 - 1) = 0 → (m_in w 1 12 = 0 ∨ m_in h 1 12 = 0) → K (some (.inl (-2))) σ) ∧
  (¬ m_in p 0 (I 16 0 - 1) = 0 → ∀ wn hn : Nat, 1 ≤ wn → wn ≤ 12 → 1 ≤ hn → hn ≤ 12 → w = nI wn → h = nI hn → ∀ R : tW, R = t_wv (tt_T I E p) x y wn (wn * hn) 0 (I 16 19, 0, I 16 11, I 23) (I 38) → ∀ (g : Int32) (A : w5), K (some (.inl (m_wr R))) (a_mk (m_r (m_c I (nI R.2.1) w R.2.2.2) R.2.2.1 R.1 g 0 A) F B))
theorem rc_X3_weave : ∀ as σ K, sp_X3_weave as σ K → ∃ h As, as = .inr (some h) :: As ∧ a_is σ h 3 25 = true := by
  rintro as σ K ⟨I, F, B, n, E, p, x, y, w, h, rfl, rfl, -⟩
  exact ⟨16, _, rfl, rfl⟩
theorem m_in_12 {v : Int32} (h : ¬ m_in v 1 12 = 0) : ∃ j, 1 ≤ j ∧ j ≤ 12 ∧ v = nI j := by
  unfold m_in at h
  by_cases h1 : v < 1
  · rw [if_pos h1] at h; exact absurd rfl h
  · by_cases h2 : (12 : Int32) < v
    · rw [if_neg h1, if_pos h2] at h; exact absurd rfl h
    · have h0 : ¬ v < 0 := fun w => h1 (Int32.lt_trans w (by decide))
      obtain ⟨j, hj, rfl⟩ := nI_of h0
      refine ⟨j, ?_, ?_, rfl⟩
      · rcases Nat.eq_zero_or_pos j with z | z
        · subst z; exact absurd (by decide) h1
        · exact z
      · exact Nat.not_lt.mp (fun w => h2 (nI_lt (a := 12) w hj))
def P_X3_weave (K : aK) (bc bs : Nat) : List (Nat × aT) := [(0, t_ald 0 1),
  (1, t_ild 1 2),
  (2, t_call 2 0 0 bc bs sp_X3_isPattern 5),
  (5, t_if (fun x => x = 0) 8 11),
  (8, t_ic (-3) 10),
  (10, t_iret K bc bs),
  (11, t_ild 4 13),
  (13, t_ic 1 14),
  (14, t_ic 12 16),
  (16, t_call 3 0 0 bc bs sp_X3_in 19),
  (19, t_if (fun x => x = 0) 33 22),
  (22, t_ild 5 24),
  (24, t_ic 1 25),
  (25, t_ic 12 27),
  (27, t_call 3 0 0 bc bs sp_X3_in 30),
  (30, t_if (fun x => x = 0) 33 36),
  (33, t_ic (-2) 35),
  (35, t_iret K bc bs),
  (36, t_ald 0 37),
  (37, t_ic 0 38),
  (38, t_puti 3 25 12 41),
  (41, t_ald 0 42),
  (42, t_ic 0 43),
  (43, t_puti 3 25 23 46),
  (46, t_ald 0 47),
  (47, t_ild 4 49),
  (49, t_puti 3 25 24 52),
  (52, t_ic 0 53),
  (53, t_ist 6 55),
  (55, t_ild 6 57),
  (57, t_ild 4 59),
  (59, t_ild 5 61),
  (61, t_mul 62),
  (62, t_ifc (fun x y => y ≤ x) 128 65),
  (65, t_ald 0 66),
  (66, t_ild 1 67),
  (67, t_ild 2 68),
  (68, t_ild 6 70),
  (70, t_ild 4 72),
  (72, t_rem 73),
  (73, t_add 74),
  (74, t_ild 3 75),
  (75, t_ild 6 77),
  (77, t_ild 4 79),
  (79, t_div 80),
  (80, t_add 81),
  (81, t_call 4 0 0 bc bs sp_X3_work 84),
  (84, t_ald 0 85),
  (85, t_geti 3 25 20 88),
  (88, t_if (fun x => x = 0) 99 91),
  (91, t_ic (-10) 93),
  (93, t_ald 0 94),
  (94, t_geti 3 25 20 97),
  (97, t_sub 98),
  (98, t_iret K bc bs),
  (99, t_ald 0 100),
  (100, t_getr 3 25 22 103),
  (103, t_ald 0 104),
  (104, t_geti 3 25 23 107),
  (107, t_ald 0 108),
  (108, t_geti 3 25 21 111),
  (111, t_iast 112),
  (112, t_ald 0 113),
  (113, t_dup 114),
  (114, t_geti 3 25 23 117),
  (117, t_ic 1 118),
  (118, t_add 119),
  (119, t_puti 3 25 23 122),
  (122, t_iinc 6 1 125),
  (125, t_goto 55),
  (128, t_ald 0 129),
  (129, t_geti 3 25 23 132),
  (132, t_iret K bc bs)]
set_option maxRecDepth 100000 in
theorem S_X3_weave {X : a_X} {K : aK} {l : Launch} {D : va_G} {G : aG} {N0 : Nat} (C : a_C X cX3_weave (some .int) RX3) (Y : a_Y X l (a_rm 5 0 0) D G N0) (M : a_mq X K (a_rm 5 0 0).cells (a_rm 5 0 0).slots) : ∀ x ∈ P_X3_weave K 0 0, a_Sd X x.1 x.2 := by
  unfold P_X3_weave
  refine List.forall_mem_cons.mpr ⟨s_aldn C dX3_weave_0 rfl, ?_⟩
  refine List.forall_mem_cons.mpr ⟨s_ildn C dX3_weave_1 rfl, ?_⟩
  refine List.forall_mem_cons.mpr ⟨s_callV (rm := (a_rm 2 0 0)) (n := 1) C Y (ci := 3) rfl con_X3_isPattern rc_X3_isPattern co_X3_isPattern ml_X3_66 im_X3_isPattern se_X3_isPattern ii_X3 (by decide +kernel) ⟨by decide, by decide⟩ ⟨rfl, rfl⟩ dX3_weave_2, ?_⟩
  refine List.forall_mem_cons.mpr ⟨s_if_ne C dX3_weave_5 (by decide), ?_⟩
  refine List.forall_mem_cons.mpr ⟨s_bi C dX3_weave_8 (by decide), ?_⟩
  refine List.forall_mem_cons.mpr ⟨s_iret C M dX3_weave_10, ?_⟩
  refine List.forall_mem_cons.mpr ⟨s_ild C dX3_weave_11, ?_⟩
  refine List.forall_mem_cons.mpr ⟨s_ic C dX3_weave_13 (by decide), ?_⟩
  refine List.forall_mem_cons.mpr ⟨s_bi C dX3_weave_14 (by decide), ?_⟩
  refine List.forall_mem_cons.mpr ⟨s_callS (rm := (a_rm 1 0 0)) C Y con_X3_in co_X3_in ml_X3_59 st_X3_in ii_X3 (by decide +kernel) ⟨by decide, by decide⟩ ⟨rfl, rfl⟩ dX3_weave_16, ?_⟩
  refine List.forall_mem_cons.mpr ⟨s_if_eq C dX3_weave_19 (by decide), ?_⟩
  refine List.forall_mem_cons.mpr ⟨s_ild C dX3_weave_22, ?_⟩
  refine List.forall_mem_cons.mpr ⟨s_ic C dX3_weave_24 (by decide), ?_⟩
  refine List.forall_mem_cons.mpr ⟨s_bi C dX3_weave_25 (by decide), ?_⟩
  refine List.forall_mem_cons.mpr ⟨s_callS (rm := (a_rm 1 0 0)) C Y con_X3_in co_X3_in ml_X3_59 st_X3_in ii_X3 (by decide +kernel) ⟨by decide, by decide⟩ ⟨rfl, rfl⟩ dX3_weave_27, ?_⟩
  refine List.forall_mem_cons.mpr ⟨s_if_ne C dX3_weave_30 (by decide), ?_⟩
  refine List.forall_mem_cons.mpr ⟨s_bi C dX3_weave_33 (by decide), ?_⟩
  refine List.forall_mem_cons.mpr ⟨s_iret C M dX3_weave_35, ?_⟩
  refine List.forall_mem_cons.mpr ⟨s_aldn C dX3_weave_36 rfl, ?_⟩
  refine List.forall_mem_cons.mpr ⟨s_ic C dX3_weave_37 (by decide), ?_⟩
  refine List.forall_mem_cons.mpr ⟨s_puti C tyX3 tyX3_ok nmX3 rfl in_X3 (by decide) lk_X3_110 rfl (Or.inl rfl) rfl dX3_weave_38, ?_⟩
  refine List.forall_mem_cons.mpr ⟨s_aldn C dX3_weave_41 rfl, ?_⟩
  refine List.forall_mem_cons.mpr ⟨s_ic C dX3_weave_42 (by decide), ?_⟩
  refine List.forall_mem_cons.mpr ⟨s_puti C tyX3 tyX3_ok nmX3 rfl in_X3 (by decide) lk_X3_129 rfl (Or.inl rfl) rfl dX3_weave_43, ?_⟩
  refine List.forall_mem_cons.mpr ⟨s_aldn C dX3_weave_46 rfl, ?_⟩
  refine List.forall_mem_cons.mpr ⟨s_ild C dX3_weave_47, ?_⟩
  refine List.forall_mem_cons.mpr ⟨s_puti C tyX3 tyX3_ok nmX3 rfl in_X3 (by decide) lk_X3_132 rfl (Or.inl rfl) rfl dX3_weave_49, ?_⟩
  refine List.forall_mem_cons.mpr ⟨s_ic C dX3_weave_52 (by decide), ?_⟩
  refine List.forall_mem_cons.mpr ⟨s_ist C dX3_weave_53, ?_⟩
  refine List.forall_mem_cons.mpr ⟨s_ild C dX3_weave_55, ?_⟩
  refine List.forall_mem_cons.mpr ⟨s_ild C dX3_weave_57, ?_⟩
  refine List.forall_mem_cons.mpr ⟨s_ild C dX3_weave_59, ?_⟩
  refine List.forall_mem_cons.mpr ⟨s_mul C dX3_weave_61, ?_⟩
  refine List.forall_mem_cons.mpr ⟨s_icmp_ge C dX3_weave_62 (by decide), ?_⟩
  refine List.forall_mem_cons.mpr ⟨s_aldn C dX3_weave_65 rfl, ?_⟩
  refine List.forall_mem_cons.mpr ⟨s_ildn C dX3_weave_66 rfl, ?_⟩
  refine List.forall_mem_cons.mpr ⟨s_ildn C dX3_weave_67 rfl, ?_⟩
  refine List.forall_mem_cons.mpr ⟨s_ild C dX3_weave_68, ?_⟩
  refine List.forall_mem_cons.mpr ⟨s_ild C dX3_weave_70, ?_⟩
  refine List.forall_mem_cons.mpr ⟨s_rem C dX3_weave_72, ?_⟩
  refine List.forall_mem_cons.mpr ⟨s_add C dX3_weave_73, ?_⟩
  refine List.forall_mem_cons.mpr ⟨s_ildn C dX3_weave_74 rfl, ?_⟩
  refine List.forall_mem_cons.mpr ⟨s_ild C dX3_weave_75, ?_⟩
  refine List.forall_mem_cons.mpr ⟨s_ild C dX3_weave_77, ?_⟩
  refine List.forall_mem_cons.mpr ⟨s_div C dX3_weave_79, ?_⟩
  refine List.forall_mem_cons.mpr ⟨s_add C dX3_weave_80, ?_⟩
  refine List.forall_mem_cons.mpr ⟨s_callV (rm := (a_rm 4 0 0)) (n := 3) C Y (ci := 3) rfl con_X3_work rc_X3_work co_X3_work ml_X3_126 im_X3_work se_X3_work ii_X3 (by decide +kernel) ⟨by decide, by decide⟩ ⟨rfl, rfl⟩ dX3_weave_81, ?_⟩
  refine List.forall_mem_cons.mpr ⟨s_aldn C dX3_weave_84 rfl, ?_⟩
  refine List.forall_mem_cons.mpr ⟨s_geti C rfl in_X3 (by decide) lk_X3_77 rfl dX3_weave_85, ?_⟩
  refine List.forall_mem_cons.mpr ⟨s_if_eq C dX3_weave_88 (by decide), ?_⟩
  refine List.forall_mem_cons.mpr ⟨s_bi C dX3_weave_91 (by decide), ?_⟩
  refine List.forall_mem_cons.mpr ⟨s_aldn C dX3_weave_93 rfl, ?_⟩
  refine List.forall_mem_cons.mpr ⟨s_geti C rfl in_X3 (by decide) lk_X3_77 rfl dX3_weave_94, ?_⟩
  refine List.forall_mem_cons.mpr ⟨s_sub C dX3_weave_97, ?_⟩
  refine List.forall_mem_cons.mpr ⟨s_iret C M dX3_weave_98, ?_⟩
  refine List.forall_mem_cons.mpr ⟨s_aldn C dX3_weave_99 rfl, ?_⟩
  refine List.forall_mem_cons.mpr ⟨s_getr C rfl in_X3 (by decide) lk_X3_52 rfl dX3_weave_100, ?_⟩
  refine List.forall_mem_cons.mpr ⟨s_aldn C dX3_weave_103 rfl, ?_⟩
  refine List.forall_mem_cons.mpr ⟨s_geti C rfl in_X3 (by decide) lk_X3_129 rfl dX3_weave_104, ?_⟩
  refine List.forall_mem_cons.mpr ⟨s_aldn C dX3_weave_107 rfl, ?_⟩
  refine List.forall_mem_cons.mpr ⟨s_geti C rfl in_X3 (by decide) lk_X3_83 rfl dX3_weave_108, ?_⟩
  refine List.forall_mem_cons.mpr ⟨s_iast C dX3_weave_111, ?_⟩
  refine List.forall_mem_cons.mpr ⟨s_aldn C dX3_weave_112 rfl, ?_⟩
  refine List.forall_mem_cons.mpr ⟨s_dup C dX3_weave_113, ?_⟩
  refine List.forall_mem_cons.mpr ⟨s_geti C rfl in_X3 (by decide) lk_X3_129 rfl dX3_weave_114, ?_⟩
  refine List.forall_mem_cons.mpr ⟨s_ic C dX3_weave_117 (by decide), ?_⟩
  refine List.forall_mem_cons.mpr ⟨s_add C dX3_weave_118, ?_⟩
  refine List.forall_mem_cons.mpr ⟨s_puti C tyX3 tyX3_ok nmX3 rfl in_X3 (by decide) lk_X3_129 rfl (Or.inl rfl) rfl dX3_weave_119, ?_⟩
  refine List.forall_mem_cons.mpr ⟨s_iinc C dX3_weave_122 (by decide), ?_⟩
  refine List.forall_mem_cons.mpr ⟨s_goto C dX3_weave_125 (by decide), ?_⟩
  refine List.forall_mem_cons.mpr ⟨s_aldn C dX3_weave_128 rfl, ?_⟩
  refine List.forall_mem_cons.mpr ⟨s_geti C rfl in_X3 (by decide) lk_X3_129 rfl dX3_weave_129, ?_⟩
  refine List.forall_mem_cons.mpr ⟨s_iret C M dX3_weave_132, ?_⟩
  exact fun _ h => absurd h List.not_mem_nil
set_option maxRecDepth 20000 in
set_option maxHeartbeats 4000000 in
theorem con_X3_weave {l : Launch} {D : va_G} {G : aG} {N0 : Nat} : a_Con l D G N0 yX3_weave cX3_weave 7 (some .int) (a_rm 5 0 0) sp_X3_weave := by
  refine a_con (by decide) (fun as σ K h => by obtain ⟨I, F, B, n, E, p, x, y, w, h, rfl, rfl, -⟩ := h; exact (by decide : 6 ≤ 7)) ?_
  intro X as σ K h C Y M _
  obtain ⟨I, F, B, n, E, p, x, y, w, h, rfl, rfl, hE, hD, hc, hK1, hK2, hK3⟩ := h
  have hS := S_X3_weave C Y M
  by_cases hp : m_in p 0 (I 16 0 - 1) = 0
  · refine a_wps hS (inv := a_iv X [55]) a_ivh 60 _ _ _ _ _ _ ?_
    exact ⟨I, F, B, p, rfl, rfl, fun _ => hK1 hp, fun z => absurd hp z⟩
  by_cases hw : m_in w 1 12 = 0
  · refine a_wps hS (inv := a_iv X [55]) a_ivh 60 _ _ _ _ _ _ ?_
    exact ⟨I, F, B, p, rfl, rfl, fun z => absurd z hp, fun _ => ⟨w, 1, 12, rfl, fun _ => hK2 hp (Or.inl hw), fun z => absurd hw z⟩⟩
  by_cases hh : m_in h 1 12 = 0
  · refine a_wps hS (inv := a_iv X [55]) a_ivh 60 _ _ _ _ _ _ ?_
    exact ⟨I, F, B, p, rfl, rfl, fun z => absurd z hp, fun _ => ⟨w, 1, 12, rfl, fun z => absurd z hw, fun _ => ⟨h, 1, 12, rfl, fun _ => hK2 hp (Or.inr hh), fun z => absurd hh z⟩⟩⟩
  obtain ⟨wn, w1, w12, ew⟩ := m_in_12 hw
  obtain ⟨hn, h1, h12, eh⟩ := m_in_12 hh
  have hK := hK3 hp wn hn w1 w12 h1 h12 ew eh
  have hcd := hc hp
  have hprod : wn * hn ≤ 144 := by
    have := Nat.mul_le_mul w12 h12
    omega
  have hpos : 1 ≤ wn * hn := Nat.mul_pos w1 h1
  have loop : ∀ m k (s : tS) (Cl : Nat → Int32) (f g tp : Int32) (A : w5), k + m = wn * hn → (m = 0 → f = 0 ∧ tp = 0) →
      (∀ R : tW, R = t_wv (tt_T I E p) x y wn m k s Cl → ∀ (g : Int32) (A : w5), K (some (.inl (m_wr R))) (a_mk (m_r (m_c I (nI R.2.1) w R.2.2.2) R.2.2.1 R.1 g 0 A) F B)) →
      a_J X 55 [some (.inr (some 16)), some (.inl p), some (.inl x), some (.inl y), some (.inl w), some (.inl h), some (.inl (nI k))] [] (a_mk (m_r (m_c I (nI k) w Cl) s f g tp A) F B) 0 0 := by
    intro m
    induction m with
    | zero =>
      intro k s Cl f g tp A hk h0 HK
      obtain ⟨rfl, rfl⟩ := h0 rfl
      have hle : w * h ≤ nI k := by rw [ew, eh, pk_mul, show k = wn * hn by omega]; exact Int32.le_refl _
      have HK0 := HK (0, k, s, Cl) rfl g A
      rw [show m_wr (0, k, s, Cl) = nI k from if_pos rfl] at HK0
      exact a_wp1 hS a_ivh (inv := a_iv X [55]) 60 55 _ rfl ⟨fun _ => HK0, fun z => absurd hle z⟩
    | succ m ih =>
      intro k s Cl f g tp A hk h0 HK
      have hnle : ¬ w * h ≤ nI k := by rw [ew, eh, pk_mul]; exact nI_ge (by omega) (by omega)
      have hw0 : ¬ w = 0 := by rw [ew]; exact nI_ne0 w1 (by omega)
      have er : a_rem (nI k) w = nI (k % wn) := by rw [ew]; exact a_remN (by omega) w1 (by omega)
      have ed : nI k / w = nI (k / wn) := by rw [ew]; exact pk_div (by omega) w1 (by omega)
      refine a_wp1 hS a_ivh (inv := a_iv X [55]) 60 55 _ rfl ⟨fun z => absurd z hnle, fun _ => ⟨hw0, hw0, m_r (m_c I (nI k) w Cl) s f g tp A, F, B, n, E, p, x + a_rem (nI k) w, y + nI k / w, rfl, rfl, hE, hD, hcd, fun r hr g' A' hg => ?_⟩⟩
      have hr2 : r = tt_T I E p (x + nI (k % wn)) (y + nI (k / wn)) (0, s.2) := by
        rw [hr, er, ed]
        exact congrFun (congrFun (congrFun (congrFun (tt_congr (M := m_r (m_c I (nI k) w Cl) s f g tp A) (M' := I) rfl rfl rfl rfl rfl rfl rfl rfl E) p) _) _) (0, s.2)
      clear hr
      have est : m_r (m_r (m_c I (nI k) w Cl) s f g tp A) r.2.2 r.1 g' 0 A' = m_r (m_c I (nI k) w Cl) r.2.2 r.1 g' 0 A' := mp_mp
      have key : ∀ st, st = m_r (m_c I (nI k) w Cl) r.2.2 r.1 g' 0 A' → a_wp (P_X3_weave K 0 0) (a_iv X [55]) 43 84 [some (.inr (some 16)), some (.inl p), some (.inl x), some (.inl y), some (.inl w), some (.inl h), some (.inl (nI k))] [] (a_mk st F B) 0 0 := by
        intro st est2
        subst est2
        by_cases hz : r.1 = 0
        · have hv : vp_in (nI k) 144 := vp_in_nI (by omega) (by decide)
          have HK2 := ih (k + 1) r.2.2 (upd Cl k r.2.1) 0 r.2.1 0 A' (by omega) (fun _ => ⟨rfl, rfl⟩) (fun R hR => HK R (by
            rw [hR]
            show _ = (if (tt_T I E p (x + nI (k % wn)) (y + nI (k / wn)) (0, s.2)).1 = 0 then _ else _)
            rw [← hr2, if_pos hz]))
          have e2 : m_r (m_c I (nI (k + 1)) w (upd Cl k r.2.1)) r.2.2 0 r.2.1 0 A' = a_w (a_w (m_r (m_c I (nI k) w Cl) r.2.2 r.1 g' 0 A') 38 (nI k).toNatClampNeg g') 16 23 (nI k + 1) := by
            rw [show (nI k).toNatClampNeg = k from nI_clamp (by omega), mc_38, nI_1, mc_23, hg hz, hz]
          rw [e2, ← nI_1 k] at HK2
          exact ⟨fun _ => ⟨hv, HK2⟩, fun z => absurd hz z⟩
        · have HK2 := HK (r.1, k, r.2.2, Cl) (by
            show _ = (if (tt_T I E p (x + nI (k % wn)) (y + nI (k / wn)) (0, s.2)).1 = 0 then _ else _)
            rw [← hr2, if_neg hz]) g' A'
          rw [show m_wr (r.1, k, r.2.2, Cl) = -10 - r.1 from if_neg hz] at HK2
          exact ⟨fun z => absurd z hz, fun _ => HK2⟩
      exact key _ est
  have h0 := loop (wn * hn) 0 (I 16 19, 0, I 16 11, I 23) (I 38) (I 16 20) (I 16 21) (I 16 13) (I 30, I 31, I 32, I 33, I 34) (by omega) (fun z => by omega) hK
  have e0 : m_r (m_c I (nI 0) w (I 38)) (I 16 19, 0, I 16 11, I 23) (I 16 20) (I 16 21) (I 16 13) (I 30, I 31, I 32, I 33, I 34) = a_w (a_w (a_w I 16 12 0) 16 23 0) 16 24 w := by
    have e1 : I = m_p (m_c I (I 16 23) (I 16 24) (I 38)) (I 16 19) (I 16 20) (I 16 21) (I 16 12) (I 16 11) (I 16 13) (I 23) (I 30) (I 31) (I 32) (I 33) (I 34) := by rw [mc_self, mp_self]
    refine Eq.trans ?_ (congrArg (fun J => a_w (a_w (a_w J 16 12 0) 16 23 0) 16 24 w) e1.symm)
    show _ = a_w (a_w (a_w (m_p (m_c I (I 16 23) (I 16 24) (I 38)) (I 16 19) (I 16 20) (I 16 21) (I 16 12) (I 16 11) (I 16 13) (I 23) (I 30) (I 31) (I 32) (I 33) (I 34)) 16 12 0) 16 23 0) 16 24 w
    rw [mp_12, mc_23, mc_24]
    rfl
  rw [e0] at h0
  refine a_wps hS (inv := a_iv X [55]) a_ivh 60 _ _ _ _ _ _ ?_
  exact ⟨I, F, B, p, rfl, rfl, fun z => absurd z hp, fun _ => ⟨w, 1, 12, rfl, fun z => absurd z hw, fun _ => ⟨h, 1, 12, rfl, fun z => absurd z hh, fun _ => h0⟩⟩⟩
end
section
/-! ===== the class's small methods ===== -/
theorem l_iff3 (v : Int32) (b : Nat) (hb : b < 1000) : (nI (b + 1) ≤ v ↔ nI b < v) := by
  rw [Int32.le_iff_toInt_le, Int32.lt_iff_toInt_lt, nI_toInt (by omega), nI_toInt (by omega)]
  omega
theorem l_iffp {v : Int32} {n : Nat} (hn : n ≤ 60) (hv : ¬ v < 0) : (nI n ≤ v ↔ nI n - 1 < v) := by
  obtain ⟨j, hj, rfl⟩ := nI_of hv
  cases n with
  | zero =>
    have e : nI 0 - 1 = -1 := by decide
    rw [e]
    exact ⟨fun _ => by rw [Int32.lt_iff_toInt_lt, nI_toInt hj, show (-1 : Int32).toInt = -1 from rfl]; omega, fun _ => nI_le (Nat.zero_le _) hj⟩
  | succ n =>
    rw [nI_pred]
    exact l_iff3 (nI j) n (by omega)
theorem l_lt3 (v : Int32) : (4 : Int32) ≤ v ↔ (3 : Int32) < v := l_iff3 v 3 (by decide)
theorem l_lt5 (v : Int32) : (6 : Int32) ≤ v ↔ (5 : Int32) < v := l_iff3 v 5 (by decide)
section LS
variable {l : Launch} {D : va_G} {G : aG} {N0 : Nat}
def sp_X2_isDye : aP := fun as σ K => ∃ d, as = [.inl d] ∧ K (some (.inl (m_in d 0 3))) σ
def P_X2_isDye (K : aK) (bc bs : Nat) : List (Nat × aT) := [(0, t_ild 0 1),
  (1, t_if (fun x => x < 0) 13 4),
  (4, t_ild 0 5),
  (5, t_ic 4 6),
  (6, t_ifc (fun x y => y ≤ x) 13 9),
  (9, t_ic 1 10),
  (10, t_goto 14),
  (13, t_ic 0 14),
  (14, t_zret K bc bs)]
set_option maxRecDepth 100000 in
theorem S_X2_isDye {X : a_X} {K : aK} {l : Launch} {D : va_G} {G : aG} {N0 : Nat} (C : a_C X cX2_isDye (some .boolean) RX2) (Y : a_Y X l (a_rm 1 0 0) D G N0) (M : a_mq X K (a_rm 1 0 0).cells (a_rm 1 0 0).slots) : ∀ x ∈ P_X2_isDye K 0 0, a_Sd X x.1 x.2 := by
  unfold P_X2_isDye
  refine List.forall_mem_cons.mpr ⟨s_ildn C dX2_isDye_0 rfl, ?_⟩
  refine List.forall_mem_cons.mpr ⟨s_if_lt C dX2_isDye_1 (by decide), ?_⟩
  refine List.forall_mem_cons.mpr ⟨s_ildn C dX2_isDye_4 rfl, ?_⟩
  refine List.forall_mem_cons.mpr ⟨s_ic C dX2_isDye_5 (by decide), ?_⟩
  refine List.forall_mem_cons.mpr ⟨s_icmp_ge C dX2_isDye_6 (by decide), ?_⟩
  refine List.forall_mem_cons.mpr ⟨s_ic C dX2_isDye_9 (by decide), ?_⟩
  refine List.forall_mem_cons.mpr ⟨s_goto C dX2_isDye_10 (by decide), ?_⟩
  refine List.forall_mem_cons.mpr ⟨s_ic C dX2_isDye_13 (by decide), ?_⟩
  refine List.forall_mem_cons.mpr ⟨s_zret C M dX2_isDye_14, ?_⟩
  exact fun _ h => absurd h List.not_mem_nil
theorem con_X2_isDye : a_Con l D G N0 yX2_isDye cX2_isDye 1 (some .boolean) (a_rm 1 0 0) sp_X2_isDye := by
  refine a_con (by decide) (fun as σ K h => by obtain ⟨d, rfl, -⟩ := h; exact Nat.le_refl _) ?_
  intro X as σ K h C Y M _
  obtain ⟨d, rfl, hK⟩ := h
  refine a_wps (S_X2_isDye C Y M) (inv := a_ni) a_nih 20 _ _ _ _ _ _ ?_
  refine ⟨fun h1 => ?_, fun h1 => ⟨fun h2 => ?_, fun h2 => ?_⟩⟩
  · rw [show m_in d 0 3 = 0 from if_pos h1] at hK
    exact ⟨Or.inl rfl, hK⟩
  · rw [show m_in d 0 3 = 0 by unfold m_in; rw [if_neg h1, if_pos ((l_lt3 d).mp h2)]] at hK
    exact ⟨Or.inl rfl, hK⟩
  · rw [show m_in d 0 3 = 1 by unfold m_in; rw [if_neg h1, if_neg (fun w => h2 ((l_lt3 d).mpr w))]] at hK
    exact ⟨Or.inr rfl, hK⟩
def sp_X2_isName : aP := fun as σ K => ∃ d, as = [.inl d] ∧ K (some (.inl (m_in d 0 5))) σ
def P_X2_isName (K : aK) (bc bs : Nat) : List (Nat × aT) := [(0, t_ild 0 1),
  (1, t_if (fun x => x < 0) 14 4),
  (4, t_ild 0 5),
  (5, t_ic 6 7),
  (7, t_ifc (fun x y => y ≤ x) 14 10),
  (10, t_ic 1 11),
  (11, t_goto 15),
  (14, t_ic 0 15),
  (15, t_zret K bc bs)]
set_option maxRecDepth 100000 in
theorem S_X2_isName {X : a_X} {K : aK} {l : Launch} {D : va_G} {G : aG} {N0 : Nat} (C : a_C X cX2_isName (some .boolean) RX2) (Y : a_Y X l (a_rm 1 0 0) D G N0) (M : a_mq X K (a_rm 1 0 0).cells (a_rm 1 0 0).slots) : ∀ x ∈ P_X2_isName K 0 0, a_Sd X x.1 x.2 := by
  unfold P_X2_isName
  refine List.forall_mem_cons.mpr ⟨s_ildn C dX2_isName_0 rfl, ?_⟩
  refine List.forall_mem_cons.mpr ⟨s_if_lt C dX2_isName_1 (by decide), ?_⟩
  refine List.forall_mem_cons.mpr ⟨s_ildn C dX2_isName_4 rfl, ?_⟩
  refine List.forall_mem_cons.mpr ⟨s_bi C dX2_isName_5 (by decide), ?_⟩
  refine List.forall_mem_cons.mpr ⟨s_icmp_ge C dX2_isName_7 (by decide), ?_⟩
  refine List.forall_mem_cons.mpr ⟨s_ic C dX2_isName_10 (by decide), ?_⟩
  refine List.forall_mem_cons.mpr ⟨s_goto C dX2_isName_11 (by decide), ?_⟩
  refine List.forall_mem_cons.mpr ⟨s_ic C dX2_isName_14 (by decide), ?_⟩
  refine List.forall_mem_cons.mpr ⟨s_zret C M dX2_isName_15, ?_⟩
  exact fun _ h => absurd h List.not_mem_nil
theorem con_X2_isName : a_Con l D G N0 yX2_isName cX2_isName 1 (some .boolean) (a_rm 1 0 0) sp_X2_isName := by
  refine a_con (by decide) (fun as σ K h => by obtain ⟨d, rfl, -⟩ := h; exact Nat.le_refl _) ?_
  intro X as σ K h C Y M _
  obtain ⟨d, rfl, hK⟩ := h
  refine a_wps (S_X2_isName C Y M) (inv := a_ni) a_nih 20 _ _ _ _ _ _ ?_
  refine ⟨fun h1 => ?_, fun h1 => ⟨fun h2 => ?_, fun h2 => ?_⟩⟩
  · rw [show m_in d 0 5 = 0 from if_pos h1] at hK
    exact ⟨Or.inl rfl, hK⟩
  · rw [show m_in d 0 5 = 0 by unfold m_in; rw [if_neg h1, if_pos ((l_lt5 d).mp h2)]] at hK
    exact ⟨Or.inl rfl, hK⟩
  · rw [show m_in d 0 5 = 1 by unfold m_in; rw [if_neg h1, if_neg (fun w => h2 ((l_lt5 d).mpr w))]] at hK
    exact ⟨Or.inr rfl, hK⟩
def sp_X2_isSide : aP := fun as σ K => ∃ d, as = [.inl d] ∧ K (some (.inl (m_in d 1 12))) σ
def P_X2_isSide (K : aK) (bc bs : Nat) : List (Nat × aT) := [(0, t_ild 0 1),
  (1, t_ic 1 2),
  (2, t_ifc (fun x y => x < y) 15 5),
  (5, t_ild 0 6),
  (6, t_ic 12 8),
  (8, t_ifc (fun x y => y < x) 15 11),
  (11, t_ic 1 12),
  (12, t_goto 16),
  (15, t_ic 0 16),
  (16, t_zret K bc bs)]
set_option maxRecDepth 100000 in
theorem S_X2_isSide {X : a_X} {K : aK} {l : Launch} {D : va_G} {G : aG} {N0 : Nat} (C : a_C X cX2_isSide (some .boolean) RX2) (Y : a_Y X l (a_rm 1 0 0) D G N0) (M : a_mq X K (a_rm 1 0 0).cells (a_rm 1 0 0).slots) : ∀ x ∈ P_X2_isSide K 0 0, a_Sd X x.1 x.2 := by
  unfold P_X2_isSide
  refine List.forall_mem_cons.mpr ⟨s_ildn C dX2_isSide_0 rfl, ?_⟩
  refine List.forall_mem_cons.mpr ⟨s_ic C dX2_isSide_1 (by decide), ?_⟩
  refine List.forall_mem_cons.mpr ⟨s_icmp_lt C dX2_isSide_2 (by decide), ?_⟩
  refine List.forall_mem_cons.mpr ⟨s_ildn C dX2_isSide_5 rfl, ?_⟩
  refine List.forall_mem_cons.mpr ⟨s_bi C dX2_isSide_6 (by decide), ?_⟩
  refine List.forall_mem_cons.mpr ⟨s_icmp_gt C dX2_isSide_8 (by decide), ?_⟩
  refine List.forall_mem_cons.mpr ⟨s_ic C dX2_isSide_11 (by decide), ?_⟩
  refine List.forall_mem_cons.mpr ⟨s_goto C dX2_isSide_12 (by decide), ?_⟩
  refine List.forall_mem_cons.mpr ⟨s_ic C dX2_isSide_15 (by decide), ?_⟩
  refine List.forall_mem_cons.mpr ⟨s_zret C M dX2_isSide_16, ?_⟩
  exact fun _ h => absurd h List.not_mem_nil
theorem con_X2_isSide : a_Con l D G N0 yX2_isSide cX2_isSide 1 (some .boolean) (a_rm 1 0 0) sp_X2_isSide := by
  refine a_con (by decide) (fun as σ K h => by obtain ⟨d, rfl, -⟩ := h; exact Nat.le_refl _) ?_
  intro X as σ K h C Y M _
  obtain ⟨d, rfl, hK⟩ := h
  refine a_wps (S_X2_isSide C Y M) (inv := a_ni) a_nih 20 _ _ _ _ _ _ ?_
  refine ⟨fun h1 => ?_, fun h1 => ⟨fun h2 => ?_, fun h2 => ?_⟩⟩
  · rw [show m_in d 1 12 = 0 from if_pos h1] at hK
    exact ⟨Or.inl rfl, hK⟩
  · rw [show m_in d 1 12 = 0 by unfold m_in; rw [if_neg h1, if_pos h2]] at hK
    exact ⟨Or.inl rfl, hK⟩
  · rw [show m_in d 1 12 = 1 by unfold m_in; rw [if_neg h1, if_neg h2]] at hK
    exact ⟨Or.inr rfl, hK⟩
def sp_X2_isPattern : aP := fun as σ K => ∃ I F B n p, σ = a_mk I F B ∧ as = [.inr (some 0), .inl p] ∧ I 0 4 = nI n ∧ n ≤ 60 ∧ K (some (.inl (m_in p 0 (nI n - 1)))) σ
theorem rc_X2_isPattern : ∀ as σ K, sp_X2_isPattern as σ K → ∃ h As, as = .inr (some h) :: As ∧ a_is σ h 2 10 = true := by
  rintro as σ K ⟨I, F, B, n, p, rfl, rfl, -⟩
  exact ⟨0, _, rfl, rfl⟩
def P_X2_isPattern (K : aK) (bc bs : Nat) : List (Nat × aT) := [(0, t_ild 1 1),
  (1, t_if (fun x => x < 0) 16 4),
  (4, t_ild 1 5),
  (5, t_ald 0 6),
  (6, t_geti 2 10 4 9),
  (9, t_ifc (fun x y => y ≤ x) 16 12),
  (12, t_ic 1 13),
  (13, t_goto 17),
  (16, t_ic 0 17),
  (17, t_zret K bc bs)]
set_option maxRecDepth 100000 in
theorem S_X2_isPattern {X : a_X} {K : aK} {l : Launch} {D : va_G} {G : aG} {N0 : Nat} (C : a_C X cX2_isPattern (some .boolean) RX2) (Y : a_Y X l (a_rm 1 0 0) D G N0) (M : a_mq X K (a_rm 1 0 0).cells (a_rm 1 0 0).slots) : ∀ x ∈ P_X2_isPattern K 0 0, a_Sd X x.1 x.2 := by
  unfold P_X2_isPattern
  refine List.forall_mem_cons.mpr ⟨s_ildn C dX2_isPattern_0 rfl, ?_⟩
  refine List.forall_mem_cons.mpr ⟨s_if_lt C dX2_isPattern_1 (by decide), ?_⟩
  refine List.forall_mem_cons.mpr ⟨s_ildn C dX2_isPattern_4 rfl, ?_⟩
  refine List.forall_mem_cons.mpr ⟨s_aldn C dX2_isPattern_5 rfl, ?_⟩
  refine List.forall_mem_cons.mpr ⟨s_geti C rfl in_X2 (by decide) lk_X2_49 rfl dX2_isPattern_6, ?_⟩
  refine List.forall_mem_cons.mpr ⟨s_icmp_ge C dX2_isPattern_9 (by decide), ?_⟩
  refine List.forall_mem_cons.mpr ⟨s_ic C dX2_isPattern_12 (by decide), ?_⟩
  refine List.forall_mem_cons.mpr ⟨s_goto C dX2_isPattern_13 (by decide), ?_⟩
  refine List.forall_mem_cons.mpr ⟨s_ic C dX2_isPattern_16 (by decide), ?_⟩
  refine List.forall_mem_cons.mpr ⟨s_zret C M dX2_isPattern_17, ?_⟩
  exact fun _ h => absurd h List.not_mem_nil
theorem con_X2_isPattern : a_Con l D G N0 yX2_isPattern cX2_isPattern 2 (some .boolean) (a_rm 1 0 0) sp_X2_isPattern := by
  refine a_con (by decide) (fun as σ K h => by obtain ⟨I, F, B, n, p, rfl, rfl, -⟩ := h; exact Nat.le_refl _) ?_
  intro X as σ K h C Y M _
  obtain ⟨I, F, B, n, p, rfl, rfl, hn, hle, hK⟩ := h
  refine a_wps (S_X2_isPattern C Y M) (inv := a_ni) a_nih 20 _ _ _ _ _ _ ?_
  refine ⟨fun h1 => ?_, fun h1 => ⟨fun h2 => ?_, fun h2 => ?_⟩⟩
  · rw [show m_in p 0 (nI n - 1) = 0 from if_pos h1] at hK
    exact ⟨Or.inl rfl, hK⟩
  · have h2 : I 0 4 ≤ p := h2
    rw [hn] at h2
    rw [show m_in p 0 (nI n - 1) = 0 by unfold m_in; rw [if_neg h1, if_pos ((l_iffp hle h1).mp h2)]] at hK
    exact ⟨Or.inl rfl, hK⟩
  · have h2 : ¬ I 0 4 ≤ p := h2
    rw [hn] at h2
    rw [show m_in p 0 (nI n - 1) = 1 by unfold m_in; rw [if_neg h1, if_neg (fun w => h2 ((l_iffp hle h1).mpr w))]] at hK
    exact ⟨Or.inr rfl, hK⟩
theorem l_inp {p : Int32} {n : Nat} (hn : n ≤ 60) (h : ¬ m_in p 0 (nI n - 1) = 0) : m_vc n p := by
  unfold m_in at h
  by_cases h1 : p < 0
  · rw [if_pos h1] at h; exact absurd rfl h
  · by_cases h2 : nI n - 1 < p
    · rw [if_neg h1, if_pos h2] at h; exact absurd rfl h
    · have h3 : ¬ nI n ≤ p := fun w => h2 ((l_iffp hn h1).mp w)
      obtain ⟨j, hj, rfl⟩ := nI_of h1
      exact ⟨j, Nat.not_le.mp (fun w => h3 (nI_le w hj)), rfl⟩
theorem l_inv {p : Int32} {n : Nat} (hn : n ≤ 60) (h : m_vc n p) : m_in p 0 (nI n - 1) = 1 := by
  obtain ⟨j, hj, rfl⟩ := h
  have h1 : ¬ nI j < 0 := nI_pos (by omega)
  unfold m_in
  rw [if_neg h1, if_neg (fun w => nI_ge hj (by omega) ((l_iffp hn h1).mpr w))]
def sp_X2_numbered : aP := fun as σ K => ∃ I F B n p, σ = a_mk I F B ∧ as = [.inr (some 0), .inl p] ∧ I 0 4 = nI n ∧ n ≤ 60 ∧ K (some (.inr (if m_in p 0 (nI n - 1) = 0 then none else F 3 p.toNatClampNeg))) σ
theorem rc_X2_numbered : ∀ as σ K, sp_X2_numbered as σ K → ∃ h As, as = .inr (some h) :: As ∧ a_is σ h 2 10 = true := by
  rintro as σ K ⟨I, F, B, n, p, rfl, rfl, -⟩
  exact ⟨0, _, rfl, rfl⟩
def P_X2_numbered (K : aK) (bc bs : Nat) : List (Nat × aT) := [(0, t_ald 0 1),
  (1, t_ild 1 2),
  (2, t_call 2 0 0 bc bs sp_X2_isPattern 5),
  (5, t_if (fun x => x = 0) 17 8),
  (8, t_ald 0 9),
  (9, t_getr 2 10 2 12),
  (12, t_ild 1 13),
  (13, t_aald 14),
  (14, t_goto 18),
  (17, t_null 18),
  (18, t_aret K bc bs)]
set_option maxRecDepth 100000 in
theorem S_X2_numbered {X : a_X} {K : aK} {l : Launch} {D : va_G} {G : aG} {N0 : Nat} (C : a_C X cX2_numbered (some (.object "PatternLoom$Pattern")) RX2) (Y : a_Y X l (a_rm 2 0 0) D G N0) (M : a_mq X K (a_rm 2 0 0).cells (a_rm 2 0 0).slots) : ∀ x ∈ P_X2_numbered K 0 0, a_Sd X x.1 x.2 := by
  unfold P_X2_numbered
  refine List.forall_mem_cons.mpr ⟨s_aldn C dX2_numbered_0 rfl, ?_⟩
  refine List.forall_mem_cons.mpr ⟨s_ildn C dX2_numbered_1 rfl, ?_⟩
  refine List.forall_mem_cons.mpr ⟨s_callV (rm := (a_rm 1 0 0)) (n := 1) C Y (ci := 2) rfl con_X2_isPattern rc_X2_isPattern co_X2_isPattern ml_X2_63 im_X2_isPattern se_X2_isPattern ii_X2 (by decide +kernel) ⟨by decide, by decide⟩ ⟨rfl, rfl⟩ dX2_numbered_2, ?_⟩
  refine List.forall_mem_cons.mpr ⟨s_if_eq C dX2_numbered_5 (by decide), ?_⟩
  refine List.forall_mem_cons.mpr ⟨s_aldn C dX2_numbered_8 rfl, ?_⟩
  refine List.forall_mem_cons.mpr ⟨s_getr C rfl in_X2 (by decide) lk_X2_20 rfl dX2_numbered_9, ?_⟩
  refine List.forall_mem_cons.mpr ⟨s_ildn C dX2_numbered_12 rfl, ?_⟩
  refine List.forall_mem_cons.mpr ⟨s_aald C dX2_numbered_13, ?_⟩
  refine List.forall_mem_cons.mpr ⟨s_goto C dX2_numbered_14 (by decide), ?_⟩
  refine List.forall_mem_cons.mpr ⟨s_null C dX2_numbered_17, ?_⟩
  refine List.forall_mem_cons.mpr ⟨s_aret C (Or.inl ⟨_, rfl⟩) M dX2_numbered_18, ?_⟩
  exact fun _ h => absurd h List.not_mem_nil
theorem con_X2_numbered : a_Con l D G N0 yX2_numbered cX2_numbered 2 (some (.object "PatternLoom$Pattern")) (a_rm 2 0 0) sp_X2_numbered := by
  refine a_con (by decide) (fun as σ K h => by obtain ⟨I, F, B, n, p, rfl, rfl, -⟩ := h; exact Nat.le_refl _) ?_
  intro X as σ K h C Y M _
  obtain ⟨I, F, B, n, p, rfl, rfl, hn, hle, hK⟩ := h
  refine a_wps (S_X2_numbered C Y M) (inv := a_ni) a_nih 20 _ _ _ _ _ _ ?_
  refine ⟨I, F, B, n, p, rfl, rfl, hn, hle, fun h1 => ?_, fun h1 => ?_⟩
  · rw [if_pos h1] at hK; exact hK
  · rw [if_neg h1] at hK
    obtain ⟨j, hj, rfl⟩ := l_inp hle h1
    have hv : vp_in (nI j) 60 := vp_in_nI (by omega) (by decide)
    exact ⟨hv, hK⟩
def sp_X2_named : aP := fun as σ K => ∃ I F B p, σ = a_mk I F B ∧ as = [.inr (some 0), .inl p] ∧ K (some (.inr (if m_in p 0 5 = 0 then none else F 2 p.toNatClampNeg))) σ
theorem rc_X2_named : ∀ as σ K, sp_X2_named as σ K → ∃ h As, as = .inr (some h) :: As ∧ a_is σ h 2 10 = true := by
  rintro as σ K ⟨I, F, B, p, rfl, rfl, -⟩
  exact ⟨0, _, rfl, rfl⟩
def P_X2_named (K : aK) (bc bs : Nat) : List (Nat × aT) := [(0, t_ild 1 1),
  (1, t_call 1 0 0 bc bs sp_X2_isName 4),
  (4, t_if (fun x => x = 0) 16 7),
  (7, t_ald 0 8),
  (8, t_getr 2 10 1 11),
  (11, t_ild 1 12),
  (12, t_aald 13),
  (13, t_goto 17),
  (16, t_null 17),
  (17, t_aret K bc bs)]
set_option maxRecDepth 100000 in
theorem S_X2_named {X : a_X} {K : aK} {l : Launch} {D : va_G} {G : aG} {N0 : Nat} (C : a_C X cX2_named (some (.object "PatternLoom$Pattern")) RX2) (Y : a_Y X l (a_rm 2 0 0) D G N0) (M : a_mq X K (a_rm 2 0 0).cells (a_rm 2 0 0).slots) : ∀ x ∈ P_X2_named K 0 0, a_Sd X x.1 x.2 := by
  unfold P_X2_named
  refine List.forall_mem_cons.mpr ⟨s_ildn C dX2_named_0 rfl, ?_⟩
  refine List.forall_mem_cons.mpr ⟨s_callS (rm := (a_rm 1 0 0)) C Y con_X2_isName co_X2_isName ml_X2_60 st_X2_isName ii_X2 (by decide +kernel) ⟨by decide, by decide⟩ ⟨rfl, rfl⟩ dX2_named_1, ?_⟩
  refine List.forall_mem_cons.mpr ⟨s_if_eq C dX2_named_4 (by decide), ?_⟩
  refine List.forall_mem_cons.mpr ⟨s_aldn C dX2_named_7 rfl, ?_⟩
  refine List.forall_mem_cons.mpr ⟨s_getr C rfl in_X2 (by decide) lk_X2_16 rfl dX2_named_8, ?_⟩
  refine List.forall_mem_cons.mpr ⟨s_ildn C dX2_named_11 rfl, ?_⟩
  refine List.forall_mem_cons.mpr ⟨s_aald C dX2_named_12, ?_⟩
  refine List.forall_mem_cons.mpr ⟨s_goto C dX2_named_13 (by decide), ?_⟩
  refine List.forall_mem_cons.mpr ⟨s_null C dX2_named_16, ?_⟩
  refine List.forall_mem_cons.mpr ⟨s_aret C (Or.inl ⟨_, rfl⟩) M dX2_named_17, ?_⟩
  exact fun _ h => absurd h List.not_mem_nil
theorem con_X2_named : a_Con l D G N0 yX2_named cX2_named 2 (some (.object "PatternLoom$Pattern")) (a_rm 2 0 0) sp_X2_named := by
  refine a_con (by decide) (fun as σ K h => by obtain ⟨I, F, B, p, rfl, rfl, -⟩ := h; exact Nat.le_refl _) ?_
  intro X as σ K h C Y M _
  obtain ⟨I, F, B, p, rfl, rfl, hK⟩ := h
  refine a_wps (S_X2_named C Y M) (inv := a_ni) a_nih 20 _ _ _ _ _ _ ?_
  refine ⟨p, rfl, fun h1 => ?_, fun h1 => ?_⟩
  · rw [if_pos h1] at hK; exact hK
  · rw [if_neg h1] at hK
    obtain ⟨j, hj, rfl⟩ := m_in_n (b := 5) (by decide) h1
    have hv : vp_in (nI j) 6 := vp_in_nI (by omega) (by decide)
    exact ⟨hv, hK⟩
def sp_X2_fits : aP := fun as σ K => ∃ s b, as = [.inl s, .inl b] ∧ (m_bad s b → K (some (.inl 0)) σ) ∧ (¬ m_bad s b → K (some (.inl 1)) σ)
def P_X2_fits (K : aK) (bc bs : Nat) : List (Nat × aT) := [(0, t_ild 0 1),
  (1, t_sw [(4, 36), (10, 51), (12, 68)] 83),
  (36, t_ild 1 37),
  (37, t_if (fun x => x < 0) 49 40),
  (40, t_ild 1 41),
  (41, t_ic 3 42),
  (42, t_ifc (fun x y => y < x) 49 45),
  (45, t_ic 1 46),
  (46, t_goto 50),
  (49, t_ic 0 50),
  (50, t_zret K bc bs),
  (51, t_ild 1 52),
  (52, t_ic 1 53),
  (53, t_ifc (fun x y => x < y) 66 56),
  (56, t_ild 1 57),
  (57, t_ic 50 59),
  (59, t_ifc (fun x y => y < x) 66 62),
  (62, t_ic 1 63),
  (63, t_goto 67),
  (66, t_ic 0 67),
  (67, t_zret K bc bs),
  (68, t_ild 1 69),
  (69, t_if (fun x => x < 0) 81 72),
  (72, t_ild 1 73),
  (73, t_ic 4 74),
  (74, t_ifc (fun x y => y ≤ x) 81 77),
  (77, t_ic 1 78),
  (78, t_goto 82),
  (81, t_ic 0 82),
  (82, t_zret K bc bs),
  (83, t_ic 1 84),
  (84, t_zret K bc bs)]
set_option maxRecDepth 100000 in
theorem S_X2_fits {X : a_X} {K : aK} {l : Launch} {D : va_G} {G : aG} {N0 : Nat} (C : a_C X cX2_fits (some .boolean) RX2) (Y : a_Y X l (a_rm 1 0 0) D G N0) (M : a_mq X K (a_rm 1 0 0).cells (a_rm 1 0 0).slots) : ∀ x ∈ P_X2_fits K 0 0, a_Sd X x.1 x.2 := by
  unfold P_X2_fits
  refine List.forall_mem_cons.mpr ⟨s_ildn C dX2_fits_0 rfl, ?_⟩
  refine List.forall_mem_cons.mpr ⟨s_lsw C dX2_fits_1 (by decide) (a_lok_cons (by decide) (by decide) (a_lok_cons (by decide) (by decide) (a_lok_cons (by decide) (by decide) (a_lok_nil (by decide))))), ?_⟩
  refine List.forall_mem_cons.mpr ⟨s_ildn C dX2_fits_36 rfl, ?_⟩
  refine List.forall_mem_cons.mpr ⟨s_if_lt C dX2_fits_37 (by decide), ?_⟩
  refine List.forall_mem_cons.mpr ⟨s_ildn C dX2_fits_40 rfl, ?_⟩
  refine List.forall_mem_cons.mpr ⟨s_ic C dX2_fits_41 (by decide), ?_⟩
  refine List.forall_mem_cons.mpr ⟨s_icmp_gt C dX2_fits_42 (by decide), ?_⟩
  refine List.forall_mem_cons.mpr ⟨s_ic C dX2_fits_45 (by decide), ?_⟩
  refine List.forall_mem_cons.mpr ⟨s_goto C dX2_fits_46 (by decide), ?_⟩
  refine List.forall_mem_cons.mpr ⟨s_ic C dX2_fits_49 (by decide), ?_⟩
  refine List.forall_mem_cons.mpr ⟨s_zret C M dX2_fits_50, ?_⟩
  refine List.forall_mem_cons.mpr ⟨s_ildn C dX2_fits_51 rfl, ?_⟩
  refine List.forall_mem_cons.mpr ⟨s_ic C dX2_fits_52 (by decide), ?_⟩
  refine List.forall_mem_cons.mpr ⟨s_icmp_lt C dX2_fits_53 (by decide), ?_⟩
  refine List.forall_mem_cons.mpr ⟨s_ildn C dX2_fits_56 rfl, ?_⟩
  refine List.forall_mem_cons.mpr ⟨s_bi C dX2_fits_57 (by decide), ?_⟩
  refine List.forall_mem_cons.mpr ⟨s_icmp_gt C dX2_fits_59 (by decide), ?_⟩
  refine List.forall_mem_cons.mpr ⟨s_ic C dX2_fits_62 (by decide), ?_⟩
  refine List.forall_mem_cons.mpr ⟨s_goto C dX2_fits_63 (by decide), ?_⟩
  refine List.forall_mem_cons.mpr ⟨s_ic C dX2_fits_66 (by decide), ?_⟩
  refine List.forall_mem_cons.mpr ⟨s_zret C M dX2_fits_67, ?_⟩
  refine List.forall_mem_cons.mpr ⟨s_ildn C dX2_fits_68 rfl, ?_⟩
  refine List.forall_mem_cons.mpr ⟨s_if_lt C dX2_fits_69 (by decide), ?_⟩
  refine List.forall_mem_cons.mpr ⟨s_ildn C dX2_fits_72 rfl, ?_⟩
  refine List.forall_mem_cons.mpr ⟨s_ic C dX2_fits_73 (by decide), ?_⟩
  refine List.forall_mem_cons.mpr ⟨s_icmp_ge C dX2_fits_74 (by decide), ?_⟩
  refine List.forall_mem_cons.mpr ⟨s_ic C dX2_fits_77 (by decide), ?_⟩
  refine List.forall_mem_cons.mpr ⟨s_goto C dX2_fits_78 (by decide), ?_⟩
  refine List.forall_mem_cons.mpr ⟨s_ic C dX2_fits_81 (by decide), ?_⟩
  refine List.forall_mem_cons.mpr ⟨s_zret C M dX2_fits_82, ?_⟩
  refine List.forall_mem_cons.mpr ⟨s_ic C dX2_fits_83 (by decide), ?_⟩
  refine List.forall_mem_cons.mpr ⟨s_zret C M dX2_fits_84, ?_⟩
  exact fun _ h => absurd h List.not_mem_nil
theorem con_X2_fits : a_Con l D G N0 yX2_fits cX2_fits 2 (some .boolean) (a_rm 1 0 0) sp_X2_fits := by
  refine a_con (by decide) (fun as σ K h => by obtain ⟨s, b, rfl, -⟩ := h; exact Nat.le_refl _) ?_
  intro X as σ K h C Y M _
  obtain ⟨s, b, rfl, hK0, hK1⟩ := h
  refine a_wps (S_X2_fits C Y M) (inv := a_ni) a_nih 30 _ _ _ _ _ _ ?_
  refine ⟨fun h4 => ?_, fun h4 => ⟨fun h10 => ?_, fun h10 => ⟨fun h12 => ?_, fun h12 => ?_⟩⟩⟩
  · refine ⟨fun h1 => ⟨Or.inl rfl, hK0 (Or.inl ⟨h4, if_pos h1⟩)⟩, fun h1 => ⟨fun h2 => ⟨Or.inl rfl, hK0 (Or.inl ⟨h4, by unfold m_in; rw [if_neg h1, if_pos h2]⟩)⟩, fun h2 => ⟨Or.inr rfl, hK1 (fun w => ?_)⟩⟩⟩
    rcases w with ⟨_, w⟩ | ⟨w, _⟩ | ⟨w, _⟩
    · rw [show m_in b 0 3 = 1 by unfold m_in; rw [if_neg h1, if_neg h2]] at w
      exact absurd w (by decide)
    · exact absurd (h4.symm.trans w) (by decide)
    · exact absurd (h4.symm.trans w) (by decide)
  · refine ⟨fun h1 => ⟨Or.inl rfl, hK0 (Or.inr (Or.inl ⟨h10, if_pos h1⟩))⟩, fun h1 => ⟨fun h2 => ⟨Or.inl rfl, hK0 (Or.inr (Or.inl ⟨h10, by unfold m_in; rw [if_neg h1, if_pos h2]⟩))⟩, fun h2 => ⟨Or.inr rfl, hK1 (fun w => ?_)⟩⟩⟩
    rcases w with ⟨w, _⟩ | ⟨_, w⟩ | ⟨w, _⟩
    · exact absurd (h10.symm.trans w) (by decide)
    · rw [show m_in b 1 50 = 1 by unfold m_in; rw [if_neg h1, if_neg h2]] at w
      exact absurd w (by decide)
    · exact absurd (h10.symm.trans w) (by decide)
  · refine ⟨fun h1 => ⟨Or.inl rfl, hK0 (Or.inr (Or.inr ⟨h12, if_pos h1⟩))⟩, fun h1 => ⟨fun h2 => ⟨Or.inl rfl, hK0 (Or.inr (Or.inr ⟨h12, by unfold m_in; rw [if_neg h1, if_pos ((l_lt3 b).mp h2)]⟩))⟩, fun h2 => ⟨Or.inr rfl, hK1 (fun w => ?_)⟩⟩⟩
    rcases w with ⟨w, _⟩ | ⟨w, _⟩ | ⟨_, w⟩
    · exact absurd (h12.symm.trans w) (by decide)
    · exact absurd (h12.symm.trans w) (by decide)
    · rw [show m_in b 0 3 = 1 by unfold m_in; rw [if_neg h1, if_neg (fun w => h2 ((l_lt3 b).mpr w))]] at w
      exact absurd w (by decide)
  · refine ⟨Or.inr rfl, hK1 (fun w => ?_)⟩
    rcases w with ⟨w, _⟩ | ⟨w, _⟩ | ⟨w, _⟩
    · exact h4 w
    · exact h10 w
    · exact h12 w
def sp_X2_fail : aP := fun as σ K => ∃ I F B b, σ = a_mk I F B ∧ as = [.inr (some 0), .inl b] ∧ K (some (.inl 0)) (a_mk (a_w I 0 6 b) F B)
theorem rc_X2_fail : ∀ as σ K, sp_X2_fail as σ K → ∃ h As, as = .inr (some h) :: As ∧ a_is σ h 2 10 = true := by
  rintro as σ K ⟨I, F, B, p, rfl, rfl, -⟩
  exact ⟨0, _, rfl, rfl⟩
def P_X2_fail (K : aK) (bc bs : Nat) : List (Nat × aT) := [(0, t_ald 0 1),
  (1, t_ild 1 2),
  (2, t_puti 2 10 6 5),
  (5, t_ic 0 6),
  (6, t_iret K bc bs)]
set_option maxRecDepth 100000 in
theorem S_X2_fail {X : a_X} {K : aK} {l : Launch} {D : va_G} {G : aG} {N0 : Nat} (C : a_C X cX2_fail (some .int) RX2) (Y : a_Y X l (a_rm 1 0 0) D G N0) (M : a_mq X K (a_rm 1 0 0).cells (a_rm 1 0 0).slots) : ∀ x ∈ P_X2_fail K 0 0, a_Sd X x.1 x.2 := by
  unfold P_X2_fail
  refine List.forall_mem_cons.mpr ⟨s_aldn C dX2_fail_0 rfl, ?_⟩
  refine List.forall_mem_cons.mpr ⟨s_ildn C dX2_fail_1 rfl, ?_⟩
  refine List.forall_mem_cons.mpr ⟨s_puti C tyX2 tyX2_ok nmX2 rfl in_X2 (by decide) lk_X2_76 rfl (Or.inl rfl) rfl dX2_fail_2, ?_⟩
  refine List.forall_mem_cons.mpr ⟨s_ic C dX2_fail_5 (by decide), ?_⟩
  refine List.forall_mem_cons.mpr ⟨s_iret C M dX2_fail_6, ?_⟩
  exact fun _ h => absurd h List.not_mem_nil
theorem con_X2_fail : a_Con l D G N0 yX2_fail cX2_fail 2 (some .int) (a_rm 1 0 0) sp_X2_fail := by
  refine a_con (by decide) (fun as σ K h => by obtain ⟨I, F, B, p, rfl, rfl, -⟩ := h; exact Nat.le_refl _) ?_
  intro X as σ K h C Y M _
  obtain ⟨I, F, B, b, rfl, rfl, hK⟩ := h
  exact a_wps (S_X2_fail C Y M) (inv := a_ni) a_nih 20 _ _ _ _ _ _ hK
def m_sv (f b : Int32) : Int32 := if f = 4 then 0 else if b = 0 then 1 else if b = f then 1 else 0
def sp_X2_saves : aP := fun as σ K => ∃ I F B b, σ = a_mk I F B ∧ as = [.inr (some 0), .inl b] ∧ K (some (.inl (m_sv (I 0 6) b))) σ
theorem rc_X2_saves : ∀ as σ K, sp_X2_saves as σ K → ∃ h As, as = .inr (some h) :: As ∧ a_is σ h 2 10 = true := by
  rintro as σ K ⟨I, F, B, p, rfl, rfl, -⟩
  exact ⟨0, _, rfl, rfl⟩
def P_X2_saves (K : aK) (bc bs : Nat) : List (Nat × aT) := [(0, t_ald 0 1),
  (1, t_geti 2 10 6 4),
  (4, t_ic 4 5),
  (5, t_ifc (fun x y => x = y) 24 8),
  (8, t_ild 1 9),
  (9, t_if (fun x => x = 0) 20 12),
  (12, t_ild 1 13),
  (13, t_ald 0 14),
  (14, t_geti 2 10 6 17),
  (17, t_ifc (fun x y => x = y) 20 24),
  (20, t_ic 1 21),
  (21, t_goto 25),
  (24, t_ic 0 25),
  (25, t_zret K bc bs)]
set_option maxRecDepth 100000 in
theorem S_X2_saves {X : a_X} {K : aK} {l : Launch} {D : va_G} {G : aG} {N0 : Nat} (C : a_C X cX2_saves (some .boolean) RX2) (Y : a_Y X l (a_rm 1 0 0) D G N0) (M : a_mq X K (a_rm 1 0 0).cells (a_rm 1 0 0).slots) : ∀ x ∈ P_X2_saves K 0 0, a_Sd X x.1 x.2 := by
  unfold P_X2_saves
  refine List.forall_mem_cons.mpr ⟨s_aldn C dX2_saves_0 rfl, ?_⟩
  refine List.forall_mem_cons.mpr ⟨s_geti C rfl in_X2 (by decide) lk_X2_76 rfl dX2_saves_1, ?_⟩
  refine List.forall_mem_cons.mpr ⟨s_ic C dX2_saves_4 (by decide), ?_⟩
  refine List.forall_mem_cons.mpr ⟨s_icmp_eq C dX2_saves_5 (by decide), ?_⟩
  refine List.forall_mem_cons.mpr ⟨s_ildn C dX2_saves_8 rfl, ?_⟩
  refine List.forall_mem_cons.mpr ⟨s_if_eq C dX2_saves_9 (by decide), ?_⟩
  refine List.forall_mem_cons.mpr ⟨s_ildn C dX2_saves_12 rfl, ?_⟩
  refine List.forall_mem_cons.mpr ⟨s_aldn C dX2_saves_13 rfl, ?_⟩
  refine List.forall_mem_cons.mpr ⟨s_geti C rfl in_X2 (by decide) lk_X2_76 rfl dX2_saves_14, ?_⟩
  refine List.forall_mem_cons.mpr ⟨s_icmp_ne C dX2_saves_17 (by decide), ?_⟩
  refine List.forall_mem_cons.mpr ⟨s_ic C dX2_saves_20 (by decide), ?_⟩
  refine List.forall_mem_cons.mpr ⟨s_goto C dX2_saves_21 (by decide), ?_⟩
  refine List.forall_mem_cons.mpr ⟨s_ic C dX2_saves_24 (by decide), ?_⟩
  refine List.forall_mem_cons.mpr ⟨s_zret C M dX2_saves_25, ?_⟩
  exact fun _ h => absurd h List.not_mem_nil
theorem con_X2_saves : a_Con l D G N0 yX2_saves cX2_saves 2 (some .boolean) (a_rm 1 0 0) sp_X2_saves := by
  refine a_con (by decide) (fun as σ K h => by obtain ⟨I, F, B, p, rfl, rfl, -⟩ := h; exact Nat.le_refl _) ?_
  intro X as σ K h C Y M _
  obtain ⟨I, F, B, b, rfl, rfl, hK⟩ := h
  refine a_wps (S_X2_saves C Y M) (inv := a_ni) a_nih 20 _ _ _ _ _ _ ?_
  unfold m_sv at hK
  refine ⟨fun h1 => ?_, fun h1 => ⟨fun h2 => ?_, fun h2 => ⟨fun h3 => ?_, fun h3 => ?_⟩⟩⟩
  · rw [if_pos h1] at hK; exact ⟨Or.inl rfl, hK⟩
  · rw [if_neg h1, if_pos h2] at hK; exact ⟨Or.inr rfl, hK⟩
  · rw [if_neg h1, if_neg h2, if_pos h3] at hK; exact ⟨Or.inr rfl, hK⟩
  · rw [if_neg h1, if_neg h2, if_neg h3] at hK; exact ⟨Or.inl rfl, hK⟩
def sp_X2_knowsAll : aP := fun as σ K => ∃ I F B n s a b c, σ = a_mk I F B ∧ as = [.inr (some 0), .inl s, .inl a, .inl b, .inl c] ∧ I 0 4 = nI n ∧ n ≤ 60 ∧ ¬ m_in s 0 13 = 0 ∧ K (some (.inl (m_there (nI n - 1) s a b c))) σ
theorem rc_X2_knowsAll : ∀ as σ K, sp_X2_knowsAll as σ K → ∃ h As, as = .inr (some h) :: As ∧ a_is σ h 2 10 = true := by
  rintro as σ K ⟨I, F, B, n, s, a, b, c, rfl, rfl, -⟩
  exact ⟨0, _, rfl, rfl⟩
def P_X2_knowsAll (K : aK) (bc bs : Nat) : List (Nat × aT) := [(0, t_ild 1 1),
  (1, t_sw [(3, 60), (4, 60), (5, 66), (6, 88), (7, 119), (8, 119), (9, 140), (10, 60), (11, 66), (12, 60), (13, 140)] 145),
  (60, t_ald 0 61),
  (61, t_ild 2 62),
  (62, t_call 2 0 0 bc bs sp_X2_isPattern 65),
  (65, t_zret K bc bs),
  (66, t_ald 0 67),
  (67, t_ild 2 68),
  (68, t_call 2 0 0 bc bs sp_X2_isPattern 71),
  (71, t_if (fun x => x = 0) 86 74),
  (74, t_ald 0 75),
  (75, t_ild 3 76),
  (76, t_call 2 0 0 bc bs sp_X2_isPattern 79),
  (79, t_if (fun x => x = 0) 86 82),
  (82, t_ic 1 83),
  (83, t_goto 87),
  (86, t_ic 0 87),
  (87, t_zret K bc bs),
  (88, t_ald 0 89),
  (89, t_ild 2 90),
  (90, t_call 2 0 0 bc bs sp_X2_isPattern 93),
  (93, t_if (fun x => x = 0) 117 96),
  (96, t_ald 0 97),
  (97, t_ild 3 98),
  (98, t_call 2 0 0 bc bs sp_X2_isPattern 101),
  (101, t_if (fun x => x = 0) 117 104),
  (104, t_ald 0 105),
  (105, t_ild 4 107),
  (107, t_call 2 0 0 bc bs sp_X2_isPattern 110),
  (110, t_if (fun x => x = 0) 117 113),
  (113, t_ic 1 114),
  (114, t_goto 118),
  (117, t_ic 0 118),
  (118, t_zret K bc bs),
  (119, t_ald 0 120),
  (120, t_ild 2 121),
  (121, t_call 2 0 0 bc bs sp_X2_isPattern 124),
  (124, t_if (fun x => x = 0) 138 127),
  (127, t_ild 3 128),
  (128, t_call 1 0 0 bc bs sp_X2_isDye 131),
  (131, t_if (fun x => x = 0) 138 134),
  (134, t_ic 1 135),
  (135, t_goto 139),
  (138, t_ic 0 139),
  (139, t_zret K bc bs),
  (140, t_ild 2 141),
  (141, t_call 1 0 0 bc bs sp_X2_isName 144),
  (144, t_zret K bc bs),
  (145, t_ic 1 146),
  (146, t_zret K bc bs)]
set_option maxRecDepth 100000 in
theorem S_X2_knowsAll {X : a_X} {K : aK} {l : Launch} {D : va_G} {G : aG} {N0 : Nat} (C : a_C X cX2_knowsAll (some .boolean) RX2) (Y : a_Y X l (a_rm 2 0 0) D G N0) (M : a_mq X K (a_rm 2 0 0).cells (a_rm 2 0 0).slots) : ∀ x ∈ P_X2_knowsAll K 0 0, a_Sd X x.1 x.2 := by
  unfold P_X2_knowsAll
  refine List.forall_mem_cons.mpr ⟨s_ildn C dX2_knowsAll_0 rfl, ?_⟩
  refine List.forall_mem_cons.mpr ⟨s_tsw C dX2_knowsAll_1 (a_tok_of2 10 (by decide) (by decide) (by decide) (by decide)), ?_⟩
  refine List.forall_mem_cons.mpr ⟨s_aldn C dX2_knowsAll_60 rfl, ?_⟩
  refine List.forall_mem_cons.mpr ⟨s_ildn C dX2_knowsAll_61 rfl, ?_⟩
  refine List.forall_mem_cons.mpr ⟨s_callV (rm := (a_rm 1 0 0)) (n := 1) C Y (ci := 2) rfl con_X2_isPattern rc_X2_isPattern co_X2_isPattern ml_X2_63 im_X2_isPattern se_X2_isPattern ii_X2 (by decide +kernel) ⟨by decide, by decide⟩ ⟨rfl, rfl⟩ dX2_knowsAll_62, ?_⟩
  refine List.forall_mem_cons.mpr ⟨s_zret C M dX2_knowsAll_65, ?_⟩
  refine List.forall_mem_cons.mpr ⟨s_aldn C dX2_knowsAll_66 rfl, ?_⟩
  refine List.forall_mem_cons.mpr ⟨s_ildn C dX2_knowsAll_67 rfl, ?_⟩
  refine List.forall_mem_cons.mpr ⟨s_callV (rm := (a_rm 1 0 0)) (n := 1) C Y (ci := 2) rfl con_X2_isPattern rc_X2_isPattern co_X2_isPattern ml_X2_63 im_X2_isPattern se_X2_isPattern ii_X2 (by decide +kernel) ⟨by decide, by decide⟩ ⟨rfl, rfl⟩ dX2_knowsAll_68, ?_⟩
  refine List.forall_mem_cons.mpr ⟨s_if_eq C dX2_knowsAll_71 (by decide), ?_⟩
  refine List.forall_mem_cons.mpr ⟨s_aldn C dX2_knowsAll_74 rfl, ?_⟩
  refine List.forall_mem_cons.mpr ⟨s_ildn C dX2_knowsAll_75 rfl, ?_⟩
  refine List.forall_mem_cons.mpr ⟨s_callV (rm := (a_rm 1 0 0)) (n := 1) C Y (ci := 2) rfl con_X2_isPattern rc_X2_isPattern co_X2_isPattern ml_X2_63 im_X2_isPattern se_X2_isPattern ii_X2 (by decide +kernel) ⟨by decide, by decide⟩ ⟨rfl, rfl⟩ dX2_knowsAll_76, ?_⟩
  refine List.forall_mem_cons.mpr ⟨s_if_eq C dX2_knowsAll_79 (by decide), ?_⟩
  refine List.forall_mem_cons.mpr ⟨s_ic C dX2_knowsAll_82 (by decide), ?_⟩
  refine List.forall_mem_cons.mpr ⟨s_goto C dX2_knowsAll_83 (by decide), ?_⟩
  refine List.forall_mem_cons.mpr ⟨s_ic C dX2_knowsAll_86 (by decide), ?_⟩
  refine List.forall_mem_cons.mpr ⟨s_zret C M dX2_knowsAll_87, ?_⟩
  refine List.forall_mem_cons.mpr ⟨s_aldn C dX2_knowsAll_88 rfl, ?_⟩
  refine List.forall_mem_cons.mpr ⟨s_ildn C dX2_knowsAll_89 rfl, ?_⟩
  refine List.forall_mem_cons.mpr ⟨s_callV (rm := (a_rm 1 0 0)) (n := 1) C Y (ci := 2) rfl con_X2_isPattern rc_X2_isPattern co_X2_isPattern ml_X2_63 im_X2_isPattern se_X2_isPattern ii_X2 (by decide +kernel) ⟨by decide, by decide⟩ ⟨rfl, rfl⟩ dX2_knowsAll_90, ?_⟩
  refine List.forall_mem_cons.mpr ⟨s_if_eq C dX2_knowsAll_93 (by decide), ?_⟩
  refine List.forall_mem_cons.mpr ⟨s_aldn C dX2_knowsAll_96 rfl, ?_⟩
  refine List.forall_mem_cons.mpr ⟨s_ildn C dX2_knowsAll_97 rfl, ?_⟩
  refine List.forall_mem_cons.mpr ⟨s_callV (rm := (a_rm 1 0 0)) (n := 1) C Y (ci := 2) rfl con_X2_isPattern rc_X2_isPattern co_X2_isPattern ml_X2_63 im_X2_isPattern se_X2_isPattern ii_X2 (by decide +kernel) ⟨by decide, by decide⟩ ⟨rfl, rfl⟩ dX2_knowsAll_98, ?_⟩
  refine List.forall_mem_cons.mpr ⟨s_if_eq C dX2_knowsAll_101 (by decide), ?_⟩
  refine List.forall_mem_cons.mpr ⟨s_aldn C dX2_knowsAll_104 rfl, ?_⟩
  refine List.forall_mem_cons.mpr ⟨s_ild C dX2_knowsAll_105, ?_⟩
  refine List.forall_mem_cons.mpr ⟨s_callV (rm := (a_rm 1 0 0)) (n := 1) C Y (ci := 2) rfl con_X2_isPattern rc_X2_isPattern co_X2_isPattern ml_X2_63 im_X2_isPattern se_X2_isPattern ii_X2 (by decide +kernel) ⟨by decide, by decide⟩ ⟨rfl, rfl⟩ dX2_knowsAll_107, ?_⟩
  refine List.forall_mem_cons.mpr ⟨s_if_eq C dX2_knowsAll_110 (by decide), ?_⟩
  refine List.forall_mem_cons.mpr ⟨s_ic C dX2_knowsAll_113 (by decide), ?_⟩
  refine List.forall_mem_cons.mpr ⟨s_goto C dX2_knowsAll_114 (by decide), ?_⟩
  refine List.forall_mem_cons.mpr ⟨s_ic C dX2_knowsAll_117 (by decide), ?_⟩
  refine List.forall_mem_cons.mpr ⟨s_zret C M dX2_knowsAll_118, ?_⟩
  refine List.forall_mem_cons.mpr ⟨s_aldn C dX2_knowsAll_119 rfl, ?_⟩
  refine List.forall_mem_cons.mpr ⟨s_ildn C dX2_knowsAll_120 rfl, ?_⟩
  refine List.forall_mem_cons.mpr ⟨s_callV (rm := (a_rm 1 0 0)) (n := 1) C Y (ci := 2) rfl con_X2_isPattern rc_X2_isPattern co_X2_isPattern ml_X2_63 im_X2_isPattern se_X2_isPattern ii_X2 (by decide +kernel) ⟨by decide, by decide⟩ ⟨rfl, rfl⟩ dX2_knowsAll_121, ?_⟩
  refine List.forall_mem_cons.mpr ⟨s_if_eq C dX2_knowsAll_124 (by decide), ?_⟩
  refine List.forall_mem_cons.mpr ⟨s_ildn C dX2_knowsAll_127 rfl, ?_⟩
  refine List.forall_mem_cons.mpr ⟨s_callS (rm := (a_rm 1 0 0)) C Y con_X2_isDye co_X2_isDye ml_X2_33 st_X2_isDye ii_X2 (by decide +kernel) ⟨by decide, by decide⟩ ⟨rfl, rfl⟩ dX2_knowsAll_128, ?_⟩
  refine List.forall_mem_cons.mpr ⟨s_if_eq C dX2_knowsAll_131 (by decide), ?_⟩
  refine List.forall_mem_cons.mpr ⟨s_ic C dX2_knowsAll_134 (by decide), ?_⟩
  refine List.forall_mem_cons.mpr ⟨s_goto C dX2_knowsAll_135 (by decide), ?_⟩
  refine List.forall_mem_cons.mpr ⟨s_ic C dX2_knowsAll_138 (by decide), ?_⟩
  refine List.forall_mem_cons.mpr ⟨s_zret C M dX2_knowsAll_139, ?_⟩
  refine List.forall_mem_cons.mpr ⟨s_ildn C dX2_knowsAll_140 rfl, ?_⟩
  refine List.forall_mem_cons.mpr ⟨s_callS (rm := (a_rm 1 0 0)) C Y con_X2_isName co_X2_isName ml_X2_60 st_X2_isName ii_X2 (by decide +kernel) ⟨by decide, by decide⟩ ⟨rfl, rfl⟩ dX2_knowsAll_141, ?_⟩
  refine List.forall_mem_cons.mpr ⟨s_zret C M dX2_knowsAll_144, ?_⟩
  refine List.forall_mem_cons.mpr ⟨s_ic C dX2_knowsAll_145 (by decide), ?_⟩
  refine List.forall_mem_cons.mpr ⟨s_zret C M dX2_knowsAll_146, ?_⟩
  exact fun _ h => absurd h List.not_mem_nil
set_option maxRecDepth 20000 in
theorem con_X2_knowsAll : a_Con l D G N0 yX2_knowsAll cX2_knowsAll 5 (some .boolean) (a_rm 2 0 0) sp_X2_knowsAll := by
  refine a_con (by decide) (fun as σ K h => by obtain ⟨I, F, B, n, s, a, b, c, rfl, rfl, -⟩ := h; exact (by decide : 5 ≤ 5)) ?_
  intro X as σ K h C Y M _
  obtain ⟨I, F, B, n, s, a, b, c, rfl, rfl, hn, hle, hs, hK⟩ := h
  refine a_wps (S_X2_knowsAll C Y M) (inv := a_ni) a_nih 60 _ _ _ _ _ _ ?_
  unfold m_there at hK
  have ne : ∀ {a b : Int32}, s = a → ¬ a = b → ¬ s = b := fun h w e => w (h.symm.trans e)
  have one : ∀ {j : Int32}, s = j → ¬ j = 0 → ¬ j = 1 → ¬ j = 2 → (¬ s = 0 ∧ ¬ s = 1 ∧ ¬ s = 2) := fun h h0 h1 h2 => ⟨ne h h0, ne h h1, ne h h2⟩
  refine ⟨fun h3 => ?_, fun h3 => ⟨fun h4 => ?_, fun h4 => ⟨fun h5 => ?_, fun h5 => ⟨fun h6 => ?_, fun h6 => ⟨fun h7 => ?_, fun h7 => ⟨fun h8 => ?_, fun h8 => ⟨fun h9 => ?_, fun h9 => ⟨fun h10 => ?_, fun h10 => ⟨fun h11 => ?_, fun h11 => ⟨fun h12 => ?_, fun h12 => ⟨fun h13 => ?_, fun h13 => ?_⟩⟩⟩⟩⟩⟩⟩⟩⟩⟩⟩
  · obtain ⟨h0, h1, h2⟩ := one h3 (by decide) (by decide) (by decide)
    rw [if_neg h0, if_neg h1, if_neg h2, if_pos h3] at hK; exact ⟨I, F, B, n, _, rfl, rfl, hn, hle, m_in_01 _ _ _, hK⟩
  · obtain ⟨h0, h1, h2⟩ := one h4 (by decide) (by decide) (by decide)
    rw [if_neg h0, if_neg h1, if_neg h2, if_neg h3, if_pos h4] at hK; exact ⟨I, F, B, n, _, rfl, rfl, hn, hle, m_in_01 _ _ _, hK⟩
  · obtain ⟨h0, h1, h2⟩ := one h5 (by decide) (by decide) (by decide)
    rw [if_neg h0, if_neg h1, if_neg h2, if_neg h3, if_neg h4, if_pos h5] at hK
    refine ⟨I, F, B, n, _, rfl, rfl, hn, hle, fun z => ?_, fun z => ⟨I, F, B, n, _, rfl, rfl, hn, hle, fun z2 => ?_, fun z2 => ?_⟩⟩
    · rw [if_pos z] at hK; exact ⟨Or.inl rfl, hK⟩
    · rw [if_neg z, if_pos z2] at hK; exact ⟨Or.inl rfl, hK⟩
    · rw [if_neg z, if_neg z2] at hK; exact ⟨Or.inr rfl, hK⟩
  · obtain ⟨h0, h1, h2⟩ := one h6 (by decide) (by decide) (by decide)
    rw [if_neg h0, if_neg h1, if_neg h2, if_neg h3, if_neg h4, if_neg h5, if_pos h6] at hK
    refine ⟨I, F, B, n, _, rfl, rfl, hn, hle, fun z => ?_, fun z => ⟨I, F, B, n, _, rfl, rfl, hn, hle, fun z2 => ?_, fun z2 => ⟨I, F, B, n, _, rfl, rfl, hn, hle, fun z3 => ?_, fun z3 => ?_⟩⟩⟩
    · rw [if_pos z] at hK; exact ⟨Or.inl rfl, hK⟩
    · rw [if_neg z, if_pos z2] at hK; exact ⟨Or.inl rfl, hK⟩
    · rw [if_neg z, if_neg z2, if_pos z3] at hK; exact ⟨Or.inl rfl, hK⟩
    · rw [if_neg z, if_neg z2, if_neg z3] at hK; exact ⟨Or.inr rfl, hK⟩
  · obtain ⟨h0, h1, h2⟩ := one h7 (by decide) (by decide) (by decide)
    rw [if_neg h0, if_neg h1, if_neg h2, if_neg h3, if_neg h4, if_neg h5, if_neg h6, if_pos h7] at hK
    refine ⟨I, F, B, n, _, rfl, rfl, hn, hle, fun z => ?_, fun z => ⟨_, rfl, fun z2 => ?_, fun z2 => ?_⟩⟩
    · rw [if_pos z] at hK; exact ⟨Or.inl rfl, hK⟩
    · rw [if_neg z, if_pos z2] at hK; exact ⟨Or.inl rfl, hK⟩
    · rw [if_neg z, if_neg z2] at hK; exact ⟨Or.inr rfl, hK⟩
  · obtain ⟨h0, h1, h2⟩ := one h8 (by decide) (by decide) (by decide)
    rw [if_neg h0, if_neg h1, if_neg h2, if_neg h3, if_neg h4, if_neg h5, if_neg h6, if_neg h7, if_pos h8] at hK
    refine ⟨I, F, B, n, _, rfl, rfl, hn, hle, fun z => ?_, fun z => ⟨_, rfl, fun z2 => ?_, fun z2 => ?_⟩⟩
    · rw [if_pos z] at hK; exact ⟨Or.inl rfl, hK⟩
    · rw [if_neg z, if_pos z2] at hK; exact ⟨Or.inl rfl, hK⟩
    · rw [if_neg z, if_neg z2] at hK; exact ⟨Or.inr rfl, hK⟩
  · obtain ⟨h0, h1, h2⟩ := one h9 (by decide) (by decide) (by decide)
    rw [if_neg h0, if_neg h1, if_neg h2, if_neg h3, if_neg h4, if_neg h5, if_neg h6, if_neg h7, if_neg h8, if_pos h9] at hK; exact ⟨_, rfl, m_in_01 _ _ _, hK⟩
  · obtain ⟨h0, h1, h2⟩ := one h10 (by decide) (by decide) (by decide)
    rw [if_neg h0, if_neg h1, if_neg h2, if_neg h3, if_neg h4, if_neg h5, if_neg h6, if_neg h7, if_neg h8, if_neg h9, if_pos h10] at hK; exact ⟨I, F, B, n, _, rfl, rfl, hn, hle, m_in_01 _ _ _, hK⟩
  · obtain ⟨h0, h1, h2⟩ := one h11 (by decide) (by decide) (by decide)
    rw [if_neg h0, if_neg h1, if_neg h2, if_neg h3, if_neg h4, if_neg h5, if_neg h6, if_neg h7, if_neg h8, if_neg h9, if_neg h10, if_pos h11] at hK
    refine ⟨I, F, B, n, _, rfl, rfl, hn, hle, fun z => ?_, fun z => ⟨I, F, B, n, _, rfl, rfl, hn, hle, fun z2 => ?_, fun z2 => ?_⟩⟩
    · rw [if_pos z] at hK; exact ⟨Or.inl rfl, hK⟩
    · rw [if_neg z, if_pos z2] at hK; exact ⟨Or.inl rfl, hK⟩
    · rw [if_neg z, if_neg z2] at hK; exact ⟨Or.inr rfl, hK⟩
  · obtain ⟨h0, h1, h2⟩ := one h12 (by decide) (by decide) (by decide)
    rw [if_neg h0, if_neg h1, if_neg h2, if_neg h3, if_neg h4, if_neg h5, if_neg h6, if_neg h7, if_neg h8, if_neg h9, if_neg h10, if_neg h11, if_pos h12] at hK; exact ⟨I, F, B, n, _, rfl, rfl, hn, hle, m_in_01 _ _ _, hK⟩
  · obtain ⟨h0, h1, h2⟩ := one h13 (by decide) (by decide) (by decide)
    rw [if_neg h0, if_neg h1, if_neg h2, if_neg h3, if_neg h4, if_neg h5, if_neg h6, if_neg h7, if_neg h8, if_neg h9, if_neg h10, if_neg h11, if_neg h12, if_pos h13] at hK; exact ⟨_, rfl, m_in_01 _ _ _, hK⟩
  · obtain ⟨j, hj, e⟩ := m_in_n (b := 13) (by decide) hs
    have nj : ∀ i : Nat, i ≤ 13 → ¬ s = nI i → j ≠ i := fun i _ h w => h (by rw [e, w])
    have j3 := nj 3 (by omega) h3
    have j4 := nj 4 (by omega) h4
    have j5 := nj 5 (by omega) h5
    have j6 := nj 6 (by omega) h6
    have j7 := nj 7 (by omega) h7
    have j8 := nj 8 (by omega) h8
    have j9 := nj 9 (by omega) h9
    have j10 := nj 10 (by omega) h10
    have j11 := nj 11 (by omega) h11
    have j12 := nj 12 (by omega) h12
    have j13 := nj 13 (by omega) h13
    rcases (show j = 0 ∨ j = 1 ∨ j = 2 by omega) with rfl | rfl | rfl
    · rw [if_pos (show s = 0 from e)] at hK; exact ⟨Or.inr rfl, hK⟩
    · have e : s = 1 := e
      rw [if_neg (ne e (by decide)), if_pos e] at hK; exact ⟨Or.inr rfl, hK⟩
    · have e : s = 2 := e
      rw [if_neg (ne e (by decide)), if_neg (ne e (by decide)), if_pos e] at hK; exact ⟨Or.inr rfl, hK⟩
end LS
end
section
/-! ===== the class's tellings ===== -/
theorem a_hr {n m maxL c s c' s' : Nat} (h : n + 1 ≤ m) (hm : maxL ≤ 21) : (a_rm n c s).frames + 1 ≤ (a_rm m c' s').frames ∧ 8 + (maxL + 11) + (a_rm n c s).locals ≤ (a_rm m c' s').locals := ⟨h, by show 8 + (maxL + 11) + 40 * n ≤ 40 * m; omega⟩
abbrev rm_X2_tell (E : Nat) : Room := a_rm (2 * E + 4) 0 0
abbrev rm_X2_tellX (E : Nat) : Room := a_rm (2 * E + 5) 0 0
/-- the class's store with what telling moves -/
def l_p (M : Nat → Nat → Int32) (f : Int32) (s : tS) : Nat → Nat → Int32 := fun h j =>
  if h = 0 then (if j = 6 then f else if j = 7 then s.1 else if j = 8 then s.2.1 else if j = 9 then s.2.2.1 else M 0 j)
  else if 66 ≤ h ∧ h < 126 ∧ j = 6 then s.2.2.2 (h - 66) else M h j
section LP
variable {M : Nat → Nat → Int32} {f x : Int32} {s : tS} {p j : Nat}
theorem lp_6 : a_w (l_p M f s) 0 6 x = l_p M x s := by
  funext h j; unfold a_w l_p
  by_cases e : h = 0
  · subst e; by_cases e2 : j = 6 <;> simp [e2]
  · simp [e]
theorem lp_7 : a_w (l_p M f s) 0 7 x = l_p M f (x, s.2) := by
  funext h j; unfold a_w l_p
  by_cases e : h = 0
  · subst e; by_cases e2 : j = 7 <;> simp [e2]
  · simp [e]
theorem lp_8 : a_w (l_p M f s) 0 8 x = l_p M f (s.1, x, s.2.2) := by
  funext h j; unfold a_w l_p
  by_cases e : h = 0
  · subst e; by_cases e2 : j = 8 <;> simp [e2]
  · simp [e]
theorem lp_9 : a_w (l_p M f s) 0 9 x = l_p M f (s.1, s.2.1, x, s.2.2.2) := by
  funext h j; unfold a_w l_p
  by_cases e : h = 0
  · subst e; by_cases e2 : j = 9 <;> simp [e2]
  · simp [e]
theorem lp_w (hp : p < 60) : a_w (l_p M f s) (66 + p) 6 x = l_p M f (s.1, s.2.1, s.2.2.1, upd s.2.2.2 p x) := by
  funext h j; unfold a_w l_p upd
  by_cases e : h = 0
  · subst e
    rw [if_neg (fun w => by omega)]
    rfl
  · by_cases e2 : 66 ≤ h ∧ h < 126 ∧ j = 6
    · by_cases e3 : h = 66 + p
      · subst e3
        rw [if_pos ⟨rfl, e2.2.2⟩, if_neg e, if_pos e2]
        simp
      · rw [if_neg (fun w => e3 w.1), if_neg e, if_pos e2, if_neg e, if_pos e2]
        show _ = if h - 66 = p then x else _
        rw [if_neg (by omega)]
    · rw [if_neg (fun w => e2 ⟨by omega, by omega, w.2⟩), if_neg e, if_neg e2, if_neg e, if_neg e2]
theorem lp_g (hj : j ≠ 6) : l_p M f s (66 + p) j = M (66 + p) j := by
  unfold l_p
  rw [if_neg (by omega), if_neg (fun w => hj w.2.2)]
theorem lp_wr (hp : p < 60) : l_p M f s (66 + p) 6 = s.2.2.2 p := by
  unfold l_p
  rw [if_neg (by omega), if_pos ⟨by omega, by omega, rfl⟩, Nat.add_sub_cancel_left]
theorem lp_o {h : Nat} (h0 : h ≠ 0) (h1 : h < 66 ∨ 126 ≤ h) : l_p M f s h = M h := by
  funext j
  unfold l_p
  rw [if_neg h0, if_neg (fun w => by omega)]
end LP
theorem lp_self (I : Nat → Nat → Int32) : l_p I (I 0 6) (I 0 7, I 0 8, I 0 9, fun p => I (66 + p) 6) = I := by
  funext h j; unfold l_p
  by_cases e : h = 0
  · subst e
    by_cases e1 : j = 6
    · simp [e1]
    · by_cases e2 : j = 7
      · simp [e2]
      · by_cases e3 : j = 8
        · simp [e3]
        · by_cases e4 : j = 9
          · simp [e4]
          · simp [e1, e2, e3, e4]
  · by_cases e2 : 66 ≤ h ∧ h < 126 ∧ j = 6
    · rw [if_neg e, if_pos e2, e2.2.2]
      show I (66 + (h - 66)) 6 = _
      rw [show 66 + (h - 66) = h by omega]
    · rw [if_neg e, if_neg e2]
def l_ref (c : Int32) : Option Nat := if c = -1 then none else if c = -2 then some 64 else if c = -3 then some 65 else some (66 + c.toNatClampNeg)
theorem l_ref_p {p : Nat} (hp : p < 60) : l_ref (nI p) = some (66 + p) := by
  unfold l_ref
  rw [if_neg (nI_neg (by omega) (by decide)), if_neg (nI_neg (by omega) (by decide)), if_neg (nI_neg (by omega) (by decide)), w_pc hp]
def l_D (M : Nat → Nat → Int32) (F : Nat → Nat → Option Nat) (B : Nat → Bool) (n : Nat) : Prop :=
  M 0 4 = nI n ∧ (∀ p, p < n → F 3 p = some (66 + p)) ∧ (∀ p, p < n → B (66 + p) = true ∧ M (66 + p) 0 = M 17 p ∧ M (66 + p) 1 = M 18 p ∧ M (66 + p) 2 = M 19 p ∧ M (66 + p) 3 = M 20 p) ∧
  (∀ p, p < n → M 17 p = 7 → ∀ d, d < 4 → M 19 p = nI d → F (66 + p) 4 = some (6 + d)) ∧ (∀ p, p < n → M 17 p = 8 → F (66 + p) 4 = some (128 + p) ∧ B (128 + p) = true ∧ ∀ j, j < 8 → M (128 + p) j = M 21 (8 * p + j)) ∧
  (∀ p, p < n → M 17 p = 13 → F (66 + p) 5 = l_ref (M 22 p)) ∧ (∀ k, k < 6 → F 2 k = l_ref (M 25 k)) ∧ (∀ d, d < 4 → ∀ i, i < 8 → M (6 + d) i = M 24 (8 * d + i)) ∧
  (B 64 = true ∧ B 65 = true ∧ M 64 0 = 14 ∧ M 65 0 = 15 ∧ F 65 4 = some 6)
def l_env (M : Nat → Nat → Int32) (F : Nat → Nat → Option Nat) (B : Nat → Bool) (n : Nat) : Prop := m_D M n ∧ l_D M F B n
def l_W (M : Nat → Nat → Int32) (n : Nat) (s : tS) : Prop := ∀ p, p < n → M 17 p = 10 → ∃ w b : Nat, s.2.2.2 p = nI w ∧ M 19 p = nI b ∧ w < b ∧ b ≤ 50
def tw_P (M : Nat → Nat → Int32) (n : Nat) (rc : tF) : Prop := ∀ (c x y : Int32) (s : tS), l_W M n s → l_W M n (rc c x y s).2.2
theorem tw_worn {M : Nat → Nat → Int32} {n : Nat} {rc : tF} (h : tw_P M n rc) (a c : Int32) (p : Nat) (x y : Int32) (s : tS) (hs : l_W M n s) : l_W M n (t_worn rc a (M 19 p) c p x y s).2.2 := by
  unfold t_worn
  by_cases hz : s.2.2.2 p + 1 = M 19 p
  · rw [if_pos hz]
    intro q hq h10
    obtain ⟨w, b, e1, e2, e3, e4⟩ := hs q hq h10
    by_cases e : q = p
    · exact ⟨0, b, by show upd s.2.2.2 p 0 q = nI 0; rw [e]; exact if_pos rfl, e2, by omega, e4⟩
    · exact ⟨w, b, by show upd s.2.2.2 p 0 q = nI w; rw [← e1]; exact if_neg e, e2, e3, e4⟩
  · rw [if_neg hz]
    refine h _ _ _ _ (fun q hq h10 => ?_)
    obtain ⟨w, b, e1, e2, e3, e4⟩ := hs q hq h10
    by_cases e : q = p
    · subst e
      refine ⟨w + 1, b, by show upd s.2.2.2 q _ q = _; rw [show upd s.2.2.2 q (s.2.2.2 q + 1) q = s.2.2.2 q + 1 from if_pos rfl, e1, nI_1], e2, ?_, e4⟩
      rcases Nat.lt_or_ge (w + 1) b with z | z
      · exact z
      · exact absurd (by rw [e1, e2, nI_1, show w + 1 = b by omega]) hz
    · exact ⟨w, b, by show upd s.2.2.2 p _ q = nI w; rw [← e1]; exact if_neg e, e2, e3, e4⟩
theorem tw_s {M : Nat → Nat → Int32} {n : Nat} {rc : tF} (h : tw_P M n rc) (p : Nat) (x y : Int32) (s : tS) (hs : l_W M n s) : l_W M n (t_s M rc p x y s).2.2 := by
  unfold t_s
  by_cases h0 : M 17 p = 0
  · rw [if_pos h0]; exact hs
  rw [if_neg h0]
  by_cases h1 : M 17 p = 1
  · rw [if_pos h1]
    by_cases hz : M 20 p = 0
    · rw [if_pos hz]; exact hs
    · rw [if_neg hz]; exact hs
  rw [if_neg h1]
  by_cases h2 : M 17 p = 2
  · rw [if_pos h2]
    by_cases hz : M 19 p = 0
    · rw [if_pos hz]; exact hs
    · rw [if_neg hz]; exact hs
  rw [if_neg h2]
  by_cases h3 : M 17 p = 3
  · rw [if_pos h3]; exact h _ _ _ s hs
  rw [if_neg h3]
  by_cases h4 : M 17 p = 4
  · rw [if_pos h4]; exact h _ _ _ s hs
  rw [if_neg h4]
  have hr := h (M 18 p) x y s hs
  by_cases h5 : M 17 p = 5
  · rw [if_pos h5]
    unfold t_over
    by_cases hz : (rc (M 18 p) x y s).1 = 0 ∧ (rc (M 18 p) x y s).2.1 = 0
    · rw [if_pos hz]; exact h _ _ _ _ hr
    · rw [if_neg hz]; exact hr
  rw [if_neg h5]
  by_cases h6 : M 17 p = 6
  · rw [if_pos h6]
    unfold t_where
    by_cases hz : (rc (M 18 p) x y s).1 = 0
    · rw [if_pos hz]; exact h _ _ _ _ hr
    · rw [if_neg hz]; exact hr
  rw [if_neg h6]
  have dy : ∀ g : Int32 → Int32, l_W M n (t_dyed g (rc (M 18 p) x y s)).2.2 := fun g => by
    unfold t_dyed
    by_cases hz : (rc (M 18 p) x y s).1 = 0
    · rw [if_pos hz]
      by_cases hy : m_in (rc (M 18 p) x y s).2.1 0 7 = 0
      · rw [if_pos hy]; exact hr
      · rw [if_neg hy]; exact hr
    · rw [if_neg hz]; exact hr
  by_cases h7 : M 17 p = 7
  · rw [if_pos h7]; exact dy _
  rw [if_neg h7]
  by_cases h8 : M 17 p = 8
  · rw [if_pos h8]; exact dy _
  rw [if_neg h8]
  by_cases h9 : M 17 p = 9
  · rw [if_pos h9]; exact h _ _ _ s hs
  rw [if_neg h9]
  by_cases h10 : M 17 p = 10
  · rw [if_pos h10]; exact tw_worn h _ _ _ _ _ s hs
  rw [if_neg h10]
  by_cases h11 : M 17 p = 11
  · rw [if_pos h11]
    unfold t_both
    by_cases hz : (rc (M 18 p) x y s).1 = 0
    · rw [if_pos hz]; exact h _ _ _ _ hr
    · rw [if_neg hz]; exact hr
  rw [if_neg h11]
  by_cases h12 : M 17 p = 12
  · rw [if_pos h12]
    unfold t_safe
    by_cases hz : ¬ (rc (M 18 p) x y s).1 = 0 ∧ ¬ (rc (M 18 p) x y s).1 = 4 ∧ (M 19 p = 0 ∨ M 19 p = (rc (M 18 p) x y s).1) ∧ ¬ 20 ≤ (rc (M 18 p) x y s).2.2.2.1
    · rw [if_pos hz]; exact hr
    · rw [if_neg hz]; exact hr
  rw [if_neg h12]
  exact h _ _ _ s hs
theorem tw_T {M : Nat → Nat → Int32} {n : Nat} : ∀ D, tw_P M n (tt_T M D) := by
  intro D
  induction D with
  | zero => exact fun c x y s hs => hs
  | succ D ih =>
    intro c x y s hs
    show l_W M n (if 100 ≤ s.1 then ((4, 0, s) : tR) else t_b M (tt_T M D) c x y (s.1 + 1, s.2)).2.2
    by_cases h1 : 100 ≤ s.1
    · rw [if_pos h1]; exact hs
    · rw [if_neg h1]
      have hs2 : l_W M n (s.1 + 1, s.2) := hs
      unfold t_b
      by_cases c1 : c = -1
      · rw [if_pos c1]; exact hs2
      rw [if_neg c1]
      by_cases c2 : c = -2
      · rw [if_pos c2]; exact hs2
      rw [if_neg c2]
      by_cases c3 : c = -3
      · rw [if_pos c3]
        by_cases c4 : m_in x 0 7 = 0
        · rw [if_pos c4]; exact hs2
        · rw [if_neg c4]; exact hs2
      rw [if_neg c3]
      exact tw_s ih _ _ _ _ hs2
theorem l_lv {B : Nat → Bool} {h : Nat} (h1 : 64 ≤ h) (hB : B h = true) : a_LV B h = true := by
  unfold a_LV
  simp [h1, hB]
theorem l_is {I : Nat → Nat → Int32} {F : Nat → Nat → Option Nat} {B : Nat → Bool} {h : Nat} (h1 : 64 ≤ h) (h2 : h < 128) (hB : B h = true) : a_is (a_mk I F B) h 1 7 = true := by
  have e : kd h = (1, 7) := by
    unfold kd
    rw [if_neg (by omega), if_pos h2]
  show (a_LV B h && ((kd h).1 == 1 && (kd h).2 == 7)) = true
  rw [l_lv h1 hB, e]
  rfl
/-- the specification of a telling -/
def sp_X2_tell (E : Nat) : aP := fun as σ K => ∃ M F B n c r0 x y s k, σ = a_mk (l_p M 0 s) F B ∧ as = [.inr (some 0), .inr r0, .inl x, .inl y] ∧ r0 = l_ref c ∧ l_env M F B n ∧ l_W M n s ∧ m_cd n c ∧ s.1 = nI k ∧ k ≤ 100 ∧ 101 ≤ k + E ∧ ∀ R : tR, R = tt_T M E c x y s → ∀ r : Int32, (R.1 = 0 → r = R.2.1) → K (some (.inl r)) (a_mk (l_p M R.1 R.2.2) F B)
theorem rc_X2_tell {E : Nat} : ∀ as σ K, sp_X2_tell E as σ K → ∃ h As, as = .inr (some h) :: As ∧ a_is σ h 2 10 = true := by
  rintro as σ K ⟨M, F, B, n, c, r0, x, y, s, k, rfl, rfl, -⟩
  exact ⟨0, _, rfl, rfl⟩
def l_g (E : Nat) (so : Int32 → Prop) (fn : (Nat → Nat → Int32) → tF → Nat → Int32 → Int32 → tS → tR) : aP := fun as σ K => ∃ M F B n p x y s k, σ = a_mk (l_p M 0 s) F B ∧ as = [.inr (some 0), .inr (some (66 + p)), .inl x, .inl y] ∧ l_env M F B n ∧ l_W M n s ∧ p < n ∧ so (M 17 p) ∧ s.1 = nI k ∧ k ≤ 100 ∧ 101 ≤ k + E ∧ ∀ R : tR, R = fn M (tt_T M E) p x y s → ∀ r : Int32, (R.1 = 0 → r = R.2.1) → K (some (.inl r)) (a_mk (l_p M R.1 R.2.2) F B)
theorem l_grc {E : Nat} {so : Int32 → Prop} {fn : (Nat → Nat → Int32) → tF → Nat → Int32 → Int32 → tS → tR} : ∀ as σ K, l_g E so fn as σ K → ∃ h As, as = .inr (some h) :: As ∧ a_is σ h 2 10 = true := by
  rintro as σ K ⟨M, F, B, n, p, x, y, s, k, rfl, rfl, -⟩
  exact ⟨0, _, rfl, rfl⟩
theorem l_gl {E : Nat} {so : Int32 → Prop} {fn : (Nat → Nat → Int32) → tF → Nat → Int32 → Int32 → tS → tR} {as : List aV} {σ : aS} {K : aK} (h : l_g E so fn as σ K) : as.length = 4 := by
  obtain ⟨M, F, B, n, p, x, y, s, k, rfl, rfl, -⟩ := h
  rfl
/-- what numbered gives for a number that a pattern has -/
theorem l_num {F : Nat → Nat → Option Nat} {n : Nat} {c : Int32} (hn : n ≤ 60) (hF : ∀ p, p < n → F 3 p = some (66 + p)) (hc : m_vc n c) : (if m_in c 0 (nI n - 1) = 0 then none else F 3 c.toNatClampNeg) = l_ref c := by
  rw [if_neg (by rw [l_inv hn hc]; decide)]
  obtain ⟨j, hj, rfl⟩ := hc
  rw [w_pc (by omega), hF j hj, l_ref_p (by omega)]
section LT
variable {l : Launch} {D : va_G} {G : aG} {N0 : Nat} {E : Nat}
def sp_X2_tellOver (E : Nat) : aP := l_g E (fun v => v = 5) (fun M rc p x y s => t_over rc (M 18 p) (M 19 p) x y s)
theorem rc_X2_tellOver {E : Nat} : ∀ as σ K, sp_X2_tellOver E as σ K → ∃ h As, as = .inr (some h) :: As ∧ a_is σ h 2 10 = true := l_grc
def P_X2_tellOver {E : Nat} (K : aK) (bc bs : Nat) : List (Nat × aT) := [(0, t_ald 0 1),
  (1, t_ald 0 2),
  (2, t_ald 1 3),
  (3, t_geti 1 7 1 6),
  (6, t_call 2 0 0 bc bs sp_X2_numbered 9),
  (9, t_ild 2 10),
  (10, t_ild 3 11),
  (11, t_call 4 0 0 bc bs (sp_X2_tell E) 14),
  (14, t_ist 4 16),
  (16, t_ald 0 17),
  (17, t_geti 2 10 6 20),
  (20, t_if (fun x => x = 0) 23 28),
  (23, t_ild 4 25),
  (25, t_if (fun x => x = 0) 31 28),
  (28, t_ild 4 30),
  (30, t_iret K bc bs),
  (31, t_ald 0 32),
  (32, t_ald 0 33),
  (33, t_ald 1 34),
  (34, t_geti 1 7 2 37),
  (37, t_call 2 0 0 bc bs sp_X2_numbered 40),
  (40, t_ild 2 41),
  (41, t_ild 3 42),
  (42, t_call 4 0 0 bc bs (sp_X2_tell E) 45),
  (45, t_iret K bc bs)]
set_option maxRecDepth 100000 in
theorem S_X2_tellOver {E : Nat} {X : a_X} {K : aK} {l : Launch} {D : va_G} {G : aG} {N0 : Nat} (C : a_C X cX2_tellOver (some .int) RX2) (Y : a_Y X l (rm_X2_tellX E) D G N0) (M : a_mq X K (rm_X2_tellX E).cells (rm_X2_tellX E).slots) (hT : a_Con l D G N0 yX2_tell cX2_tell 4 (some .int) (rm_X2_tell E) (sp_X2_tell E)) : ∀ x ∈ P_X2_tellOver (E := E) K 0 0, a_Sd X x.1 x.2 := by
  unfold P_X2_tellOver
  refine List.forall_mem_cons.mpr ⟨s_aldn C dX2_tellOver_0 rfl, ?_⟩
  refine List.forall_mem_cons.mpr ⟨s_aldn C dX2_tellOver_1 rfl, ?_⟩
  refine List.forall_mem_cons.mpr ⟨s_aldn C dX2_tellOver_2 rfl, ?_⟩
  refine List.forall_mem_cons.mpr ⟨s_geti C rfl in_X1 (by decide) lk_X2_127 rfl dX2_tellOver_3, ?_⟩
  refine List.forall_mem_cons.mpr ⟨s_callV (rm := (a_rm 2 0 0)) (n := 1) C Y (ci := 2) rfl con_X2_numbered rc_X2_numbered co_X2_numbered ml_X2_66 im_X2_numbered se_X2_numbered ii_X2 (by decide +kernel) (a_hr (by omega) (by decide)) ⟨rfl, rfl⟩ dX2_tellOver_6, ?_⟩
  refine List.forall_mem_cons.mpr ⟨s_ildn C dX2_tellOver_9 rfl, ?_⟩
  refine List.forall_mem_cons.mpr ⟨s_ildn C dX2_tellOver_10 rfl, ?_⟩
  refine List.forall_mem_cons.mpr ⟨s_callV (rm := (rm_X2_tell E)) (n := 3) C Y (ci := 2) rfl hT rc_X2_tell co_X2_tell ml_X2_118 im_X2_tell se_X2_tell ii_X2 (by decide +kernel) (a_hr (by omega) (by decide)) ⟨rfl, rfl⟩ dX2_tellOver_11, ?_⟩
  refine List.forall_mem_cons.mpr ⟨s_ist C dX2_tellOver_14, ?_⟩
  refine List.forall_mem_cons.mpr ⟨s_aldn C dX2_tellOver_16 rfl, ?_⟩
  refine List.forall_mem_cons.mpr ⟨s_geti C rfl in_X2 (by decide) lk_X2_76 rfl dX2_tellOver_17, ?_⟩
  refine List.forall_mem_cons.mpr ⟨s_if_ne C dX2_tellOver_20 (by decide), ?_⟩
  refine List.forall_mem_cons.mpr ⟨s_ild C dX2_tellOver_23, ?_⟩
  refine List.forall_mem_cons.mpr ⟨s_if_eq C dX2_tellOver_25 (by decide), ?_⟩
  refine List.forall_mem_cons.mpr ⟨s_ild C dX2_tellOver_28, ?_⟩
  refine List.forall_mem_cons.mpr ⟨s_iret C M dX2_tellOver_30, ?_⟩
  refine List.forall_mem_cons.mpr ⟨s_aldn C dX2_tellOver_31 rfl, ?_⟩
  refine List.forall_mem_cons.mpr ⟨s_aldn C dX2_tellOver_32 rfl, ?_⟩
  refine List.forall_mem_cons.mpr ⟨s_aldn C dX2_tellOver_33 rfl, ?_⟩
  refine List.forall_mem_cons.mpr ⟨s_geti C rfl in_X1 (by decide) lk_X2_137 rfl dX2_tellOver_34, ?_⟩
  refine List.forall_mem_cons.mpr ⟨s_callV (rm := (a_rm 2 0 0)) (n := 1) C Y (ci := 2) rfl con_X2_numbered rc_X2_numbered co_X2_numbered ml_X2_66 im_X2_numbered se_X2_numbered ii_X2 (by decide +kernel) (a_hr (by omega) (by decide)) ⟨rfl, rfl⟩ dX2_tellOver_37, ?_⟩
  refine List.forall_mem_cons.mpr ⟨s_ildn C dX2_tellOver_40 rfl, ?_⟩
  refine List.forall_mem_cons.mpr ⟨s_ildn C dX2_tellOver_41 rfl, ?_⟩
  refine List.forall_mem_cons.mpr ⟨s_callV (rm := (rm_X2_tell E)) (n := 3) C Y (ci := 2) rfl hT rc_X2_tell co_X2_tell ml_X2_118 im_X2_tell se_X2_tell ii_X2 (by decide +kernel) (a_hr (by omega) (by decide)) ⟨rfl, rfl⟩ dX2_tellOver_42, ?_⟩
  refine List.forall_mem_cons.mpr ⟨s_iret C M dX2_tellOver_45, ?_⟩
  exact fun _ h => absurd h List.not_mem_nil
set_option maxRecDepth 20000 in
theorem con_X2_tellOver (hT : a_Con l D G N0 yX2_tell cX2_tell 4 (some .int) (rm_X2_tell E) (sp_X2_tell E)) : a_Con l D G N0 yX2_tellOver cX2_tellOver 5 (some .int) (rm_X2_tellX E) (sp_X2_tellOver E) := by
  refine a_con (by decide) (fun as σ K h => by rw [l_gl h]; decide) ?_
  intro X as σ K h C Y M _
  obtain ⟨M', F, B, n, p, x, y, s, k, rfl, rfl, henv, hW, hp, hso, hs, hk, hE, hK⟩ := h
  have hK : ∀ R : tR, R = t_over (tt_T M' E) (M' 18 p) (M' 19 p) x y s → ∀ r : Int32, (R.1 = 0 → r = R.2.1) → K (some (.inl r)) (a_mk (l_p M' R.1 R.2.2) F B) := hK
  have hp60 : p < 60 := Nat.lt_of_lt_of_le hp henv.1.1
  obtain ⟨d1, d2, d3, d4, d5, d6, d7, d8, d9⟩ := id henv.2
  obtain ⟨hB, e0, e1, e2, e3⟩ := d3 p hp
  obtain ⟨so, hs13, hsoo, hva, hvb, hvc, hvd, hvn, hvo⟩ := henv.1.2.1 p hp
  have hi : ∀ I, a_is (a_mk I F B) (66 + p) 1 7 = true := fun I => l_is (by omega) (by omega) hB
  have cd : ∀ {a : Int32}, m_vc n a → m_cd n a := fun h => Or.inr (Or.inr (Or.inr h))
  have hsoe : so = 5 := (nI_eq (by omega) (by decide)).mp (hsoo.symm.trans hso)
  have va : m_vc n (M' 18 p) := hva (by omega) (by omega) (by omega)
  have vb : m_vc n (M' 19 p) := hvb (Or.inl hsoe)
  refine a_wps (S_X2_tellOver C Y M hT) (inv := a_ni) a_nih 60 _ _ _ _ _ _ ?_
  refine a_gi (hi _) ⟨_, F, B, n, _, rfl, rfl, d1, henv.1.1, M', F, B, n, M' 18 p, _, x, y, s, k, rfl, rfl, ?_, henv, hW, cd va, hs, hk, hE, fun R hR r hr => ?_⟩
  · show (if m_in (l_p M' 0 s (66 + p) 1) 0 (nI n - 1) = 0 then none else F 3 (l_p M' 0 s (66 + p) 1).toNatClampNeg) = _
    rw [lp_g (by decide), e1]
    exact l_num henv.1.1 d2 va
  · skip
    obtain ⟨k1, a1, a2, a3⟩ := tk_T (M := M') E (M' 18 p) x y s k hs hk
    have hW1 := tw_T (M := M') (n := n) E (M' 18 p) x y s hW
    rw [← hR] at a3 hW1
    by_cases hz : R.1 = 0
    · by_cases hv : R.2.1 = 0
      · refine ⟨fun _ => ⟨fun _ => a_gi (hi _) ⟨_, F, B, n, _, rfl, rfl, d1, henv.1.1, M', F, B, n, M' 19 p, _, x, y, R.2.2, k1, by rw [hz], rfl, ?_, henv, hW1, cd vb, a3, a2, by omega, fun R2 hR2 r2 hr2 => ?_⟩, fun w => absurd ((hr hz).trans hv) w⟩, fun w => absurd hz w⟩
        · show (if m_in (l_p M' R.1 R.2.2 (66 + p) 2) 0 (nI n - 1) = 0 then none else F 3 (l_p M' R.1 R.2.2 (66 + p) 2).toNatClampNeg) = _
          rw [lp_g (by decide), e2]
          exact l_num henv.1.1 d2 vb
        · exact hK R2 (by rw [hR2, show t_over (tt_T M' E) (M' 18 p) (M' 19 p) x y s = _ from if_pos (by rw [← hR]; exact ⟨hz, hv⟩), ← hR]) r2 hr2
      · have hK2 := hK R (by rw [show t_over (tt_T M' E) (M' 18 p) (M' 19 p) x y s = _ from if_neg (by rw [← hR]; exact fun w => hv w.2)]; exact hR) r hr
        exact ⟨fun _ => ⟨fun w => absurd ((hr hz).symm.trans w) hv, fun _ => hK2⟩, fun w => absurd hz w⟩
    · have hK2 := hK R (by rw [show t_over (tt_T M' E) (M' 18 p) (M' 19 p) x y s = _ from if_neg (by rw [← hR]; exact fun w => hz w.1)]; exact hR) r hr
      exact ⟨fun w => absurd w hz, fun _ => hK2⟩
def sp_X2_tellWhere (E : Nat) : aP := l_g E (fun v => v = 6) (fun M rc p x y s => t_where rc (M 18 p) (M 19 p) (M 20 p) x y s)
theorem rc_X2_tellWhere {E : Nat} : ∀ as σ K, sp_X2_tellWhere E as σ K → ∃ h As, as = .inr (some h) :: As ∧ a_is σ h 2 10 = true := l_grc
def P_X2_tellWhere {E : Nat} (K : aK) (bc bs : Nat) : List (Nat × aT) := [(0, t_ald 0 1),
  (1, t_ald 0 2),
  (2, t_ald 1 3),
  (3, t_geti 1 7 1 6),
  (6, t_call 2 0 0 bc bs sp_X2_numbered 9),
  (9, t_ild 2 10),
  (10, t_ild 3 11),
  (11, t_call 4 0 0 bc bs (sp_X2_tell E) 14),
  (14, t_ist 4 16),
  (16, t_ald 0 17),
  (17, t_geti 2 10 6 20),
  (20, t_if (fun x => x = 0) 25 23),
  (23, t_ic 0 24),
  (24, t_iret K bc bs),
  (25, t_ald 0 26),
  (26, t_ald 0 27),
  (27, t_ild 4 29),
  (29, t_if (fun x => x ≤ 0) 39 32),
  (32, t_ald 1 33),
  (33, t_geti 1 7 2 36),
  (36, t_goto 43),
  (39, t_ald 1 40),
  (40, t_geti 1 7 3 43),
  (43, t_call 2 0 0 bc bs sp_X2_numbered 46),
  (46, t_ild 2 47),
  (47, t_ild 3 48),
  (48, t_call 4 0 0 bc bs (sp_X2_tell E) 51),
  (51, t_iret K bc bs)]
set_option maxRecDepth 100000 in
theorem S_X2_tellWhere {E : Nat} {X : a_X} {K : aK} {l : Launch} {D : va_G} {G : aG} {N0 : Nat} (C : a_C X cX2_tellWhere (some .int) RX2) (Y : a_Y X l (rm_X2_tellX E) D G N0) (M : a_mq X K (rm_X2_tellX E).cells (rm_X2_tellX E).slots) (hT : a_Con l D G N0 yX2_tell cX2_tell 4 (some .int) (rm_X2_tell E) (sp_X2_tell E)) : ∀ x ∈ P_X2_tellWhere (E := E) K 0 0, a_Sd X x.1 x.2 := by
  unfold P_X2_tellWhere
  refine List.forall_mem_cons.mpr ⟨s_aldn C dX2_tellWhere_0 rfl, ?_⟩
  refine List.forall_mem_cons.mpr ⟨s_aldn C dX2_tellWhere_1 rfl, ?_⟩
  refine List.forall_mem_cons.mpr ⟨s_aldn C dX2_tellWhere_2 rfl, ?_⟩
  refine List.forall_mem_cons.mpr ⟨s_geti C rfl in_X1 (by decide) lk_X2_127 rfl dX2_tellWhere_3, ?_⟩
  refine List.forall_mem_cons.mpr ⟨s_callV (rm := (a_rm 2 0 0)) (n := 1) C Y (ci := 2) rfl con_X2_numbered rc_X2_numbered co_X2_numbered ml_X2_66 im_X2_numbered se_X2_numbered ii_X2 (by decide +kernel) (a_hr (by omega) (by decide)) ⟨rfl, rfl⟩ dX2_tellWhere_6, ?_⟩
  refine List.forall_mem_cons.mpr ⟨s_ildn C dX2_tellWhere_9 rfl, ?_⟩
  refine List.forall_mem_cons.mpr ⟨s_ildn C dX2_tellWhere_10 rfl, ?_⟩
  refine List.forall_mem_cons.mpr ⟨s_callV (rm := (rm_X2_tell E)) (n := 3) C Y (ci := 2) rfl hT rc_X2_tell co_X2_tell ml_X2_118 im_X2_tell se_X2_tell ii_X2 (by decide +kernel) (a_hr (by omega) (by decide)) ⟨rfl, rfl⟩ dX2_tellWhere_11, ?_⟩
  refine List.forall_mem_cons.mpr ⟨s_ist C dX2_tellWhere_14, ?_⟩
  refine List.forall_mem_cons.mpr ⟨s_aldn C dX2_tellWhere_16 rfl, ?_⟩
  refine List.forall_mem_cons.mpr ⟨s_geti C rfl in_X2 (by decide) lk_X2_76 rfl dX2_tellWhere_17, ?_⟩
  refine List.forall_mem_cons.mpr ⟨s_if_eq C dX2_tellWhere_20 (by decide), ?_⟩
  refine List.forall_mem_cons.mpr ⟨s_ic C dX2_tellWhere_23 (by decide), ?_⟩
  refine List.forall_mem_cons.mpr ⟨s_iret C M dX2_tellWhere_24, ?_⟩
  refine List.forall_mem_cons.mpr ⟨s_aldn C dX2_tellWhere_25 rfl, ?_⟩
  refine List.forall_mem_cons.mpr ⟨s_aldn C dX2_tellWhere_26 rfl, ?_⟩
  refine List.forall_mem_cons.mpr ⟨s_ild C dX2_tellWhere_27, ?_⟩
  refine List.forall_mem_cons.mpr ⟨s_if_le C dX2_tellWhere_29 (by decide), ?_⟩
  refine List.forall_mem_cons.mpr ⟨s_aldn C dX2_tellWhere_32 rfl, ?_⟩
  refine List.forall_mem_cons.mpr ⟨s_geti C rfl in_X1 (by decide) lk_X2_137 rfl dX2_tellWhere_33, ?_⟩
  refine List.forall_mem_cons.mpr ⟨s_goto C dX2_tellWhere_36 (by decide), ?_⟩
  refine List.forall_mem_cons.mpr ⟨s_aldn C dX2_tellWhere_39 rfl, ?_⟩
  refine List.forall_mem_cons.mpr ⟨s_geti C rfl in_X1 (by decide) lk_X2_140 rfl dX2_tellWhere_40, ?_⟩
  refine List.forall_mem_cons.mpr ⟨s_callV (rm := (a_rm 2 0 0)) (n := 1) C Y (ci := 2) rfl con_X2_numbered rc_X2_numbered co_X2_numbered ml_X2_66 im_X2_numbered se_X2_numbered ii_X2 (by decide +kernel) (a_hr (by omega) (by decide)) ⟨rfl, rfl⟩ dX2_tellWhere_43, ?_⟩
  refine List.forall_mem_cons.mpr ⟨s_ildn C dX2_tellWhere_46 rfl, ?_⟩
  refine List.forall_mem_cons.mpr ⟨s_ildn C dX2_tellWhere_47 rfl, ?_⟩
  refine List.forall_mem_cons.mpr ⟨s_callV (rm := (rm_X2_tell E)) (n := 3) C Y (ci := 2) rfl hT rc_X2_tell co_X2_tell ml_X2_118 im_X2_tell se_X2_tell ii_X2 (by decide +kernel) (a_hr (by omega) (by decide)) ⟨rfl, rfl⟩ dX2_tellWhere_48, ?_⟩
  refine List.forall_mem_cons.mpr ⟨s_iret C M dX2_tellWhere_51, ?_⟩
  exact fun _ h => absurd h List.not_mem_nil
set_option maxRecDepth 20000 in
theorem con_X2_tellWhere (hT : a_Con l D G N0 yX2_tell cX2_tell 4 (some .int) (rm_X2_tell E) (sp_X2_tell E)) : a_Con l D G N0 yX2_tellWhere cX2_tellWhere 5 (some .int) (rm_X2_tellX E) (sp_X2_tellWhere E) := by
  refine a_con (by decide) (fun as σ K h => by rw [l_gl h]; decide) ?_
  intro X as σ K h C Y M _
  obtain ⟨M', F, B, n, p, x, y, s, k, rfl, rfl, henv, hW, hp, hso, hs, hk, hE, hK⟩ := h
  have hK : ∀ R : tR, R = t_where (tt_T M' E) (M' 18 p) (M' 19 p) (M' 20 p) x y s → ∀ r : Int32, (R.1 = 0 → r = R.2.1) → K (some (.inl r)) (a_mk (l_p M' R.1 R.2.2) F B) := hK
  have hp60 : p < 60 := Nat.lt_of_lt_of_le hp henv.1.1
  obtain ⟨d1, d2, d3, d4, d5, d6, d7, d8, d9⟩ := id henv.2
  obtain ⟨hB, e0, e1, e2, e3⟩ := d3 p hp
  obtain ⟨so, hs13, hsoo, hva, hvb, hvc, hvd, hvn, hvo⟩ := henv.1.2.1 p hp
  have hi : ∀ I, a_is (a_mk I F B) (66 + p) 1 7 = true := fun I => l_is (by omega) (by omega) hB
  have cd : ∀ {a : Int32}, m_vc n a → m_cd n a := fun h => Or.inr (Or.inr (Or.inr h))
  have hsoe : so = 6 := (nI_eq (by omega) (by decide)).mp (hsoo.symm.trans hso)
  have va : m_vc n (M' 18 p) := hva (by omega) (by omega) (by omega)
  have vb : m_vc n (M' 19 p) := hvb (Or.inr (Or.inl hsoe))
  have vc : m_vc n (M' 20 p) := hvc hsoe
  refine a_wps (S_X2_tellWhere C Y M hT) (inv := a_ni) a_nih 60 _ _ _ _ _ _ ?_
  refine a_gi (hi _) ⟨_, F, B, n, _, rfl, rfl, d1, henv.1.1, M', F, B, n, M' 18 p, _, x, y, s, k, rfl, rfl, ?_, henv, hW, cd va, hs, hk, hE, fun R hR r hr => ?_⟩
  · show (if m_in (l_p M' 0 s (66 + p) 1) 0 (nI n - 1) = 0 then none else F 3 (l_p M' 0 s (66 + p) 1).toNatClampNeg) = _
    rw [lp_g (by decide), e1]
    exact l_num henv.1.1 d2 va
  · skip
    obtain ⟨k1, a1, a2, a3⟩ := tk_T (M := M') E (M' 18 p) x y s k hs hk
    have hW1 := tw_T (M := M') (n := n) E (M' 18 p) x y s hW
    rw [← hR] at a3 hW1
    by_cases hz : R.1 = 0
    · have eR : ∀ R2 : tR, R2 = tt_T M' E (if r ≤ 0 then M' 20 p else M' 19 p) x y R.2.2 → R2 = t_where (tt_T M' E) (M' 18 p) (M' 19 p) (M' 20 p) x y s := fun R2 hR2 => by
        rw [hR2, show t_where (tt_T M' E) (M' 18 p) (M' 19 p) (M' 20 p) x y s = _ from if_pos (by rw [← hR]; exact hz), ← hR, hr hz]
      refine ⟨fun _ => ⟨fun hl => a_gi (hi _) ⟨_, F, B, n, _, rfl, rfl, d1, henv.1.1, M', F, B, n, M' 20 p, _, x, y, R.2.2, k1, by rw [hz], rfl, ?_, henv, hW1, cd vc, a3, a2, by omega, fun R2 hR2 r2 hr2 => ?_⟩, fun hl => a_gi (hi _) ⟨_, F, B, n, _, rfl, rfl, d1, henv.1.1, M', F, B, n, M' 19 p, _, x, y, R.2.2, k1, by rw [hz], rfl, ?_, henv, hW1, cd vb, a3, a2, by omega, fun R2 hR2 r2 hr2 => ?_⟩⟩, fun w => absurd hz w⟩
      · show (if m_in (l_p M' R.1 R.2.2 (66 + p) 3) 0 (nI n - 1) = 0 then none else F 3 (l_p M' R.1 R.2.2 (66 + p) 3).toNatClampNeg) = _
        rw [lp_g (by decide), e3]
        exact l_num henv.1.1 d2 vc
      · exact hK R2 (eR R2 (by rw [if_pos hl]; exact hR2)) r2 hr2
      · show (if m_in (l_p M' R.1 R.2.2 (66 + p) 2) 0 (nI n - 1) = 0 then none else F 3 (l_p M' R.1 R.2.2 (66 + p) 2).toNatClampNeg) = _
        rw [lp_g (by decide), e2]
        exact l_num henv.1.1 d2 vb
      · exact hK R2 (eR R2 (by rw [if_neg hl]; exact hR2)) r2 hr2
    · have hK2 := hK R (by rw [show t_where (tt_T M' E) (M' 18 p) (M' 19 p) (M' 20 p) x y s = _ from if_neg (by rw [← hR]; exact hz)]; exact hR) 0 (fun w => absurd w hz)
      exact ⟨fun w => absurd w hz, fun _ => hK2⟩
def sp_X2_tellBoth (E : Nat) : aP := l_g E (fun v => v = 11) (fun M rc p x y s => t_both rc (M 18 p) (M 19 p) (M 20 p) x y s)
theorem rc_X2_tellBoth {E : Nat} : ∀ as σ K, sp_X2_tellBoth E as σ K → ∃ h As, as = .inr (some h) :: As ∧ a_is σ h 2 10 = true := l_grc
def P_X2_tellBoth {E : Nat} (K : aK) (bc bs : Nat) : List (Nat × aT) := [(0, t_ald 0 1),
  (1, t_ald 0 2),
  (2, t_ald 1 3),
  (3, t_geti 1 7 1 6),
  (6, t_call 2 0 0 bc bs sp_X2_numbered 9),
  (9, t_ild 2 10),
  (10, t_ild 3 11),
  (11, t_call 4 0 0 bc bs (sp_X2_tell E) 14),
  (14, t_ist 4 16),
  (16, t_ald 0 17),
  (17, t_geti 2 10 6 20),
  (20, t_if (fun x => x = 0) 25 23),
  (23, t_ic 0 24),
  (24, t_iret K bc bs),
  (25, t_ild 4 27),
  (27, t_ald 1 28),
  (28, t_geti 1 7 3 31),
  (31, t_ald 0 32),
  (32, t_ald 0 33),
  (33, t_ald 1 34),
  (34, t_geti 1 7 2 37),
  (37, t_call 2 0 0 bc bs sp_X2_numbered 40),
  (40, t_ild 2 41),
  (41, t_ild 3 42),
  (42, t_call 4 0 0 bc bs (sp_X2_tell E) 45),
  (45, t_mul 46),
  (46, t_add 47),
  (47, t_iret K bc bs)]
set_option maxRecDepth 100000 in
theorem S_X2_tellBoth {E : Nat} {X : a_X} {K : aK} {l : Launch} {D : va_G} {G : aG} {N0 : Nat} (C : a_C X cX2_tellBoth (some .int) RX2) (Y : a_Y X l (rm_X2_tellX E) D G N0) (M : a_mq X K (rm_X2_tellX E).cells (rm_X2_tellX E).slots) (hT : a_Con l D G N0 yX2_tell cX2_tell 4 (some .int) (rm_X2_tell E) (sp_X2_tell E)) : ∀ x ∈ P_X2_tellBoth (E := E) K 0 0, a_Sd X x.1 x.2 := by
  unfold P_X2_tellBoth
  refine List.forall_mem_cons.mpr ⟨s_aldn C dX2_tellBoth_0 rfl, ?_⟩
  refine List.forall_mem_cons.mpr ⟨s_aldn C dX2_tellBoth_1 rfl, ?_⟩
  refine List.forall_mem_cons.mpr ⟨s_aldn C dX2_tellBoth_2 rfl, ?_⟩
  refine List.forall_mem_cons.mpr ⟨s_geti C rfl in_X1 (by decide) lk_X2_127 rfl dX2_tellBoth_3, ?_⟩
  refine List.forall_mem_cons.mpr ⟨s_callV (rm := (a_rm 2 0 0)) (n := 1) C Y (ci := 2) rfl con_X2_numbered rc_X2_numbered co_X2_numbered ml_X2_66 im_X2_numbered se_X2_numbered ii_X2 (by decide +kernel) (a_hr (by omega) (by decide)) ⟨rfl, rfl⟩ dX2_tellBoth_6, ?_⟩
  refine List.forall_mem_cons.mpr ⟨s_ildn C dX2_tellBoth_9 rfl, ?_⟩
  refine List.forall_mem_cons.mpr ⟨s_ildn C dX2_tellBoth_10 rfl, ?_⟩
  refine List.forall_mem_cons.mpr ⟨s_callV (rm := (rm_X2_tell E)) (n := 3) C Y (ci := 2) rfl hT rc_X2_tell co_X2_tell ml_X2_118 im_X2_tell se_X2_tell ii_X2 (by decide +kernel) (a_hr (by omega) (by decide)) ⟨rfl, rfl⟩ dX2_tellBoth_11, ?_⟩
  refine List.forall_mem_cons.mpr ⟨s_ist C dX2_tellBoth_14, ?_⟩
  refine List.forall_mem_cons.mpr ⟨s_aldn C dX2_tellBoth_16 rfl, ?_⟩
  refine List.forall_mem_cons.mpr ⟨s_geti C rfl in_X2 (by decide) lk_X2_76 rfl dX2_tellBoth_17, ?_⟩
  refine List.forall_mem_cons.mpr ⟨s_if_eq C dX2_tellBoth_20 (by decide), ?_⟩
  refine List.forall_mem_cons.mpr ⟨s_ic C dX2_tellBoth_23 (by decide), ?_⟩
  refine List.forall_mem_cons.mpr ⟨s_iret C M dX2_tellBoth_24, ?_⟩
  refine List.forall_mem_cons.mpr ⟨s_ild C dX2_tellBoth_25, ?_⟩
  refine List.forall_mem_cons.mpr ⟨s_aldn C dX2_tellBoth_27 rfl, ?_⟩
  refine List.forall_mem_cons.mpr ⟨s_geti C rfl in_X1 (by decide) lk_X2_140 rfl dX2_tellBoth_28, ?_⟩
  refine List.forall_mem_cons.mpr ⟨s_aldn C dX2_tellBoth_31 rfl, ?_⟩
  refine List.forall_mem_cons.mpr ⟨s_aldn C dX2_tellBoth_32 rfl, ?_⟩
  refine List.forall_mem_cons.mpr ⟨s_aldn C dX2_tellBoth_33 rfl, ?_⟩
  refine List.forall_mem_cons.mpr ⟨s_geti C rfl in_X1 (by decide) lk_X2_137 rfl dX2_tellBoth_34, ?_⟩
  refine List.forall_mem_cons.mpr ⟨s_callV (rm := (a_rm 2 0 0)) (n := 1) C Y (ci := 2) rfl con_X2_numbered rc_X2_numbered co_X2_numbered ml_X2_66 im_X2_numbered se_X2_numbered ii_X2 (by decide +kernel) (a_hr (by omega) (by decide)) ⟨rfl, rfl⟩ dX2_tellBoth_37, ?_⟩
  refine List.forall_mem_cons.mpr ⟨s_ildn C dX2_tellBoth_40 rfl, ?_⟩
  refine List.forall_mem_cons.mpr ⟨s_ildn C dX2_tellBoth_41 rfl, ?_⟩
  refine List.forall_mem_cons.mpr ⟨s_callV (rm := (rm_X2_tell E)) (n := 3) C Y (ci := 2) rfl hT rc_X2_tell co_X2_tell ml_X2_118 im_X2_tell se_X2_tell ii_X2 (by decide +kernel) (a_hr (by omega) (by decide)) ⟨rfl, rfl⟩ dX2_tellBoth_42, ?_⟩
  refine List.forall_mem_cons.mpr ⟨s_mul C dX2_tellBoth_45, ?_⟩
  refine List.forall_mem_cons.mpr ⟨s_add C dX2_tellBoth_46, ?_⟩
  refine List.forall_mem_cons.mpr ⟨s_iret C M dX2_tellBoth_47, ?_⟩
  exact fun _ h => absurd h List.not_mem_nil
set_option maxRecDepth 20000 in
theorem con_X2_tellBoth (hT : a_Con l D G N0 yX2_tell cX2_tell 4 (some .int) (rm_X2_tell E) (sp_X2_tell E)) : a_Con l D G N0 yX2_tellBoth cX2_tellBoth 5 (some .int) (rm_X2_tellX E) (sp_X2_tellBoth E) := by
  refine a_con (by decide) (fun as σ K h => by rw [l_gl h]; decide) ?_
  intro X as σ K h C Y M _
  obtain ⟨M', F, B, n, p, x, y, s, k, rfl, rfl, henv, hW, hp, hso, hs, hk, hE, hK⟩ := h
  have hK : ∀ R : tR, R = t_both (tt_T M' E) (M' 18 p) (M' 19 p) (M' 20 p) x y s → ∀ r : Int32, (R.1 = 0 → r = R.2.1) → K (some (.inl r)) (a_mk (l_p M' R.1 R.2.2) F B) := hK
  have hp60 : p < 60 := Nat.lt_of_lt_of_le hp henv.1.1
  obtain ⟨d1, d2, d3, d4, d5, d6, d7, d8, d9⟩ := id henv.2
  obtain ⟨hB, e0, e1, e2, e3⟩ := d3 p hp
  obtain ⟨so, hs13, hsoo, hva, hvb, hvc, hvd, hvn, hvo⟩ := henv.1.2.1 p hp
  have hi : ∀ I, a_is (a_mk I F B) (66 + p) 1 7 = true := fun I => l_is (by omega) (by omega) hB
  have cd : ∀ {a : Int32}, m_vc n a → m_cd n a := fun h => Or.inr (Or.inr (Or.inr h))
  have hsoe : so = 11 := (nI_eq (by omega) (by decide)).mp (hsoo.symm.trans hso)
  have va : m_vc n (M' 18 p) := hva (by omega) (by omega) (by omega)
  have vb : m_vc n (M' 19 p) := hvb (Or.inr (Or.inr hsoe))
  refine a_wps (S_X2_tellBoth C Y M hT) (inv := a_ni) a_nih 60 _ _ _ _ _ _ ?_
  refine a_gi (hi _) ⟨_, F, B, n, _, rfl, rfl, d1, henv.1.1, M', F, B, n, M' 18 p, _, x, y, s, k, rfl, rfl, ?_, henv, hW, cd va, hs, hk, hE, fun R hR r hr => ?_⟩
  · show (if m_in (l_p M' 0 s (66 + p) 1) 0 (nI n - 1) = 0 then none else F 3 (l_p M' 0 s (66 + p) 1).toNatClampNeg) = _
    rw [lp_g (by decide), e1]
    exact l_num henv.1.1 d2 va
  · skip
    obtain ⟨k1, a1, a2, a3⟩ := tk_T (M := M') E (M' 18 p) x y s k hs hk
    have hW1 := tw_T (M := M') (n := n) E (M' 18 p) x y s hW
    rw [← hR] at a3 hW1
    by_cases hz : R.1 = 0
    · refine ⟨fun _ => a_gi (hi _) (a_gi (hi _) ⟨_, F, B, n, _, rfl, rfl, d1, henv.1.1, M', F, B, n, M' 19 p, _, x, y, R.2.2, k1, by rw [hz], rfl, ?_, henv, hW1, cd vb, a3, a2, by omega, fun R2 hR2 r2 hr2 => ?_⟩), fun w => absurd hz w⟩
      · show (if m_in (l_p M' R.1 R.2.2 (66 + p) 2) 0 (nI n - 1) = 0 then none else F 3 (l_p M' R.1 R.2.2 (66 + p) 2).toNatClampNeg) = _
        rw [lp_g (by decide), e2]
        exact l_num henv.1.1 d2 vb
      · have hK2 := hK (R2.1, R.2.1 + M' 20 p * R2.2.1, R2.2.2) (by rw [show t_both (tt_T M' E) (M' 18 p) (M' 19 p) (M' 20 p) x y s = _ from if_pos (by rw [← hR]; exact hz), ← hR, ← hR2]) (r + M' 20 p * r2) (fun w => by rw [hr hz, hr2 w])
        have e9 : l_p M' R.1 R.2.2 (66 + p) 3 = M' 20 p := by rw [lp_g (by decide), e3]
        rw [← e9] at hK2
        exact hK2
    · have hK2 := hK R (by rw [show t_both (tt_T M' E) (M' 18 p) (M' 19 p) (M' 20 p) x y s = _ from if_neg (by rw [← hR]; exact hz)]; exact hR) 0 (fun w => absurd w hz)
      exact ⟨fun w => absurd w hz, fun _ => hK2⟩
def sp_X2_tellSafe (E : Nat) : aP := l_g E (fun v => v = 12) (fun M rc p x y s => t_safe (M 19 p) (M 20 p) (rc (M 18 p) x y s))
theorem rc_X2_tellSafe {E : Nat} : ∀ as σ K, sp_X2_tellSafe E as σ K → ∃ h As, as = .inr (some h) :: As ∧ a_is σ h 2 10 = true := l_grc
def P_X2_tellSafe {E : Nat} (K : aK) (bc bs : Nat) : List (Nat × aT) := [(0, t_ald 0 1),
  (1, t_ald 0 2),
  (2, t_ald 1 3),
  (3, t_geti 1 7 1 6),
  (6, t_call 2 0 0 bc bs sp_X2_numbered 9),
  (9, t_ild 2 10),
  (10, t_ild 3 11),
  (11, t_call 4 0 0 bc bs (sp_X2_tell E) 14),
  (14, t_ist 4 16),
  (16, t_ald 0 17),
  (17, t_geti 2 10 6 20),
  (20, t_if (fun x => x = 0) 43 23),
  (23, t_ald 0 24),
  (24, t_ald 1 25),
  (25, t_geti 1 7 2 28),
  (28, t_call 2 0 0 bc bs sp_X2_saves 31),
  (31, t_if (fun x => x = 0) 43 34),
  (34, t_ald 0 35),
  (35, t_geti 2 10 8 38),
  (38, t_ic 20 40),
  (40, t_ifc (fun x y => x < y) 46 43),
  (43, t_ild 4 45),
  (45, t_iret K bc bs),
  (46, t_ald 0 47),
  (47, t_dup 48),
  (48, t_geti 2 10 8 51),
  (51, t_ic 1 52),
  (52, t_add 53),
  (53, t_puti 2 10 8 56),
  (56, t_ald 0 57),
  (57, t_ic 0 58),
  (58, t_puti 2 10 6 61),
  (61, t_ald 1 62),
  (62, t_geti 1 7 3 65),
  (65, t_iret K bc bs)]
set_option maxRecDepth 100000 in
theorem S_X2_tellSafe {E : Nat} {X : a_X} {K : aK} {l : Launch} {D : va_G} {G : aG} {N0 : Nat} (C : a_C X cX2_tellSafe (some .int) RX2) (Y : a_Y X l (rm_X2_tellX E) D G N0) (M : a_mq X K (rm_X2_tellX E).cells (rm_X2_tellX E).slots) (hT : a_Con l D G N0 yX2_tell cX2_tell 4 (some .int) (rm_X2_tell E) (sp_X2_tell E)) : ∀ x ∈ P_X2_tellSafe (E := E) K 0 0, a_Sd X x.1 x.2 := by
  unfold P_X2_tellSafe
  refine List.forall_mem_cons.mpr ⟨s_aldn C dX2_tellSafe_0 rfl, ?_⟩
  refine List.forall_mem_cons.mpr ⟨s_aldn C dX2_tellSafe_1 rfl, ?_⟩
  refine List.forall_mem_cons.mpr ⟨s_aldn C dX2_tellSafe_2 rfl, ?_⟩
  refine List.forall_mem_cons.mpr ⟨s_geti C rfl in_X1 (by decide) lk_X2_127 rfl dX2_tellSafe_3, ?_⟩
  refine List.forall_mem_cons.mpr ⟨s_callV (rm := (a_rm 2 0 0)) (n := 1) C Y (ci := 2) rfl con_X2_numbered rc_X2_numbered co_X2_numbered ml_X2_66 im_X2_numbered se_X2_numbered ii_X2 (by decide +kernel) (a_hr (by omega) (by decide)) ⟨rfl, rfl⟩ dX2_tellSafe_6, ?_⟩
  refine List.forall_mem_cons.mpr ⟨s_ildn C dX2_tellSafe_9 rfl, ?_⟩
  refine List.forall_mem_cons.mpr ⟨s_ildn C dX2_tellSafe_10 rfl, ?_⟩
  refine List.forall_mem_cons.mpr ⟨s_callV (rm := (rm_X2_tell E)) (n := 3) C Y (ci := 2) rfl hT rc_X2_tell co_X2_tell ml_X2_118 im_X2_tell se_X2_tell ii_X2 (by decide +kernel) (a_hr (by omega) (by decide)) ⟨rfl, rfl⟩ dX2_tellSafe_11, ?_⟩
  refine List.forall_mem_cons.mpr ⟨s_ist C dX2_tellSafe_14, ?_⟩
  refine List.forall_mem_cons.mpr ⟨s_aldn C dX2_tellSafe_16 rfl, ?_⟩
  refine List.forall_mem_cons.mpr ⟨s_geti C rfl in_X2 (by decide) lk_X2_76 rfl dX2_tellSafe_17, ?_⟩
  refine List.forall_mem_cons.mpr ⟨s_if_eq C dX2_tellSafe_20 (by decide), ?_⟩
  refine List.forall_mem_cons.mpr ⟨s_aldn C dX2_tellSafe_23 rfl, ?_⟩
  refine List.forall_mem_cons.mpr ⟨s_aldn C dX2_tellSafe_24 rfl, ?_⟩
  refine List.forall_mem_cons.mpr ⟨s_geti C rfl in_X1 (by decide) lk_X2_137 rfl dX2_tellSafe_25, ?_⟩
  refine List.forall_mem_cons.mpr ⟨s_callV (rm := (a_rm 1 0 0)) (n := 1) C Y (ci := 2) rfl con_X2_saves rc_X2_saves co_X2_saves ml_X2_178 im_X2_saves se_X2_saves ii_X2 (by decide +kernel) (a_hr (by omega) (by decide)) ⟨rfl, rfl⟩ dX2_tellSafe_28, ?_⟩
  refine List.forall_mem_cons.mpr ⟨s_if_eq C dX2_tellSafe_31 (by decide), ?_⟩
  refine List.forall_mem_cons.mpr ⟨s_aldn C dX2_tellSafe_34 rfl, ?_⟩
  refine List.forall_mem_cons.mpr ⟨s_geti C rfl in_X2 (by decide) lk_X2_69 rfl dX2_tellSafe_35, ?_⟩
  refine List.forall_mem_cons.mpr ⟨s_bi C dX2_tellSafe_38 (by decide), ?_⟩
  refine List.forall_mem_cons.mpr ⟨s_icmp_lt C dX2_tellSafe_40 (by decide), ?_⟩
  refine List.forall_mem_cons.mpr ⟨s_ild C dX2_tellSafe_43, ?_⟩
  refine List.forall_mem_cons.mpr ⟨s_iret C M dX2_tellSafe_45, ?_⟩
  refine List.forall_mem_cons.mpr ⟨s_aldn C dX2_tellSafe_46 rfl, ?_⟩
  refine List.forall_mem_cons.mpr ⟨s_dup C dX2_tellSafe_47, ?_⟩
  refine List.forall_mem_cons.mpr ⟨s_geti C rfl in_X2 (by decide) lk_X2_69 rfl dX2_tellSafe_48, ?_⟩
  refine List.forall_mem_cons.mpr ⟨s_ic C dX2_tellSafe_51 (by decide), ?_⟩
  refine List.forall_mem_cons.mpr ⟨s_add C dX2_tellSafe_52, ?_⟩
  refine List.forall_mem_cons.mpr ⟨s_puti C tyX2 tyX2_ok nmX2 rfl in_X2 (by decide) lk_X2_69 rfl (Or.inl rfl) rfl dX2_tellSafe_53, ?_⟩
  refine List.forall_mem_cons.mpr ⟨s_aldn C dX2_tellSafe_56 rfl, ?_⟩
  refine List.forall_mem_cons.mpr ⟨s_ic C dX2_tellSafe_57 (by decide), ?_⟩
  refine List.forall_mem_cons.mpr ⟨s_puti C tyX2 tyX2_ok nmX2 rfl in_X2 (by decide) lk_X2_76 rfl (Or.inl rfl) rfl dX2_tellSafe_58, ?_⟩
  refine List.forall_mem_cons.mpr ⟨s_aldn C dX2_tellSafe_61 rfl, ?_⟩
  refine List.forall_mem_cons.mpr ⟨s_geti C rfl in_X1 (by decide) lk_X2_140 rfl dX2_tellSafe_62, ?_⟩
  refine List.forall_mem_cons.mpr ⟨s_iret C M dX2_tellSafe_65, ?_⟩
  exact fun _ h => absurd h List.not_mem_nil
set_option maxRecDepth 20000 in
theorem con_X2_tellSafe (hT : a_Con l D G N0 yX2_tell cX2_tell 4 (some .int) (rm_X2_tell E) (sp_X2_tell E)) : a_Con l D G N0 yX2_tellSafe cX2_tellSafe 5 (some .int) (rm_X2_tellX E) (sp_X2_tellSafe E) := by
  refine a_con (by decide) (fun as σ K h => by rw [l_gl h]; decide) ?_
  intro X as σ K h C Y M _
  obtain ⟨M', F, B, n, p, x, y, s, k, rfl, rfl, henv, hW, hp, hso, hs, hk, hE, hK⟩ := h
  have hK : ∀ R : tR, R = t_safe (M' 19 p) (M' 20 p) ((tt_T M' E) (M' 18 p) x y s) → ∀ r : Int32, (R.1 = 0 → r = R.2.1) → K (some (.inl r)) (a_mk (l_p M' R.1 R.2.2) F B) := hK
  have hp60 : p < 60 := Nat.lt_of_lt_of_le hp henv.1.1
  obtain ⟨d1, d2, d3, d4, d5, d6, d7, d8, d9⟩ := id henv.2
  obtain ⟨hB, e0, e1, e2, e3⟩ := d3 p hp
  obtain ⟨so, hs13, hsoo, hva, hvb, hvc, hvd, hvn, hvo⟩ := henv.1.2.1 p hp
  have hi : ∀ I, a_is (a_mk I F B) (66 + p) 1 7 = true := fun I => l_is (by omega) (by omega) hB
  have cd : ∀ {a : Int32}, m_vc n a → m_cd n a := fun h => Or.inr (Or.inr (Or.inr h))
  have hsoe : so = 12 := (nI_eq (by omega) (by decide)).mp (hsoo.symm.trans hso)
  have va : m_vc n (M' 18 p) := hva (by omega) (by omega) (by omega)
  refine a_wps (S_X2_tellSafe C Y M hT) (inv := a_ni) a_nih 60 _ _ _ _ _ _ ?_
  refine a_gi (hi _) ⟨_, F, B, n, _, rfl, rfl, d1, henv.1.1, M', F, B, n, M' 18 p, _, x, y, s, k, rfl, rfl, ?_, henv, hW, cd va, hs, hk, hE, fun R hR r hr => ?_⟩
  · show (if m_in (l_p M' 0 s (66 + p) 1) 0 (nI n - 1) = 0 then none else F 3 (l_p M' 0 s (66 + p) 1).toNatClampNeg) = _
    rw [lp_g (by decide), e1]
    exact l_num henv.1.1 d2 va
  · rw [← hR] at hK
    have eb : l_p M' R.1 R.2.2 (66 + p) 2 = M' 19 p := by rw [lp_g (by decide), e2]
    by_cases hz : R.1 = 0
    · have hK2 := hK R (if_neg (fun w => w.1 hz)).symm r hr
      exact ⟨fun _ => hK2, fun w => absurd hz w⟩
    · have esv : m_sv (l_p M' R.1 R.2.2 0 6) (l_p M' R.1 R.2.2 (66 + p) 2) = m_sv R.1 (M' 19 p) := by rw [eb]; rfl
      by_cases hc : ¬ R.1 = 4 ∧ (M' 19 p = 0 ∨ M' 19 p = R.1)
      · have e1v : m_sv R.1 (M' 19 p) = 1 := by
          unfold m_sv
          rw [if_neg hc.1]
          rcases hc.2 with z | z
          · rw [if_pos z]
          · by_cases z0 : M' 19 p = 0
            · rw [if_pos z0]
            · rw [if_neg z0, if_pos z]
        have nz : ¬ m_sv (l_p M' R.1 R.2.2 0 6) (l_p M' R.1 R.2.2 (66 + p) 2) = 0 := by rw [esv, e1v]; decide
        by_cases h20 : R.2.2.2.1 < 20
        · have n20 : ¬ 20 ≤ R.2.2.2.1 := Int32.not_le.mpr h20
          have hK2 := hK (0, M' 20 p, R.2.2.1, R.2.2.2.1 + 1, R.2.2.2.2) (if_pos ⟨hz, hc.1, hc.2, n20⟩).symm (M' 20 p) (fun _ => rfl)
          have e9 : a_w (a_w (l_p M' R.1 R.2.2) 0 8 (R.2.2.2.1 + 1)) 0 6 0 = l_p M' 0 (R.2.2.1, R.2.2.2.1 + 1, R.2.2.2.2) := by rw [lp_8, lp_6]
          have e10 : a_w (a_w (l_p M' R.1 R.2.2) 0 8 (R.2.2.2.1 + 1)) 0 6 0 (66 + p) 3 = M' 20 p := by rw [e9, lp_g (by decide), e3]
          have hK2 : K (some (.inl (M' 20 p))) (a_mk (l_p M' 0 (R.2.2.1, R.2.2.2.1 + 1, R.2.2.2.2)) F B) := hK2
          rw [← e9, ← e10] at hK2
          exact ⟨fun w => absurd w hz, fun _ => a_gi (hi _) ⟨_, F, B, _, rfl, rfl, fun w => absurd w nz, fun _ => ⟨fun _ => a_gi (hi (a_w (a_w (l_p M' R.1 R.2.2) 0 8 (R.2.2.2.1 + 1)) 0 6 0)) hK2, fun w => absurd h20 w⟩⟩⟩
        · have hK2 := hK R (if_neg (fun w => w.2.2.2 (Int32.not_lt.mp h20))).symm r hr
          exact ⟨fun w => absurd w hz, fun _ => a_gi (hi _) ⟨_, F, B, _, rfl, rfl, fun w => absurd w nz, fun _ => ⟨fun w => absurd w h20, fun _ => hK2⟩⟩⟩
      · have e1v : m_sv R.1 (M' 19 p) = 0 := by
          unfold m_sv
          by_cases z4 : R.1 = 4
          · rw [if_pos z4]
          · rw [if_neg z4]
            by_cases z0 : M' 19 p = 0
            · exact absurd ⟨z4, Or.inl z0⟩ hc
            · rw [if_neg z0]
              by_cases z1 : M' 19 p = R.1
              · exact absurd ⟨z4, Or.inr z1⟩ hc
              · rw [if_neg z1]
        have nz : m_sv (l_p M' R.1 R.2.2 0 6) (l_p M' R.1 R.2.2 (66 + p) 2) = 0 := by rw [esv, e1v]
        have hK2 := hK R (if_neg (fun w => hc ⟨w.2.1, w.2.2.1⟩)).symm r hr
        exact ⟨fun w => absurd w hz, fun _ => a_gi (hi _) ⟨_, F, B, _, rfl, rfl, fun _ => hK2, fun w => absurd nz w⟩⟩
def sp_X2_tellWorn (E : Nat) : aP := l_g E (fun v => v = 10) (fun M rc p x y s => t_worn rc (M 18 p) (M 19 p) (M 20 p) p x y s)
theorem rc_X2_tellWorn {E : Nat} : ∀ as σ K, sp_X2_tellWorn E as σ K → ∃ h As, as = .inr (some h) :: As ∧ a_is σ h 2 10 = true := l_grc
def P_X2_tellWorn {E : Nat} (K : aK) (bc bs : Nat) : List (Nat × aT) := [(0, t_ald 1 1),
  (1, t_dup 2),
  (2, t_geti 1 7 6 5),
  (5, t_ic 1 6),
  (6, t_add 7),
  (7, t_puti 1 7 6 10),
  (10, t_ald 1 11),
  (11, t_geti 1 7 6 14),
  (14, t_ald 1 15),
  (15, t_geti 1 7 2 18),
  (18, t_ifc (fun x y => y ≤ x) 36 21),
  (21, t_ald 0 22),
  (22, t_ald 0 23),
  (23, t_ald 1 24),
  (24, t_geti 1 7 1 27),
  (27, t_call 2 0 0 bc bs sp_X2_numbered 30),
  (30, t_ild 2 31),
  (31, t_ild 3 32),
  (32, t_call 4 0 0 bc bs (sp_X2_tell E) 35),
  (35, t_iret K bc bs),
  (36, t_ald 1 37),
  (37, t_ic 0 38),
  (38, t_puti 1 7 6 41),
  (41, t_ald 0 42),
  (42, t_dup 43),
  (43, t_geti 2 10 9 46),
  (46, t_ic 1 47),
  (47, t_add 48),
  (48, t_puti 2 10 9 51),
  (51, t_ald 1 52),
  (52, t_geti 1 7 3 55),
  (55, t_iret K bc bs)]
set_option maxRecDepth 100000 in
theorem S_X2_tellWorn {E : Nat} {X : a_X} {K : aK} {l : Launch} {D : va_G} {G : aG} {N0 : Nat} (C : a_C X cX2_tellWorn (some .int) RX2) (Y : a_Y X l (rm_X2_tellX E) D G N0) (M : a_mq X K (rm_X2_tellX E).cells (rm_X2_tellX E).slots) (hT : a_Con l D G N0 yX2_tell cX2_tell 4 (some .int) (rm_X2_tell E) (sp_X2_tell E)) : ∀ x ∈ P_X2_tellWorn (E := E) K 0 0, a_Sd X x.1 x.2 := by
  unfold P_X2_tellWorn
  refine List.forall_mem_cons.mpr ⟨s_aldn C dX2_tellWorn_0 rfl, ?_⟩
  refine List.forall_mem_cons.mpr ⟨s_dup C dX2_tellWorn_1, ?_⟩
  refine List.forall_mem_cons.mpr ⟨s_geti C rfl in_X1 (by decide) lk_X2_175 rfl dX2_tellWorn_2, ?_⟩
  refine List.forall_mem_cons.mpr ⟨s_ic C dX2_tellWorn_5 (by decide), ?_⟩
  refine List.forall_mem_cons.mpr ⟨s_add C dX2_tellWorn_6, ?_⟩
  refine List.forall_mem_cons.mpr ⟨s_puti C tyX1 tyX1_ok nmX1 rfl in_X1 (by decide) lk_X2_175 rfl (Or.inl rfl) rfl dX2_tellWorn_7, ?_⟩
  refine List.forall_mem_cons.mpr ⟨s_aldn C dX2_tellWorn_10 rfl, ?_⟩
  refine List.forall_mem_cons.mpr ⟨s_geti C rfl in_X1 (by decide) lk_X2_175 rfl dX2_tellWorn_11, ?_⟩
  refine List.forall_mem_cons.mpr ⟨s_aldn C dX2_tellWorn_14 rfl, ?_⟩
  refine List.forall_mem_cons.mpr ⟨s_geti C rfl in_X1 (by decide) lk_X2_137 rfl dX2_tellWorn_15, ?_⟩
  refine List.forall_mem_cons.mpr ⟨s_icmp_ge C dX2_tellWorn_18 (by decide), ?_⟩
  refine List.forall_mem_cons.mpr ⟨s_aldn C dX2_tellWorn_21 rfl, ?_⟩
  refine List.forall_mem_cons.mpr ⟨s_aldn C dX2_tellWorn_22 rfl, ?_⟩
  refine List.forall_mem_cons.mpr ⟨s_aldn C dX2_tellWorn_23 rfl, ?_⟩
  refine List.forall_mem_cons.mpr ⟨s_geti C rfl in_X1 (by decide) lk_X2_127 rfl dX2_tellWorn_24, ?_⟩
  refine List.forall_mem_cons.mpr ⟨s_callV (rm := (a_rm 2 0 0)) (n := 1) C Y (ci := 2) rfl con_X2_numbered rc_X2_numbered co_X2_numbered ml_X2_66 im_X2_numbered se_X2_numbered ii_X2 (by decide +kernel) (a_hr (by omega) (by decide)) ⟨rfl, rfl⟩ dX2_tellWorn_27, ?_⟩
  refine List.forall_mem_cons.mpr ⟨s_ildn C dX2_tellWorn_30 rfl, ?_⟩
  refine List.forall_mem_cons.mpr ⟨s_ildn C dX2_tellWorn_31 rfl, ?_⟩
  refine List.forall_mem_cons.mpr ⟨s_callV (rm := (rm_X2_tell E)) (n := 3) C Y (ci := 2) rfl hT rc_X2_tell co_X2_tell ml_X2_118 im_X2_tell se_X2_tell ii_X2 (by decide +kernel) (a_hr (by omega) (by decide)) ⟨rfl, rfl⟩ dX2_tellWorn_32, ?_⟩
  refine List.forall_mem_cons.mpr ⟨s_iret C M dX2_tellWorn_35, ?_⟩
  refine List.forall_mem_cons.mpr ⟨s_aldn C dX2_tellWorn_36 rfl, ?_⟩
  refine List.forall_mem_cons.mpr ⟨s_ic C dX2_tellWorn_37 (by decide), ?_⟩
  refine List.forall_mem_cons.mpr ⟨s_puti C tyX1 tyX1_ok nmX1 rfl in_X1 (by decide) lk_X2_175 rfl (Or.inl rfl) rfl dX2_tellWorn_38, ?_⟩
  refine List.forall_mem_cons.mpr ⟨s_aldn C dX2_tellWorn_41 rfl, ?_⟩
  refine List.forall_mem_cons.mpr ⟨s_dup C dX2_tellWorn_42, ?_⟩
  refine List.forall_mem_cons.mpr ⟨s_geti C rfl in_X2 (by decide) lk_X2_109 rfl dX2_tellWorn_43, ?_⟩
  refine List.forall_mem_cons.mpr ⟨s_ic C dX2_tellWorn_46 (by decide), ?_⟩
  refine List.forall_mem_cons.mpr ⟨s_add C dX2_tellWorn_47, ?_⟩
  refine List.forall_mem_cons.mpr ⟨s_puti C tyX2 tyX2_ok nmX2 rfl in_X2 (by decide) lk_X2_109 rfl (Or.inl rfl) rfl dX2_tellWorn_48, ?_⟩
  refine List.forall_mem_cons.mpr ⟨s_aldn C dX2_tellWorn_51 rfl, ?_⟩
  refine List.forall_mem_cons.mpr ⟨s_geti C rfl in_X1 (by decide) lk_X2_140 rfl dX2_tellWorn_52, ?_⟩
  refine List.forall_mem_cons.mpr ⟨s_iret C M dX2_tellWorn_55, ?_⟩
  exact fun _ h => absurd h List.not_mem_nil
set_option maxRecDepth 20000 in
theorem con_X2_tellWorn (hT : a_Con l D G N0 yX2_tell cX2_tell 4 (some .int) (rm_X2_tell E) (sp_X2_tell E)) : a_Con l D G N0 yX2_tellWorn cX2_tellWorn 4 (some .int) (rm_X2_tellX E) (sp_X2_tellWorn E) := by
  refine a_con (by decide) (fun as σ K h => by rw [l_gl h]; decide) ?_
  intro X as σ K h C Y M _
  obtain ⟨M', F, B, n, p, x, y, s, k, rfl, rfl, henv, hW, hp, hso, hs, hk, hE, hK⟩ := h
  have hK : ∀ R : tR, R = t_worn (tt_T M' E) (M' 18 p) (M' 19 p) (M' 20 p) p x y s → ∀ r : Int32, (R.1 = 0 → r = R.2.1) → K (some (.inl r)) (a_mk (l_p M' R.1 R.2.2) F B) := hK
  have hp60 : p < 60 := Nat.lt_of_lt_of_le hp henv.1.1
  obtain ⟨d1, d2, d3, d4, d5, d6, d7, d8, d9⟩ := id henv.2
  obtain ⟨hB, e0, e1, e2, e3⟩ := d3 p hp
  obtain ⟨so, hs13, hsoo, hva, hvb, hvc, hvd, hvn, hvo⟩ := henv.1.2.1 p hp
  have hi : ∀ I, a_is (a_mk I F B) (66 + p) 1 7 = true := fun I => l_is (by omega) (by omega) hB
  have cd : ∀ {a : Int32}, m_vc n a → m_cd n a := fun h => Or.inr (Or.inr (Or.inr h))
  have hsoe : so = 10 := (nI_eq (by omega) (by decide)).mp (hsoo.symm.trans hso)
  have va : m_vc n (M' 18 p) := hva (by omega) (by omega) (by omega)
  refine a_wps (S_X2_tellWorn C Y M hT) (inv := a_ni) a_nih 60 _ _ _ _ _ _ ?_
  obtain ⟨w, b, w1, w2, w3, w4⟩ := hW p hp hso
  have ew : l_p M' 0 s (66 + p) 6 = nI w := by rw [lp_wr hp60, w1]
  have es1 : a_w (l_p M' 0 s) (66 + p) 6 (l_p M' 0 s (66 + p) 6 + 1) = l_p M' 0 (s.1, s.2.1, s.2.2.1, upd s.2.2.2 p (s.2.2.2 p + 1)) := by rw [lp_wr hp60]; exact lp_w hp60
  have er6 : a_w (l_p M' 0 s) (66 + p) 6 (l_p M' 0 s (66 + p) 6 + 1) (66 + p) 6 = nI (w + 1) := by rw [a_ww, ew, nI_1]
  have er2 : a_w (l_p M' 0 s) (66 + p) 6 (l_p M' 0 s (66 + p) 6 + 1) (66 + p) 2 = nI b := by rw [es1, lp_g (by decide), e2, w2]
  refine a_gi (hi _) (a_gi (hi _) (a_gi (hi (a_w (l_p M' 0 s) (66 + p) 6 (l_p M' 0 s (66 + p) 6 + 1))) (a_gi (hi (a_w (l_p M' 0 s) (66 + p) 6 (l_p M' 0 s (66 + p) 6 + 1))) ⟨fun hle => ?_, fun hle => ?_⟩)))
  · have hle : a_w (l_p M' 0 s) (66 + p) 6 (l_p M' 0 s (66 + p) 6 + 1) (66 + p) 2 ≤ a_w (l_p M' 0 s) (66 + p) 6 (l_p M' 0 s (66 + p) 6 + 1) (66 + p) 6 := hle
    rw [er6, er2] at hle
    have hb : b = w + 1 := by have := (nI_leI (by omega) (by omega)).mp hle; omega
    have hT1 : t_worn (tt_T M' E) (M' 18 p) (M' 19 p) (M' 20 p) p x y s = (0, M' 20 p, s.1, s.2.1, s.2.2.1 + 1, upd s.2.2.2 p 0) := if_pos (by rw [w1, w2, nI_1, hb])
    have hK2 := hK _ hT1.symm (M' 20 p) (fun _ => rfl)
    have e8 : a_w (a_w (l_p M' 0 s) (66 + p) 6 (l_p M' 0 s (66 + p) 6 + 1)) (66 + p) 6 0 = l_p M' 0 (s.1, s.2.1, s.2.2.1, upd s.2.2.2 p 0) := by
      rw [es1, lp_w hp60]
      show l_p M' 0 (s.1, s.2.1, s.2.2.1, upd (upd s.2.2.2 p (s.2.2.2 p + 1)) p 0) = _
      rw [show upd (upd s.2.2.2 p (s.2.2.2 p + 1)) p 0 = upd s.2.2.2 p 0 by funext j; unfold upd; by_cases e : j = p <;> simp [e]]
    have e9r : a_w (a_w (l_p M' 0 s) (66 + p) 6 (l_p M' 0 s (66 + p) 6 + 1)) (66 + p) 6 0 0 9 = s.2.2.1 := by rw [e8]; rfl
    have e9 : a_w (a_w (a_w (l_p M' 0 s) (66 + p) 6 (l_p M' 0 s (66 + p) 6 + 1)) (66 + p) 6 0) 0 9 (a_w (a_w (l_p M' 0 s) (66 + p) 6 (l_p M' 0 s (66 + p) 6 + 1)) (66 + p) 6 0 0 9 + 1) = l_p M' 0 (s.1, s.2.1, s.2.2.1 + 1, upd s.2.2.2 p 0) := by rw [e9r, e8, lp_9]
    have e10 : a_w (a_w (a_w (l_p M' 0 s) (66 + p) 6 (l_p M' 0 s (66 + p) 6 + 1)) (66 + p) 6 0) 0 9 (a_w (a_w (l_p M' 0 s) (66 + p) 6 (l_p M' 0 s (66 + p) 6 + 1)) (66 + p) 6 0 0 9 + 1) (66 + p) 3 = M' 20 p := by rw [e9, lp_g (by decide), e3]
    have hK2 : K (some (.inl (M' 20 p))) (a_mk (l_p M' 0 (s.1, s.2.1, s.2.2.1 + 1, upd s.2.2.2 p 0)) F B) := hK2
    rw [← e9, ← e10] at hK2
    exact a_gi (hi (a_w (l_p M' 0 s) (66 + p) 6 (l_p M' 0 s (66 + p) 6 + 1))) (a_gi (hi (a_w (a_w (a_w (l_p M' 0 s) (66 + p) 6 (l_p M' 0 s (66 + p) 6 + 1)) (66 + p) 6 0) 0 9 (a_w (a_w (l_p M' 0 s) (66 + p) 6 (l_p M' 0 s (66 + p) 6 + 1)) (66 + p) 6 0 0 9 + 1))) hK2)
  · have hle : ¬ a_w (l_p M' 0 s) (66 + p) 6 (l_p M' 0 s (66 + p) 6 + 1) (66 + p) 2 ≤ a_w (l_p M' 0 s) (66 + p) 6 (l_p M' 0 s (66 + p) 6 + 1) (66 + p) 6 := hle
    rw [er6, er2] at hle
    have hb : w + 1 < b := Nat.not_le.mp (fun z => hle (nI_le z (by omega)))
    have hT1 : t_worn (tt_T M' E) (M' 18 p) (M' 19 p) (M' 20 p) p x y s = tt_T M' E (M' 18 p) x y (s.1, s.2.1, s.2.2.1, upd s.2.2.2 p (s.2.2.2 p + 1)) := if_neg (by
      rw [w1, w2, nI_1]
      intro z
      have := (nI_eq (by omega) (by omega)).mp z
      omega)
    have hW1 : l_W M' n (s.1, s.2.1, s.2.2.1, upd s.2.2.2 p (s.2.2.2 p + 1)) := fun q hq h10 => by
      by_cases e : q = p
      · subst e
        exact ⟨w + 1, b, by show upd s.2.2.2 q _ q = _; rw [show upd s.2.2.2 q (s.2.2.2 q + 1) q = s.2.2.2 q + 1 from if_pos rfl, w1, nI_1], w2, hb, w4⟩
      · obtain ⟨w', b', f1, f2, f3, f4⟩ := hW q hq h10
        exact ⟨w', b', by show upd s.2.2.2 p _ q = _; rw [← f1]; exact if_neg e, f2, f3, f4⟩
    have er1 : a_w (l_p M' 0 s) (66 + p) 6 (l_p M' 0 s (66 + p) 6 + 1) (66 + p) 1 = M' 18 p := by rw [es1, lp_g (by decide), e1]
    have d1' : a_w (l_p M' 0 s) (66 + p) 6 (l_p M' 0 s (66 + p) 6 + 1) 0 4 = nI n := by rw [es1]; exact d1
    refine a_gi (hi (a_w (l_p M' 0 s) (66 + p) 6 (l_p M' 0 s (66 + p) 6 + 1))) ⟨a_w (l_p M' 0 s) (66 + p) 6 (l_p M' 0 s (66 + p) 6 + 1), F, B, n, _, rfl, rfl, d1', henv.1.1, M', F, B, n, M' 18 p, _, x, y, (s.1, s.2.1, s.2.2.1, upd s.2.2.2 p (s.2.2.2 p + 1)), k, congrArg (fun I => a_mk I F B) es1, rfl, ?_, henv, hW1, cd va, hs, hk, hE, fun R hR r hr => ?_⟩
    · show (if m_in (a_w (l_p M' 0 s) (66 + p) 6 (l_p M' 0 s (66 + p) 6 + 1) (66 + p) 1) 0 (nI n - 1) = 0 then none else F 3 (a_w (l_p M' 0 s) (66 + p) 6 (l_p M' 0 s (66 + p) 6 + 1) (66 + p) 1).toNatClampNeg) = _
      rw [er1]
      exact l_num henv.1.1 d2 va
    · exact hK R (hR.trans hT1.symm) r hr
def sp_X2_tellTurned (E : Nat) : aP := l_g E (fun v => v = 4) (fun M rc p x y s => rc (M 18 p) (m_tx (M 19 p) x y) (m_ty (M 19 p) x y) s)
theorem rc_X2_tellTurned {E : Nat} : ∀ as σ K, sp_X2_tellTurned E as σ K → ∃ h As, as = .inr (some h) :: As ∧ a_is σ h 2 10 = true := l_grc
def P_X2_tellTurned {E : Nat} (K : aK) (bc bs : Nat) : List (Nat × aT) := [(0, t_ald 0 1),
  (1, t_ald 1 2),
  (2, t_geti 1 7 1 5),
  (5, t_call 2 0 0 bc bs sp_X2_numbered 8),
  (8, t_ast 4 10),
  (10, t_ald 1 11),
  (11, t_geti 1 7 2 14),
  (14, t_sw [(0, 40), (1, 49), (2, 59)] 69),
  (40, t_ald 0 41),
  (41, t_ald 4 43),
  (43, t_ild 3 44),
  (44, t_ild 2 45),
  (45, t_call 4 0 0 bc bs (sp_X2_tell E) 48),
  (48, t_iret K bc bs),
  (49, t_ald 0 50),
  (50, t_ald 4 52),
  (52, t_ild 2 53),
  (53, t_neg 54),
  (54, t_ild 3 55),
  (55, t_call 4 0 0 bc bs (sp_X2_tell E) 58),
  (58, t_iret K bc bs),
  (59, t_ald 0 60),
  (60, t_ald 4 62),
  (62, t_ild 2 63),
  (63, t_ild 3 64),
  (64, t_neg 65),
  (65, t_call 4 0 0 bc bs (sp_X2_tell E) 68),
  (68, t_iret K bc bs),
  (69, t_ald 0 70),
  (70, t_ald 4 72),
  (72, t_ild 2 73),
  (73, t_ild 3 74),
  (74, t_mul 75),
  (75, t_ild 2 76),
  (76, t_ild 3 77),
  (77, t_add 78),
  (78, t_call 4 0 0 bc bs (sp_X2_tell E) 81),
  (81, t_iret K bc bs)]
set_option maxRecDepth 100000 in
theorem S_X2_tellTurned {E : Nat} {X : a_X} {K : aK} {l : Launch} {D : va_G} {G : aG} {N0 : Nat} (C : a_C X cX2_tellTurned (some .int) RX2) (Y : a_Y X l (rm_X2_tellX E) D G N0) (M : a_mq X K (rm_X2_tellX E).cells (rm_X2_tellX E).slots) (hT : a_Con l D G N0 yX2_tell cX2_tell 4 (some .int) (rm_X2_tell E) (sp_X2_tell E)) : ∀ x ∈ P_X2_tellTurned (E := E) K 0 0, a_Sd X x.1 x.2 := by
  unfold P_X2_tellTurned
  refine List.forall_mem_cons.mpr ⟨s_aldn C dX2_tellTurned_0 rfl, ?_⟩
  refine List.forall_mem_cons.mpr ⟨s_aldn C dX2_tellTurned_1 rfl, ?_⟩
  refine List.forall_mem_cons.mpr ⟨s_geti C rfl in_X1 (by decide) lk_X2_127 rfl dX2_tellTurned_2, ?_⟩
  refine List.forall_mem_cons.mpr ⟨s_callV (rm := (a_rm 2 0 0)) (n := 1) C Y (ci := 2) rfl con_X2_numbered rc_X2_numbered co_X2_numbered ml_X2_66 im_X2_numbered se_X2_numbered ii_X2 (by decide +kernel) (a_hr (by omega) (by decide)) ⟨rfl, rfl⟩ dX2_tellTurned_5, ?_⟩
  refine List.forall_mem_cons.mpr ⟨s_ast C dX2_tellTurned_8, ?_⟩
  refine List.forall_mem_cons.mpr ⟨s_aldn C dX2_tellTurned_10 rfl, ?_⟩
  refine List.forall_mem_cons.mpr ⟨s_geti C rfl in_X1 (by decide) lk_X2_137 rfl dX2_tellTurned_11, ?_⟩
  refine List.forall_mem_cons.mpr ⟨s_tsw C dX2_tellTurned_14 (a_tok_of2 2 (by decide) (by decide) (by decide) (by decide)), ?_⟩
  refine List.forall_mem_cons.mpr ⟨s_aldn C dX2_tellTurned_40 rfl, ?_⟩
  refine List.forall_mem_cons.mpr ⟨s_ald C dX2_tellTurned_41, ?_⟩
  refine List.forall_mem_cons.mpr ⟨s_ildn C dX2_tellTurned_43 rfl, ?_⟩
  refine List.forall_mem_cons.mpr ⟨s_ildn C dX2_tellTurned_44 rfl, ?_⟩
  refine List.forall_mem_cons.mpr ⟨s_callV (rm := (rm_X2_tell E)) (n := 3) C Y (ci := 2) rfl hT rc_X2_tell co_X2_tell ml_X2_118 im_X2_tell se_X2_tell ii_X2 (by decide +kernel) (a_hr (by omega) (by decide)) ⟨rfl, rfl⟩ dX2_tellTurned_45, ?_⟩
  refine List.forall_mem_cons.mpr ⟨s_iret C M dX2_tellTurned_48, ?_⟩
  refine List.forall_mem_cons.mpr ⟨s_aldn C dX2_tellTurned_49 rfl, ?_⟩
  refine List.forall_mem_cons.mpr ⟨s_ald C dX2_tellTurned_50, ?_⟩
  refine List.forall_mem_cons.mpr ⟨s_ildn C dX2_tellTurned_52 rfl, ?_⟩
  refine List.forall_mem_cons.mpr ⟨s_neg C dX2_tellTurned_53, ?_⟩
  refine List.forall_mem_cons.mpr ⟨s_ildn C dX2_tellTurned_54 rfl, ?_⟩
  refine List.forall_mem_cons.mpr ⟨s_callV (rm := (rm_X2_tell E)) (n := 3) C Y (ci := 2) rfl hT rc_X2_tell co_X2_tell ml_X2_118 im_X2_tell se_X2_tell ii_X2 (by decide +kernel) (a_hr (by omega) (by decide)) ⟨rfl, rfl⟩ dX2_tellTurned_55, ?_⟩
  refine List.forall_mem_cons.mpr ⟨s_iret C M dX2_tellTurned_58, ?_⟩
  refine List.forall_mem_cons.mpr ⟨s_aldn C dX2_tellTurned_59 rfl, ?_⟩
  refine List.forall_mem_cons.mpr ⟨s_ald C dX2_tellTurned_60, ?_⟩
  refine List.forall_mem_cons.mpr ⟨s_ildn C dX2_tellTurned_62 rfl, ?_⟩
  refine List.forall_mem_cons.mpr ⟨s_ildn C dX2_tellTurned_63 rfl, ?_⟩
  refine List.forall_mem_cons.mpr ⟨s_neg C dX2_tellTurned_64, ?_⟩
  refine List.forall_mem_cons.mpr ⟨s_callV (rm := (rm_X2_tell E)) (n := 3) C Y (ci := 2) rfl hT rc_X2_tell co_X2_tell ml_X2_118 im_X2_tell se_X2_tell ii_X2 (by decide +kernel) (a_hr (by omega) (by decide)) ⟨rfl, rfl⟩ dX2_tellTurned_65, ?_⟩
  refine List.forall_mem_cons.mpr ⟨s_iret C M dX2_tellTurned_68, ?_⟩
  refine List.forall_mem_cons.mpr ⟨s_aldn C dX2_tellTurned_69 rfl, ?_⟩
  refine List.forall_mem_cons.mpr ⟨s_ald C dX2_tellTurned_70, ?_⟩
  refine List.forall_mem_cons.mpr ⟨s_ildn C dX2_tellTurned_72 rfl, ?_⟩
  refine List.forall_mem_cons.mpr ⟨s_ildn C dX2_tellTurned_73 rfl, ?_⟩
  refine List.forall_mem_cons.mpr ⟨s_mul C dX2_tellTurned_74, ?_⟩
  refine List.forall_mem_cons.mpr ⟨s_ildn C dX2_tellTurned_75 rfl, ?_⟩
  refine List.forall_mem_cons.mpr ⟨s_ildn C dX2_tellTurned_76 rfl, ?_⟩
  refine List.forall_mem_cons.mpr ⟨s_add C dX2_tellTurned_77, ?_⟩
  refine List.forall_mem_cons.mpr ⟨s_callV (rm := (rm_X2_tell E)) (n := 3) C Y (ci := 2) rfl hT rc_X2_tell co_X2_tell ml_X2_118 im_X2_tell se_X2_tell ii_X2 (by decide +kernel) (a_hr (by omega) (by decide)) ⟨rfl, rfl⟩ dX2_tellTurned_78, ?_⟩
  refine List.forall_mem_cons.mpr ⟨s_iret C M dX2_tellTurned_81, ?_⟩
  exact fun _ h => absurd h List.not_mem_nil
set_option maxRecDepth 20000 in
theorem con_X2_tellTurned (hT : a_Con l D G N0 yX2_tell cX2_tell 4 (some .int) (rm_X2_tell E) (sp_X2_tell E)) : a_Con l D G N0 yX2_tellTurned cX2_tellTurned 5 (some .int) (rm_X2_tellX E) (sp_X2_tellTurned E) := by
  refine a_con (by decide) (fun as σ K h => by rw [l_gl h]; decide) ?_
  intro X as σ K h C Y M _
  obtain ⟨M', F, B, n, p, x, y, s, k, rfl, rfl, henv, hW, hp, hso, hs, hk, hE, hK⟩ := h
  have hK : ∀ R : tR, R = (tt_T M' E) (M' 18 p) (m_tx (M' 19 p) x y) (m_ty (M' 19 p) x y) s → ∀ r : Int32, (R.1 = 0 → r = R.2.1) → K (some (.inl r)) (a_mk (l_p M' R.1 R.2.2) F B) := hK
  have hp60 : p < 60 := Nat.lt_of_lt_of_le hp henv.1.1
  obtain ⟨d1, d2, d3, d4, d5, d6, d7, d8, d9⟩ := id henv.2
  obtain ⟨hB, e0, e1, e2, e3⟩ := d3 p hp
  obtain ⟨so, hs13, hsoo, hva, hvb, hvc, hvd, hvn, hvo⟩ := henv.1.2.1 p hp
  have hi : ∀ I, a_is (a_mk I F B) (66 + p) 1 7 = true := fun I => l_is (by omega) (by omega) hB
  have cd : ∀ {a : Int32}, m_vc n a → m_cd n a := fun h => Or.inr (Or.inr (Or.inr h))
  have hsoe : so = 4 := (nI_eq (by omega) (by decide)).mp (hsoo.symm.trans hso)
  have va : m_vc n (M' 18 p) := hva (by omega) (by omega) (by omega)
  refine a_wps (S_X2_tellTurned C Y M hT) (inv := a_ni) a_nih 60 _ _ _ _ _ _ ?_
  have hnum : (if m_in (l_p M' 0 s (66 + p) 1) 0 (nI n - 1) = 0 then none else F 3 (l_p M' 0 s (66 + p) 1).toNatClampNeg) = l_ref (M' 18 p) := by
    rw [lp_g (by decide), e1]
    exact l_num henv.1.1 d2 va
  have eb : l_p M' 0 s (66 + p) 2 = M' 19 p := by rw [lp_g (by decide), e2]
  refine a_gi (hi _) ⟨_, F, B, n, _, rfl, rfl, d1, henv.1.1, a_gi (hi _) ?_⟩
  refine ⟨fun h0 => ?_, fun h0 => ⟨fun h1 => ?_, fun h1 => ⟨fun h2 => ?_, fun h2 => ?_⟩⟩⟩
  · have h0 : l_p M' 0 s (66 + p) 2 = 0 := h0
    rw [eb] at h0
    skip
    have ex : m_tx (M' 19 p) x y = y := by unfold m_tx; rw [if_pos h0]
    have ey : m_ty (M' 19 p) x y = x := by unfold m_ty; rw [if_pos h0]
    rw [ex, ey] at hK
    exact ⟨M', F, B, n, M' 18 p, _, _, _, s, k, rfl, rfl, hnum, henv, hW, cd va, hs, hk, hE, fun R hR r hr => hK R hR r hr⟩
  · have h0 : ¬ l_p M' 0 s (66 + p) 2 = 0 := h0
    have h1 : l_p M' 0 s (66 + p) 2 = 1 := h1
    rw [eb] at h0 h1
    skip
    have ex : m_tx (M' 19 p) x y = -x := by unfold m_tx; rw [if_neg h0, if_pos h1]
    have ey : m_ty (M' 19 p) x y = y := by unfold m_ty; rw [if_neg h0, if_pos h1]
    rw [ex, ey] at hK
    exact ⟨M', F, B, n, M' 18 p, _, _, _, s, k, rfl, rfl, hnum, henv, hW, cd va, hs, hk, hE, fun R hR r hr => hK R hR r hr⟩
  · have h0 : ¬ l_p M' 0 s (66 + p) 2 = 0 := h0
    have h1 : ¬ l_p M' 0 s (66 + p) 2 = 1 := h1
    have h2 : l_p M' 0 s (66 + p) 2 = 2 := h2
    rw [eb] at h0 h1 h2
    skip
    have ex : m_tx (M' 19 p) x y = x := by unfold m_tx; rw [if_neg h0, if_neg h1, if_pos h2]
    have ey : m_ty (M' 19 p) x y = -y := by unfold m_ty; rw [if_neg h0, if_neg h1, if_pos h2]
    rw [ex, ey] at hK
    exact ⟨M', F, B, n, M' 18 p, _, _, _, s, k, rfl, rfl, hnum, henv, hW, cd va, hs, hk, hE, fun R hR r hr => hK R hR r hr⟩
  · have h0 : ¬ l_p M' 0 s (66 + p) 2 = 0 := h0
    have h1 : ¬ l_p M' 0 s (66 + p) 2 = 1 := h1
    have h2 : ¬ l_p M' 0 s (66 + p) 2 = 2 := h2
    rw [eb] at h0 h1 h2
    skip
    have ex : m_tx (M' 19 p) x y = x * y := by unfold m_tx; rw [if_neg h0, if_neg h1, if_neg h2]
    have ey : m_ty (M' 19 p) x y = x + y := by unfold m_ty; rw [if_neg h0, if_neg h1, if_neg h2]
    rw [ex, ey] at hK
    exact ⟨M', F, B, n, M' 18 p, _, _, _, s, k, rfl, rfl, hnum, henv, hW, cd va, hs, hk, hE, fun R hR r hr => hK R hR r hr⟩
end LT
end
section
/-! ===== the class's telling, whole ===== -/
section LU
variable {l : Launch} {D : va_G} {G : aG} {N0 : Nat} {E : Nat}
def sp_X2_tellStripes : aP := fun as σ K => ∃ M F B p x s, σ = a_mk (l_p M 0 s) F B ∧ as = [.inr (some 0), .inr (some (66 + p)), .inl x] ∧ p < 60 ∧ B (66 + p) = true ∧ M (66 + p) 1 = M 18 p ∧ M (66 + p) 2 = M 19 p ∧ M (66 + p) 3 = M 20 p ∧
  ∀ R : tR, R = (if M 20 p = 0 then ((1, 0, s) : tR) else (0, if a_rem (x / M 20 p) 2 = 0 then M 18 p else M 19 p, s)) → ∀ r : Int32, (R.1 = 0 → r = R.2.1) → K (some (.inl r)) (a_mk (l_p M R.1 R.2.2) F B)
theorem rc_X2_tellStripes : ∀ as σ K, sp_X2_tellStripes as σ K → ∃ h As, as = .inr (some h) :: As ∧ a_is σ h 2 10 = true := by
  rintro as σ K ⟨M, F, B, p, x, s, rfl, rfl, -⟩
  exact ⟨0, _, rfl, rfl⟩
def P_X2_tellStripes (K : aK) (bc bs : Nat) : List (Nat × aT) := [(0, t_ald 1 1),
  (1, t_geti 1 7 3 4),
  (4, t_if (fun x => x = 0) 7 13),
  (7, t_ald 0 8),
  (8, t_ic 1 9),
  (9, t_call 2 0 0 bc bs sp_X2_fail 12),
  (12, t_iret K bc bs),
  (13, t_ild 2 14),
  (14, t_ald 1 15),
  (15, t_geti 1 7 3 18),
  (18, t_div 19),
  (19, t_ic 2 20),
  (20, t_rem 21),
  (21, t_if (fun x => x = 0) 24 31),
  (24, t_ald 1 25),
  (25, t_geti 1 7 1 28),
  (28, t_goto 35),
  (31, t_ald 1 32),
  (32, t_geti 1 7 2 35),
  (35, t_iret K bc bs)]
set_option maxRecDepth 100000 in
theorem S_X2_tellStripes {X : a_X} {K : aK} {l : Launch} {D : va_G} {G : aG} {N0 : Nat} (C : a_C X cX2_tellStripes (some .int) RX2) (Y : a_Y X l (a_rm 2 0 0) D G N0) (M : a_mq X K (a_rm 2 0 0).cells (a_rm 2 0 0).slots) : ∀ x ∈ P_X2_tellStripes K 0 0, a_Sd X x.1 x.2 := by
  unfold P_X2_tellStripes
  refine List.forall_mem_cons.mpr ⟨s_aldn C dX2_tellStripes_0 rfl, ?_⟩
  refine List.forall_mem_cons.mpr ⟨s_geti C rfl in_X1 (by decide) lk_X2_140 rfl dX2_tellStripes_1, ?_⟩
  refine List.forall_mem_cons.mpr ⟨s_if_ne C dX2_tellStripes_4 (by decide), ?_⟩
  refine List.forall_mem_cons.mpr ⟨s_aldn C dX2_tellStripes_7 rfl, ?_⟩
  refine List.forall_mem_cons.mpr ⟨s_ic C dX2_tellStripes_8 (by decide), ?_⟩
  refine List.forall_mem_cons.mpr ⟨s_callV (rm := (a_rm 1 0 0)) (n := 1) C Y (ci := 2) rfl con_X2_fail rc_X2_fail co_X2_fail ml_X2_121 im_X2_fail se_X2_fail ii_X2 (by decide +kernel) ⟨by decide, by decide⟩ ⟨rfl, rfl⟩ dX2_tellStripes_9, ?_⟩
  refine List.forall_mem_cons.mpr ⟨s_iret C M dX2_tellStripes_12, ?_⟩
  refine List.forall_mem_cons.mpr ⟨s_ildn C dX2_tellStripes_13 rfl, ?_⟩
  refine List.forall_mem_cons.mpr ⟨s_aldn C dX2_tellStripes_14 rfl, ?_⟩
  refine List.forall_mem_cons.mpr ⟨s_geti C rfl in_X1 (by decide) lk_X2_140 rfl dX2_tellStripes_15, ?_⟩
  refine List.forall_mem_cons.mpr ⟨s_div C dX2_tellStripes_18, ?_⟩
  refine List.forall_mem_cons.mpr ⟨s_ic C dX2_tellStripes_19 (by decide), ?_⟩
  refine List.forall_mem_cons.mpr ⟨s_rem C dX2_tellStripes_20, ?_⟩
  refine List.forall_mem_cons.mpr ⟨s_if_ne C dX2_tellStripes_21 (by decide), ?_⟩
  refine List.forall_mem_cons.mpr ⟨s_aldn C dX2_tellStripes_24 rfl, ?_⟩
  refine List.forall_mem_cons.mpr ⟨s_geti C rfl in_X1 (by decide) lk_X2_127 rfl dX2_tellStripes_25, ?_⟩
  refine List.forall_mem_cons.mpr ⟨s_goto C dX2_tellStripes_28 (by decide), ?_⟩
  refine List.forall_mem_cons.mpr ⟨s_aldn C dX2_tellStripes_31 rfl, ?_⟩
  refine List.forall_mem_cons.mpr ⟨s_geti C rfl in_X1 (by decide) lk_X2_137 rfl dX2_tellStripes_32, ?_⟩
  refine List.forall_mem_cons.mpr ⟨s_iret C M dX2_tellStripes_35, ?_⟩
  exact fun _ h => absurd h List.not_mem_nil
set_option maxRecDepth 20000 in
theorem con_X2_tellStripes : a_Con l D G N0 yX2_tellStripes cX2_tellStripes 3 (some .int) (a_rm 2 0 0) sp_X2_tellStripes := by
  refine a_con (by decide) (fun as σ K h => by obtain ⟨M, F, B, p, x, s, rfl, rfl, -⟩ := h; exact Nat.le_refl _) ?_
  intro X as σ K h C Y M _
  obtain ⟨M', F, B, p, x, s, rfl, rfl, hp, hB, e1, e2, e3, hK⟩ := h
  have hi : ∀ I, a_is (a_mk I F B) (66 + p) 1 7 = true := fun I => l_is (by omega) (by omega) hB
  have f1 : l_p M' 0 s (66 + p) 1 = M' 18 p := by rw [lp_g (by decide), e1]
  have f2 : l_p M' 0 s (66 + p) 2 = M' 19 p := by rw [lp_g (by decide), e2]
  have f3 : l_p M' 0 s (66 + p) 3 = M' 20 p := by rw [lp_g (by decide), e3]
  refine a_wps (S_X2_tellStripes C Y M) (inv := a_ni) a_nih 40 _ _ _ _ _ _ ?_
  refine a_gi (hi _) ⟨fun h => ?_, fun h => ?_⟩
  · have h : l_p M' 0 s (66 + p) 3 = 0 := h
    rw [f3] at h
    have hK2 := hK (1, 0, s) (if_pos h).symm 0 (fun w => absurd w z_1)
    have hK2 : K (some (.inl 0)) (a_mk (l_p M' 1 s) F B) := hK2
    rw [← lp_6 (f := 0)] at hK2
    exact ⟨_, F, B, 1, rfl, rfl, hK2⟩
  · have h : ¬ l_p M' 0 s (66 + p) 3 = 0 := h
    refine a_gi (hi _) ⟨h, by decide, fun h2 => a_gi (hi _) ?_, fun h2 => a_gi (hi _) ?_⟩
    · have h2 : a_rem (x / l_p M' 0 s (66 + p) 3) 2 = 0 := h2
      have hK2 := hK _ (if_neg (by rw [← f3]; exact h)).symm (M' 18 p) (fun _ => by rw [if_pos (by rw [← f3]; exact h2)])
      rw [← f1] at hK2
      exact hK2
    · have h2 : ¬ a_rem (x / l_p M' 0 s (66 + p) 3) 2 = 0 := h2
      have hK2 := hK _ (if_neg (by rw [← f3]; exact h)).symm (M' 19 p) (fun _ => by rw [if_neg (by rw [← f3]; exact h2)])
      rw [← f2] at hK2
      exact hK2
def sp_X2_tellTwill : aP := fun as σ K => ∃ M F B p x y s, σ = a_mk (l_p M 0 s) F B ∧ as = [.inr (some 0), .inr (some (66 + p)), .inl x, .inl y] ∧ p < 60 ∧ B (66 + p) = true ∧ M (66 + p) 1 = M 18 p ∧ M (66 + p) 2 = M 19 p ∧ M (66 + p) 3 = M 20 p ∧
  ∀ R : tR, R = (if M 19 p = 0 then ((1, 0, s) : tR) else (0, a_rem (x + M 18 p * y) (M 19 p) + M 20 p, s)) → ∀ r : Int32, (R.1 = 0 → r = R.2.1) → K (some (.inl r)) (a_mk (l_p M R.1 R.2.2) F B)
theorem rc_X2_tellTwill : ∀ as σ K, sp_X2_tellTwill as σ K → ∃ h As, as = .inr (some h) :: As ∧ a_is σ h 2 10 = true := by
  rintro as σ K ⟨M, F, B, p, x, y, s, rfl, rfl, -⟩
  exact ⟨0, _, rfl, rfl⟩
def P_X2_tellTwill (K : aK) (bc bs : Nat) : List (Nat × aT) := [(0, t_ald 1 1),
  (1, t_geti 1 7 2 4),
  (4, t_if (fun x => x = 0) 7 13),
  (7, t_ald 0 8),
  (8, t_ic 1 9),
  (9, t_call 2 0 0 bc bs sp_X2_fail 12),
  (12, t_iret K bc bs),
  (13, t_ild 2 14),
  (14, t_ald 1 15),
  (15, t_geti 1 7 1 18),
  (18, t_ild 3 19),
  (19, t_mul 20),
  (20, t_add 21),
  (21, t_ald 1 22),
  (22, t_geti 1 7 2 25),
  (25, t_rem 26),
  (26, t_ald 1 27),
  (27, t_geti 1 7 3 30),
  (30, t_add 31),
  (31, t_iret K bc bs)]
set_option maxRecDepth 100000 in
theorem S_X2_tellTwill {X : a_X} {K : aK} {l : Launch} {D : va_G} {G : aG} {N0 : Nat} (C : a_C X cX2_tellTwill (some .int) RX2) (Y : a_Y X l (a_rm 2 0 0) D G N0) (M : a_mq X K (a_rm 2 0 0).cells (a_rm 2 0 0).slots) : ∀ x ∈ P_X2_tellTwill K 0 0, a_Sd X x.1 x.2 := by
  unfold P_X2_tellTwill
  refine List.forall_mem_cons.mpr ⟨s_aldn C dX2_tellTwill_0 rfl, ?_⟩
  refine List.forall_mem_cons.mpr ⟨s_geti C rfl in_X1 (by decide) lk_X2_137 rfl dX2_tellTwill_1, ?_⟩
  refine List.forall_mem_cons.mpr ⟨s_if_ne C dX2_tellTwill_4 (by decide), ?_⟩
  refine List.forall_mem_cons.mpr ⟨s_aldn C dX2_tellTwill_7 rfl, ?_⟩
  refine List.forall_mem_cons.mpr ⟨s_ic C dX2_tellTwill_8 (by decide), ?_⟩
  refine List.forall_mem_cons.mpr ⟨s_callV (rm := (a_rm 1 0 0)) (n := 1) C Y (ci := 2) rfl con_X2_fail rc_X2_fail co_X2_fail ml_X2_121 im_X2_fail se_X2_fail ii_X2 (by decide +kernel) ⟨by decide, by decide⟩ ⟨rfl, rfl⟩ dX2_tellTwill_9, ?_⟩
  refine List.forall_mem_cons.mpr ⟨s_iret C M dX2_tellTwill_12, ?_⟩
  refine List.forall_mem_cons.mpr ⟨s_ildn C dX2_tellTwill_13 rfl, ?_⟩
  refine List.forall_mem_cons.mpr ⟨s_aldn C dX2_tellTwill_14 rfl, ?_⟩
  refine List.forall_mem_cons.mpr ⟨s_geti C rfl in_X1 (by decide) lk_X2_127 rfl dX2_tellTwill_15, ?_⟩
  refine List.forall_mem_cons.mpr ⟨s_ildn C dX2_tellTwill_18 rfl, ?_⟩
  refine List.forall_mem_cons.mpr ⟨s_mul C dX2_tellTwill_19, ?_⟩
  refine List.forall_mem_cons.mpr ⟨s_add C dX2_tellTwill_20, ?_⟩
  refine List.forall_mem_cons.mpr ⟨s_aldn C dX2_tellTwill_21 rfl, ?_⟩
  refine List.forall_mem_cons.mpr ⟨s_geti C rfl in_X1 (by decide) lk_X2_137 rfl dX2_tellTwill_22, ?_⟩
  refine List.forall_mem_cons.mpr ⟨s_rem C dX2_tellTwill_25, ?_⟩
  refine List.forall_mem_cons.mpr ⟨s_aldn C dX2_tellTwill_26 rfl, ?_⟩
  refine List.forall_mem_cons.mpr ⟨s_geti C rfl in_X1 (by decide) lk_X2_140 rfl dX2_tellTwill_27, ?_⟩
  refine List.forall_mem_cons.mpr ⟨s_add C dX2_tellTwill_30, ?_⟩
  refine List.forall_mem_cons.mpr ⟨s_iret C M dX2_tellTwill_31, ?_⟩
  exact fun _ h => absurd h List.not_mem_nil
set_option maxRecDepth 20000 in
theorem con_X2_tellTwill : a_Con l D G N0 yX2_tellTwill cX2_tellTwill 4 (some .int) (a_rm 2 0 0) sp_X2_tellTwill := by
  refine a_con (by decide) (fun as σ K h => by obtain ⟨M, F, B, p, x, y, s, rfl, rfl, -⟩ := h; exact Nat.le_refl _) ?_
  intro X as σ K h C Y M _
  obtain ⟨M', F, B, p, x, y, s, rfl, rfl, hp, hB, e1, e2, e3, hK⟩ := h
  have hi : ∀ I, a_is (a_mk I F B) (66 + p) 1 7 = true := fun I => l_is (by omega) (by omega) hB
  have f1 : l_p M' 0 s (66 + p) 1 = M' 18 p := by rw [lp_g (by decide), e1]
  have f2 : l_p M' 0 s (66 + p) 2 = M' 19 p := by rw [lp_g (by decide), e2]
  have f3 : l_p M' 0 s (66 + p) 3 = M' 20 p := by rw [lp_g (by decide), e3]
  refine a_wps (S_X2_tellTwill C Y M) (inv := a_ni) a_nih 40 _ _ _ _ _ _ ?_
  refine a_gi (hi _) ⟨fun h => ?_, fun h => ?_⟩
  · have h : l_p M' 0 s (66 + p) 2 = 0 := h
    rw [f2] at h
    have hK2 := hK (1, 0, s) (if_pos h).symm 0 (fun w => absurd w z_1)
    have hK2 : K (some (.inl 0)) (a_mk (l_p M' 1 s) F B) := hK2
    rw [← lp_6 (f := 0)] at hK2
    exact ⟨_, F, B, 1, rfl, rfl, hK2⟩
  · have h : ¬ l_p M' 0 s (66 + p) 2 = 0 := h
    have hK2 := hK _ (if_neg (by rw [← f2]; exact h)).symm _ (fun _ => rfl)
    have hK2 : K (some (.inl (a_rem (x + M' 18 p * y) (M' 19 p) + M' 20 p))) (a_mk (l_p M' 0 s) F B) := hK2
    rw [← f1, ← f2, ← f3] at hK2
    exact a_gi (hi _) (a_gi (hi _) ⟨h, a_gi (hi _) hK2⟩)
def sp_X2_colourOf : aP := fun as σ K => ∃ I F B h i, σ = a_mk I F B ∧ as = [.inr (some 0), .inr (some h), .inl i] ∧ a_is σ h 4 8 = true ∧ (m_in i 0 7 = 0 → K (some (.inl 0)) (a_mk (a_w I 0 6 2) F B)) ∧ (¬ m_in i 0 7 = 0 → K (some (.inl (I h i.toNatClampNeg))) σ)
theorem rc_X2_colourOf : ∀ as σ K, sp_X2_colourOf as σ K → ∃ h As, as = .inr (some h) :: As ∧ a_is σ h 2 10 = true := by
  rintro as σ K ⟨I, F, B, h, i, rfl, rfl, -⟩
  exact ⟨0, _, rfl, rfl⟩
theorem l_lt7 (v : Int32) : ¬ v < (8 : Int32) ↔ (7 : Int32) < v := by
  rw [Int32.not_lt]
  exact l_iff3 v 7 (by decide)
def P_X2_colourOf (K : aK) (bc bs : Nat) : List (Nat × aT) := [(0, t_ald 1 1),
  (1, t_ifnull 14 4),
  (4, t_ild 2 5),
  (5, t_if (fun x => x < 0) 14 8),
  (8, t_ild 2 9),
  (9, t_ald 1 10),
  (10, t_alen 11),
  (11, t_ifc (fun x y => x < y) 20 14),
  (14, t_ald 0 15),
  (15, t_ic 2 16),
  (16, t_call 2 0 0 bc bs sp_X2_fail 19),
  (19, t_iret K bc bs),
  (20, t_ald 1 21),
  (21, t_ild 2 22),
  (22, t_iald 23),
  (23, t_iret K bc bs)]
set_option maxRecDepth 100000 in
theorem S_X2_colourOf {X : a_X} {K : aK} {l : Launch} {D : va_G} {G : aG} {N0 : Nat} (C : a_C X cX2_colourOf (some .int) RX2) (Y : a_Y X l (a_rm 2 0 0) D G N0) (M : a_mq X K (a_rm 2 0 0).cells (a_rm 2 0 0).slots) : ∀ x ∈ P_X2_colourOf K 0 0, a_Sd X x.1 x.2 := by
  unfold P_X2_colourOf
  refine List.forall_mem_cons.mpr ⟨s_aldn C dX2_colourOf_0 rfl, ?_⟩
  refine List.forall_mem_cons.mpr ⟨s_ifnull C dX2_colourOf_1 (by decide), ?_⟩
  refine List.forall_mem_cons.mpr ⟨s_ildn C dX2_colourOf_4 rfl, ?_⟩
  refine List.forall_mem_cons.mpr ⟨s_if_lt C dX2_colourOf_5 (by decide), ?_⟩
  refine List.forall_mem_cons.mpr ⟨s_ildn C dX2_colourOf_8 rfl, ?_⟩
  refine List.forall_mem_cons.mpr ⟨s_aldn C dX2_colourOf_9 rfl, ?_⟩
  refine List.forall_mem_cons.mpr ⟨s_alen C dX2_colourOf_10, ?_⟩
  refine List.forall_mem_cons.mpr ⟨s_icmp_lt C dX2_colourOf_11 (by decide), ?_⟩
  refine List.forall_mem_cons.mpr ⟨s_aldn C dX2_colourOf_14 rfl, ?_⟩
  refine List.forall_mem_cons.mpr ⟨s_ic C dX2_colourOf_15 (by decide), ?_⟩
  refine List.forall_mem_cons.mpr ⟨s_callV (rm := (a_rm 1 0 0)) (n := 1) C Y (ci := 2) rfl con_X2_fail rc_X2_fail co_X2_fail ml_X2_121 im_X2_fail se_X2_fail ii_X2 (by decide +kernel) ⟨by decide, by decide⟩ ⟨rfl, rfl⟩ dX2_colourOf_16, ?_⟩
  refine List.forall_mem_cons.mpr ⟨s_iret C M dX2_colourOf_19, ?_⟩
  refine List.forall_mem_cons.mpr ⟨s_aldn C dX2_colourOf_20 rfl, ?_⟩
  refine List.forall_mem_cons.mpr ⟨s_ildn C dX2_colourOf_21 rfl, ?_⟩
  refine List.forall_mem_cons.mpr ⟨s_iald C dX2_colourOf_22, ?_⟩
  refine List.forall_mem_cons.mpr ⟨s_iret C M dX2_colourOf_23, ?_⟩
  exact fun _ h => absurd h List.not_mem_nil
set_option maxRecDepth 20000 in
theorem con_X2_colourOf : a_Con l D G N0 yX2_colourOf cX2_colourOf 3 (some .int) (a_rm 2 0 0) sp_X2_colourOf := by
  refine a_con (by decide) (fun as σ K h => by obtain ⟨I, F, B, h, i, rfl, rfl, -⟩ := h; exact Nat.le_refl _) ?_
  intro X as σ K h C Y M _
  obtain ⟨I, F, B, hh, i, rfl, rfl, his, hK0, hK1⟩ := h
  obtain ⟨g1, g2, g3⟩ := a_isE his
  have hA : a_isA (a_mk I F B) hh 4 = true := by
    show (a_LV B hh && (kd hh).1 == 4) = true
    rw [g2, show a_LV B hh = true from g1]
    rfl
  refine a_wps (S_X2_colourOf C Y M) (inv := a_ni) a_nih 40 _ _ _ _ _ _ ?_
  refine ⟨fun w => (by cases w), fun _ => ⟨fun h1 => ?_, fun h1 => a_gi hA ⟨fun h2 => ?_, fun h2 => ?_⟩⟩⟩
  · exact ⟨_, F, B, 2, rfl, rfl, hK0 (if_pos h1)⟩
  · have h2 : i < Int32.ofNat (kd hh).2 := h2
    rw [g3] at h2
    have hin : ¬ m_in i 0 7 = 0 := by
      unfold m_in
      rw [if_neg h1, if_neg (fun w => (l_lt7 i).mpr w h2)]
      decide
    obtain ⟨j, hj, rfl⟩ := m_in_n (b := 7) (by decide) hin
    exact a_gi hA ⟨by rw [g3]; exact vp_in_nI (by omega) (by decide), hK1 hin⟩
  · have h2 : ¬ i < Int32.ofNat (kd hh).2 := h2
    rw [g3] at h2
    have hin : m_in i 0 7 = 0 := by
      unfold m_in
      rw [if_neg h1, if_pos ((l_lt7 i).mp h2)]
    exact ⟨_, F, B, 2, rfl, rfl, hK0 hin⟩
theorem l_dy {I : Nat → Nat → Int32} {F : Nat → Nat → Option Nat} {B : Nat → Bool} {d : Nat} (hd : d < 4) : a_is (a_mk I F B) (6 + d) 4 8 = true := by
  rcases (show d = 0 ∨ d = 1 ∨ d = 2 ∨ d = 3 by omega) with rfl | rfl | rfl | rfl <;> rfl
theorem l_fr {I : Nat → Nat → Int32} {F : Nat → Nat → Option Nat} {B : Nat → Bool} {p : Nat} (hB : B (128 + p) = true) : a_is (a_mk I F B) (128 + p) 4 8 = true := by
  have e : kd (128 + p) = (4, 8) := by
    unfold kd
    rw [if_neg (by omega), if_neg (by omega)]
  show (a_LV B (128 + p) && ((kd (128 + p)).1 == 4 && (kd (128 + p)).2 == 8)) = true
  rw [l_lv (by omega) hB, e]
  rfl
theorem l_SR {F : Nat → Nat → Option Nat} {h k : Nat} (h1 : 17 ≤ h) : a_SR F h k = F h k := by
  unfold a_SR
  rw [if_neg (by omega), if_neg (by omega), if_neg (by omega), if_neg (by omega)]
def sp_X2_tellDyed (E : Nat) : aP := l_g E (fun v => v = 7 ∨ v = 8) (fun M rc p x y s => (if M 17 p = 7 then t_dyed (fun v => M 24 (8 * M 19 p + v).toNatClampNeg) (rc (M 18 p) x y s) else t_dyed (fun v => M 21 (8 * nI p + v).toNatClampNeg) (rc (M 18 p) x y s)))
theorem rc_X2_tellDyed {E : Nat} : ∀ as σ K, sp_X2_tellDyed E as σ K → ∃ h As, as = .inr (some h) :: As ∧ a_is σ h 2 10 = true := l_grc
def P_X2_tellDyed {E : Nat} (K : aK) (bc bs : Nat) : List (Nat × aT) := [(0, t_ald 0 1),
  (1, t_ald 0 2),
  (2, t_ald 1 3),
  (3, t_geti 1 7 1 6),
  (6, t_call 2 0 0 bc bs sp_X2_numbered 9),
  (9, t_ild 2 10),
  (10, t_ild 3 11),
  (11, t_call 4 0 0 bc bs (sp_X2_tell E) 14),
  (14, t_ist 4 16),
  (16, t_ald 0 17),
  (17, t_geti 2 10 6 20),
  (20, t_if (fun x => x = 0) 25 23),
  (23, t_ic 0 24),
  (24, t_iret K bc bs),
  (25, t_ald 0 26),
  (26, t_ald 1 27),
  (27, t_getr 1 7 4 30),
  (30, t_ild 4 32),
  (32, t_call 3 0 0 bc bs sp_X2_colourOf 35),
  (35, t_iret K bc bs)]
set_option maxRecDepth 100000 in
theorem S_X2_tellDyed {E : Nat} {X : a_X} {K : aK} {l : Launch} {D : va_G} {G : aG} {N0 : Nat} (C : a_C X cX2_tellDyed (some .int) RX2) (Y : a_Y X l (rm_X2_tellX E) D G N0) (M : a_mq X K (rm_X2_tellX E).cells (rm_X2_tellX E).slots) (hT : a_Con l D G N0 yX2_tell cX2_tell 4 (some .int) (rm_X2_tell E) (sp_X2_tell E)) : ∀ x ∈ P_X2_tellDyed (E := E) K 0 0, a_Sd X x.1 x.2 := by
  unfold P_X2_tellDyed
  refine List.forall_mem_cons.mpr ⟨s_aldn C dX2_tellDyed_0 rfl, ?_⟩
  refine List.forall_mem_cons.mpr ⟨s_aldn C dX2_tellDyed_1 rfl, ?_⟩
  refine List.forall_mem_cons.mpr ⟨s_aldn C dX2_tellDyed_2 rfl, ?_⟩
  refine List.forall_mem_cons.mpr ⟨s_geti C rfl in_X1 (by decide) lk_X2_127 rfl dX2_tellDyed_3, ?_⟩
  refine List.forall_mem_cons.mpr ⟨s_callV (rm := (a_rm 2 0 0)) (n := 1) C Y (ci := 2) rfl con_X2_numbered rc_X2_numbered co_X2_numbered ml_X2_66 im_X2_numbered se_X2_numbered ii_X2 (by decide +kernel) (a_hr (by omega) (by decide)) ⟨rfl, rfl⟩ dX2_tellDyed_6, ?_⟩
  refine List.forall_mem_cons.mpr ⟨s_ildn C dX2_tellDyed_9 rfl, ?_⟩
  refine List.forall_mem_cons.mpr ⟨s_ildn C dX2_tellDyed_10 rfl, ?_⟩
  refine List.forall_mem_cons.mpr ⟨s_callV (rm := (rm_X2_tell E)) (n := 3) C Y (ci := 2) rfl hT rc_X2_tell co_X2_tell ml_X2_118 im_X2_tell se_X2_tell ii_X2 (by decide +kernel) (a_hr (by omega) (by decide)) ⟨rfl, rfl⟩ dX2_tellDyed_11, ?_⟩
  refine List.forall_mem_cons.mpr ⟨s_ist C dX2_tellDyed_14, ?_⟩
  refine List.forall_mem_cons.mpr ⟨s_aldn C dX2_tellDyed_16 rfl, ?_⟩
  refine List.forall_mem_cons.mpr ⟨s_geti C rfl in_X2 (by decide) lk_X2_76 rfl dX2_tellDyed_17, ?_⟩
  refine List.forall_mem_cons.mpr ⟨s_if_eq C dX2_tellDyed_20 (by decide), ?_⟩
  refine List.forall_mem_cons.mpr ⟨s_ic C dX2_tellDyed_23 (by decide), ?_⟩
  refine List.forall_mem_cons.mpr ⟨s_iret C M dX2_tellDyed_24, ?_⟩
  refine List.forall_mem_cons.mpr ⟨s_aldn C dX2_tellDyed_25 rfl, ?_⟩
  refine List.forall_mem_cons.mpr ⟨s_aldn C dX2_tellDyed_26 rfl, ?_⟩
  refine List.forall_mem_cons.mpr ⟨s_getr C rfl in_X1 (by decide) lk_X2_168 rfl dX2_tellDyed_27, ?_⟩
  refine List.forall_mem_cons.mpr ⟨s_ild C dX2_tellDyed_30, ?_⟩
  refine List.forall_mem_cons.mpr ⟨s_callV (rm := (a_rm 2 0 0)) (n := 2) C Y (ci := 2) rfl con_X2_colourOf rc_X2_colourOf co_X2_colourOf ml_X2_171 im_X2_colourOf se_X2_colourOf ii_X2 (by decide +kernel) (a_hr (by omega) (by decide)) ⟨rfl, rfl⟩ dX2_tellDyed_32, ?_⟩
  refine List.forall_mem_cons.mpr ⟨s_iret C M dX2_tellDyed_35, ?_⟩
  exact fun _ h => absurd h List.not_mem_nil
set_option maxRecDepth 20000 in
theorem con_X2_tellDyed (hT : a_Con l D G N0 yX2_tell cX2_tell 4 (some .int) (rm_X2_tell E) (sp_X2_tell E)) : a_Con l D G N0 yX2_tellDyed cX2_tellDyed 5 (some .int) (rm_X2_tellX E) (sp_X2_tellDyed E) := by
  refine a_con (by decide) (fun as σ K h => by rw [l_gl h]; decide) ?_
  intro X as σ K h C Y M _
  obtain ⟨M', F, B, n, p, x, y, s, k, rfl, rfl, henv, hW, hp, hso, hs, hk, hE, hK⟩ := h
  have hK : ∀ R : tR, R = (if M' 17 p = 7 then t_dyed (fun v => M' 24 (8 * M' 19 p + v).toNatClampNeg) ((tt_T M' E) (M' 18 p) x y s) else t_dyed (fun v => M' 21 (8 * nI p + v).toNatClampNeg) ((tt_T M' E) (M' 18 p) x y s)) → ∀ r : Int32, (R.1 = 0 → r = R.2.1) → K (some (.inl r)) (a_mk (l_p M' R.1 R.2.2) F B) := hK
  have hp60 : p < 60 := Nat.lt_of_lt_of_le hp henv.1.1
  obtain ⟨d1, d2, d3, d4, d5, d6, d7, d8, d9⟩ := id henv.2
  obtain ⟨hB, e0, e1, e2, e3⟩ := d3 p hp
  obtain ⟨so, hs13, hsoo, hva, hvb, hvc, hvd, hvn, hvo⟩ := henv.1.2.1 p hp
  have hi : ∀ I, a_is (a_mk I F B) (66 + p) 1 7 = true := fun I => l_is (by omega) (by omega) hB
  have cd : ∀ {a : Int32}, m_vc n a → m_cd n a := fun h => Or.inr (Or.inr (Or.inr h))
  have hso2 : so = 7 ∨ so = 8 := hso.elim (fun z => Or.inl ((nI_eq (by omega) (by decide)).mp (hsoo.symm.trans z))) (fun z => Or.inr ((nI_eq (by omega) (by decide)).mp (hsoo.symm.trans z)))
  have va : m_vc n (M' 18 p) := hva (by omega) (by omega) (by omega)
  refine a_wps (S_X2_tellDyed C Y M hT) (inv := a_ni) a_nih 60 _ _ _ _ _ _ ?_
  refine a_gi (hi _) ⟨_, F, B, n, _, rfl, rfl, d1, henv.1.1, M', F, B, n, M' 18 p, _, x, y, s, k, rfl, rfl, ?_, henv, hW, cd va, hs, hk, hE, fun R hR r hr => ?_⟩
  · show (if m_in (l_p M' 0 s (66 + p) 1) 0 (nI n - 1) = 0 then none else F 3 (l_p M' 0 s (66 + p) 1).toNatClampNeg) = _
    rw [lp_g (by decide), e1]
    exact l_num henv.1.1 d2 va
  · rw [← hR] at hK
    by_cases hz : R.1 = 0
    · have hrv := hr hz
      by_cases h7 : M' 17 p = 7
      · have hs7 : so = 7 := (nI_eq (by omega) (by decide)).mp (hsoo.symm.trans h7)
        obtain ⟨d, hd, ed⟩ := hvd (Or.inl hs7)
        have hrow := d4 p hp h7 d hd ed
        refine ⟨fun _ => a_gi (hi _) ⟨_, F, B, 6 + d, r, rfl, ?_, l_dy hd, fun hin => ?_, fun hin => ?_⟩, fun w => absurd hz w⟩
        · show [Sum.inr (some 0), Sum.inr (a_SR F (66 + p) 4), Sum.inl r] = _
          rw [l_SR (by omega), hrow]
        · have hK2 := hK (2, 0, R.2.2) (by rw [if_pos h7]; unfold t_dyed; rw [if_pos hz, if_pos (by rw [← hrv]; exact hin)]) 0 (fun w => absurd w z_2)
          have hK2 : K (some (.inl 0)) (a_mk (l_p M' 2 R.2.2) F B) := hK2
          rw [← lp_6 (f := R.1)] at hK2
          exact hK2
        · obtain ⟨j, hj, ej⟩ := m_in_n (b := 7) (by decide) hin
          have hK2 := hK (0, M' 24 (8 * M' 19 p + R.2.1).toNatClampNeg, R.2.2) (by rw [if_pos h7]; unfold t_dyed; rw [if_pos hz, if_neg (by rw [← hrv]; exact hin)]) (l_p M' R.1 R.2.2 (6 + d) r.toNatClampNeg) (fun _ => by
            rw [lp_o (by omega) (by omega), ← hrv, ed, ej, a_8 (by omega) (by omega), show (nI j).toNatClampNeg = j from nI_clamp (by omega), show (nI (8 * d + j)).toNatClampNeg = 8 * d + j from nI_clamp (by omega)]
            exact d8 d hd j (by omega))
          have hK2 : K (some (.inl (l_p M' R.1 R.2.2 (6 + d) r.toNatClampNeg))) (a_mk (l_p M' 0 R.2.2) F B) := hK2
          have e9 : l_p M' 0 R.2.2 = l_p M' R.1 R.2.2 := by rw [hz]
          rw [e9] at hK2
          exact hK2
      · have h8 : M' 17 p = 8 := hso.elim (fun z => absurd z h7) id
        obtain ⟨hrow, hBr, hkp⟩ := d5 p hp h8
        refine ⟨fun _ => a_gi (hi _) ⟨_, F, B, 128 + p, r, rfl, ?_, l_fr hBr, fun hin => ?_, fun hin => ?_⟩, fun w => absurd hz w⟩
        · show [Sum.inr (some 0), Sum.inr (a_SR F (66 + p) 4), Sum.inl r] = _
          rw [l_SR (by omega), hrow]
        · have hK2 := hK (2, 0, R.2.2) (by rw [if_neg h7]; unfold t_dyed; rw [if_pos hz, if_pos (by rw [← hrv]; exact hin)]) 0 (fun w => absurd w z_2)
          have hK2 : K (some (.inl 0)) (a_mk (l_p M' 2 R.2.2) F B) := hK2
          rw [← lp_6 (f := R.1)] at hK2
          exact hK2
        · obtain ⟨j, hj, ej⟩ := m_in_n (b := 7) (by decide) hin
          have hK2 := hK (0, M' 21 (8 * nI p + R.2.1).toNatClampNeg, R.2.2) (by rw [if_neg h7]; unfold t_dyed; rw [if_pos hz, if_neg (by rw [← hrv]; exact hin)]) (l_p M' R.1 R.2.2 (128 + p) r.toNatClampNeg) (fun _ => by
            rw [lp_o (by omega) (by omega), ← hrv, ej, a_8 (by omega) (by omega), show (nI j).toNatClampNeg = j from nI_clamp (by omega), show (nI (8 * p + j)).toNatClampNeg = 8 * p + j from nI_clamp (by omega)]
            exact hkp j (by omega))
          have hK2 : K (some (.inl (l_p M' R.1 R.2.2 (128 + p) r.toNatClampNeg))) (a_mk (l_p M' 0 R.2.2) F B) := hK2
          have e9 : l_p M' 0 R.2.2 = l_p M' R.1 R.2.2 := by rw [hz]
          rw [e9] at hK2
          exact hK2
    · have hK2 := hK R (by
        by_cases h7 : M' 17 p = 7
        · rw [if_pos h7]; exact (if_neg hz).symm
        · rw [if_neg h7]; exact (if_neg hz).symm) 0 (fun w => absurd w hz)
      exact ⟨fun w => absurd w hz, fun _ => hK2⟩
end LU
end
section
/-! ===== tell, tellPlace, ask ===== -/
section LV
variable {l : Launch} {D : va_G} {G : aG} {N0 : Nat}
def P_X2_tell {E : Nat} (K : aK) (bc bs : Nat) : List (Nat × aT) := [(0, t_ald 0 1),
  (1, t_geti 2 10 7 4),
  (4, t_ic 100 6),
  (6, t_ifc (fun x y => x < y) 15 9),
  (9, t_ald 0 10),
  (10, t_ic 4 11),
  (11, t_call 2 0 0 bc bs sp_X2_fail 14),
  (14, t_iret K bc bs),
  (15, t_ald 0 16),
  (16, t_dup 17),
  (17, t_geti 2 10 7 20),
  (20, t_ic 1 21),
  (21, t_add 22),
  (22, t_puti 2 10 7 25),
  (25, t_ald 1 26),
  (26, t_ifnn 35 29),
  (29, t_ald 0 30),
  (30, t_ic 3 31),
  (31, t_call 2 0 0 bc bs sp_X2_fail 34),
  (34, t_iret K bc bs),
  (35, t_ald 1 36),
  (36, t_geti 1 7 0 39),
  (39, t_sw [(0, 116), (1, 121), (2, 128), (3, 136), (4, 161), (5, 169), (6, 177), (7, 185), (8, 185), (9, 193), (10, 213), (11, 221), (12, 229), (13, 237), (14, 248), (15, 254)] 266),
  (116, t_ald 1 117),
  (117, t_geti 1 7 1 120),
  (120, t_iret K bc bs),
  (121, t_ald 0 122),
  (122, t_ald 1 123),
  (123, t_ild 2 124),
  (124, t_call 3 0 0 bc bs sp_X2_tellStripes 127),
  (127, t_iret K bc bs),
  (128, t_ald 0 129),
  (129, t_ald 1 130),
  (130, t_ild 2 131),
  (131, t_ild 3 132),
  (132, t_call 4 0 0 bc bs sp_X2_tellTwill 135),
  (135, t_iret K bc bs),
  (136, t_ald 0 137),
  (137, t_ald 0 138),
  (138, t_ald 1 139),
  (139, t_geti 1 7 1 142),
  (142, t_call 2 0 0 bc bs sp_X2_numbered 145),
  (145, t_ild 2 146),
  (146, t_ald 1 147),
  (147, t_geti 1 7 2 150),
  (150, t_sub 151),
  (151, t_ild 3 152),
  (152, t_ald 1 153),
  (153, t_geti 1 7 3 156),
  (156, t_sub 157),
  (157, t_call 4 0 0 bc bs (sp_X2_tell E) 160),
  (160, t_iret K bc bs),
  (161, t_ald 0 162),
  (162, t_ald 1 163),
  (163, t_ild 2 164),
  (164, t_ild 3 165),
  (165, t_call 4 0 0 bc bs (sp_X2_tellTurned E) 168),
  (168, t_iret K bc bs),
  (169, t_ald 0 170),
  (170, t_ald 1 171),
  (171, t_ild 2 172),
  (172, t_ild 3 173),
  (173, t_call 4 0 0 bc bs (sp_X2_tellOver E) 176),
  (176, t_iret K bc bs),
  (177, t_ald 0 178),
  (178, t_ald 1 179),
  (179, t_ild 2 180),
  (180, t_ild 3 181),
  (181, t_call 4 0 0 bc bs (sp_X2_tellWhere E) 184),
  (184, t_iret K bc bs),
  (185, t_ald 0 186),
  (186, t_ald 1 187),
  (187, t_ild 2 188),
  (188, t_ild 3 189),
  (189, t_call 4 0 0 bc bs (sp_X2_tellDyed E) 192),
  (192, t_iret K bc bs),
  (193, t_ald 0 194),
  (194, t_ald 0 195),
  (195, t_ald 1 196),
  (196, t_geti 1 7 1 199),
  (199, t_call 2 0 0 bc bs sp_X2_named 202),
  (202, t_ild 2 203),
  (203, t_ild 3 204),
  (204, t_call 4 0 0 bc bs (sp_X2_tell E) 207),
  (207, t_ald 1 208),
  (208, t_geti 1 7 2 211),
  (211, t_add 212),
  (212, t_iret K bc bs),
  (213, t_ald 0 214),
  (214, t_ald 1 215),
  (215, t_ild 2 216),
  (216, t_ild 3 217),
  (217, t_call 4 0 0 bc bs (sp_X2_tellWorn E) 220),
  (220, t_iret K bc bs),
  (221, t_ald 0 222),
  (222, t_ald 1 223),
  (223, t_ild 2 224),
  (224, t_ild 3 225),
  (225, t_call 4 0 0 bc bs (sp_X2_tellBoth E) 228),
  (228, t_iret K bc bs),
  (229, t_ald 0 230),
  (230, t_ald 1 231),
  (231, t_ild 2 232),
  (232, t_ild 3 233),
  (233, t_call 4 0 0 bc bs (sp_X2_tellSafe E) 236),
  (236, t_iret K bc bs),
  (237, t_ald 0 238),
  (238, t_ald 1 239),
  (239, t_getr 1 7 5 242),
  (242, t_ild 2 243),
  (243, t_ild 3 244),
  (244, t_call 4 0 0 bc bs (sp_X2_tell E) 247),
  (247, t_iret K bc bs),
  (248, t_ild 2 249),
  (249, t_ild 3 250),
  (250, t_add 251),
  (251, t_ic 2 252),
  (252, t_rem 253),
  (253, t_iret K bc bs),
  (254, t_ald 0 255),
  (255, t_ald 1 256),
  (256, t_getr 1 7 4 259),
  (259, t_ild 2 260),
  (260, t_call 3 0 0 bc bs sp_X2_colourOf 263),
  (263, t_ild 3 264),
  (264, t_add 265),
  (265, t_iret K bc bs),
  (266, t_ic 0 267),
  (267, t_iret K bc bs)]
set_option maxRecDepth 100000 in
theorem S_X2_tell {E : Nat} {X : a_X} {K : aK} {l : Launch} {D : va_G} {G : aG} {N0 : Nat} (C : a_C X cX2_tell (some .int) RX2) (Y : a_Y X l (rm_X2_tell (E + 1)) D G N0) (M : a_mq X K (rm_X2_tell (E + 1)).cells (rm_X2_tell (E + 1)).slots) (hT : a_Con l D G N0 yX2_tell cX2_tell 4 (some .int) (rm_X2_tell E) (sp_X2_tell E)) : ∀ x ∈ P_X2_tell (E := E) K 0 0, a_Sd X x.1 x.2 := by
  unfold P_X2_tell
  refine List.forall_mem_cons.mpr ⟨s_aldn C dX2_tell_0 rfl, ?_⟩
  refine List.forall_mem_cons.mpr ⟨s_geti C rfl in_X2 (by decide) lk_X2_106 rfl dX2_tell_1, ?_⟩
  refine List.forall_mem_cons.mpr ⟨s_bi C dX2_tell_4 (by decide), ?_⟩
  refine List.forall_mem_cons.mpr ⟨s_icmp_lt C dX2_tell_6 (by decide), ?_⟩
  refine List.forall_mem_cons.mpr ⟨s_aldn C dX2_tell_9 rfl, ?_⟩
  refine List.forall_mem_cons.mpr ⟨s_ic C dX2_tell_10 (by decide), ?_⟩
  refine List.forall_mem_cons.mpr ⟨s_callV (rm := (a_rm 1 0 0)) (n := 1) C Y (ci := 2) rfl con_X2_fail rc_X2_fail co_X2_fail ml_X2_121 im_X2_fail se_X2_fail ii_X2 (by decide +kernel) (a_hr (by omega) (by decide)) ⟨rfl, rfl⟩ dX2_tell_11, ?_⟩
  refine List.forall_mem_cons.mpr ⟨s_iret C M dX2_tell_14, ?_⟩
  refine List.forall_mem_cons.mpr ⟨s_aldn C dX2_tell_15 rfl, ?_⟩
  refine List.forall_mem_cons.mpr ⟨s_dup C dX2_tell_16, ?_⟩
  refine List.forall_mem_cons.mpr ⟨s_geti C rfl in_X2 (by decide) lk_X2_106 rfl dX2_tell_17, ?_⟩
  refine List.forall_mem_cons.mpr ⟨s_ic C dX2_tell_20 (by decide), ?_⟩
  refine List.forall_mem_cons.mpr ⟨s_add C dX2_tell_21, ?_⟩
  refine List.forall_mem_cons.mpr ⟨s_puti C tyX2 tyX2_ok nmX2 rfl in_X2 (by decide) lk_X2_106 rfl (Or.inl rfl) rfl dX2_tell_22, ?_⟩
  refine List.forall_mem_cons.mpr ⟨s_aldn C dX2_tell_25 rfl, ?_⟩
  refine List.forall_mem_cons.mpr ⟨s_ifnn C dX2_tell_26 (by decide), ?_⟩
  refine List.forall_mem_cons.mpr ⟨s_aldn C dX2_tell_29 rfl, ?_⟩
  refine List.forall_mem_cons.mpr ⟨s_ic C dX2_tell_30 (by decide), ?_⟩
  refine List.forall_mem_cons.mpr ⟨s_callV (rm := (a_rm 1 0 0)) (n := 1) C Y (ci := 2) rfl con_X2_fail rc_X2_fail co_X2_fail ml_X2_121 im_X2_fail se_X2_fail ii_X2 (by decide +kernel) (a_hr (by omega) (by decide)) ⟨rfl, rfl⟩ dX2_tell_31, ?_⟩
  refine List.forall_mem_cons.mpr ⟨s_iret C M dX2_tell_34, ?_⟩
  refine List.forall_mem_cons.mpr ⟨s_aldn C dX2_tell_35 rfl, ?_⟩
  refine List.forall_mem_cons.mpr ⟨s_geti C rfl in_X1 (by decide) lk_X2_124 rfl dX2_tell_36, ?_⟩
  refine List.forall_mem_cons.mpr ⟨s_tsw C dX2_tell_39 (a_tok_of2 15 (by decide) (by decide) (by decide) (by decide)), ?_⟩
  refine List.forall_mem_cons.mpr ⟨s_aldn C dX2_tell_116 rfl, ?_⟩
  refine List.forall_mem_cons.mpr ⟨s_geti C rfl in_X1 (by decide) lk_X2_127 rfl dX2_tell_117, ?_⟩
  refine List.forall_mem_cons.mpr ⟨s_iret C M dX2_tell_120, ?_⟩
  refine List.forall_mem_cons.mpr ⟨s_aldn C dX2_tell_121 rfl, ?_⟩
  refine List.forall_mem_cons.mpr ⟨s_aldn C dX2_tell_122 rfl, ?_⟩
  refine List.forall_mem_cons.mpr ⟨s_ildn C dX2_tell_123 rfl, ?_⟩
  refine List.forall_mem_cons.mpr ⟨s_callV (rm := (a_rm 2 0 0)) (n := 2) C Y (ci := 2) rfl con_X2_tellStripes rc_X2_tellStripes co_X2_tellStripes ml_X2_130 im_X2_tellStripes se_X2_tellStripes ii_X2 (by decide +kernel) (a_hr (by omega) (by decide)) ⟨rfl, rfl⟩ dX2_tell_124, ?_⟩
  refine List.forall_mem_cons.mpr ⟨s_iret C M dX2_tell_127, ?_⟩
  refine List.forall_mem_cons.mpr ⟨s_aldn C dX2_tell_128 rfl, ?_⟩
  refine List.forall_mem_cons.mpr ⟨s_aldn C dX2_tell_129 rfl, ?_⟩
  refine List.forall_mem_cons.mpr ⟨s_ildn C dX2_tell_130 rfl, ?_⟩
  refine List.forall_mem_cons.mpr ⟨s_ildn C dX2_tell_131 rfl, ?_⟩
  refine List.forall_mem_cons.mpr ⟨s_callV (rm := (a_rm 2 0 0)) (n := 3) C Y (ci := 2) rfl con_X2_tellTwill rc_X2_tellTwill co_X2_tellTwill ml_X2_134 im_X2_tellTwill se_X2_tellTwill ii_X2 (by decide +kernel) (a_hr (by omega) (by decide)) ⟨rfl, rfl⟩ dX2_tell_132, ?_⟩
  refine List.forall_mem_cons.mpr ⟨s_iret C M dX2_tell_135, ?_⟩
  refine List.forall_mem_cons.mpr ⟨s_aldn C dX2_tell_136 rfl, ?_⟩
  refine List.forall_mem_cons.mpr ⟨s_aldn C dX2_tell_137 rfl, ?_⟩
  refine List.forall_mem_cons.mpr ⟨s_aldn C dX2_tell_138 rfl, ?_⟩
  refine List.forall_mem_cons.mpr ⟨s_geti C rfl in_X1 (by decide) lk_X2_127 rfl dX2_tell_139, ?_⟩
  refine List.forall_mem_cons.mpr ⟨s_callV (rm := (a_rm 2 0 0)) (n := 1) C Y (ci := 2) rfl con_X2_numbered rc_X2_numbered co_X2_numbered ml_X2_66 im_X2_numbered se_X2_numbered ii_X2 (by decide +kernel) (a_hr (by omega) (by decide)) ⟨rfl, rfl⟩ dX2_tell_142, ?_⟩
  refine List.forall_mem_cons.mpr ⟨s_ildn C dX2_tell_145 rfl, ?_⟩
  refine List.forall_mem_cons.mpr ⟨s_aldn C dX2_tell_146 rfl, ?_⟩
  refine List.forall_mem_cons.mpr ⟨s_geti C rfl in_X1 (by decide) lk_X2_137 rfl dX2_tell_147, ?_⟩
  refine List.forall_mem_cons.mpr ⟨s_sub C dX2_tell_150, ?_⟩
  refine List.forall_mem_cons.mpr ⟨s_ildn C dX2_tell_151 rfl, ?_⟩
  refine List.forall_mem_cons.mpr ⟨s_aldn C dX2_tell_152 rfl, ?_⟩
  refine List.forall_mem_cons.mpr ⟨s_geti C rfl in_X1 (by decide) lk_X2_140 rfl dX2_tell_153, ?_⟩
  refine List.forall_mem_cons.mpr ⟨s_sub C dX2_tell_156, ?_⟩
  refine List.forall_mem_cons.mpr ⟨s_callV (rm := (rm_X2_tell E)) (n := 3) C Y (ci := 2) rfl hT rc_X2_tell co_X2_tell ml_X2_118 im_X2_tell se_X2_tell ii_X2 (by decide +kernel) (a_hr (by omega) (by decide)) ⟨rfl, rfl⟩ dX2_tell_157, ?_⟩
  refine List.forall_mem_cons.mpr ⟨s_iret C M dX2_tell_160, ?_⟩
  refine List.forall_mem_cons.mpr ⟨s_aldn C dX2_tell_161 rfl, ?_⟩
  refine List.forall_mem_cons.mpr ⟨s_aldn C dX2_tell_162 rfl, ?_⟩
  refine List.forall_mem_cons.mpr ⟨s_ildn C dX2_tell_163 rfl, ?_⟩
  refine List.forall_mem_cons.mpr ⟨s_ildn C dX2_tell_164 rfl, ?_⟩
  refine List.forall_mem_cons.mpr ⟨s_callV (rm := (rm_X2_tellX E)) (n := 3) C Y (ci := 2) rfl (con_X2_tellTurned hT) rc_X2_tellTurned co_X2_tellTurned ml_X2_143 im_X2_tellTurned se_X2_tellTurned ii_X2 (by decide +kernel) (a_hr (by omega) (by decide)) ⟨rfl, rfl⟩ dX2_tell_165, ?_⟩
  refine List.forall_mem_cons.mpr ⟨s_iret C M dX2_tell_168, ?_⟩
  refine List.forall_mem_cons.mpr ⟨s_aldn C dX2_tell_169 rfl, ?_⟩
  refine List.forall_mem_cons.mpr ⟨s_aldn C dX2_tell_170 rfl, ?_⟩
  refine List.forall_mem_cons.mpr ⟨s_ildn C dX2_tell_171 rfl, ?_⟩
  refine List.forall_mem_cons.mpr ⟨s_ildn C dX2_tell_172 rfl, ?_⟩
  refine List.forall_mem_cons.mpr ⟨s_callV (rm := (rm_X2_tellX E)) (n := 3) C Y (ci := 2) rfl (con_X2_tellOver hT) rc_X2_tellOver co_X2_tellOver ml_X2_146 im_X2_tellOver se_X2_tellOver ii_X2 (by decide +kernel) (a_hr (by omega) (by decide)) ⟨rfl, rfl⟩ dX2_tell_173, ?_⟩
  refine List.forall_mem_cons.mpr ⟨s_iret C M dX2_tell_176, ?_⟩
  refine List.forall_mem_cons.mpr ⟨s_aldn C dX2_tell_177 rfl, ?_⟩
  refine List.forall_mem_cons.mpr ⟨s_aldn C dX2_tell_178 rfl, ?_⟩
  refine List.forall_mem_cons.mpr ⟨s_ildn C dX2_tell_179 rfl, ?_⟩
  refine List.forall_mem_cons.mpr ⟨s_ildn C dX2_tell_180 rfl, ?_⟩
  refine List.forall_mem_cons.mpr ⟨s_callV (rm := (rm_X2_tellX E)) (n := 3) C Y (ci := 2) rfl (con_X2_tellWhere hT) rc_X2_tellWhere co_X2_tellWhere ml_X2_149 im_X2_tellWhere se_X2_tellWhere ii_X2 (by decide +kernel) (a_hr (by omega) (by decide)) ⟨rfl, rfl⟩ dX2_tell_181, ?_⟩
  refine List.forall_mem_cons.mpr ⟨s_iret C M dX2_tell_184, ?_⟩
  refine List.forall_mem_cons.mpr ⟨s_aldn C dX2_tell_185 rfl, ?_⟩
  refine List.forall_mem_cons.mpr ⟨s_aldn C dX2_tell_186 rfl, ?_⟩
  refine List.forall_mem_cons.mpr ⟨s_ildn C dX2_tell_187 rfl, ?_⟩
  refine List.forall_mem_cons.mpr ⟨s_ildn C dX2_tell_188 rfl, ?_⟩
  refine List.forall_mem_cons.mpr ⟨s_callV (rm := (rm_X2_tellX E)) (n := 3) C Y (ci := 2) rfl (con_X2_tellDyed hT) rc_X2_tellDyed co_X2_tellDyed ml_X2_152 im_X2_tellDyed se_X2_tellDyed ii_X2 (by decide +kernel) (a_hr (by omega) (by decide)) ⟨rfl, rfl⟩ dX2_tell_189, ?_⟩
  refine List.forall_mem_cons.mpr ⟨s_iret C M dX2_tell_192, ?_⟩
  refine List.forall_mem_cons.mpr ⟨s_aldn C dX2_tell_193 rfl, ?_⟩
  refine List.forall_mem_cons.mpr ⟨s_aldn C dX2_tell_194 rfl, ?_⟩
  refine List.forall_mem_cons.mpr ⟨s_aldn C dX2_tell_195 rfl, ?_⟩
  refine List.forall_mem_cons.mpr ⟨s_geti C rfl in_X1 (by decide) lk_X2_127 rfl dX2_tell_196, ?_⟩
  refine List.forall_mem_cons.mpr ⟨s_callV (rm := (a_rm 2 0 0)) (n := 1) C Y (ci := 2) rfl con_X2_named rc_X2_named co_X2_named ml_X2_52 im_X2_named se_X2_named ii_X2 (by decide +kernel) (a_hr (by omega) (by decide)) ⟨rfl, rfl⟩ dX2_tell_199, ?_⟩
  refine List.forall_mem_cons.mpr ⟨s_ildn C dX2_tell_202 rfl, ?_⟩
  refine List.forall_mem_cons.mpr ⟨s_ildn C dX2_tell_203 rfl, ?_⟩
  refine List.forall_mem_cons.mpr ⟨s_callV (rm := (rm_X2_tell E)) (n := 3) C Y (ci := 2) rfl hT rc_X2_tell co_X2_tell ml_X2_118 im_X2_tell se_X2_tell ii_X2 (by decide +kernel) (a_hr (by omega) (by decide)) ⟨rfl, rfl⟩ dX2_tell_204, ?_⟩
  refine List.forall_mem_cons.mpr ⟨s_aldn C dX2_tell_207 rfl, ?_⟩
  refine List.forall_mem_cons.mpr ⟨s_geti C rfl in_X1 (by decide) lk_X2_137 rfl dX2_tell_208, ?_⟩
  refine List.forall_mem_cons.mpr ⟨s_add C dX2_tell_211, ?_⟩
  refine List.forall_mem_cons.mpr ⟨s_iret C M dX2_tell_212, ?_⟩
  refine List.forall_mem_cons.mpr ⟨s_aldn C dX2_tell_213 rfl, ?_⟩
  refine List.forall_mem_cons.mpr ⟨s_aldn C dX2_tell_214 rfl, ?_⟩
  refine List.forall_mem_cons.mpr ⟨s_ildn C dX2_tell_215 rfl, ?_⟩
  refine List.forall_mem_cons.mpr ⟨s_ildn C dX2_tell_216 rfl, ?_⟩
  refine List.forall_mem_cons.mpr ⟨s_callV (rm := (rm_X2_tellX E)) (n := 3) C Y (ci := 2) rfl (con_X2_tellWorn hT) rc_X2_tellWorn co_X2_tellWorn ml_X2_155 im_X2_tellWorn se_X2_tellWorn ii_X2 (by decide +kernel) (a_hr (by omega) (by decide)) ⟨rfl, rfl⟩ dX2_tell_217, ?_⟩
  refine List.forall_mem_cons.mpr ⟨s_iret C M dX2_tell_220, ?_⟩
  refine List.forall_mem_cons.mpr ⟨s_aldn C dX2_tell_221 rfl, ?_⟩
  refine List.forall_mem_cons.mpr ⟨s_aldn C dX2_tell_222 rfl, ?_⟩
  refine List.forall_mem_cons.mpr ⟨s_ildn C dX2_tell_223 rfl, ?_⟩
  refine List.forall_mem_cons.mpr ⟨s_ildn C dX2_tell_224 rfl, ?_⟩
  refine List.forall_mem_cons.mpr ⟨s_callV (rm := (rm_X2_tellX E)) (n := 3) C Y (ci := 2) rfl (con_X2_tellBoth hT) rc_X2_tellBoth co_X2_tellBoth ml_X2_158 im_X2_tellBoth se_X2_tellBoth ii_X2 (by decide +kernel) (a_hr (by omega) (by decide)) ⟨rfl, rfl⟩ dX2_tell_225, ?_⟩
  refine List.forall_mem_cons.mpr ⟨s_iret C M dX2_tell_228, ?_⟩
  refine List.forall_mem_cons.mpr ⟨s_aldn C dX2_tell_229 rfl, ?_⟩
  refine List.forall_mem_cons.mpr ⟨s_aldn C dX2_tell_230 rfl, ?_⟩
  refine List.forall_mem_cons.mpr ⟨s_ildn C dX2_tell_231 rfl, ?_⟩
  refine List.forall_mem_cons.mpr ⟨s_ildn C dX2_tell_232 rfl, ?_⟩
  refine List.forall_mem_cons.mpr ⟨s_callV (rm := (rm_X2_tellX E)) (n := 3) C Y (ci := 2) rfl (con_X2_tellSafe hT) rc_X2_tellSafe co_X2_tellSafe ml_X2_161 im_X2_tellSafe se_X2_tellSafe ii_X2 (by decide +kernel) (a_hr (by omega) (by decide)) ⟨rfl, rfl⟩ dX2_tell_233, ?_⟩
  refine List.forall_mem_cons.mpr ⟨s_iret C M dX2_tell_236, ?_⟩
  refine List.forall_mem_cons.mpr ⟨s_aldn C dX2_tell_237 rfl, ?_⟩
  refine List.forall_mem_cons.mpr ⟨s_aldn C dX2_tell_238 rfl, ?_⟩
  refine List.forall_mem_cons.mpr ⟨s_getr C rfl in_X1 (by decide) lk_X2_164 rfl dX2_tell_239, ?_⟩
  refine List.forall_mem_cons.mpr ⟨s_ildn C dX2_tell_242 rfl, ?_⟩
  refine List.forall_mem_cons.mpr ⟨s_ildn C dX2_tell_243 rfl, ?_⟩
  refine List.forall_mem_cons.mpr ⟨s_callV (rm := (rm_X2_tell E)) (n := 3) C Y (ci := 2) rfl hT rc_X2_tell co_X2_tell ml_X2_118 im_X2_tell se_X2_tell ii_X2 (by decide +kernel) (a_hr (by omega) (by decide)) ⟨rfl, rfl⟩ dX2_tell_244, ?_⟩
  refine List.forall_mem_cons.mpr ⟨s_iret C M dX2_tell_247, ?_⟩
  refine List.forall_mem_cons.mpr ⟨s_ildn C dX2_tell_248 rfl, ?_⟩
  refine List.forall_mem_cons.mpr ⟨s_ildn C dX2_tell_249 rfl, ?_⟩
  refine List.forall_mem_cons.mpr ⟨s_add C dX2_tell_250, ?_⟩
  refine List.forall_mem_cons.mpr ⟨s_ic C dX2_tell_251 (by decide), ?_⟩
  refine List.forall_mem_cons.mpr ⟨s_rem C dX2_tell_252, ?_⟩
  refine List.forall_mem_cons.mpr ⟨s_iret C M dX2_tell_253, ?_⟩
  refine List.forall_mem_cons.mpr ⟨s_aldn C dX2_tell_254 rfl, ?_⟩
  refine List.forall_mem_cons.mpr ⟨s_aldn C dX2_tell_255 rfl, ?_⟩
  refine List.forall_mem_cons.mpr ⟨s_getr C rfl in_X1 (by decide) lk_X2_168 rfl dX2_tell_256, ?_⟩
  refine List.forall_mem_cons.mpr ⟨s_ildn C dX2_tell_259 rfl, ?_⟩
  refine List.forall_mem_cons.mpr ⟨s_callV (rm := (a_rm 2 0 0)) (n := 2) C Y (ci := 2) rfl con_X2_colourOf rc_X2_colourOf co_X2_colourOf ml_X2_171 im_X2_colourOf se_X2_colourOf ii_X2 (by decide +kernel) (a_hr (by omega) (by decide)) ⟨rfl, rfl⟩ dX2_tell_260, ?_⟩
  refine List.forall_mem_cons.mpr ⟨s_ildn C dX2_tell_263 rfl, ?_⟩
  refine List.forall_mem_cons.mpr ⟨s_add C dX2_tell_264, ?_⟩
  refine List.forall_mem_cons.mpr ⟨s_iret C M dX2_tell_265, ?_⟩
  refine List.forall_mem_cons.mpr ⟨s_ic C dX2_tell_266 (by decide), ?_⟩
  refine List.forall_mem_cons.mpr ⟨s_iret C M dX2_tell_267, ?_⟩
  exact fun _ h => absurd h List.not_mem_nil
set_option maxRecDepth 20000 in
set_option maxHeartbeats 4000000 in
theorem con_X2_tell_s {E : Nat} (hT : a_Con l D G N0 yX2_tell cX2_tell 4 (some .int) (rm_X2_tell E) (sp_X2_tell E)) : a_Con l D G N0 yX2_tell cX2_tell 4 (some .int) (rm_X2_tell (E + 1)) (sp_X2_tell (E + 1)) := by
  refine a_con (by decide) (fun as σ K h => by obtain ⟨M, F, B, n, c, r0, x, y, s, k, rfl, rfl, -⟩ := h; exact Nat.le_refl _) ?_
  intro X as σ K h C Y M _
  obtain ⟨M', F, B, n, c, r0, x, y, s, k, rfl, rfl, hr0, henv, hW, hc, hs, hk, hE, hK⟩ := h
  have hS := S_X2_tell C Y M hT
  obtain ⟨d1, d2, d3, d4, d5, d6, d7, d8, b64, b65, m64, m65, f65⟩ := id henv.2
  have cd : ∀ {a : Int32}, m_vc n a → m_cd n a := fun h => Or.inr (Or.inr (Or.inr h))
  by_cases h100 : 100 ≤ s.1
  · have hT1 : tt_T M' (E + 1) c x y s = (4, 0, s) := if_pos h100
    have hK2 := hK _ hT1.symm 0 (fun w => absurd w z_4)
    have hK2 : K (some (.inl 0)) (a_mk (l_p M' 4 s) F B) := hK2
    rw [← lp_6 (f := 0)] at hK2
    refine a_wps hS (inv := a_iv X [25]) a_ivh 60 _ _ _ _ _ _ ?_
    exact ⟨fun w => absurd w (Int32.not_lt.mpr h100), fun _ => ⟨_, F, B, 4, rfl, rfl, hK2⟩⟩
  have hk2 : k < 100 := by
    rcases Nat.lt_or_ge k 100 with z | z
    · exact z
    · exact absurd (by rw [hs]; exact nI_le (a := 100) z (by omega)) h100
  have hT1 : tt_T M' (E + 1) c x y s = t_b M' (tt_T M' E) c x y (s.1 + 1, s.2) := if_neg h100
  rw [hT1] at hK
  clear hT1
  have hs1 : ((s.1 + 1, s.2) : tS).1 = nI (k + 1) := by show s.1 + 1 = _; rw [hs, nI_1]
  have hW1 : l_W M' n (s.1 + 1, s.2) := hW
  suffices tail : a_J X 25 [some (.inr (some 0)), some (.inr r0), some (.inl x), some (.inl y)] [] (a_mk (l_p M' 0 (s.1 + 1, s.2)) F B) 0 0 by
    rw [← lp_7] at tail
    refine a_wps hS (inv := a_iv X [25]) a_ivh 60 _ _ _ _ _ _ ?_
    exact ⟨fun _ => tail, fun w => absurd (Int32.not_le.mp h100) w⟩
  generalize ((s.1 + 1, s.2) : tS) = S at hs1 hW1 hK ⊢
  clear hs hW h100
  rcases hc with rfl | rfl | rfl | ⟨p, hp, rfl⟩
  · have hr0 : r0 = none := hr0.trans (if_pos rfl)
    subst hr0
    have hK2 := hK (3, 0, S) (if_pos rfl).symm 0 (fun w => absurd w z_3)
    have hK2 : K (some (.inl 0)) (a_mk (l_p M' 3 S) F B) := hK2
    rw [← lp_6 (f := 0)] at hK2
    exact a_wp1 hS a_ivh (inv := a_iv X [25]) 60 25 _ rfl ⟨fun w => absurd rfl w, fun _ => ⟨_, F, B, 3, rfl, rfl, hK2⟩⟩
  · have hr0 : r0 = some 64 := hr0.trans (by unfold l_ref; rw [if_neg (by decide), if_pos rfl])
    subst hr0
    have hK2 := hK (0, a_rem (x + y) 2, S) (by unfold t_b; rw [if_neg (by decide), if_pos rfl]) _ (fun _ => rfl)
    have h14 : l_p M' 0 S 64 0 = 14 := m64
    exact a_wp1 hS a_ivh (inv := a_iv X [25]) 60 25 _ rfl ⟨fun _ => a_gi (l_is (by decide) (by decide) b64) ⟨fun w => absurd (h14.symm.trans w) (by decide), fun _ => ⟨fun w => absurd (h14.symm.trans w) (by decide), fun _ => ⟨fun w => absurd (h14.symm.trans w) (by decide), fun _ => ⟨fun w => absurd (h14.symm.trans w) (by decide), fun _ => ⟨fun w => absurd (h14.symm.trans w) (by decide), fun _ => ⟨fun w => absurd (h14.symm.trans w) (by decide), fun _ => ⟨fun w => absurd (h14.symm.trans w) (by decide), fun _ => ⟨fun w => absurd (h14.symm.trans w) (by decide), fun _ => ⟨fun w => absurd (h14.symm.trans w) (by decide), fun _ => ⟨fun w => absurd (h14.symm.trans w) (by decide), fun _ => ⟨fun w => absurd (h14.symm.trans w) (by decide), fun _ => ⟨fun w => absurd (h14.symm.trans w) (by decide), fun _ => ⟨fun w => absurd (h14.symm.trans w) (by decide), fun _ => ⟨fun w => absurd (h14.symm.trans w) (by decide), fun _ => ⟨fun _ => ⟨by decide, hK2⟩, fun w => absurd h14 w⟩⟩⟩⟩⟩⟩⟩⟩⟩⟩⟩⟩⟩⟩⟩, fun w => absurd w (fun z => by cases z)⟩
  · have hr0 : r0 = some 65 := hr0.trans (by unfold l_ref; rw [if_neg (by decide), if_neg (by decide), if_pos rfl])
    subst hr0
    have h15 : l_p M' 0 S 65 0 = 15 := m65
    refine a_wp1 hS a_ivh (inv := a_iv X [25]) 60 25 _ rfl ⟨fun _ => a_gi (l_is (by decide) (by decide) b65) ⟨fun w => absurd (h15.symm.trans w) (by decide), fun _ => ⟨fun w => absurd (h15.symm.trans w) (by decide), fun _ => ⟨fun w => absurd (h15.symm.trans w) (by decide), fun _ => ⟨fun w => absurd (h15.symm.trans w) (by decide), fun _ => ⟨fun w => absurd (h15.symm.trans w) (by decide), fun _ => ⟨fun w => absurd (h15.symm.trans w) (by decide), fun _ => ⟨fun w => absurd (h15.symm.trans w) (by decide), fun _ => ⟨fun w => absurd (h15.symm.trans w) (by decide), fun _ => ⟨fun w => absurd (h15.symm.trans w) (by decide), fun _ => ⟨fun w => absurd (h15.symm.trans w) (by decide), fun _ => ⟨fun w => absurd (h15.symm.trans w) (by decide), fun _ => ⟨fun w => absurd (h15.symm.trans w) (by decide), fun _ => ⟨fun w => absurd (h15.symm.trans w) (by decide), fun _ => ⟨fun w => absurd (h15.symm.trans w) (by decide), fun _ => ⟨fun w => absurd (h15.symm.trans w) (by decide), fun _ => ⟨fun _ => a_gi (l_is (by decide) (by decide) b65) ⟨_, F, B, 6, x, rfl, ?_, l_dy (d := 0) (by decide), fun hin => ?_, fun hin => ?_⟩, fun w => absurd h15 w⟩⟩⟩⟩⟩⟩⟩⟩⟩⟩⟩⟩⟩⟩⟩⟩, fun w => absurd w (fun z => by cases z)⟩
    · show [Sum.inr (some 0), Sum.inr (F 65 4), Sum.inl x] = _
      rw [f65]
    · have hK2 := hK (2, 0, S) (by unfold t_b; rw [if_neg (by decide), if_neg (by decide), if_pos rfl, if_pos hin]) (0 + y) (fun w => absurd w z_2)
      have hK2 : K (some (.inl (0 + y))) (a_mk (l_p M' 2 S) F B) := hK2
      rw [← lp_6 (f := 0)] at hK2
      exact hK2
    · obtain ⟨j, hj, ej⟩ := m_in_n (b := 7) (by decide) hin
      have hK2 := hK (0, M' 24 x.toNatClampNeg + y, S) (by unfold t_b; rw [if_neg (by decide), if_neg (by decide), if_pos rfl, if_neg hin]) (l_p M' 0 S 6 x.toNatClampNeg + y) (fun _ => by
        rw [lp_o (by decide) (by decide), ej, show (nI j).toNatClampNeg = j from nI_clamp (by omega), d8 0 (by decide) j (by omega)]
        simp)
      exact hK2
  · have hp60 : p < 60 := Nat.lt_of_lt_of_le hp henv.1.1
    have hr0 : r0 = some (66 + p) := hr0.trans (l_ref_p hp60)
    subst hr0
    obtain ⟨hB, e0, e1, e2, e3⟩ := d3 p hp
    obtain ⟨so, hs13, hsoo, hva, hvb, hvc, hvd, hvn, hvo⟩ := henv.1.2.1 p hp
    have hi : ∀ I, a_is (a_mk I F B) (66 + p) 1 7 = true := fun I => l_is (by omega) (by omega) hB
    have f0 : l_p M' 0 S (66 + p) 0 = M' 17 p := by rw [lp_g (by decide), e0]
    have f1 : l_p M' 0 S (66 + p) 1 = M' 18 p := by rw [lp_g (by decide), e1]
    have f2 : l_p M' 0 S (66 + p) 2 = M' 19 p := by rw [lp_g (by decide), e2]
    have f3 : l_p M' 0 S (66 + p) 3 = M' 20 p := by rw [lp_g (by decide), e3]
    have hb : t_b M' (tt_T M' E) (nI p) x y S = t_s M' (tt_T M' E) p x y S := by
      unfold t_b
      rw [if_neg (nI_neg (by omega) (by decide)), if_neg (nI_neg (by omega) (by decide)), if_neg (nI_neg (by omega) (by decide)), w_pc hp60]
    rw [hb] at hK
    clear hb
    have ne : ∀ j : Nat, j ≤ 13 → so ≠ j → ¬ M' 17 p = nI j := fun j hj hn e => hn ((nI_eq (by omega) (by omega)).mp (hsoo.symm.trans e))
    refine a_wp1 hS a_ivh (inv := a_iv X [25]) 60 25 _ rfl ⟨fun _ => a_gi (hi _) ?_, fun w => absurd w (fun z => by cases z)⟩
    rcases (show so = 0 ∨ so = 1 ∨ so = 2 ∨ so = 3 ∨ so = 4 ∨ so = 5 ∨ so = 6 ∨ so = 7 ∨ so = 8 ∨ so = 9 ∨ so = 10 ∨ so = 11 ∨ so = 12 ∨ so = 13 by omega) with rfl | rfl | rfl | rfl | rfl | rfl | rfl | rfl | rfl | rfl | rfl | rfl | rfl | rfl
    · have hj : M' 17 p = 0 := hsoo
      have hj0 : l_p M' 0 S (66 + p) 0 = 0 := f0.trans hj
      rw [show t_s M' (tt_T M' E) p x y S = _ by unfold t_s; rw [if_pos hj]] at hK
      refine ⟨fun _ => a_gi (hi _) ?_, fun w => absurd hj0 w⟩
      have hK2 := hK _ rfl (M' 18 p) (fun _ => rfl)
      rw [← f1] at hK2
      exact hK2
    · have hj : M' 17 p = 1 := hsoo
      have hj0 : l_p M' 0 S (66 + p) 0 = 1 := f0.trans hj
      have n0 : ¬ M' 17 p = 0 := ne 0 (by omega) (by omega)
      rw [show t_s M' (tt_T M' E) p x y S = _ by unfold t_s; rw [if_neg n0, if_pos hj]] at hK
      refine ⟨fun w => absurd (hj0.symm.trans w) (by decide), fun _ => ⟨fun _ => ⟨M', F, B, p, x, S, rfl, rfl, hp60, hB, e1, e2, e3, hK⟩, fun w => absurd hj0 w⟩⟩
    · have hj : M' 17 p = 2 := hsoo
      have hj0 : l_p M' 0 S (66 + p) 0 = 2 := f0.trans hj
      have n0 : ¬ M' 17 p = 0 := ne 0 (by omega) (by omega)
      have n1 : ¬ M' 17 p = 1 := ne 1 (by omega) (by omega)
      rw [show t_s M' (tt_T M' E) p x y S = _ by unfold t_s; rw [if_neg n0, if_neg n1, if_pos hj]] at hK
      refine ⟨fun w => absurd (hj0.symm.trans w) (by decide), fun _ => ⟨fun w => absurd (hj0.symm.trans w) (by decide), fun _ => ⟨fun _ => ⟨M', F, B, p, x, y, S, rfl, rfl, hp60, hB, e1, e2, e3, hK⟩, fun w => absurd hj0 w⟩⟩⟩
    · have hj : M' 17 p = 3 := hsoo
      have hj0 : l_p M' 0 S (66 + p) 0 = 3 := f0.trans hj
      have n0 : ¬ M' 17 p = 0 := ne 0 (by omega) (by omega)
      have n1 : ¬ M' 17 p = 1 := ne 1 (by omega) (by omega)
      have n2 : ¬ M' 17 p = 2 := ne 2 (by omega) (by omega)
      rw [show t_s M' (tt_T M' E) p x y S = _ by unfold t_s; rw [if_neg n0, if_neg n1, if_neg n2, if_pos hj]] at hK
      have va : m_vc n (M' 18 p) := hva (by omega) (by omega) (by omega)
      refine ⟨fun w => absurd (hj0.symm.trans w) (by decide), fun _ => ⟨fun w => absurd (hj0.symm.trans w) (by decide), fun _ => ⟨fun w => absurd (hj0.symm.trans w) (by decide), fun _ => ⟨fun _ => a_gi (hi _) ⟨_, F, B, n, _, rfl, rfl, d1, henv.1.1, a_gi (hi _) (a_gi (hi _) ⟨M', F, B, n, M' 18 p, _, _, _, S, k + 1, rfl, rfl, ?_, henv, hW1, cd va, hs1, by omega, by omega, fun R hR r hr => ?_⟩)⟩, fun w => absurd hj0 w⟩⟩⟩⟩
      · show (if m_in (l_p M' 0 S (66 + p) 1) 0 (nI n - 1) = 0 then none else F 3 (l_p M' 0 S (66 + p) 1).toNatClampNeg) = _
        rw [f1]
        exact l_num henv.1.1 d2 va
      · refine hK R ?_ r hr
        rw [hR]
        show tt_T M' E (M' 18 p) (x - l_p M' 0 S (66 + p) 2) (y - l_p M' 0 S (66 + p) 3) S = _
        rw [f2, f3]
    · have hj : M' 17 p = 4 := hsoo
      have hj0 : l_p M' 0 S (66 + p) 0 = 4 := f0.trans hj
      have n0 : ¬ M' 17 p = 0 := ne 0 (by omega) (by omega)
      have n1 : ¬ M' 17 p = 1 := ne 1 (by omega) (by omega)
      have n2 : ¬ M' 17 p = 2 := ne 2 (by omega) (by omega)
      have n3 : ¬ M' 17 p = 3 := ne 3 (by omega) (by omega)
      rw [show t_s M' (tt_T M' E) p x y S = _ by unfold t_s; rw [if_neg n0, if_neg n1, if_neg n2, if_neg n3, if_pos hj]] at hK
      refine ⟨fun w => absurd (hj0.symm.trans w) (by decide), fun _ => ⟨fun w => absurd (hj0.symm.trans w) (by decide), fun _ => ⟨fun w => absurd (hj0.symm.trans w) (by decide), fun _ => ⟨fun w => absurd (hj0.symm.trans w) (by decide), fun _ => ⟨fun _ => ⟨M', F, B, n, p, x, y, S, k + 1, rfl, rfl, henv, hW1, hp, hj, hs1, by omega, by omega, fun R hR r hr => hK R hR r hr⟩, fun w => absurd hj0 w⟩⟩⟩⟩⟩
    · have hj : M' 17 p = 5 := hsoo
      have hj0 : l_p M' 0 S (66 + p) 0 = 5 := f0.trans hj
      have n0 : ¬ M' 17 p = 0 := ne 0 (by omega) (by omega)
      have n1 : ¬ M' 17 p = 1 := ne 1 (by omega) (by omega)
      have n2 : ¬ M' 17 p = 2 := ne 2 (by omega) (by omega)
      have n3 : ¬ M' 17 p = 3 := ne 3 (by omega) (by omega)
      have n4 : ¬ M' 17 p = 4 := ne 4 (by omega) (by omega)
      rw [show t_s M' (tt_T M' E) p x y S = _ by unfold t_s; rw [if_neg n0, if_neg n1, if_neg n2, if_neg n3, if_neg n4, if_pos hj]] at hK
      refine ⟨fun w => absurd (hj0.symm.trans w) (by decide), fun _ => ⟨fun w => absurd (hj0.symm.trans w) (by decide), fun _ => ⟨fun w => absurd (hj0.symm.trans w) (by decide), fun _ => ⟨fun w => absurd (hj0.symm.trans w) (by decide), fun _ => ⟨fun w => absurd (hj0.symm.trans w) (by decide), fun _ => ⟨fun _ => ⟨M', F, B, n, p, x, y, S, k + 1, rfl, rfl, henv, hW1, hp, hj, hs1, by omega, by omega, fun R hR r hr => hK R hR r hr⟩, fun w => absurd hj0 w⟩⟩⟩⟩⟩⟩
    · have hj : M' 17 p = 6 := hsoo
      have hj0 : l_p M' 0 S (66 + p) 0 = 6 := f0.trans hj
      have n0 : ¬ M' 17 p = 0 := ne 0 (by omega) (by omega)
      have n1 : ¬ M' 17 p = 1 := ne 1 (by omega) (by omega)
      have n2 : ¬ M' 17 p = 2 := ne 2 (by omega) (by omega)
      have n3 : ¬ M' 17 p = 3 := ne 3 (by omega) (by omega)
      have n4 : ¬ M' 17 p = 4 := ne 4 (by omega) (by omega)
      have n5 : ¬ M' 17 p = 5 := ne 5 (by omega) (by omega)
      rw [show t_s M' (tt_T M' E) p x y S = _ by unfold t_s; rw [if_neg n0, if_neg n1, if_neg n2, if_neg n3, if_neg n4, if_neg n5, if_pos hj]] at hK
      refine ⟨fun w => absurd (hj0.symm.trans w) (by decide), fun _ => ⟨fun w => absurd (hj0.symm.trans w) (by decide), fun _ => ⟨fun w => absurd (hj0.symm.trans w) (by decide), fun _ => ⟨fun w => absurd (hj0.symm.trans w) (by decide), fun _ => ⟨fun w => absurd (hj0.symm.trans w) (by decide), fun _ => ⟨fun w => absurd (hj0.symm.trans w) (by decide), fun _ => ⟨fun _ => ⟨M', F, B, n, p, x, y, S, k + 1, rfl, rfl, henv, hW1, hp, hj, hs1, by omega, by omega, fun R hR r hr => hK R hR r hr⟩, fun w => absurd hj0 w⟩⟩⟩⟩⟩⟩⟩
    · have hj : M' 17 p = 7 := hsoo
      have hj0 : l_p M' 0 S (66 + p) 0 = 7 := f0.trans hj
      have n0 : ¬ M' 17 p = 0 := ne 0 (by omega) (by omega)
      have n1 : ¬ M' 17 p = 1 := ne 1 (by omega) (by omega)
      have n2 : ¬ M' 17 p = 2 := ne 2 (by omega) (by omega)
      have n3 : ¬ M' 17 p = 3 := ne 3 (by omega) (by omega)
      have n4 : ¬ M' 17 p = 4 := ne 4 (by omega) (by omega)
      have n5 : ¬ M' 17 p = 5 := ne 5 (by omega) (by omega)
      have n6 : ¬ M' 17 p = 6 := ne 6 (by omega) (by omega)
      rw [show t_s M' (tt_T M' E) p x y S = _ by unfold t_s; rw [if_neg n0, if_neg n1, if_neg n2, if_neg n3, if_neg n4, if_neg n5, if_neg n6, if_pos hj]] at hK
      refine ⟨fun w => absurd (hj0.symm.trans w) (by decide), fun _ => ⟨fun w => absurd (hj0.symm.trans w) (by decide), fun _ => ⟨fun w => absurd (hj0.symm.trans w) (by decide), fun _ => ⟨fun w => absurd (hj0.symm.trans w) (by decide), fun _ => ⟨fun w => absurd (hj0.symm.trans w) (by decide), fun _ => ⟨fun w => absurd (hj0.symm.trans w) (by decide), fun _ => ⟨fun w => absurd (hj0.symm.trans w) (by decide), fun _ => ⟨fun _ => ⟨M', F, B, n, p, x, y, S, k + 1, rfl, rfl, henv, hW1, hp, Or.inl hj, hs1, by omega, by omega, fun R hR r hr => hK R (hR.trans (if_pos hj)) r hr⟩, fun w => absurd hj0 w⟩⟩⟩⟩⟩⟩⟩⟩
    · have hj : M' 17 p = 8 := hsoo
      have hj0 : l_p M' 0 S (66 + p) 0 = 8 := f0.trans hj
      have n0 : ¬ M' 17 p = 0 := ne 0 (by omega) (by omega)
      have n1 : ¬ M' 17 p = 1 := ne 1 (by omega) (by omega)
      have n2 : ¬ M' 17 p = 2 := ne 2 (by omega) (by omega)
      have n3 : ¬ M' 17 p = 3 := ne 3 (by omega) (by omega)
      have n4 : ¬ M' 17 p = 4 := ne 4 (by omega) (by omega)
      have n5 : ¬ M' 17 p = 5 := ne 5 (by omega) (by omega)
      have n6 : ¬ M' 17 p = 6 := ne 6 (by omega) (by omega)
      have n7 : ¬ M' 17 p = 7 := ne 7 (by omega) (by omega)
      rw [show t_s M' (tt_T M' E) p x y S = _ by unfold t_s; rw [if_neg n0, if_neg n1, if_neg n2, if_neg n3, if_neg n4, if_neg n5, if_neg n6, if_neg n7, if_pos hj]] at hK
      refine ⟨fun w => absurd (hj0.symm.trans w) (by decide), fun _ => ⟨fun w => absurd (hj0.symm.trans w) (by decide), fun _ => ⟨fun w => absurd (hj0.symm.trans w) (by decide), fun _ => ⟨fun w => absurd (hj0.symm.trans w) (by decide), fun _ => ⟨fun w => absurd (hj0.symm.trans w) (by decide), fun _ => ⟨fun w => absurd (hj0.symm.trans w) (by decide), fun _ => ⟨fun w => absurd (hj0.symm.trans w) (by decide), fun _ => ⟨fun w => absurd (hj0.symm.trans w) (by decide), fun _ => ⟨fun _ => ⟨M', F, B, n, p, x, y, S, k + 1, rfl, rfl, henv, hW1, hp, Or.inr hj, hs1, by omega, by omega, fun R hR r hr => hK R (hR.trans (if_neg n7)) r hr⟩, fun w => absurd hj0 w⟩⟩⟩⟩⟩⟩⟩⟩⟩
    · have hj : M' 17 p = 9 := hsoo
      have hj0 : l_p M' 0 S (66 + p) 0 = 9 := f0.trans hj
      have n0 : ¬ M' 17 p = 0 := ne 0 (by omega) (by omega)
      have n1 : ¬ M' 17 p = 1 := ne 1 (by omega) (by omega)
      have n2 : ¬ M' 17 p = 2 := ne 2 (by omega) (by omega)
      have n3 : ¬ M' 17 p = 3 := ne 3 (by omega) (by omega)
      have n4 : ¬ M' 17 p = 4 := ne 4 (by omega) (by omega)
      have n5 : ¬ M' 17 p = 5 := ne 5 (by omega) (by omega)
      have n6 : ¬ M' 17 p = 6 := ne 6 (by omega) (by omega)
      have n7 : ¬ M' 17 p = 7 := ne 7 (by omega) (by omega)
      have n8 : ¬ M' 17 p = 8 := ne 8 (by omega) (by omega)
      rw [show t_s M' (tt_T M' E) p x y S = _ by unfold t_s; rw [if_neg n0, if_neg n1, if_neg n2, if_neg n3, if_neg n4, if_neg n5, if_neg n6, if_neg n7, if_neg n8, if_pos hj]] at hK
      obtain ⟨a, ha, ea⟩ := hvn (Or.inl rfl)
      refine ⟨fun w => absurd (hj0.symm.trans w) (by decide), fun _ => ⟨fun w => absurd (hj0.symm.trans w) (by decide), fun _ => ⟨fun w => absurd (hj0.symm.trans w) (by decide), fun _ => ⟨fun w => absurd (hj0.symm.trans w) (by decide), fun _ => ⟨fun w => absurd (hj0.symm.trans w) (by decide), fun _ => ⟨fun w => absurd (hj0.symm.trans w) (by decide), fun _ => ⟨fun w => absurd (hj0.symm.trans w) (by decide), fun _ => ⟨fun w => absurd (hj0.symm.trans w) (by decide), fun _ => ⟨fun w => absurd (hj0.symm.trans w) (by decide), fun _ => ⟨fun _ => a_gi (hi _) ⟨_, F, B, _, rfl, rfl, M', F, B, n, M' 25 (M' 18 p).toNatClampNeg, _, _, _, S, k + 1, rfl, rfl, ?_, henv, hW1, ?_, hs1, by omega, by omega, fun R hR r hr => a_gi (hi _) ?_⟩, fun w => absurd hj0 w⟩⟩⟩⟩⟩⟩⟩⟩⟩⟩
      · show (if m_in (l_p M' 0 S (66 + p) 1) 0 5 = 0 then none else F 2 (l_p M' 0 S (66 + p) 1).toNatClampNeg) = _
        rw [f1, ea, if_neg (by rw [show m_in (nI a) 0 5 = 1 from m_in_y (b := 5) (by decide) (by omega)]; decide), show (nI a).toNatClampNeg = a from nI_clamp (by omega)]
        exact d7 a ha
      · rw [ea, show (nI a).toNatClampNeg = a from nI_clamp (by omega)]
        exact henv.1.2.2 a ha
      · have hK2 := hK (R.1, R.2.1 + M' 19 p, R.2.2) (by rw [hR]; rfl) (r + M' 19 p) (fun w => by rw [hr w])
        have g2 : l_p M' R.1 R.2.2 (66 + p) 2 = M' 19 p := by rw [lp_g (by decide), e2]
        rw [← g2] at hK2
        exact hK2
    · have hj : M' 17 p = 10 := hsoo
      have hj0 : l_p M' 0 S (66 + p) 0 = 10 := f0.trans hj
      have n0 : ¬ M' 17 p = 0 := ne 0 (by omega) (by omega)
      have n1 : ¬ M' 17 p = 1 := ne 1 (by omega) (by omega)
      have n2 : ¬ M' 17 p = 2 := ne 2 (by omega) (by omega)
      have n3 : ¬ M' 17 p = 3 := ne 3 (by omega) (by omega)
      have n4 : ¬ M' 17 p = 4 := ne 4 (by omega) (by omega)
      have n5 : ¬ M' 17 p = 5 := ne 5 (by omega) (by omega)
      have n6 : ¬ M' 17 p = 6 := ne 6 (by omega) (by omega)
      have n7 : ¬ M' 17 p = 7 := ne 7 (by omega) (by omega)
      have n8 : ¬ M' 17 p = 8 := ne 8 (by omega) (by omega)
      have n9 : ¬ M' 17 p = 9 := ne 9 (by omega) (by omega)
      rw [show t_s M' (tt_T M' E) p x y S = _ by unfold t_s; rw [if_neg n0, if_neg n1, if_neg n2, if_neg n3, if_neg n4, if_neg n5, if_neg n6, if_neg n7, if_neg n8, if_neg n9, if_pos hj]] at hK
      refine ⟨fun w => absurd (hj0.symm.trans w) (by decide), fun _ => ⟨fun w => absurd (hj0.symm.trans w) (by decide), fun _ => ⟨fun w => absurd (hj0.symm.trans w) (by decide), fun _ => ⟨fun w => absurd (hj0.symm.trans w) (by decide), fun _ => ⟨fun w => absurd (hj0.symm.trans w) (by decide), fun _ => ⟨fun w => absurd (hj0.symm.trans w) (by decide), fun _ => ⟨fun w => absurd (hj0.symm.trans w) (by decide), fun _ => ⟨fun w => absurd (hj0.symm.trans w) (by decide), fun _ => ⟨fun w => absurd (hj0.symm.trans w) (by decide), fun _ => ⟨fun w => absurd (hj0.symm.trans w) (by decide), fun _ => ⟨fun _ => ⟨M', F, B, n, p, x, y, S, k + 1, rfl, rfl, henv, hW1, hp, hj, hs1, by omega, by omega, fun R hR r hr => hK R hR r hr⟩, fun w => absurd hj0 w⟩⟩⟩⟩⟩⟩⟩⟩⟩⟩⟩
    · have hj : M' 17 p = 11 := hsoo
      have hj0 : l_p M' 0 S (66 + p) 0 = 11 := f0.trans hj
      have n0 : ¬ M' 17 p = 0 := ne 0 (by omega) (by omega)
      have n1 : ¬ M' 17 p = 1 := ne 1 (by omega) (by omega)
      have n2 : ¬ M' 17 p = 2 := ne 2 (by omega) (by omega)
      have n3 : ¬ M' 17 p = 3 := ne 3 (by omega) (by omega)
      have n4 : ¬ M' 17 p = 4 := ne 4 (by omega) (by omega)
      have n5 : ¬ M' 17 p = 5 := ne 5 (by omega) (by omega)
      have n6 : ¬ M' 17 p = 6 := ne 6 (by omega) (by omega)
      have n7 : ¬ M' 17 p = 7 := ne 7 (by omega) (by omega)
      have n8 : ¬ M' 17 p = 8 := ne 8 (by omega) (by omega)
      have n9 : ¬ M' 17 p = 9 := ne 9 (by omega) (by omega)
      have n10 : ¬ M' 17 p = 10 := ne 10 (by omega) (by omega)
      rw [show t_s M' (tt_T M' E) p x y S = _ by unfold t_s; rw [if_neg n0, if_neg n1, if_neg n2, if_neg n3, if_neg n4, if_neg n5, if_neg n6, if_neg n7, if_neg n8, if_neg n9, if_neg n10, if_pos hj]] at hK
      refine ⟨fun w => absurd (hj0.symm.trans w) (by decide), fun _ => ⟨fun w => absurd (hj0.symm.trans w) (by decide), fun _ => ⟨fun w => absurd (hj0.symm.trans w) (by decide), fun _ => ⟨fun w => absurd (hj0.symm.trans w) (by decide), fun _ => ⟨fun w => absurd (hj0.symm.trans w) (by decide), fun _ => ⟨fun w => absurd (hj0.symm.trans w) (by decide), fun _ => ⟨fun w => absurd (hj0.symm.trans w) (by decide), fun _ => ⟨fun w => absurd (hj0.symm.trans w) (by decide), fun _ => ⟨fun w => absurd (hj0.symm.trans w) (by decide), fun _ => ⟨fun w => absurd (hj0.symm.trans w) (by decide), fun _ => ⟨fun w => absurd (hj0.symm.trans w) (by decide), fun _ => ⟨fun _ => ⟨M', F, B, n, p, x, y, S, k + 1, rfl, rfl, henv, hW1, hp, hj, hs1, by omega, by omega, fun R hR r hr => hK R hR r hr⟩, fun w => absurd hj0 w⟩⟩⟩⟩⟩⟩⟩⟩⟩⟩⟩⟩
    · have hj : M' 17 p = 12 := hsoo
      have hj0 : l_p M' 0 S (66 + p) 0 = 12 := f0.trans hj
      have n0 : ¬ M' 17 p = 0 := ne 0 (by omega) (by omega)
      have n1 : ¬ M' 17 p = 1 := ne 1 (by omega) (by omega)
      have n2 : ¬ M' 17 p = 2 := ne 2 (by omega) (by omega)
      have n3 : ¬ M' 17 p = 3 := ne 3 (by omega) (by omega)
      have n4 : ¬ M' 17 p = 4 := ne 4 (by omega) (by omega)
      have n5 : ¬ M' 17 p = 5 := ne 5 (by omega) (by omega)
      have n6 : ¬ M' 17 p = 6 := ne 6 (by omega) (by omega)
      have n7 : ¬ M' 17 p = 7 := ne 7 (by omega) (by omega)
      have n8 : ¬ M' 17 p = 8 := ne 8 (by omega) (by omega)
      have n9 : ¬ M' 17 p = 9 := ne 9 (by omega) (by omega)
      have n10 : ¬ M' 17 p = 10 := ne 10 (by omega) (by omega)
      have n11 : ¬ M' 17 p = 11 := ne 11 (by omega) (by omega)
      rw [show t_s M' (tt_T M' E) p x y S = _ by unfold t_s; rw [if_neg n0, if_neg n1, if_neg n2, if_neg n3, if_neg n4, if_neg n5, if_neg n6, if_neg n7, if_neg n8, if_neg n9, if_neg n10, if_neg n11, if_pos hj]] at hK
      refine ⟨fun w => absurd (hj0.symm.trans w) (by decide), fun _ => ⟨fun w => absurd (hj0.symm.trans w) (by decide), fun _ => ⟨fun w => absurd (hj0.symm.trans w) (by decide), fun _ => ⟨fun w => absurd (hj0.symm.trans w) (by decide), fun _ => ⟨fun w => absurd (hj0.symm.trans w) (by decide), fun _ => ⟨fun w => absurd (hj0.symm.trans w) (by decide), fun _ => ⟨fun w => absurd (hj0.symm.trans w) (by decide), fun _ => ⟨fun w => absurd (hj0.symm.trans w) (by decide), fun _ => ⟨fun w => absurd (hj0.symm.trans w) (by decide), fun _ => ⟨fun w => absurd (hj0.symm.trans w) (by decide), fun _ => ⟨fun w => absurd (hj0.symm.trans w) (by decide), fun _ => ⟨fun w => absurd (hj0.symm.trans w) (by decide), fun _ => ⟨fun _ => ⟨M', F, B, n, p, x, y, S, k + 1, rfl, rfl, henv, hW1, hp, hj, hs1, by omega, by omega, fun R hR r hr => hK R hR r hr⟩, fun w => absurd hj0 w⟩⟩⟩⟩⟩⟩⟩⟩⟩⟩⟩⟩⟩
    · have hj : M' 17 p = 13 := hsoo
      have hj0 : l_p M' 0 S (66 + p) 0 = 13 := f0.trans hj
      have n0 : ¬ M' 17 p = 0 := ne 0 (by omega) (by omega)
      have n1 : ¬ M' 17 p = 1 := ne 1 (by omega) (by omega)
      have n2 : ¬ M' 17 p = 2 := ne 2 (by omega) (by omega)
      have n3 : ¬ M' 17 p = 3 := ne 3 (by omega) (by omega)
      have n4 : ¬ M' 17 p = 4 := ne 4 (by omega) (by omega)
      have n5 : ¬ M' 17 p = 5 := ne 5 (by omega) (by omega)
      have n6 : ¬ M' 17 p = 6 := ne 6 (by omega) (by omega)
      have n7 : ¬ M' 17 p = 7 := ne 7 (by omega) (by omega)
      have n8 : ¬ M' 17 p = 8 := ne 8 (by omega) (by omega)
      have n9 : ¬ M' 17 p = 9 := ne 9 (by omega) (by omega)
      have n10 : ¬ M' 17 p = 10 := ne 10 (by omega) (by omega)
      have n11 : ¬ M' 17 p = 11 := ne 11 (by omega) (by omega)
      have n12 : ¬ M' 17 p = 12 := ne 12 (by omega) (by omega)
      rw [show t_s M' (tt_T M' E) p x y S = _ by unfold t_s; rw [if_neg n0, if_neg n1, if_neg n2, if_neg n3, if_neg n4, if_neg n5, if_neg n6, if_neg n7, if_neg n8, if_neg n9, if_neg n10, if_neg n11, if_neg n12]] at hK
      refine ⟨fun w => absurd (hj0.symm.trans w) (by decide), fun _ => ⟨fun w => absurd (hj0.symm.trans w) (by decide), fun _ => ⟨fun w => absurd (hj0.symm.trans w) (by decide), fun _ => ⟨fun w => absurd (hj0.symm.trans w) (by decide), fun _ => ⟨fun w => absurd (hj0.symm.trans w) (by decide), fun _ => ⟨fun w => absurd (hj0.symm.trans w) (by decide), fun _ => ⟨fun w => absurd (hj0.symm.trans w) (by decide), fun _ => ⟨fun w => absurd (hj0.symm.trans w) (by decide), fun _ => ⟨fun w => absurd (hj0.symm.trans w) (by decide), fun _ => ⟨fun w => absurd (hj0.symm.trans w) (by decide), fun _ => ⟨fun w => absurd (hj0.symm.trans w) (by decide), fun _ => ⟨fun w => absurd (hj0.symm.trans w) (by decide), fun _ => ⟨fun w => absurd (hj0.symm.trans w) (by decide), fun _ => ⟨fun _ => a_gi (hi _) ⟨M', F, B, n, M' 22 p, _, _, _, S, k + 1, rfl, rfl, ?_, henv, hW1, hvo rfl, hs1, by omega, by omega, fun R hR r hr => hK R hR r hr⟩, fun w => absurd hj0 w⟩⟩⟩⟩⟩⟩⟩⟩⟩⟩⟩⟩⟩⟩
      · show a_SR F (66 + p) 5 = _
        rw [l_SR (by omega)]
        exact d6 p hp hj
theorem con_X2_tell : ∀ {E : Nat}, a_Con l D G N0 yX2_tell cX2_tell 4 (some .int) (rm_X2_tell E) (sp_X2_tell E) := by
  intro E
  induction E with
  | zero =>
    intro as σ K q h _
    obtain ⟨M, F, B, n, c, r0, x, y, s, k, -, -, -, -, -, -, -, hk, hE, -⟩ := h
    omega
  | succ E ih => exact con_X2_tell_s ih
def sp_X2_tellPlace : aP := fun as σ K => ∃ M F B n c r0 x y f s, σ = a_mk (l_p M f s) F B ∧ as = [.inr (some 0), .inr r0, .inl x, .inl y] ∧ r0 = l_ref c ∧ l_env M F B n ∧ l_W M n s ∧ m_cd n c ∧ ∀ R : tR, R = tt_T M 101 c x y (0, s.2) → ∀ r : Int32, (R.1 = 0 → r = R.2.1) → K (some (.inl r)) (a_mk (l_p M R.1 R.2.2) F B)
theorem rc_X2_tellPlace : ∀ as σ K, sp_X2_tellPlace as σ K → ∃ h As, as = .inr (some h) :: As ∧ a_is σ h 2 10 = true := by
  rintro as σ K ⟨M, F, B, n, c, r0, x, y, f, s, rfl, rfl, -⟩
  exact ⟨0, _, rfl, rfl⟩
def P_X2_tellPlace (K : aK) (bc bs : Nat) : List (Nat × aT) := [(0, t_ald 0 1),
  (1, t_ic 0 2),
  (2, t_puti 2 10 7 5),
  (5, t_ald 0 6),
  (6, t_ic 0 7),
  (7, t_puti 2 10 6 10),
  (10, t_ald 0 11),
  (11, t_ald 1 12),
  (12, t_ild 2 13),
  (13, t_ild 3 14),
  (14, t_call 4 0 0 bc bs (sp_X2_tell 101) 17),
  (17, t_iret K bc bs)]
set_option maxRecDepth 100000 in
theorem S_X2_tellPlace {X : a_X} {K : aK} {l : Launch} {D : va_G} {G : aG} {N0 : Nat} (C : a_C X cX2_tellPlace (some .int) RX2) (Y : a_Y X l (a_rm 251 0 0) D G N0) (M : a_mq X K (a_rm 251 0 0).cells (a_rm 251 0 0).slots) : ∀ x ∈ P_X2_tellPlace K 0 0, a_Sd X x.1 x.2 := by
  unfold P_X2_tellPlace
  refine List.forall_mem_cons.mpr ⟨s_aldn C dX2_tellPlace_0 rfl, ?_⟩
  refine List.forall_mem_cons.mpr ⟨s_ic C dX2_tellPlace_1 (by decide), ?_⟩
  refine List.forall_mem_cons.mpr ⟨s_puti C tyX2 tyX2_ok nmX2 rfl in_X2 (by decide) lk_X2_106 rfl (Or.inl rfl) rfl dX2_tellPlace_2, ?_⟩
  refine List.forall_mem_cons.mpr ⟨s_aldn C dX2_tellPlace_5 rfl, ?_⟩
  refine List.forall_mem_cons.mpr ⟨s_ic C dX2_tellPlace_6 (by decide), ?_⟩
  refine List.forall_mem_cons.mpr ⟨s_puti C tyX2 tyX2_ok nmX2 rfl in_X2 (by decide) lk_X2_76 rfl (Or.inl rfl) rfl dX2_tellPlace_7, ?_⟩
  refine List.forall_mem_cons.mpr ⟨s_aldn C dX2_tellPlace_10 rfl, ?_⟩
  refine List.forall_mem_cons.mpr ⟨s_aldn C dX2_tellPlace_11 rfl, ?_⟩
  refine List.forall_mem_cons.mpr ⟨s_ildn C dX2_tellPlace_12 rfl, ?_⟩
  refine List.forall_mem_cons.mpr ⟨s_ildn C dX2_tellPlace_13 rfl, ?_⟩
  refine List.forall_mem_cons.mpr ⟨s_callV (rm := (rm_X2_tell 101)) (n := 3) C Y (ci := 2) rfl con_X2_tell rc_X2_tell co_X2_tell ml_X2_118 im_X2_tell se_X2_tell ii_X2 (by decide +kernel) (a_hr (by decide) (by decide)) ⟨rfl, rfl⟩ dX2_tellPlace_14, ?_⟩
  refine List.forall_mem_cons.mpr ⟨s_iret C M dX2_tellPlace_17, ?_⟩
  exact fun _ h => absurd h List.not_mem_nil
theorem con_X2_tellPlace : a_Con l D G N0 yX2_tellPlace cX2_tellPlace 4 (some .int) (a_rm 251 0 0) sp_X2_tellPlace := by
  refine a_con (by decide) (fun as σ K h => by obtain ⟨M, F, B, n, c, r0, x, y, f, s, rfl, rfl, -⟩ := h; exact Nat.le_refl _) ?_
  intro X as σ K h C Y M _
  obtain ⟨M', F, B, n, c, r0, x, y, f, s, rfl, rfl, hr0, henv, hW, hc, hK⟩ := h
  refine a_wps (S_X2_tellPlace C Y M) (inv := a_ni) a_nih 40 _ _ _ _ _ _ ?_
  have e : a_w (a_w (l_p M' f s) 0 7 0) 0 6 0 = l_p M' 0 (0, s.2) := by rw [lp_7, lp_6]
  exact ⟨M', F, B, n, c, r0, x, y, (0, s.2), 0, congrArg (fun I => a_mk I F B) e, rfl, hr0, henv, hW, hc, rfl, Nat.zero_le _, by decide, hK⟩
/-- ask: refused, or what the pattern tells -/
def sp_X2_ask : aP := fun as σ K => ∃ I F B n p x y, σ = a_mk I F B ∧ as = [.inr (some 0), .inl p, .inl x, .inl y] ∧ l_env I F B n ∧ l_W I n (0, 0, 0, fun q => I (66 + q) 6) ∧
  (m_in p 0 (nI n - 1) = 0 → K (some (.inl 0)) (a_mk (a_w I 0 5 (-3)) F B)) ∧
  (¬ m_in p 0 (nI n - 1) = 0 → ∀ R : tR, R = tt_T I 101 p x y (0, 0, I 0 9, fun q => I (66 + q) 6) → K (some (.inl (m_an R))) (a_mk (a_w (l_p I R.1 R.2.2) 0 5 (m_wh R.1)) F B))
theorem rc_X2_ask : ∀ as σ K, sp_X2_ask as σ K → ∃ h As, as = .inr (some h) :: As ∧ a_is σ h 2 10 = true := by
  rintro as σ K ⟨I, F, B, n, p, x, y, rfl, rfl, -⟩
  exact ⟨0, _, rfl, rfl⟩
def P_X2_ask (K : aK) (bc bs : Nat) : List (Nat × aT) := [(0, t_ald 0 1),
  (1, t_ild 1 2),
  (2, t_call 2 0 0 bc bs sp_X2_isPattern 5),
  (5, t_if (fun x => x = 0) 8 16),
  (8, t_ald 0 9),
  (9, t_ic (-3) 11),
  (11, t_puti 2 10 5 14),
  (14, t_ic 0 15),
  (15, t_iret K bc bs),
  (16, t_ald 0 17),
  (17, t_ic 0 18),
  (18, t_puti 2 10 8 21),
  (21, t_ald 0 22),
  (22, t_ald 0 23),
  (23, t_ild 1 24),
  (24, t_call 2 0 0 bc bs sp_X2_numbered 27),
  (27, t_ild 2 28),
  (28, t_ild 3 29),
  (29, t_call 4 0 0 bc bs sp_X2_tellPlace 32),
  (32, t_ist 4 34),
  (34, t_ald 0 35),
  (35, t_ald 0 36),
  (36, t_geti 2 10 6 39),
  (39, t_if (fun x => x = 0) 52 42),
  (42, t_ic (-10) 44),
  (44, t_ald 0 45),
  (45, t_geti 2 10 6 48),
  (48, t_sub 49),
  (49, t_goto 53),
  (52, t_ic 0 53),
  (53, t_puti 2 10 5 56),
  (56, t_ald 0 57),
  (57, t_geti 2 10 6 60),
  (60, t_if (fun x => x = 0) 67 63),
  (63, t_ic 0 64),
  (64, t_goto 69),
  (67, t_ild 4 69),
  (69, t_iret K bc bs)]
set_option maxRecDepth 100000 in
theorem S_X2_ask {X : a_X} {K : aK} {l : Launch} {D : va_G} {G : aG} {N0 : Nat} (C : a_C X cX2_ask (some .int) RX2) (Y : a_Y X l (a_rm 252 0 0) D G N0) (M : a_mq X K (a_rm 252 0 0).cells (a_rm 252 0 0).slots) : ∀ x ∈ P_X2_ask K 0 0, a_Sd X x.1 x.2 := by
  unfold P_X2_ask
  refine List.forall_mem_cons.mpr ⟨s_aldn C dX2_ask_0 rfl, ?_⟩
  refine List.forall_mem_cons.mpr ⟨s_ildn C dX2_ask_1 rfl, ?_⟩
  refine List.forall_mem_cons.mpr ⟨s_callV (rm := (a_rm 1 0 0)) (n := 1) C Y (ci := 2) rfl con_X2_isPattern rc_X2_isPattern co_X2_isPattern ml_X2_63 im_X2_isPattern se_X2_isPattern ii_X2 (by decide +kernel) ⟨by decide, by decide⟩ ⟨rfl, rfl⟩ dX2_ask_2, ?_⟩
  refine List.forall_mem_cons.mpr ⟨s_if_ne C dX2_ask_5 (by decide), ?_⟩
  refine List.forall_mem_cons.mpr ⟨s_aldn C dX2_ask_8 rfl, ?_⟩
  refine List.forall_mem_cons.mpr ⟨s_bi C dX2_ask_9 (by decide), ?_⟩
  refine List.forall_mem_cons.mpr ⟨s_puti C tyX2 tyX2_ok nmX2 rfl in_X2 (by decide) lk_X2_37 rfl (Or.inl rfl) rfl dX2_ask_11, ?_⟩
  refine List.forall_mem_cons.mpr ⟨s_ic C dX2_ask_14 (by decide), ?_⟩
  refine List.forall_mem_cons.mpr ⟨s_iret C M dX2_ask_15, ?_⟩
  refine List.forall_mem_cons.mpr ⟨s_aldn C dX2_ask_16 rfl, ?_⟩
  refine List.forall_mem_cons.mpr ⟨s_ic C dX2_ask_17 (by decide), ?_⟩
  refine List.forall_mem_cons.mpr ⟨s_puti C tyX2 tyX2_ok nmX2 rfl in_X2 (by decide) lk_X2_69 rfl (Or.inl rfl) rfl dX2_ask_18, ?_⟩
  refine List.forall_mem_cons.mpr ⟨s_aldn C dX2_ask_21 rfl, ?_⟩
  refine List.forall_mem_cons.mpr ⟨s_aldn C dX2_ask_22 rfl, ?_⟩
  refine List.forall_mem_cons.mpr ⟨s_ildn C dX2_ask_23 rfl, ?_⟩
  refine List.forall_mem_cons.mpr ⟨s_callV (rm := (a_rm 2 0 0)) (n := 1) C Y (ci := 2) rfl con_X2_numbered rc_X2_numbered co_X2_numbered ml_X2_66 im_X2_numbered se_X2_numbered ii_X2 (by decide +kernel) ⟨by decide, by decide⟩ ⟨rfl, rfl⟩ dX2_ask_24, ?_⟩
  refine List.forall_mem_cons.mpr ⟨s_ildn C dX2_ask_27 rfl, ?_⟩
  refine List.forall_mem_cons.mpr ⟨s_ildn C dX2_ask_28 rfl, ?_⟩
  refine List.forall_mem_cons.mpr ⟨s_callV (rm := (a_rm 251 0 0)) (n := 3) C Y (ci := 2) rfl con_X2_tellPlace rc_X2_tellPlace co_X2_tellPlace ml_X2_72 im_X2_tellPlace se_X2_tellPlace ii_X2 (by decide +kernel) ⟨by decide, by decide⟩ ⟨rfl, rfl⟩ dX2_ask_29, ?_⟩
  refine List.forall_mem_cons.mpr ⟨s_ist C dX2_ask_32, ?_⟩
  refine List.forall_mem_cons.mpr ⟨s_aldn C dX2_ask_34 rfl, ?_⟩
  refine List.forall_mem_cons.mpr ⟨s_aldn C dX2_ask_35 rfl, ?_⟩
  refine List.forall_mem_cons.mpr ⟨s_geti C rfl in_X2 (by decide) lk_X2_76 rfl dX2_ask_36, ?_⟩
  refine List.forall_mem_cons.mpr ⟨s_if_eq C dX2_ask_39 (by decide), ?_⟩
  refine List.forall_mem_cons.mpr ⟨s_bi C dX2_ask_42 (by decide), ?_⟩
  refine List.forall_mem_cons.mpr ⟨s_aldn C dX2_ask_44 rfl, ?_⟩
  refine List.forall_mem_cons.mpr ⟨s_geti C rfl in_X2 (by decide) lk_X2_76 rfl dX2_ask_45, ?_⟩
  refine List.forall_mem_cons.mpr ⟨s_sub C dX2_ask_48, ?_⟩
  refine List.forall_mem_cons.mpr ⟨s_goto C dX2_ask_49 (by decide), ?_⟩
  refine List.forall_mem_cons.mpr ⟨s_ic C dX2_ask_52 (by decide), ?_⟩
  refine List.forall_mem_cons.mpr ⟨s_puti C tyX2 tyX2_ok nmX2 rfl in_X2 (by decide) lk_X2_37 rfl (Or.inl rfl) rfl dX2_ask_53, ?_⟩
  refine List.forall_mem_cons.mpr ⟨s_aldn C dX2_ask_56 rfl, ?_⟩
  refine List.forall_mem_cons.mpr ⟨s_geti C rfl in_X2 (by decide) lk_X2_76 rfl dX2_ask_57, ?_⟩
  refine List.forall_mem_cons.mpr ⟨s_if_eq C dX2_ask_60 (by decide), ?_⟩
  refine List.forall_mem_cons.mpr ⟨s_ic C dX2_ask_63 (by decide), ?_⟩
  refine List.forall_mem_cons.mpr ⟨s_goto C dX2_ask_64 (by decide), ?_⟩
  refine List.forall_mem_cons.mpr ⟨s_ild C dX2_ask_67, ?_⟩
  refine List.forall_mem_cons.mpr ⟨s_iret C M dX2_ask_69, ?_⟩
  exact fun _ h => absurd h List.not_mem_nil
set_option maxRecDepth 20000 in
theorem con_X2_ask : a_Con l D G N0 yX2_ask cX2_ask 5 (some .int) (a_rm 252 0 0) sp_X2_ask := by
  refine a_con (by decide) (fun as σ K h => by obtain ⟨I, F, B, n, p, x, y, rfl, rfl, -⟩ := h; exact (by decide : 4 ≤ 5)) ?_
  intro X as σ K h C Y M _
  obtain ⟨I, F, B, n, p, x, y, rfl, rfl, henv, hW, hK0, hK1⟩ := h
  have d1 := henv.2.1
  have d2 := henv.2.2.1
  refine a_wps (S_X2_ask C Y M) (inv := a_ni) a_nih 60 _ _ _ _ _ _ ?_
  refine ⟨I, F, B, n, p, rfl, rfl, d1, henv.1.1, fun h1 => hK0 h1, fun h1 => ?_⟩
  have vp : m_vc n p := l_inp henv.1.1 h1
  have e8 : a_w I 0 8 0 = l_p I (I 0 6) (I 0 7, 0, I 0 9, fun q => I (66 + q) 6) := (congrArg (fun J => a_w J 0 8 0) (lp_self I).symm).trans lp_8
  refine ⟨a_w I 0 8 0, F, B, n, p, rfl, rfl, d1, henv.1.1, I, F, B, n, p, _, x, y, I 0 6, (I 0 7, 0, I 0 9, fun q => I (66 + q) 6), congrArg (fun J => a_mk J F B) e8, rfl, l_num henv.1.1 d2 vp, henv, hW, Or.inr (Or.inr (Or.inr vp)), fun R hR r hr => ?_⟩
  have hK := hK1 h1 R hR
  clear hR
  by_cases hz : R.1 = 0
  · rw [show m_an R = _ from if_pos hz, show m_wh R.1 = _ from if_pos hz, ← hr hz] at hK
    exact ⟨fun _ => ⟨fun _ => hK, fun w => absurd hz w⟩, fun w => absurd hz w⟩
  · rw [show m_an R = _ from if_neg hz, show m_wh R.1 = _ from if_neg hz] at hK
    exact ⟨fun w => absurd w hz, fun _ => ⟨fun w => absurd w hz, fun _ => hK⟩⟩
end LV
end
section
/-! ===== the cloth; dye, name and the looks at the cloth ===== -/
theorem l_iffq {v : Int32} {n : Nat} (hn : n ≤ 500) (hv : ¬ v < 0) : (nI n ≤ v ↔ nI n - 1 < v) := by
  obtain ⟨j, hj, rfl⟩ := nI_of hv
  cases n with
  | zero =>
    have e : nI 0 - 1 = -1 := by decide
    rw [e]
    exact ⟨fun _ => by rw [Int32.lt_iff_toInt_lt, nI_toInt hj, show (-1 : Int32).toInt = -1 from rfl]; omega, fun _ => nI_le (Nat.zero_le _) hj⟩
  | succ n =>
    rw [nI_pred]
    exact l_iff3 (nI j) n (by omega)
section LX
variable {l : Launch} {D : va_G} {G : aG} {N0 : Nat}
def sp_X0_begin : aP := fun as σ K => ∃ I F B w, σ = a_mk I F B ∧ as = [.inr (some 4), .inl w] ∧ K none (a_mk (a_w (a_w I 4 1 0) 4 2 w) F B)
theorem rc_X0_begin : ∀ as σ K, sp_X0_begin as σ K → ∃ h As, as = .inr (some h) :: As ∧ a_is σ h 0 3 = true := by
  rintro as σ K ⟨I, F, B, w, rfl, rfl, -⟩
  exact ⟨4, _, rfl, rfl⟩
def P_X0_begin (K : aK) (bc bs : Nat) : List (Nat × aT) := [(0, t_ald 0 1),
  (1, t_ic 0 2),
  (2, t_puti 0 3 1 5),
  (5, t_ald 0 6),
  (6, t_ild 1 7),
  (7, t_puti 0 3 2 10),
  (10, t_vret K bc bs)]
set_option maxRecDepth 100000 in
theorem S_X0_begin {X : a_X} {K : aK} {l : Launch} {D : va_G} {G : aG} {N0 : Nat} (C : a_C X cX0_begin none RX0) (Y : a_Y X l (a_rm 1 0 0) D G N0) (M : a_mq X K (a_rm 1 0 0).cells (a_rm 1 0 0).slots) : ∀ x ∈ P_X0_begin K 0 0, a_Sd X x.1 x.2 := by
  unfold P_X0_begin
  refine List.forall_mem_cons.mpr ⟨s_aldn C dX0_begin_0 rfl, ?_⟩
  refine List.forall_mem_cons.mpr ⟨s_ic C dX0_begin_1 (by decide), ?_⟩
  refine List.forall_mem_cons.mpr ⟨s_puti C tyX0 tyX0_ok nmX0 rfl in_X0 (by decide) lk_X0_15 rfl (Or.inl rfl) rfl dX0_begin_2, ?_⟩
  refine List.forall_mem_cons.mpr ⟨s_aldn C dX0_begin_5 rfl, ?_⟩
  refine List.forall_mem_cons.mpr ⟨s_ildn C dX0_begin_6 rfl, ?_⟩
  refine List.forall_mem_cons.mpr ⟨s_puti C tyX0 tyX0_ok nmX0 rfl in_X0 (by decide) lk_X0_19 rfl (Or.inl rfl) rfl dX0_begin_7, ?_⟩
  refine List.forall_mem_cons.mpr ⟨s_vret C M dX0_begin_10, ?_⟩
  exact fun _ h => absurd h List.not_mem_nil
theorem con_X0_begin : a_Con l D G N0 yX0_begin cX0_begin 2 none (a_rm 1 0 0) sp_X0_begin := by
  refine a_con (by decide) (fun as σ K h => by obtain ⟨I, F, B, w, rfl, rfl, -⟩ := h; exact Nat.le_refl _) ?_
  intro X as σ K h C Y M _
  obtain ⟨I, F, B, w, rfl, rfl, hK⟩ := h
  exact a_wps (S_X0_begin C Y M) (inv := a_ni) a_nih 20 _ _ _ _ _ _ hK
def sp_X0_add : aP := fun as σ K => ∃ I F B c k, σ = a_mk I F B ∧ as = [.inr (some 4), .inl c] ∧ I 4 1 = nI k ∧ k < 144 ∧ K none (a_mk (a_w (a_w I 5 k c) 4 1 (nI (k + 1))) F B)
theorem rc_X0_add : ∀ as σ K, sp_X0_add as σ K → ∃ h As, as = .inr (some h) :: As ∧ a_is σ h 0 3 = true := by
  rintro as σ K ⟨I, F, B, w, k, rfl, rfl, -⟩
  exact ⟨4, _, rfl, rfl⟩
def P_X0_add (K : aK) (bc bs : Nat) : List (Nat × aT) := [(0, t_ald 0 1),
  (1, t_geti 0 3 1 4),
  (4, t_ald 0 5),
  (5, t_getr 0 3 0 8),
  (8, t_alen 9),
  (9, t_ifc (fun x y => y ≤ x) 32 12),
  (12, t_ald 0 13),
  (13, t_getr 0 3 0 16),
  (16, t_ald 0 17),
  (17, t_geti 0 3 1 20),
  (20, t_ild 1 21),
  (21, t_iast 22),
  (22, t_ald 0 23),
  (23, t_dup 24),
  (24, t_geti 0 3 1 27),
  (27, t_ic 1 28),
  (28, t_add 29),
  (29, t_puti 0 3 1 32),
  (32, t_vret K bc bs)]
set_option maxRecDepth 100000 in
theorem S_X0_add {X : a_X} {K : aK} {l : Launch} {D : va_G} {G : aG} {N0 : Nat} (C : a_C X cX0_add none RX0) (Y : a_Y X l (a_rm 1 0 0) D G N0) (M : a_mq X K (a_rm 1 0 0).cells (a_rm 1 0 0).slots) : ∀ x ∈ P_X0_add K 0 0, a_Sd X x.1 x.2 := by
  unfold P_X0_add
  refine List.forall_mem_cons.mpr ⟨s_aldn C dX0_add_0 rfl, ?_⟩
  refine List.forall_mem_cons.mpr ⟨s_geti C rfl in_X0 (by decide) lk_X0_15 rfl dX0_add_1, ?_⟩
  refine List.forall_mem_cons.mpr ⟨s_aldn C dX0_add_4 rfl, ?_⟩
  refine List.forall_mem_cons.mpr ⟨s_getr C rfl in_X0 (by decide) lk_X0_9 rfl dX0_add_5, ?_⟩
  refine List.forall_mem_cons.mpr ⟨s_alen C dX0_add_8, ?_⟩
  refine List.forall_mem_cons.mpr ⟨s_icmp_ge C dX0_add_9 (by decide), ?_⟩
  refine List.forall_mem_cons.mpr ⟨s_aldn C dX0_add_12 rfl, ?_⟩
  refine List.forall_mem_cons.mpr ⟨s_getr C rfl in_X0 (by decide) lk_X0_9 rfl dX0_add_13, ?_⟩
  refine List.forall_mem_cons.mpr ⟨s_aldn C dX0_add_16 rfl, ?_⟩
  refine List.forall_mem_cons.mpr ⟨s_geti C rfl in_X0 (by decide) lk_X0_15 rfl dX0_add_17, ?_⟩
  refine List.forall_mem_cons.mpr ⟨s_ildn C dX0_add_20 rfl, ?_⟩
  refine List.forall_mem_cons.mpr ⟨s_iast C dX0_add_21, ?_⟩
  refine List.forall_mem_cons.mpr ⟨s_aldn C dX0_add_22 rfl, ?_⟩
  refine List.forall_mem_cons.mpr ⟨s_dup C dX0_add_23, ?_⟩
  refine List.forall_mem_cons.mpr ⟨s_geti C rfl in_X0 (by decide) lk_X0_15 rfl dX0_add_24, ?_⟩
  refine List.forall_mem_cons.mpr ⟨s_ic C dX0_add_27 (by decide), ?_⟩
  refine List.forall_mem_cons.mpr ⟨s_add C dX0_add_28, ?_⟩
  refine List.forall_mem_cons.mpr ⟨s_puti C tyX0 tyX0_ok nmX0 rfl in_X0 (by decide) lk_X0_15 rfl (Or.inl rfl) rfl dX0_add_29, ?_⟩
  refine List.forall_mem_cons.mpr ⟨s_vret C M dX0_add_32, ?_⟩
  exact fun _ h => absurd h List.not_mem_nil
theorem con_X0_add : a_Con l D G N0 yX0_add cX0_add 2 none (a_rm 1 0 0) sp_X0_add := by
  refine a_con (by decide) (fun as σ K h => by obtain ⟨I, F, B, w, k, rfl, rfl, -⟩ := h; exact Nat.le_refl _) ?_
  intro X as σ K h C Y M _
  obtain ⟨I, F, B, c, k, rfl, rfl, hk, hlt, hK⟩ := h
  have hn : ¬ Int32.ofNat 144 ≤ I 4 1 := by rw [hk]; exact nI_ge hlt (by decide)
  have hv : vp_in (I 4 1) 144 := by rw [hk]; exact vp_in_nI hlt (by decide)
  have e : a_w (a_w I 5 k c) 4 1 (nI (k + 1)) = a_w (a_w I 5 (I 4 1).toNatClampNeg c) 4 1 (I 4 1 + 1) := by rw [hk, nI_1, show (nI k).toNatClampNeg = k from nI_clamp (by omega)]
  rw [e] at hK
  refine a_wps (S_X0_add C Y M) (inv := a_ni) a_nih 30 _ _ _ _ _ _ ?_
  exact ⟨fun w => absurd w hn, fun _ => ⟨hv, hK⟩⟩
def sp_X0_colourAt : aP := fun as σ K => ∃ I F B sz i, σ = a_mk I F B ∧ as = [.inr (some 4), .inl i] ∧ I 4 1 = nI sz ∧ sz ≤ 144 ∧ K (some (.inl (if m_in i 0 (nI sz - 1) = 0 then 0 else I 5 i.toNatClampNeg))) σ
theorem rc_X0_colourAt : ∀ as σ K, sp_X0_colourAt as σ K → ∃ h As, as = .inr (some h) :: As ∧ a_is σ h 0 3 = true := by
  rintro as σ K ⟨I, F, B, w, k, rfl, rfl, -⟩
  exact ⟨4, _, rfl, rfl⟩
def P_X0_colourAt (K : aK) (bc bs : Nat) : List (Nat × aT) := [(0, t_ild 1 1),
  (1, t_if (fun x => x < 0) 21 4),
  (4, t_ild 1 5),
  (5, t_ald 0 6),
  (6, t_geti 0 3 1 9),
  (9, t_ifc (fun x y => y ≤ x) 21 12),
  (12, t_ald 0 13),
  (13, t_getr 0 3 0 16),
  (16, t_ild 1 17),
  (17, t_iald 18),
  (18, t_goto 22),
  (21, t_ic 0 22),
  (22, t_iret K bc bs)]
set_option maxRecDepth 100000 in
theorem S_X0_colourAt {X : a_X} {K : aK} {l : Launch} {D : va_G} {G : aG} {N0 : Nat} (C : a_C X cX0_colourAt (some .int) RX0) (Y : a_Y X l (a_rm 1 0 0) D G N0) (M : a_mq X K (a_rm 1 0 0).cells (a_rm 1 0 0).slots) : ∀ x ∈ P_X0_colourAt K 0 0, a_Sd X x.1 x.2 := by
  unfold P_X0_colourAt
  refine List.forall_mem_cons.mpr ⟨s_ildn C dX0_colourAt_0 rfl, ?_⟩
  refine List.forall_mem_cons.mpr ⟨s_if_lt C dX0_colourAt_1 (by decide), ?_⟩
  refine List.forall_mem_cons.mpr ⟨s_ildn C dX0_colourAt_4 rfl, ?_⟩
  refine List.forall_mem_cons.mpr ⟨s_aldn C dX0_colourAt_5 rfl, ?_⟩
  refine List.forall_mem_cons.mpr ⟨s_geti C rfl in_X0 (by decide) lk_X0_15 rfl dX0_colourAt_6, ?_⟩
  refine List.forall_mem_cons.mpr ⟨s_icmp_ge C dX0_colourAt_9 (by decide), ?_⟩
  refine List.forall_mem_cons.mpr ⟨s_aldn C dX0_colourAt_12 rfl, ?_⟩
  refine List.forall_mem_cons.mpr ⟨s_getr C rfl in_X0 (by decide) lk_X0_9 rfl dX0_colourAt_13, ?_⟩
  refine List.forall_mem_cons.mpr ⟨s_ildn C dX0_colourAt_16 rfl, ?_⟩
  refine List.forall_mem_cons.mpr ⟨s_iald C dX0_colourAt_17, ?_⟩
  refine List.forall_mem_cons.mpr ⟨s_goto C dX0_colourAt_18 (by decide), ?_⟩
  refine List.forall_mem_cons.mpr ⟨s_ic C dX0_colourAt_21 (by decide), ?_⟩
  refine List.forall_mem_cons.mpr ⟨s_iret C M dX0_colourAt_22, ?_⟩
  exact fun _ h => absurd h List.not_mem_nil
theorem con_X0_colourAt : a_Con l D G N0 yX0_colourAt cX0_colourAt 2 (some .int) (a_rm 1 0 0) sp_X0_colourAt := by
  refine a_con (by decide) (fun as σ K h => by obtain ⟨I, F, B, w, k, rfl, rfl, -⟩ := h; exact Nat.le_refl _) ?_
  intro X as σ K h C Y M _
  obtain ⟨I, F, B, sz, i, rfl, rfl, hsz, hle, hK⟩ := h
  refine a_wps (S_X0_colourAt C Y M) (inv := a_ni) a_nih 30 _ _ _ _ _ _ ?_
  refine ⟨fun h1 => ?_, fun h1 => ⟨fun h2 => ?_, fun h2 => ?_⟩⟩
  · rw [if_pos (show m_in i 0 (nI sz - 1) = 0 from if_pos h1)] at hK; exact hK
  · have h2 : I 4 1 ≤ i := h2
    rw [hsz] at h2
    rw [if_pos (show m_in i 0 (nI sz - 1) = 0 by unfold m_in; rw [if_neg h1, if_pos ((l_iffq (by omega) h1).mp h2)])] at hK
    exact hK
  · have h2 : ¬ I 4 1 ≤ i := h2
    rw [hsz] at h2
    rw [if_neg (show ¬ m_in i 0 (nI sz - 1) = 0 by unfold m_in; rw [if_neg h1, if_neg (fun w => h2 ((l_iffq (by omega) h1).mpr w))]; decide)] at hK
    obtain ⟨j, hj, rfl⟩ := nI_of h1
    have hjs : j < sz := Nat.not_le.mp (fun w => h2 (nI_le w hj))
    have hv : vp_in (nI j) 144 := vp_in_nI (by omega) (by decide)
    exact ⟨hv, hK⟩
def sp_X0_changesInRows : aP := fun as σ K => ∃ I F B sz wd, σ = a_mk I F B ∧ as = [.inr (some 4)] ∧ I 4 1 = nI sz ∧ I 4 2 = nI wd ∧ sz ≤ 144 ∧ wd ≤ 12 ∧ (0 < sz → 0 < wd) ∧ K (some (.inl (nI (c_g (I 5) wd sz)))) σ
theorem rc_X0_changesInRows : ∀ as σ K, sp_X0_changesInRows as σ K → ∃ h As, as = .inr (some h) :: As ∧ a_is σ h 0 3 = true := by
  rintro as σ K ⟨I, F, B, w, k, rfl, rfl, -⟩
  exact ⟨4, _, rfl, rfl⟩
def P_X0_changesInRows (K : aK) (bc bs : Nat) : List (Nat × aT) := [(0, t_ald 0 1),
  (1, t_geti 0 3 2 4),
  (4, t_if (fun x => x = 0) 7 9),
  (7, t_ic 0 8),
  (8, t_iret K bc bs),
  (9, t_ic 0 10),
  (10, t_ist 1 11),
  (11, t_ic 1 12),
  (12, t_ist 2 13),
  (13, t_ild 2 14),
  (14, t_ald 0 15),
  (15, t_geti 0 3 1 18),
  (18, t_ifc (fun x y => y ≤ x) 56 21),
  (21, t_ild 2 22),
  (22, t_ald 0 23),
  (23, t_geti 0 3 2 26),
  (26, t_rem 27),
  (27, t_if (fun x => x = 0) 50 30),
  (30, t_ald 0 31),
  (31, t_getr 0 3 0 34),
  (34, t_ild 2 35),
  (35, t_iald 36),
  (36, t_ald 0 37),
  (37, t_getr 0 3 0 40),
  (40, t_ild 2 41),
  (41, t_ic 1 42),
  (42, t_sub 43),
  (43, t_iald 44),
  (44, t_ifc (fun x y => x = y) 50 47),
  (47, t_iinc 1 1 50),
  (50, t_iinc 2 1 53),
  (53, t_goto 13),
  (56, t_ild 1 57),
  (57, t_iret K bc bs)]
set_option maxRecDepth 100000 in
theorem S_X0_changesInRows {X : a_X} {K : aK} {l : Launch} {D : va_G} {G : aG} {N0 : Nat} (C : a_C X cX0_changesInRows (some .int) RX0) (Y : a_Y X l (a_rm 1 0 0) D G N0) (M : a_mq X K (a_rm 1 0 0).cells (a_rm 1 0 0).slots) : ∀ x ∈ P_X0_changesInRows K 0 0, a_Sd X x.1 x.2 := by
  unfold P_X0_changesInRows
  refine List.forall_mem_cons.mpr ⟨s_aldn C dX0_changesInRows_0 rfl, ?_⟩
  refine List.forall_mem_cons.mpr ⟨s_geti C rfl in_X0 (by decide) lk_X0_19 rfl dX0_changesInRows_1, ?_⟩
  refine List.forall_mem_cons.mpr ⟨s_if_ne C dX0_changesInRows_4 (by decide), ?_⟩
  refine List.forall_mem_cons.mpr ⟨s_ic C dX0_changesInRows_7 (by decide), ?_⟩
  refine List.forall_mem_cons.mpr ⟨s_iret C M dX0_changesInRows_8, ?_⟩
  refine List.forall_mem_cons.mpr ⟨s_ic C dX0_changesInRows_9 (by decide), ?_⟩
  refine List.forall_mem_cons.mpr ⟨s_istn C dX0_changesInRows_10 rfl, ?_⟩
  refine List.forall_mem_cons.mpr ⟨s_ic C dX0_changesInRows_11 (by decide), ?_⟩
  refine List.forall_mem_cons.mpr ⟨s_istn C dX0_changesInRows_12 rfl, ?_⟩
  refine List.forall_mem_cons.mpr ⟨s_ildn C dX0_changesInRows_13 rfl, ?_⟩
  refine List.forall_mem_cons.mpr ⟨s_aldn C dX0_changesInRows_14 rfl, ?_⟩
  refine List.forall_mem_cons.mpr ⟨s_geti C rfl in_X0 (by decide) lk_X0_15 rfl dX0_changesInRows_15, ?_⟩
  refine List.forall_mem_cons.mpr ⟨s_icmp_ge C dX0_changesInRows_18 (by decide), ?_⟩
  refine List.forall_mem_cons.mpr ⟨s_ildn C dX0_changesInRows_21 rfl, ?_⟩
  refine List.forall_mem_cons.mpr ⟨s_aldn C dX0_changesInRows_22 rfl, ?_⟩
  refine List.forall_mem_cons.mpr ⟨s_geti C rfl in_X0 (by decide) lk_X0_19 rfl dX0_changesInRows_23, ?_⟩
  refine List.forall_mem_cons.mpr ⟨s_rem C dX0_changesInRows_26, ?_⟩
  refine List.forall_mem_cons.mpr ⟨s_if_eq C dX0_changesInRows_27 (by decide), ?_⟩
  refine List.forall_mem_cons.mpr ⟨s_aldn C dX0_changesInRows_30 rfl, ?_⟩
  refine List.forall_mem_cons.mpr ⟨s_getr C rfl in_X0 (by decide) lk_X0_9 rfl dX0_changesInRows_31, ?_⟩
  refine List.forall_mem_cons.mpr ⟨s_ildn C dX0_changesInRows_34 rfl, ?_⟩
  refine List.forall_mem_cons.mpr ⟨s_iald C dX0_changesInRows_35, ?_⟩
  refine List.forall_mem_cons.mpr ⟨s_aldn C dX0_changesInRows_36 rfl, ?_⟩
  refine List.forall_mem_cons.mpr ⟨s_getr C rfl in_X0 (by decide) lk_X0_9 rfl dX0_changesInRows_37, ?_⟩
  refine List.forall_mem_cons.mpr ⟨s_ildn C dX0_changesInRows_40 rfl, ?_⟩
  refine List.forall_mem_cons.mpr ⟨s_ic C dX0_changesInRows_41 (by decide), ?_⟩
  refine List.forall_mem_cons.mpr ⟨s_sub C dX0_changesInRows_42, ?_⟩
  refine List.forall_mem_cons.mpr ⟨s_iald C dX0_changesInRows_43, ?_⟩
  refine List.forall_mem_cons.mpr ⟨s_icmp_eq C dX0_changesInRows_44 (by decide), ?_⟩
  refine List.forall_mem_cons.mpr ⟨s_iinc C dX0_changesInRows_47 (by decide), ?_⟩
  refine List.forall_mem_cons.mpr ⟨s_iinc C dX0_changesInRows_50 (by decide), ?_⟩
  refine List.forall_mem_cons.mpr ⟨s_goto C dX0_changesInRows_53 (by decide), ?_⟩
  refine List.forall_mem_cons.mpr ⟨s_ildn C dX0_changesInRows_56 rfl, ?_⟩
  refine List.forall_mem_cons.mpr ⟨s_iret C M dX0_changesInRows_57, ?_⟩
  exact fun _ h => absurd h List.not_mem_nil
set_option maxRecDepth 20000 in
theorem con_X0_changesInRows : a_Con l D G N0 yX0_changesInRows cX0_changesInRows 3 (some .int) (a_rm 1 0 0) sp_X0_changesInRows := by
  refine a_con (by decide) (fun as σ K h => by obtain ⟨I, F, B, w, k, rfl, rfl, -⟩ := h; exact (by decide : 1 ≤ 3)) ?_
  intro X as σ K h C Y M _
  obtain ⟨I, F, B, sz, wd, rfl, rfl, hsz, hwd, hle, hw12, hw0, hK⟩ := h
  have hS := S_X0_changesInRows C Y M
  by_cases hwz : wd = 0
  · have hs0 : sz = 0 := by
      rcases Nat.eq_zero_or_pos sz with z | z
      · exact z
      · have := hw0 z; omega
    subst hs0
    subst hwz
    have hK : K (some (.inl (nI 0))) (a_mk I F B) := hK
    rw [nI_0] at hK
    refine a_wps hS (inv := a_iv X [13]) a_ivh 30 _ _ _ _ _ _ ?_
    exact ⟨fun _ => hK, fun w => absurd (show I 4 2 = 0 by rw [hwd]; exact nI_0) w⟩
  have hwp : 0 < wd := by omega
  have hwne : ¬ I 4 2 = 0 := by rw [hwd]; exact nI_ne0 hwp (by omega)
  have loop : ∀ m i, 1 ≤ i → (i + m = sz ∨ (sz = 0 ∧ i = 1 ∧ m = 0)) → a_J X 13 [some (.inr (some 4)), some (.inl (nI (c_g (I 5) wd i))), some (.inl (nI i))] [] (a_mk I F B) 0 0 := by
    intro m
    induction m with
    | zero =>
      intro i h1 hi
      have hge : I 4 1 ≤ nI i := by
        rw [hsz]
        exact nI_le (by omega) (by omega)
      have e : c_g (I 5) wd i = c_g (I 5) wd sz := by
        rcases hi with hi | ⟨hi, hi2, -⟩
        · rw [show i = sz by omega]
        · subst hi hi2
          show c_g (I 5) wd 0 + (if ¬ 0 % wd = 0 ∧ _ then 1 else 0) = _
          rw [if_neg (fun w => w.1 (Nat.zero_mod wd))]
          rfl
      rw [e]
      exact a_wp1 hS a_ivh (inv := a_iv X [13]) 40 13 _ rfl ⟨fun _ => hK, fun w => absurd hge w⟩
    | succ m ih =>
      intro i h1 hi
      have hi : i + (m + 1) = sz := by omega
      have hn : ¬ I 4 1 ≤ nI i := by rw [hsz]; exact nI_ge (by omega) (by omega)
      have hcl : (nI i).toNatClampNeg = i := nI_clamp (by omega)
      have hv : vp_in (nI i) 144 := vp_in_nI (by omega) (by decide)
      have erem : a_rem (nI i) (I 4 2) = nI (i % wd) := by rw [hwd]; exact a_remN (by omega) hwp (by omega)
      obtain ⟨i', rfl⟩ : ∃ i', i = i' + 1 := ⟨i - 1, by omega⟩
      have hcl2 : (nI (i' + 1) - 1).toNatClampNeg = i' := by rw [nI_pred]; exact nI_clamp (by omega)
      have ih := ih (i' + 1 + 1) (by omega) (Or.inl (by omega))
      refine a_wp1 hS a_ivh (inv := a_iv X [13]) 40 13 _ rfl ⟨fun w => absurd w hn, fun _ => ⟨hwne, fun h => ?_, fun h => ⟨hv, by show vp_in (nI (i' + 1) - 1) 144; rw [nI_pred]; exact vp_in_nI (by omega) (by decide), fun h2 => ?_, fun h2 => ?_⟩⟩⟩
      · have h : a_rem (nI (i' + 1)) (I 4 2) = 0 := h
        rw [erem] at h
        have hz : (i' + 1) % wd = 0 := (nI_eq (b := 0) (by have := Nat.mod_lt (i' + 1) hwp; omega) (by decide)).mp (h.trans nI_0.symm)
        rw [show c_g (I 5) wd (i' + 1 + 1) = c_g (I 5) wd (i' + 1) by show c_g (I 5) wd (i' + 1) + (if _ then _ else _) = _; rw [if_neg (fun w => w.1 hz)]; rfl, ← nI_1 (i' + 1)] at ih
        exact ih
      · have h2 : I 5 (nI (i' + 1)).toNatClampNeg = I 5 (nI (i' + 1) - 1).toNatClampNeg := h2
        rw [hcl, hcl2] at h2
        rw [show c_g (I 5) wd (i' + 1 + 1) = c_g (I 5) wd (i' + 1) by show c_g (I 5) wd (i' + 1) + (if _ then _ else _) = _; rw [if_neg (fun w => w.2 h2)]; rfl, ← nI_1 (i' + 1)] at ih
        exact ih
      · have h : ¬ a_rem (nI (i' + 1)) (I 4 2) = 0 := h
        rw [erem] at h
        have hz : ¬ (i' + 1) % wd = 0 := fun z => h (by rw [z]; exact nI_0)
        have h2 : ¬ I 5 (nI (i' + 1)).toNatClampNeg = I 5 (nI (i' + 1) - 1).toNatClampNeg := h2
        rw [hcl, hcl2] at h2
        rw [show c_g (I 5) wd (i' + 1 + 1) = c_g (I 5) wd (i' + 1) + 1 by show c_g (I 5) wd (i' + 1) + (if _ then _ else _) = _; rw [if_pos ⟨hz, h2⟩], ← nI_1 (i' + 1), ← nI_1 (c_g (I 5) wd (i' + 1))] at ih
        exact ih
  have h1 : a_J X 13 [some (.inr (some 4)), some (.inl (nI (c_g (I 5) wd 1))), some (.inl (nI 1))] [] (a_mk I F B) 0 0 := by
    rcases Nat.eq_zero_or_pos sz with z | z
    · exact loop 0 1 (by omega) (Or.inr ⟨z, rfl, rfl⟩)
    · exact loop (sz - 1) 1 (by omega) (Or.inl (by omega))
  have e1 : c_g (I 5) wd 1 = 0 := by
    show c_g (I 5) wd 0 + (if ¬ 0 % wd = 0 ∧ _ then 1 else 0) = _
    rw [if_neg (fun w => w.1 (Nat.zero_mod wd))]
    rfl
  rw [e1] at h1
  refine a_wps hS (inv := a_iv X [13]) a_ivh 30 _ _ _ _ _ _ ?_
  exact ⟨fun w => absurd w hwne, fun _ => h1⟩
theorem c_n_mono (C : Nat → Int32) (v : Int32) (i : Nat) : ∀ m, c_n C v i ≤ c_n C v (i + m)
  | 0 => Nat.le_refl _
  | m + 1 => Nat.le_trans (c_n_mono C v i m) (Nat.le_add_right _ _)
def sp_X0_timesFrom : aP := fun as σ K => ∃ I F B sz fi, σ = a_mk I F B ∧ as = [.inr (some 4), .inl (nI fi)] ∧ I 4 1 = nI sz ∧ sz ≤ 144 ∧ fi < sz ∧ K (some (.inl (nI (c_n (I 5) (I 5 fi) sz - c_n (I 5) (I 5 fi) fi)))) σ
theorem rc_X0_timesFrom : ∀ as σ K, sp_X0_timesFrom as σ K → ∃ h As, as = .inr (some h) :: As ∧ a_is σ h 0 3 = true := by
  rintro as σ K ⟨I, F, B, w, k, rfl, rfl, -⟩
  exact ⟨4, _, rfl, rfl⟩
def P_X0_timesFrom (K : aK) (bc bs : Nat) : List (Nat × aT) := [(0, t_ic 0 1),
  (1, t_ist 2 2),
  (2, t_ild 1 3),
  (3, t_ist 3 4),
  (4, t_ild 3 5),
  (5, t_ald 0 6),
  (6, t_geti 0 3 1 9),
  (9, t_ifc (fun x y => y ≤ x) 36 12),
  (12, t_ald 0 13),
  (13, t_getr 0 3 0 16),
  (16, t_ild 3 17),
  (17, t_iald 18),
  (18, t_ald 0 19),
  (19, t_getr 0 3 0 22),
  (22, t_ild 1 23),
  (23, t_iald 24),
  (24, t_ifc (fun x y => x = y) 27 30),
  (27, t_iinc 2 1 30),
  (30, t_iinc 3 1 33),
  (33, t_goto 4),
  (36, t_ild 2 37),
  (37, t_iret K bc bs)]
set_option maxRecDepth 100000 in
theorem S_X0_timesFrom {X : a_X} {K : aK} {l : Launch} {D : va_G} {G : aG} {N0 : Nat} (C : a_C X cX0_timesFrom (some .int) RX0) (Y : a_Y X l (a_rm 1 0 0) D G N0) (M : a_mq X K (a_rm 1 0 0).cells (a_rm 1 0 0).slots) : ∀ x ∈ P_X0_timesFrom K 0 0, a_Sd X x.1 x.2 := by
  unfold P_X0_timesFrom
  refine List.forall_mem_cons.mpr ⟨s_ic C dX0_timesFrom_0 (by decide), ?_⟩
  refine List.forall_mem_cons.mpr ⟨s_istn C dX0_timesFrom_1 rfl, ?_⟩
  refine List.forall_mem_cons.mpr ⟨s_ildn C dX0_timesFrom_2 rfl, ?_⟩
  refine List.forall_mem_cons.mpr ⟨s_istn C dX0_timesFrom_3 rfl, ?_⟩
  refine List.forall_mem_cons.mpr ⟨s_ildn C dX0_timesFrom_4 rfl, ?_⟩
  refine List.forall_mem_cons.mpr ⟨s_aldn C dX0_timesFrom_5 rfl, ?_⟩
  refine List.forall_mem_cons.mpr ⟨s_geti C rfl in_X0 (by decide) lk_X0_15 rfl dX0_timesFrom_6, ?_⟩
  refine List.forall_mem_cons.mpr ⟨s_icmp_ge C dX0_timesFrom_9 (by decide), ?_⟩
  refine List.forall_mem_cons.mpr ⟨s_aldn C dX0_timesFrom_12 rfl, ?_⟩
  refine List.forall_mem_cons.mpr ⟨s_getr C rfl in_X0 (by decide) lk_X0_9 rfl dX0_timesFrom_13, ?_⟩
  refine List.forall_mem_cons.mpr ⟨s_ildn C dX0_timesFrom_16 rfl, ?_⟩
  refine List.forall_mem_cons.mpr ⟨s_iald C dX0_timesFrom_17, ?_⟩
  refine List.forall_mem_cons.mpr ⟨s_aldn C dX0_timesFrom_18 rfl, ?_⟩
  refine List.forall_mem_cons.mpr ⟨s_getr C rfl in_X0 (by decide) lk_X0_9 rfl dX0_timesFrom_19, ?_⟩
  refine List.forall_mem_cons.mpr ⟨s_ildn C dX0_timesFrom_22 rfl, ?_⟩
  refine List.forall_mem_cons.mpr ⟨s_iald C dX0_timesFrom_23, ?_⟩
  refine List.forall_mem_cons.mpr ⟨s_icmp_ne C dX0_timesFrom_24 (by decide), ?_⟩
  refine List.forall_mem_cons.mpr ⟨s_iinc C dX0_timesFrom_27 (by decide), ?_⟩
  refine List.forall_mem_cons.mpr ⟨s_iinc C dX0_timesFrom_30 (by decide), ?_⟩
  refine List.forall_mem_cons.mpr ⟨s_goto C dX0_timesFrom_33 (by decide), ?_⟩
  refine List.forall_mem_cons.mpr ⟨s_ildn C dX0_timesFrom_36 rfl, ?_⟩
  refine List.forall_mem_cons.mpr ⟨s_iret C M dX0_timesFrom_37, ?_⟩
  exact fun _ h => absurd h List.not_mem_nil
set_option maxRecDepth 20000 in
theorem con_X0_timesFrom : a_Con l D G N0 yX0_timesFrom cX0_timesFrom 4 (some .int) (a_rm 1 0 0) sp_X0_timesFrom := by
  refine a_con (by decide) (fun as σ K h => by obtain ⟨I, F, B, w, k, rfl, rfl, -⟩ := h; exact (by decide : 2 ≤ 4)) ?_
  intro X as σ K h C Y M _
  obtain ⟨I, F, B, sz, fi, rfl, rfl, hsz, hle, hfi, hK⟩ := h
  have hS := S_X0_timesFrom C Y M
  have hclf : (nI fi).toNatClampNeg = fi := nI_clamp (by omega)
  have hvf : vp_in (nI fi) 144 := vp_in_nI (by omega) (by decide)
  have loop : ∀ m i, fi ≤ i → i + m = sz → a_J X 4 [some (.inr (some 4)), some (.inl (nI fi)), some (.inl (nI (c_n (I 5) (I 5 fi) i - c_n (I 5) (I 5 fi) fi))), some (.inl (nI i))] [] (a_mk I F B) 0 0 := by
    intro m
    induction m with
    | zero =>
      intro i h0 hi
      have hi : i = sz := by omega
      subst hi
      exact a_wp1 hS a_ivh (inv := a_iv X [4]) 40 4 _ rfl ⟨fun _ => hK, fun w => absurd (show I 4 1 ≤ nI i by rw [hsz]; exact Int32.le_refl _) w⟩
    | succ m ih =>
      intro i h0 hi
      have hn : ¬ I 4 1 ≤ nI i := by rw [hsz]; exact nI_ge (by omega) (by omega)
      have hcl : (nI i).toNatClampNeg = i := nI_clamp (by omega)
      have hv : vp_in (nI i) 144 := vp_in_nI (by omega) (by decide)
      have hmo : c_n (I 5) (I 5 fi) fi ≤ c_n (I 5) (I 5 fi) i := by
        have := c_n_mono (I 5) (I 5 fi) fi (i - fi)
        rw [show fi + (i - fi) = i by omega] at this
        exact this
      have ih := ih (i + 1) (by omega) (by omega)
      refine a_wp1 hS a_ivh (inv := a_iv X [4]) 40 4 _ rfl ⟨fun w => absurd w hn, fun _ => ⟨hv, hvf, fun h => ?_, fun h => ?_⟩⟩
      · have h : I 5 (nI i).toNatClampNeg = I 5 (nI fi).toNatClampNeg := h
        rw [hcl, hclf] at h
        rw [show c_n (I 5) (I 5 fi) (i + 1) - c_n (I 5) (I 5 fi) fi = (c_n (I 5) (I 5 fi) i - c_n (I 5) (I 5 fi) fi) + 1 by show c_n (I 5) (I 5 fi) i + (if _ then _ else _) - _ = _; rw [if_pos h]; omega, ← nI_1 i, ← nI_1] at ih
        exact ih
      · have h : ¬ I 5 (nI i).toNatClampNeg = I 5 (nI fi).toNatClampNeg := h
        rw [hcl, hclf] at h
        rw [show c_n (I 5) (I 5 fi) (i + 1) - c_n (I 5) (I 5 fi) fi = c_n (I 5) (I 5 fi) i - c_n (I 5) (I 5 fi) fi by show c_n (I 5) (I 5 fi) i + (if _ then _ else _) - _ = _; rw [if_neg h]; omega, ← nI_1 i] at ih
        exact ih
  have h1 := loop (sz - fi) fi (Nat.le_refl _) (by omega)
  rw [Nat.sub_self] at h1
  exact a_wps hS (inv := a_iv X [4]) a_ivh 20 _ _ _ _ _ _ h1
def l_b (C : Nat → Int32) (sz : Nat) : Nat → Int32 × Nat
  | 0 => (0, 0)
  | k + 1 => if c_n C (C k) sz - c_n C (C k) k ≤ (l_b C sz k).2 then l_b C sz k else (C k, c_n C (C k) sz - c_n C (C k) k)
theorem c_n_zero {C : Nat → Int32} {v : Int32} : ∀ {k : Nat}, (∀ j, j < k → ¬ C j = v) → c_n C v k = 0
  | 0, _ => rfl
  | k + 1, h => by
    show c_n C v k + (if C k = v then 1 else 0) = 0
    rw [c_n_zero (fun j hj => h j (by omega)), if_neg (h k (by omega))]
theorem c_b_ge (C : Nat → Int32) (sz : Nat) : ∀ k j, j < k → c_n C (C j) sz ≤ (c_b C sz k).2
  | 0, j, h => by omega
  | k + 1, j, h => by
    show c_n C (C j) sz ≤ (if c_n C (C k) sz ≤ (c_b C sz k).2 then c_b C sz k else (C k, c_n C (C k) sz)).2
    by_cases e : c_n C (C k) sz ≤ (c_b C sz k).2
    · rw [if_pos e]
      rcases Nat.lt_or_ge j k with z | z
      · exact c_b_ge C sz k j z
      · rw [show j = k by omega]; exact e
    · rw [if_neg e]
      rcases Nat.lt_or_ge j k with z | z
      · have := c_b_ge C sz k j z
        show _ ≤ c_n C (C k) sz
        omega
      · rw [show j = k by omega]; exact Nat.le_refl _
theorem l_b_eq (C : Nat → Int32) (sz : Nat) : ∀ k, l_b C sz k = c_b C sz k
  | 0 => rfl
  | k + 1 => by
    show (if c_n C (C k) sz - c_n C (C k) k ≤ (l_b C sz k).2 then l_b C sz k else (C k, c_n C (C k) sz - c_n C (C k) k)) = (if c_n C (C k) sz ≤ (c_b C sz k).2 then c_b C sz k else (C k, c_n C (C k) sz))
    rw [l_b_eq C sz k]
    by_cases e : ∃ j, j < k ∧ C j = C k
    · obtain ⟨j, hj, ej⟩ := e
      have := c_b_ge C sz k j hj
      rw [ej] at this
      rw [if_pos this, if_pos (by omega)]
    · rw [c_n_zero (fun j hj w => e ⟨j, hj, w⟩), Nat.sub_zero]
def sp_X0_mostOften : aP := fun as σ K => ∃ I F B sz, σ = a_mk I F B ∧ as = [.inr (some 4)] ∧ I 4 1 = nI sz ∧ sz ≤ 144 ∧ K (some (.inl (c_b (I 5) sz sz).1)) σ
theorem rc_X0_mostOften : ∀ as σ K, sp_X0_mostOften as σ K → ∃ h As, as = .inr (some h) :: As ∧ a_is σ h 0 3 = true := by
  rintro as σ K ⟨I, F, B, sz, rfl, rfl, -⟩
  exact ⟨4, _, rfl, rfl⟩
def P_X0_mostOften (K : aK) (bc bs : Nat) : List (Nat × aT) := [(0, t_ic 0 1),
  (1, t_ist 1 2),
  (2, t_ic 0 3),
  (3, t_ist 2 4),
  (4, t_ic 0 5),
  (5, t_ist 3 6),
  (6, t_ild 3 7),
  (7, t_ald 0 8),
  (8, t_geti 0 3 1 11),
  (11, t_ifc (fun x y => y ≤ x) 43 14),
  (14, t_ald 0 15),
  (15, t_ild 3 16),
  (16, t_call 2 0 0 bc bs sp_X0_timesFrom 19),
  (19, t_ist 4 21),
  (21, t_ild 4 23),
  (23, t_ild 2 24),
  (24, t_ifc (fun x y => x ≤ y) 37 27),
  (27, t_ald 0 28),
  (28, t_getr 0 3 0 31),
  (31, t_ild 3 32),
  (32, t_iald 33),
  (33, t_ist 1 34),
  (34, t_ild 4 36),
  (36, t_ist 2 37),
  (37, t_iinc 3 1 40),
  (40, t_goto 6),
  (43, t_ild 1 44),
  (44, t_iret K bc bs)]
set_option maxRecDepth 100000 in
theorem S_X0_mostOften {X : a_X} {K : aK} {l : Launch} {D : va_G} {G : aG} {N0 : Nat} (C : a_C X cX0_mostOften (some .int) RX0) (Y : a_Y X l (a_rm 2 0 0) D G N0) (M : a_mq X K (a_rm 2 0 0).cells (a_rm 2 0 0).slots) : ∀ x ∈ P_X0_mostOften K 0 0, a_Sd X x.1 x.2 := by
  unfold P_X0_mostOften
  refine List.forall_mem_cons.mpr ⟨s_ic C dX0_mostOften_0 (by decide), ?_⟩
  refine List.forall_mem_cons.mpr ⟨s_istn C dX0_mostOften_1 rfl, ?_⟩
  refine List.forall_mem_cons.mpr ⟨s_ic C dX0_mostOften_2 (by decide), ?_⟩
  refine List.forall_mem_cons.mpr ⟨s_istn C dX0_mostOften_3 rfl, ?_⟩
  refine List.forall_mem_cons.mpr ⟨s_ic C dX0_mostOften_4 (by decide), ?_⟩
  refine List.forall_mem_cons.mpr ⟨s_istn C dX0_mostOften_5 rfl, ?_⟩
  refine List.forall_mem_cons.mpr ⟨s_ildn C dX0_mostOften_6 rfl, ?_⟩
  refine List.forall_mem_cons.mpr ⟨s_aldn C dX0_mostOften_7 rfl, ?_⟩
  refine List.forall_mem_cons.mpr ⟨s_geti C rfl in_X0 (by decide) lk_X0_15 rfl dX0_mostOften_8, ?_⟩
  refine List.forall_mem_cons.mpr ⟨s_icmp_ge C dX0_mostOften_11 (by decide), ?_⟩
  refine List.forall_mem_cons.mpr ⟨s_aldn C dX0_mostOften_14 rfl, ?_⟩
  refine List.forall_mem_cons.mpr ⟨s_ildn C dX0_mostOften_15 rfl, ?_⟩
  refine List.forall_mem_cons.mpr ⟨s_callV (rm := (a_rm 1 0 0)) (n := 1) C Y (ci := 0) rfl con_X0_timesFrom rc_X0_timesFrom co_X0_timesFrom ml_X0_22 im_X0_timesFrom se_X0_timesFrom ii_X0 (by decide +kernel) ⟨by decide, by decide⟩ ⟨rfl, rfl⟩ dX0_mostOften_16, ?_⟩
  refine List.forall_mem_cons.mpr ⟨s_ist C dX0_mostOften_19, ?_⟩
  refine List.forall_mem_cons.mpr ⟨s_ild C dX0_mostOften_21, ?_⟩
  refine List.forall_mem_cons.mpr ⟨s_ildn C dX0_mostOften_23 rfl, ?_⟩
  refine List.forall_mem_cons.mpr ⟨s_icmp_le C dX0_mostOften_24 (by decide), ?_⟩
  refine List.forall_mem_cons.mpr ⟨s_aldn C dX0_mostOften_27 rfl, ?_⟩
  refine List.forall_mem_cons.mpr ⟨s_getr C rfl in_X0 (by decide) lk_X0_9 rfl dX0_mostOften_28, ?_⟩
  refine List.forall_mem_cons.mpr ⟨s_ildn C dX0_mostOften_31 rfl, ?_⟩
  refine List.forall_mem_cons.mpr ⟨s_iald C dX0_mostOften_32, ?_⟩
  refine List.forall_mem_cons.mpr ⟨s_istn C dX0_mostOften_33 rfl, ?_⟩
  refine List.forall_mem_cons.mpr ⟨s_ild C dX0_mostOften_34, ?_⟩
  refine List.forall_mem_cons.mpr ⟨s_istn C dX0_mostOften_36 rfl, ?_⟩
  refine List.forall_mem_cons.mpr ⟨s_iinc C dX0_mostOften_37 (by decide), ?_⟩
  refine List.forall_mem_cons.mpr ⟨s_goto C dX0_mostOften_40 (by decide), ?_⟩
  refine List.forall_mem_cons.mpr ⟨s_ildn C dX0_mostOften_43 rfl, ?_⟩
  refine List.forall_mem_cons.mpr ⟨s_iret C M dX0_mostOften_44, ?_⟩
  exact fun _ h => absurd h List.not_mem_nil
set_option maxRecDepth 20000 in
theorem con_X0_mostOften : a_Con l D G N0 yX0_mostOften cX0_mostOften 5 (some .int) (a_rm 2 0 0) sp_X0_mostOften := by
  refine a_con (by decide) (fun as σ K h => by obtain ⟨I, F, B, sz, rfl, rfl, -⟩ := h; exact (by decide : 1 ≤ 5)) ?_
  intro X as σ K h C Y M _
  obtain ⟨I, F, B, sz, rfl, rfl, hsz, hle, hK⟩ := h
  rw [← l_b_eq] at hK
  have hS := S_X0_mostOften C Y M
  have loop : ∀ m i (q : Option aV), i + m = sz → a_J X 6 [some (.inr (some 4)), some (.inl (l_b (I 5) sz i).1), some (.inl (nI (l_b (I 5) sz i).2)), some (.inl (nI i)), q] [] (a_mk I F B) 0 0 := by
    intro m
    induction m with
    | zero =>
      intro i q hi
      have hi : i = sz := by omega
      subst hi
      exact a_wp1 hS a_ivh (inv := a_iv X [6]) 40 6 _ rfl ⟨fun _ => hK, fun w => absurd (show I 4 1 ≤ nI i by rw [hsz]; exact Int32.le_refl _) w⟩
    | succ m ih =>
      intro i q hi
      have hlt : i < sz := by omega
      have hn : ¬ I 4 1 ≤ nI i := by rw [hsz]; exact nI_ge hlt (by omega)
      have hcl : (nI i).toNatClampNeg = i := nI_clamp (by omega)
      have hv : vp_in (nI i) 144 := vp_in_nI (by omega) (by decide)
      have b1 := c_n_le (I 5) (I 5 i) sz
      have b2 := c_b_le (I 5) sz i
      rw [← l_b_eq] at b2
      generalize hnn : c_n (I 5) (I 5 i) sz - c_n (I 5) (I 5 i) i = nn
      have b3 : nn ≤ 144 := by omega
      refine a_wp1 hS a_ivh (inv := a_iv X [6]) 40 6 _ rfl ⟨fun w => absurd w hn, fun _ => ⟨I, F, B, sz, i, rfl, rfl, hsz, hle, hlt, ?_⟩⟩
      rw [hnn]
      refine ⟨fun h => ?_, fun h => ⟨hv, ?_⟩⟩
      · have h : nI nn ≤ nI (l_b (I 5) sz i).2 := h
        have h := (nI_leI (by omega) (by omega)).mp h
        have ih := ih (i + 1) (some (.inl (nI nn))) (by omega)
        rw [show l_b (I 5) sz (i + 1) = l_b (I 5) sz i from if_pos (by rw [hnn]; exact h), ← nI_1 i] at ih
        exact ih
      · have h : ¬ nI nn ≤ nI (l_b (I 5) sz i).2 := h
        have h : ¬ nn ≤ (l_b (I 5) sz i).2 := fun w => h ((nI_leI (by omega) (by omega)).mpr w)
        have ih := ih (i + 1) (some (.inl (nI nn))) (by omega)
        rw [show l_b (I 5) sz (i + 1) = (I 5 i, nn) by show (if _ then _ else _) = _; rw [hnn, if_neg h], ← nI_1 i] at ih
        show a_J X 6 [some (.inr (some 4)), some (.inl (I 5 (nI i).toNatClampNeg)), some (.inl (nI nn)), some (.inl (nI i + 1)), some (.inl (nI nn))] [] (a_mk I F B) 0 0
        rw [hcl]
        exact ih
  exact a_wps hS (inv := a_iv X [6]) a_ivh 20 _ _ _ _ _ _ (loop sz 0 none (by omega))
def sp_X2_cloth : aP := fun as σ K => ∃ I F B sz i, σ = a_mk I F B ∧ as = [.inr (some 0), .inl i] ∧ I 4 1 = nI sz ∧ sz ≤ 144 ∧ K (some (.inl (if m_in i 0 (nI sz - 1) = 0 then 0 else I 5 i.toNatClampNeg))) σ
theorem rc_X2_cloth : ∀ as σ K, sp_X2_cloth as σ K → ∃ h As, as = .inr (some h) :: As ∧ a_is σ h 2 10 = true := by
  rintro as σ K ⟨I, F, B, w, k, rfl, rfl, -⟩
  exact ⟨0, _, rfl, rfl⟩
def P_X2_cloth (K : aK) (bc bs : Nat) : List (Nat × aT) := [(0, t_ald 0 1),
  (1, t_getr 2 10 3 4),
  (4, t_ild 1 5),
  (5, t_call 2 0 0 bc bs sp_X0_colourAt 8),
  (8, t_iret K bc bs)]
set_option maxRecDepth 100000 in
theorem S_X2_cloth {X : a_X} {K : aK} {l : Launch} {D : va_G} {G : aG} {N0 : Nat} (C : a_C X cX2_cloth (some .int) RX2) (Y : a_Y X l (a_rm 2 0 0) D G N0) (M : a_mq X K (a_rm 2 0 0).cells (a_rm 2 0 0).slots) : ∀ x ∈ P_X2_cloth K 0 0, a_Sd X x.1 x.2 := by
  unfold P_X2_cloth
  refine List.forall_mem_cons.mpr ⟨s_aldn C dX2_cloth_0 rfl, ?_⟩
  refine List.forall_mem_cons.mpr ⟨s_getr C rfl in_X2 (by decide) lk_X2_26 rfl dX2_cloth_1, ?_⟩
  refine List.forall_mem_cons.mpr ⟨s_ildn C dX2_cloth_4 rfl, ?_⟩
  refine List.forall_mem_cons.mpr ⟨s_callV (rm := (a_rm 1 0 0)) (n := 1) C Y (ci := 0) rfl con_X0_colourAt rc_X0_colourAt co_X0_colourAt ml_X2_89 im_X0_colourAt se_X0_colourAt ii_X0 (by decide +kernel) ⟨by decide, by decide⟩ ⟨rfl, rfl⟩ dX2_cloth_5, ?_⟩
  refine List.forall_mem_cons.mpr ⟨s_iret C M dX2_cloth_8, ?_⟩
  exact fun _ h => absurd h List.not_mem_nil
theorem con_X2_cloth : a_Con l D G N0 yX2_cloth cX2_cloth 2 (some .int) (a_rm 2 0 0) sp_X2_cloth := by
  refine a_con (by decide) (fun as σ K h => by obtain ⟨I, F, B, w, k, rfl, rfl, -⟩ := h; exact Nat.le_refl _) ?_
  intro X as σ K h C Y M _
  obtain ⟨I, F, B, sz, i, rfl, rfl, hsz, hle, hK⟩ := h
  exact a_wps (S_X2_cloth C Y M) (inv := a_ni) a_nih 30 _ _ _ _ _ _ ⟨I, F, B, sz, i, rfl, rfl, hsz, hle, hK⟩
def sp_X2_changes : aP := fun as σ K => ∃ I F B sz wd, σ = a_mk I F B ∧ as = [.inr (some 0)] ∧ I 4 1 = nI sz ∧ I 4 2 = nI wd ∧ sz ≤ 144 ∧ wd ≤ 12 ∧ (0 < sz → 0 < wd) ∧ K (some (.inl (nI (c_g (I 5) wd sz)))) σ
theorem rc_X2_changes : ∀ as σ K, sp_X2_changes as σ K → ∃ h As, as = .inr (some h) :: As ∧ a_is σ h 2 10 = true := by
  rintro as σ K ⟨I, F, B, w, k, rfl, rfl, -⟩
  exact ⟨0, _, rfl, rfl⟩
def P_X2_changes (K : aK) (bc bs : Nat) : List (Nat × aT) := [(0, t_ald 0 1),
  (1, t_getr 2 10 3 4),
  (4, t_call 1 0 0 bc bs sp_X0_changesInRows 7),
  (7, t_iret K bc bs)]
set_option maxRecDepth 100000 in
theorem S_X2_changes {X : a_X} {K : aK} {l : Launch} {D : va_G} {G : aG} {N0 : Nat} (C : a_C X cX2_changes (some .int) RX2) (Y : a_Y X l (a_rm 2 0 0) D G N0) (M : a_mq X K (a_rm 2 0 0).cells (a_rm 2 0 0).slots) : ∀ x ∈ P_X2_changes K 0 0, a_Sd X x.1 x.2 := by
  unfold P_X2_changes
  refine List.forall_mem_cons.mpr ⟨s_aldn C dX2_changes_0 rfl, ?_⟩
  refine List.forall_mem_cons.mpr ⟨s_getr C rfl in_X2 (by decide) lk_X2_26 rfl dX2_changes_1, ?_⟩
  refine List.forall_mem_cons.mpr ⟨s_callV (rm := (a_rm 1 0 0)) (n := 0) C Y (ci := 0) rfl con_X0_changesInRows rc_X0_changesInRows co_X0_changesInRows ml_X2_93 im_X0_changesInRows se_X0_changesInRows ii_X0 (by decide +kernel) ⟨by decide, by decide⟩ ⟨rfl, rfl⟩ dX2_changes_4, ?_⟩
  refine List.forall_mem_cons.mpr ⟨s_iret C M dX2_changes_7, ?_⟩
  exact fun _ h => absurd h List.not_mem_nil
theorem con_X2_changes : a_Con l D G N0 yX2_changes cX2_changes 1 (some .int) (a_rm 2 0 0) sp_X2_changes := by
  refine a_con (by decide) (fun as σ K h => by obtain ⟨I, F, B, w, k, rfl, rfl, -⟩ := h; exact Nat.le_refl _) ?_
  intro X as σ K h C Y M _
  obtain ⟨I, F, B, sz, wd, rfl, rfl, h1, h2, h3, h4, h5, hK⟩ := h
  exact a_wps (S_X2_changes C Y M) (inv := a_ni) a_nih 30 _ _ _ _ _ _ ⟨I, F, B, sz, wd, rfl, rfl, h1, h2, h3, h4, h5, hK⟩
def sp_X2_most : aP := fun as σ K => ∃ I F B sz, σ = a_mk I F B ∧ as = [.inr (some 0)] ∧ I 4 1 = nI sz ∧ sz ≤ 144 ∧ K (some (.inl (c_b (I 5) sz sz).1)) σ
theorem rc_X2_most : ∀ as σ K, sp_X2_most as σ K → ∃ h As, as = .inr (some h) :: As ∧ a_is σ h 2 10 = true := by
  rintro as σ K ⟨I, F, B, w, rfl, rfl, -⟩
  exact ⟨0, _, rfl, rfl⟩
def P_X2_most (K : aK) (bc bs : Nat) : List (Nat × aT) := [(0, t_ald 0 1),
  (1, t_getr 2 10 3 4),
  (4, t_call 1 0 0 bc bs sp_X0_mostOften 7),
  (7, t_iret K bc bs)]
set_option maxRecDepth 100000 in
theorem S_X2_most {X : a_X} {K : aK} {l : Launch} {D : va_G} {G : aG} {N0 : Nat} (C : a_C X cX2_most (some .int) RX2) (Y : a_Y X l (a_rm 3 0 0) D G N0) (M : a_mq X K (a_rm 3 0 0).cells (a_rm 3 0 0).slots) : ∀ x ∈ P_X2_most K 0 0, a_Sd X x.1 x.2 := by
  unfold P_X2_most
  refine List.forall_mem_cons.mpr ⟨s_aldn C dX2_most_0 rfl, ?_⟩
  refine List.forall_mem_cons.mpr ⟨s_getr C rfl in_X2 (by decide) lk_X2_26 rfl dX2_most_1, ?_⟩
  refine List.forall_mem_cons.mpr ⟨s_callV (rm := (a_rm 2 0 0)) (n := 0) C Y (ci := 0) rfl con_X0_mostOften rc_X0_mostOften co_X0_mostOften ml_X2_97 im_X0_mostOften se_X0_mostOften ii_X0 (by decide +kernel) ⟨by decide, by decide⟩ ⟨rfl, rfl⟩ dX2_most_4, ?_⟩
  refine List.forall_mem_cons.mpr ⟨s_iret C M dX2_most_7, ?_⟩
  exact fun _ h => absurd h List.not_mem_nil
theorem con_X2_most : a_Con l D G N0 yX2_most cX2_most 1 (some .int) (a_rm 3 0 0) sp_X2_most := by
  refine a_con (by decide) (fun as σ K h => by obtain ⟨I, F, B, w, rfl, rfl, -⟩ := h; exact Nat.le_refl _) ?_
  intro X as σ K h C Y M _
  obtain ⟨I, F, B, sz, rfl, rfl, h1, h2, hK⟩ := h
  exact a_wps (S_X2_most C Y M) (inv := a_ni) a_nih 30 _ _ _ _ _ _ ⟨I, F, B, sz, rfl, rfl, h1, h2, hK⟩
def sp_X2_why : aP := fun as σ K => ∃ I F B, σ = a_mk I F B ∧ as = [.inr (some 0)] ∧ K (some (.inl (I 0 5))) σ
theorem rc_X2_why : ∀ as σ K, sp_X2_why as σ K → ∃ h As, as = .inr (some h) :: As ∧ a_is σ h 2 10 = true := by
  rintro as σ K ⟨I, F, B, rfl, rfl, -⟩
  exact ⟨0, _, rfl, rfl⟩
def P_X2_why (K : aK) (bc bs : Nat) : List (Nat × aT) := [(0, t_ald 0 1),
  (1, t_geti 2 10 5 4),
  (4, t_iret K bc bs)]
set_option maxRecDepth 100000 in
theorem S_X2_why {X : a_X} {K : aK} {l : Launch} {D : va_G} {G : aG} {N0 : Nat} (C : a_C X cX2_why (some .int) RX2) (Y : a_Y X l (a_rm 1 0 0) D G N0) (M : a_mq X K (a_rm 1 0 0).cells (a_rm 1 0 0).slots) : ∀ x ∈ P_X2_why K 0 0, a_Sd X x.1 x.2 := by
  unfold P_X2_why
  refine List.forall_mem_cons.mpr ⟨s_aldn C dX2_why_0 rfl, ?_⟩
  refine List.forall_mem_cons.mpr ⟨s_geti C rfl in_X2 (by decide) lk_X2_37 rfl dX2_why_1, ?_⟩
  refine List.forall_mem_cons.mpr ⟨s_iret C M dX2_why_4, ?_⟩
  exact fun _ h => absurd h List.not_mem_nil
theorem con_X2_why : a_Con l D G N0 yX2_why cX2_why 1 (some .int) (a_rm 1 0 0) sp_X2_why := by
  refine a_con (by decide) (fun as σ K h => by obtain ⟨I, F, B, rfl, rfl, -⟩ := h; exact Nat.le_refl _) ?_
  intro X as σ K h C Y M _
  obtain ⟨I, F, B, rfl, rfl, hK⟩ := h
  exact a_wps (S_X2_why C Y M) (inv := a_ni) a_nih 30 _ _ _ _ _ _ hK
def sp_X2_count : aP := fun as σ K => ∃ I F B w, σ = a_mk I F B ∧ as = [.inr (some 0), .inl w] ∧ K (some (.inl (m_cnt (I 0 4) (I 4 1) (I 4 2) (I 0 7) (I 0 9) w))) σ
theorem rc_X2_count : ∀ as σ K, sp_X2_count as σ K → ∃ h As, as = .inr (some h) :: As ∧ a_is σ h 2 10 = true := by
  rintro as σ K ⟨I, F, B, w, rfl, rfl, -⟩
  exact ⟨0, _, rfl, rfl⟩
def P_X2_count (K : aK) (bc bs : Nat) : List (Nat × aT) := [(0, t_ild 1 1),
  (1, t_sw [(0, 36), (1, 41), (2, 49), (3, 57), (4, 62)] 67),
  (36, t_ald 0 37),
  (37, t_geti 2 10 4 40),
  (40, t_iret K bc bs),
  (41, t_ald 0 42),
  (42, t_getr 2 10 3 45),
  (45, t_geti 0 3 1 48),
  (48, t_iret K bc bs),
  (49, t_ald 0 50),
  (50, t_getr 2 10 3 53),
  (53, t_geti 0 3 2 56),
  (56, t_iret K bc bs),
  (57, t_ald 0 58),
  (58, t_geti 2 10 7 61),
  (61, t_iret K bc bs),
  (62, t_ald 0 63),
  (63, t_geti 2 10 9 66),
  (66, t_iret K bc bs),
  (67, t_ic (-2) 69),
  (69, t_iret K bc bs)]
set_option maxRecDepth 100000 in
theorem S_X2_count {X : a_X} {K : aK} {l : Launch} {D : va_G} {G : aG} {N0 : Nat} (C : a_C X cX2_count (some .int) RX2) (Y : a_Y X l (a_rm 1 0 0) D G N0) (M : a_mq X K (a_rm 1 0 0).cells (a_rm 1 0 0).slots) : ∀ x ∈ P_X2_count K 0 0, a_Sd X x.1 x.2 := by
  unfold P_X2_count
  refine List.forall_mem_cons.mpr ⟨s_ildn C dX2_count_0 rfl, ?_⟩
  refine List.forall_mem_cons.mpr ⟨s_tsw C dX2_count_1 (a_tok_of2 4 (by decide) (by decide) (by decide) (by decide)), ?_⟩
  refine List.forall_mem_cons.mpr ⟨s_aldn C dX2_count_36 rfl, ?_⟩
  refine List.forall_mem_cons.mpr ⟨s_geti C rfl in_X2 (by decide) lk_X2_49 rfl dX2_count_37, ?_⟩
  refine List.forall_mem_cons.mpr ⟨s_iret C M dX2_count_40, ?_⟩
  refine List.forall_mem_cons.mpr ⟨s_aldn C dX2_count_41 rfl, ?_⟩
  refine List.forall_mem_cons.mpr ⟨s_getr C rfl in_X2 (by decide) lk_X2_26 rfl dX2_count_42, ?_⟩
  refine List.forall_mem_cons.mpr ⟨s_geti C rfl in_X0 (by decide) lk_X2_100 rfl dX2_count_45, ?_⟩
  refine List.forall_mem_cons.mpr ⟨s_iret C M dX2_count_48, ?_⟩
  refine List.forall_mem_cons.mpr ⟨s_aldn C dX2_count_49 rfl, ?_⟩
  refine List.forall_mem_cons.mpr ⟨s_getr C rfl in_X2 (by decide) lk_X2_26 rfl dX2_count_50, ?_⟩
  refine List.forall_mem_cons.mpr ⟨s_geti C rfl in_X0 (by decide) lk_X2_103 rfl dX2_count_53, ?_⟩
  refine List.forall_mem_cons.mpr ⟨s_iret C M dX2_count_56, ?_⟩
  refine List.forall_mem_cons.mpr ⟨s_aldn C dX2_count_57 rfl, ?_⟩
  refine List.forall_mem_cons.mpr ⟨s_geti C rfl in_X2 (by decide) lk_X2_106 rfl dX2_count_58, ?_⟩
  refine List.forall_mem_cons.mpr ⟨s_iret C M dX2_count_61, ?_⟩
  refine List.forall_mem_cons.mpr ⟨s_aldn C dX2_count_62 rfl, ?_⟩
  refine List.forall_mem_cons.mpr ⟨s_geti C rfl in_X2 (by decide) lk_X2_109 rfl dX2_count_63, ?_⟩
  refine List.forall_mem_cons.mpr ⟨s_iret C M dX2_count_66, ?_⟩
  refine List.forall_mem_cons.mpr ⟨s_bi C dX2_count_67 (by decide), ?_⟩
  refine List.forall_mem_cons.mpr ⟨s_iret C M dX2_count_69, ?_⟩
  exact fun _ h => absurd h List.not_mem_nil
theorem con_X2_count : a_Con l D G N0 yX2_count cX2_count 2 (some .int) (a_rm 1 0 0) sp_X2_count := by
  refine a_con (by decide) (fun as σ K h => by obtain ⟨I, F, B, w, rfl, rfl, -⟩ := h; exact Nat.le_refl _) ?_
  intro X as σ K h C Y M _
  obtain ⟨I, F, B, w, rfl, rfl, hK⟩ := h
  refine a_wps (S_X2_count C Y M) (inv := a_ni) a_nih 60 _ _ _ _ _ _ ?_
  unfold m_cnt at hK
  refine ⟨fun h0 => ?_, fun h0 => ⟨fun h1 => ?_, fun h1 => ⟨fun h2 => ?_, fun h2 => ⟨fun h3 => ?_, fun h3 => ⟨fun h4 => ?_, fun h4 => ?_⟩⟩⟩⟩⟩
  · rw [if_pos h0] at hK; exact hK
  · rw [if_neg h0, if_pos h1] at hK; exact hK
  · rw [if_neg h0, if_neg h1, if_pos h2] at hK; exact hK
  · rw [if_neg h0, if_neg h1, if_neg h2, if_pos h3] at hK; exact hK
  · rw [if_neg h0, if_neg h1, if_neg h2, if_neg h3, if_pos h4] at hK; exact hK
  · rw [if_neg h0, if_neg h1, if_neg h2, if_neg h3, if_neg h4] at hK; exact hK
def sp_X2_dye : aP := fun as σ K => ∃ I F B d i v, σ = a_mk I F B ∧ as = [.inr (some 0), .inl d, .inl i, .inl v] ∧
  ((m_in d 0 3 = 0 ∨ m_in i 0 7 = 0) → K (some (.inl 0)) (a_mk (a_w I 0 5 (-3)) F B)) ∧ (∀ d' i' : Nat, d' < 4 → i' < 8 → d = nI d' → i = nI i' → K (some (.inl (I (6 + d') i'))) (a_mk (a_w (a_w I (6 + d') i' v) 0 5 0) F B))
theorem rc_X2_dye : ∀ as σ K, sp_X2_dye as σ K → ∃ h As, as = .inr (some h) :: As ∧ a_is σ h 2 10 = true := by
  rintro as σ K ⟨I, F, B, c, x, y, rfl, rfl, -⟩
  exact ⟨0, _, rfl, rfl⟩
def P_X2_dye (K : aK) (bc bs : Nat) : List (Nat × aT) := [(0, t_ild 1 1),
  (1, t_call 1 0 0 bc bs sp_X2_isDye 4),
  (4, t_if (fun x => x = 0) 17 7),
  (7, t_ild 2 8),
  (8, t_if (fun x => x < 0) 17 11),
  (11, t_ild 2 12),
  (12, t_ic 8 14),
  (14, t_ifc (fun x y => x < y) 25 17),
  (17, t_ald 0 18),
  (18, t_ic (-3) 20),
  (20, t_puti 2 10 5 23),
  (23, t_ic 0 24),
  (24, t_iret K bc bs),
  (25, t_ald 0 26),
  (26, t_getr 2 10 0 29),
  (29, t_ild 1 30),
  (30, t_aald 31),
  (31, t_ild 2 32),
  (32, t_iald 33),
  (33, t_ist 4 35),
  (35, t_ald 0 36),
  (36, t_getr 2 10 0 39),
  (39, t_ild 1 40),
  (40, t_aald 41),
  (41, t_ild 2 42),
  (42, t_ild 3 43),
  (43, t_iast 44),
  (44, t_ald 0 45),
  (45, t_ic 0 46),
  (46, t_puti 2 10 5 49),
  (49, t_ild 4 51),
  (51, t_iret K bc bs)]
set_option maxRecDepth 100000 in
theorem S_X2_dye {X : a_X} {K : aK} {l : Launch} {D : va_G} {G : aG} {N0 : Nat} (C : a_C X cX2_dye (some .int) RX2) (Y : a_Y X l (a_rm 2 0 0) D G N0) (M : a_mq X K (a_rm 2 0 0).cells (a_rm 2 0 0).slots) : ∀ x ∈ P_X2_dye K 0 0, a_Sd X x.1 x.2 := by
  unfold P_X2_dye
  refine List.forall_mem_cons.mpr ⟨s_ildn C dX2_dye_0 rfl, ?_⟩
  refine List.forall_mem_cons.mpr ⟨s_callS (rm := (a_rm 1 0 0)) C Y con_X2_isDye co_X2_isDye ml_X2_33 st_X2_isDye ii_X2 (by decide +kernel) ⟨by decide, by decide⟩ ⟨rfl, rfl⟩ dX2_dye_1, ?_⟩
  refine List.forall_mem_cons.mpr ⟨s_if_eq C dX2_dye_4 (by decide), ?_⟩
  refine List.forall_mem_cons.mpr ⟨s_ildn C dX2_dye_7 rfl, ?_⟩
  refine List.forall_mem_cons.mpr ⟨s_if_lt C dX2_dye_8 (by decide), ?_⟩
  refine List.forall_mem_cons.mpr ⟨s_ildn C dX2_dye_11 rfl, ?_⟩
  refine List.forall_mem_cons.mpr ⟨s_bi C dX2_dye_12 (by decide), ?_⟩
  refine List.forall_mem_cons.mpr ⟨s_icmp_lt C dX2_dye_14 (by decide), ?_⟩
  refine List.forall_mem_cons.mpr ⟨s_aldn C dX2_dye_17 rfl, ?_⟩
  refine List.forall_mem_cons.mpr ⟨s_bi C dX2_dye_18 (by decide), ?_⟩
  refine List.forall_mem_cons.mpr ⟨s_puti C tyX2 tyX2_ok nmX2 rfl in_X2 (by decide) lk_X2_37 rfl (Or.inl rfl) rfl dX2_dye_20, ?_⟩
  refine List.forall_mem_cons.mpr ⟨s_ic C dX2_dye_23 (by decide), ?_⟩
  refine List.forall_mem_cons.mpr ⟨s_iret C M dX2_dye_24, ?_⟩
  refine List.forall_mem_cons.mpr ⟨s_aldn C dX2_dye_25 rfl, ?_⟩
  refine List.forall_mem_cons.mpr ⟨s_getr C rfl in_X2 (by decide) lk_X2_11 rfl dX2_dye_26, ?_⟩
  refine List.forall_mem_cons.mpr ⟨s_ildn C dX2_dye_29 rfl, ?_⟩
  refine List.forall_mem_cons.mpr ⟨s_aald C dX2_dye_30, ?_⟩
  refine List.forall_mem_cons.mpr ⟨s_ildn C dX2_dye_31 rfl, ?_⟩
  refine List.forall_mem_cons.mpr ⟨s_iald C dX2_dye_32, ?_⟩
  refine List.forall_mem_cons.mpr ⟨s_ist C dX2_dye_33, ?_⟩
  refine List.forall_mem_cons.mpr ⟨s_aldn C dX2_dye_35 rfl, ?_⟩
  refine List.forall_mem_cons.mpr ⟨s_getr C rfl in_X2 (by decide) lk_X2_11 rfl dX2_dye_36, ?_⟩
  refine List.forall_mem_cons.mpr ⟨s_ildn C dX2_dye_39 rfl, ?_⟩
  refine List.forall_mem_cons.mpr ⟨s_aald C dX2_dye_40, ?_⟩
  refine List.forall_mem_cons.mpr ⟨s_ildn C dX2_dye_41 rfl, ?_⟩
  refine List.forall_mem_cons.mpr ⟨s_ildn C dX2_dye_42 rfl, ?_⟩
  refine List.forall_mem_cons.mpr ⟨s_iast C dX2_dye_43, ?_⟩
  refine List.forall_mem_cons.mpr ⟨s_aldn C dX2_dye_44 rfl, ?_⟩
  refine List.forall_mem_cons.mpr ⟨s_ic C dX2_dye_45 (by decide), ?_⟩
  refine List.forall_mem_cons.mpr ⟨s_puti C tyX2 tyX2_ok nmX2 rfl in_X2 (by decide) lk_X2_37 rfl (Or.inl rfl) rfl dX2_dye_46, ?_⟩
  refine List.forall_mem_cons.mpr ⟨s_ild C dX2_dye_49, ?_⟩
  refine List.forall_mem_cons.mpr ⟨s_iret C M dX2_dye_51, ?_⟩
  exact fun _ h => absurd h List.not_mem_nil
set_option maxRecDepth 20000 in
theorem con_X2_dye : a_Con l D G N0 yX2_dye cX2_dye 5 (some .int) (a_rm 2 0 0) sp_X2_dye := by
  refine a_con (by decide) (fun as σ K h => by obtain ⟨I, F, B, c, x, y, rfl, rfl, -⟩ := h; exact (by decide : 4 ≤ 5)) ?_
  intro X as σ K h C Y M _
  obtain ⟨I, F, B, d, i, v, rfl, rfl, hK1, hK2⟩ := h
  have hS := S_X2_dye C Y M
  refine a_wps hS (inv := a_iv X [31, 41]) a_ivh 60 _ _ _ _ _ _ ?_
  refine ⟨d, rfl, fun h1 => hK1 (Or.inl h1), fun h1 => ⟨fun h2 => hK1 (Or.inr (if_pos h2)), fun h2 => ⟨fun h3 => ?_, fun h3 => hK1 (Or.inr (by unfold m_in; rw [if_neg h2, if_pos ((l_lt7 i).mp h3)]))⟩⟩⟩
  obtain ⟨d', hd', rfl⟩ := m_in_n (b := 3) (by decide) h1
  have hin : ¬ m_in i 0 7 = 0 := by unfold m_in; rw [if_neg h2, if_neg (fun w => (l_lt7 i).mpr w h3)]; decide
  obtain ⟨i', hi', rfl⟩ := m_in_n (b := 7) (by decide) hin
  have hK := hK2 d' i' (by omega) (by omega) rfl rfl
  have hv : vp_in (nI d') 4 := vp_in_nI (by omega) (by decide)
  have hvi : vp_in (nI i') 8 := vp_in_nI (by omega) (by decide)
  have ci : (nI i').toNatClampNeg = i' := nI_clamp (by omega)
  have e : a_SR F 1 (nI d').toNatClampNeg = some (6 + d') := by
    rw [show (nI d').toNatClampNeg = d' from nI_clamp (by omega)]
    exact if_pos (show d' < 4 by omega)
  have hA : ∀ J, a_isA (a_mk J F B) (6 + d') 4 = true := fun J => by
    obtain ⟨g1, g2, g3⟩ := a_isE (l_dy (I := J) (F := F) (B := B) (d := d') (by omega))
    show (a_LV B (6 + d') && (kd (6 + d')).1 == 4) = true
    rw [g2, show a_LV B (6 + d') = true from g1]
    rfl
  have hkd : (kd (6 + d')).2 = 8 := (a_isE (l_dy (I := I) (F := F) (B := B) (d := d') (by omega))).2.2
  have j41 : a_J X 41 [some (.inr (some 0)), some (.inl (nI d')), some (.inl (nI i')), some (.inl v), some (.inl (I (6 + d') i'))] [.inr (some (6 + d'))] (a_mk I F B) 0 0 := by
    have hK : K (some (.inl (I (6 + d') i'))) (a_mk (a_w (a_w I (6 + d') (nI i').toNatClampNeg v) 0 5 0) F B) := by rw [ci]; exact hK
    exact a_wp1 hS a_ivh (inv := a_iv X [31]) 40 41 _ rfl (a_gi (hA _) ⟨by rw [hkd]; exact hvi, hK⟩)
  have j31 : a_J X 31 [some (.inr (some 0)), some (.inl (nI d')), some (.inl (nI i')), some (.inl v), none] [.inr (some (6 + d'))] (a_mk I F B) 0 0 := by
    refine a_wp1 hS a_ivh (inv := a_iv X [41]) 40 31 _ rfl (a_gi (hA _) ⟨by rw [hkd]; exact hvi, hv, ?_⟩)
    show a_J X 41 [some (.inr (some 0)), some (.inl (nI d')), some (.inl (nI i')), some (.inl v), some (.inl (I (6 + d') (nI i').toNatClampNeg))] [.inr (a_SR F 1 (nI d').toNatClampNeg)] (a_mk I F B) 0 0
    rw [e, ci]
    exact j41
  refine ⟨hv, ?_⟩
  show a_J X 31 [some (.inr (some 0)), some (.inl (nI d')), some (.inl (nI i')), some (.inl v), none] [.inr (a_SR F 1 (nI d').toNatClampNeg)] (a_mk I F B) 0 0
  rw [e]
  exact j31
def u_2 (F : Nat → Nat → Option Nat) (h k : Nat) (r : Option Nat) : Nat → Nat → Option Nat := fun h' k' => if h' = h ∧ k' = k then r else F h' k'
theorem u_2e {I : Nat → Nat → Int32} {F : Nat → Nat → Option Nat} {B : Nat → Bool} {h k : Nat} {r : Option Nat} (hh : h = 2 ∨ h = 3 ∨ 17 ≤ h) : a_uF (a_mk I F B) h k r = a_mk I (u_2 F h k r) B := by
  have e : (fun h' k' => if h' = h ∧ k' = k then r else a_SR F h' k') = a_SR (u_2 F h k r) := by
    funext h' k'
    unfold a_SR u_2
    by_cases e1 : h' = h ∧ k' = k
    · rw [if_pos e1, if_neg (by omega), if_neg (by omega), if_neg (by omega), if_neg (by omega), if_pos e1]
    · rw [if_neg e1, if_neg e1]
  show (I, (fun h' k' => if h' = h ∧ k' = k then r else a_SR F h' k'), a_LV B) = _
  rw [e]
def sp_X2_name : aP := fun as σ K => ∃ I F B n nm p, σ = a_mk I F B ∧ as = [.inr (some 0), .inl nm, .inl p] ∧ l_env I F B n ∧
  ((m_in nm 0 5 = 0 ∨ (¬ p = -1 ∧ m_in p 0 (nI n - 1) = 0)) → K (some (.inl (-3))) σ) ∧ (∀ j : Nat, j < 6 → nm = nI j → (p = -1 ∨ ¬ m_in p 0 (nI n - 1) = 0) → K (some (.inl (if F 2 j = none then 0 else 1))) (a_mk I (u_2 F 2 j (l_ref p)) B))
theorem rc_X2_name : ∀ as σ K, sp_X2_name as σ K → ∃ h As, as = .inr (some h) :: As ∧ a_is σ h 2 10 = true := by
  rintro as σ K ⟨I, F, B, c, x, y, rfl, rfl, -⟩
  exact ⟨0, _, rfl, rfl⟩
def P_X2_name (K : aK) (bc bs : Nat) : List (Nat × aT) := [(0, t_ild 1 1),
  (1, t_call 1 0 0 bc bs sp_X2_isName 4),
  (4, t_if (fun x => x = 0) 20 7),
  (7, t_ild 2 8),
  (8, t_ic (-1) 9),
  (9, t_ifc (fun x y => x = y) 23 12),
  (12, t_ald 0 13),
  (13, t_ild 2 14),
  (14, t_call 2 0 0 bc bs sp_X2_isPattern 17),
  (17, t_if (fun x => x = 0) 20 23),
  (20, t_ic (-3) 22),
  (22, t_iret K bc bs),
  (23, t_ald 0 24),
  (24, t_getr 2 10 1 27),
  (27, t_ild 1 28),
  (28, t_aald 29),
  (29, t_ifnull 36 32),
  (32, t_ic 1 33),
  (33, t_goto 37),
  (36, t_ic 0 37),
  (37, t_ist 3 38),
  (38, t_ald 0 39),
  (39, t_getr 2 10 1 42),
  (42, t_ild 1 43),
  (43, t_ald 0 44),
  (44, t_ild 2 45),
  (45, t_call 2 0 0 bc bs sp_X2_numbered 48),
  (48, t_aast 49),
  (49, t_ild 3 50),
  (50, t_iret K bc bs)]
set_option maxRecDepth 100000 in
theorem S_X2_name {X : a_X} {K : aK} {l : Launch} {D : va_G} {G : aG} {N0 : Nat} (C : a_C X cX2_name (some .int) RX2) (Y : a_Y X l (a_rm 3 0 0) D G N0) (M : a_mq X K (a_rm 3 0 0).cells (a_rm 3 0 0).slots) : ∀ x ∈ P_X2_name K 0 0, a_Sd X x.1 x.2 := by
  unfold P_X2_name
  refine List.forall_mem_cons.mpr ⟨s_ildn C dX2_name_0 rfl, ?_⟩
  refine List.forall_mem_cons.mpr ⟨s_callS (rm := (a_rm 1 0 0)) C Y con_X2_isName co_X2_isName ml_X2_60 st_X2_isName ii_X2 (by decide +kernel) ⟨by decide, by decide⟩ ⟨rfl, rfl⟩ dX2_name_1, ?_⟩
  refine List.forall_mem_cons.mpr ⟨s_if_eq C dX2_name_4 (by decide), ?_⟩
  refine List.forall_mem_cons.mpr ⟨s_ildn C dX2_name_7 rfl, ?_⟩
  refine List.forall_mem_cons.mpr ⟨s_ic C dX2_name_8 (by decide), ?_⟩
  refine List.forall_mem_cons.mpr ⟨s_icmp_eq C dX2_name_9 (by decide), ?_⟩
  refine List.forall_mem_cons.mpr ⟨s_aldn C dX2_name_12 rfl, ?_⟩
  refine List.forall_mem_cons.mpr ⟨s_ildn C dX2_name_13 rfl, ?_⟩
  refine List.forall_mem_cons.mpr ⟨s_callV (rm := (a_rm 1 0 0)) (n := 1) C Y (ci := 2) rfl con_X2_isPattern rc_X2_isPattern co_X2_isPattern ml_X2_63 im_X2_isPattern se_X2_isPattern ii_X2 (by decide +kernel) ⟨by decide, by decide⟩ ⟨rfl, rfl⟩ dX2_name_14, ?_⟩
  refine List.forall_mem_cons.mpr ⟨s_if_ne C dX2_name_17 (by decide), ?_⟩
  refine List.forall_mem_cons.mpr ⟨s_bi C dX2_name_20 (by decide), ?_⟩
  refine List.forall_mem_cons.mpr ⟨s_iret C M dX2_name_22, ?_⟩
  refine List.forall_mem_cons.mpr ⟨s_aldn C dX2_name_23 rfl, ?_⟩
  refine List.forall_mem_cons.mpr ⟨s_getr C rfl in_X2 (by decide) lk_X2_16 rfl dX2_name_24, ?_⟩
  refine List.forall_mem_cons.mpr ⟨s_ildn C dX2_name_27 rfl, ?_⟩
  refine List.forall_mem_cons.mpr ⟨s_aald C dX2_name_28, ?_⟩
  refine List.forall_mem_cons.mpr ⟨s_ifnull C dX2_name_29 (by decide), ?_⟩
  refine List.forall_mem_cons.mpr ⟨s_ic C dX2_name_32 (by decide), ?_⟩
  refine List.forall_mem_cons.mpr ⟨s_goto C dX2_name_33 (by decide), ?_⟩
  refine List.forall_mem_cons.mpr ⟨s_ic C dX2_name_36 (by decide), ?_⟩
  refine List.forall_mem_cons.mpr ⟨s_istn C dX2_name_37 rfl, ?_⟩
  refine List.forall_mem_cons.mpr ⟨s_aldn C dX2_name_38 rfl, ?_⟩
  refine List.forall_mem_cons.mpr ⟨s_getr C rfl in_X2 (by decide) lk_X2_16 rfl dX2_name_39, ?_⟩
  refine List.forall_mem_cons.mpr ⟨s_ildn C dX2_name_42 rfl, ?_⟩
  refine List.forall_mem_cons.mpr ⟨s_aldn C dX2_name_43 rfl, ?_⟩
  refine List.forall_mem_cons.mpr ⟨s_ildn C dX2_name_44 rfl, ?_⟩
  refine List.forall_mem_cons.mpr ⟨s_callV (rm := (a_rm 2 0 0)) (n := 1) C Y (ci := 2) rfl con_X2_numbered rc_X2_numbered co_X2_numbered ml_X2_66 im_X2_numbered se_X2_numbered ii_X2 (by decide +kernel) ⟨by decide, by decide⟩ ⟨rfl, rfl⟩ dX2_name_45, ?_⟩
  refine List.forall_mem_cons.mpr ⟨s_aast C dX2_name_48, ?_⟩
  refine List.forall_mem_cons.mpr ⟨s_ildn C dX2_name_49 rfl, ?_⟩
  refine List.forall_mem_cons.mpr ⟨s_iret C M dX2_name_50, ?_⟩
  exact fun _ h => absurd h List.not_mem_nil
set_option maxRecDepth 20000 in
theorem con_X2_name : a_Con l D G N0 yX2_name cX2_name 4 (some .int) (a_rm 3 0 0) sp_X2_name := by
  refine a_con (by decide) (fun as σ K h => by obtain ⟨I, F, B, c, x, y, rfl, rfl, -⟩ := h; exact (by decide : 3 ≤ 4)) ?_
  intro X as σ K h C Y M _
  obtain ⟨I, F, B, n, nm, p, rfl, rfl, henv, hK1, hK2⟩ := h
  have d1 := henv.2.1
  have d2 := henv.2.2.1
  have d3 := henv.2.2.2.1
  have hS := S_X2_name C Y M
  by_cases h1 : m_in nm 0 5 = 0
  · refine a_wps hS (inv := a_iv X [23]) a_ivh 60 _ _ _ _ _ _ ?_
    exact ⟨nm, rfl, fun _ => hK1 (Or.inl h1), fun w => absurd h1 w⟩
  obtain ⟨j, hj, rfl⟩ := m_in_n (b := 5) (by decide) h1
  have cj : (nI j).toNatClampNeg = j := nI_clamp (by omega)
  have hv : vp_in (nI j) 6 := vp_in_nI (by omega) (by decide)
  have tail : (p = -1 ∨ ¬ m_in p 0 (nI n - 1) = 0) → a_J X 23 [some (.inr (some 0)), some (.inl (nI j)), some (.inl p), none] [] (a_mk I F B) 0 0 := by
    intro hp
    have hK := hK2 j (by omega) rfl hp
    have hr : (if m_in p 0 (nI n - 1) = 0 then none else F 3 p.toNatClampNeg) = l_ref p := by
      rcases hp with rfl | hp
      · rw [if_pos (show m_in (-1) 0 (nI n - 1) = 0 from if_pos (by decide))]
        exact (if_pos rfl).symm
      · exact l_num henv.1.1 d2 (l_inp henv.1.1 hp)
    have hcast : ∀ h', (if m_in p 0 (nI n - 1) = 0 then none else F 3 p.toNatClampNeg) = some h' → a_is (a_mk I F B) h' 1 7 = true := by
      intro h' e
      by_cases hz : m_in p 0 (nI n - 1) = 0
      · rw [if_pos hz] at e; cases e
      · rw [if_neg hz] at e
        obtain ⟨i, hi, rfl⟩ := l_inp henv.1.1 hz
        have hi60 : i < 60 := Nat.lt_of_lt_of_le hi henv.1.1
        rw [w_pc hi60, d2 i hi] at e
        cases e
        exact l_is (by omega) (by omega) (d3 i hi).1
    rw [← hr, ← u_2e (Or.inl rfl), ← cj] at hK
    by_cases hz : F 2 (nI j).toNatClampNeg = none
    · rw [if_pos hz] at hK
      exact a_wp1 hS a_ivh (inv := a_iv X [23]) 60 23 _ rfl ⟨hv, fun _ => ⟨I, F, B, n, p, rfl, rfl, d1, henv.1.1, hv, hcast, hK⟩, fun w => absurd hz w⟩
    · rw [if_neg hz] at hK
      exact a_wp1 hS a_ivh (inv := a_iv X [23]) 60 23 _ rfl ⟨hv, fun w => absurd w hz, fun _ => ⟨I, F, B, n, p, rfl, rfl, d1, henv.1.1, hv, hcast, hK⟩⟩
  refine a_wps hS (inv := a_iv X [23]) a_ivh 60 _ _ _ _ _ _ ?_
  exact ⟨nI j, rfl, fun w => absurd w h1, fun _ => ⟨fun h2 => tail (Or.inl h2), fun h2 => ⟨I, F, B, n, p, rfl, rfl, d1, henv.1.1, fun h3 => hK1 (Or.inr ⟨h2, h3⟩), fun h3 => tail (Or.inr h3)⟩⟩⟩
end LX
end
section
/-! ===== the class's weave ===== -/
def l_c (I : Nat → Nat → Int32) (sz wd : Int32) (C : Nat → Int32) : Nat → Nat → Int32 := fun h j => if h = 4 then (if j = 1 then sz else if j = 2 then wd else I 4 j) else if h = 5 then C j else I h j
section LC
variable {I : Nat → Nat → Int32} {f x sz wd : Int32} {s : tS} {C : Nat → Int32} {t : Nat}
theorem lc_1 : a_w (l_p (l_c I sz wd C) f s) 4 1 x = l_p (l_c I x wd C) f s := by
  funext h j; unfold a_w l_p l_c
  by_cases e : h = 4
  · subst e; by_cases e2 : j = 1 <;> simp [e2]
  · simp [e]
theorem lc_2 : a_w (l_p (l_c I sz wd C) f s) 4 2 x = l_p (l_c I sz x C) f s := by
  funext h j; unfold a_w l_p l_c
  by_cases e : h = 4
  · subst e; by_cases e2 : j = 2 <;> simp [e2]
  · simp [e]
theorem lc_5 : a_w (l_p (l_c I sz wd C) f s) 5 t x = l_p (l_c I sz wd (upd C t x)) f s := by
  funext h j; unfold a_w l_p l_c upd
  by_cases e : h = 5
  · subst e; by_cases e2 : j = t <;> simp [e2]
  · simp [e]
theorem lc_self (I : Nat → Nat → Int32) : l_c I (I 4 1) (I 4 2) (I 5) = I := by
  funext h j; unfold l_c
  by_cases e : h = 4
  · subst e
    by_cases e1 : j = 1
    · simp [e1]
    · by_cases e2 : j = 2
      · simp [e2]
      · simp [e1, e2]
  · by_cases e1 : h = 5
    · simp [e1]
    · simp [e, e1]
end LC
theorem m_D_c {M M' : Nat → Nat → Int32} {n : Nat} (h17 : M' 17 = M 17) (h18 : M' 18 = M 18) (h19 : M' 19 = M 19) (h20 : M' 20 = M 20) (h22 : M' 22 = M 22) (h25 : M' 25 = M 25) (h : m_D M n) : m_D M' n := by
  unfold m_D m_ok at h ⊢
  rw [h17, h18, h19, h20, h22, h25]
  exact h
/-- the worlds of both sides stay tied when only moving parts change -/
theorem env_c {M M' : Nat → Nat → Int32} {F : Nat → Nat → Option Nat} {B : Nat → Bool} {n : Nat} (h04 : M' 0 4 = M 0 4) (hdy : ∀ d, d < 4 → M' (6 + d) = M (6 + d)) (h17 : M' 17 = M 17) (h18 : M' 18 = M 18) (h19 : M' 19 = M 19) (h20 : M' 20 = M 20) (h21 : M' 21 = M 21) (h22 : M' 22 = M 22) (h24 : M' 24 = M 24) (h25 : M' 25 = M 25)
    (hpt : ∀ h k, 64 ≤ h → h < 126 → k ≠ 6 → M' h k = M h k) (hro : ∀ h, 128 ≤ h → M' h = M h) (h : l_env M F B n) : l_env M' F B n := by
  obtain ⟨hD, d1, d2, d3, d4, d5, d6, d7, d8, b64, b65, m64, m65, f65⟩ := h
  have hn := hD.1
  refine ⟨m_D_c h17 h18 h19 h20 h22 h25 hD, h04.trans d1, d2, fun p hp => ?_, fun p hp => ?_, fun p hp => ?_, fun p hp => ?_, fun k hk => ?_, fun d hd i hi => ?_, b64, b65, ?_, ?_, f65⟩
  · rw [h17, h18, h19, h20, hpt _ 0 (by omega) (by omega) (by decide), hpt _ 1 (by omega) (by omega) (by decide), hpt _ 2 (by omega) (by omega) (by decide), hpt _ 3 (by omega) (by omega) (by decide)]
    exact d3 p hp
  · rw [h17, h19]
    exact d4 p hp
  · rw [h17, h21, hro (128 + p) (by omega)]
    exact d5 p hp
  · rw [h17, h22]
    exact d6 p hp
  · rw [h25]
    exact d7 k hk
  · rw [hdy d hd, h24]
    exact d8 d hd i hi
  · rw [hpt 64 0 (by decide) (by decide) (by decide)]; exact m64
  · rw [hpt 65 0 (by decide) (by decide) (by decide)]; exact m65
theorem env_lc {I : Nat → Nat → Int32} {F : Nat → Nat → Option Nat} {B : Nat → Bool} {n : Nat} {sz wd : Int32} {C : Nat → Int32} (h : l_env I F B n) : l_env (l_c I sz wd C) F B n := by
  have e : ∀ h, h ≠ 4 → h ≠ 5 → l_c I sz wd C h = I h := fun h h4 h5 => by
    funext j
    unfold l_c
    rw [if_neg h4, if_neg h5]
  exact env_c (by rw [e 0 (by decide) (by decide)]) (fun d hd => e _ (by omega) (by omega)) (e _ (by decide) (by decide)) (e _ (by decide) (by decide)) (e _ (by decide) (by decide)) (e _ (by decide) (by decide)) (e _ (by decide) (by decide)) (e _ (by decide) (by decide)) (e _ (by decide) (by decide)) (e _ (by decide) (by decide)) (fun h k h1 h2 h3 => by rw [e h (by omega) (by omega)]) (fun h h1 => e h (by omega) (by omega)) h
section LY
variable {l : Launch} {D : va_G} {G : aG} {N0 : Nat}
def sp_X2_weave : aP := fun as σ K => ∃ I F B n p x y w h, σ = a_mk I F B ∧ as = [.inr (some 0), .inl p, .inl x, .inl y, .inl w, .inl h] ∧ l_env I F B n ∧ l_W I n (0, 0, 0, fun q => I (66 + q) 6) ∧
  (m_in p 0 (nI n - 1) = 0 → K (some (.inl (-3))) σ) ∧ (¬ m_in p 0 (nI n - 1) = 0 → (m_in w 1 12 = 0 ∨ m_in h 1 12 = 0) → K (some (.inl (-2))) σ) ∧
  (¬ m_in p 0 (nI n - 1) = 0 → ∀ wn hn : Nat, 1 ≤ wn → wn ≤ 12 → 1 ≤ hn → hn ≤ 12 → w = nI wn → h = nI hn → ∀ R : tW, R = t_wv (tt_T I 101 p) x y wn (wn * hn) 0 (I 0 7, 0, I 0 9, fun q => I (66 + q) 6) (I 5) → K (some (.inl (m_wr R))) (a_mk (l_p (l_c I (nI R.2.1) w R.2.2.2) R.1 R.2.2.1) F B))
theorem rc_X2_weave : ∀ as σ K, sp_X2_weave as σ K → ∃ h As, as = .inr (some h) :: As ∧ a_is σ h 2 10 = true := by
  rintro as σ K ⟨I, F, B, n, p, x, y, w, h, rfl, rfl, -⟩
  exact ⟨0, _, rfl, rfl⟩
def P_X2_weave (K : aK) (bc bs : Nat) : List (Nat × aT) := [(0, t_ald 0 1),
  (1, t_ild 1 2),
  (2, t_call 2 0 0 bc bs sp_X2_isPattern 5),
  (5, t_if (fun x => x = 0) 8 11),
  (8, t_ic (-3) 10),
  (10, t_iret K bc bs),
  (11, t_ild 4 13),
  (13, t_call 1 0 0 bc bs sp_X2_isSide 16),
  (16, t_if (fun x => x = 0) 27 19),
  (19, t_ild 5 21),
  (21, t_call 1 0 0 bc bs sp_X2_isSide 24),
  (24, t_if (fun x => x = 0) 27 30),
  (27, t_ic (-2) 29),
  (29, t_iret K bc bs),
  (30, t_ald 0 31),
  (31, t_ic 0 32),
  (32, t_puti 2 10 8 35),
  (35, t_ald 0 36),
  (36, t_getr 2 10 3 39),
  (39, t_ild 4 41),
  (41, t_call 2 0 0 bc bs sp_X0_begin 44),
  (44, t_ald 0 45),
  (45, t_ild 1 46),
  (46, t_call 2 0 0 bc bs sp_X2_numbered 49),
  (49, t_ast 6 51),
  (51, t_ic 0 52),
  (52, t_ist 7 54),
  (54, t_ild 7 56),
  (56, t_ild 5 58),
  (58, t_ifc (fun x y => y ≤ x) 123 61),
  (61, t_ic 0 62),
  (62, t_ist 8 64),
  (64, t_ild 8 66),
  (66, t_ild 4 68),
  (68, t_ifc (fun x y => y ≤ x) 117 71),
  (71, t_ald 0 72),
  (72, t_ald 6 74),
  (74, t_ild 2 75),
  (75, t_ild 8 77),
  (77, t_add 78),
  (78, t_ild 3 79),
  (79, t_ild 7 81),
  (81, t_add 82),
  (82, t_call 4 0 0 bc bs sp_X2_tellPlace 85),
  (85, t_ist 9 87),
  (87, t_ald 0 88),
  (88, t_geti 2 10 6 91),
  (91, t_if (fun x => x = 0) 102 94),
  (94, t_ic (-10) 96),
  (96, t_ald 0 97),
  (97, t_geti 2 10 6 100),
  (100, t_sub 101),
  (101, t_iret K bc bs),
  (102, t_ald 0 103),
  (103, t_getr 2 10 3 106),
  (106, t_ild 9 108),
  (108, t_call 2 0 0 bc bs sp_X0_add 111),
  (111, t_iinc 8 1 114),
  (114, t_goto 64),
  (117, t_iinc 7 1 120),
  (120, t_goto 54),
  (123, t_ild 4 125),
  (125, t_ild 5 127),
  (127, t_mul 128),
  (128, t_iret K bc bs)]
set_option maxRecDepth 100000 in
theorem S_X2_weave {X : a_X} {K : aK} {l : Launch} {D : va_G} {G : aG} {N0 : Nat} (C : a_C X cX2_weave (some .int) RX2) (Y : a_Y X l (a_rm 252 0 0) D G N0) (M : a_mq X K (a_rm 252 0 0).cells (a_rm 252 0 0).slots) : ∀ x ∈ P_X2_weave K 0 0, a_Sd X x.1 x.2 := by
  unfold P_X2_weave
  refine List.forall_mem_cons.mpr ⟨s_aldn C dX2_weave_0 rfl, ?_⟩
  refine List.forall_mem_cons.mpr ⟨s_ildn C dX2_weave_1 rfl, ?_⟩
  refine List.forall_mem_cons.mpr ⟨s_callV (rm := (a_rm 1 0 0)) (n := 1) C Y (ci := 2) rfl con_X2_isPattern rc_X2_isPattern co_X2_isPattern ml_X2_63 im_X2_isPattern se_X2_isPattern ii_X2 (by decide +kernel) ⟨by decide, by decide⟩ ⟨rfl, rfl⟩ dX2_weave_2, ?_⟩
  refine List.forall_mem_cons.mpr ⟨s_if_ne C dX2_weave_5 (by decide), ?_⟩
  refine List.forall_mem_cons.mpr ⟨s_bi C dX2_weave_8 (by decide), ?_⟩
  refine List.forall_mem_cons.mpr ⟨s_iret C M dX2_weave_10, ?_⟩
  refine List.forall_mem_cons.mpr ⟨s_ild C dX2_weave_11, ?_⟩
  refine List.forall_mem_cons.mpr ⟨s_callS (rm := (a_rm 1 0 0)) C Y con_X2_isSide co_X2_isSide ml_X2_79 st_X2_isSide ii_X2 (by decide +kernel) ⟨by decide, by decide⟩ ⟨rfl, rfl⟩ dX2_weave_13, ?_⟩
  refine List.forall_mem_cons.mpr ⟨s_if_eq C dX2_weave_16 (by decide), ?_⟩
  refine List.forall_mem_cons.mpr ⟨s_ild C dX2_weave_19, ?_⟩
  refine List.forall_mem_cons.mpr ⟨s_callS (rm := (a_rm 1 0 0)) C Y con_X2_isSide co_X2_isSide ml_X2_79 st_X2_isSide ii_X2 (by decide +kernel) ⟨by decide, by decide⟩ ⟨rfl, rfl⟩ dX2_weave_21, ?_⟩
  refine List.forall_mem_cons.mpr ⟨s_if_ne C dX2_weave_24 (by decide), ?_⟩
  refine List.forall_mem_cons.mpr ⟨s_bi C dX2_weave_27 (by decide), ?_⟩
  refine List.forall_mem_cons.mpr ⟨s_iret C M dX2_weave_29, ?_⟩
  refine List.forall_mem_cons.mpr ⟨s_aldn C dX2_weave_30 rfl, ?_⟩
  refine List.forall_mem_cons.mpr ⟨s_ic C dX2_weave_31 (by decide), ?_⟩
  refine List.forall_mem_cons.mpr ⟨s_puti C tyX2 tyX2_ok nmX2 rfl in_X2 (by decide) lk_X2_69 rfl (Or.inl rfl) rfl dX2_weave_32, ?_⟩
  refine List.forall_mem_cons.mpr ⟨s_aldn C dX2_weave_35 rfl, ?_⟩
  refine List.forall_mem_cons.mpr ⟨s_getr C rfl in_X2 (by decide) lk_X2_26 rfl dX2_weave_36, ?_⟩
  refine List.forall_mem_cons.mpr ⟨s_ild C dX2_weave_39, ?_⟩
  refine List.forall_mem_cons.mpr ⟨s_callV (rm := (a_rm 1 0 0)) (n := 1) C Y (ci := 0) rfl con_X0_begin rc_X0_begin co_X0_begin ml_X2_82 im_X0_begin se_X0_begin ii_X0 (by decide +kernel) ⟨by decide, by decide⟩ ⟨rfl, rfl⟩ dX2_weave_41, ?_⟩
  refine List.forall_mem_cons.mpr ⟨s_aldn C dX2_weave_44 rfl, ?_⟩
  refine List.forall_mem_cons.mpr ⟨s_ildn C dX2_weave_45 rfl, ?_⟩
  refine List.forall_mem_cons.mpr ⟨s_callV (rm := (a_rm 2 0 0)) (n := 1) C Y (ci := 2) rfl con_X2_numbered rc_X2_numbered co_X2_numbered ml_X2_66 im_X2_numbered se_X2_numbered ii_X2 (by decide +kernel) ⟨by decide, by decide⟩ ⟨rfl, rfl⟩ dX2_weave_46, ?_⟩
  refine List.forall_mem_cons.mpr ⟨s_ast C dX2_weave_49, ?_⟩
  refine List.forall_mem_cons.mpr ⟨s_ic C dX2_weave_51 (by decide), ?_⟩
  refine List.forall_mem_cons.mpr ⟨s_ist C dX2_weave_52, ?_⟩
  refine List.forall_mem_cons.mpr ⟨s_ild C dX2_weave_54, ?_⟩
  refine List.forall_mem_cons.mpr ⟨s_ild C dX2_weave_56, ?_⟩
  refine List.forall_mem_cons.mpr ⟨s_icmp_ge C dX2_weave_58 (by decide), ?_⟩
  refine List.forall_mem_cons.mpr ⟨s_ic C dX2_weave_61 (by decide), ?_⟩
  refine List.forall_mem_cons.mpr ⟨s_ist C dX2_weave_62, ?_⟩
  refine List.forall_mem_cons.mpr ⟨s_ild C dX2_weave_64, ?_⟩
  refine List.forall_mem_cons.mpr ⟨s_ild C dX2_weave_66, ?_⟩
  refine List.forall_mem_cons.mpr ⟨s_icmp_ge C dX2_weave_68 (by decide), ?_⟩
  refine List.forall_mem_cons.mpr ⟨s_aldn C dX2_weave_71 rfl, ?_⟩
  refine List.forall_mem_cons.mpr ⟨s_ald C dX2_weave_72, ?_⟩
  refine List.forall_mem_cons.mpr ⟨s_ildn C dX2_weave_74 rfl, ?_⟩
  refine List.forall_mem_cons.mpr ⟨s_ild C dX2_weave_75, ?_⟩
  refine List.forall_mem_cons.mpr ⟨s_add C dX2_weave_77, ?_⟩
  refine List.forall_mem_cons.mpr ⟨s_ildn C dX2_weave_78 rfl, ?_⟩
  refine List.forall_mem_cons.mpr ⟨s_ild C dX2_weave_79, ?_⟩
  refine List.forall_mem_cons.mpr ⟨s_add C dX2_weave_81, ?_⟩
  refine List.forall_mem_cons.mpr ⟨s_callV (rm := (a_rm 251 0 0)) (n := 3) C Y (ci := 2) rfl con_X2_tellPlace rc_X2_tellPlace co_X2_tellPlace ml_X2_72 im_X2_tellPlace se_X2_tellPlace ii_X2 (by decide +kernel) ⟨by decide, by decide⟩ ⟨rfl, rfl⟩ dX2_weave_82, ?_⟩
  refine List.forall_mem_cons.mpr ⟨s_ist C dX2_weave_85, ?_⟩
  refine List.forall_mem_cons.mpr ⟨s_aldn C dX2_weave_87 rfl, ?_⟩
  refine List.forall_mem_cons.mpr ⟨s_geti C rfl in_X2 (by decide) lk_X2_76 rfl dX2_weave_88, ?_⟩
  refine List.forall_mem_cons.mpr ⟨s_if_eq C dX2_weave_91 (by decide), ?_⟩
  refine List.forall_mem_cons.mpr ⟨s_bi C dX2_weave_94 (by decide), ?_⟩
  refine List.forall_mem_cons.mpr ⟨s_aldn C dX2_weave_96 rfl, ?_⟩
  refine List.forall_mem_cons.mpr ⟨s_geti C rfl in_X2 (by decide) lk_X2_76 rfl dX2_weave_97, ?_⟩
  refine List.forall_mem_cons.mpr ⟨s_sub C dX2_weave_100, ?_⟩
  refine List.forall_mem_cons.mpr ⟨s_iret C M dX2_weave_101, ?_⟩
  refine List.forall_mem_cons.mpr ⟨s_aldn C dX2_weave_102 rfl, ?_⟩
  refine List.forall_mem_cons.mpr ⟨s_getr C rfl in_X2 (by decide) lk_X2_26 rfl dX2_weave_103, ?_⟩
  refine List.forall_mem_cons.mpr ⟨s_ild C dX2_weave_106, ?_⟩
  refine List.forall_mem_cons.mpr ⟨s_callV (rm := (a_rm 1 0 0)) (n := 1) C Y (ci := 0) rfl con_X0_add rc_X0_add co_X0_add ml_X2_86 im_X0_add se_X0_add ii_X0 (by decide +kernel) ⟨by decide, by decide⟩ ⟨rfl, rfl⟩ dX2_weave_108, ?_⟩
  refine List.forall_mem_cons.mpr ⟨s_iinc C dX2_weave_111 (by decide), ?_⟩
  refine List.forall_mem_cons.mpr ⟨s_goto C dX2_weave_114 (by decide), ?_⟩
  refine List.forall_mem_cons.mpr ⟨s_iinc C dX2_weave_117 (by decide), ?_⟩
  refine List.forall_mem_cons.mpr ⟨s_goto C dX2_weave_120 (by decide), ?_⟩
  refine List.forall_mem_cons.mpr ⟨s_ild C dX2_weave_123, ?_⟩
  refine List.forall_mem_cons.mpr ⟨s_ild C dX2_weave_125, ?_⟩
  refine List.forall_mem_cons.mpr ⟨s_mul C dX2_weave_127, ?_⟩
  refine List.forall_mem_cons.mpr ⟨s_iret C M dX2_weave_128, ?_⟩
  exact fun _ h => absurd h List.not_mem_nil
set_option maxRecDepth 20000 in
set_option maxHeartbeats 4000000 in
theorem con_X2_weave : a_Con l D G N0 yX2_weave cX2_weave 10 (some .int) (a_rm 252 0 0) sp_X2_weave := by
  refine a_con (by decide) (fun as σ K h => by obtain ⟨I, F, B, n, p, x, y, w, h, rfl, rfl, -⟩ := h; exact (by decide : 6 ≤ 10)) ?_
  intro X as σ K h C Y M _
  obtain ⟨I, F, B, n, p, x, y, w, h, rfl, rfl, henv, hW0, hK1, hK2, hK3⟩ := h
  have hS := S_X2_weave C Y M
  have d1 := henv.2.1
  have d2 := henv.2.2.1
  have hle := henv.1.1
  by_cases hp : m_in p 0 (nI n - 1) = 0
  · refine a_wps hS (inv := a_iv X [54, 64]) a_ivh 60 _ _ _ _ _ _ ?_
    exact ⟨I, F, B, n, p, rfl, rfl, d1, hle, fun _ => hK1 hp, fun z => absurd hp z⟩
  by_cases hw : m_in w 1 12 = 0
  · refine a_wps hS (inv := a_iv X [54, 64]) a_ivh 60 _ _ _ _ _ _ ?_
    exact ⟨I, F, B, n, p, rfl, rfl, d1, hle, fun z => absurd z hp, fun _ => ⟨w, rfl, fun _ => hK2 hp (Or.inl hw), fun z => absurd hw z⟩⟩
  by_cases hh : m_in h 1 12 = 0
  · refine a_wps hS (inv := a_iv X [54, 64]) a_ivh 60 _ _ _ _ _ _ ?_
    exact ⟨I, F, B, n, p, rfl, rfl, d1, hle, fun z => absurd z hp, fun _ => ⟨w, rfl, fun z => absurd z hw, fun _ => ⟨h, rfl, fun _ => hK2 hp (Or.inr hh), fun z => absurd hh z⟩⟩⟩
  obtain ⟨wn, w1, w12, ew⟩ := m_in_12 hw
  obtain ⟨hn, h1, h12, eh⟩ := m_in_12 hh
  have hK := hK3 hp wn hn w1 w12 h1 h12 ew eh
  have vp : m_vc n p := l_inp hle hp
  have hcd : m_cd n p := Or.inr (Or.inr (Or.inr vp))
  have hprod : wn * hn ≤ 144 := by
    have := Nat.mul_le_mul w12 h12
    omega
  have hpos : 1 ≤ wn * hn := Nat.mul_pos w1 h1
  have hr0 : (if m_in p 0 (nI n - 1) = 0 then none else F 3 p.toNatClampNeg) = l_ref p := l_num hle d2 vp
  generalize hTT : tt_T I 101 p = TT at hK
  have hTc : ∀ (sz wd : Int32) (Cl : Nat → Int32), tt_T (l_c I sz wd Cl) 101 p = TT := fun sz wd Cl => by
    rw [← hTT]
    exact congrFun (tt_congr (M := l_c I sz wd Cl) (M' := I) rfl rfl rfl rfl rfl rfl rfl rfl 101) p
  have hTW : ∀ (x y : Int32) (s : tS), l_W I n s → l_W I n (TT x y s).2.2 := fun x y s hs => by
    rw [← hTT]
    exact tw_T (M := I) 101 p x y s hs
  clear hTT
  have loop : ∀ m row col (k : Nat) (s : tS) (Cl : Nat → Int32) (f : Int32) (q9 : Option aV), row < hn → col ≤ wn → k = row * wn + col → k + m = wn * hn → l_W I n s → (m = 0 → f = 0) →
      (∀ R : tW, R = t_wv TT x y wn m k s Cl → K (some (.inl (m_wr R))) (a_mk (l_p (l_c I (nI R.2.1) w R.2.2.2) R.1 R.2.2.1) F B)) →
      a_J X 64 [some (.inr (some 0)), some (.inl p), some (.inl x), some (.inl y), some (.inl w), some (.inl h), some (.inr (l_ref p)), some (.inl (nI row)), some (.inl (nI col)), q9] [] (a_mk (l_p (l_c I (nI k) w Cl) f s) F B) 0 0 := by
    intro m
    induction m with
    | zero =>
      intro row col k s Cl f q9 hrow hcol hk hm hWs h0 HK
      have hf := h0 rfl
      subst hf
      have hend : row + 1 = hn ∧ col = wn := by
        have e1 : row * wn + col = wn * hn := by omega
        have e2 : wn * hn = hn * wn := Nat.mul_comm _ _
        have e3 : (row + 1) * wn ≤ hn * wn := Nat.mul_le_mul_right wn hrow
        have e4 : (row + 1) * wn = row * wn + wn := Nat.succ_mul row wn
        have ecol : col = wn := by omega
        refine ⟨?_, ecol⟩
        have e5 : (row + 1) * wn = hn * wn := by omega
        exact Nat.eq_of_mul_eq_mul_right w1 e5
      obtain ⟨he1, he2⟩ := hend
      have HK0 := HK (0, k, s, Cl) rfl
      rw [show m_wr (0, k, s, Cl) = nI k from if_pos rfl] at HK0
      have hge1 : w ≤ nI col := by rw [ew, he2]; exact Int32.le_refl _
      have hge2 : h ≤ nI row + 1 := by rw [eh, nI_1, he1]; exact Int32.le_refl _
      have ewh : w * h = nI k := by rw [ew, eh, pk_mul, show k = wn * hn by omega]
      have HK1 : K (some (.inl (w * h))) (a_mk (l_p (l_c I (nI k) w Cl) 0 s) F B) := by rw [ewh]; exact HK0
      have j54 : a_J X 54 [some (.inr (some 0)), some (.inl p), some (.inl x), some (.inl y), some (.inl w), some (.inl h), some (.inr (l_ref p)), some (.inl (nI row + 1)), some (.inl (nI col)), q9] [] (a_mk (l_p (l_c I (nI k) w Cl) 0 s) F B) 0 0 :=
        a_wp1 hS a_ivh (inv := a_iv X [64]) 60 54 _ rfl ⟨fun _ => HK1, fun z => absurd hge2 z⟩
      exact a_wp1 hS a_ivh (inv := a_iv X [54, 64]) 60 64 _ rfl ⟨fun _ => j54, fun z => absurd hge1 z⟩
    | succ m ih =>
      -- a place in the row
      have inner : ∀ row col (k : Nat) (s : tS) (Cl : Nat → Int32) (f : Int32) (q9 : Option aV), row < hn → col < wn → k = row * wn + col → k + (m + 1) = wn * hn → l_W I n s →
          (∀ R : tW, R = t_wv TT x y wn (m + 1) k s Cl → K (some (.inl (m_wr R))) (a_mk (l_p (l_c I (nI R.2.1) w R.2.2.2) R.1 R.2.2.1) F B)) →
          a_J X 64 [some (.inr (some 0)), some (.inl p), some (.inl x), some (.inl y), some (.inl w), some (.inl h), some (.inr (l_ref p)), some (.inl (nI row)), some (.inl (nI col)), q9] [] (a_mk (l_p (l_c I (nI k) w Cl) f s) F B) 0 0 := by
        intro row col k s Cl f q9 hrow hcol hk hm hWs HK
        have hn1 : ¬ w ≤ nI col := by rw [ew]; exact nI_ge hcol (by omega)
        have ekm : k % wn = col := by rw [hk, Nat.mul_comm, Nat.mul_add_mod]; exact Nat.mod_eq_of_lt hcol
        have ekd : k / wn = row := by rw [hk, Nat.mul_comm, Nat.mul_add_div w1, Nat.div_eq_of_lt hcol, Nat.add_zero]
        refine a_wp1 hS a_ivh (inv := a_iv X [54, 64]) 60 64 _ rfl ⟨fun z => absurd z hn1, fun _ => ⟨l_c I (nI k) w Cl, F, B, n, p, l_ref p, x + nI col, y + nI row, f, s, rfl, rfl, rfl, env_lc henv, hWs, hcd, fun R hR r hr => ?_⟩⟩
        have hR2 : R = TT (x + nI (k % wn)) (y + nI (k / wn)) (0, s.2) := by
          rw [hR, ekm, ekd]
          exact congrFun (congrFun (congrFun (hTc (nI k) w Cl) _) _) _
        have hWR : l_W I n R.2.2 := by rw [hR2]; exact hTW _ _ _ hWs
        clear hR
        by_cases hz : R.1 = 0
        · have IH := ih row (col + 1) (k + 1) R.2.2 (upd Cl k R.2.1) R.1 (some (.inl r)) hrow hcol (by omega) (by omega) hWR (fun _ => hz) (fun R' hR' => HK R' (by
            rw [hR']
            show _ = (if (TT (x + nI (k % wn)) (y + nI (k / wn)) (0, s.2)).1 = 0 then _ else _)
            rw [← hR2, if_pos hz]))
          rw [← nI_1 col, ← hr hz, ← lc_1 (sz := nI k), ← lc_5] at IH
          exact ⟨fun _ => ⟨_, F, B, r, k, rfl, rfl, rfl, by omega, IH⟩, fun z => absurd hz z⟩
        · have HK2 := HK (R.1, k, R.2.2, Cl) (by
            show _ = (if (TT (x + nI (k % wn)) (y + nI (k / wn)) (0, s.2)).1 = 0 then _ else _)
            rw [← hR2, if_neg hz])
          rw [show m_wr (R.1, k, R.2.2, Cl) = -10 - R.1 from if_neg hz] at HK2
          exact ⟨fun z => absurd z hz, fun _ => HK2⟩
      intro row col k s Cl f q9 hrow hcol hk hm hWs h0 HK
      rcases Nat.lt_or_ge col wn with hc | hc
      · exact inner row col k s Cl f q9 hrow hc hk hm hWs HK
      · have hcw : col = wn := by omega
        have hrow2 : row + 1 < hn := by
          rcases Nat.lt_or_ge (row + 1) hn with z | z
          · exact z
          · have e3 : hn * wn ≤ (row + 1) * wn := Nat.mul_le_mul_right wn z
            have e4 : (row + 1) * wn = row * wn + wn := Nat.succ_mul row wn
            have e2 : wn * hn = hn * wn := Nat.mul_comm _ _
            omega
        have hge1 : w ≤ nI col := by rw [ew, hcw]; exact Int32.le_refl _
        have hn2 : ¬ h ≤ nI row + 1 := by rw [eh, nI_1]; exact nI_ge hrow2 (by omega)
        have J := inner (row + 1) 0 k s Cl f q9 hrow2 w1 (by rw [Nat.succ_mul]; omega) hm hWs HK
        rw [← nI_1 row] at J
        have j54 : a_J X 54 [some (.inr (some 0)), some (.inl p), some (.inl x), some (.inl y), some (.inl w), some (.inl h), some (.inr (l_ref p)), some (.inl (nI row + 1)), some (.inl (nI col)), q9] [] (a_mk (l_p (l_c I (nI k) w Cl) f s) F B) 0 0 :=
          a_wp1 hS a_ivh (inv := a_iv X [64]) 60 54 _ rfl ⟨fun z => absurd z hn2, fun _ => J⟩
        exact a_wp1 hS a_ivh (inv := a_iv X [54, 64]) 60 64 _ rfl ⟨fun _ => j54, fun z => absurd hge1 z⟩
  have h0 := loop (wn * hn) 0 0 0 (I 0 7, 0, I 0 9, fun q => I (66 + q) 6) (I 5) (I 0 6) none h1 (Nat.zero_le _) (by omega) (by omega) hW0 (fun z => by omega) hK
  have e0 : l_p (l_c I (nI 0) w (I 5)) (I 0 6) (I 0 7, 0, I 0 9, fun q => I (66 + q) 6) = a_w (a_w (a_w I 0 8 0) 4 1 0) 4 2 w := by
    have e1 : I = l_p (l_c I (I 4 1) (I 4 2) (I 5)) (I 0 6) (I 0 7, I 0 8, I 0 9, fun q => I (66 + q) 6) := by rw [lc_self, lp_self]
    refine Eq.trans ?_ (congrArg (fun J => a_w (a_w (a_w J 0 8 0) 4 1 0) 4 2 w) e1.symm)
    show _ = a_w (a_w (a_w (l_p (l_c I (I 4 1) (I 4 2) (I 5)) (I 0 6) (I 0 7, I 0 8, I 0 9, fun q => I (66 + q) 6)) 0 8 0) 4 1 0) 4 2 w
    rw [lp_8, lc_1, lc_2]
    rfl
  rw [e0] at h0
  have d1' : a_w (a_w (a_w I 0 8 0) 4 1 0) 4 2 w 0 4 = nI n := d1
  have hn0 : ¬ h ≤ 0 := by rw [eh]; exact nI_nle h1 (by omega)
  have j54 : a_J X 54 [some (.inr (some 0)), some (.inl p), some (.inl x), some (.inl y), some (.inl w), some (.inl h), some (.inr (l_ref p)), some (.inl 0), none, none] [] (a_mk (a_w (a_w (a_w I 0 8 0) 4 1 0) 4 2 w) F B) 0 0 :=
    a_wp1 hS a_ivh (inv := a_iv X [64]) 60 54 _ rfl ⟨fun z => absurd z hn0, fun _ => h0⟩
  rw [← hr0] at j54
  refine a_wps hS (inv := a_iv X [54, 64]) a_ivh 60 _ _ _ _ _ _ ?_
  exact ⟨I, F, B, n, p, rfl, rfl, d1, hle, fun z => absurd z hp, fun _ => ⟨w, rfl, fun z => absurd z hw, fun _ => ⟨h, rfl, fun z => absurd z hh, fun _ => ⟨_, F, B, w, rfl, rfl, _, F, B, n, p, rfl, rfl, d1', hle, j54⟩⟩⟩⟩
end LY
end
section
/-! ===== the class's pattern ===== -/
def n_1 (I : Nat → Nat → Int32) (h : Nat) (f : Nat → Int32) : Nat → Nat → Int32 := fun h' k' => if h' = h then f k' else I h' k'
def n_2 (F : Nat → Nat → Option Nat) (h : Nat) : Nat → Nat → Option Nat := fun h' k' => if h' = h then none else F h' k'
def n_3 (B : Nat → Bool) (h : Nat) : Nat → Bool := fun h' => if h' = h then true else B h'
theorem n_e {I : Nat → Nat → Int32} {F : Nat → Nat → Option Nat} {B : Nat → Bool} {h : Nat} {f : Nat → Int32} (hh : 64 ≤ h) : a_new (a_mk I F B) h f = a_mk (n_1 I h f) (n_2 F h) (n_3 B h) := by
  have e2 : (fun h' k' => if h' = h then none else a_SR F h' k') = a_SR (n_2 F h) := by
    funext h' k'
    unfold a_SR n_2
    by_cases e : h' = h
    · rw [if_pos e, if_neg (by omega), if_neg (by omega), if_neg (by omega), if_neg (by omega), if_pos e]
    · rw [if_neg e, if_neg e]
  have e3 : (fun h' => if h' = h then true else a_LV B h') = a_LV (n_3 B h) := by
    funext h'
    unfold a_LV n_3
    by_cases e : h' = h
    · rw [if_pos e, if_pos e, decide_eq_true (show 64 ≤ h' by omega)]
      simp
    · rw [if_neg e, if_neg e]
  show ((fun h' k' => if h' = h then f k' else I h' k'), (fun h' k' => if h' = h then none else a_SR F h' k'), (fun h' => if h' = h then true else a_LV B h')) = _
  rw [e2, e3]
  rfl
section LZ
variable {l : Launch} {D : va_G} {G : aG} {N0 : Nat}
def sp_X1_init : aP := fun as σ K => ∃ h s a b c row old, as = [.inr (some h), .inl s, .inl a, .inl b, .inl c, .inr row, .inr old] ∧ a_is σ h 1 7 = true ∧ ¬ row = some 63 ∧ ¬ old = some 63 ∧
  K none (a_uF (a_uF (a_uI (a_uI (a_uI (a_uI σ h 0 s) h 1 a) h 2 b) h 3 c) h 4 row) h 5 old)
theorem rc_X1_init : ∀ as σ K, sp_X1_init as σ K → ∃ h As, as = .inr (some h) :: As := by
  rintro as σ K ⟨h, s, a, b, c, row, old, rfl, -⟩
  exact ⟨h, _, rfl⟩
def P_X1_init (K : aK) (bc bs : Nat) : List (Nat × aT) := [(0, t_ald 0 1),
  (1, t_obi 4),
  (4, t_ald 0 5),
  (5, t_ild 1 6),
  (6, t_puti 1 7 0 9),
  (9, t_ald 0 10),
  (10, t_ild 2 11),
  (11, t_puti 1 7 1 14),
  (14, t_ald 0 15),
  (15, t_ild 3 16),
  (16, t_puti 1 7 2 19),
  (19, t_ald 0 20),
  (20, t_ild 4 22),
  (22, t_puti 1 7 3 25),
  (25, t_ald 0 26),
  (26, t_ald 5 28),
  (28, t_putr 1 7 4 31),
  (31, t_ald 0 32),
  (32, t_ald 6 34),
  (34, t_putr 1 7 5 37),
  (37, t_vret K bc bs)]
set_option maxRecDepth 100000 in
theorem S_X1_init {X : a_X} {K : aK} {l : Launch} {D : va_G} {G : aG} {N0 : Nat} (C : a_C X cX1_init none RX1) (Y : a_Y X l (a_rm 1 0 0) D G N0) (M : a_mq X K (a_rm 1 0 0).cells (a_rm 1 0 0).slots) (N : X.2.2.2.2.2.2.2.2.1.name = "<init>") : ∀ x ∈ P_X1_init K 0 0, a_Sd X x.1 x.2 := by
  unfold P_X1_init
  refine List.forall_mem_cons.mpr ⟨s_aldn C dX1_init_0 rfl, ?_⟩
  refine List.forall_mem_cons.mpr ⟨s_obi C Y ml_X1_1 im_obj co_obj ⟨by decide, by decide⟩ dX1_init_1, ?_⟩
  refine List.forall_mem_cons.mpr ⟨s_aldn C dX1_init_4 rfl, ?_⟩
  refine List.forall_mem_cons.mpr ⟨s_ildn C dX1_init_5 rfl, ?_⟩
  refine List.forall_mem_cons.mpr ⟨s_puti C tyX1 tyX1_ok nmX1 rfl in_X1 (by decide) lk_X1_7 rfl (Or.inr ⟨rfl, N, rfl⟩) rfl dX1_init_6, ?_⟩
  refine List.forall_mem_cons.mpr ⟨s_aldn C dX1_init_9 rfl, ?_⟩
  refine List.forall_mem_cons.mpr ⟨s_ildn C dX1_init_10 rfl, ?_⟩
  refine List.forall_mem_cons.mpr ⟨s_puti C tyX1 tyX1_ok nmX1 rfl in_X1 (by decide) lk_X1_13 rfl (Or.inr ⟨rfl, N, rfl⟩) rfl dX1_init_11, ?_⟩
  refine List.forall_mem_cons.mpr ⟨s_aldn C dX1_init_14 rfl, ?_⟩
  refine List.forall_mem_cons.mpr ⟨s_ildn C dX1_init_15 rfl, ?_⟩
  refine List.forall_mem_cons.mpr ⟨s_puti C tyX1 tyX1_ok nmX1 rfl in_X1 (by decide) lk_X1_16 rfl (Or.inr ⟨rfl, N, rfl⟩) rfl dX1_init_16, ?_⟩
  refine List.forall_mem_cons.mpr ⟨s_aldn C dX1_init_19 rfl, ?_⟩
  refine List.forall_mem_cons.mpr ⟨s_ild C dX1_init_20, ?_⟩
  refine List.forall_mem_cons.mpr ⟨s_puti C tyX1 tyX1_ok nmX1 rfl in_X1 (by decide) lk_X1_19 rfl (Or.inr ⟨rfl, N, rfl⟩) rfl dX1_init_22, ?_⟩
  refine List.forall_mem_cons.mpr ⟨s_aldn C dX1_init_25 rfl, ?_⟩
  refine List.forall_mem_cons.mpr ⟨s_ald C dX1_init_26, ?_⟩
  refine List.forall_mem_cons.mpr ⟨s_putr C tyX1 tyX1_ok nmX1 rfl in_X1 (by decide) lk_X1_22 rfl (Or.inr ⟨rfl, N, rfl⟩) (Or.inl ⟨_, rfl⟩) dX1_init_28, ?_⟩
  refine List.forall_mem_cons.mpr ⟨s_aldn C dX1_init_31 rfl, ?_⟩
  refine List.forall_mem_cons.mpr ⟨s_ald C dX1_init_32, ?_⟩
  refine List.forall_mem_cons.mpr ⟨s_putr C tyX1 tyX1_ok nmX1 rfl in_X1 (by decide) lk_X1_26 rfl (Or.inr ⟨rfl, N, rfl⟩) (Or.inr ⟨_, rfl⟩) dX1_init_34, ?_⟩
  refine List.forall_mem_cons.mpr ⟨s_vret C M dX1_init_37, ?_⟩
  exact fun _ h => absurd h List.not_mem_nil
theorem con_X1_init : a_Con l D G N0 yX1_init cX1_init 7 none (a_rm 1 0 0) sp_X1_init := by
  refine a_con (by decide) (fun as σ K h => by obtain ⟨h, s, a, b, c, row, old, rfl, -⟩ := h; exact (by decide : 7 ≤ 7)) ?_
  intro X as σ K h C Y M N
  obtain ⟨h, s, a, b, c, row, old, rfl, his, hrow, hold, hK⟩ := h
  refine a_wps (S_X1_init C Y M N) (inv := a_ni) a_nih 40 _ _ _ _ _ _ ?_
  exact a_gi his (a_gi his (a_gi his (a_gi his (a_gi his ⟨hrow, a_gi his ⟨hold, hK⟩⟩))))
def sp_X2_rowFor : aP := fun as σ K => ∃ I F B s b h0, σ = a_mk I F B ∧ as = [.inr (some 0), .inl s, .inl b] ∧ a_LV B h0 = false ∧ kd h0 = (4, 8) ∧ h0 < 256 ∧ h0 ≠ 63 ∧
  (m_in b 0 3 = 0 → K (some (.inr none)) σ) ∧ (∀ d, d < 4 → b = nI d → s = 7 → K (some (.inr (some (6 + d)))) σ) ∧ (∀ d, d < 4 → b = nI d → s = 8 → K (some (.inr (some h0))) (a_new σ h0 (I (6 + d)))) ∧ (¬ s = 7 → ¬ s = 8 → K (some (.inr none)) σ)
theorem rc_X2_rowFor : ∀ as σ K, sp_X2_rowFor as σ K → ∃ h As, as = .inr (some h) :: As ∧ a_is σ h 2 10 = true := by
  rintro as σ K ⟨I, F, B, s, b, h0, rfl, rfl, -⟩
  exact ⟨0, _, rfl, rfl⟩
def P_X2_rowFor (K : aK) (bc bs : Nat) : List (Nat × aT) := [(0, t_ild 2 1),
  (1, t_call 1 0 0 bc bs sp_X2_isDye 4),
  (4, t_if (fun x => x = 0) 7 9),
  (7, t_null 8),
  (8, t_aret K bc bs),
  (9, t_ild 1 10),
  (10, t_ic 7 12),
  (12, t_ifc (fun x y => x = y) 15 22),
  (15, t_ald 0 16),
  (16, t_getr 2 10 0 19),
  (19, t_ild 2 20),
  (20, t_aald 21),
  (21, t_aret K bc bs),
  (22, t_ild 1 23),
  (23, t_ic 8 25),
  (25, t_ifc (fun x y => x = y) 28 43),
  (28, t_ald 0 29),
  (29, t_getr 2 10 0 32),
  (32, t_ild 2 33),
  (33, t_aald 34),
  (34, t_clone bc bs 37),
  (37, t_cast 40),
  (40, t_goto 44),
  (43, t_null 44),
  (44, t_aret K bc bs)]
set_option maxRecDepth 100000 in
theorem S_X2_rowFor {X : a_X} {K : aK} {l : Launch} {D : va_G} {G : aG} {N0 : Nat} (C : a_C X cX2_rowFor (some (.array .int)) RX2) (Y : a_Y X l (a_rm 2 1 8) D G N0) (M : a_mq X K (a_rm 2 1 8).cells (a_rm 2 1 8).slots) : ∀ x ∈ P_X2_rowFor K 1 8, a_Sd X x.1 x.2 := by
  unfold P_X2_rowFor
  refine List.forall_mem_cons.mpr ⟨s_ildn C dX2_rowFor_0 rfl, ?_⟩
  refine List.forall_mem_cons.mpr ⟨s_callS (rm := (a_rm 1 0 0)) C Y con_X2_isDye co_X2_isDye ml_X2_33 st_X2_isDye ii_X2 (by decide +kernel) ⟨by decide, by decide⟩ ⟨rfl, rfl⟩ dX2_rowFor_1, ?_⟩
  refine List.forall_mem_cons.mpr ⟨s_if_ne C dX2_rowFor_4 (by decide), ?_⟩
  refine List.forall_mem_cons.mpr ⟨s_null C dX2_rowFor_7, ?_⟩
  refine List.forall_mem_cons.mpr ⟨s_aret C (Or.inr ⟨_, rfl⟩) M dX2_rowFor_8, ?_⟩
  refine List.forall_mem_cons.mpr ⟨s_ildn C dX2_rowFor_9 rfl, ?_⟩
  refine List.forall_mem_cons.mpr ⟨s_bi C dX2_rowFor_10 (by decide), ?_⟩
  refine List.forall_mem_cons.mpr ⟨s_icmp_ne C dX2_rowFor_12 (by decide), ?_⟩
  refine List.forall_mem_cons.mpr ⟨s_aldn C dX2_rowFor_15 rfl, ?_⟩
  refine List.forall_mem_cons.mpr ⟨s_getr C rfl in_X2 (by decide) lk_X2_11 rfl dX2_rowFor_16, ?_⟩
  refine List.forall_mem_cons.mpr ⟨s_ildn C dX2_rowFor_19 rfl, ?_⟩
  refine List.forall_mem_cons.mpr ⟨s_aald C dX2_rowFor_20, ?_⟩
  refine List.forall_mem_cons.mpr ⟨s_aret C (Or.inr ⟨_, rfl⟩) M dX2_rowFor_21, ?_⟩
  refine List.forall_mem_cons.mpr ⟨s_ildn C dX2_rowFor_22 rfl, ?_⟩
  refine List.forall_mem_cons.mpr ⟨s_bi C dX2_rowFor_23 (by decide), ?_⟩
  refine List.forall_mem_cons.mpr ⟨s_icmp_ne C dX2_rowFor_25 (by decide), ?_⟩
  refine List.forall_mem_cons.mpr ⟨s_aldn C dX2_rowFor_28 rfl, ?_⟩
  refine List.forall_mem_cons.mpr ⟨s_getr C rfl in_X2 (by decide) lk_X2_11 rfl dX2_rowFor_29, ?_⟩
  refine List.forall_mem_cons.mpr ⟨s_ildn C dX2_rowFor_32 rfl, ?_⟩
  refine List.forall_mem_cons.mpr ⟨s_aald C dX2_rowFor_33, ?_⟩
  refine List.forall_mem_cons.mpr ⟨s_clone C Y ml_X2_112 sm_clone na_clone im_clone se_clone ⟨by decide, by decide⟩ ⟨rfl, rfl⟩ dX2_rowFor_34, ?_⟩
  refine List.forall_mem_cons.mpr ⟨s_cast C cl_X2_113 dX2_rowFor_37, ?_⟩
  refine List.forall_mem_cons.mpr ⟨s_goto C dX2_rowFor_40 (by decide), ?_⟩
  refine List.forall_mem_cons.mpr ⟨s_null C dX2_rowFor_43, ?_⟩
  refine List.forall_mem_cons.mpr ⟨s_aret C (Or.inr ⟨_, rfl⟩) M dX2_rowFor_44, ?_⟩
  exact fun _ h => absurd h List.not_mem_nil
set_option maxRecDepth 20000 in
theorem con_X2_rowFor : a_Con l D G N0 yX2_rowFor cX2_rowFor 3 (some (.array .int)) (a_rm 2 1 8) sp_X2_rowFor := by
  refine a_con (by decide) (fun as σ K h => by obtain ⟨I, F, B, s, b, h0, rfl, rfl, -⟩ := h; exact (by decide : 3 ≤ 3)) ?_
  intro X as σ K h C Y M _
  obtain ⟨I, F, B, s, b, h0, rfl, rfl, f1, f2, f3, f4, hK1, hK2, hK3, hK4⟩ := h
  have hS := S_X2_rowFor C Y M
  refine a_wps hS (inv := a_iv X [21, 34]) a_ivh 60 _ _ _ _ _ _ ?_
  refine ⟨b, rfl, fun h1 => hK1 h1, fun h1 => ?_⟩
  obtain ⟨d, hd, rfl⟩ := m_in_n (b := 3) (by decide) h1
  have hv : vp_in (nI d) 4 := vp_in_nI (by omega) (by decide)
  have e : a_SR F 1 (nI d).toNatClampNeg = some (6 + d) := by
    rw [show (nI d).toNatClampNeg = d from nI_clamp (by omega)]
    exact if_pos (show d < 4 by omega)
  refine ⟨fun h7 => ⟨hv, ?_⟩, fun h7 => ⟨fun h8 => ⟨hv, ?_⟩, fun h8 => hK4 h7 h8⟩⟩
  · show a_J X 21 [some (.inr (some 0)), some (.inl s), some (.inl (nI d))] [.inr (a_SR F 1 (nI d).toNatClampNeg)] (a_mk I F B) 0 0
    rw [e]
    exact a_wp1 hS a_ivh (inv := a_iv X []) 60 21 _ rfl (hK2 d (by omega) rfl h7)
  · show a_J X 34 [some (.inr (some 0)), some (.inl s), some (.inl (nI d))] [.inr (a_SR F 1 (nI d).toNatClampNeg)] (a_mk I F B) 0 0
    rw [e]
    refine a_wp1 hS a_ivh (inv := a_iv X []) 60 34 _ rfl (a_gi (l_dy (I := I) (F := F) (B := B) (d := d) (by omega)) ⟨h0, f1, f2, ⟨f3, f4⟩, a_gi ?_ (hK3 d (by omega) rfl h8)⟩)
    show ((a_new (a_mk I F B) h0 (I (6 + d))).2.2 h0 && (kd h0).1 == 4) = true
    rw [a_new_3, f2]
    rfl
/-- what a new pattern changes in the class's world -/
def l_new (I : Nat → Nat → Int32) (F : Nat → Nat → Option Nat) (B : Nat → Bool) (n : Nat) (s a b c : Int32) (I' : Nat → Nat → Int32) (F' : Nat → Nat → Option Nat) (B' : Nat → Bool) : Prop :=
  I' 0 4 = nI (n + 1) ∧ (∀ h k, h ≠ 66 + n → h ≠ 128 + n → ¬ (h = 0 ∧ k = 4) → I' h k = I h k) ∧ (I' (66 + n) 0 = s ∧ I' (66 + n) 1 = a ∧ I' (66 + n) 2 = b ∧ I' (66 + n) 3 = c ∧ I' (66 + n) 6 = 0) ∧
  (∀ h k, h ≠ 66 + n → h ≠ 128 + n → ¬ (h = 3 ∧ k = n) → F' h k = F h k) ∧ F' 3 n = some (66 + n) ∧ (∀ h, h ≠ 66 + n → h ≠ 128 + n → B' h = B h) ∧ B' (66 + n) = true ∧
  (s = 7 → ∀ d, d < 4 → b = nI d → F' (66 + n) 4 = some (6 + d)) ∧ (s = 8 → F' (66 + n) 4 = some (128 + n) ∧ B' (128 + n) = true ∧ ∀ d, d < 4 → b = nI d → ∀ j, I' (128 + n) j = I (6 + d) j) ∧ (s = 13 → F' (66 + n) 5 = F 2 a.toNatClampNeg)
def sp_X2_pattern : aP := fun as σ K => ∃ I F B n s a b c, σ = a_mk I F B ∧ as = [.inr (some 0), .inl s, .inl a, .inl b, .inl c] ∧ l_env I F B n ∧ B (66 + n) = false ∧ B (128 + n) = false ∧
  (m_in s 0 13 = 0 → K (some (.inl (-2))) σ) ∧ (¬ m_in s 0 13 = 0 → m_there (nI n - 1) s a b c = 0 → K (some (.inl (-3))) σ) ∧
  (¬ m_in s 0 13 = 0 → ¬ m_there (nI n - 1) s a b c = 0 → m_bad s b → K (some (.inl (-2))) σ) ∧
  (¬ m_in s 0 13 = 0 → ¬ m_there (nI n - 1) s a b c = 0 → ¬ m_bad s b → n = 60 → K (some (.inl (-4))) σ) ∧
  (¬ m_in s 0 13 = 0 → ¬ m_there (nI n - 1) s a b c = 0 → ¬ m_bad s b → n < 60 → ∀ I' F' B', l_new I F B n s a b c I' F' B' → K (some (.inl (nI n))) (a_mk I' F' B'))
theorem rc_X2_pattern : ∀ as σ K, sp_X2_pattern as σ K → ∃ h As, as = .inr (some h) :: As ∧ a_is σ h 2 10 = true := by
  rintro as σ K ⟨I, F, B, n, s, a, b, c, rfl, rfl, -⟩
  exact ⟨0, _, rfl, rfl⟩
def P_X2_pattern (K : aK) (bc bs : Nat) : List (Nat × aT) := [(0, t_ild 1 1),
  (1, t_if (fun x => x < 0) 10 4),
  (4, t_ild 1 5),
  (5, t_ic 13 7),
  (7, t_ifc (fun x y => x ≤ y) 13 10),
  (10, t_ic (-2) 12),
  (12, t_iret K bc bs),
  (13, t_ald 0 14),
  (14, t_ild 1 15),
  (15, t_ild 2 16),
  (16, t_ild 3 17),
  (17, t_ild 4 19),
  (19, t_call 5 0 0 bc bs sp_X2_knowsAll 22),
  (22, t_if (fun x => x = 0) 25 28),
  (25, t_ic (-3) 27),
  (27, t_iret K bc bs),
  (28, t_ild 1 29),
  (29, t_ild 3 30),
  (30, t_call 2 0 0 bc bs sp_X2_fits 33),
  (33, t_if (fun x => x = 0) 36 39),
  (36, t_ic (-2) 38),
  (38, t_iret K bc bs),
  (39, t_ald 0 40),
  (40, t_geti 2 10 4 43),
  (43, t_ic 60 45),
  (45, t_ifc (fun x y => x < y) 51 48),
  (48, t_ic (-4) 50),
  (50, t_iret K bc bs),
  (51, t_ild 1 52),
  (52, t_ic 13 54),
  (54, t_ifc (fun x y => x = y) 57 65),
  (57, t_ald 0 58),
  (58, t_ild 2 59),
  (59, t_call 2 0 0 bc bs sp_X2_named 62),
  (62, t_goto 66),
  (65, t_null 66),
  (66, t_ast 5 68),
  (68, t_ald 0 69),
  (69, t_getr 2 10 2 72),
  (72, t_ald 0 73),
  (73, t_geti 2 10 4 76),
  (76, t_new 1 7 bc bs 79),
  (79, t_dup 80),
  (80, t_ild 1 81),
  (81, t_ild 2 82),
  (82, t_ild 3 83),
  (83, t_ild 4 85),
  (85, t_ald 0 86),
  (86, t_ild 1 87),
  (87, t_ild 3 88),
  (88, t_call 3 1 8 bc bs sp_X2_rowFor 91),
  (91, t_ald 5 93),
  (93, t_call 7 0 0 bc bs sp_X1_init 96),
  (96, t_aast 97),
  (97, t_ald 0 98),
  (98, t_dup 99),
  (99, t_geti 2 10 4 102),
  (102, t_ic 1 103),
  (103, t_add 104),
  (104, t_puti 2 10 4 107),
  (107, t_ald 0 108),
  (108, t_geti 2 10 4 111),
  (111, t_ic 1 112),
  (112, t_sub 113),
  (113, t_iret K bc bs)]
set_option maxRecDepth 100000 in
theorem S_X2_pattern {X : a_X} {K : aK} {l : Launch} {D : va_G} {G : aG} {N0 : Nat} (C : a_C X cX2_pattern (some .int) RX2) (Y : a_Y X l (a_rm 3 2 15) D G N0) (M : a_mq X K (a_rm 3 2 15).cells (a_rm 3 2 15).slots) : ∀ x ∈ P_X2_pattern K 2 15, a_Sd X x.1 x.2 := by
  unfold P_X2_pattern
  refine List.forall_mem_cons.mpr ⟨s_ildn C dX2_pattern_0 rfl, ?_⟩
  refine List.forall_mem_cons.mpr ⟨s_if_lt C dX2_pattern_1 (by decide), ?_⟩
  refine List.forall_mem_cons.mpr ⟨s_ildn C dX2_pattern_4 rfl, ?_⟩
  refine List.forall_mem_cons.mpr ⟨s_bi C dX2_pattern_5 (by decide), ?_⟩
  refine List.forall_mem_cons.mpr ⟨s_icmp_le C dX2_pattern_7 (by decide), ?_⟩
  refine List.forall_mem_cons.mpr ⟨s_bi C dX2_pattern_10 (by decide), ?_⟩
  refine List.forall_mem_cons.mpr ⟨s_iret C M dX2_pattern_12, ?_⟩
  refine List.forall_mem_cons.mpr ⟨s_aldn C dX2_pattern_13 rfl, ?_⟩
  refine List.forall_mem_cons.mpr ⟨s_ildn C dX2_pattern_14 rfl, ?_⟩
  refine List.forall_mem_cons.mpr ⟨s_ildn C dX2_pattern_15 rfl, ?_⟩
  refine List.forall_mem_cons.mpr ⟨s_ildn C dX2_pattern_16 rfl, ?_⟩
  refine List.forall_mem_cons.mpr ⟨s_ild C dX2_pattern_17, ?_⟩
  refine List.forall_mem_cons.mpr ⟨s_callV (rm := (a_rm 2 0 0)) (n := 4) C Y (ci := 2) rfl con_X2_knowsAll rc_X2_knowsAll co_X2_knowsAll ml_X2_41 im_X2_knowsAll se_X2_knowsAll ii_X2 (by decide +kernel) ⟨by decide, by decide⟩ ⟨rfl, rfl⟩ dX2_pattern_19, ?_⟩
  refine List.forall_mem_cons.mpr ⟨s_if_ne C dX2_pattern_22 (by decide), ?_⟩
  refine List.forall_mem_cons.mpr ⟨s_bi C dX2_pattern_25 (by decide), ?_⟩
  refine List.forall_mem_cons.mpr ⟨s_iret C M dX2_pattern_27, ?_⟩
  refine List.forall_mem_cons.mpr ⟨s_ildn C dX2_pattern_28 rfl, ?_⟩
  refine List.forall_mem_cons.mpr ⟨s_ildn C dX2_pattern_29 rfl, ?_⟩
  refine List.forall_mem_cons.mpr ⟨s_callS (rm := (a_rm 1 0 0)) C Y con_X2_fits co_X2_fits ml_X2_45 st_X2_fits ii_X2 (by decide +kernel) ⟨by decide, by decide⟩ ⟨rfl, rfl⟩ dX2_pattern_30, ?_⟩
  refine List.forall_mem_cons.mpr ⟨s_if_ne C dX2_pattern_33 (by decide), ?_⟩
  refine List.forall_mem_cons.mpr ⟨s_bi C dX2_pattern_36 (by decide), ?_⟩
  refine List.forall_mem_cons.mpr ⟨s_iret C M dX2_pattern_38, ?_⟩
  refine List.forall_mem_cons.mpr ⟨s_aldn C dX2_pattern_39 rfl, ?_⟩
  refine List.forall_mem_cons.mpr ⟨s_geti C rfl in_X2 (by decide) lk_X2_49 rfl dX2_pattern_40, ?_⟩
  refine List.forall_mem_cons.mpr ⟨s_bi C dX2_pattern_43 (by decide), ?_⟩
  refine List.forall_mem_cons.mpr ⟨s_icmp_lt C dX2_pattern_45 (by decide), ?_⟩
  refine List.forall_mem_cons.mpr ⟨s_bi C dX2_pattern_48 (by decide), ?_⟩
  refine List.forall_mem_cons.mpr ⟨s_iret C M dX2_pattern_50, ?_⟩
  refine List.forall_mem_cons.mpr ⟨s_ildn C dX2_pattern_51 rfl, ?_⟩
  refine List.forall_mem_cons.mpr ⟨s_bi C dX2_pattern_52 (by decide), ?_⟩
  refine List.forall_mem_cons.mpr ⟨s_icmp_ne C dX2_pattern_54 (by decide), ?_⟩
  refine List.forall_mem_cons.mpr ⟨s_aldn C dX2_pattern_57 rfl, ?_⟩
  refine List.forall_mem_cons.mpr ⟨s_ildn C dX2_pattern_58 rfl, ?_⟩
  refine List.forall_mem_cons.mpr ⟨s_callV (rm := (a_rm 2 0 0)) (n := 1) C Y (ci := 2) rfl con_X2_named rc_X2_named co_X2_named ml_X2_52 im_X2_named se_X2_named ii_X2 (by decide +kernel) ⟨by decide, by decide⟩ ⟨rfl, rfl⟩ dX2_pattern_59, ?_⟩
  refine List.forall_mem_cons.mpr ⟨s_goto C dX2_pattern_62 (by decide), ?_⟩
  refine List.forall_mem_cons.mpr ⟨s_null C dX2_pattern_65, ?_⟩
  refine List.forall_mem_cons.mpr ⟨s_ast C dX2_pattern_66, ?_⟩
  refine List.forall_mem_cons.mpr ⟨s_aldn C dX2_pattern_68 rfl, ?_⟩
  refine List.forall_mem_cons.mpr ⟨s_getr C rfl in_X2 (by decide) lk_X2_20 rfl dX2_pattern_69, ?_⟩
  refine List.forall_mem_cons.mpr ⟨s_aldn C dX2_pattern_72 rfl, ?_⟩
  refine List.forall_mem_cons.mpr ⟨s_geti C rfl in_X2 (by decide) lk_X2_49 rfl dX2_pattern_73, ?_⟩
  refine List.forall_mem_cons.mpr ⟨s_new C Y tyX1 tyX1_ok df_X1 rfl in_X1 cl_X2_14 ia_X1 ii_X1 ⟨rfl, rfl⟩ dX2_pattern_76, ?_⟩
  refine List.forall_mem_cons.mpr ⟨s_dup C dX2_pattern_79, ?_⟩
  refine List.forall_mem_cons.mpr ⟨s_ildn C dX2_pattern_80 rfl, ?_⟩
  refine List.forall_mem_cons.mpr ⟨s_ildn C dX2_pattern_81 rfl, ?_⟩
  refine List.forall_mem_cons.mpr ⟨s_ildn C dX2_pattern_82 rfl, ?_⟩
  refine List.forall_mem_cons.mpr ⟨s_ild C dX2_pattern_83, ?_⟩
  refine List.forall_mem_cons.mpr ⟨s_aldn C dX2_pattern_85 rfl, ?_⟩
  refine List.forall_mem_cons.mpr ⟨s_ildn C dX2_pattern_86 rfl, ?_⟩
  refine List.forall_mem_cons.mpr ⟨s_ildn C dX2_pattern_87 rfl, ?_⟩
  refine List.forall_mem_cons.mpr ⟨s_callV (rm := (a_rm 2 1 8)) (n := 2) C Y (ci := 2) rfl con_X2_rowFor rc_X2_rowFor co_X2_rowFor ml_X2_56 im_X2_rowFor se_X2_rowFor ii_X2 (by decide +kernel) ⟨by decide, by decide⟩ ⟨rfl, rfl⟩ dX2_pattern_88, ?_⟩
  refine List.forall_mem_cons.mpr ⟨s_ald C dX2_pattern_91, ?_⟩
  refine List.forall_mem_cons.mpr ⟨s_callI (rm := (a_rm 1 0 0)) (n := 6) C Y con_X1_init rc_X1_init co_X1_init ml_X2_30 im_X1_init ii_X1 rfl (by decide +kernel) ⟨by decide, by decide⟩ ⟨rfl, rfl⟩ dX2_pattern_93, ?_⟩
  refine List.forall_mem_cons.mpr ⟨s_aast C dX2_pattern_96, ?_⟩
  refine List.forall_mem_cons.mpr ⟨s_aldn C dX2_pattern_97 rfl, ?_⟩
  refine List.forall_mem_cons.mpr ⟨s_dup C dX2_pattern_98, ?_⟩
  refine List.forall_mem_cons.mpr ⟨s_geti C rfl in_X2 (by decide) lk_X2_49 rfl dX2_pattern_99, ?_⟩
  refine List.forall_mem_cons.mpr ⟨s_ic C dX2_pattern_102 (by decide), ?_⟩
  refine List.forall_mem_cons.mpr ⟨s_add C dX2_pattern_103, ?_⟩
  refine List.forall_mem_cons.mpr ⟨s_puti C tyX2 tyX2_ok nmX2 rfl in_X2 (by decide) lk_X2_49 rfl (Or.inl rfl) rfl dX2_pattern_104, ?_⟩
  refine List.forall_mem_cons.mpr ⟨s_aldn C dX2_pattern_107 rfl, ?_⟩
  refine List.forall_mem_cons.mpr ⟨s_geti C rfl in_X2 (by decide) lk_X2_49 rfl dX2_pattern_108, ?_⟩
  refine List.forall_mem_cons.mpr ⟨s_ic C dX2_pattern_111 (by decide), ?_⟩
  refine List.forall_mem_cons.mpr ⟨s_sub C dX2_pattern_112, ?_⟩
  refine List.forall_mem_cons.mpr ⟨s_iret C M dX2_pattern_113, ?_⟩
  exact fun _ h => absurd h List.not_mem_nil
abbrev l_J4 (J : Nat → Nat → Int32) (n : Nat) (s a b c : Int32) : Nat → Nat → Int32 := a_w (a_w (a_w (a_w J (66 + n) 0 s) (66 + n) 1 a) (66 + n) 2 b) (66 + n) 3 c
abbrev l_F3 (F : Nat → Nat → Option Nat) (n : Nat) (row old : Option Nat) : Nat → Nat → Option Nat := u_2 (u_2 (u_2 F (66 + n) 4 row) (66 + n) 5 old) 3 n (some (66 + n))
theorem l_newI {I J : Nat → Nat → Int32} {F FJ : Nat → Nat → Option Nat} {B BJ : Nat → Bool} {n : Nat} {s a b c : Int32} {row old : Option Nat} (h1 : ∀ h k, h ≠ 66 + n → h ≠ 128 + n → J h k = I h k) (h2 : J (66 + n) 6 = 0) (h3 : ∀ h k, h ≠ 66 + n → h ≠ 128 + n → FJ h k = F h k)
    (h4 : ∀ h, h ≠ 66 + n → h ≠ 128 + n → BJ h = B h) (h5 : BJ (66 + n) = true) (h6 : s = 7 → ∀ d, d < 4 → b = nI d → row = some (6 + d)) (h7 : s = 8 → row = some (128 + n) ∧ BJ (128 + n) = true ∧ ∀ d, d < 4 → b = nI d → ∀ j, J (128 + n) j = I (6 + d) j) (h8 : s = 13 → old = F 2 a.toNatClampNeg) :
    l_new I F B n s a b c (a_w (l_J4 J n s a b c) 0 4 (nI (n + 1))) (l_F3 FJ n row old) BJ := by
  refine ⟨if_pos ⟨rfl, rfl⟩, fun h k e1 e2 e3 => ?_, ⟨?_, ?_, ?_, ?_, ?_⟩, fun h k e1 e2 e3 => ?_, if_pos ⟨rfl, rfl⟩, h4, h5, fun e d hd hb => ?_, fun e => ⟨?_, (h7 e).2.1, fun d hd hb j => ?_⟩, fun e => ?_⟩
  · unfold l_J4 a_w
    rw [if_neg e3, if_neg (fun w => e1 w.1), if_neg (fun w => e1 w.1), if_neg (fun w => e1 w.1), if_neg (fun w => e1 w.1)]
    exact h1 h k e1 e2
  · unfold l_J4 a_w
    rw [if_neg (by omega), if_neg (by omega), if_neg (by omega), if_neg (by omega), if_pos ⟨rfl, rfl⟩]
  · unfold l_J4 a_w
    rw [if_neg (by omega), if_neg (by omega), if_neg (by omega), if_pos ⟨rfl, rfl⟩]
  · unfold l_J4 a_w
    rw [if_neg (by omega), if_neg (by omega), if_pos ⟨rfl, rfl⟩]
  · unfold l_J4 a_w
    rw [if_neg (by omega), if_pos ⟨rfl, rfl⟩]
  · unfold l_J4 a_w
    rw [if_neg (by omega), if_neg (by omega), if_neg (by omega), if_neg (by omega), if_neg (by omega)]
    exact h2
  · unfold l_F3 u_2
    rw [if_neg e3, if_neg (fun w => e1 w.1), if_neg (fun w => e1 w.1)]
    exact h3 h k e1 e2
  · unfold l_F3 u_2
    rw [if_neg (by omega), if_neg (by omega), if_pos ⟨rfl, rfl⟩]
    exact h6 e d hd hb
  · unfold l_F3 u_2
    rw [if_neg (by omega), if_neg (by omega), if_pos ⟨rfl, rfl⟩]
    exact (h7 e).1
  · unfold l_J4 a_w
    rw [if_neg (by omega), if_neg (by omega), if_neg (by omega), if_neg (by omega), if_neg (by omega)]
    exact (h7 e).2.2 d hd hb j
  · unfold l_F3 u_2
    rw [if_neg (by omega), if_pos ⟨rfl, rfl⟩]
    exact h8 e
theorem a_LVn {B : Nat → Bool} {h : Nat} (hh : 64 ≤ h) : a_LV B h = B h := by
  unfold a_LV a_mnh a_mref
  rw [decide_eq_true hh, decide_eq_false (show ¬ h = 1 by omega), decide_eq_false (show ¬ h ≤ 9 by omega), decide_eq_false (show ¬ h = 0 by omega), decide_eq_false (show ¬ h = 2 by omega), decide_eq_false (show ¬ h = 3 by omega), decide_eq_false (show ¬ h = 4 by omega), decide_eq_false (show ¬ h = 5 by omega), decide_eq_false (show ¬ h = 16 by omega), decide_eq_false (show ¬ h - 16 ≤ 9 by omega), decide_eq_false (show ¬ h - 16 ≤ 18 by omega), decide_eq_false (show ¬ h - 16 = 22 by omega)]
  simp
theorem l_ref63 {n : Nat} {c : Int32} (hn : n ≤ 60) (h : m_cd n c) : ¬ l_ref c = some 63 := by
  rcases h with rfl | rfl | rfl | ⟨j, hj, rfl⟩
  · exact (fun e => by cases e)
  · exact (fun e => by cases e)
  · exact (fun e => by cases e)
  · rw [l_ref_p (by omega)]
    intro e
    have := Option.some.inj e
    omega
set_option maxRecDepth 20000 in
set_option maxHeartbeats 4000000 in
theorem con_X2_pattern : a_Con l D G N0 yX2_pattern cX2_pattern 6 (some .int) (a_rm 3 2 15) sp_X2_pattern := by
  refine a_con (by decide) (fun as σ K h => by obtain ⟨I, F, B, n, s, a, b, c, rfl, rfl, -⟩ := h; exact (by decide : 5 ≤ 6)) ?_
  intro X as σ K h C Y M _
  obtain ⟨I, F, B, n, s, a, b, c, rfl, rfl, henv, hB1, hB2, hK1, hK2, hK3, hK4, hK5⟩ := h
  have hS := S_X2_pattern C Y M
  have d1 := henv.2.1
  have hle := henv.1.1
  by_cases h13 : m_in s 0 13 = 0
  · refine a_wps hS (inv := a_iv X [51]) a_ivh 60 _ _ _ _ _ _ ?_
    refine ⟨fun _ => hK1 h13, fun h1 => ⟨fun h2 => ?_, fun _ => hK1 h13⟩⟩
    unfold m_in at h13
    rw [if_neg h1, if_neg (Int32.not_lt.mpr h2)] at h13
    exact absurd h13 (by decide)
  have hs : ¬ s < 0 ∧ s ≤ 13 := by
    unfold m_in at h13
    by_cases h1 : s < 0
    · rw [if_pos h1] at h13; exact absurd rfl h13
    · rw [if_neg h1] at h13
      by_cases h2 : 13 < s
      · rw [if_pos h2] at h13; exact absurd rfl h13
      · exact ⟨h1, Int32.not_lt.mp h2⟩
  by_cases hth : m_there (nI n - 1) s a b c = 0
  · refine a_wps hS (inv := a_iv X [51]) a_ivh 60 _ _ _ _ _ _ ?_
    exact ⟨fun w => absurd w hs.1, fun _ => ⟨fun _ => ⟨I, F, B, n, s, a, b, c, rfl, rfl, d1, hle, h13, fun _ => hK2 h13 hth, fun w => absurd hth w⟩, fun w => absurd hs.2 w⟩⟩
  by_cases hbad : m_bad s b
  · refine a_wps hS (inv := a_iv X [51]) a_ivh 60 _ _ _ _ _ _ ?_
    exact ⟨fun w => absurd w hs.1, fun _ => ⟨fun _ => ⟨I, F, B, n, s, a, b, c, rfl, rfl, d1, hle, h13, fun w => absurd w hth, fun _ => ⟨s, b, rfl, fun _ => ⟨fun _ => hK3 h13 hth hbad, fun w => absurd rfl w⟩, fun w => absurd hbad w⟩⟩, fun w => absurd hs.2 w⟩⟩
  have tail : a_J X 51 [some (.inr (some 0)), some (.inl s), some (.inl a), some (.inl b), some (.inl c), none] [] (a_mk I F B) 0 0 ∨ n = 60 := by
    by_cases h60 : n = 60
    · exact Or.inr h60
    refine Or.inl ?_
    have hlt : n < 60 := by omega
    have hK := hK5 h13 hth hbad hlt
    have hv : vp_in (I 0 4) 60 := by rw [d1]; exact vp_in_nI hlt (by decide)
    have hcl : (I 0 4).toNatClampNeg = n := by rw [d1]; exact nI_clamp (by omega)
    have hk1 : kd (66 + n) = (1, 7) := by unfold kd; rw [if_neg (by omega), if_pos (by omega)]
    have hk2 : kd (128 + n) = (4, 8) := by unfold kd; rw [if_neg (by omega), if_neg (by omega)]
    have j91 : ∀ (J : Nat → Nat → Int32) (FJ : Nat → Nat → Option Nat) (BJ : Nat → Bool) (row old : Option Nat), BJ (66 + n) = true → J 0 4 = nI n → ¬ row = some 63 → ¬ old = some 63 → K (some (.inl (nI n))) (a_mk (a_w (l_J4 J n s a b c) 0 4 (nI (n + 1))) (l_F3 FJ n row old) BJ) →
        a_J X 91 [some (.inr (some 0)), some (.inl s), some (.inl a), some (.inl b), some (.inl c), some (.inr old)] [.inr row, .inl c, .inl b, .inl a, .inl s, .inr (some (66 + n)), .inr (some (66 + n)), .inl (I 0 4), .inr (some 3)] (a_mk J FJ BJ) 2 15 := by
      intro J FJ BJ row old hb hJ hrow hold hKK
      have hlv : a_LV BJ (66 + n) = true := by rw [a_LVn (by omega)]; exact hb
      have his : ∀ J' F', a_is (J', F', a_LV BJ) (66 + n) 1 7 = true := fun J' F' => by
        show (a_LV BJ (66 + n) && ((kd (66 + n)).1 == 1 && (kd (66 + n)).2 == 7)) = true
        rw [hlv, hk1]
        rfl
      have j97 : a_J X 97 [some (.inr (some 0)), some (.inl s), some (.inl a), some (.inl b), some (.inl c), some (.inr old)] [] (a_mk (l_J4 J n s a b c) (l_F3 FJ n row old) BJ) 2 15 := by
        have e4 : l_J4 J n s a b c 0 4 = nI n := by
          unfold l_J4 a_w
          rw [if_neg (by omega), if_neg (by omega), if_neg (by omega), if_neg (by omega)]
          exact hJ
        have e5 : nI n + 1 - 1 = nI n := by rw [nI_1]; exact nI_pred n
        generalize l_J4 J n s a b c = J4 at hKK e4
        have hKK : K (some (.inl (J4 0 4 + 1 - 1))) (a_mk (a_w J4 0 4 (J4 0 4 + 1)) (l_F3 FJ n row old) BJ) := by
          rw [e4, e5, nI_1]
          exact hKK
        exact a_wp1 hS a_ivh (inv := a_iv X []) 40 97 _ rfl hKK
      refine a_wp1 hS a_ivh (inv := a_iv X [97]) 40 91 _ rfl ⟨66 + n, s, a, b, c, row, old, rfl, his _ _, hrow, hold, hv, fun h' e => (by cases e; exact his _ _), ?_⟩
      show a_J X 97 [some (.inr (some 0)), some (.inl s), some (.inl a), some (.inl b), some (.inl c), some (.inr old)] [] (a_uF (a_uF (a_uF (a_mk (l_J4 J n s a b c) FJ BJ) (66 + n) 4 row) (66 + n) 5 old) 3 (I 0 4).toNatClampNeg (some (66 + n))) 2 15
      rw [hcl, u_2e (by omega), u_2e (by omega), u_2e (by omega)]
      exact j97
    have j68 : ∀ old : Option Nat, ¬ old = some 63 → (s = 13 → old = F 2 a.toNatClampNeg) → a_J X 68 [some (.inr (some 0)), some (.inl s), some (.inl a), some (.inl b), some (.inl c), some (.inr old)] [] (a_mk I F B) 0 0 := by
      intro old hold h8
      have g1 : n_3 B (66 + n) (66 + n) = true := if_pos rfl
      have g4 : n_1 I (66 + n) (fun _ => 0) 0 4 = nI n := by unfold n_1; rw [if_neg (by omega)]; exact d1
      have q1 : ∀ h k, h ≠ 66 + n → h ≠ 128 + n → n_1 I (66 + n) (fun _ => 0) h k = I h k := fun h k e1 _ => if_neg e1
      have q3 : ∀ h k, h ≠ 66 + n → h ≠ 128 + n → n_2 F (66 + n) h k = F h k := fun h k e1 _ => if_neg e1
      have q4 : ∀ h, h ≠ 66 + n → h ≠ 128 + n → n_3 B (66 + n) h = B h := fun h e1 _ => if_neg e1
      have q2 : n_1 I (66 + n) (fun _ => 0) (66 + n) 6 = 0 := if_pos rfl
      have hlf : a_LV (n_3 B (66 + n)) (128 + n) = false := by rw [a_LVn (by omega)]; unfold n_3; rw [if_neg (by omega)]; exact hB2
      refine a_wp1 hS a_ivh (inv := a_iv X [91]) 60 68 _ rfl ⟨66 + n, (by show a_LV B (66 + n) = false; rw [a_LVn (by omega)]; exact hB1), hk1, ⟨by omega, by omega⟩, n_1 I (66 + n) (fun _ => 0), n_2 F (66 + n), n_3 B (66 + n), s, b, 128 + n, n_e (by omega), rfl, hlf, hk2, by omega, by omega, fun hz => ?_, fun d hd hb h7 => ?_, fun d hd hb h8' => ?_, fun h7 h8' => ?_⟩
      · show a_J X 91 _ _ (a_new (a_mk I F B) (66 + n) (fun _ => 0)) 2 15
        rw [n_e (by omega)]
        refine j91 _ _ _ none old g1 g4 (fun e => by cases e) hold (hK _ _ _ (l_newI q1 q2 q3 q4 g1 (fun e d hd hb => ?_) (fun e => ?_) h8))
        · rw [hb, show m_in (nI d) 0 3 = 1 from m_in_y (b := 3) (by decide) (by omega)] at hz; exact absurd hz (by decide)
        · obtain ⟨d, hd, hb⟩ := m_there_8 (e ▸ hth)
          rw [hb, show m_in (nI d) 0 3 = 1 from m_in_y (b := 3) (by decide) (by omega)] at hz; exact absurd hz (by decide)
      · show a_J X 91 _ _ (a_new (a_mk I F B) (66 + n) (fun _ => 0)) 2 15
        rw [n_e (by omega)]
        refine j91 _ _ _ (some (6 + d)) old g1 g4 (fun e => by have := Option.some.inj e; omega) hold (hK _ _ _ (l_newI q1 q2 q3 q4 g1 (fun e d' hd' hb' => ?_) (fun e => ?_) h8))
        · have e9 : nI d = nI d' := hb.symm.trans hb'
          have := (nI_eq (by omega) (by omega)).mp e9
          rw [this]
        · rw [e] at h7; exact absurd h7 (by decide)
      · show a_J X 91 _ _ (a_new (a_new (a_mk I F B) (66 + n) (fun _ => 0)) (128 + n) (n_1 I (66 + n) (fun _ => 0) (6 + d))) 2 15
        rw [n_e (by omega), n_e (by omega)]
        refine j91 _ _ _ (some (128 + n)) old ?_ ?_ (fun e => by have := Option.some.inj e; omega) hold (hK _ _ _ (l_newI (fun h k e1 e2 => ?_) ?_ (fun h k e1 e2 => ?_) (fun h e1 e2 => ?_) ?_ (fun e d' hd' hb' => ?_) (fun e => ⟨rfl, if_pos rfl, fun d' hd' hb' j => ?_⟩) h8))
        · unfold n_3; rw [if_neg (by omega)]; exact g1
        · unfold n_1; rw [if_neg (by omega)]; exact g4
        · unfold n_1; rw [if_neg e2, if_neg e1]
        · unfold n_1; rw [if_neg (by omega), if_pos rfl]
        · unfold n_2; rw [if_neg e2, if_neg e1]
        · unfold n_3; rw [if_neg e2, if_neg e1]
        · unfold n_3; rw [if_neg (by omega), if_pos rfl]
        · rw [e] at h8'; exact absurd h8' (by decide)
        · have e9 : nI d = nI d' := hb.symm.trans hb'
          have := (nI_eq (by omega) (by omega)).mp e9
          unfold n_1
          rw [if_pos rfl, if_neg (by omega), this]
      · show a_J X 91 _ _ (a_new (a_mk I F B) (66 + n) (fun _ => 0)) 2 15
        rw [n_e (by omega)]
        exact j91 _ _ _ none old g1 g4 (fun e => by cases e) hold (hK _ _ _ (l_newI q1 q2 q3 q4 g1 (fun e => absurd e h7) (fun e => absurd e h8') h8))
    refine a_wp1 hS a_ivh (inv := a_iv X [68]) 40 51 _ rfl ⟨fun e13 => ⟨I, F, B, a, rfl, rfl, ?_⟩, fun e13 => j68 none (fun e => by cases e) (fun e => absurd e e13)⟩
    obtain ⟨j, hj, rfl⟩ := m_there_13 (e13 ▸ hth)
    have cj : (nI j).toNatClampNeg = j := nI_clamp (by omega)
    have e5 : m_in (nI j) 0 5 = 1 := m_in_y (b := 5) (by decide) (by omega)
    show a_J X 68 [some (.inr (some 0)), some (.inl s), some (.inl (nI j)), some (.inl b), some (.inl c), some (.inr (if m_in (nI j) 0 5 = 0 then none else F 2 (nI j).toNatClampNeg))] [] (a_mk I F B) 0 0
    rw [e5, if_neg (by decide)]
    refine j68 _ ?_ (fun _ => rfl)
    rw [cj, henv.2.2.2.2.2.2.2.1 j hj]
    exact l_ref63 hle (henv.1.2.2 j hj)
  refine a_wps hS (inv := a_iv X [51]) a_ivh 60 _ _ _ _ _ _ ?_
  refine ⟨fun w => absurd w hs.1, fun _ => ⟨fun _ => ⟨I, F, B, n, s, a, b, c, rfl, rfl, d1, hle, h13, fun w => absurd w hth, fun _ => ⟨s, b, rfl, fun w => absurd w hbad, fun _ => ⟨fun w => absurd w (by decide), fun _ => ?_⟩⟩⟩, fun w => absurd hs.2 w⟩⟩
  rcases tail with tail | h60
  · refine ⟨fun _ => tail, fun w => ?_⟩
    have w : ¬ I 0 4 < 60 := w
    refine hK4 h13 hth hbad ?_
    rw [d1] at w
    rcases Nat.lt_or_ge n 60 with z | z
    · exact absurd (nI_lt (b := 60) z (by decide)) w
    · omega
  · have e60 : I 0 4 = 60 := by rw [d1, h60]; rfl
    refine ⟨fun w => ?_, fun _ => hK4 h13 hth hbad h60⟩
    have w : I 0 4 < 60 := w
    rw [e60] at w
    exact absurd w (by decide)
end LZ
end
