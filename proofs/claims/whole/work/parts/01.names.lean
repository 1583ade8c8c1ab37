-- ===== PART A: goes FIRST, ahead of the names: the tables' words, and 'selects' of the private methods out of them =====
/-- a private method of a class that the tables say can be made, by its rows of tables_1 -/
def lw_okq (q : MethodName × Nat) : Prop := (q.1.cls ≠ "java/lang/invoke/MethodHandle" ∧ q.1.cls ≠ "java/lang/invoke/VarHandle") ∧ Cond.instantiable q.1.cls q.2 ∈ tables_1 ∧ Cond.privateMethod q.1 ∈ tables_1 ∧ Cond.instanceMethod q.1 ∈ tables_1
theorem lw_p0 : lw_okq (⟨"PatternLoom", "knowsAll", "(IIII)Z"⟩, 10) := ⟨⟨by decide +kernel, by decide +kernel⟩, List.mem_of_getElem? (i := 6) (by decide +kernel), List.mem_of_getElem? (i := 112) (by decide +kernel), List.mem_of_getElem? (i := 113) (by decide +kernel)⟩
theorem lw_p1 : lw_okq (⟨"PatternLoom", "isPattern", "(I)Z"⟩, 10) := ⟨⟨by decide +kernel, by decide +kernel⟩, List.mem_of_getElem? (i := 6) (by decide +kernel), List.mem_of_getElem? (i := 116) (by decide +kernel), List.mem_of_getElem? (i := 117) (by decide +kernel)⟩
theorem lw_p2 : lw_okq (⟨"PatternLoom", "named", "(I)LPatternLoom$Pattern;"⟩, 10) := ⟨⟨by decide +kernel, by decide +kernel⟩, List.mem_of_getElem? (i := 6) (by decide +kernel), List.mem_of_getElem? (i := 133) (by decide +kernel), List.mem_of_getElem? (i := 134) (by decide +kernel)⟩
theorem lw_p3 : lw_okq (⟨"PatternLoom", "numbered", "(I)LPatternLoom$Pattern;"⟩, 10) := ⟨⟨by decide +kernel, by decide +kernel⟩, List.mem_of_getElem? (i := 6) (by decide +kernel), List.mem_of_getElem? (i := 141) (by decide +kernel), List.mem_of_getElem? (i := 142) (by decide +kernel)⟩
theorem lw_p4 : lw_okq (⟨"PatternLoom", "tellPlace", "(LPatternLoom$Pattern;II)I"⟩, 10) := ⟨⟨by decide +kernel, by decide +kernel⟩, List.mem_of_getElem? (i := 6) (by decide +kernel), List.mem_of_getElem? (i := 149) (by decide +kernel), List.mem_of_getElem? (i := 150) (by decide +kernel)⟩
theorem lw_p5 : lw_okq (⟨"PatternLoom", "tell", "(LPatternLoom$Pattern;II)I"⟩, 10) := ⟨⟨by decide +kernel, by decide +kernel⟩, List.mem_of_getElem? (i := 6) (by decide +kernel), List.mem_of_getElem? (i := 153) (by decide +kernel), List.mem_of_getElem? (i := 154) (by decide +kernel)⟩
theorem lw_p6 : lw_okq (⟨"PatternLoom", "fail", "(I)I"⟩, 10) := ⟨⟨by decide +kernel, by decide +kernel⟩, List.mem_of_getElem? (i := 6) (by decide +kernel), List.mem_of_getElem? (i := 157) (by decide +kernel), List.mem_of_getElem? (i := 158) (by decide +kernel)⟩
theorem lw_p7 : lw_okq (⟨"PatternLoom", "tellStripes", "(LPatternLoom$Pattern;I)I"⟩, 10) := ⟨⟨by decide +kernel, by decide +kernel⟩, List.mem_of_getElem? (i := 6) (by decide +kernel), List.mem_of_getElem? (i := 161) (by decide +kernel), List.mem_of_getElem? (i := 162) (by decide +kernel)⟩
theorem lw_p8 : lw_okq (⟨"PatternLoom", "tellTwill", "(LPatternLoom$Pattern;II)I"⟩, 10) := ⟨⟨by decide +kernel, by decide +kernel⟩, List.mem_of_getElem? (i := 6) (by decide +kernel), List.mem_of_getElem? (i := 165) (by decide +kernel), List.mem_of_getElem? (i := 166) (by decide +kernel)⟩
theorem lw_p9 : lw_okq (⟨"PatternLoom", "tellTurned", "(LPatternLoom$Pattern;II)I"⟩, 10) := ⟨⟨by decide +kernel, by decide +kernel⟩, List.mem_of_getElem? (i := 6) (by decide +kernel), List.mem_of_getElem? (i := 169) (by decide +kernel), List.mem_of_getElem? (i := 170) (by decide +kernel)⟩
theorem lw_p10 : lw_okq (⟨"PatternLoom", "tellOver", "(LPatternLoom$Pattern;II)I"⟩, 10) := ⟨⟨by decide +kernel, by decide +kernel⟩, List.mem_of_getElem? (i := 6) (by decide +kernel), List.mem_of_getElem? (i := 173) (by decide +kernel), List.mem_of_getElem? (i := 174) (by decide +kernel)⟩
theorem lw_p11 : lw_okq (⟨"PatternLoom", "tellWhere", "(LPatternLoom$Pattern;II)I"⟩, 10) := ⟨⟨by decide +kernel, by decide +kernel⟩, List.mem_of_getElem? (i := 6) (by decide +kernel), List.mem_of_getElem? (i := 177) (by decide +kernel), List.mem_of_getElem? (i := 178) (by decide +kernel)⟩
theorem lw_p12 : lw_okq (⟨"PatternLoom", "tellDyed", "(LPatternLoom$Pattern;II)I"⟩, 10) := ⟨⟨by decide +kernel, by decide +kernel⟩, List.mem_of_getElem? (i := 6) (by decide +kernel), List.mem_of_getElem? (i := 181) (by decide +kernel), List.mem_of_getElem? (i := 182) (by decide +kernel)⟩
theorem lw_p13 : lw_okq (⟨"PatternLoom", "rowOf", "(LPatternLoom$Pattern;)[I"⟩, 10) := ⟨⟨by decide +kernel, by decide +kernel⟩, List.mem_of_getElem? (i := 6) (by decide +kernel), List.mem_of_getElem? (i := 185) (by decide +kernel), List.mem_of_getElem? (i := 186) (by decide +kernel)⟩
theorem lw_p14 : lw_okq (⟨"PatternLoom", "colourOf", "([II)I"⟩, 10) := ⟨⟨by decide +kernel, by decide +kernel⟩, List.mem_of_getElem? (i := 6) (by decide +kernel), List.mem_of_getElem? (i := 189) (by decide +kernel), List.mem_of_getElem? (i := 190) (by decide +kernel)⟩
theorem lw_p15 : lw_okq (⟨"PatternLoom", "tellWorn", "(LPatternLoom$Pattern;II)I"⟩, 10) := ⟨⟨by decide +kernel, by decide +kernel⟩, List.mem_of_getElem? (i := 6) (by decide +kernel), List.mem_of_getElem? (i := 193) (by decide +kernel), List.mem_of_getElem? (i := 194) (by decide +kernel)⟩
def lw_privs_1 : List (MethodName × Nat) := [(⟨"PatternLoom", "knowsAll", "(IIII)Z"⟩, 10), (⟨"PatternLoom", "isPattern", "(I)Z"⟩, 10), (⟨"PatternLoom", "named", "(I)LPatternLoom$Pattern;"⟩, 10), (⟨"PatternLoom", "numbered", "(I)LPatternLoom$Pattern;"⟩, 10), (⟨"PatternLoom", "tellPlace", "(LPatternLoom$Pattern;II)I"⟩, 10), (⟨"PatternLoom", "tell", "(LPatternLoom$Pattern;II)I"⟩, 10), (⟨"PatternLoom", "fail", "(I)I"⟩, 10), (⟨"PatternLoom", "tellStripes", "(LPatternLoom$Pattern;I)I"⟩, 10), (⟨"PatternLoom", "tellTwill", "(LPatternLoom$Pattern;II)I"⟩, 10), (⟨"PatternLoom", "tellTurned", "(LPatternLoom$Pattern;II)I"⟩, 10), (⟨"PatternLoom", "tellOver", "(LPatternLoom$Pattern;II)I"⟩, 10), (⟨"PatternLoom", "tellWhere", "(LPatternLoom$Pattern;II)I"⟩, 10), (⟨"PatternLoom", "tellDyed", "(LPatternLoom$Pattern;II)I"⟩, 10), (⟨"PatternLoom", "rowOf", "(LPatternLoom$Pattern;)[I"⟩, 10), (⟨"PatternLoom", "colourOf", "([II)I"⟩, 10), (⟨"PatternLoom", "tellWorn", "(LPatternLoom$Pattern;II)I"⟩, 10)]
theorem lw_r1 : ∀ q ∈ lw_privs_1, lw_okq q := List.forall_mem_cons.mpr ⟨lw_p0, List.forall_mem_cons.mpr ⟨lw_p1, List.forall_mem_cons.mpr ⟨lw_p2, List.forall_mem_cons.mpr ⟨lw_p3, List.forall_mem_cons.mpr ⟨lw_p4, List.forall_mem_cons.mpr ⟨lw_p5, List.forall_mem_cons.mpr ⟨lw_p6, List.forall_mem_cons.mpr ⟨lw_p7, List.forall_mem_cons.mpr ⟨lw_p8, List.forall_mem_cons.mpr ⟨lw_p9, List.forall_mem_cons.mpr ⟨lw_p10, List.forall_mem_cons.mpr ⟨lw_p11, List.forall_mem_cons.mpr ⟨lw_p12, List.forall_mem_cons.mpr ⟨lw_p13, List.forall_mem_cons.mpr ⟨lw_p14, List.forall_mem_cons.mpr ⟨lw_p15, fun _ h => absurd h List.not_mem_nil⟩⟩⟩⟩⟩⟩⟩⟩⟩⟩⟩⟩⟩⟩⟩⟩
theorem lw_p16 : lw_okq (⟨"PatternLoom", "tellBoth", "(LPatternLoom$Pattern;II)I"⟩, 10) := ⟨⟨by decide +kernel, by decide +kernel⟩, List.mem_of_getElem? (i := 6) (by decide +kernel), List.mem_of_getElem? (i := 197) (by decide +kernel), List.mem_of_getElem? (i := 198) (by decide +kernel)⟩
theorem lw_p17 : lw_okq (⟨"PatternLoom", "tellSafe", "(LPatternLoom$Pattern;II)I"⟩, 10) := ⟨⟨by decide +kernel, by decide +kernel⟩, List.mem_of_getElem? (i := 6) (by decide +kernel), List.mem_of_getElem? (i := 201) (by decide +kernel), List.mem_of_getElem? (i := 202) (by decide +kernel)⟩
theorem lw_p18 : lw_okq (⟨"PatternLoom", "saves", "(I)Z"⟩, 10) := ⟨⟨by decide +kernel, by decide +kernel⟩, List.mem_of_getElem? (i := 6) (by decide +kernel), List.mem_of_getElem? (i := 205) (by decide +kernel), List.mem_of_getElem? (i := 206) (by decide +kernel)⟩
theorem lw_p19 : lw_okq (⟨"PatternLoom$Cloth", "timesFrom", "(I)I"⟩, 3) := ⟨⟨by decide +kernel, by decide +kernel⟩, List.mem_of_getElem? (i := 18) (by decide +kernel), List.mem_of_getElem? (i := 248) (by decide +kernel), List.mem_of_getElem? (i := 249) (by decide +kernel)⟩
theorem lw_p20 : lw_okq (⟨"PatternLoomModel", "areThere", "(IIII)Z"⟩, 25) := ⟨⟨by decide +kernel, by decide +kernel⟩, List.mem_of_getElem? (i := 260) (by decide +kernel), List.mem_of_getElem? (i := 353) (by decide +kernel), List.mem_of_getElem? (i := 354) (by decide +kernel)⟩
theorem lw_p21 : lw_okq (⟨"PatternLoomModel", "isPattern", "(I)Z"⟩, 25) := ⟨⟨by decide +kernel, by decide +kernel⟩, List.mem_of_getElem? (i := 260) (by decide +kernel), List.mem_of_getElem? (i := 357) (by decide +kernel), List.mem_of_getElem? (i := 358) (by decide +kernel)⟩
theorem lw_p22 : lw_okq (⟨"PatternLoomModel", "work", "(III)V"⟩, 25) := ⟨⟨by decide +kernel, by decide +kernel⟩, List.mem_of_getElem? (i := 260) (by decide +kernel), List.mem_of_getElem? (i := 369) (by decide +kernel), List.mem_of_getElem? (i := 370) (by decide +kernel)⟩
theorem lw_p23 : lw_okq (⟨"PatternLoomModel", "push", "(III)V"⟩, 25) := ⟨⟨by decide +kernel, by decide +kernel⟩, List.mem_of_getElem? (i := 260) (by decide +kernel), List.mem_of_getElem? (i := 373) (by decide +kernel), List.mem_of_getElem? (i := 374) (by decide +kernel)⟩
theorem lw_p24 : lw_okq (⟨"PatternLoomModel", "falls", "()V"⟩, 25) := ⟨⟨by decide +kernel, by decide +kernel⟩, List.mem_of_getElem? (i := 260) (by decide +kernel), List.mem_of_getElem? (i := 377) (by decide +kernel), List.mem_of_getElem? (i := 378) (by decide +kernel)⟩
theorem lw_p25 : lw_okq (⟨"PatternLoomModel", "alone", "(III)V"⟩, 25) := ⟨⟨by decide +kernel, by decide +kernel⟩, List.mem_of_getElem? (i := 260) (by decide +kernel), List.mem_of_getElem? (i := 381) (by decide +kernel), List.mem_of_getElem? (i := 382) (by decide +kernel)⟩
theorem lw_p26 : lw_okq (⟨"PatternLoomModel", "tells", "(I)V"⟩, 25) := ⟨⟨by decide +kernel, by decide +kernel⟩, List.mem_of_getElem? (i := 260) (by decide +kernel), List.mem_of_getElem? (i := 385) (by decide +kernel), List.mem_of_getElem? (i := 386) (by decide +kernel)⟩
theorem lw_p27 : lw_okq (⟨"PatternLoomModel", "dyeAt", "(II)I"⟩, 25) := ⟨⟨by decide +kernel, by decide +kernel⟩, List.mem_of_getElem? (i := 260) (by decide +kernel), List.mem_of_getElem? (i := 389) (by decide +kernel), List.mem_of_getElem? (i := 390) (by decide +kernel)⟩
theorem lw_p28 : lw_okq (⟨"PatternLoomModel", "tellsOf", "(III)V"⟩, 25) := ⟨⟨by decide +kernel, by decide +kernel⟩, List.mem_of_getElem? (i := 260) (by decide +kernel), List.mem_of_getElem? (i := 393) (by decide +kernel), List.mem_of_getElem? (i := 394) (by decide +kernel)⟩
theorem lw_p29 : lw_okq (⟨"PatternLoomModel", "begins", "(III)V"⟩, 25) := ⟨⟨by decide +kernel, by decide +kernel⟩, List.mem_of_getElem? (i := 260) (by decide +kernel), List.mem_of_getElem? (i := 400) (by decide +kernel), List.mem_of_getElem? (i := 401) (by decide +kernel)⟩
theorem lw_p30 : lw_okq (⟨"PatternLoomModel", "turned", "(III)V"⟩, 25) := ⟨⟨by decide +kernel, by decide +kernel⟩, List.mem_of_getElem? (i := 260) (by decide +kernel), List.mem_of_getElem? (i := 404) (by decide +kernel), List.mem_of_getElem? (i := 405) (by decide +kernel)⟩
theorem lw_p31 : lw_okq (⟨"PatternLoomModel", "goesOn", "(II)V"⟩, 25) := ⟨⟨by decide +kernel, by decide +kernel⟩, List.mem_of_getElem? (i := 260) (by decide +kernel), List.mem_of_getElem? (i := 408) (by decide +kernel), List.mem_of_getElem? (i := 409) (by decide +kernel)⟩
def lw_privs_2 : List (MethodName × Nat) := [(⟨"PatternLoom", "tellBoth", "(LPatternLoom$Pattern;II)I"⟩, 10), (⟨"PatternLoom", "tellSafe", "(LPatternLoom$Pattern;II)I"⟩, 10), (⟨"PatternLoom", "saves", "(I)Z"⟩, 10), (⟨"PatternLoom$Cloth", "timesFrom", "(I)I"⟩, 3), (⟨"PatternLoomModel", "areThere", "(IIII)Z"⟩, 25), (⟨"PatternLoomModel", "isPattern", "(I)Z"⟩, 25), (⟨"PatternLoomModel", "work", "(III)V"⟩, 25), (⟨"PatternLoomModel", "push", "(III)V"⟩, 25), (⟨"PatternLoomModel", "falls", "()V"⟩, 25), (⟨"PatternLoomModel", "alone", "(III)V"⟩, 25), (⟨"PatternLoomModel", "tells", "(I)V"⟩, 25), (⟨"PatternLoomModel", "dyeAt", "(II)I"⟩, 25), (⟨"PatternLoomModel", "tellsOf", "(III)V"⟩, 25), (⟨"PatternLoomModel", "begins", "(III)V"⟩, 25), (⟨"PatternLoomModel", "turned", "(III)V"⟩, 25), (⟨"PatternLoomModel", "goesOn", "(II)V"⟩, 25)]
theorem lw_r2 : ∀ q ∈ lw_privs_2, lw_okq q := List.forall_mem_cons.mpr ⟨lw_p16, List.forall_mem_cons.mpr ⟨lw_p17, List.forall_mem_cons.mpr ⟨lw_p18, List.forall_mem_cons.mpr ⟨lw_p19, List.forall_mem_cons.mpr ⟨lw_p20, List.forall_mem_cons.mpr ⟨lw_p21, List.forall_mem_cons.mpr ⟨lw_p22, List.forall_mem_cons.mpr ⟨lw_p23, List.forall_mem_cons.mpr ⟨lw_p24, List.forall_mem_cons.mpr ⟨lw_p25, List.forall_mem_cons.mpr ⟨lw_p26, List.forall_mem_cons.mpr ⟨lw_p27, List.forall_mem_cons.mpr ⟨lw_p28, List.forall_mem_cons.mpr ⟨lw_p29, List.forall_mem_cons.mpr ⟨lw_p30, List.forall_mem_cons.mpr ⟨lw_p31, fun _ h => absurd h List.not_mem_nil⟩⟩⟩⟩⟩⟩⟩⟩⟩⟩⟩⟩⟩⟩⟩⟩
theorem lw_p32 : lw_okq (⟨"PatternLoomModel", "manyOf", "(I)I"⟩, 25) := ⟨⟨by decide +kernel, by decide +kernel⟩, List.mem_of_getElem? (i := 260) (by decide +kernel), List.mem_of_getElem? (i := 428) (by decide +kernel), List.mem_of_getElem? (i := 429) (by decide +kernel)⟩
def lw_privs_3 : List (MethodName × Nat) := [(⟨"PatternLoomModel", "manyOf", "(I)I"⟩, 25)]
theorem lw_r3 : ∀ q ∈ lw_privs_3, lw_okq q := List.forall_mem_cons.mpr ⟨lw_p32, fun _ h => absurd h List.not_mem_nil⟩
def lw_privs : List (MethodName × Nat) := lw_privs_1 ++ (lw_privs_2 ++ (lw_privs_3))
def lw_tbl : List Cond := k2_sels lw_privs ++ tables_1
theorem lw_privs_ok : ∀ q ∈ lw_privs, lw_okq q := by
  show ∀ q ∈ lw_privs_1 ++ (lw_privs_2 ++ (lw_privs_3)), lw_okq q
  exact List.forall_mem_append.mpr ⟨lw_r1, List.forall_mem_append.mpr ⟨lw_r2, lw_r3⟩⟩

def RX0 : String := "PatternLoom$Cloth"
def TX0 : u_T := fun k => match k with
  | 0 => ("PatternLoom$Cloth", "colours", "[I", true)
  | 1 => ("PatternLoom$Cloth", "size", "I", false)
  | _ => ("PatternLoom$Cloth", "width", "I", false)
def tyX0 : Nat → FieldType := fun k => match k with
  | 0 => .array .int
  | 1 => .int
  | _ => .int
abbrev wsX00 : List Cond := u_ws RX0 TX0 3
theorem nmX0 : ∀ a, a < 3 → ∀ b, b < 3 → a ≠ b → (TX0 a).2.1 ≠ (TX0 b).2.1 := by decide +kernel
theorem tyX0_ok : ∀ k, k < 3 → parseFieldDescriptor (TX0 k).2.2.1 = some (tyX0 k) := by decide +kernel
abbrev cX0_init : ByteArray := prog_2_method_1_code
def yX0_init : MethodName := ⟨RX0, "<init>", "()V"⟩
abbrev cX0_begin : ByteArray := prog_2_method_2_code
def yX0_begin : MethodName := ⟨RX0, "begin", "(I)V"⟩
abbrev cX0_add : ByteArray := prog_2_method_3_code
def yX0_add : MethodName := ⟨RX0, "add", "(I)V"⟩
abbrev cX0_colourAt : ByteArray := prog_2_method_4_code
def yX0_colourAt : MethodName := ⟨RX0, "colourAt", "(I)I"⟩
abbrev cX0_changesInRows : ByteArray := prog_2_method_5_code
def yX0_changesInRows : MethodName := ⟨RX0, "changesInRows", "()I"⟩
abbrev cX0_mostOften : ByteArray := prog_2_method_6_code
def yX0_mostOften : MethodName := ⟨RX0, "mostOften", "()I"⟩
abbrev cX0_timesFrom : ByteArray := prog_2_method_7_code
def yX0_timesFrom : MethodName := ⟨RX0, "timesFrom", "(I)I"⟩
def RX1 : String := "PatternLoom$Pattern"
def TX1 : u_T := fun k => match k with
  | 0 => ("PatternLoom$Pattern", "sort", "I", true)
  | 1 => ("PatternLoom$Pattern", "a", "I", true)
  | 2 => ("PatternLoom$Pattern", "b", "I", true)
  | 3 => ("PatternLoom$Pattern", "c", "I", true)
  | 4 => ("PatternLoom$Pattern", "fastRow", "[I", true)
  | 5 => ("PatternLoom$Pattern", "old", "LPatternLoom$Pattern;", true)
  | _ => ("PatternLoom$Pattern", "wear", "I", false)
def tyX1 : Nat → FieldType := fun k => match k with
  | 0 => .int
  | 1 => .int
  | 2 => .int
  | 3 => .int
  | 4 => .array .int
  | 5 => .object "PatternLoom$Pattern"
  | _ => .int
abbrev wsX10 : List Cond := u_ws RX1 TX1 7
theorem nmX1 : ∀ a, a < 7 → ∀ b, b < 7 → a ≠ b → (TX1 a).2.1 ≠ (TX1 b).2.1 := by decide +kernel
theorem tyX1_ok : ∀ k, k < 7 → parseFieldDescriptor (TX1 k).2.2.1 = some (tyX1 k) := by decide +kernel
abbrev cX1_init : ByteArray := prog_3_method_1_code
def yX1_init : MethodName := ⟨RX1, "<init>", "(IIII[ILPatternLoom$Pattern;)V"⟩
def RX2 : String := "PatternLoom"
def TX2 : u_T := fun k => match k with
  | 0 => ("PatternLoom", "dyes", "[[I", true)
  | 1 => ("PatternLoom", "names", "[LPatternLoom$Pattern;", true)
  | 2 => ("PatternLoom", "patterns", "[LPatternLoom$Pattern;", true)
  | 3 => ("PatternLoom", "woven", "LPatternLoom$Cloth;", true)
  | 4 => ("PatternLoom", "patternCount", "I", false)
  | 5 => ("PatternLoom", "reason", "I", false)
  | 6 => ("PatternLoom", "failure", "I", false)
  | 7 => ("PatternLoom", "asked", "I", false)
  | 8 => ("PatternLoom", "saved", "I", false)
  | _ => ("PatternLoom", "wornTold", "I", false)
def tyX2 : Nat → FieldType := fun k => match k with
  | 0 => .array (.array .int)
  | 1 => .array (.object "PatternLoom$Pattern")
  | 2 => .array (.object "PatternLoom$Pattern")
  | 3 => .object "PatternLoom$Cloth"
  | 4 => .int
  | 5 => .int
  | 6 => .int
  | 7 => .int
  | 8 => .int
  | _ => .int
abbrev wsX20 : List Cond := u_ws RX2 TX2 10
theorem nmX2 : ∀ a, a < 10 → ∀ b, b < 10 → a ≠ b → (TX2 a).2.1 ≠ (TX2 b).2.1 := by decide +kernel
theorem tyX2_ok : ∀ k, k < 10 → parseFieldDescriptor (TX2 k).2.2.1 = some (tyX2 k) := by decide +kernel
abbrev cX2_init : ByteArray := prog_1_method_1_code
def yX2_init : MethodName := ⟨RX2, "<init>", "()V"⟩
abbrev cX2_dye : ByteArray := prog_1_method_2_code
def yX2_dye : MethodName := ⟨RX2, "dye", "(III)I"⟩
abbrev cX2_pattern : ByteArray := prog_1_method_3_code
def yX2_pattern : MethodName := ⟨RX2, "pattern", "(IIII)I"⟩
abbrev cX2_name : ByteArray := prog_1_method_4_code
def yX2_name : MethodName := ⟨RX2, "name", "(II)I"⟩
abbrev cX2_ask : ByteArray := prog_1_method_5_code
def yX2_ask : MethodName := ⟨RX2, "ask", "(III)I"⟩
abbrev cX2_weave : ByteArray := prog_1_method_6_code
def yX2_weave : MethodName := ⟨RX2, "weave", "(IIIII)I"⟩
abbrev cX2_cloth : ByteArray := prog_1_method_7_code
def yX2_cloth : MethodName := ⟨RX2, "cloth", "(I)I"⟩
abbrev cX2_changes : ByteArray := prog_1_method_8_code
def yX2_changes : MethodName := ⟨RX2, "changes", "()I"⟩
abbrev cX2_most : ByteArray := prog_1_method_9_code
def yX2_most : MethodName := ⟨RX2, "most", "()I"⟩
abbrev cX2_why : ByteArray := prog_1_method_10_code
def yX2_why : MethodName := ⟨RX2, "why", "()I"⟩
abbrev cX2_count : ByteArray := prog_1_method_11_code
def yX2_count : MethodName := ⟨RX2, "count", "(I)I"⟩
abbrev cX2_isDye : ByteArray := prog_1_method_12_code
def yX2_isDye : MethodName := ⟨RX2, "isDye", "(I)Z"⟩
abbrev cX2_isName : ByteArray := prog_1_method_13_code
def yX2_isName : MethodName := ⟨RX2, "isName", "(I)Z"⟩
abbrev cX2_isSide : ByteArray := prog_1_method_14_code
def yX2_isSide : MethodName := ⟨RX2, "isSide", "(I)Z"⟩
abbrev cX2_isPattern : ByteArray := prog_1_method_15_code
def yX2_isPattern : MethodName := ⟨RX2, "isPattern", "(I)Z"⟩
abbrev cX2_numbered : ByteArray := prog_1_method_16_code
def yX2_numbered : MethodName := ⟨RX2, "numbered", "(I)LPatternLoom$Pattern;"⟩
abbrev cX2_named : ByteArray := prog_1_method_17_code
def yX2_named : MethodName := ⟨RX2, "named", "(I)LPatternLoom$Pattern;"⟩
abbrev cX2_knowsAll : ByteArray := prog_1_method_18_code
def yX2_knowsAll : MethodName := ⟨RX2, "knowsAll", "(IIII)Z"⟩
abbrev cX2_fits : ByteArray := prog_1_method_19_code
def yX2_fits : MethodName := ⟨RX2, "fits", "(II)Z"⟩
abbrev cX2_tellPlace : ByteArray := prog_1_method_20_code
def yX2_tellPlace : MethodName := ⟨RX2, "tellPlace", "(LPatternLoom$Pattern;II)I"⟩
abbrev cX2_fail : ByteArray := prog_1_method_21_code
def yX2_fail : MethodName := ⟨RX2, "fail", "(I)I"⟩
abbrev cX2_tell : ByteArray := prog_1_method_22_code
def yX2_tell : MethodName := ⟨RX2, "tell", "(LPatternLoom$Pattern;II)I"⟩
abbrev cX2_tellStripes : ByteArray := prog_1_method_23_code
def yX2_tellStripes : MethodName := ⟨RX2, "tellStripes", "(LPatternLoom$Pattern;I)I"⟩
abbrev cX2_tellTwill : ByteArray := prog_1_method_24_code
def yX2_tellTwill : MethodName := ⟨RX2, "tellTwill", "(LPatternLoom$Pattern;II)I"⟩
abbrev cX2_tellTurned : ByteArray := prog_1_method_25_code
def yX2_tellTurned : MethodName := ⟨RX2, "tellTurned", "(LPatternLoom$Pattern;II)I"⟩
abbrev cX2_tellOver : ByteArray := prog_1_method_26_code
def yX2_tellOver : MethodName := ⟨RX2, "tellOver", "(LPatternLoom$Pattern;II)I"⟩
abbrev cX2_tellWhere : ByteArray := prog_1_method_27_code
def yX2_tellWhere : MethodName := ⟨RX2, "tellWhere", "(LPatternLoom$Pattern;II)I"⟩
abbrev cX2_tellDyed : ByteArray := prog_1_method_28_code
def yX2_tellDyed : MethodName := ⟨RX2, "tellDyed", "(LPatternLoom$Pattern;II)I"⟩
abbrev cX2_rowOf : ByteArray := prog_1_method_29_code
def yX2_rowOf : MethodName := ⟨RX2, "rowOf", "(LPatternLoom$Pattern;)[I"⟩
abbrev cX2_colourOf : ByteArray := prog_1_method_30_code
def yX2_colourOf : MethodName := ⟨RX2, "colourOf", "([II)I"⟩
abbrev cX2_tellWorn : ByteArray := prog_1_method_31_code
def yX2_tellWorn : MethodName := ⟨RX2, "tellWorn", "(LPatternLoom$Pattern;II)I"⟩
abbrev cX2_tellBoth : ByteArray := prog_1_method_32_code
def yX2_tellBoth : MethodName := ⟨RX2, "tellBoth", "(LPatternLoom$Pattern;II)I"⟩
abbrev cX2_tellSafe : ByteArray := prog_1_method_33_code
def yX2_tellSafe : MethodName := ⟨RX2, "tellSafe", "(LPatternLoom$Pattern;II)I"⟩
abbrev cX2_saves : ByteArray := prog_1_method_34_code
def yX2_saves : MethodName := ⟨RX2, "saves", "(I)Z"⟩
def RX3 : String := "PatternLoomModel"
def TX3 : u_T := fun k => match k with
  | 0 => ("PatternLoomModel", "patterns", "I", false)
  | 1 => ("PatternLoomModel", "sorts", "[I", true)
  | 2 => ("PatternLoomModel", "as", "[I", true)
  | 3 => ("PatternLoomModel", "bs", "[I", true)
  | 4 => ("PatternLoomModel", "cs", "[I", true)
  | 5 => ("PatternLoomModel", "kept", "[I", true)
  | 6 => ("PatternLoomModel", "old", "[I", true)
  | 7 => ("PatternLoomModel", "asks", "[I", true)
  | 8 => ("PatternLoomModel", "dyes", "[I", true)
  | 9 => ("PatternLoomModel", "names", "[I", true)
  | 10 => ("PatternLoomModel", "why", "I", false)
  | 11 => ("PatternLoomModel", "worn", "I", false)
  | 12 => ("PatternLoomModel", "safes", "I", false)
  | 13 => ("PatternLoomModel", "top", "I", false)
  | 14 => ("PatternLoomModel", "pile", "[I", true)
  | 15 => ("PatternLoomModel", "xs", "[I", true)
  | 16 => ("PatternLoomModel", "ys", "[I", true)
  | 17 => ("PatternLoomModel", "stage", "[I", true)
  | 18 => ("PatternLoomModel", "first", "[I", true)
  | 19 => ("PatternLoomModel", "asked", "I", false)
  | 20 => ("PatternLoomModel", "fault", "I", false)
  | 21 => ("PatternLoomModel", "got", "I", false)
  | 22 => ("PatternLoomModel", "cloth", "[I", true)
  | 23 => ("PatternLoomModel", "size", "I", false)
  | _ => ("PatternLoomModel", "wide", "I", false)
def tyX3 : Nat → FieldType := fun k => match k with
  | 0 => .int
  | 1 => .array .int
  | 2 => .array .int
  | 3 => .array .int
  | 4 => .array .int
  | 5 => .array .int
  | 6 => .array .int
  | 7 => .array .int
  | 8 => .array .int
  | 9 => .array .int
  | 10 => .int
  | 11 => .int
  | 12 => .int
  | 13 => .int
  | 14 => .array .int
  | 15 => .array .int
  | 16 => .array .int
  | 17 => .array .int
  | 18 => .array .int
  | 19 => .int
  | 20 => .int
  | 21 => .int
  | 22 => .array .int
  | 23 => .int
  | _ => .int
abbrev wsX30 : List Cond := u_ws RX3 TX3 25
theorem nmX3 : ∀ a, a < 25 → ∀ b, b < 25 → a ≠ b → (TX3 a).2.1 ≠ (TX3 b).2.1 := by decide +kernel
theorem tyX3_ok : ∀ k, k < 25 → parseFieldDescriptor (TX3 k).2.2.1 = some (tyX3 k) := by decide +kernel
abbrev cX3_in : ByteArray := prog_5_method_2_code
def yX3_in : MethodName := ⟨RX3, "in", "(III)Z"⟩
abbrev cX3_init : ByteArray := prog_5_method_3_code
def yX3_init : MethodName := ⟨RX3, "<init>", "()V"⟩
abbrev cX3_isPattern : ByteArray := prog_5_method_4_code
def yX3_isPattern : MethodName := ⟨RX3, "isPattern", "(I)Z"⟩
abbrev cX3_dye : ByteArray := prog_5_method_5_code
def yX3_dye : MethodName := ⟨RX3, "dye", "(III)I"⟩
abbrev cX3_areThere : ByteArray := prog_5_method_6_code
def yX3_areThere : MethodName := ⟨RX3, "areThere", "(IIII)Z"⟩
abbrev cX3_pattern : ByteArray := prog_5_method_7_code
def yX3_pattern : MethodName := ⟨RX3, "pattern", "(IIII)I"⟩
abbrev cX3_name : ByteArray := prog_5_method_8_code
def yX3_name : MethodName := ⟨RX3, "name", "(II)I"⟩
abbrev cX3_push : ByteArray := prog_5_method_9_code
def yX3_push : MethodName := ⟨RX3, "push", "(III)V"⟩
abbrev cX3_tells : ByteArray := prog_5_method_10_code
def yX3_tells : MethodName := ⟨RX3, "tells", "(I)V"⟩
abbrev cX3_tellsOf : ByteArray := prog_5_method_11_code
def yX3_tellsOf : MethodName := ⟨RX3, "tellsOf", "(III)V"⟩
abbrev cX3_dyeAt : ByteArray := prog_5_method_12_code
def yX3_dyeAt : MethodName := ⟨RX3, "dyeAt", "(II)I"⟩
abbrev cX3_alone : ByteArray := prog_5_method_13_code
def yX3_alone : MethodName := ⟨RX3, "alone", "(III)V"⟩
abbrev cX3_quotient : ByteArray := prog_5_method_14_code
def yX3_quotient : MethodName := ⟨RX3, "quotient", "(II)I"⟩
abbrev cX3_turned : ByteArray := prog_5_method_15_code
def yX3_turned : MethodName := ⟨RX3, "turned", "(III)V"⟩
abbrev cX3_begins : ByteArray := prog_5_method_16_code
def yX3_begins : MethodName := ⟨RX3, "begins", "(III)V"⟩
abbrev cX3_goesOn : ByteArray := prog_5_method_17_code
def yX3_goesOn : MethodName := ⟨RX3, "goesOn", "(II)V"⟩
abbrev cX3_falls : ByteArray := prog_5_method_18_code
def yX3_falls : MethodName := ⟨RX3, "falls", "()V"⟩
abbrev cX3_work : ByteArray := prog_5_method_19_code
def yX3_work : MethodName := ⟨RX3, "work", "(III)V"⟩
abbrev cX3_ask : ByteArray := prog_5_method_20_code
def yX3_ask : MethodName := ⟨RX3, "ask", "(III)I"⟩
abbrev cX3_weave : ByteArray := prog_5_method_21_code
def yX3_weave : MethodName := ⟨RX3, "weave", "(IIIII)I"⟩
abbrev cX3_cloth : ByteArray := prog_5_method_22_code
def yX3_cloth : MethodName := ⟨RX3, "cloth", "(I)I"⟩
abbrev cX3_changes : ByteArray := prog_5_method_23_code
def yX3_changes : MethodName := ⟨RX3, "changes", "()I"⟩
abbrev cX3_manyOf : ByteArray := prog_5_method_24_code
def yX3_manyOf : MethodName := ⟨RX3, "manyOf", "(I)I"⟩
abbrev cX3_most : ByteArray := prog_5_method_25_code
def yX3_most : MethodName := ⟨RX3, "most", "()I"⟩
abbrev cX3_why : ByteArray := prog_5_method_26_code
def yX3_why : MethodName := ⟨RX3, "why", "()I"⟩
abbrev cX3_count : ByteArray := prog_5_method_27_code
def yX3_count : MethodName := ⟨RX3, "count", "(I)I"⟩
def RL : String := "PatternLoomLaw"
abbrev cL_law : ByteArray := code
def yL_law : MethodName := ⟨RL, "law", "([I)Z"⟩

abbrev a_cls : List vw_C := [(RX0, TX0, 3), (RX1, TX1, 7), (RX2, TX2, 10), (RX3, TX3, 25)]
