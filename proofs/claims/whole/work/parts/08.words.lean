/-! ===== words of the tables, by their places ===== -/
abbrev a_rm (n c s : Nat) : Room := { frames := n, cells := c, slots := s, locals := 40 * n }
theorem a_tok_of2 {pc : Nat} {dflt lo hi : Int} {offs : Array Int} {ts : List (Int32 × Nat)} {d : Nat} (n : Nat) (h1 : (pc : Int) + dflt = (d : Int)) (hn : hi = lo + n) (hts : ∀ v ∈ ts.map Prod.fst, lo ≤ v.toInt ∧ v.toInt ≤ hi)
    (h2 : ((List.range (n + 1)).all (fun j => match offs[j]?, ts.lookup (Int32.ofInt (lo + j)) with
      | some off, some t => decide ((pc : Int) + off = (t : Int))
      | _, _ => false)) = true) : a_tok pc dflt lo hi offs ts d := by
  refine a_tok_of n h1 hn hts (fun j hj => ?_)
  have h3 := List.all_eq_true.mp h2 j (List.mem_range.mpr hj)
  split at h3
  · rename_i off t e1 e2
    exact ⟨off, e1, t, e2, of_decide_eq_true h3⟩
  · cases h3
theorem in_X0 : ∀ w ∈ u_ws RX0 TX0 3, w ∈ lw_g := by decide +kernel
theorem in_X1 : ∀ w ∈ u_ws RX1 TX1 7, w ∈ lw_g := by decide +kernel
theorem in_X2 : ∀ w ∈ u_ws RX2 TX2 10, w ∈ lw_g := by decide +kernel
theorem in_X3 : ∀ w ∈ u_ws RX3 TX3 25, w ∈ lw_g := by decide +kernel
theorem df_X0 : ∀ k, k < 3 → defaultValue (tyX0 k) = if a_int 0 k = true then .int 0 else .null := by decide +kernel
theorem df_X1 : ∀ k, k < 7 → defaultValue (tyX1 k) = if a_int 1 k = true then .int 0 else .null := by decide +kernel
theorem df_X2 : ∀ k, k < 10 → defaultValue (tyX2 k) = if a_int 2 k = true then .int 0 else .null := by decide +kernel
theorem df_X3 : ∀ k, k < 25 → defaultValue (tyX3 k) = if a_int 3 k = true then .int 0 else .null := by decide +kernel
theorem ml_X0_3 : Cond.methodLink RX0 3 objectInit ∈ lw_g := a_in (i := 55) rfl rfl
theorem im_obj : Cond.instanceMethod objectInit ∈ lw_g := a_in (i := 44) rfl rfl
theorem co_obj : Cond.code objectInit ⟨#[0xb1]⟩ 1 none ∈ lw_g := a_in (i := 45) rfl rfl
theorem ac_int : Cond.arrayClass .int ∈ lw_g := a_in (i := 68) rfl rfl
theorem lk_X0_9 : Cond.fieldLink RX0 9 (TX0 0).1 (TX0 0).2.1 (TX0 0).2.2.1 ∈ lw_g := a_in (i := 56) rfl rfl
theorem lk_X0_15 : Cond.fieldLink RX0 15 (TX0 1).1 (TX0 1).2.1 (TX0 1).2.2.1 ∈ lw_g := a_in (i := 57) rfl rfl
theorem lk_X0_19 : Cond.fieldLink RX0 19 (TX0 2).1 (TX0 2).2.1 (TX0 2).2.2.1 ∈ lw_g := a_in (i := 59) rfl rfl
theorem co_X0_timesFrom : Cond.code yX0_timesFrom cX0_timesFrom 4 (some .int) ∈ lw_g := a_in (i := 283) rfl rfl
theorem ii_X0 : Cond.initialized RX0 ∈ lw_g := a_in (i := 35) rfl rfl
theorem ml_X0_22 : Cond.methodLink RX0 22 yX0_timesFrom ∈ lw_g := a_in (i := 280) rfl rfl
theorem im_X0_timesFrom : Cond.instanceMethod yX0_timesFrom ∈ lw_g := a_in (i := 282) rfl rfl
theorem se_X0_timesFrom : Cond.selects RX0 yX0_timesFrom yX0_timesFrom ∈ lw_g := a_in (i := 19) rfl rfl
theorem ml_X1_1 : Cond.methodLink RX1 1 objectInit ∈ lw_g := a_in (i := 73) rfl rfl
theorem lk_X1_7 : Cond.fieldLink RX1 7 (TX1 0).1 (TX1 0).2.1 (TX1 0).2.2.1 ∈ lw_g := a_in (i := 74) rfl rfl
theorem lk_X1_13 : Cond.fieldLink RX1 13 (TX1 1).1 (TX1 1).2.1 (TX1 1).2.2.1 ∈ lw_g := a_in (i := 76) rfl rfl
theorem lk_X1_16 : Cond.fieldLink RX1 16 (TX1 2).1 (TX1 2).2.1 (TX1 2).2.2.1 ∈ lw_g := a_in (i := 78) rfl rfl
theorem lk_X1_19 : Cond.fieldLink RX1 19 (TX1 3).1 (TX1 3).2.1 (TX1 3).2.2.1 ∈ lw_g := a_in (i := 80) rfl rfl
theorem lk_X1_22 : Cond.fieldLink RX1 22 (TX1 4).1 (TX1 4).2.1 (TX1 4).2.2.1 ∈ lw_g := a_in (i := 82) rfl rfl
theorem lk_X1_26 : Cond.fieldLink RX1 26 (TX1 5).1 (TX1 5).2.1 (TX1 5).2.2.1 ∈ lw_g := a_in (i := 84) rfl rfl
theorem ml_X2_1 : Cond.methodLink RX2 1 objectInit ∈ lw_g := a_in (i := 43) rfl rfl
theorem cl_X2_9 : Cond.classLink RX2 9 "[[I" ∈ lw_g := a_in (i := 46) rfl rfl
theorem lk_X2_11 : Cond.fieldLink RX2 11 (TX2 0).1 (TX2 0).2.1 (TX2 0).2.2.1 ∈ lw_g := a_in (i := 102) rfl rfl
theorem cl_X2_14 : Cond.classLink RX2 14 RX1 ∈ lw_g := a_in (i := 48) rfl rfl
theorem lk_X2_16 : Cond.fieldLink RX2 16 (TX2 1).1 (TX2 1).2.1 (TX2 1).2.2.1 ∈ lw_g := a_in (i := 103) rfl rfl
theorem lk_X2_20 : Cond.fieldLink RX2 20 (TX2 2).1 (TX2 2).2.1 (TX2 2).2.2.1 ∈ lw_g := a_in (i := 104) rfl rfl
theorem cl_X2_23 : Cond.classLink RX2 23 RX0 ∈ lw_g := a_in (i := 50) rfl rfl
theorem ia_X0 : Cond.instantiable RX0 3 ∈ lw_g := a_in (i := 51) rfl rfl
theorem co_X0_init : Cond.code yX0_init cX0_init 1 none ∈ lw_g := a_in (i := 54) rfl rfl
theorem im_X0_init : Cond.instanceMethod yX0_init ∈ lw_g := a_in (i := 53) rfl rfl
theorem lk_X2_26 : Cond.fieldLink RX2 26 (TX2 3).1 (TX2 3).2.1 (TX2 3).2.2.1 ∈ lw_g := a_in (i := 105) rfl rfl
theorem ia_X1 : Cond.instantiable RX1 7 ∈ lw_g := a_in (i := 69) rfl rfl
theorem ii_X1 : Cond.initialized RX1 ∈ lw_g := a_in (i := 36) rfl rfl
theorem co_X1_init : Cond.code yX1_init cX1_init 7 none ∈ lw_g := a_in (i := 72) rfl rfl
theorem ml_X2_30 : Cond.methodLink RX2 30 yX1_init ∈ lw_g := a_in (i := 70) rfl rfl
theorem im_X1_init : Cond.instanceMethod yX1_init ∈ lw_g := a_in (i := 71) rfl rfl
theorem co_X2_isDye : Cond.code yX2_isDye cX2_isDye 1 (some .boolean) ∈ lw_g := a_in (i := 139) rfl rfl
theorem ii_X2 : Cond.initialized RX2 ∈ lw_g := a_in (i := 34) rfl rfl
theorem ml_X2_33 : Cond.methodLink RX2 33 yX2_isDye ∈ lw_g := a_in (i := 137) rfl rfl
theorem st_X2_isDye : Cond.static yX2_isDye ∈ lw_g := a_in (i := 138) rfl rfl
theorem lk_X2_37 : Cond.fieldLink RX2 37 (TX2 5).1 (TX2 5).2.1 (TX2 5).2.2.1 ∈ lw_g := a_in (i := 107) rfl rfl
theorem co_X2_knowsAll : Cond.code yX2_knowsAll cX2_knowsAll 5 (some .boolean) ∈ lw_g := a_in (i := 147) rfl rfl
theorem ml_X2_41 : Cond.methodLink RX2 41 yX2_knowsAll ∈ lw_g := a_in (i := 144) rfl rfl
theorem im_X2_knowsAll : Cond.instanceMethod yX2_knowsAll ∈ lw_g := a_in (i := 146) rfl rfl
theorem se_X2_knowsAll : Cond.selects RX2 yX2_knowsAll yX2_knowsAll ∈ lw_g := a_in (i := 0) rfl rfl
theorem co_X2_fits : Cond.code yX2_fits cX2_fits 2 (some .boolean) ∈ lw_g := a_in (i := 157) rfl rfl
theorem ml_X2_45 : Cond.methodLink RX2 45 yX2_fits ∈ lw_g := a_in (i := 155) rfl rfl
theorem st_X2_fits : Cond.static yX2_fits ∈ lw_g := a_in (i := 156) rfl rfl
theorem lk_X2_49 : Cond.fieldLink RX2 49 (TX2 4).1 (TX2 4).2.1 (TX2 4).2.2.1 ∈ lw_g := a_in (i := 106) rfl rfl
theorem ml_X2_52 : Cond.methodLink RX2 52 ⟨"[I", "clone", "()Ljava/lang/Object;"⟩ ∈ lw_g := a_in (i := 158) rfl rfl
theorem sm_clone : Cond.sameMethod "[I" "java/lang/Object" "clone" "()Ljava/lang/Object;" ∈ lw_g := a_in (i := 159) rfl rfl
theorem na_clone : Cond.native ⟨"java/lang/Object", "clone", "()Ljava/lang/Object;"⟩ ∈ lw_g := a_in (i := 160) rfl rfl
theorem im_clone : Cond.instanceMethod ⟨"java/lang/Object", "clone", "()Ljava/lang/Object;"⟩ ∈ lw_g := a_in (i := 161) rfl rfl
theorem se_clone : Cond.selects "[I" ⟨"[I", "clone", "()Ljava/lang/Object;"⟩ ⟨"java/lang/Object", "clone", "()Ljava/lang/Object;"⟩ ∈ lw_g := a_in (i := 162) rfl rfl
theorem cl_X2_53 : Cond.classLink RX2 53 "[I" ∈ lw_g := a_in (i := 164) rfl rfl
theorem co_X2_named : Cond.code yX2_named cX2_named 2 (some (.object "PatternLoom$Pattern")) ∈ lw_g := a_in (i := 168) rfl rfl
theorem ml_X2_58 : Cond.methodLink RX2 58 yX2_named ∈ lw_g := a_in (i := 165) rfl rfl
theorem im_X2_named : Cond.instanceMethod yX2_named ∈ lw_g := a_in (i := 167) rfl rfl
theorem se_X2_named : Cond.selects RX2 yX2_named yX2_named ∈ lw_g := a_in (i := 2) rfl rfl
theorem co_X2_isName : Cond.code yX2_isName cX2_isName 1 (some .boolean) ∈ lw_g := a_in (i := 154) rfl rfl
theorem ml_X2_62 : Cond.methodLink RX2 62 yX2_isName ∈ lw_g := a_in (i := 152) rfl rfl
theorem st_X2_isName : Cond.static yX2_isName ∈ lw_g := a_in (i := 153) rfl rfl
theorem co_X2_isPattern : Cond.code yX2_isPattern cX2_isPattern 2 (some .boolean) ∈ lw_g := a_in (i := 151) rfl rfl
theorem ml_X2_65 : Cond.methodLink RX2 65 yX2_isPattern ∈ lw_g := a_in (i := 148) rfl rfl
theorem im_X2_isPattern : Cond.instanceMethod yX2_isPattern ∈ lw_g := a_in (i := 150) rfl rfl
theorem se_X2_isPattern : Cond.selects RX2 yX2_isPattern yX2_isPattern ∈ lw_g := a_in (i := 1) rfl rfl
theorem co_X2_numbered : Cond.code yX2_numbered cX2_numbered 2 (some (.object "PatternLoom$Pattern")) ∈ lw_g := a_in (i := 176) rfl rfl
theorem ml_X2_68 : Cond.methodLink RX2 68 yX2_numbered ∈ lw_g := a_in (i := 173) rfl rfl
theorem im_X2_numbered : Cond.instanceMethod yX2_numbered ∈ lw_g := a_in (i := 175) rfl rfl
theorem se_X2_numbered : Cond.selects RX2 yX2_numbered yX2_numbered ∈ lw_g := a_in (i := 3) rfl rfl
theorem lk_X2_71 : Cond.fieldLink RX2 71 (TX2 8).1 (TX2 8).2.1 (TX2 8).2.2.1 ∈ lw_g := a_in (i := 110) rfl rfl
theorem co_X2_tellPlace : Cond.code yX2_tellPlace cX2_tellPlace 4 (some .int) ∈ lw_g := a_in (i := 184) rfl rfl
theorem ml_X2_74 : Cond.methodLink RX2 74 yX2_tellPlace ∈ lw_g := a_in (i := 181) rfl rfl
theorem im_X2_tellPlace : Cond.instanceMethod yX2_tellPlace ∈ lw_g := a_in (i := 183) rfl rfl
theorem se_X2_tellPlace : Cond.selects RX2 yX2_tellPlace yX2_tellPlace ∈ lw_g := a_in (i := 4) rfl rfl
theorem lk_X2_78 : Cond.fieldLink RX2 78 (TX2 6).1 (TX2 6).2.1 (TX2 6).2.2.1 ∈ lw_g := a_in (i := 108) rfl rfl
theorem co_X2_isSide : Cond.code yX2_isSide cX2_isSide 1 (some .boolean) ∈ lw_g := a_in (i := 247) rfl rfl
theorem ml_X2_81 : Cond.methodLink RX2 81 yX2_isSide ∈ lw_g := a_in (i := 245) rfl rfl
theorem st_X2_isSide : Cond.static yX2_isSide ∈ lw_g := a_in (i := 246) rfl rfl
theorem co_X0_begin : Cond.code yX0_begin cX0_begin 2 none ∈ lw_g := a_in (i := 251) rfl rfl
theorem ml_X2_84 : Cond.methodLink RX2 84 yX0_begin ∈ lw_g := a_in (i := 248) rfl rfl
theorem im_X0_begin : Cond.instanceMethod yX0_begin ∈ lw_g := a_in (i := 249) rfl rfl
theorem se_X0_begin : Cond.selects RX0 yX0_begin yX0_begin ∈ lw_g := a_in (i := 250) rfl rfl
theorem co_X0_add : Cond.code yX0_add cX0_add 2 none ∈ lw_g := a_in (i := 255) rfl rfl
theorem ml_X2_88 : Cond.methodLink RX2 88 yX0_add ∈ lw_g := a_in (i := 252) rfl rfl
theorem im_X0_add : Cond.instanceMethod yX0_add ∈ lw_g := a_in (i := 253) rfl rfl
theorem se_X0_add : Cond.selects RX0 yX0_add yX0_add ∈ lw_g := a_in (i := 254) rfl rfl
theorem co_X0_colourAt : Cond.code yX0_colourAt cX0_colourAt 2 (some .int) ∈ lw_g := a_in (i := 263) rfl rfl
theorem ml_X2_91 : Cond.methodLink RX2 91 yX0_colourAt ∈ lw_g := a_in (i := 260) rfl rfl
theorem im_X0_colourAt : Cond.instanceMethod yX0_colourAt ∈ lw_g := a_in (i := 261) rfl rfl
theorem se_X0_colourAt : Cond.selects RX0 yX0_colourAt yX0_colourAt ∈ lw_g := a_in (i := 262) rfl rfl
theorem co_X0_changesInRows : Cond.code yX0_changesInRows cX0_changesInRows 3 (some .int) ∈ lw_g := a_in (i := 271) rfl rfl
theorem ml_X2_95 : Cond.methodLink RX2 95 yX0_changesInRows ∈ lw_g := a_in (i := 268) rfl rfl
theorem im_X0_changesInRows : Cond.instanceMethod yX0_changesInRows ∈ lw_g := a_in (i := 269) rfl rfl
theorem se_X0_changesInRows : Cond.selects RX0 yX0_changesInRows yX0_changesInRows ∈ lw_g := a_in (i := 270) rfl rfl
theorem co_X0_mostOften : Cond.code yX0_mostOften cX0_mostOften 5 (some .int) ∈ lw_g := a_in (i := 279) rfl rfl
theorem ml_X2_99 : Cond.methodLink RX2 99 yX0_mostOften ∈ lw_g := a_in (i := 276) rfl rfl
theorem im_X0_mostOften : Cond.instanceMethod yX0_mostOften ∈ lw_g := a_in (i := 277) rfl rfl
theorem se_X0_mostOften : Cond.selects RX0 yX0_mostOften yX0_mostOften ∈ lw_g := a_in (i := 278) rfl rfl
theorem lk_X2_102 : Cond.fieldLink RX2 102 (TX0 1).1 (TX0 1).2.1 (TX0 1).2.2.1 ∈ lw_g := a_in (i := 58) rfl rfl
theorem lk_X2_105 : Cond.fieldLink RX2 105 (TX0 2).1 (TX0 2).2.1 (TX0 2).2.2.1 ∈ lw_g := a_in (i := 60) rfl rfl
theorem lk_X2_108 : Cond.fieldLink RX2 108 (TX2 7).1 (TX2 7).2.1 (TX2 7).2.2.1 ∈ lw_g := a_in (i := 109) rfl rfl
theorem lk_X2_111 : Cond.fieldLink RX2 111 (TX2 9).1 (TX2 9).2.1 (TX2 9).2.2.1 ∈ lw_g := a_in (i := 111) rfl rfl
theorem co_X2_tell : Cond.code yX2_tell cX2_tell 4 (some .int) ∈ lw_g := a_in (i := 188) rfl rfl
theorem ml_X2_114 : Cond.methodLink RX2 114 yX2_tell ∈ lw_g := a_in (i := 185) rfl rfl
theorem im_X2_tell : Cond.instanceMethod yX2_tell ∈ lw_g := a_in (i := 187) rfl rfl
theorem se_X2_tell : Cond.selects RX2 yX2_tell yX2_tell ∈ lw_g := a_in (i := 5) rfl rfl
theorem co_X2_fail : Cond.code yX2_fail cX2_fail 2 (some .int) ∈ lw_g := a_in (i := 192) rfl rfl
theorem ml_X2_117 : Cond.methodLink RX2 117 yX2_fail ∈ lw_g := a_in (i := 189) rfl rfl
theorem im_X2_fail : Cond.instanceMethod yX2_fail ∈ lw_g := a_in (i := 191) rfl rfl
theorem se_X2_fail : Cond.selects RX2 yX2_fail yX2_fail ∈ lw_g := a_in (i := 6) rfl rfl
theorem lk_X2_120 : Cond.fieldLink RX2 120 (TX1 0).1 (TX1 0).2.1 (TX1 0).2.2.1 ∈ lw_g := a_in (i := 75) rfl rfl
theorem lk_X2_123 : Cond.fieldLink RX2 123 (TX1 1).1 (TX1 1).2.1 (TX1 1).2.2.1 ∈ lw_g := a_in (i := 77) rfl rfl
theorem co_X2_tellStripes : Cond.code yX2_tellStripes cX2_tellStripes 3 (some .int) ∈ lw_g := a_in (i := 196) rfl rfl
theorem ml_X2_126 : Cond.methodLink RX2 126 yX2_tellStripes ∈ lw_g := a_in (i := 193) rfl rfl
theorem im_X2_tellStripes : Cond.instanceMethod yX2_tellStripes ∈ lw_g := a_in (i := 195) rfl rfl
theorem se_X2_tellStripes : Cond.selects RX2 yX2_tellStripes yX2_tellStripes ∈ lw_g := a_in (i := 7) rfl rfl
theorem co_X2_tellTwill : Cond.code yX2_tellTwill cX2_tellTwill 4 (some .int) ∈ lw_g := a_in (i := 200) rfl rfl
theorem ml_X2_130 : Cond.methodLink RX2 130 yX2_tellTwill ∈ lw_g := a_in (i := 197) rfl rfl
theorem im_X2_tellTwill : Cond.instanceMethod yX2_tellTwill ∈ lw_g := a_in (i := 199) rfl rfl
theorem se_X2_tellTwill : Cond.selects RX2 yX2_tellTwill yX2_tellTwill ∈ lw_g := a_in (i := 8) rfl rfl
theorem lk_X2_133 : Cond.fieldLink RX2 133 (TX1 2).1 (TX1 2).2.1 (TX1 2).2.2.1 ∈ lw_g := a_in (i := 79) rfl rfl
theorem lk_X2_136 : Cond.fieldLink RX2 136 (TX1 3).1 (TX1 3).2.1 (TX1 3).2.2.1 ∈ lw_g := a_in (i := 81) rfl rfl
theorem co_X2_tellTurned : Cond.code yX2_tellTurned cX2_tellTurned 5 (some .int) ∈ lw_g := a_in (i := 204) rfl rfl
theorem ml_X2_139 : Cond.methodLink RX2 139 yX2_tellTurned ∈ lw_g := a_in (i := 201) rfl rfl
theorem im_X2_tellTurned : Cond.instanceMethod yX2_tellTurned ∈ lw_g := a_in (i := 203) rfl rfl
theorem se_X2_tellTurned : Cond.selects RX2 yX2_tellTurned yX2_tellTurned ∈ lw_g := a_in (i := 9) rfl rfl
theorem co_X2_tellOver : Cond.code yX2_tellOver cX2_tellOver 5 (some .int) ∈ lw_g := a_in (i := 208) rfl rfl
theorem ml_X2_142 : Cond.methodLink RX2 142 yX2_tellOver ∈ lw_g := a_in (i := 205) rfl rfl
theorem im_X2_tellOver : Cond.instanceMethod yX2_tellOver ∈ lw_g := a_in (i := 207) rfl rfl
theorem se_X2_tellOver : Cond.selects RX2 yX2_tellOver yX2_tellOver ∈ lw_g := a_in (i := 10) rfl rfl
theorem co_X2_tellWhere : Cond.code yX2_tellWhere cX2_tellWhere 5 (some .int) ∈ lw_g := a_in (i := 212) rfl rfl
theorem ml_X2_145 : Cond.methodLink RX2 145 yX2_tellWhere ∈ lw_g := a_in (i := 209) rfl rfl
theorem im_X2_tellWhere : Cond.instanceMethod yX2_tellWhere ∈ lw_g := a_in (i := 211) rfl rfl
theorem se_X2_tellWhere : Cond.selects RX2 yX2_tellWhere yX2_tellWhere ∈ lw_g := a_in (i := 11) rfl rfl
theorem co_X2_tellDyed : Cond.code yX2_tellDyed cX2_tellDyed 5 (some .int) ∈ lw_g := a_in (i := 216) rfl rfl
theorem ml_X2_148 : Cond.methodLink RX2 148 yX2_tellDyed ∈ lw_g := a_in (i := 213) rfl rfl
theorem im_X2_tellDyed : Cond.instanceMethod yX2_tellDyed ∈ lw_g := a_in (i := 215) rfl rfl
theorem se_X2_tellDyed : Cond.selects RX2 yX2_tellDyed yX2_tellDyed ∈ lw_g := a_in (i := 12) rfl rfl
theorem co_X2_tellWorn : Cond.code yX2_tellWorn cX2_tellWorn 4 (some .int) ∈ lw_g := a_in (i := 228) rfl rfl
theorem ml_X2_151 : Cond.methodLink RX2 151 yX2_tellWorn ∈ lw_g := a_in (i := 225) rfl rfl
theorem im_X2_tellWorn : Cond.instanceMethod yX2_tellWorn ∈ lw_g := a_in (i := 227) rfl rfl
theorem se_X2_tellWorn : Cond.selects RX2 yX2_tellWorn yX2_tellWorn ∈ lw_g := a_in (i := 15) rfl rfl
theorem co_X2_tellBoth : Cond.code yX2_tellBoth cX2_tellBoth 5 (some .int) ∈ lw_g := a_in (i := 232) rfl rfl
theorem ml_X2_154 : Cond.methodLink RX2 154 yX2_tellBoth ∈ lw_g := a_in (i := 229) rfl rfl
theorem im_X2_tellBoth : Cond.instanceMethod yX2_tellBoth ∈ lw_g := a_in (i := 231) rfl rfl
theorem se_X2_tellBoth : Cond.selects RX2 yX2_tellBoth yX2_tellBoth ∈ lw_g := a_in (i := 16) rfl rfl
theorem co_X2_tellSafe : Cond.code yX2_tellSafe cX2_tellSafe 5 (some .int) ∈ lw_g := a_in (i := 236) rfl rfl
theorem ml_X2_157 : Cond.methodLink RX2 157 yX2_tellSafe ∈ lw_g := a_in (i := 233) rfl rfl
theorem im_X2_tellSafe : Cond.instanceMethod yX2_tellSafe ∈ lw_g := a_in (i := 235) rfl rfl
theorem se_X2_tellSafe : Cond.selects RX2 yX2_tellSafe yX2_tellSafe ∈ lw_g := a_in (i := 17) rfl rfl
theorem lk_X2_160 : Cond.fieldLink RX2 160 (TX1 5).1 (TX1 5).2.1 (TX1 5).2.2.1 ∈ lw_g := a_in (i := 85) rfl rfl
theorem co_X2_rowOf : Cond.code yX2_rowOf cX2_rowOf 2 (some (.array .int)) ∈ lw_g := a_in (i := 220) rfl rfl
theorem ml_X2_164 : Cond.methodLink RX2 164 yX2_rowOf ∈ lw_g := a_in (i := 217) rfl rfl
theorem im_X2_rowOf : Cond.instanceMethod yX2_rowOf ∈ lw_g := a_in (i := 219) rfl rfl
theorem se_X2_rowOf : Cond.selects RX2 yX2_rowOf yX2_rowOf ∈ lw_g := a_in (i := 13) rfl rfl
theorem co_X2_colourOf : Cond.code yX2_colourOf cX2_colourOf 3 (some .int) ∈ lw_g := a_in (i := 224) rfl rfl
theorem ml_X2_168 : Cond.methodLink RX2 168 yX2_colourOf ∈ lw_g := a_in (i := 221) rfl rfl
theorem im_X2_colourOf : Cond.instanceMethod yX2_colourOf ∈ lw_g := a_in (i := 223) rfl rfl
theorem se_X2_colourOf : Cond.selects RX2 yX2_colourOf yX2_colourOf ∈ lw_g := a_in (i := 14) rfl rfl
theorem lk_X2_172 : Cond.fieldLink RX2 172 (TX1 4).1 (TX1 4).2.1 (TX1 4).2.2.1 ∈ lw_g := a_in (i := 83) rfl rfl
theorem lk_X2_175 : Cond.fieldLink RX2 175 (TX1 6).1 (TX1 6).2.1 (TX1 6).2.2.1 ∈ lw_g := a_in (i := 86) rfl rfl
theorem co_X2_saves : Cond.code yX2_saves cX2_saves 2 (some .boolean) ∈ lw_g := a_in (i := 240) rfl rfl
theorem ml_X2_178 : Cond.methodLink RX2 178 yX2_saves ∈ lw_g := a_in (i := 237) rfl rfl
theorem im_X2_saves : Cond.instanceMethod yX2_saves ∈ lw_g := a_in (i := 239) rfl rfl
theorem se_X2_saves : Cond.selects RX2 yX2_saves yX2_saves ∈ lw_g := a_in (i := 18) rfl rfl
theorem ml_X3_1 : Cond.methodLink RX3 1 objectInit ∈ lw_g := a_in (i := 297) rfl rfl
theorem lk_X3_7 : Cond.fieldLink RX3 7 (TX3 1).1 (TX3 1).2.1 (TX3 1).2.2.1 ∈ lw_g := a_in (i := 299) rfl rfl
theorem lk_X3_13 : Cond.fieldLink RX3 13 (TX3 2).1 (TX3 2).2.1 (TX3 2).2.2.1 ∈ lw_g := a_in (i := 300) rfl rfl
theorem lk_X3_16 : Cond.fieldLink RX3 16 (TX3 3).1 (TX3 3).2.1 (TX3 3).2.2.1 ∈ lw_g := a_in (i := 301) rfl rfl
theorem lk_X3_19 : Cond.fieldLink RX3 19 (TX3 4).1 (TX3 4).2.1 (TX3 4).2.2.1 ∈ lw_g := a_in (i := 302) rfl rfl
theorem lk_X3_22 : Cond.fieldLink RX3 22 (TX3 5).1 (TX3 5).2.1 (TX3 5).2.2.1 ∈ lw_g := a_in (i := 303) rfl rfl
theorem lk_X3_25 : Cond.fieldLink RX3 25 (TX3 6).1 (TX3 6).2.1 (TX3 6).2.2.1 ∈ lw_g := a_in (i := 304) rfl rfl
theorem lk_X3_28 : Cond.fieldLink RX3 28 (TX3 7).1 (TX3 7).2.1 (TX3 7).2.2.1 ∈ lw_g := a_in (i := 305) rfl rfl
theorem lk_X3_31 : Cond.fieldLink RX3 31 (TX3 8).1 (TX3 8).2.1 (TX3 8).2.2.1 ∈ lw_g := a_in (i := 306) rfl rfl
theorem lk_X3_34 : Cond.fieldLink RX3 34 (TX3 9).1 (TX3 9).2.1 (TX3 9).2.2.1 ∈ lw_g := a_in (i := 307) rfl rfl
theorem lk_X3_37 : Cond.fieldLink RX3 37 (TX3 14).1 (TX3 14).2.1 (TX3 14).2.2.1 ∈ lw_g := a_in (i := 312) rfl rfl
theorem lk_X3_40 : Cond.fieldLink RX3 40 (TX3 15).1 (TX3 15).2.1 (TX3 15).2.2.1 ∈ lw_g := a_in (i := 313) rfl rfl
theorem lk_X3_43 : Cond.fieldLink RX3 43 (TX3 16).1 (TX3 16).2.1 (TX3 16).2.2.1 ∈ lw_g := a_in (i := 314) rfl rfl
theorem lk_X3_46 : Cond.fieldLink RX3 46 (TX3 17).1 (TX3 17).2.1 (TX3 17).2.2.1 ∈ lw_g := a_in (i := 315) rfl rfl
theorem lk_X3_49 : Cond.fieldLink RX3 49 (TX3 18).1 (TX3 18).2.1 (TX3 18).2.2.1 ∈ lw_g := a_in (i := 316) rfl rfl
theorem lk_X3_52 : Cond.fieldLink RX3 52 (TX3 22).1 (TX3 22).2.1 (TX3 22).2.2.1 ∈ lw_g := a_in (i := 320) rfl rfl
theorem lk_X3_55 : Cond.fieldLink RX3 55 (TX3 0).1 (TX3 0).2.1 (TX3 0).2.2.1 ∈ lw_g := a_in (i := 298) rfl rfl
theorem co_X3_in : Cond.code yX3_in cX3_in 3 (some .boolean) ∈ lw_g := a_in (i := 380) rfl rfl
theorem ii_X3 : Cond.initialized RX3 ∈ lw_g := a_in (i := 37) rfl rfl
theorem ml_X3_59 : Cond.methodLink RX3 59 yX3_in ∈ lw_g := a_in (i := 378) rfl rfl
theorem st_X3_in : Cond.static yX3_in ∈ lw_g := a_in (i := 379) rfl rfl
theorem lk_X3_63 : Cond.fieldLink RX3 63 (TX3 10).1 (TX3 10).2.1 (TX3 10).2.2.1 ∈ lw_g := a_in (i := 308) rfl rfl
theorem co_X3_isPattern : Cond.code yX3_isPattern cX3_isPattern 2 (some .boolean) ∈ lw_g := a_in (i := 392) rfl rfl
theorem ml_X3_66 : Cond.methodLink RX3 66 yX3_isPattern ∈ lw_g := a_in (i := 389) rfl rfl
theorem im_X3_isPattern : Cond.instanceMethod yX3_isPattern ∈ lw_g := a_in (i := 391) rfl rfl
theorem se_X3_isPattern : Cond.selects RX3 yX3_isPattern yX3_isPattern ∈ lw_g := a_in (i := 21) rfl rfl
theorem co_X3_areThere : Cond.code yX3_areThere cX3_areThere 5 (some .boolean) ∈ lw_g := a_in (i := 388) rfl rfl
theorem ml_X3_70 : Cond.methodLink RX3 70 yX3_areThere ∈ lw_g := a_in (i := 385) rfl rfl
theorem im_X3_areThere : Cond.instanceMethod yX3_areThere ∈ lw_g := a_in (i := 387) rfl rfl
theorem se_X3_areThere : Cond.selects RX3 yX3_areThere yX3_areThere ∈ lw_g := a_in (i := 20) rfl rfl
theorem lk_X3_74 : Cond.fieldLink RX3 74 (TX3 19).1 (TX3 19).2.1 (TX3 19).2.2.1 ∈ lw_g := a_in (i := 317) rfl rfl
theorem lk_X3_77 : Cond.fieldLink RX3 77 (TX3 20).1 (TX3 20).2.1 (TX3 20).2.2.1 ∈ lw_g := a_in (i := 318) rfl rfl
theorem lk_X3_80 : Cond.fieldLink RX3 80 (TX3 13).1 (TX3 13).2.1 (TX3 13).2.2.1 ∈ lw_g := a_in (i := 311) rfl rfl
theorem lk_X3_83 : Cond.fieldLink RX3 83 (TX3 21).1 (TX3 21).2.1 (TX3 21).2.2.1 ∈ lw_g := a_in (i := 319) rfl rfl
theorem co_X3_tells : Cond.code yX3_tells cX3_tells 2 none ∈ lw_g := a_in (i := 420) rfl rfl
theorem ml_X3_86 : Cond.methodLink RX3 86 yX3_tells ∈ lw_g := a_in (i := 417) rfl rfl
theorem im_X3_tells : Cond.instanceMethod yX3_tells ∈ lw_g := a_in (i := 419) rfl rfl
theorem se_X3_tells : Cond.selects RX3 yX3_tells yX3_tells ∈ lw_g := a_in (i := 26) rfl rfl
theorem co_X3_dyeAt : Cond.code yX3_dyeAt cX3_dyeAt 3 (some .int) ∈ lw_g := a_in (i := 424) rfl rfl
theorem ml_X3_90 : Cond.methodLink RX3 90 yX3_dyeAt ∈ lw_g := a_in (i := 421) rfl rfl
theorem im_X3_dyeAt : Cond.instanceMethod yX3_dyeAt ∈ lw_g := a_in (i := 423) rfl rfl
theorem se_X3_dyeAt : Cond.selects RX3 yX3_dyeAt yX3_dyeAt ∈ lw_g := a_in (i := 27) rfl rfl
theorem co_X3_tellsOf : Cond.code yX3_tellsOf cX3_tellsOf 4 none ∈ lw_g := a_in (i := 428) rfl rfl
theorem ml_X3_94 : Cond.methodLink RX3 94 yX3_tellsOf ∈ lw_g := a_in (i := 425) rfl rfl
theorem im_X3_tellsOf : Cond.instanceMethod yX3_tellsOf ∈ lw_g := a_in (i := 427) rfl rfl
theorem se_X3_tellsOf : Cond.selects RX3 yX3_tellsOf yX3_tellsOf ∈ lw_g := a_in (i := 28) rfl rfl
theorem co_X3_quotient : Cond.code yX3_quotient cX3_quotient 2 (some .int) ∈ lw_g := a_in (i := 431) rfl rfl
theorem ml_X3_98 : Cond.methodLink RX3 98 yX3_quotient ∈ lw_g := a_in (i := 429) rfl rfl
theorem st_X3_quotient : Cond.static yX3_quotient ∈ lw_g := a_in (i := 430) rfl rfl
theorem co_X3_push : Cond.code yX3_push cX3_push 4 none ∈ lw_g := a_in (i := 408) rfl rfl
theorem ml_X3_101 : Cond.methodLink RX3 101 yX3_push ∈ lw_g := a_in (i := 405) rfl rfl
theorem im_X3_push : Cond.instanceMethod yX3_push ∈ lw_g := a_in (i := 407) rfl rfl
theorem se_X3_push : Cond.selects RX3 yX3_push yX3_push ∈ lw_g := a_in (i := 23) rfl rfl
theorem co_X3_turned : Cond.code yX3_turned cX3_turned 5 none ∈ lw_g := a_in (i := 439) rfl rfl
theorem ml_X3_104 : Cond.methodLink RX3 104 yX3_turned ∈ lw_g := a_in (i := 436) rfl rfl
theorem im_X3_turned : Cond.instanceMethod yX3_turned ∈ lw_g := a_in (i := 438) rfl rfl
theorem se_X3_turned : Cond.selects RX3 yX3_turned yX3_turned ∈ lw_g := a_in (i := 30) rfl rfl
theorem lk_X3_107 : Cond.fieldLink RX3 107 (TX3 11).1 (TX3 11).2.1 (TX3 11).2.2.1 ∈ lw_g := a_in (i := 309) rfl rfl
theorem lk_X3_110 : Cond.fieldLink RX3 110 (TX3 12).1 (TX3 12).2.1 (TX3 12).2.2.1 ∈ lw_g := a_in (i := 310) rfl rfl
theorem co_X3_falls : Cond.code yX3_falls cX3_falls 3 none ∈ lw_g := a_in (i := 412) rfl rfl
theorem ml_X3_113 : Cond.methodLink RX3 113 yX3_falls ∈ lw_g := a_in (i := 409) rfl rfl
theorem im_X3_falls : Cond.instanceMethod yX3_falls ∈ lw_g := a_in (i := 411) rfl rfl
theorem se_X3_falls : Cond.selects RX3 yX3_falls yX3_falls ∈ lw_g := a_in (i := 24) rfl rfl
theorem co_X3_alone : Cond.code yX3_alone cX3_alone 4 none ∈ lw_g := a_in (i := 416) rfl rfl
theorem ml_X3_116 : Cond.methodLink RX3 116 yX3_alone ∈ lw_g := a_in (i := 413) rfl rfl
theorem im_X3_alone : Cond.instanceMethod yX3_alone ∈ lw_g := a_in (i := 415) rfl rfl
theorem se_X3_alone : Cond.selects RX3 yX3_alone yX3_alone ∈ lw_g := a_in (i := 25) rfl rfl
theorem co_X3_begins : Cond.code yX3_begins cX3_begins 4 none ∈ lw_g := a_in (i := 435) rfl rfl
theorem ml_X3_119 : Cond.methodLink RX3 119 yX3_begins ∈ lw_g := a_in (i := 432) rfl rfl
theorem im_X3_begins : Cond.instanceMethod yX3_begins ∈ lw_g := a_in (i := 434) rfl rfl
theorem se_X3_begins : Cond.selects RX3 yX3_begins yX3_begins ∈ lw_g := a_in (i := 29) rfl rfl
theorem co_X3_goesOn : Cond.code yX3_goesOn cX3_goesOn 6 none ∈ lw_g := a_in (i := 443) rfl rfl
theorem ml_X3_122 : Cond.methodLink RX3 122 yX3_goesOn ∈ lw_g := a_in (i := 440) rfl rfl
theorem im_X3_goesOn : Cond.instanceMethod yX3_goesOn ∈ lw_g := a_in (i := 442) rfl rfl
theorem se_X3_goesOn : Cond.selects RX3 yX3_goesOn yX3_goesOn ∈ lw_g := a_in (i := 31) rfl rfl
theorem co_X3_work : Cond.code yX3_work cX3_work 6 none ∈ lw_g := a_in (i := 404) rfl rfl
theorem ml_X3_126 : Cond.methodLink RX3 126 yX3_work ∈ lw_g := a_in (i := 401) rfl rfl
theorem im_X3_work : Cond.instanceMethod yX3_work ∈ lw_g := a_in (i := 403) rfl rfl
theorem se_X3_work : Cond.selects RX3 yX3_work yX3_work ∈ lw_g := a_in (i := 22) rfl rfl
theorem lk_X3_129 : Cond.fieldLink RX3 129 (TX3 23).1 (TX3 23).2.1 (TX3 23).2.2.1 ∈ lw_g := a_in (i := 321) rfl rfl
theorem lk_X3_132 : Cond.fieldLink RX3 132 (TX3 24).1 (TX3 24).2.1 (TX3 24).2.2.1 ∈ lw_g := a_in (i := 322) rfl rfl
theorem co_X3_manyOf : Cond.code yX3_manyOf cX3_manyOf 4 (some .int) ∈ lw_g := a_in (i := 463) rfl rfl
theorem ml_X3_135 : Cond.methodLink RX3 135 yX3_manyOf ∈ lw_g := a_in (i := 460) rfl rfl
theorem im_X3_manyOf : Cond.instanceMethod yX3_manyOf ∈ lw_g := a_in (i := 462) rfl rfl
theorem se_X3_manyOf : Cond.selects RX3 yX3_manyOf yX3_manyOf ∈ lw_g := a_in (i := 32) rfl rfl
theorem cl_L_7 : Cond.classLink RL 7 RX2 ∈ lw_g := a_in (i := 38) rfl rfl
theorem ia_X2 : Cond.instantiable RX2 10 ∈ lw_g := a_in (i := 39) rfl rfl
theorem co_X2_init : Cond.code yX2_init cX2_init 3 none ∈ lw_g := a_in (i := 42) rfl rfl
theorem ml_L_9 : Cond.methodLink RL 9 yX2_init ∈ lw_g := a_in (i := 40) rfl rfl
theorem im_X2_init : Cond.instanceMethod yX2_init ∈ lw_g := a_in (i := 41) rfl rfl
theorem cl_L_10 : Cond.classLink RL 10 RX3 ∈ lw_g := a_in (i := 292) rfl rfl
theorem ia_X3 : Cond.instantiable RX3 25 ∈ lw_g := a_in (i := 293) rfl rfl
theorem co_X3_init : Cond.code yX3_init cX3_init 2 none ∈ lw_g := a_in (i := 296) rfl rfl
theorem ml_L_12 : Cond.methodLink RL 12 yX3_init ∈ lw_g := a_in (i := 294) rfl rfl
theorem im_X3_init : Cond.instanceMethod yX3_init ∈ lw_g := a_in (i := 295) rfl rfl
theorem co_X2_dye : Cond.code yX2_dye cX2_dye 5 (some .int) ∈ lw_g := a_in (i := 136) rfl rfl
theorem ml_L_13 : Cond.methodLink RL 13 yX2_dye ∈ lw_g := a_in (i := 133) rfl rfl
theorem im_X2_dye : Cond.instanceMethod yX2_dye ∈ lw_g := a_in (i := 134) rfl rfl
theorem se_X2_dye : Cond.selects RX2 yX2_dye yX2_dye ∈ lw_g := a_in (i := 135) rfl rfl
theorem co_X3_dye : Cond.code yX3_dye cX3_dye 5 (some .int) ∈ lw_g := a_in (i := 377) rfl rfl
theorem ml_L_17 : Cond.methodLink RL 17 yX3_dye ∈ lw_g := a_in (i := 374) rfl rfl
theorem im_X3_dye : Cond.instanceMethod yX3_dye ∈ lw_g := a_in (i := 375) rfl rfl
theorem se_X3_dye : Cond.selects RX3 yX3_dye yX3_dye ∈ lw_g := a_in (i := 376) rfl rfl
theorem co_X2_pattern : Cond.code yX2_pattern cX2_pattern 7 (some .int) ∈ lw_g := a_in (i := 143) rfl rfl
theorem ml_L_18 : Cond.methodLink RL 18 yX2_pattern ∈ lw_g := a_in (i := 140) rfl rfl
theorem im_X2_pattern : Cond.instanceMethod yX2_pattern ∈ lw_g := a_in (i := 141) rfl rfl
theorem se_X2_pattern : Cond.selects RX2 yX2_pattern yX2_pattern ∈ lw_g := a_in (i := 142) rfl rfl
theorem co_X3_pattern : Cond.code yX3_pattern cX3_pattern 7 (some .int) ∈ lw_g := a_in (i := 384) rfl rfl
theorem ml_L_22 : Cond.methodLink RL 22 yX3_pattern ∈ lw_g := a_in (i := 381) rfl rfl
theorem im_X3_pattern : Cond.instanceMethod yX3_pattern ∈ lw_g := a_in (i := 382) rfl rfl
theorem se_X3_pattern : Cond.selects RX3 yX3_pattern yX3_pattern ∈ lw_g := a_in (i := 383) rfl rfl
theorem co_X2_name : Cond.code yX2_name cX2_name 4 (some .int) ∈ lw_g := a_in (i := 172) rfl rfl
theorem ml_L_23 : Cond.methodLink RL 23 yX2_name ∈ lw_g := a_in (i := 169) rfl rfl
theorem im_X2_name : Cond.instanceMethod yX2_name ∈ lw_g := a_in (i := 170) rfl rfl
theorem se_X2_name : Cond.selects RX2 yX2_name yX2_name ∈ lw_g := a_in (i := 171) rfl rfl
theorem co_X3_name : Cond.code yX3_name cX3_name 4 (some .int) ∈ lw_g := a_in (i := 396) rfl rfl
theorem ml_L_27 : Cond.methodLink RL 27 yX3_name ∈ lw_g := a_in (i := 393) rfl rfl
theorem im_X3_name : Cond.instanceMethod yX3_name ∈ lw_g := a_in (i := 394) rfl rfl
theorem se_X3_name : Cond.selects RX3 yX3_name yX3_name ∈ lw_g := a_in (i := 395) rfl rfl
theorem co_X2_ask : Cond.code yX2_ask cX2_ask 5 (some .int) ∈ lw_g := a_in (i := 180) rfl rfl
theorem ml_L_28 : Cond.methodLink RL 28 yX2_ask ∈ lw_g := a_in (i := 177) rfl rfl
theorem im_X2_ask : Cond.instanceMethod yX2_ask ∈ lw_g := a_in (i := 178) rfl rfl
theorem se_X2_ask : Cond.selects RX2 yX2_ask yX2_ask ∈ lw_g := a_in (i := 179) rfl rfl
theorem co_X3_ask : Cond.code yX3_ask cX3_ask 4 (some .int) ∈ lw_g := a_in (i := 400) rfl rfl
theorem ml_L_31 : Cond.methodLink RL 31 yX3_ask ∈ lw_g := a_in (i := 397) rfl rfl
theorem im_X3_ask : Cond.instanceMethod yX3_ask ∈ lw_g := a_in (i := 398) rfl rfl
theorem se_X3_ask : Cond.selects RX3 yX3_ask yX3_ask ∈ lw_g := a_in (i := 399) rfl rfl
theorem co_X2_weave : Cond.code yX2_weave cX2_weave 10 (some .int) ∈ lw_g := a_in (i := 244) rfl rfl
theorem ml_L_32 : Cond.methodLink RL 32 yX2_weave ∈ lw_g := a_in (i := 241) rfl rfl
theorem im_X2_weave : Cond.instanceMethod yX2_weave ∈ lw_g := a_in (i := 242) rfl rfl
theorem se_X2_weave : Cond.selects RX2 yX2_weave yX2_weave ∈ lw_g := a_in (i := 243) rfl rfl
theorem co_X3_weave : Cond.code yX3_weave cX3_weave 7 (some .int) ∈ lw_g := a_in (i := 447) rfl rfl
theorem ml_L_36 : Cond.methodLink RL 36 yX3_weave ∈ lw_g := a_in (i := 444) rfl rfl
theorem im_X3_weave : Cond.instanceMethod yX3_weave ∈ lw_g := a_in (i := 445) rfl rfl
theorem se_X3_weave : Cond.selects RX3 yX3_weave yX3_weave ∈ lw_g := a_in (i := 446) rfl rfl
theorem co_X2_cloth : Cond.code yX2_cloth cX2_cloth 2 (some .int) ∈ lw_g := a_in (i := 259) rfl rfl
theorem ml_L_37 : Cond.methodLink RL 37 yX2_cloth ∈ lw_g := a_in (i := 256) rfl rfl
theorem im_X2_cloth : Cond.instanceMethod yX2_cloth ∈ lw_g := a_in (i := 257) rfl rfl
theorem se_X2_cloth : Cond.selects RX2 yX2_cloth yX2_cloth ∈ lw_g := a_in (i := 258) rfl rfl
theorem co_X3_cloth : Cond.code yX3_cloth cX3_cloth 2 (some .int) ∈ lw_g := a_in (i := 451) rfl rfl
theorem ml_L_41 : Cond.methodLink RL 41 yX3_cloth ∈ lw_g := a_in (i := 448) rfl rfl
theorem im_X3_cloth : Cond.instanceMethod yX3_cloth ∈ lw_g := a_in (i := 449) rfl rfl
theorem se_X3_cloth : Cond.selects RX3 yX3_cloth yX3_cloth ∈ lw_g := a_in (i := 450) rfl rfl
theorem co_X2_changes : Cond.code yX2_changes cX2_changes 1 (some .int) ∈ lw_g := a_in (i := 267) rfl rfl
theorem ml_L_42 : Cond.methodLink RL 42 yX2_changes ∈ lw_g := a_in (i := 264) rfl rfl
theorem im_X2_changes : Cond.instanceMethod yX2_changes ∈ lw_g := a_in (i := 265) rfl rfl
theorem se_X2_changes : Cond.selects RX2 yX2_changes yX2_changes ∈ lw_g := a_in (i := 266) rfl rfl
theorem co_X3_changes : Cond.code yX3_changes cX3_changes 3 (some .int) ∈ lw_g := a_in (i := 455) rfl rfl
theorem ml_L_46 : Cond.methodLink RL 46 yX3_changes ∈ lw_g := a_in (i := 452) rfl rfl
theorem im_X3_changes : Cond.instanceMethod yX3_changes ∈ lw_g := a_in (i := 453) rfl rfl
theorem se_X3_changes : Cond.selects RX3 yX3_changes yX3_changes ∈ lw_g := a_in (i := 454) rfl rfl
theorem co_X2_most : Cond.code yX2_most cX2_most 1 (some .int) ∈ lw_g := a_in (i := 275) rfl rfl
theorem ml_L_47 : Cond.methodLink RL 47 yX2_most ∈ lw_g := a_in (i := 272) rfl rfl
theorem im_X2_most : Cond.instanceMethod yX2_most ∈ lw_g := a_in (i := 273) rfl rfl
theorem se_X2_most : Cond.selects RX2 yX2_most yX2_most ∈ lw_g := a_in (i := 274) rfl rfl
theorem co_X3_most : Cond.code yX3_most cX3_most 5 (some .int) ∈ lw_g := a_in (i := 459) rfl rfl
theorem ml_L_50 : Cond.methodLink RL 50 yX3_most ∈ lw_g := a_in (i := 456) rfl rfl
theorem im_X3_most : Cond.instanceMethod yX3_most ∈ lw_g := a_in (i := 457) rfl rfl
theorem se_X3_most : Cond.selects RX3 yX3_most yX3_most ∈ lw_g := a_in (i := 458) rfl rfl
theorem co_X2_why : Cond.code yX2_why cX2_why 1 (some .int) ∈ lw_g := a_in (i := 287) rfl rfl
theorem ml_L_51 : Cond.methodLink RL 51 yX2_why ∈ lw_g := a_in (i := 284) rfl rfl
theorem im_X2_why : Cond.instanceMethod yX2_why ∈ lw_g := a_in (i := 285) rfl rfl
theorem se_X2_why : Cond.selects RX2 yX2_why yX2_why ∈ lw_g := a_in (i := 286) rfl rfl
theorem co_X3_why : Cond.code yX3_why cX3_why 1 (some .int) ∈ lw_g := a_in (i := 467) rfl rfl
theorem ml_L_54 : Cond.methodLink RL 54 yX3_why ∈ lw_g := a_in (i := 464) rfl rfl
theorem im_X3_why : Cond.instanceMethod yX3_why ∈ lw_g := a_in (i := 465) rfl rfl
theorem se_X3_why : Cond.selects RX3 yX3_why yX3_why ∈ lw_g := a_in (i := 466) rfl rfl
theorem co_X2_count : Cond.code yX2_count cX2_count 2 (some .int) ∈ lw_g := a_in (i := 291) rfl rfl
theorem ml_L_55 : Cond.methodLink RL 55 yX2_count ∈ lw_g := a_in (i := 288) rfl rfl
theorem im_X2_count : Cond.instanceMethod yX2_count ∈ lw_g := a_in (i := 289) rfl rfl
theorem se_X2_count : Cond.selects RX2 yX2_count yX2_count ∈ lw_g := a_in (i := 290) rfl rfl
theorem co_X3_count : Cond.code yX3_count cX3_count 2 (some .int) ∈ lw_g := a_in (i := 471) rfl rfl
theorem ml_L_58 : Cond.methodLink RL 58 yX3_count ∈ lw_g := a_in (i := 468) rfl rfl
theorem im_X3_count : Cond.instanceMethod yX3_count ∈ lw_g := a_in (i := 469) rfl rfl
theorem se_X3_count : Cond.selects RX3 yX3_count yX3_count ∈ lw_g := a_in (i := 470) rfl rfl
