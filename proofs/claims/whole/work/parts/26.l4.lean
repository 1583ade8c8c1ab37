/-! ===== tell, tellPlace, ask ===== -/
section LV
variable {l : Launch} {D : va_G} {G : aG} {N0 : Nat}
def P_X2_tell {E : Nat} (K : aK) (bc bs : Nat) : List (Nat × aT) := [(0, t_ald 0 1),
  (1, t_geti 2 10 7 4),
  (4, t_ic 100 6),
  (6, t_ifc (fun x y => x < y) 15 9),
  (9, t_ald 0 10),
  (10, t_ic 4 11),
  (11, t_call 2 0 0 bc bs sp_X2_fail 14),
  (14, t_iret K bc bs),
  (15, t_ald 0 16),
  (16, t_dup 17),
  (17, t_geti 2 10 7 20),
  (20, t_ic 1 21),
  (21, t_add 22),
  (22, t_puti 2 10 7 25),
  (25, t_ald 1 26),
  (26, t_ifnn 35 29),
  (29, t_ald 0 30),
  (30, t_ic 3 31),
  (31, t_call 2 0 0 bc bs sp_X2_fail 34),
  (34, t_iret K bc bs),
  (35, t_ald 1 36),
  (36, t_geti 1 7 0 39),
  (39, t_sw [(0, 116), (1, 121), (2, 128), (3, 136), (4, 161), (5, 169), (6, 177), (7, 185), (8, 185), (9, 193), (10, 213), (11, 221), (12, 229), (13, 237), (14, 248), (15, 254)] 267),
  (116, t_ald 1 117),
  (117, t_geti 1 7 1 120),
  (120, t_iret K bc bs),
  (121, t_ald 0 122),
  (122, t_ald 1 123),
  (123, t_ild 2 124),
  (124, t_call 3 0 0 bc bs sp_X2_tellStripes 127),
  (127, t_iret K bc bs),
  (128, t_ald 0 129),
  (129, t_ald 1 130),
  (130, t_ild 2 131),
  (131, t_ild 3 132),
  (132, t_call 4 0 0 bc bs sp_X2_tellTwill 135),
  (135, t_iret K bc bs),
  (136, t_ald 0 137),
  (137, t_ald 0 138),
  (138, t_ald 1 139),
  (139, t_geti 1 7 1 142),
  (142, t_call 2 0 0 bc bs sp_X2_numbered 145),
  (145, t_ild 2 146),
  (146, t_ald 1 147),
  (147, t_geti 1 7 2 150),
  (150, t_sub 151),
  (151, t_ild 3 152),
  (152, t_ald 1 153),
  (153, t_geti 1 7 3 156),
  (156, t_sub 157),
  (157, t_call 4 0 0 bc bs (sp_X2_tell E) 160),
  (160, t_iret K bc bs),
  (161, t_ald 0 162),
  (162, t_ald 1 163),
  (163, t_ild 2 164),
  (164, t_ild 3 165),
  (165, t_call 4 0 0 bc bs (sp_X2_tellTurned E) 168),
  (168, t_iret K bc bs),
  (169, t_ald 0 170),
  (170, t_ald 1 171),
  (171, t_ild 2 172),
  (172, t_ild 3 173),
  (173, t_call 4 0 0 bc bs (sp_X2_tellOver E) 176),
  (176, t_iret K bc bs),
  (177, t_ald 0 178),
  (178, t_ald 1 179),
  (179, t_ild 2 180),
  (180, t_ild 3 181),
  (181, t_call 4 0 0 bc bs (sp_X2_tellWhere E) 184),
  (184, t_iret K bc bs),
  (185, t_ald 0 186),
  (186, t_ald 1 187),
  (187, t_ild 2 188),
  (188, t_ild 3 189),
  (189, t_call 4 0 0 bc bs (sp_X2_tellDyed E) 192),
  (192, t_iret K bc bs),
  (193, t_ald 0 194),
  (194, t_ald 0 195),
  (195, t_ald 1 196),
  (196, t_geti 1 7 1 199),
  (199, t_call 2 0 0 bc bs sp_X2_named 202),
  (202, t_ild 2 203),
  (203, t_ild 3 204),
  (204, t_call 4 0 0 bc bs (sp_X2_tell E) 207),
  (207, t_ald 1 208),
  (208, t_geti 1 7 2 211),
  (211, t_add 212),
  (212, t_iret K bc bs),
  (213, t_ald 0 214),
  (214, t_ald 1 215),
  (215, t_ild 2 216),
  (216, t_ild 3 217),
  (217, t_call 4 0 0 bc bs (sp_X2_tellWorn E) 220),
  (220, t_iret K bc bs),
  (221, t_ald 0 222),
  (222, t_ald 1 223),
  (223, t_ild 2 224),
  (224, t_ild 3 225),
  (225, t_call 4 0 0 bc bs (sp_X2_tellBoth E) 228),
  (228, t_iret K bc bs),
  (229, t_ald 0 230),
  (230, t_ald 1 231),
  (231, t_ild 2 232),
  (232, t_ild 3 233),
  (233, t_call 4 0 0 bc bs (sp_X2_tellSafe E) 236),
  (236, t_iret K bc bs),
  (237, t_ald 0 238),
  (238, t_ald 1 239),
  (239, t_getr 1 7 5 242),
  (242, t_ild 2 243),
  (243, t_ild 3 244),
  (244, t_call 4 0 0 bc bs (sp_X2_tell E) 247),
  (247, t_iret K bc bs),
  (248, t_ild 2 249),
  (249, t_ild 3 250),
  (250, t_add 251),
  (251, t_ic 2 252),
  (252, t_rem 253),
  (253, t_iret K bc bs),
  (254, t_ald 0 255),
  (255, t_ald 0 256),
  (256, t_ald 1 257),
  (257, t_call 2 0 0 bc bs sp_X2_rowOf 260),
  (260, t_ild 2 261),
  (261, t_call 3 0 0 bc bs sp_X2_colourOf 264),
  (264, t_ild 3 265),
  (265, t_add 266),
  (266, t_iret K bc bs),
  (267, t_ic 0 268),
  (268, t_iret K bc bs)]
set_option maxRecDepth 100000 in
theorem S_X2_tell {E : Nat} {X : a_X} {K : aK} {l : Launch} {D : va_G} {G : aG} {N0 : Nat} (C : a_C X cX2_tell (some .int) RX2) (Y : a_Y X l (rm_X2_tell (E + 1)) D G N0) (M : a_mq X K (rm_X2_tell (E + 1)).cells (rm_X2_tell (E + 1)).slots) (hT : a_Con l D G N0 yX2_tell cX2_tell 4 (some .int) (rm_X2_tell E) (sp_X2_tell E)) : ∀ x ∈ P_X2_tell (E := E) K 0 0, a_Sd X x.1 x.2 := by
  unfold P_X2_tell
  refine List.forall_mem_cons.mpr ⟨s_aldn C dX2_tell_0 rfl, ?_⟩
  refine List.forall_mem_cons.mpr ⟨s_geti C rfl in_X2 (by decide) lk_X2_108 rfl dX2_tell_1, ?_⟩
  refine List.forall_mem_cons.mpr ⟨s_bi C dX2_tell_4 (by decide), ?_⟩
  refine List.forall_mem_cons.mpr ⟨s_icmp_lt C dX2_tell_6 (by decide), ?_⟩
  refine List.forall_mem_cons.mpr ⟨s_aldn C dX2_tell_9 rfl, ?_⟩
  refine List.forall_mem_cons.mpr ⟨s_ic C dX2_tell_10 (by decide), ?_⟩
  refine List.forall_mem_cons.mpr ⟨s_callV (rm := (a_rm 1 0 0)) (n := 1) C Y (ci := 2) rfl con_X2_fail rc_X2_fail co_X2_fail ml_X2_117 im_X2_fail se_X2_fail ii_X2 (by decide +kernel) (a_hr (by omega) (by decide)) ⟨rfl, rfl⟩ dX2_tell_11, ?_⟩
  refine List.forall_mem_cons.mpr ⟨s_iret C M dX2_tell_14, ?_⟩
  refine List.forall_mem_cons.mpr ⟨s_aldn C dX2_tell_15 rfl, ?_⟩
  refine List.forall_mem_cons.mpr ⟨s_dup C dX2_tell_16, ?_⟩
  refine List.forall_mem_cons.mpr ⟨s_geti C rfl in_X2 (by decide) lk_X2_108 rfl dX2_tell_17, ?_⟩
  refine List.forall_mem_cons.mpr ⟨s_ic C dX2_tell_20 (by decide), ?_⟩
  refine List.forall_mem_cons.mpr ⟨s_add C dX2_tell_21, ?_⟩
  refine List.forall_mem_cons.mpr ⟨s_puti C tyX2 tyX2_ok nmX2 rfl in_X2 (by decide) lk_X2_108 rfl (Or.inl rfl) rfl dX2_tell_22, ?_⟩
  refine List.forall_mem_cons.mpr ⟨s_aldn C dX2_tell_25 rfl, ?_⟩
  refine List.forall_mem_cons.mpr ⟨s_ifnn C dX2_tell_26 (by decide), ?_⟩
  refine List.forall_mem_cons.mpr ⟨s_aldn C dX2_tell_29 rfl, ?_⟩
  refine List.forall_mem_cons.mpr ⟨s_ic C dX2_tell_30 (by decide), ?_⟩
  refine List.forall_mem_cons.mpr ⟨s_callV (rm := (a_rm 1 0 0)) (n := 1) C Y (ci := 2) rfl con_X2_fail rc_X2_fail co_X2_fail ml_X2_117 im_X2_fail se_X2_fail ii_X2 (by decide +kernel) (a_hr (by omega) (by decide)) ⟨rfl, rfl⟩ dX2_tell_31, ?_⟩
  refine List.forall_mem_cons.mpr ⟨s_iret C M dX2_tell_34, ?_⟩
  refine List.forall_mem_cons.mpr ⟨s_aldn C dX2_tell_35 rfl, ?_⟩
  refine List.forall_mem_cons.mpr ⟨s_geti C rfl in_X1 (by decide) lk_X2_120 rfl dX2_tell_36, ?_⟩
  refine List.forall_mem_cons.mpr ⟨s_tsw C dX2_tell_39 (a_tok_of2 15 (by decide) (by decide) (by decide) (by decide)), ?_⟩
  refine List.forall_mem_cons.mpr ⟨s_aldn C dX2_tell_116 rfl, ?_⟩
  refine List.forall_mem_cons.mpr ⟨s_geti C rfl in_X1 (by decide) lk_X2_123 rfl dX2_tell_117, ?_⟩
  refine List.forall_mem_cons.mpr ⟨s_iret C M dX2_tell_120, ?_⟩
  refine List.forall_mem_cons.mpr ⟨s_aldn C dX2_tell_121 rfl, ?_⟩
  refine List.forall_mem_cons.mpr ⟨s_aldn C dX2_tell_122 rfl, ?_⟩
  refine List.forall_mem_cons.mpr ⟨s_ildn C dX2_tell_123 rfl, ?_⟩
  refine List.forall_mem_cons.mpr ⟨s_callV (rm := (a_rm 2 0 0)) (n := 2) C Y (ci := 2) rfl con_X2_tellStripes rc_X2_tellStripes co_X2_tellStripes ml_X2_126 im_X2_tellStripes se_X2_tellStripes ii_X2 (by decide +kernel) (a_hr (by omega) (by decide)) ⟨rfl, rfl⟩ dX2_tell_124, ?_⟩
  refine List.forall_mem_cons.mpr ⟨s_iret C M dX2_tell_127, ?_⟩
  refine List.forall_mem_cons.mpr ⟨s_aldn C dX2_tell_128 rfl, ?_⟩
  refine List.forall_mem_cons.mpr ⟨s_aldn C dX2_tell_129 rfl, ?_⟩
  refine List.forall_mem_cons.mpr ⟨s_ildn C dX2_tell_130 rfl, ?_⟩
  refine List.forall_mem_cons.mpr ⟨s_ildn C dX2_tell_131 rfl, ?_⟩
  refine List.forall_mem_cons.mpr ⟨s_callV (rm := (a_rm 2 0 0)) (n := 3) C Y (ci := 2) rfl con_X2_tellTwill rc_X2_tellTwill co_X2_tellTwill ml_X2_130 im_X2_tellTwill se_X2_tellTwill ii_X2 (by decide +kernel) (a_hr (by omega) (by decide)) ⟨rfl, rfl⟩ dX2_tell_132, ?_⟩
  refine List.forall_mem_cons.mpr ⟨s_iret C M dX2_tell_135, ?_⟩
  refine List.forall_mem_cons.mpr ⟨s_aldn C dX2_tell_136 rfl, ?_⟩
  refine List.forall_mem_cons.mpr ⟨s_aldn C dX2_tell_137 rfl, ?_⟩
  refine List.forall_mem_cons.mpr ⟨s_aldn C dX2_tell_138 rfl, ?_⟩
  refine List.forall_mem_cons.mpr ⟨s_geti C rfl in_X1 (by decide) lk_X2_123 rfl dX2_tell_139, ?_⟩
  refine List.forall_mem_cons.mpr ⟨s_callV (rm := (a_rm 2 0 0)) (n := 1) C Y (ci := 2) rfl con_X2_numbered rc_X2_numbered co_X2_numbered ml_X2_68 im_X2_numbered se_X2_numbered ii_X2 (by decide +kernel) (a_hr (by omega) (by decide)) ⟨rfl, rfl⟩ dX2_tell_142, ?_⟩
  refine List.forall_mem_cons.mpr ⟨s_ildn C dX2_tell_145 rfl, ?_⟩
  refine List.forall_mem_cons.mpr ⟨s_aldn C dX2_tell_146 rfl, ?_⟩
  refine List.forall_mem_cons.mpr ⟨s_geti C rfl in_X1 (by decide) lk_X2_133 rfl dX2_tell_147, ?_⟩
  refine List.forall_mem_cons.mpr ⟨s_sub C dX2_tell_150, ?_⟩
  refine List.forall_mem_cons.mpr ⟨s_ildn C dX2_tell_151 rfl, ?_⟩
  refine List.forall_mem_cons.mpr ⟨s_aldn C dX2_tell_152 rfl, ?_⟩
  refine List.forall_mem_cons.mpr ⟨s_geti C rfl in_X1 (by decide) lk_X2_136 rfl dX2_tell_153, ?_⟩
  refine List.forall_mem_cons.mpr ⟨s_sub C dX2_tell_156, ?_⟩
  refine List.forall_mem_cons.mpr ⟨s_callV (rm := (rm_X2_tell E)) (n := 3) C Y (ci := 2) rfl hT rc_X2_tell co_X2_tell ml_X2_114 im_X2_tell se_X2_tell ii_X2 (by decide +kernel) (a_hr (by omega) (by decide)) ⟨rfl, rfl⟩ dX2_tell_157, ?_⟩
  refine List.forall_mem_cons.mpr ⟨s_iret C M dX2_tell_160, ?_⟩
  refine List.forall_mem_cons.mpr ⟨s_aldn C dX2_tell_161 rfl, ?_⟩
  refine List.forall_mem_cons.mpr ⟨s_aldn C dX2_tell_162 rfl, ?_⟩
  refine List.forall_mem_cons.mpr ⟨s_ildn C dX2_tell_163 rfl, ?_⟩
  refine List.forall_mem_cons.mpr ⟨s_ildn C dX2_tell_164 rfl, ?_⟩
  refine List.forall_mem_cons.mpr ⟨s_callV (rm := (rm_X2_tellX E)) (n := 3) C Y (ci := 2) rfl (con_X2_tellTurned hT) rc_X2_tellTurned co_X2_tellTurned ml_X2_139 im_X2_tellTurned se_X2_tellTurned ii_X2 (by decide +kernel) (a_hr (by omega) (by decide)) ⟨rfl, rfl⟩ dX2_tell_165, ?_⟩
  refine List.forall_mem_cons.mpr ⟨s_iret C M dX2_tell_168, ?_⟩
  refine List.forall_mem_cons.mpr ⟨s_aldn C dX2_tell_169 rfl, ?_⟩
  refine List.forall_mem_cons.mpr ⟨s_aldn C dX2_tell_170 rfl, ?_⟩
  refine List.forall_mem_cons.mpr ⟨s_ildn C dX2_tell_171 rfl, ?_⟩
  refine List.forall_mem_cons.mpr ⟨s_ildn C dX2_tell_172 rfl, ?_⟩
  refine List.forall_mem_cons.mpr ⟨s_callV (rm := (rm_X2_tellX E)) (n := 3) C Y (ci := 2) rfl (con_X2_tellOver hT) rc_X2_tellOver co_X2_tellOver ml_X2_142 im_X2_tellOver se_X2_tellOver ii_X2 (by decide +kernel) (a_hr (by omega) (by decide)) ⟨rfl, rfl⟩ dX2_tell_173, ?_⟩
  refine List.forall_mem_cons.mpr ⟨s_iret C M dX2_tell_176, ?_⟩
  refine List.forall_mem_cons.mpr ⟨s_aldn C dX2_tell_177 rfl, ?_⟩
  refine List.forall_mem_cons.mpr ⟨s_aldn C dX2_tell_178 rfl, ?_⟩
  refine List.forall_mem_cons.mpr ⟨s_ildn C dX2_tell_179 rfl, ?_⟩
  refine List.forall_mem_cons.mpr ⟨s_ildn C dX2_tell_180 rfl, ?_⟩
  refine List.forall_mem_cons.mpr ⟨s_callV (rm := (rm_X2_tellX E)) (n := 3) C Y (ci := 2) rfl (con_X2_tellWhere hT) rc_X2_tellWhere co_X2_tellWhere ml_X2_145 im_X2_tellWhere se_X2_tellWhere ii_X2 (by decide +kernel) (a_hr (by omega) (by decide)) ⟨rfl, rfl⟩ dX2_tell_181, ?_⟩
  refine List.forall_mem_cons.mpr ⟨s_iret C M dX2_tell_184, ?_⟩
  refine List.forall_mem_cons.mpr ⟨s_aldn C dX2_tell_185 rfl, ?_⟩
  refine List.forall_mem_cons.mpr ⟨s_aldn C dX2_tell_186 rfl, ?_⟩
  refine List.forall_mem_cons.mpr ⟨s_ildn C dX2_tell_187 rfl, ?_⟩
  refine List.forall_mem_cons.mpr ⟨s_ildn C dX2_tell_188 rfl, ?_⟩
  refine List.forall_mem_cons.mpr ⟨s_callV (rm := (rm_X2_tellX E)) (n := 3) C Y (ci := 2) rfl (con_X2_tellDyed hT) rc_X2_tellDyed co_X2_tellDyed ml_X2_148 im_X2_tellDyed se_X2_tellDyed ii_X2 (by decide +kernel) (a_hr (by omega) (by decide)) ⟨rfl, rfl⟩ dX2_tell_189, ?_⟩
  refine List.forall_mem_cons.mpr ⟨s_iret C M dX2_tell_192, ?_⟩
  refine List.forall_mem_cons.mpr ⟨s_aldn C dX2_tell_193 rfl, ?_⟩
  refine List.forall_mem_cons.mpr ⟨s_aldn C dX2_tell_194 rfl, ?_⟩
  refine List.forall_mem_cons.mpr ⟨s_aldn C dX2_tell_195 rfl, ?_⟩
  refine List.forall_mem_cons.mpr ⟨s_geti C rfl in_X1 (by decide) lk_X2_123 rfl dX2_tell_196, ?_⟩
  refine List.forall_mem_cons.mpr ⟨s_callV (rm := (a_rm 2 0 0)) (n := 1) C Y (ci := 2) rfl con_X2_named rc_X2_named co_X2_named ml_X2_58 im_X2_named se_X2_named ii_X2 (by decide +kernel) (a_hr (by omega) (by decide)) ⟨rfl, rfl⟩ dX2_tell_199, ?_⟩
  refine List.forall_mem_cons.mpr ⟨s_ildn C dX2_tell_202 rfl, ?_⟩
  refine List.forall_mem_cons.mpr ⟨s_ildn C dX2_tell_203 rfl, ?_⟩
  refine List.forall_mem_cons.mpr ⟨s_callV (rm := (rm_X2_tell E)) (n := 3) C Y (ci := 2) rfl hT rc_X2_tell co_X2_tell ml_X2_114 im_X2_tell se_X2_tell ii_X2 (by decide +kernel) (a_hr (by omega) (by decide)) ⟨rfl, rfl⟩ dX2_tell_204, ?_⟩
  refine List.forall_mem_cons.mpr ⟨s_aldn C dX2_tell_207 rfl, ?_⟩
  refine List.forall_mem_cons.mpr ⟨s_geti C rfl in_X1 (by decide) lk_X2_133 rfl dX2_tell_208, ?_⟩
  refine List.forall_mem_cons.mpr ⟨s_add C dX2_tell_211, ?_⟩
  refine List.forall_mem_cons.mpr ⟨s_iret C M dX2_tell_212, ?_⟩
  refine List.forall_mem_cons.mpr ⟨s_aldn C dX2_tell_213 rfl, ?_⟩
  refine List.forall_mem_cons.mpr ⟨s_aldn C dX2_tell_214 rfl, ?_⟩
  refine List.forall_mem_cons.mpr ⟨s_ildn C dX2_tell_215 rfl, ?_⟩
  refine List.forall_mem_cons.mpr ⟨s_ildn C dX2_tell_216 rfl, ?_⟩
  refine List.forall_mem_cons.mpr ⟨s_callV (rm := (rm_X2_tellX E)) (n := 3) C Y (ci := 2) rfl (con_X2_tellWorn hT) rc_X2_tellWorn co_X2_tellWorn ml_X2_151 im_X2_tellWorn se_X2_tellWorn ii_X2 (by decide +kernel) (a_hr (by omega) (by decide)) ⟨rfl, rfl⟩ dX2_tell_217, ?_⟩
  refine List.forall_mem_cons.mpr ⟨s_iret C M dX2_tell_220, ?_⟩
  refine List.forall_mem_cons.mpr ⟨s_aldn C dX2_tell_221 rfl, ?_⟩
  refine List.forall_mem_cons.mpr ⟨s_aldn C dX2_tell_222 rfl, ?_⟩
  refine List.forall_mem_cons.mpr ⟨s_ildn C dX2_tell_223 rfl, ?_⟩
  refine List.forall_mem_cons.mpr ⟨s_ildn C dX2_tell_224 rfl, ?_⟩
  refine List.forall_mem_cons.mpr ⟨s_callV (rm := (rm_X2_tellX E)) (n := 3) C Y (ci := 2) rfl (con_X2_tellBoth hT) rc_X2_tellBoth co_X2_tellBoth ml_X2_154 im_X2_tellBoth se_X2_tellBoth ii_X2 (by decide +kernel) (a_hr (by omega) (by decide)) ⟨rfl, rfl⟩ dX2_tell_225, ?_⟩
  refine List.forall_mem_cons.mpr ⟨s_iret C M dX2_tell_228, ?_⟩
  refine List.forall_mem_cons.mpr ⟨s_aldn C dX2_tell_229 rfl, ?_⟩
  refine List.forall_mem_cons.mpr ⟨s_aldn C dX2_tell_230 rfl, ?_⟩
  refine List.forall_mem_cons.mpr ⟨s_ildn C dX2_tell_231 rfl, ?_⟩
  refine List.forall_mem_cons.mpr ⟨s_ildn C dX2_tell_232 rfl, ?_⟩
  refine List.forall_mem_cons.mpr ⟨s_callV (rm := (rm_X2_tellX E)) (n := 3) C Y (ci := 2) rfl (con_X2_tellSafe hT) rc_X2_tellSafe co_X2_tellSafe ml_X2_157 im_X2_tellSafe se_X2_tellSafe ii_X2 (by decide +kernel) (a_hr (by omega) (by decide)) ⟨rfl, rfl⟩ dX2_tell_233, ?_⟩
  refine List.forall_mem_cons.mpr ⟨s_iret C M dX2_tell_236, ?_⟩
  refine List.forall_mem_cons.mpr ⟨s_aldn C dX2_tell_237 rfl, ?_⟩
  refine List.forall_mem_cons.mpr ⟨s_aldn C dX2_tell_238 rfl, ?_⟩
  refine List.forall_mem_cons.mpr ⟨s_getr C rfl in_X1 (by decide) lk_X2_160 rfl dX2_tell_239, ?_⟩
  refine List.forall_mem_cons.mpr ⟨s_ildn C dX2_tell_242 rfl, ?_⟩
  refine List.forall_mem_cons.mpr ⟨s_ildn C dX2_tell_243 rfl, ?_⟩
  refine List.forall_mem_cons.mpr ⟨s_callV (rm := (rm_X2_tell E)) (n := 3) C Y (ci := 2) rfl hT rc_X2_tell co_X2_tell ml_X2_114 im_X2_tell se_X2_tell ii_X2 (by decide +kernel) (a_hr (by omega) (by decide)) ⟨rfl, rfl⟩ dX2_tell_244, ?_⟩
  refine List.forall_mem_cons.mpr ⟨s_iret C M dX2_tell_247, ?_⟩
  refine List.forall_mem_cons.mpr ⟨s_ildn C dX2_tell_248 rfl, ?_⟩
  refine List.forall_mem_cons.mpr ⟨s_ildn C dX2_tell_249 rfl, ?_⟩
  refine List.forall_mem_cons.mpr ⟨s_add C dX2_tell_250, ?_⟩
  refine List.forall_mem_cons.mpr ⟨s_ic C dX2_tell_251 (by decide), ?_⟩
  refine List.forall_mem_cons.mpr ⟨s_rem C dX2_tell_252, ?_⟩
  refine List.forall_mem_cons.mpr ⟨s_iret C M dX2_tell_253, ?_⟩
  refine List.forall_mem_cons.mpr ⟨s_aldn C dX2_tell_254 rfl, ?_⟩
  refine List.forall_mem_cons.mpr ⟨s_aldn C dX2_tell_255 rfl, ?_⟩
  refine List.forall_mem_cons.mpr ⟨s_aldn C dX2_tell_256 rfl, ?_⟩
  refine List.forall_mem_cons.mpr ⟨s_callV (rm := (a_rm 2 0 0)) (n := 1) C Y (ci := 2) rfl con_X2_rowOf rc_X2_rowOf co_X2_rowOf ml_X2_164 im_X2_rowOf se_X2_rowOf ii_X2 (by decide +kernel) (a_hr (by omega) (by decide)) ⟨rfl, rfl⟩ dX2_tell_257, ?_⟩
  refine List.forall_mem_cons.mpr ⟨s_ildn C dX2_tell_260 rfl, ?_⟩
  refine List.forall_mem_cons.mpr ⟨s_callV (rm := (a_rm 2 0 0)) (n := 2) C Y (ci := 2) rfl con_X2_colourOf rc_X2_colourOf co_X2_colourOf ml_X2_168 im_X2_colourOf se_X2_colourOf ii_X2 (by decide +kernel) (a_hr (by omega) (by decide)) ⟨rfl, rfl⟩ dX2_tell_261, ?_⟩
  refine List.forall_mem_cons.mpr ⟨s_ildn C dX2_tell_264 rfl, ?_⟩
  refine List.forall_mem_cons.mpr ⟨s_add C dX2_tell_265, ?_⟩
  refine List.forall_mem_cons.mpr ⟨s_iret C M dX2_tell_266, ?_⟩
  refine List.forall_mem_cons.mpr ⟨s_ic C dX2_tell_267 (by decide), ?_⟩
  refine List.forall_mem_cons.mpr ⟨s_iret C M dX2_tell_268, ?_⟩
  exact fun _ h => absurd h List.not_mem_nil
set_option maxRecDepth 20000 in
set_option maxHeartbeats 4000000 in
theorem con_X2_tell_s {E : Nat} (hT : a_Con l D G N0 yX2_tell cX2_tell 4 (some .int) (rm_X2_tell E) (sp_X2_tell E)) : a_Con l D G N0 yX2_tell cX2_tell 4 (some .int) (rm_X2_tell (E + 1)) (sp_X2_tell (E + 1)) := by
  refine a_con (by decide) (fun as σ K h => by obtain ⟨M, F, B, n, c, r0, x, y, s, k, rfl, rfl, -⟩ := h; exact Nat.le_refl _) ?_
  intro X as σ K h C Y M _
  obtain ⟨M', F, B, n, c, r0, x, y, s, k, rfl, rfl, hr0, henv, hW, hc, hs, hk, hE, hK⟩ := h
  have hS := S_X2_tell C Y M hT
  obtain ⟨d1, d2, d3, d5, d6, d7, d8, b64, b65, m64, m65, f65⟩ := id henv.2
  have cd : ∀ {a : Int32}, m_vc n a → m_cd n a := fun h => Or.inr (Or.inr (Or.inr h))
  by_cases h100 : 100 ≤ s.1
  · have hT1 : tt_T M' (E + 1) c x y s = (4, 0, s) := if_pos h100
    have hK2 := hK _ hT1.symm 0 (fun w => absurd w z_4)
    have hK2 : K (some (.inl 0)) (a_mk (l_p M' 4 s) F B) := hK2
    rw [← lp_6 (f := 0)] at hK2
    refine a_wps hS (inv := a_iv X [25]) a_ivh 60 _ _ _ _ _ _ ?_
    exact ⟨fun w => absurd w (Int32.not_lt.mpr h100), fun _ => ⟨_, F, B, 4, rfl, rfl, hK2⟩⟩
  have hk2 : k < 100 := by
    rcases Nat.lt_or_ge k 100 with z | z
    · exact z
    · exact absurd (by rw [hs]; exact nI_le (a := 100) z (by omega)) h100
  have hT1 : tt_T M' (E + 1) c x y s = t_b M' (tt_T M' E) c x y (s.1 + 1, s.2) := if_neg h100
  rw [hT1] at hK
  clear hT1
  have hs1 : ((s.1 + 1, s.2) : tS).1 = nI (k + 1) := by show s.1 + 1 = _; rw [hs, nI_1]
  have hW1 : l_W M' n (s.1 + 1, s.2) := hW
  suffices tail : a_J X 25 [some (.inr (some 0)), some (.inr r0), some (.inl x), some (.inl y)] [] (a_mk (l_p M' 0 (s.1 + 1, s.2)) F B) 0 0 by
    rw [← lp_7] at tail
    refine a_wps hS (inv := a_iv X [25]) a_ivh 60 _ _ _ _ _ _ ?_
    exact ⟨fun _ => tail, fun w => absurd (Int32.not_le.mp h100) w⟩
  generalize ((s.1 + 1, s.2) : tS) = S at hs1 hW1 hK ⊢
  clear hs hW h100
  rcases hc with rfl | rfl | rfl | ⟨p, hp, rfl⟩
  · have hr0 : r0 = none := hr0.trans (if_pos rfl)
    subst hr0
    have hK2 := hK (3, 0, S) (if_pos rfl).symm 0 (fun w => absurd w z_3)
    have hK2 : K (some (.inl 0)) (a_mk (l_p M' 3 S) F B) := hK2
    rw [← lp_6 (f := 0)] at hK2
    exact a_wp1 hS a_ivh (inv := a_iv X [25]) 60 25 _ rfl ⟨fun w => absurd rfl w, fun _ => ⟨_, F, B, 3, rfl, rfl, hK2⟩⟩
  · have hr0 : r0 = some 64 := hr0.trans (by unfold l_ref; rw [if_neg (by decide), if_pos rfl])
    subst hr0
    have hK2 := hK (0, a_rem (x + y) 2, S) (by unfold t_b; rw [if_neg (by decide), if_pos rfl]) _ (fun _ => rfl)
    have h14 : l_p M' 0 S 64 0 = 14 := m64
    exact a_wp1 hS a_ivh (inv := a_iv X [25]) 60 25 _ rfl ⟨fun _ => a_gi (l_is (by decide) (by decide) b64) ⟨fun w => absurd (h14.symm.trans w) (by decide), fun _ => ⟨fun w => absurd (h14.symm.trans w) (by decide), fun _ => ⟨fun w => absurd (h14.symm.trans w) (by decide), fun _ => ⟨fun w => absurd (h14.symm.trans w) (by decide), fun _ => ⟨fun w => absurd (h14.symm.trans w) (by decide), fun _ => ⟨fun w => absurd (h14.symm.trans w) (by decide), fun _ => ⟨fun w => absurd (h14.symm.trans w) (by decide), fun _ => ⟨fun w => absurd (h14.symm.trans w) (by decide), fun _ => ⟨fun w => absurd (h14.symm.trans w) (by decide), fun _ => ⟨fun w => absurd (h14.symm.trans w) (by decide), fun _ => ⟨fun w => absurd (h14.symm.trans w) (by decide), fun _ => ⟨fun w => absurd (h14.symm.trans w) (by decide), fun _ => ⟨fun w => absurd (h14.symm.trans w) (by decide), fun _ => ⟨fun w => absurd (h14.symm.trans w) (by decide), fun _ => ⟨fun _ => ⟨by decide, hK2⟩, fun w => absurd h14 w⟩⟩⟩⟩⟩⟩⟩⟩⟩⟩⟩⟩⟩⟩⟩, fun w => absurd w (fun z => by cases z)⟩
  · have hr0 : r0 = some 65 := hr0.trans (by unfold l_ref; rw [if_neg (by decide), if_neg (by decide), if_pos rfl])
    subst hr0
    have h15 : l_p M' 0 S 65 0 = 15 := m65
    have h15b : l_p M' 0 S 65 2 = nI 0 := (show l_p M' 0 S 65 2 = 0 from f65).trans (by decide)
    refine a_wp1 hS a_ivh (inv := a_iv X [25]) 60 25 _ rfl ⟨fun _ => a_gi (l_is (by decide) (by decide) b65) ⟨fun w => absurd (h15.symm.trans w) (by decide), fun _ => ⟨fun w => absurd (h15.symm.trans w) (by decide), fun _ => ⟨fun w => absurd (h15.symm.trans w) (by decide), fun _ => ⟨fun w => absurd (h15.symm.trans w) (by decide), fun _ => ⟨fun w => absurd (h15.symm.trans w) (by decide), fun _ => ⟨fun w => absurd (h15.symm.trans w) (by decide), fun _ => ⟨fun w => absurd (h15.symm.trans w) (by decide), fun _ => ⟨fun w => absurd (h15.symm.trans w) (by decide), fun _ => ⟨fun w => absurd (h15.symm.trans w) (by decide), fun _ => ⟨fun w => absurd (h15.symm.trans w) (by decide), fun _ => ⟨fun w => absurd (h15.symm.trans w) (by decide), fun _ => ⟨fun w => absurd (h15.symm.trans w) (by decide), fun _ => ⟨fun w => absurd (h15.symm.trans w) (by decide), fun _ => ⟨fun w => absurd (h15.symm.trans w) (by decide), fun _ => ⟨fun w => absurd (h15.symm.trans w) (by decide), fun _ => ⟨fun _ => ⟨_, F, B, 65, rfl, rfl, by decide, by decide, b65, fun w => absurd (h15.symm.trans w) (by decide), fun _ => ⟨0, by decide, h15b, _, F, B, 6, x, rfl, rfl, l_dy (d := 0) (by decide), fun hin => ?_, fun hin => ?_⟩⟩, fun w => absurd h15 w⟩⟩⟩⟩⟩⟩⟩⟩⟩⟩⟩⟩⟩⟩⟩⟩, fun w => absurd w (fun z => by cases z)⟩
    · have hK2 := hK (2, 0, S) (by unfold t_b; rw [if_neg (by decide), if_neg (by decide), if_pos rfl, if_pos hin]) (0 + y) (fun w => absurd w z_2)
      have hK2 : K (some (.inl (0 + y))) (a_mk (l_p M' 2 S) F B) := hK2
      rw [← lp_6 (f := 0)] at hK2
      exact hK2
    · obtain ⟨j, hj, ej⟩ := m_in_n (b := 7) (by decide) hin
      have hK2 := hK (0, M' 24 x.toNatClampNeg + y, S) (by unfold t_b; rw [if_neg (by decide), if_neg (by decide), if_pos rfl, if_neg hin]) (l_p M' 0 S 6 x.toNatClampNeg + y) (fun _ => by
        rw [lp_o (by decide) (by decide), ej, show (nI j).toNatClampNeg = j from nI_clamp (by omega), d8 0 (by decide) j (by omega)]
        simp)
      exact hK2
  · have hp60 : p < 60 := Nat.lt_of_lt_of_le hp henv.1.1
    have hr0 : r0 = some (66 + p) := hr0.trans (l_ref_p hp60)
    subst hr0
    obtain ⟨hB, e0, e1, e2, e3⟩ := d3 p hp
    obtain ⟨so, hs13, hsoo, hva, hvb, hvc, hvd, hvn, hvo⟩ := henv.1.2.1 p hp
    have hi : ∀ I, a_is (a_mk I F B) (66 + p) 1 7 = true := fun I => l_is (by omega) (by omega) hB
    have f0 : l_p M' 0 S (66 + p) 0 = M' 17 p := by rw [lp_g (by decide), e0]
    have f1 : l_p M' 0 S (66 + p) 1 = M' 18 p := by rw [lp_g (by decide), e1]
    have f2 : l_p M' 0 S (66 + p) 2 = M' 19 p := by rw [lp_g (by decide), e2]
    have f3 : l_p M' 0 S (66 + p) 3 = M' 20 p := by rw [lp_g (by decide), e3]
    have hb : t_b M' (tt_T M' E) (nI p) x y S = t_s M' (tt_T M' E) p x y S := by
      unfold t_b
      rw [if_neg (nI_neg (by omega) (by decide)), if_neg (nI_neg (by omega) (by decide)), if_neg (nI_neg (by omega) (by decide)), w_pc hp60]
    rw [hb] at hK
    clear hb
    have ne : ∀ j : Nat, j ≤ 13 → so ≠ j → ¬ M' 17 p = nI j := fun j hj hn e => hn ((nI_eq (by omega) (by omega)).mp (hsoo.symm.trans e))
    refine a_wp1 hS a_ivh (inv := a_iv X [25]) 60 25 _ rfl ⟨fun _ => a_gi (hi _) ?_, fun w => absurd w (fun z => by cases z)⟩
    rcases (show so = 0 ∨ so = 1 ∨ so = 2 ∨ so = 3 ∨ so = 4 ∨ so = 5 ∨ so = 6 ∨ so = 7 ∨ so = 8 ∨ so = 9 ∨ so = 10 ∨ so = 11 ∨ so = 12 ∨ so = 13 by omega) with rfl | rfl | rfl | rfl | rfl | rfl | rfl | rfl | rfl | rfl | rfl | rfl | rfl | rfl
    · have hj : M' 17 p = 0 := hsoo
      have hj0 : l_p M' 0 S (66 + p) 0 = 0 := f0.trans hj
      rw [show t_s M' (tt_T M' E) p x y S = _ by unfold t_s; rw [if_pos hj]] at hK
      refine ⟨fun _ => a_gi (hi _) ?_, fun w => absurd hj0 w⟩
      have hK2 := hK _ rfl (M' 18 p) (fun _ => rfl)
      rw [← f1] at hK2
      exact hK2
    · have hj : M' 17 p = 1 := hsoo
      have hj0 : l_p M' 0 S (66 + p) 0 = 1 := f0.trans hj
      have n0 : ¬ M' 17 p = 0 := ne 0 (by omega) (by omega)
      rw [show t_s M' (tt_T M' E) p x y S = _ by unfold t_s; rw [if_neg n0, if_pos hj]] at hK
      refine ⟨fun w => absurd (hj0.symm.trans w) (by decide), fun _ => ⟨fun _ => ⟨M', F, B, p, x, S, rfl, rfl, hp60, hB, e1, e2, e3, hK⟩, fun w => absurd hj0 w⟩⟩
    · have hj : M' 17 p = 2 := hsoo
      have hj0 : l_p M' 0 S (66 + p) 0 = 2 := f0.trans hj
      have n0 : ¬ M' 17 p = 0 := ne 0 (by omega) (by omega)
      have n1 : ¬ M' 17 p = 1 := ne 1 (by omega) (by omega)
      rw [show t_s M' (tt_T M' E) p x y S = _ by unfold t_s; rw [if_neg n0, if_neg n1, if_pos hj]] at hK
      refine ⟨fun w => absurd (hj0.symm.trans w) (by decide), fun _ => ⟨fun w => absurd (hj0.symm.trans w) (by decide), fun _ => ⟨fun _ => ⟨M', F, B, p, x, y, S, rfl, rfl, hp60, hB, e1, e2, e3, hK⟩, fun w => absurd hj0 w⟩⟩⟩
    · have hj : M' 17 p = 3 := hsoo
      have hj0 : l_p M' 0 S (66 + p) 0 = 3 := f0.trans hj
      have n0 : ¬ M' 17 p = 0 := ne 0 (by omega) (by omega)
      have n1 : ¬ M' 17 p = 1 := ne 1 (by omega) (by omega)
      have n2 : ¬ M' 17 p = 2 := ne 2 (by omega) (by omega)
      rw [show t_s M' (tt_T M' E) p x y S = _ by unfold t_s; rw [if_neg n0, if_neg n1, if_neg n2, if_pos hj]] at hK
      have va : m_vc n (M' 18 p) := hva (by omega) (by omega) (by omega)
      refine ⟨fun w => absurd (hj0.symm.trans w) (by decide), fun _ => ⟨fun w => absurd (hj0.symm.trans w) (by decide), fun _ => ⟨fun w => absurd (hj0.symm.trans w) (by decide), fun _ => ⟨fun _ => a_gi (hi _) ⟨_, F, B, n, _, rfl, rfl, d1, henv.1.1, a_gi (hi _) (a_gi (hi _) ⟨M', F, B, n, M' 18 p, _, _, _, S, k + 1, rfl, rfl, ?_, henv, hW1, cd va, hs1, by omega, by omega, fun R hR r hr => ?_⟩)⟩, fun w => absurd hj0 w⟩⟩⟩⟩
      · show (if m_in (l_p M' 0 S (66 + p) 1) 0 (nI n - 1) = 0 then none else F 3 (l_p M' 0 S (66 + p) 1).toNatClampNeg) = _
        rw [f1]
        exact l_num henv.1.1 d2 va
      · refine hK R ?_ r hr
        rw [hR]
        show tt_T M' E (M' 18 p) (x - l_p M' 0 S (66 + p) 2) (y - l_p M' 0 S (66 + p) 3) S = _
        rw [f2, f3]
    · have hj : M' 17 p = 4 := hsoo
      have hj0 : l_p M' 0 S (66 + p) 0 = 4 := f0.trans hj
      have n0 : ¬ M' 17 p = 0 := ne 0 (by omega) (by omega)
      have n1 : ¬ M' 17 p = 1 := ne 1 (by omega) (by omega)
      have n2 : ¬ M' 17 p = 2 := ne 2 (by omega) (by omega)
      have n3 : ¬ M' 17 p = 3 := ne 3 (by omega) (by omega)
      rw [show t_s M' (tt_T M' E) p x y S = _ by unfold t_s; rw [if_neg n0, if_neg n1, if_neg n2, if_neg n3, if_pos hj]] at hK
      refine ⟨fun w => absurd (hj0.symm.trans w) (by decide), fun _ => ⟨fun w => absurd (hj0.symm.trans w) (by decide), fun _ => ⟨fun w => absurd (hj0.symm.trans w) (by decide), fun _ => ⟨fun w => absurd (hj0.symm.trans w) (by decide), fun _ => ⟨fun _ => ⟨M', F, B, n, p, x, y, S, k + 1, rfl, rfl, henv, hW1, hp, hj, hs1, by omega, by omega, fun R hR r hr => hK R hR r hr⟩, fun w => absurd hj0 w⟩⟩⟩⟩⟩
    · have hj : M' 17 p = 5 := hsoo
      have hj0 : l_p M' 0 S (66 + p) 0 = 5 := f0.trans hj
      have n0 : ¬ M' 17 p = 0 := ne 0 (by omega) (by omega)
      have n1 : ¬ M' 17 p = 1 := ne 1 (by omega) (by omega)
      have n2 : ¬ M' 17 p = 2 := ne 2 (by omega) (by omega)
      have n3 : ¬ M' 17 p = 3 := ne 3 (by omega) (by omega)
      have n4 : ¬ M' 17 p = 4 := ne 4 (by omega) (by omega)
      rw [show t_s M' (tt_T M' E) p x y S = _ by unfold t_s; rw [if_neg n0, if_neg n1, if_neg n2, if_neg n3, if_neg n4, if_pos hj]] at hK
      refine ⟨fun w => absurd (hj0.symm.trans w) (by decide), fun _ => ⟨fun w => absurd (hj0.symm.trans w) (by decide), fun _ => ⟨fun w => absurd (hj0.symm.trans w) (by decide), fun _ => ⟨fun w => absurd (hj0.symm.trans w) (by decide), fun _ => ⟨fun w => absurd (hj0.symm.trans w) (by decide), fun _ => ⟨fun _ => ⟨M', F, B, n, p, x, y, S, k + 1, rfl, rfl, henv, hW1, hp, hj, hs1, by omega, by omega, fun R hR r hr => hK R hR r hr⟩, fun w => absurd hj0 w⟩⟩⟩⟩⟩⟩
    · have hj : M' 17 p = 6 := hsoo
      have hj0 : l_p M' 0 S (66 + p) 0 = 6 := f0.trans hj
      have n0 : ¬ M' 17 p = 0 := ne 0 (by omega) (by omega)
      have n1 : ¬ M' 17 p = 1 := ne 1 (by omega) (by omega)
      have n2 : ¬ M' 17 p = 2 := ne 2 (by omega) (by omega)
      have n3 : ¬ M' 17 p = 3 := ne 3 (by omega) (by omega)
      have n4 : ¬ M' 17 p = 4 := ne 4 (by omega) (by omega)
      have n5 : ¬ M' 17 p = 5 := ne 5 (by omega) (by omega)
      rw [show t_s M' (tt_T M' E) p x y S = _ by unfold t_s; rw [if_neg n0, if_neg n1, if_neg n2, if_neg n3, if_neg n4, if_neg n5, if_pos hj]] at hK
      refine ⟨fun w => absurd (hj0.symm.trans w) (by decide), fun _ => ⟨fun w => absurd (hj0.symm.trans w) (by decide), fun _ => ⟨fun w => absurd (hj0.symm.trans w) (by decide), fun _ => ⟨fun w => absurd (hj0.symm.trans w) (by decide), fun _ => ⟨fun w => absurd (hj0.symm.trans w) (by decide), fun _ => ⟨fun w => absurd (hj0.symm.trans w) (by decide), fun _ => ⟨fun _ => ⟨M', F, B, n, p, x, y, S, k + 1, rfl, rfl, henv, hW1, hp, hj, hs1, by omega, by omega, fun R hR r hr => hK R hR r hr⟩, fun w => absurd hj0 w⟩⟩⟩⟩⟩⟩⟩
    · have hj : M' 17 p = 7 := hsoo
      have hj0 : l_p M' 0 S (66 + p) 0 = 7 := f0.trans hj
      have n0 : ¬ M' 17 p = 0 := ne 0 (by omega) (by omega)
      have n1 : ¬ M' 17 p = 1 := ne 1 (by omega) (by omega)
      have n2 : ¬ M' 17 p = 2 := ne 2 (by omega) (by omega)
      have n3 : ¬ M' 17 p = 3 := ne 3 (by omega) (by omega)
      have n4 : ¬ M' 17 p = 4 := ne 4 (by omega) (by omega)
      have n5 : ¬ M' 17 p = 5 := ne 5 (by omega) (by omega)
      have n6 : ¬ M' 17 p = 6 := ne 6 (by omega) (by omega)
      rw [show t_s M' (tt_T M' E) p x y S = _ by unfold t_s; rw [if_neg n0, if_neg n1, if_neg n2, if_neg n3, if_neg n4, if_neg n5, if_neg n6, if_pos hj]] at hK
      refine ⟨fun w => absurd (hj0.symm.trans w) (by decide), fun _ => ⟨fun w => absurd (hj0.symm.trans w) (by decide), fun _ => ⟨fun w => absurd (hj0.symm.trans w) (by decide), fun _ => ⟨fun w => absurd (hj0.symm.trans w) (by decide), fun _ => ⟨fun w => absurd (hj0.symm.trans w) (by decide), fun _ => ⟨fun w => absurd (hj0.symm.trans w) (by decide), fun _ => ⟨fun w => absurd (hj0.symm.trans w) (by decide), fun _ => ⟨fun _ => ⟨M', F, B, n, p, x, y, S, k + 1, rfl, rfl, henv, hW1, hp, Or.inl hj, hs1, by omega, by omega, fun R hR r hr => hK R (hR.trans (if_pos hj)) r hr⟩, fun w => absurd hj0 w⟩⟩⟩⟩⟩⟩⟩⟩
    · have hj : M' 17 p = 8 := hsoo
      have hj0 : l_p M' 0 S (66 + p) 0 = 8 := f0.trans hj
      have n0 : ¬ M' 17 p = 0 := ne 0 (by omega) (by omega)
      have n1 : ¬ M' 17 p = 1 := ne 1 (by omega) (by omega)
      have n2 : ¬ M' 17 p = 2 := ne 2 (by omega) (by omega)
      have n3 : ¬ M' 17 p = 3 := ne 3 (by omega) (by omega)
      have n4 : ¬ M' 17 p = 4 := ne 4 (by omega) (by omega)
      have n5 : ¬ M' 17 p = 5 := ne 5 (by omega) (by omega)
      have n6 : ¬ M' 17 p = 6 := ne 6 (by omega) (by omega)
      have n7 : ¬ M' 17 p = 7 := ne 7 (by omega) (by omega)
      rw [show t_s M' (tt_T M' E) p x y S = _ by unfold t_s; rw [if_neg n0, if_neg n1, if_neg n2, if_neg n3, if_neg n4, if_neg n5, if_neg n6, if_neg n7, if_pos hj]] at hK
      refine ⟨fun w => absurd (hj0.symm.trans w) (by decide), fun _ => ⟨fun w => absurd (hj0.symm.trans w) (by decide), fun _ => ⟨fun w => absurd (hj0.symm.trans w) (by decide), fun _ => ⟨fun w => absurd (hj0.symm.trans w) (by decide), fun _ => ⟨fun w => absurd (hj0.symm.trans w) (by decide), fun _ => ⟨fun w => absurd (hj0.symm.trans w) (by decide), fun _ => ⟨fun w => absurd (hj0.symm.trans w) (by decide), fun _ => ⟨fun w => absurd (hj0.symm.trans w) (by decide), fun _ => ⟨fun _ => ⟨M', F, B, n, p, x, y, S, k + 1, rfl, rfl, henv, hW1, hp, Or.inr hj, hs1, by omega, by omega, fun R hR r hr => hK R (hR.trans (if_neg n7)) r hr⟩, fun w => absurd hj0 w⟩⟩⟩⟩⟩⟩⟩⟩⟩
    · have hj : M' 17 p = 9 := hsoo
      have hj0 : l_p M' 0 S (66 + p) 0 = 9 := f0.trans hj
      have n0 : ¬ M' 17 p = 0 := ne 0 (by omega) (by omega)
      have n1 : ¬ M' 17 p = 1 := ne 1 (by omega) (by omega)
      have n2 : ¬ M' 17 p = 2 := ne 2 (by omega) (by omega)
      have n3 : ¬ M' 17 p = 3 := ne 3 (by omega) (by omega)
      have n4 : ¬ M' 17 p = 4 := ne 4 (by omega) (by omega)
      have n5 : ¬ M' 17 p = 5 := ne 5 (by omega) (by omega)
      have n6 : ¬ M' 17 p = 6 := ne 6 (by omega) (by omega)
      have n7 : ¬ M' 17 p = 7 := ne 7 (by omega) (by omega)
      have n8 : ¬ M' 17 p = 8 := ne 8 (by omega) (by omega)
      rw [show t_s M' (tt_T M' E) p x y S = _ by unfold t_s; rw [if_neg n0, if_neg n1, if_neg n2, if_neg n3, if_neg n4, if_neg n5, if_neg n6, if_neg n7, if_neg n8, if_pos hj]] at hK
      obtain ⟨a, ha, ea⟩ := hvn (Or.inl rfl)
      refine ⟨fun w => absurd (hj0.symm.trans w) (by decide), fun _ => ⟨fun w => absurd (hj0.symm.trans w) (by decide), fun _ => ⟨fun w => absurd (hj0.symm.trans w) (by decide), fun _ => ⟨fun w => absurd (hj0.symm.trans w) (by decide), fun _ => ⟨fun w => absurd (hj0.symm.trans w) (by decide), fun _ => ⟨fun w => absurd (hj0.symm.trans w) (by decide), fun _ => ⟨fun w => absurd (hj0.symm.trans w) (by decide), fun _ => ⟨fun w => absurd (hj0.symm.trans w) (by decide), fun _ => ⟨fun w => absurd (hj0.symm.trans w) (by decide), fun _ => ⟨fun _ => a_gi (hi _) ⟨_, F, B, _, rfl, rfl, M', F, B, n, M' 25 (M' 18 p).toNatClampNeg, _, _, _, S, k + 1, rfl, rfl, ?_, henv, hW1, ?_, hs1, by omega, by omega, fun R hR r hr => a_gi (hi _) ?_⟩, fun w => absurd hj0 w⟩⟩⟩⟩⟩⟩⟩⟩⟩⟩
      · show (if m_in (l_p M' 0 S (66 + p) 1) 0 5 = 0 then none else F 2 (l_p M' 0 S (66 + p) 1).toNatClampNeg) = _
        rw [f1, ea, if_neg (by rw [show m_in (nI a) 0 5 = 1 from m_in_y (b := 5) (by decide) (by omega)]; decide), show (nI a).toNatClampNeg = a from nI_clamp (by omega)]
        exact d7 a ha
      · rw [ea, show (nI a).toNatClampNeg = a from nI_clamp (by omega)]
        exact henv.1.2.2 a ha
      · have hK2 := hK (R.1, R.2.1 + M' 19 p, R.2.2) (by rw [hR]; rfl) (r + M' 19 p) (fun w => by rw [hr w])
        have g2 : l_p M' R.1 R.2.2 (66 + p) 2 = M' 19 p := by rw [lp_g (by decide), e2]
        rw [← g2] at hK2
        exact hK2
    · have hj : M' 17 p = 10 := hsoo
      have hj0 : l_p M' 0 S (66 + p) 0 = 10 := f0.trans hj
      have n0 : ¬ M' 17 p = 0 := ne 0 (by omega) (by omega)
      have n1 : ¬ M' 17 p = 1 := ne 1 (by omega) (by omega)
      have n2 : ¬ M' 17 p = 2 := ne 2 (by omega) (by omega)
      have n3 : ¬ M' 17 p = 3 := ne 3 (by omega) (by omega)
      have n4 : ¬ M' 17 p = 4 := ne 4 (by omega) (by omega)
      have n5 : ¬ M' 17 p = 5 := ne 5 (by omega) (by omega)
      have n6 : ¬ M' 17 p = 6 := ne 6 (by omega) (by omega)
      have n7 : ¬ M' 17 p = 7 := ne 7 (by omega) (by omega)
      have n8 : ¬ M' 17 p = 8 := ne 8 (by omega) (by omega)
      have n9 : ¬ M' 17 p = 9 := ne 9 (by omega) (by omega)
      rw [show t_s M' (tt_T M' E) p x y S = _ by unfold t_s; rw [if_neg n0, if_neg n1, if_neg n2, if_neg n3, if_neg n4, if_neg n5, if_neg n6, if_neg n7, if_neg n8, if_neg n9, if_pos hj]] at hK
      refine ⟨fun w => absurd (hj0.symm.trans w) (by decide), fun _ => ⟨fun w => absurd (hj0.symm.trans w) (by decide), fun _ => ⟨fun w => absurd (hj0.symm.trans w) (by decide), fun _ => ⟨fun w => absurd (hj0.symm.trans w) (by decide), fun _ => ⟨fun w => absurd (hj0.symm.trans w) (by decide), fun _ => ⟨fun w => absurd (hj0.symm.trans w) (by decide), fun _ => ⟨fun w => absurd (hj0.symm.trans w) (by decide), fun _ => ⟨fun w => absurd (hj0.symm.trans w) (by decide), fun _ => ⟨fun w => absurd (hj0.symm.trans w) (by decide), fun _ => ⟨fun w => absurd (hj0.symm.trans w) (by decide), fun _ => ⟨fun _ => ⟨M', F, B, n, p, x, y, S, k + 1, rfl, rfl, henv, hW1, hp, hj, hs1, by omega, by omega, fun R hR r hr => hK R hR r hr⟩, fun w => absurd hj0 w⟩⟩⟩⟩⟩⟩⟩⟩⟩⟩⟩
    · have hj : M' 17 p = 11 := hsoo
      have hj0 : l_p M' 0 S (66 + p) 0 = 11 := f0.trans hj
      have n0 : ¬ M' 17 p = 0 := ne 0 (by omega) (by omega)
      have n1 : ¬ M' 17 p = 1 := ne 1 (by omega) (by omega)
      have n2 : ¬ M' 17 p = 2 := ne 2 (by omega) (by omega)
      have n3 : ¬ M' 17 p = 3 := ne 3 (by omega) (by omega)
      have n4 : ¬ M' 17 p = 4 := ne 4 (by omega) (by omega)
      have n5 : ¬ M' 17 p = 5 := ne 5 (by omega) (by omega)
      have n6 : ¬ M' 17 p = 6 := ne 6 (by omega) (by omega)
      have n7 : ¬ M' 17 p = 7 := ne 7 (by omega) (by omega)
      have n8 : ¬ M' 17 p = 8 := ne 8 (by omega) (by omega)
      have n9 : ¬ M' 17 p = 9 := ne 9 (by omega) (by omega)
      have n10 : ¬ M' 17 p = 10 := ne 10 (by omega) (by omega)
      rw [show t_s M' (tt_T M' E) p x y S = _ by unfold t_s; rw [if_neg n0, if_neg n1, if_neg n2, if_neg n3, if_neg n4, if_neg n5, if_neg n6, if_neg n7, if_neg n8, if_neg n9, if_neg n10, if_pos hj]] at hK
      refine ⟨fun w => absurd (hj0.symm.trans w) (by decide), fun _ => ⟨fun w => absurd (hj0.symm.trans w) (by decide), fun _ => ⟨fun w => absurd (hj0.symm.trans w) (by decide), fun _ => ⟨fun w => absurd (hj0.symm.trans w) (by decide), fun _ => ⟨fun w => absurd (hj0.symm.trans w) (by decide), fun _ => ⟨fun w => absurd (hj0.symm.trans w) (by decide), fun _ => ⟨fun w => absurd (hj0.symm.trans w) (by decide), fun _ => ⟨fun w => absurd (hj0.symm.trans w) (by decide), fun _ => ⟨fun w => absurd (hj0.symm.trans w) (by decide), fun _ => ⟨fun w => absurd (hj0.symm.trans w) (by decide), fun _ => ⟨fun w => absurd (hj0.symm.trans w) (by decide), fun _ => ⟨fun _ => ⟨M', F, B, n, p, x, y, S, k + 1, rfl, rfl, henv, hW1, hp, hj, hs1, by omega, by omega, fun R hR r hr => hK R hR r hr⟩, fun w => absurd hj0 w⟩⟩⟩⟩⟩⟩⟩⟩⟩⟩⟩⟩
    · have hj : M' 17 p = 12 := hsoo
      have hj0 : l_p M' 0 S (66 + p) 0 = 12 := f0.trans hj
      have n0 : ¬ M' 17 p = 0 := ne 0 (by omega) (by omega)
      have n1 : ¬ M' 17 p = 1 := ne 1 (by omega) (by omega)
      have n2 : ¬ M' 17 p = 2 := ne 2 (by omega) (by omega)
      have n3 : ¬ M' 17 p = 3 := ne 3 (by omega) (by omega)
      have n4 : ¬ M' 17 p = 4 := ne 4 (by omega) (by omega)
      have n5 : ¬ M' 17 p = 5 := ne 5 (by omega) (by omega)
      have n6 : ¬ M' 17 p = 6 := ne 6 (by omega) (by omega)
      have n7 : ¬ M' 17 p = 7 := ne 7 (by omega) (by omega)
      have n8 : ¬ M' 17 p = 8 := ne 8 (by omega) (by omega)
      have n9 : ¬ M' 17 p = 9 := ne 9 (by omega) (by omega)
      have n10 : ¬ M' 17 p = 10 := ne 10 (by omega) (by omega)
      have n11 : ¬ M' 17 p = 11 := ne 11 (by omega) (by omega)
      rw [show t_s M' (tt_T M' E) p x y S = _ by unfold t_s; rw [if_neg n0, if_neg n1, if_neg n2, if_neg n3, if_neg n4, if_neg n5, if_neg n6, if_neg n7, if_neg n8, if_neg n9, if_neg n10, if_neg n11, if_pos hj]] at hK
      refine ⟨fun w => absurd (hj0.symm.trans w) (by decide), fun _ => ⟨fun w => absurd (hj0.symm.trans w) (by decide), fun _ => ⟨fun w => absurd (hj0.symm.trans w) (by decide), fun _ => ⟨fun w => absurd (hj0.symm.trans w) (by decide), fun _ => ⟨fun w => absurd (hj0.symm.trans w) (by decide), fun _ => ⟨fun w => absurd (hj0.symm.trans w) (by decide), fun _ => ⟨fun w => absurd (hj0.symm.trans w) (by decide), fun _ => ⟨fun w => absurd (hj0.symm.trans w) (by decide), fun _ => ⟨fun w => absurd (hj0.symm.trans w) (by decide), fun _ => ⟨fun w => absurd (hj0.symm.trans w) (by decide), fun _ => ⟨fun w => absurd (hj0.symm.trans w) (by decide), fun _ => ⟨fun w => absurd (hj0.symm.trans w) (by decide), fun _ => ⟨fun _ => ⟨M', F, B, n, p, x, y, S, k + 1, rfl, rfl, henv, hW1, hp, hj, hs1, by omega, by omega, fun R hR r hr => hK R hR r hr⟩, fun w => absurd hj0 w⟩⟩⟩⟩⟩⟩⟩⟩⟩⟩⟩⟩⟩
    · have hj : M' 17 p = 13 := hsoo
      have hj0 : l_p M' 0 S (66 + p) 0 = 13 := f0.trans hj
      have n0 : ¬ M' 17 p = 0 := ne 0 (by omega) (by omega)
      have n1 : ¬ M' 17 p = 1 := ne 1 (by omega) (by omega)
      have n2 : ¬ M' 17 p = 2 := ne 2 (by omega) (by omega)
      have n3 : ¬ M' 17 p = 3 := ne 3 (by omega) (by omega)
      have n4 : ¬ M' 17 p = 4 := ne 4 (by omega) (by omega)
      have n5 : ¬ M' 17 p = 5 := ne 5 (by omega) (by omega)
      have n6 : ¬ M' 17 p = 6 := ne 6 (by omega) (by omega)
      have n7 : ¬ M' 17 p = 7 := ne 7 (by omega) (by omega)
      have n8 : ¬ M' 17 p = 8 := ne 8 (by omega) (by omega)
      have n9 : ¬ M' 17 p = 9 := ne 9 (by omega) (by omega)
      have n10 : ¬ M' 17 p = 10 := ne 10 (by omega) (by omega)
      have n11 : ¬ M' 17 p = 11 := ne 11 (by omega) (by omega)
      have n12 : ¬ M' 17 p = 12 := ne 12 (by omega) (by omega)
      rw [show t_s M' (tt_T M' E) p x y S = _ by unfold t_s; rw [if_neg n0, if_neg n1, if_neg n2, if_neg n3, if_neg n4, if_neg n5, if_neg n6, if_neg n7, if_neg n8, if_neg n9, if_neg n10, if_neg n11, if_neg n12]] at hK
      refine ⟨fun w => absurd (hj0.symm.trans w) (by decide), fun _ => ⟨fun w => absurd (hj0.symm.trans w) (by decide), fun _ => ⟨fun w => absurd (hj0.symm.trans w) (by decide), fun _ => ⟨fun w => absurd (hj0.symm.trans w) (by decide), fun _ => ⟨fun w => absurd (hj0.symm.trans w) (by decide), fun _ => ⟨fun w => absurd (hj0.symm.trans w) (by decide), fun _ => ⟨fun w => absurd (hj0.symm.trans w) (by decide), fun _ => ⟨fun w => absurd (hj0.symm.trans w) (by decide), fun _ => ⟨fun w => absurd (hj0.symm.trans w) (by decide), fun _ => ⟨fun w => absurd (hj0.symm.trans w) (by decide), fun _ => ⟨fun w => absurd (hj0.symm.trans w) (by decide), fun _ => ⟨fun w => absurd (hj0.symm.trans w) (by decide), fun _ => ⟨fun w => absurd (hj0.symm.trans w) (by decide), fun _ => ⟨fun _ => a_gi (hi _) ⟨M', F, B, n, M' 22 p, _, _, _, S, k + 1, rfl, rfl, ?_, henv, hW1, hvo rfl, hs1, by omega, by omega, fun R hR r hr => hK R hR r hr⟩, fun w => absurd hj0 w⟩⟩⟩⟩⟩⟩⟩⟩⟩⟩⟩⟩⟩⟩
      · show a_SR F (66 + p) 5 = _
        rw [l_SR (by omega)]
        exact d6 p hp hj
theorem con_X2_tell : ∀ {E : Nat}, a_Con l D G N0 yX2_tell cX2_tell 4 (some .int) (rm_X2_tell E) (sp_X2_tell E) := by
  intro E
  induction E with
  | zero =>
    intro as σ K q h _
    obtain ⟨M, F, B, n, c, r0, x, y, s, k, -, -, -, -, -, -, -, hk, hE, -⟩ := h
    omega
  | succ E ih => exact con_X2_tell_s ih
def sp_X2_tellPlace : aP := fun as σ K => ∃ M F B n c r0 x y f s, σ = a_mk (l_p M f s) F B ∧ as = [.inr (some 0), .inr r0, .inl x, .inl y] ∧ r0 = l_ref c ∧ l_env M F B n ∧ l_W M n s ∧ m_cd n c ∧ ∀ R : tR, R = tt_T M 101 c x y (0, s.2) → ∀ r : Int32, (R.1 = 0 → r = R.2.1) → K (some (.inl r)) (a_mk (l_p M R.1 R.2.2) F B)
theorem rc_X2_tellPlace : ∀ as σ K, sp_X2_tellPlace as σ K → ∃ h As, as = .inr (some h) :: As ∧ a_is σ h 2 10 = true := by
  rintro as σ K ⟨M, F, B, n, c, r0, x, y, f, s, rfl, rfl, -⟩
  exact ⟨0, _, rfl, rfl⟩
def P_X2_tellPlace (K : aK) (bc bs : Nat) : List (Nat × aT) := [(0, t_ald 0 1),
  (1, t_ic 0 2),
  (2, t_puti 2 10 7 5),
  (5, t_ald 0 6),
  (6, t_ic 0 7),
  (7, t_puti 2 10 6 10),
  (10, t_ald 0 11),
  (11, t_ald 1 12),
  (12, t_ild 2 13),
  (13, t_ild 3 14),
  (14, t_call 4 0 0 bc bs (sp_X2_tell 101) 17),
  (17, t_iret K bc bs)]
set_option maxRecDepth 100000 in
theorem S_X2_tellPlace {X : a_X} {K : aK} {l : Launch} {D : va_G} {G : aG} {N0 : Nat} (C : a_C X cX2_tellPlace (some .int) RX2) (Y : a_Y X l (a_rm 251 0 0) D G N0) (M : a_mq X K (a_rm 251 0 0).cells (a_rm 251 0 0).slots) : ∀ x ∈ P_X2_tellPlace K 0 0, a_Sd X x.1 x.2 := by
  unfold P_X2_tellPlace
  refine List.forall_mem_cons.mpr ⟨s_aldn C dX2_tellPlace_0 rfl, ?_⟩
  refine List.forall_mem_cons.mpr ⟨s_ic C dX2_tellPlace_1 (by decide), ?_⟩
  refine List.forall_mem_cons.mpr ⟨s_puti C tyX2 tyX2_ok nmX2 rfl in_X2 (by decide) lk_X2_108 rfl (Or.inl rfl) rfl dX2_tellPlace_2, ?_⟩
  refine List.forall_mem_cons.mpr ⟨s_aldn C dX2_tellPlace_5 rfl, ?_⟩
  refine List.forall_mem_cons.mpr ⟨s_ic C dX2_tellPlace_6 (by decide), ?_⟩
  refine List.forall_mem_cons.mpr ⟨s_puti C tyX2 tyX2_ok nmX2 rfl in_X2 (by decide) lk_X2_78 rfl (Or.inl rfl) rfl dX2_tellPlace_7, ?_⟩
  refine List.forall_mem_cons.mpr ⟨s_aldn C dX2_tellPlace_10 rfl, ?_⟩
  refine List.forall_mem_cons.mpr ⟨s_aldn C dX2_tellPlace_11 rfl, ?_⟩
  refine List.forall_mem_cons.mpr ⟨s_ildn C dX2_tellPlace_12 rfl, ?_⟩
  refine List.forall_mem_cons.mpr ⟨s_ildn C dX2_tellPlace_13 rfl, ?_⟩
  refine List.forall_mem_cons.mpr ⟨s_callV (rm := (rm_X2_tell 101)) (n := 3) C Y (ci := 2) rfl con_X2_tell rc_X2_tell co_X2_tell ml_X2_114 im_X2_tell se_X2_tell ii_X2 (by decide +kernel) (a_hr (by decide) (by decide)) ⟨rfl, rfl⟩ dX2_tellPlace_14, ?_⟩
  refine List.forall_mem_cons.mpr ⟨s_iret C M dX2_tellPlace_17, ?_⟩
  exact fun _ h => absurd h List.not_mem_nil
theorem con_X2_tellPlace : a_Con l D G N0 yX2_tellPlace cX2_tellPlace 4 (some .int) (a_rm 251 0 0) sp_X2_tellPlace := by
  refine a_con (by decide) (fun as σ K h => by obtain ⟨M, F, B, n, c, r0, x, y, f, s, rfl, rfl, -⟩ := h; exact Nat.le_refl _) ?_
  intro X as σ K h C Y M _
  obtain ⟨M', F, B, n, c, r0, x, y, f, s, rfl, rfl, hr0, henv, hW, hc, hK⟩ := h
  refine a_wps (S_X2_tellPlace C Y M) (inv := a_ni) a_nih 40 _ _ _ _ _ _ ?_
  have e : a_w (a_w (l_p M' f s) 0 7 0) 0 6 0 = l_p M' 0 (0, s.2) := by rw [lp_7, lp_6]
  exact ⟨M', F, B, n, c, r0, x, y, (0, s.2), 0, congrArg (fun I => a_mk I F B) e, rfl, hr0, henv, hW, hc, rfl, Nat.zero_le _, by decide, hK⟩
/-- ask: refused, or what the pattern tells -/
def sp_X2_ask : aP := fun as σ K => ∃ I F B n p x y, σ = a_mk I F B ∧ as = [.inr (some 0), .inl p, .inl x, .inl y] ∧ l_env I F B n ∧ l_W I n (0, 0, 0, fun q => I (66 + q) 6) ∧
  (m_in p 0 (nI n - 1) = 0 → K (some (.inl 0)) (a_mk (a_w I 0 5 (-3)) F B)) ∧
  (¬ m_in p 0 (nI n - 1) = 0 → ∀ R : tR, R = tt_T I 101 p x y (0, 0, I 0 9, fun q => I (66 + q) 6) → K (some (.inl (m_an R))) (a_mk (a_w (l_p I R.1 R.2.2) 0 5 (m_wh R.1)) F B))
theorem rc_X2_ask : ∀ as σ K, sp_X2_ask as σ K → ∃ h As, as = .inr (some h) :: As ∧ a_is σ h 2 10 = true := by
  rintro as σ K ⟨I, F, B, n, p, x, y, rfl, rfl, -⟩
  exact ⟨0, _, rfl, rfl⟩
def P_X2_ask (K : aK) (bc bs : Nat) : List (Nat × aT) := [(0, t_ald 0 1),
  (1, t_ild 1 2),
  (2, t_call 2 0 0 bc bs sp_X2_isPattern 5),
  (5, t_if (fun x => x = 0) 8 16),
  (8, t_ald 0 9),
  (9, t_ic (-3) 11),
  (11, t_puti 2 10 5 14),
  (14, t_ic 0 15),
  (15, t_iret K bc bs),
  (16, t_ald 0 17),
  (17, t_ic 0 18),
  (18, t_puti 2 10 8 21),
  (21, t_ald 0 22),
  (22, t_ald 0 23),
  (23, t_ild 1 24),
  (24, t_call 2 0 0 bc bs sp_X2_numbered 27),
  (27, t_ild 2 28),
  (28, t_ild 3 29),
  (29, t_call 4 0 0 bc bs sp_X2_tellPlace 32),
  (32, t_ist 4 34),
  (34, t_ald 0 35),
  (35, t_ald 0 36),
  (36, t_geti 2 10 6 39),
  (39, t_if (fun x => x = 0) 52 42),
  (42, t_ic (-10) 44),
  (44, t_ald 0 45),
  (45, t_geti 2 10 6 48),
  (48, t_sub 49),
  (49, t_goto 53),
  (52, t_ic 0 53),
  (53, t_puti 2 10 5 56),
  (56, t_ald 0 57),
  (57, t_geti 2 10 6 60),
  (60, t_if (fun x => x = 0) 67 63),
  (63, t_ic 0 64),
  (64, t_goto 69),
  (67, t_ild 4 69),
  (69, t_iret K bc bs)]
set_option maxRecDepth 100000 in
theorem S_X2_ask {X : a_X} {K : aK} {l : Launch} {D : va_G} {G : aG} {N0 : Nat} (C : a_C X cX2_ask (some .int) RX2) (Y : a_Y X l (a_rm 252 0 0) D G N0) (M : a_mq X K (a_rm 252 0 0).cells (a_rm 252 0 0).slots) : ∀ x ∈ P_X2_ask K 0 0, a_Sd X x.1 x.2 := by
  unfold P_X2_ask
  refine List.forall_mem_cons.mpr ⟨s_aldn C dX2_ask_0 rfl, ?_⟩
  refine List.forall_mem_cons.mpr ⟨s_ildn C dX2_ask_1 rfl, ?_⟩
  refine List.forall_mem_cons.mpr ⟨s_callV (rm := (a_rm 1 0 0)) (n := 1) C Y (ci := 2) rfl con_X2_isPattern rc_X2_isPattern co_X2_isPattern ml_X2_65 im_X2_isPattern se_X2_isPattern ii_X2 (by decide +kernel) ⟨by decide, by decide⟩ ⟨rfl, rfl⟩ dX2_ask_2, ?_⟩
  refine List.forall_mem_cons.mpr ⟨s_if_ne C dX2_ask_5 (by decide), ?_⟩
  refine List.forall_mem_cons.mpr ⟨s_aldn C dX2_ask_8 rfl, ?_⟩
  refine List.forall_mem_cons.mpr ⟨s_bi C dX2_ask_9 (by decide), ?_⟩
  refine List.forall_mem_cons.mpr ⟨s_puti C tyX2 tyX2_ok nmX2 rfl in_X2 (by decide) lk_X2_37 rfl (Or.inl rfl) rfl dX2_ask_11, ?_⟩
  refine List.forall_mem_cons.mpr ⟨s_ic C dX2_ask_14 (by decide), ?_⟩
  refine List.forall_mem_cons.mpr ⟨s_iret C M dX2_ask_15, ?_⟩
  refine List.forall_mem_cons.mpr ⟨s_aldn C dX2_ask_16 rfl, ?_⟩
  refine List.forall_mem_cons.mpr ⟨s_ic C dX2_ask_17 (by decide), ?_⟩
  refine List.forall_mem_cons.mpr ⟨s_puti C tyX2 tyX2_ok nmX2 rfl in_X2 (by decide) lk_X2_71 rfl (Or.inl rfl) rfl dX2_ask_18, ?_⟩
  refine List.forall_mem_cons.mpr ⟨s_aldn C dX2_ask_21 rfl, ?_⟩
  refine List.forall_mem_cons.mpr ⟨s_aldn C dX2_ask_22 rfl, ?_⟩
  refine List.forall_mem_cons.mpr ⟨s_ildn C dX2_ask_23 rfl, ?_⟩
  refine List.forall_mem_cons.mpr ⟨s_callV (rm := (a_rm 2 0 0)) (n := 1) C Y (ci := 2) rfl con_X2_numbered rc_X2_numbered co_X2_numbered ml_X2_68 im_X2_numbered se_X2_numbered ii_X2 (by decide +kernel) ⟨by decide, by decide⟩ ⟨rfl, rfl⟩ dX2_ask_24, ?_⟩
  refine List.forall_mem_cons.mpr ⟨s_ildn C dX2_ask_27 rfl, ?_⟩
  refine List.forall_mem_cons.mpr ⟨s_ildn C dX2_ask_28 rfl, ?_⟩
  refine List.forall_mem_cons.mpr ⟨s_callV (rm := (a_rm 251 0 0)) (n := 3) C Y (ci := 2) rfl con_X2_tellPlace rc_X2_tellPlace co_X2_tellPlace ml_X2_74 im_X2_tellPlace se_X2_tellPlace ii_X2 (by decide +kernel) ⟨by decide, by decide⟩ ⟨rfl, rfl⟩ dX2_ask_29, ?_⟩
  refine List.forall_mem_cons.mpr ⟨s_ist C dX2_ask_32, ?_⟩
  refine List.forall_mem_cons.mpr ⟨s_aldn C dX2_ask_34 rfl, ?_⟩
  refine List.forall_mem_cons.mpr ⟨s_aldn C dX2_ask_35 rfl, ?_⟩
  refine List.forall_mem_cons.mpr ⟨s_geti C rfl in_X2 (by decide) lk_X2_78 rfl dX2_ask_36, ?_⟩
  refine List.forall_mem_cons.mpr ⟨s_if_eq C dX2_ask_39 (by decide), ?_⟩
  refine List.forall_mem_cons.mpr ⟨s_bi C dX2_ask_42 (by decide), ?_⟩
  refine List.forall_mem_cons.mpr ⟨s_aldn C dX2_ask_44 rfl, ?_⟩
  refine List.forall_mem_cons.mpr ⟨s_geti C rfl in_X2 (by decide) lk_X2_78 rfl dX2_ask_45, ?_⟩
  refine List.forall_mem_cons.mpr ⟨s_sub C dX2_ask_48, ?_⟩
  refine List.forall_mem_cons.mpr ⟨s_goto C dX2_ask_49 (by decide), ?_⟩
  refine List.forall_mem_cons.mpr ⟨s_ic C dX2_ask_52 (by decide), ?_⟩
  refine List.forall_mem_cons.mpr ⟨s_puti C tyX2 tyX2_ok nmX2 rfl in_X2 (by decide) lk_X2_37 rfl (Or.inl rfl) rfl dX2_ask_53, ?_⟩
  refine List.forall_mem_cons.mpr ⟨s_aldn C dX2_ask_56 rfl, ?_⟩
  refine List.forall_mem_cons.mpr ⟨s_geti C rfl in_X2 (by decide) lk_X2_78 rfl dX2_ask_57, ?_⟩
  refine List.forall_mem_cons.mpr ⟨s_if_eq C dX2_ask_60 (by decide), ?_⟩
  refine List.forall_mem_cons.mpr ⟨s_ic C dX2_ask_63 (by decide), ?_⟩
  refine List.forall_mem_cons.mpr ⟨s_goto C dX2_ask_64 (by decide), ?_⟩
  refine List.forall_mem_cons.mpr ⟨s_ild C dX2_ask_67, ?_⟩
  refine List.forall_mem_cons.mpr ⟨s_iret C M dX2_ask_69, ?_⟩
  exact fun _ h => absurd h List.not_mem_nil
set_option maxRecDepth 20000 in
theorem con_X2_ask : a_Con l D G N0 yX2_ask cX2_ask 5 (some .int) (a_rm 252 0 0) sp_X2_ask := by
  refine a_con (by decide) (fun as σ K h => by obtain ⟨I, F, B, n, p, x, y, rfl, rfl, -⟩ := h; exact (by decide : 4 ≤ 5)) ?_
  intro X as σ K h C Y M _
  obtain ⟨I, F, B, n, p, x, y, rfl, rfl, henv, hW, hK0, hK1⟩ := h
  have d1 := henv.2.1
  have d2 := henv.2.2.1
  refine a_wps (S_X2_ask C Y M) (inv := a_ni) a_nih 60 _ _ _ _ _ _ ?_
  refine ⟨I, F, B, n, p, rfl, rfl, d1, henv.1.1, fun h1 => hK0 h1, fun h1 => ?_⟩
  have vp : m_vc n p := l_inp henv.1.1 h1
  have e8 : a_w I 0 8 0 = l_p I (I 0 6) (I 0 7, 0, I 0 9, fun q => I (66 + q) 6) := (congrArg (fun J => a_w J 0 8 0) (lp_self I).symm).trans lp_8
  refine ⟨a_w I 0 8 0, F, B, n, p, rfl, rfl, d1, henv.1.1, I, F, B, n, p, _, x, y, I 0 6, (I 0 7, 0, I 0 9, fun q => I (66 + q) 6), congrArg (fun J => a_mk J F B) e8, rfl, l_num henv.1.1 d2 vp, henv, hW, Or.inr (Or.inr (Or.inr vp)), fun R hR r hr => ?_⟩
  have hK := hK1 h1 R hR
  clear hR
  by_cases hz : R.1 = 0
  · rw [show m_an R = _ from if_pos hz, show m_wh R.1 = _ from if_pos hz, ← hr hz] at hK
    exact ⟨fun _ => ⟨fun _ => hK, fun w => absurd hz w⟩, fun w => absurd hz w⟩
  · rw [show m_an R = _ from if_neg hz, show m_wh R.1 = _ from if_neg hz] at hK
    exact ⟨fun w => absurd w hz, fun _ => ⟨fun w => absurd w hz, fun _ => hK⟩⟩
end LV

