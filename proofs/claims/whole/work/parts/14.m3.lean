/-! ===== the reference's steps: begins, goesOn, falls ===== -/
def m_begins (I : Nat → Nat → Int32) (p x y : Int32) : Nat → Nat → Int32 :=
  if I 17 p.toNatClampNeg = 3 then m_push I (I 18 p.toNatClampNeg) (x - I 19 p.toNatClampNeg) (y - I 20 p.toNatClampNeg)
  else if I 17 p.toNatClampNeg = 4 then m_push I (I 18 p.toNatClampNeg) (m_tx (I 19 p.toNatClampNeg) x y) (m_ty (I 19 p.toNatClampNeg) x y)
  else if I 17 p.toNatClampNeg = 9 then m_push I (I 25 (I 18 p.toNatClampNeg).toNatClampNeg) x y
  else if I 17 p.toNatClampNeg = 10 then (if I 23 p.toNatClampNeg + 1 = I 19 p.toNatClampNeg then m_tells (a_w (a_w (a_w I 23 p.toNatClampNeg (I 23 p.toNatClampNeg + 1)) 23 p.toNatClampNeg 0) 16 11 (I 16 11 + 1)) (I 20 p.toNatClampNeg) else m_push (a_w I 23 p.toNatClampNeg (I 23 p.toNatClampNeg + 1)) (I 18 p.toNatClampNeg) x y)
  else if I 17 p.toNatClampNeg = 13 then m_push I (I 22 p.toNatClampNeg) x y
  else m_push I (I 18 p.toNatClampNeg) x y
theorem m_begins_d {I : Nat → Nat → Int32} {p x y : Int32} (h3 : ¬ I 17 p.toNatClampNeg = 3) (h4 : ¬ I 17 p.toNatClampNeg = 4) (h9 : ¬ I 17 p.toNatClampNeg = 9) (h10 : ¬ I 17 p.toNatClampNeg = 10) (h13 : ¬ I 17 p.toNatClampNeg = 13) : m_begins I p x y = m_push I (I 18 p.toNatClampNeg) x y := by
  unfold m_begins
  rw [if_neg h3, if_neg h4, if_neg h9, if_neg h10, if_neg h13]
def sp_X3_begins : aP := fun as σ K => ∃ I F B p x y, σ = a_mk I F B ∧ as = [.inr (some 16), .inl p, .inl x, .inl y] ∧ vp_in p 60 ∧ vp_in (I 16 13) 104 ∧ (I 17 p.toNatClampNeg = 9 → vp_in (I 18 p.toNatClampNeg) 6) ∧ K none (a_mk (m_begins I p x y) F B)
theorem rc_X3_begins : ∀ as σ K, sp_X3_begins as σ K → ∃ h As, as = .inr (some h) :: As ∧ a_is σ h 3 25 = true := by
  rintro as σ K ⟨I, F, B, c, x, y, rfl, rfl, -⟩
  exact ⟨16, _, rfl, rfl⟩
theorem a_ww {I : Nat → Nat → Int32} {h k : Nat} {x : Int32} : a_w I h k x h k = x := if_pos ⟨rfl, rfl⟩
def P_X3_begins (K : aK) (bc bs : Nat) : List (Nat × aT) := [(0, t_ald 0 1),
  (1, t_getr 3 25 1 4),
  (4, t_ild 1 5),
  (5, t_iald 6),
  (6, t_sw [(3, 64), (4, 93), (5, 208), (6, 208), (7, 208), (8, 208), (9, 103), (10, 123), (11, 208), (12, 208), (13, 193)] 208),
  (64, t_ald 0 65),
  (65, t_ald 0 66),
  (66, t_getr 3 25 2 69),
  (69, t_ild 1 70),
  (70, t_iald 71),
  (71, t_ild 2 72),
  (72, t_ald 0 73),
  (73, t_getr 3 25 3 76),
  (76, t_ild 1 77),
  (77, t_iald 78),
  (78, t_sub 79),
  (79, t_ild 3 80),
  (80, t_ald 0 81),
  (81, t_getr 3 25 4 84),
  (84, t_ild 1 85),
  (85, t_iald 86),
  (86, t_sub 87),
  (87, t_call 4 0 0 bc bs sp_X3_push 90),
  (90, t_goto 220),
  (93, t_ald 0 94),
  (94, t_ild 1 95),
  (95, t_ild 2 96),
  (96, t_ild 3 97),
  (97, t_call 4 0 0 bc bs sp_X3_turned 100),
  (100, t_goto 220),
  (103, t_ald 0 104),
  (104, t_ald 0 105),
  (105, t_getr 3 25 9 108),
  (108, t_ald 0 109),
  (109, t_getr 3 25 2 112),
  (112, t_ild 1 113),
  (113, t_iald 114),
  (114, t_iald 115),
  (115, t_ild 2 116),
  (116, t_ild 3 117),
  (117, t_call 4 0 0 bc bs sp_X3_push 120),
  (120, t_goto 220),
  (123, t_ald 0 124),
  (124, t_getr 3 25 7 127),
  (127, t_ild 1 128),
  (128, t_dup2 129),
  (129, t_iald 130),
  (130, t_ic 1 131),
  (131, t_add 132),
  (132, t_iast 133),
  (133, t_ald 0 134),
  (134, t_getr 3 25 7 137),
  (137, t_ild 1 138),
  (138, t_iald 139),
  (139, t_ald 0 140),
  (140, t_getr 3 25 3 143),
  (143, t_ild 1 144),
  (144, t_iald 145),
  (145, t_ifc (fun x y => x = y) 148 178),
  (148, t_ald 0 149),
  (149, t_getr 3 25 7 152),
  (152, t_ild 1 153),
  (153, t_ic 0 154),
  (154, t_iast 155),
  (155, t_ald 0 156),
  (156, t_dup 157),
  (157, t_geti 3 25 11 160),
  (160, t_ic 1 161),
  (161, t_add 162),
  (162, t_puti 3 25 11 165),
  (165, t_ald 0 166),
  (166, t_ald 0 167),
  (167, t_getr 3 25 4 170),
  (170, t_ild 1 171),
  (171, t_iald 172),
  (172, t_call 2 0 0 bc bs sp_X3_tells 175),
  (175, t_goto 220),
  (178, t_ald 0 179),
  (179, t_ald 0 180),
  (180, t_getr 3 25 2 183),
  (183, t_ild 1 184),
  (184, t_iald 185),
  (185, t_ild 2 186),
  (186, t_ild 3 187),
  (187, t_call 4 0 0 bc bs sp_X3_push 190),
  (190, t_goto 220),
  (193, t_ald 0 194),
  (194, t_ald 0 195),
  (195, t_getr 3 25 6 198),
  (198, t_ild 1 199),
  (199, t_iald 200),
  (200, t_ild 2 201),
  (201, t_ild 3 202),
  (202, t_call 4 0 0 bc bs sp_X3_push 205),
  (205, t_goto 220),
  (208, t_ald 0 209),
  (209, t_ald 0 210),
  (210, t_getr 3 25 2 213),
  (213, t_ild 1 214),
  (214, t_iald 215),
  (215, t_ild 2 216),
  (216, t_ild 3 217),
  (217, t_call 4 0 0 bc bs sp_X3_push 220),
  (220, t_vret K bc bs)]
set_option maxRecDepth 100000 in
theorem S_X3_begins {X : a_X} {K : aK} {l : Launch} {D : va_G} {G : aG} {N0 : Nat} (C : a_C X cX3_begins none RX3) (Y : a_Y X l (a_rm 3 0 0) D G N0) (M : a_mq X K (a_rm 3 0 0).cells (a_rm 3 0 0).slots) : ∀ x ∈ P_X3_begins K 0 0, a_Sd X x.1 x.2 := by
  unfold P_X3_begins
  refine List.forall_mem_cons.mpr ⟨s_aldn C dX3_begins_0 rfl, ?_⟩
  refine List.forall_mem_cons.mpr ⟨s_getr C rfl in_X3 (by decide) lk_X3_7 rfl dX3_begins_1, ?_⟩
  refine List.forall_mem_cons.mpr ⟨s_ildn C dX3_begins_4 rfl, ?_⟩
  refine List.forall_mem_cons.mpr ⟨s_iald C dX3_begins_5, ?_⟩
  refine List.forall_mem_cons.mpr ⟨s_tsw C dX3_begins_6 (a_tok_of2 10 (by decide) (by decide) (by decide) (by decide)), ?_⟩
  refine List.forall_mem_cons.mpr ⟨s_aldn C dX3_begins_64 rfl, ?_⟩
  refine List.forall_mem_cons.mpr ⟨s_aldn C dX3_begins_65 rfl, ?_⟩
  refine List.forall_mem_cons.mpr ⟨s_getr C rfl in_X3 (by decide) lk_X3_13 rfl dX3_begins_66, ?_⟩
  refine List.forall_mem_cons.mpr ⟨s_ildn C dX3_begins_69 rfl, ?_⟩
  refine List.forall_mem_cons.mpr ⟨s_iald C dX3_begins_70, ?_⟩
  refine List.forall_mem_cons.mpr ⟨s_ildn C dX3_begins_71 rfl, ?_⟩
  refine List.forall_mem_cons.mpr ⟨s_aldn C dX3_begins_72 rfl, ?_⟩
  refine List.forall_mem_cons.mpr ⟨s_getr C rfl in_X3 (by decide) lk_X3_16 rfl dX3_begins_73, ?_⟩
  refine List.forall_mem_cons.mpr ⟨s_ildn C dX3_begins_76 rfl, ?_⟩
  refine List.forall_mem_cons.mpr ⟨s_iald C dX3_begins_77, ?_⟩
  refine List.forall_mem_cons.mpr ⟨s_sub C dX3_begins_78, ?_⟩
  refine List.forall_mem_cons.mpr ⟨s_ildn C dX3_begins_79 rfl, ?_⟩
  refine List.forall_mem_cons.mpr ⟨s_aldn C dX3_begins_80 rfl, ?_⟩
  refine List.forall_mem_cons.mpr ⟨s_getr C rfl in_X3 (by decide) lk_X3_19 rfl dX3_begins_81, ?_⟩
  refine List.forall_mem_cons.mpr ⟨s_ildn C dX3_begins_84 rfl, ?_⟩
  refine List.forall_mem_cons.mpr ⟨s_iald C dX3_begins_85, ?_⟩
  refine List.forall_mem_cons.mpr ⟨s_sub C dX3_begins_86, ?_⟩
  refine List.forall_mem_cons.mpr ⟨s_callV (rm := (a_rm 1 0 0)) (n := 3) C Y (ci := 3) rfl con_X3_push rc_X3_push co_X3_push ml_X3_101 im_X3_push se_X3_push ii_X3 (by decide +kernel) ⟨by decide, by decide⟩ ⟨rfl, rfl⟩ dX3_begins_87, ?_⟩
  refine List.forall_mem_cons.mpr ⟨s_goto C dX3_begins_90 (by decide), ?_⟩
  refine List.forall_mem_cons.mpr ⟨s_aldn C dX3_begins_93 rfl, ?_⟩
  refine List.forall_mem_cons.mpr ⟨s_ildn C dX3_begins_94 rfl, ?_⟩
  refine List.forall_mem_cons.mpr ⟨s_ildn C dX3_begins_95 rfl, ?_⟩
  refine List.forall_mem_cons.mpr ⟨s_ildn C dX3_begins_96 rfl, ?_⟩
  refine List.forall_mem_cons.mpr ⟨s_callV (rm := (a_rm 2 0 0)) (n := 3) C Y (ci := 3) rfl con_X3_turned rc_X3_turned co_X3_turned ml_X3_104 im_X3_turned se_X3_turned ii_X3 (by decide +kernel) ⟨by decide, by decide⟩ ⟨rfl, rfl⟩ dX3_begins_97, ?_⟩
  refine List.forall_mem_cons.mpr ⟨s_goto C dX3_begins_100 (by decide), ?_⟩
  refine List.forall_mem_cons.mpr ⟨s_aldn C dX3_begins_103 rfl, ?_⟩
  refine List.forall_mem_cons.mpr ⟨s_aldn C dX3_begins_104 rfl, ?_⟩
  refine List.forall_mem_cons.mpr ⟨s_getr C rfl in_X3 (by decide) lk_X3_34 rfl dX3_begins_105, ?_⟩
  refine List.forall_mem_cons.mpr ⟨s_aldn C dX3_begins_108 rfl, ?_⟩
  refine List.forall_mem_cons.mpr ⟨s_getr C rfl in_X3 (by decide) lk_X3_13 rfl dX3_begins_109, ?_⟩
  refine List.forall_mem_cons.mpr ⟨s_ildn C dX3_begins_112 rfl, ?_⟩
  refine List.forall_mem_cons.mpr ⟨s_iald C dX3_begins_113, ?_⟩
  refine List.forall_mem_cons.mpr ⟨s_iald C dX3_begins_114, ?_⟩
  refine List.forall_mem_cons.mpr ⟨s_ildn C dX3_begins_115 rfl, ?_⟩
  refine List.forall_mem_cons.mpr ⟨s_ildn C dX3_begins_116 rfl, ?_⟩
  refine List.forall_mem_cons.mpr ⟨s_callV (rm := (a_rm 1 0 0)) (n := 3) C Y (ci := 3) rfl con_X3_push rc_X3_push co_X3_push ml_X3_101 im_X3_push se_X3_push ii_X3 (by decide +kernel) ⟨by decide, by decide⟩ ⟨rfl, rfl⟩ dX3_begins_117, ?_⟩
  refine List.forall_mem_cons.mpr ⟨s_goto C dX3_begins_120 (by decide), ?_⟩
  refine List.forall_mem_cons.mpr ⟨s_aldn C dX3_begins_123 rfl, ?_⟩
  refine List.forall_mem_cons.mpr ⟨s_getr C rfl in_X3 (by decide) lk_X3_28 rfl dX3_begins_124, ?_⟩
  refine List.forall_mem_cons.mpr ⟨s_ildn C dX3_begins_127 rfl, ?_⟩
  refine List.forall_mem_cons.mpr ⟨s_dup2 C dX3_begins_128, ?_⟩
  refine List.forall_mem_cons.mpr ⟨s_iald C dX3_begins_129, ?_⟩
  refine List.forall_mem_cons.mpr ⟨s_ic C dX3_begins_130 (by decide), ?_⟩
  refine List.forall_mem_cons.mpr ⟨s_add C dX3_begins_131, ?_⟩
  refine List.forall_mem_cons.mpr ⟨s_iast C dX3_begins_132, ?_⟩
  refine List.forall_mem_cons.mpr ⟨s_aldn C dX3_begins_133 rfl, ?_⟩
  refine List.forall_mem_cons.mpr ⟨s_getr C rfl in_X3 (by decide) lk_X3_28 rfl dX3_begins_134, ?_⟩
  refine List.forall_mem_cons.mpr ⟨s_ildn C dX3_begins_137 rfl, ?_⟩
  refine List.forall_mem_cons.mpr ⟨s_iald C dX3_begins_138, ?_⟩
  refine List.forall_mem_cons.mpr ⟨s_aldn C dX3_begins_139 rfl, ?_⟩
  refine List.forall_mem_cons.mpr ⟨s_getr C rfl in_X3 (by decide) lk_X3_16 rfl dX3_begins_140, ?_⟩
  refine List.forall_mem_cons.mpr ⟨s_ildn C dX3_begins_143 rfl, ?_⟩
  refine List.forall_mem_cons.mpr ⟨s_iald C dX3_begins_144, ?_⟩
  refine List.forall_mem_cons.mpr ⟨s_icmp_ne C dX3_begins_145 (by decide), ?_⟩
  refine List.forall_mem_cons.mpr ⟨s_aldn C dX3_begins_148 rfl, ?_⟩
  refine List.forall_mem_cons.mpr ⟨s_getr C rfl in_X3 (by decide) lk_X3_28 rfl dX3_begins_149, ?_⟩
  refine List.forall_mem_cons.mpr ⟨s_ildn C dX3_begins_152 rfl, ?_⟩
  refine List.forall_mem_cons.mpr ⟨s_ic C dX3_begins_153 (by decide), ?_⟩
  refine List.forall_mem_cons.mpr ⟨s_iast C dX3_begins_154, ?_⟩
  refine List.forall_mem_cons.mpr ⟨s_aldn C dX3_begins_155 rfl, ?_⟩
  refine List.forall_mem_cons.mpr ⟨s_dup C dX3_begins_156, ?_⟩
  refine List.forall_mem_cons.mpr ⟨s_geti C rfl in_X3 (by decide) lk_X3_107 rfl dX3_begins_157, ?_⟩
  refine List.forall_mem_cons.mpr ⟨s_ic C dX3_begins_160 (by decide), ?_⟩
  refine List.forall_mem_cons.mpr ⟨s_add C dX3_begins_161, ?_⟩
  refine List.forall_mem_cons.mpr ⟨s_puti C tyX3 tyX3_ok nmX3 rfl in_X3 (by decide) lk_X3_107 rfl (Or.inl rfl) rfl dX3_begins_162, ?_⟩
  refine List.forall_mem_cons.mpr ⟨s_aldn C dX3_begins_165 rfl, ?_⟩
  refine List.forall_mem_cons.mpr ⟨s_aldn C dX3_begins_166 rfl, ?_⟩
  refine List.forall_mem_cons.mpr ⟨s_getr C rfl in_X3 (by decide) lk_X3_19 rfl dX3_begins_167, ?_⟩
  refine List.forall_mem_cons.mpr ⟨s_ildn C dX3_begins_170 rfl, ?_⟩
  refine List.forall_mem_cons.mpr ⟨s_iald C dX3_begins_171, ?_⟩
  refine List.forall_mem_cons.mpr ⟨s_callV (rm := (a_rm 1 0 0)) (n := 1) C Y (ci := 3) rfl con_X3_tells rc_X3_tells co_X3_tells ml_X3_86 im_X3_tells se_X3_tells ii_X3 (by decide +kernel) ⟨by decide, by decide⟩ ⟨rfl, rfl⟩ dX3_begins_172, ?_⟩
  refine List.forall_mem_cons.mpr ⟨s_goto C dX3_begins_175 (by decide), ?_⟩
  refine List.forall_mem_cons.mpr ⟨s_aldn C dX3_begins_178 rfl, ?_⟩
  refine List.forall_mem_cons.mpr ⟨s_aldn C dX3_begins_179 rfl, ?_⟩
  refine List.forall_mem_cons.mpr ⟨s_getr C rfl in_X3 (by decide) lk_X3_13 rfl dX3_begins_180, ?_⟩
  refine List.forall_mem_cons.mpr ⟨s_ildn C dX3_begins_183 rfl, ?_⟩
  refine List.forall_mem_cons.mpr ⟨s_iald C dX3_begins_184, ?_⟩
  refine List.forall_mem_cons.mpr ⟨s_ildn C dX3_begins_185 rfl, ?_⟩
  refine List.forall_mem_cons.mpr ⟨s_ildn C dX3_begins_186 rfl, ?_⟩
  refine List.forall_mem_cons.mpr ⟨s_callV (rm := (a_rm 1 0 0)) (n := 3) C Y (ci := 3) rfl con_X3_push rc_X3_push co_X3_push ml_X3_101 im_X3_push se_X3_push ii_X3 (by decide +kernel) ⟨by decide, by decide⟩ ⟨rfl, rfl⟩ dX3_begins_187, ?_⟩
  refine List.forall_mem_cons.mpr ⟨s_goto C dX3_begins_190 (by decide), ?_⟩
  refine List.forall_mem_cons.mpr ⟨s_aldn C dX3_begins_193 rfl, ?_⟩
  refine List.forall_mem_cons.mpr ⟨s_aldn C dX3_begins_194 rfl, ?_⟩
  refine List.forall_mem_cons.mpr ⟨s_getr C rfl in_X3 (by decide) lk_X3_25 rfl dX3_begins_195, ?_⟩
  refine List.forall_mem_cons.mpr ⟨s_ildn C dX3_begins_198 rfl, ?_⟩
  refine List.forall_mem_cons.mpr ⟨s_iald C dX3_begins_199, ?_⟩
  refine List.forall_mem_cons.mpr ⟨s_ildn C dX3_begins_200 rfl, ?_⟩
  refine List.forall_mem_cons.mpr ⟨s_ildn C dX3_begins_201 rfl, ?_⟩
  refine List.forall_mem_cons.mpr ⟨s_callV (rm := (a_rm 1 0 0)) (n := 3) C Y (ci := 3) rfl con_X3_push rc_X3_push co_X3_push ml_X3_101 im_X3_push se_X3_push ii_X3 (by decide +kernel) ⟨by decide, by decide⟩ ⟨rfl, rfl⟩ dX3_begins_202, ?_⟩
  refine List.forall_mem_cons.mpr ⟨s_goto C dX3_begins_205 (by decide), ?_⟩
  refine List.forall_mem_cons.mpr ⟨s_aldn C dX3_begins_208 rfl, ?_⟩
  refine List.forall_mem_cons.mpr ⟨s_aldn C dX3_begins_209 rfl, ?_⟩
  refine List.forall_mem_cons.mpr ⟨s_getr C rfl in_X3 (by decide) lk_X3_13 rfl dX3_begins_210, ?_⟩
  refine List.forall_mem_cons.mpr ⟨s_ildn C dX3_begins_213 rfl, ?_⟩
  refine List.forall_mem_cons.mpr ⟨s_iald C dX3_begins_214, ?_⟩
  refine List.forall_mem_cons.mpr ⟨s_ildn C dX3_begins_215 rfl, ?_⟩
  refine List.forall_mem_cons.mpr ⟨s_ildn C dX3_begins_216 rfl, ?_⟩
  refine List.forall_mem_cons.mpr ⟨s_callV (rm := (a_rm 1 0 0)) (n := 3) C Y (ci := 3) rfl con_X3_push rc_X3_push co_X3_push ml_X3_101 im_X3_push se_X3_push ii_X3 (by decide +kernel) ⟨by decide, by decide⟩ ⟨rfl, rfl⟩ dX3_begins_217, ?_⟩
  refine List.forall_mem_cons.mpr ⟨s_vret C M dX3_begins_220, ?_⟩
  exact fun _ h => absurd h List.not_mem_nil
set_option maxRecDepth 20000 in
theorem con_X3_begins {l : Launch} {D : va_G} {G : aG} {N0 : Nat} : a_Con l D G N0 yX3_begins cX3_begins 4 none (a_rm 3 0 0) sp_X3_begins := by
  refine a_con (by decide) (fun as σ K h => by obtain ⟨I, F, B, c, x, y, rfl, rfl, -⟩ := h; exact Nat.le_refl _) ?_
  intro X as σ K h C Y M _
  obtain ⟨I, F, B, p, x, y, rfl, rfl, hp, ht, hn, hK⟩ := h
  refine a_wps (S_X3_begins C Y M) (inv := a_ni) a_nih 120 _ _ _ _ _ _ ?_
  have ne : ∀ {a b : Int32}, I 17 p.toNatClampNeg = a → ¬ a = b → ¬ I 17 p.toNatClampNeg = b := fun h w e => w (h.symm.trans e)
  refine ⟨hp, fun h3 => ?_, fun h3 => ⟨fun h4 => ?_, fun h4 => ⟨fun h5 => ?_, fun h5 => ⟨fun h6 => ?_, fun h6 => ⟨fun h7 => ?_, fun h7 => ⟨fun h8 => ?_, fun h8 => ⟨fun h9 => ?_, fun h9 => ⟨fun h10 => ?_, fun h10 => ⟨fun h11 => ?_, fun h11 => ⟨fun h12 => ?_, fun h12 => ⟨fun h13 => ?_, fun h13 => ?_⟩⟩⟩⟩⟩⟩⟩⟩⟩⟩⟩
  · rw [show m_begins I p x y = _ from if_pos h3] at hK
    exact ⟨hp, hp, hp, I, F, B, _, _, _, rfl, rfl, fun _ _ => ht, hK⟩
  · rw [show m_begins I p x y = _ by unfold m_begins; rw [if_neg h3, if_pos h4]] at hK
    exact ⟨I, F, B, _, _, _, rfl, rfl, hp, fun _ _ => ht, hK⟩
  · rw [m_begins_d h3 h4 (ne h5 (by decide)) (ne h5 (by decide)) (ne h5 (by decide))] at hK
    exact ⟨hp, I, F, B, _, _, _, rfl, rfl, fun _ _ => ht, hK⟩
  · rw [m_begins_d h3 h4 (ne h6 (by decide)) (ne h6 (by decide)) (ne h6 (by decide))] at hK
    exact ⟨hp, I, F, B, _, _, _, rfl, rfl, fun _ _ => ht, hK⟩
  · rw [m_begins_d h3 h4 (ne h7 (by decide)) (ne h7 (by decide)) (ne h7 (by decide))] at hK
    exact ⟨hp, I, F, B, _, _, _, rfl, rfl, fun _ _ => ht, hK⟩
  · rw [m_begins_d h3 h4 (ne h8 (by decide)) (ne h8 (by decide)) (ne h8 (by decide))] at hK
    exact ⟨hp, I, F, B, _, _, _, rfl, rfl, fun _ _ => ht, hK⟩
  · rw [show m_begins I p x y = _ by unfold m_begins; rw [if_neg h3, if_neg h4, if_pos h9]] at hK
    exact ⟨hp, hn h9, I, F, B, _, _, _, rfl, rfl, fun _ _ => ht, hK⟩
  · refine ⟨hp, hp, hp, hp, fun h => ?_, fun h => ?_⟩
    · have h : a_w I 23 p.toNatClampNeg (I 23 p.toNatClampNeg + 1) 23 p.toNatClampNeg = I 19 p.toNatClampNeg := h
      rw [a_ww] at h
      rw [show m_begins I p x y = _ by unfold m_begins; rw [if_neg h3, if_neg h4, if_neg h9, if_pos h10, if_pos h]] at hK
      exact ⟨hp, hp, _, F, B, _, rfl, rfl, hK⟩
    · have h : ¬ a_w I 23 p.toNatClampNeg (I 23 p.toNatClampNeg + 1) 23 p.toNatClampNeg = I 19 p.toNatClampNeg := h
      rw [a_ww] at h
      rw [show m_begins I p x y = _ by unfold m_begins; rw [if_neg h3, if_neg h4, if_neg h9, if_pos h10, if_neg h]] at hK
      exact ⟨hp, _, F, B, _, _, _, rfl, rfl, fun _ _ => ht, hK⟩
  · rw [m_begins_d h3 h4 h9 h10 (ne h11 (by decide))] at hK
    exact ⟨hp, I, F, B, _, _, _, rfl, rfl, fun _ _ => ht, hK⟩
  · rw [m_begins_d h3 h4 h9 h10 (ne h12 (by decide))] at hK
    exact ⟨hp, I, F, B, _, _, _, rfl, rfl, fun _ _ => ht, hK⟩
  · rw [show m_begins I p x y = _ by unfold m_begins; rw [if_neg h3, if_neg h4, if_neg h9, if_neg h10, if_pos h13]] at hK
    exact ⟨hp, I, F, B, _, _, _, rfl, rfl, fun _ _ => ht, hK⟩
  · rw [m_begins_d h3 h4 h9 h10 h13] at hK
    exact ⟨hp, I, F, B, _, _, _, rfl, rfl, fun _ _ => ht, hK⟩
def m_goesOn (I : Nat → Nat → Int32) (f p : Int32) : Nat → Nat → Int32 :=
  if I 17 p.toNatClampNeg = 5 ∧ I 33 f.toNatClampNeg - 2 = 0 ∧ I 16 21 = 0 then m_push I (I 19 p.toNatClampNeg) (I 31 f.toNatClampNeg) (I 32 f.toNatClampNeg)
  else if I 17 p.toNatClampNeg = 6 ∧ I 33 f.toNatClampNeg - 2 = 0 then m_push I (if I 16 21 ≤ 0 then I 20 p.toNatClampNeg else I 19 p.toNatClampNeg) (I 31 f.toNatClampNeg) (I 32 f.toNatClampNeg)
  else if I 17 p.toNatClampNeg = 7 then m_tellsOf I (I 16 21) (m_dyeAt I (I 19 p.toNatClampNeg) (I 16 21)) 0
  else if I 17 p.toNatClampNeg = 8 then m_tellsOf I (I 16 21) (if m_in (I 16 21) 0 7 = 0 then 0 else I 21 (8 * p + I 16 21).toNatClampNeg) 0
  else if I 17 p.toNatClampNeg = 9 then m_tells I (I 16 21 + I 19 p.toNatClampNeg)
  else if I 17 p.toNatClampNeg = 11 ∧ I 33 f.toNatClampNeg - 2 = 0 then m_push (a_w I 34 f.toNatClampNeg (I 16 21)) (I 19 p.toNatClampNeg) (I 31 f.toNatClampNeg) (I 32 f.toNatClampNeg)
  else if I 17 p.toNatClampNeg = 11 then m_tells I (I 34 f.toNatClampNeg + I 20 p.toNatClampNeg * I 16 21)
  else m_tells I (I 16 21)
def sp_X3_goesOn : aP := fun as σ K => ∃ I F B f p, σ = a_mk I F B ∧ as = [.inr (some 16), .inl f, .inl p] ∧ vp_in f 104 ∧ vp_in p 60 ∧ vp_in (I 16 13) 104 ∧ (I 17 p.toNatClampNeg = 7 → ¬ m_in (I 16 21) 0 7 = 0 → vp_in (8 * I 19 p.toNatClampNeg + I 16 21) 32) ∧ (I 17 p.toNatClampNeg = 8 → ¬ m_in (I 16 21) 0 7 = 0 → vp_in (8 * p + I 16 21) 480) ∧ K none (a_mk (m_goesOn I f p) F B)
theorem rc_X3_goesOn : ∀ as σ K, sp_X3_goesOn as σ K → ∃ h As, as = .inr (some h) :: As ∧ a_is σ h 3 25 = true := by
  rintro as σ K ⟨I, F, B, c, x, rfl, rfl, -⟩
  exact ⟨16, _, rfl, rfl⟩
def P_X3_goesOn (K : aK) (bc bs : Nat) : List (Nat × aT) := [(0, t_ald 0 1),
  (1, t_getr 3 25 1 4),
  (4, t_ild 2 5),
  (5, t_iald 6),
  (6, t_ist 3 7),
  (7, t_ald 0 8),
  (8, t_getr 3 25 17 11),
  (11, t_ild 1 12),
  (12, t_iald 13),
  (13, t_ic 2 14),
  (14, t_sub 15),
  (15, t_ist 4 17),
  (17, t_ald 0 18),
  (18, t_geti 3 25 21 21),
  (21, t_ist 5 23),
  (23, t_ild 3 24),
  (24, t_ic 5 25),
  (25, t_ifc (fun x y => x = y) 28 63),
  (28, t_ild 4 30),
  (30, t_if (fun x => x = 0) 33 63),
  (33, t_ild 5 35),
  (35, t_if (fun x => x = 0) 38 63),
  (38, t_ald 0 39),
  (39, t_ald 0 40),
  (40, t_getr 3 25 3 43),
  (43, t_ild 2 44),
  (44, t_iald 45),
  (45, t_ald 0 46),
  (46, t_getr 3 25 15 49),
  (49, t_ild 1 50),
  (50, t_iald 51),
  (51, t_ald 0 52),
  (52, t_getr 3 25 16 55),
  (55, t_ild 1 56),
  (56, t_iald 57),
  (57, t_call 4 0 0 bc bs sp_X3_push 60),
  (60, t_goto 285),
  (63, t_ild 3 64),
  (64, t_ic 6 66),
  (66, t_ifc (fun x y => x = y) 69 113),
  (69, t_ild 4 71),
  (71, t_if (fun x => x = 0) 74 113),
  (74, t_ald 0 75),
  (75, t_ild 5 77),
  (77, t_if (fun x => x ≤ 0) 89 80),
  (80, t_ald 0 81),
  (81, t_getr 3 25 3 84),
  (84, t_ild 2 85),
  (85, t_iald 86),
  (86, t_goto 95),
  (89, t_ald 0 90),
  (90, t_getr 3 25 4 93),
  (93, t_ild 2 94),
  (94, t_iald 95),
  (95, t_ald 0 96),
  (96, t_getr 3 25 15 99),
  (99, t_ild 1 100),
  (100, t_iald 101),
  (101, t_ald 0 102),
  (102, t_getr 3 25 16 105),
  (105, t_ild 1 106),
  (106, t_iald 107),
  (107, t_call 4 0 0 bc bs sp_X3_push 110),
  (110, t_goto 285),
  (113, t_ild 3 114),
  (114, t_ic 7 116),
  (116, t_ifc (fun x y => x = y) 119 141),
  (119, t_ald 0 120),
  (120, t_ild 5 122),
  (122, t_ald 0 123),
  (123, t_ald 0 124),
  (124, t_getr 3 25 3 127),
  (127, t_ild 2 128),
  (128, t_iald 129),
  (129, t_ild 5 131),
  (131, t_call 3 0 0 bc bs sp_X3_dyeAt 134),
  (134, t_ic 0 135),
  (135, t_call 4 0 0 bc bs sp_X3_tellsOf 138),
  (138, t_goto 285),
  (141, t_ild 3 142),
  (142, t_ic 8 144),
  (144, t_ifc (fun x y => x = y) 147 184),
  (147, t_ald 0 148),
  (148, t_ild 5 150),
  (150, t_ild 5 152),
  (152, t_ic 0 153),
  (153, t_ic 7 155),
  (155, t_call 3 0 0 bc bs sp_X3_in 158),
  (158, t_if (fun x => x = 0) 176 161),
  (161, t_ald 0 162),
  (162, t_getr 3 25 5 165),
  (165, t_ic 8 167),
  (167, t_ild 2 168),
  (168, t_mul 169),
  (169, t_ild 5 171),
  (171, t_add 172),
  (172, t_iald 173),
  (173, t_goto 177),
  (176, t_ic 0 177),
  (177, t_ic 0 178),
  (178, t_call 4 0 0 bc bs sp_X3_tellsOf 181),
  (181, t_goto 285),
  (184, t_ild 3 185),
  (185, t_ic 9 187),
  (187, t_ifc (fun x y => x = y) 190 206),
  (190, t_ald 0 191),
  (191, t_ild 5 193),
  (193, t_ald 0 194),
  (194, t_getr 3 25 3 197),
  (197, t_ild 2 198),
  (198, t_iald 199),
  (199, t_add 200),
  (200, t_call 2 0 0 bc bs sp_X3_tells 203),
  (203, t_goto 285),
  (206, t_ild 3 207),
  (207, t_ic 11 209),
  (209, t_ifc (fun x y => x = y) 212 250),
  (212, t_ild 4 214),
  (214, t_if (fun x => x = 0) 217 250),
  (217, t_ald 0 218),
  (218, t_getr 3 25 18 221),
  (221, t_ild 1 222),
  (222, t_ild 5 224),
  (224, t_iast 225),
  (225, t_ald 0 226),
  (226, t_ald 0 227),
  (227, t_getr 3 25 3 230),
  (230, t_ild 2 231),
  (231, t_iald 232),
  (232, t_ald 0 233),
  (233, t_getr 3 25 15 236),
  (236, t_ild 1 237),
  (237, t_iald 238),
  (238, t_ald 0 239),
  (239, t_getr 3 25 16 242),
  (242, t_ild 1 243),
  (243, t_iald 244),
  (244, t_call 4 0 0 bc bs sp_X3_push 247),
  (247, t_goto 285),
  (250, t_ild 3 251),
  (251, t_ic 11 253),
  (253, t_ifc (fun x y => x = y) 256 279),
  (256, t_ald 0 257),
  (257, t_ald 0 258),
  (258, t_getr 3 25 18 261),
  (261, t_ild 1 262),
  (262, t_iald 263),
  (263, t_ald 0 264),
  (264, t_getr 3 25 4 267),
  (267, t_ild 2 268),
  (268, t_iald 269),
  (269, t_ild 5 271),
  (271, t_mul 272),
  (272, t_add 273),
  (273, t_call 2 0 0 bc bs sp_X3_tells 276),
  (276, t_goto 285),
  (279, t_ald 0 280),
  (280, t_ild 5 282),
  (282, t_call 2 0 0 bc bs sp_X3_tells 285),
  (285, t_vret K bc bs)]
set_option maxRecDepth 100000 in
theorem S_X3_goesOn {X : a_X} {K : aK} {l : Launch} {D : va_G} {G : aG} {N0 : Nat} (C : a_C X cX3_goesOn none RX3) (Y : a_Y X l (a_rm 3 0 0) D G N0) (M : a_mq X K (a_rm 3 0 0).cells (a_rm 3 0 0).slots) : ∀ x ∈ P_X3_goesOn K 0 0, a_Sd X x.1 x.2 := by
  unfold P_X3_goesOn
  refine List.forall_mem_cons.mpr ⟨s_aldn C dX3_goesOn_0 rfl, ?_⟩
  refine List.forall_mem_cons.mpr ⟨s_getr C rfl in_X3 (by decide) lk_X3_7 rfl dX3_goesOn_1, ?_⟩
  refine List.forall_mem_cons.mpr ⟨s_ildn C dX3_goesOn_4 rfl, ?_⟩
  refine List.forall_mem_cons.mpr ⟨s_iald C dX3_goesOn_5, ?_⟩
  refine List.forall_mem_cons.mpr ⟨s_istn C dX3_goesOn_6 rfl, ?_⟩
  refine List.forall_mem_cons.mpr ⟨s_aldn C dX3_goesOn_7 rfl, ?_⟩
  refine List.forall_mem_cons.mpr ⟨s_getr C rfl in_X3 (by decide) lk_X3_46 rfl dX3_goesOn_8, ?_⟩
  refine List.forall_mem_cons.mpr ⟨s_ildn C dX3_goesOn_11 rfl, ?_⟩
  refine List.forall_mem_cons.mpr ⟨s_iald C dX3_goesOn_12, ?_⟩
  refine List.forall_mem_cons.mpr ⟨s_ic C dX3_goesOn_13 (by decide), ?_⟩
  refine List.forall_mem_cons.mpr ⟨s_sub C dX3_goesOn_14, ?_⟩
  refine List.forall_mem_cons.mpr ⟨s_ist C dX3_goesOn_15, ?_⟩
  refine List.forall_mem_cons.mpr ⟨s_aldn C dX3_goesOn_17 rfl, ?_⟩
  refine List.forall_mem_cons.mpr ⟨s_geti C rfl in_X3 (by decide) lk_X3_83 rfl dX3_goesOn_18, ?_⟩
  refine List.forall_mem_cons.mpr ⟨s_ist C dX3_goesOn_21, ?_⟩
  refine List.forall_mem_cons.mpr ⟨s_ildn C dX3_goesOn_23 rfl, ?_⟩
  refine List.forall_mem_cons.mpr ⟨s_ic C dX3_goesOn_24 (by decide), ?_⟩
  refine List.forall_mem_cons.mpr ⟨s_icmp_ne C dX3_goesOn_25 (by decide), ?_⟩
  refine List.forall_mem_cons.mpr ⟨s_ild C dX3_goesOn_28, ?_⟩
  refine List.forall_mem_cons.mpr ⟨s_if_ne C dX3_goesOn_30 (by decide), ?_⟩
  refine List.forall_mem_cons.mpr ⟨s_ild C dX3_goesOn_33, ?_⟩
  refine List.forall_mem_cons.mpr ⟨s_if_ne C dX3_goesOn_35 (by decide), ?_⟩
  refine List.forall_mem_cons.mpr ⟨s_aldn C dX3_goesOn_38 rfl, ?_⟩
  refine List.forall_mem_cons.mpr ⟨s_aldn C dX3_goesOn_39 rfl, ?_⟩
  refine List.forall_mem_cons.mpr ⟨s_getr C rfl in_X3 (by decide) lk_X3_16 rfl dX3_goesOn_40, ?_⟩
  refine List.forall_mem_cons.mpr ⟨s_ildn C dX3_goesOn_43 rfl, ?_⟩
  refine List.forall_mem_cons.mpr ⟨s_iald C dX3_goesOn_44, ?_⟩
  refine List.forall_mem_cons.mpr ⟨s_aldn C dX3_goesOn_45 rfl, ?_⟩
  refine List.forall_mem_cons.mpr ⟨s_getr C rfl in_X3 (by decide) lk_X3_40 rfl dX3_goesOn_46, ?_⟩
  refine List.forall_mem_cons.mpr ⟨s_ildn C dX3_goesOn_49 rfl, ?_⟩
  refine List.forall_mem_cons.mpr ⟨s_iald C dX3_goesOn_50, ?_⟩
  refine List.forall_mem_cons.mpr ⟨s_aldn C dX3_goesOn_51 rfl, ?_⟩
  refine List.forall_mem_cons.mpr ⟨s_getr C rfl in_X3 (by decide) lk_X3_43 rfl dX3_goesOn_52, ?_⟩
  refine List.forall_mem_cons.mpr ⟨s_ildn C dX3_goesOn_55 rfl, ?_⟩
  refine List.forall_mem_cons.mpr ⟨s_iald C dX3_goesOn_56, ?_⟩
  refine List.forall_mem_cons.mpr ⟨s_callV (rm := (a_rm 1 0 0)) (n := 3) C Y (ci := 3) rfl con_X3_push rc_X3_push co_X3_push ml_X3_101 im_X3_push se_X3_push ii_X3 (by decide +kernel) ⟨by decide, by decide⟩ ⟨rfl, rfl⟩ dX3_goesOn_57, ?_⟩
  refine List.forall_mem_cons.mpr ⟨s_goto C dX3_goesOn_60 (by decide), ?_⟩
  refine List.forall_mem_cons.mpr ⟨s_ildn C dX3_goesOn_63 rfl, ?_⟩
  refine List.forall_mem_cons.mpr ⟨s_bi C dX3_goesOn_64 (by decide), ?_⟩
  refine List.forall_mem_cons.mpr ⟨s_icmp_ne C dX3_goesOn_66 (by decide), ?_⟩
  refine List.forall_mem_cons.mpr ⟨s_ild C dX3_goesOn_69, ?_⟩
  refine List.forall_mem_cons.mpr ⟨s_if_ne C dX3_goesOn_71 (by decide), ?_⟩
  refine List.forall_mem_cons.mpr ⟨s_aldn C dX3_goesOn_74 rfl, ?_⟩
  refine List.forall_mem_cons.mpr ⟨s_ild C dX3_goesOn_75, ?_⟩
  refine List.forall_mem_cons.mpr ⟨s_if_le C dX3_goesOn_77 (by decide), ?_⟩
  refine List.forall_mem_cons.mpr ⟨s_aldn C dX3_goesOn_80 rfl, ?_⟩
  refine List.forall_mem_cons.mpr ⟨s_getr C rfl in_X3 (by decide) lk_X3_16 rfl dX3_goesOn_81, ?_⟩
  refine List.forall_mem_cons.mpr ⟨s_ildn C dX3_goesOn_84 rfl, ?_⟩
  refine List.forall_mem_cons.mpr ⟨s_iald C dX3_goesOn_85, ?_⟩
  refine List.forall_mem_cons.mpr ⟨s_goto C dX3_goesOn_86 (by decide), ?_⟩
  refine List.forall_mem_cons.mpr ⟨s_aldn C dX3_goesOn_89 rfl, ?_⟩
  refine List.forall_mem_cons.mpr ⟨s_getr C rfl in_X3 (by decide) lk_X3_19 rfl dX3_goesOn_90, ?_⟩
  refine List.forall_mem_cons.mpr ⟨s_ildn C dX3_goesOn_93 rfl, ?_⟩
  refine List.forall_mem_cons.mpr ⟨s_iald C dX3_goesOn_94, ?_⟩
  refine List.forall_mem_cons.mpr ⟨s_aldn C dX3_goesOn_95 rfl, ?_⟩
  refine List.forall_mem_cons.mpr ⟨s_getr C rfl in_X3 (by decide) lk_X3_40 rfl dX3_goesOn_96, ?_⟩
  refine List.forall_mem_cons.mpr ⟨s_ildn C dX3_goesOn_99 rfl, ?_⟩
  refine List.forall_mem_cons.mpr ⟨s_iald C dX3_goesOn_100, ?_⟩
  refine List.forall_mem_cons.mpr ⟨s_aldn C dX3_goesOn_101 rfl, ?_⟩
  refine List.forall_mem_cons.mpr ⟨s_getr C rfl in_X3 (by decide) lk_X3_43 rfl dX3_goesOn_102, ?_⟩
  refine List.forall_mem_cons.mpr ⟨s_ildn C dX3_goesOn_105 rfl, ?_⟩
  refine List.forall_mem_cons.mpr ⟨s_iald C dX3_goesOn_106, ?_⟩
  refine List.forall_mem_cons.mpr ⟨s_callV (rm := (a_rm 1 0 0)) (n := 3) C Y (ci := 3) rfl con_X3_push rc_X3_push co_X3_push ml_X3_101 im_X3_push se_X3_push ii_X3 (by decide +kernel) ⟨by decide, by decide⟩ ⟨rfl, rfl⟩ dX3_goesOn_107, ?_⟩
  refine List.forall_mem_cons.mpr ⟨s_goto C dX3_goesOn_110 (by decide), ?_⟩
  refine List.forall_mem_cons.mpr ⟨s_ildn C dX3_goesOn_113 rfl, ?_⟩
  refine List.forall_mem_cons.mpr ⟨s_bi C dX3_goesOn_114 (by decide), ?_⟩
  refine List.forall_mem_cons.mpr ⟨s_icmp_ne C dX3_goesOn_116 (by decide), ?_⟩
  refine List.forall_mem_cons.mpr ⟨s_aldn C dX3_goesOn_119 rfl, ?_⟩
  refine List.forall_mem_cons.mpr ⟨s_ild C dX3_goesOn_120, ?_⟩
  refine List.forall_mem_cons.mpr ⟨s_aldn C dX3_goesOn_122 rfl, ?_⟩
  refine List.forall_mem_cons.mpr ⟨s_aldn C dX3_goesOn_123 rfl, ?_⟩
  refine List.forall_mem_cons.mpr ⟨s_getr C rfl in_X3 (by decide) lk_X3_16 rfl dX3_goesOn_124, ?_⟩
  refine List.forall_mem_cons.mpr ⟨s_ildn C dX3_goesOn_127 rfl, ?_⟩
  refine List.forall_mem_cons.mpr ⟨s_iald C dX3_goesOn_128, ?_⟩
  refine List.forall_mem_cons.mpr ⟨s_ild C dX3_goesOn_129, ?_⟩
  refine List.forall_mem_cons.mpr ⟨s_callV (rm := (a_rm 2 0 0)) (n := 2) C Y (ci := 3) rfl con_X3_dyeAt rc_X3_dyeAt co_X3_dyeAt ml_X3_90 im_X3_dyeAt se_X3_dyeAt ii_X3 (by decide +kernel) ⟨by decide, by decide⟩ ⟨rfl, rfl⟩ dX3_goesOn_131, ?_⟩
  refine List.forall_mem_cons.mpr ⟨s_ic C dX3_goesOn_134 (by decide), ?_⟩
  refine List.forall_mem_cons.mpr ⟨s_callV (rm := (a_rm 2 0 0)) (n := 3) C Y (ci := 3) rfl con_X3_tellsOf rc_X3_tellsOf co_X3_tellsOf ml_X3_94 im_X3_tellsOf se_X3_tellsOf ii_X3 (by decide +kernel) ⟨by decide, by decide⟩ ⟨rfl, rfl⟩ dX3_goesOn_135, ?_⟩
  refine List.forall_mem_cons.mpr ⟨s_goto C dX3_goesOn_138 (by decide), ?_⟩
  refine List.forall_mem_cons.mpr ⟨s_ildn C dX3_goesOn_141 rfl, ?_⟩
  refine List.forall_mem_cons.mpr ⟨s_bi C dX3_goesOn_142 (by decide), ?_⟩
  refine List.forall_mem_cons.mpr ⟨s_icmp_ne C dX3_goesOn_144 (by decide), ?_⟩
  refine List.forall_mem_cons.mpr ⟨s_aldn C dX3_goesOn_147 rfl, ?_⟩
  refine List.forall_mem_cons.mpr ⟨s_ild C dX3_goesOn_148, ?_⟩
  refine List.forall_mem_cons.mpr ⟨s_ild C dX3_goesOn_150, ?_⟩
  refine List.forall_mem_cons.mpr ⟨s_ic C dX3_goesOn_152 (by decide), ?_⟩
  refine List.forall_mem_cons.mpr ⟨s_bi C dX3_goesOn_153 (by decide), ?_⟩
  refine List.forall_mem_cons.mpr ⟨s_callS (rm := (a_rm 1 0 0)) C Y con_X3_in co_X3_in ml_X3_59 st_X3_in ii_X3 (by decide +kernel) ⟨by decide, by decide⟩ ⟨rfl, rfl⟩ dX3_goesOn_155, ?_⟩
  refine List.forall_mem_cons.mpr ⟨s_if_eq C dX3_goesOn_158 (by decide), ?_⟩
  refine List.forall_mem_cons.mpr ⟨s_aldn C dX3_goesOn_161 rfl, ?_⟩
  refine List.forall_mem_cons.mpr ⟨s_getr C rfl in_X3 (by decide) lk_X3_22 rfl dX3_goesOn_162, ?_⟩
  refine List.forall_mem_cons.mpr ⟨s_bi C dX3_goesOn_165 (by decide), ?_⟩
  refine List.forall_mem_cons.mpr ⟨s_ildn C dX3_goesOn_167 rfl, ?_⟩
  refine List.forall_mem_cons.mpr ⟨s_mul C dX3_goesOn_168, ?_⟩
  refine List.forall_mem_cons.mpr ⟨s_ild C dX3_goesOn_169, ?_⟩
  refine List.forall_mem_cons.mpr ⟨s_add C dX3_goesOn_171, ?_⟩
  refine List.forall_mem_cons.mpr ⟨s_iald C dX3_goesOn_172, ?_⟩
  refine List.forall_mem_cons.mpr ⟨s_goto C dX3_goesOn_173 (by decide), ?_⟩
  refine List.forall_mem_cons.mpr ⟨s_ic C dX3_goesOn_176 (by decide), ?_⟩
  refine List.forall_mem_cons.mpr ⟨s_ic C dX3_goesOn_177 (by decide), ?_⟩
  refine List.forall_mem_cons.mpr ⟨s_callV (rm := (a_rm 2 0 0)) (n := 3) C Y (ci := 3) rfl con_X3_tellsOf rc_X3_tellsOf co_X3_tellsOf ml_X3_94 im_X3_tellsOf se_X3_tellsOf ii_X3 (by decide +kernel) ⟨by decide, by decide⟩ ⟨rfl, rfl⟩ dX3_goesOn_178, ?_⟩
  refine List.forall_mem_cons.mpr ⟨s_goto C dX3_goesOn_181 (by decide), ?_⟩
  refine List.forall_mem_cons.mpr ⟨s_ildn C dX3_goesOn_184 rfl, ?_⟩
  refine List.forall_mem_cons.mpr ⟨s_bi C dX3_goesOn_185 (by decide), ?_⟩
  refine List.forall_mem_cons.mpr ⟨s_icmp_ne C dX3_goesOn_187 (by decide), ?_⟩
  refine List.forall_mem_cons.mpr ⟨s_aldn C dX3_goesOn_190 rfl, ?_⟩
  refine List.forall_mem_cons.mpr ⟨s_ild C dX3_goesOn_191, ?_⟩
  refine List.forall_mem_cons.mpr ⟨s_aldn C dX3_goesOn_193 rfl, ?_⟩
  refine List.forall_mem_cons.mpr ⟨s_getr C rfl in_X3 (by decide) lk_X3_16 rfl dX3_goesOn_194, ?_⟩
  refine List.forall_mem_cons.mpr ⟨s_ildn C dX3_goesOn_197 rfl, ?_⟩
  refine List.forall_mem_cons.mpr ⟨s_iald C dX3_goesOn_198, ?_⟩
  refine List.forall_mem_cons.mpr ⟨s_add C dX3_goesOn_199, ?_⟩
  refine List.forall_mem_cons.mpr ⟨s_callV (rm := (a_rm 1 0 0)) (n := 1) C Y (ci := 3) rfl con_X3_tells rc_X3_tells co_X3_tells ml_X3_86 im_X3_tells se_X3_tells ii_X3 (by decide +kernel) ⟨by decide, by decide⟩ ⟨rfl, rfl⟩ dX3_goesOn_200, ?_⟩
  refine List.forall_mem_cons.mpr ⟨s_goto C dX3_goesOn_203 (by decide), ?_⟩
  refine List.forall_mem_cons.mpr ⟨s_ildn C dX3_goesOn_206 rfl, ?_⟩
  refine List.forall_mem_cons.mpr ⟨s_bi C dX3_goesOn_207 (by decide), ?_⟩
  refine List.forall_mem_cons.mpr ⟨s_icmp_ne C dX3_goesOn_209 (by decide), ?_⟩
  refine List.forall_mem_cons.mpr ⟨s_ild C dX3_goesOn_212, ?_⟩
  refine List.forall_mem_cons.mpr ⟨s_if_ne C dX3_goesOn_214 (by decide), ?_⟩
  refine List.forall_mem_cons.mpr ⟨s_aldn C dX3_goesOn_217 rfl, ?_⟩
  refine List.forall_mem_cons.mpr ⟨s_getr C rfl in_X3 (by decide) lk_X3_49 rfl dX3_goesOn_218, ?_⟩
  refine List.forall_mem_cons.mpr ⟨s_ildn C dX3_goesOn_221 rfl, ?_⟩
  refine List.forall_mem_cons.mpr ⟨s_ild C dX3_goesOn_222, ?_⟩
  refine List.forall_mem_cons.mpr ⟨s_iast C dX3_goesOn_224, ?_⟩
  refine List.forall_mem_cons.mpr ⟨s_aldn C dX3_goesOn_225 rfl, ?_⟩
  refine List.forall_mem_cons.mpr ⟨s_aldn C dX3_goesOn_226 rfl, ?_⟩
  refine List.forall_mem_cons.mpr ⟨s_getr C rfl in_X3 (by decide) lk_X3_16 rfl dX3_goesOn_227, ?_⟩
  refine List.forall_mem_cons.mpr ⟨s_ildn C dX3_goesOn_230 rfl, ?_⟩
  refine List.forall_mem_cons.mpr ⟨s_iald C dX3_goesOn_231, ?_⟩
  refine List.forall_mem_cons.mpr ⟨s_aldn C dX3_goesOn_232 rfl, ?_⟩
  refine List.forall_mem_cons.mpr ⟨s_getr C rfl in_X3 (by decide) lk_X3_40 rfl dX3_goesOn_233, ?_⟩
  refine List.forall_mem_cons.mpr ⟨s_ildn C dX3_goesOn_236 rfl, ?_⟩
  refine List.forall_mem_cons.mpr ⟨s_iald C dX3_goesOn_237, ?_⟩
  refine List.forall_mem_cons.mpr ⟨s_aldn C dX3_goesOn_238 rfl, ?_⟩
  refine List.forall_mem_cons.mpr ⟨s_getr C rfl in_X3 (by decide) lk_X3_43 rfl dX3_goesOn_239, ?_⟩
  refine List.forall_mem_cons.mpr ⟨s_ildn C dX3_goesOn_242 rfl, ?_⟩
  refine List.forall_mem_cons.mpr ⟨s_iald C dX3_goesOn_243, ?_⟩
  refine List.forall_mem_cons.mpr ⟨s_callV (rm := (a_rm 1 0 0)) (n := 3) C Y (ci := 3) rfl con_X3_push rc_X3_push co_X3_push ml_X3_101 im_X3_push se_X3_push ii_X3 (by decide +kernel) ⟨by decide, by decide⟩ ⟨rfl, rfl⟩ dX3_goesOn_244, ?_⟩
  refine List.forall_mem_cons.mpr ⟨s_goto C dX3_goesOn_247 (by decide), ?_⟩
  refine List.forall_mem_cons.mpr ⟨s_ildn C dX3_goesOn_250 rfl, ?_⟩
  refine List.forall_mem_cons.mpr ⟨s_bi C dX3_goesOn_251 (by decide), ?_⟩
  refine List.forall_mem_cons.mpr ⟨s_icmp_ne C dX3_goesOn_253 (by decide), ?_⟩
  refine List.forall_mem_cons.mpr ⟨s_aldn C dX3_goesOn_256 rfl, ?_⟩
  refine List.forall_mem_cons.mpr ⟨s_aldn C dX3_goesOn_257 rfl, ?_⟩
  refine List.forall_mem_cons.mpr ⟨s_getr C rfl in_X3 (by decide) lk_X3_49 rfl dX3_goesOn_258, ?_⟩
  refine List.forall_mem_cons.mpr ⟨s_ildn C dX3_goesOn_261 rfl, ?_⟩
  refine List.forall_mem_cons.mpr ⟨s_iald C dX3_goesOn_262, ?_⟩
  refine List.forall_mem_cons.mpr ⟨s_aldn C dX3_goesOn_263 rfl, ?_⟩
  refine List.forall_mem_cons.mpr ⟨s_getr C rfl in_X3 (by decide) lk_X3_19 rfl dX3_goesOn_264, ?_⟩
  refine List.forall_mem_cons.mpr ⟨s_ildn C dX3_goesOn_267 rfl, ?_⟩
  refine List.forall_mem_cons.mpr ⟨s_iald C dX3_goesOn_268, ?_⟩
  refine List.forall_mem_cons.mpr ⟨s_ild C dX3_goesOn_269, ?_⟩
  refine List.forall_mem_cons.mpr ⟨s_mul C dX3_goesOn_271, ?_⟩
  refine List.forall_mem_cons.mpr ⟨s_add C dX3_goesOn_272, ?_⟩
  refine List.forall_mem_cons.mpr ⟨s_callV (rm := (a_rm 1 0 0)) (n := 1) C Y (ci := 3) rfl con_X3_tells rc_X3_tells co_X3_tells ml_X3_86 im_X3_tells se_X3_tells ii_X3 (by decide +kernel) ⟨by decide, by decide⟩ ⟨rfl, rfl⟩ dX3_goesOn_273, ?_⟩
  refine List.forall_mem_cons.mpr ⟨s_goto C dX3_goesOn_276 (by decide), ?_⟩
  refine List.forall_mem_cons.mpr ⟨s_aldn C dX3_goesOn_279 rfl, ?_⟩
  refine List.forall_mem_cons.mpr ⟨s_ild C dX3_goesOn_280, ?_⟩
  refine List.forall_mem_cons.mpr ⟨s_callV (rm := (a_rm 1 0 0)) (n := 1) C Y (ci := 3) rfl con_X3_tells rc_X3_tells co_X3_tells ml_X3_86 im_X3_tells se_X3_tells ii_X3 (by decide +kernel) ⟨by decide, by decide⟩ ⟨rfl, rfl⟩ dX3_goesOn_282, ?_⟩
  refine List.forall_mem_cons.mpr ⟨s_vret C M dX3_goesOn_285, ?_⟩
  exact fun _ h => absurd h List.not_mem_nil
set_option maxRecDepth 20000 in
theorem con_X3_goesOn {l : Launch} {D : va_G} {G : aG} {N0 : Nat} : a_Con l D G N0 yX3_goesOn cX3_goesOn 6 none (a_rm 3 0 0) sp_X3_goesOn := by
  refine a_con (by decide) (fun as σ K h => by obtain ⟨I, F, B, c, x, rfl, rfl, -⟩ := h; exact (by decide : 3 ≤ 6)) ?_
  intro X as σ K h C Y M _
  obtain ⟨I, F, B, f, p, rfl, rfl, hf, hp, ht, h7v, h8v, hK⟩ := h
  refine a_wps (S_X3_goesOn C Y M) (inv := a_ni) a_nih 160 _ _ _ _ _ _ ?_
  have ne : ∀ {a b : Int32}, I 17 p.toNatClampNeg = a → ¬ a = b → ¬ I 17 p.toNatClampNeg = b := fun h w e => w (h.symm.trans e)
  by_cases h5 : I 17 p.toNatClampNeg = 5
  · by_cases hk : I 33 f.toNatClampNeg - 2 = 0
    · by_cases hv : I 16 21 = 0
      · rw [show m_goesOn I f p = _ from if_pos ⟨h5, hk, hv⟩] at hK
        exact ⟨hp, hf, fun _ => ⟨fun _ => ⟨fun _ => ⟨hp, hf, hf, I, F, B, _, _, _, rfl, rfl, fun _ _ => ht, hK⟩, fun w => absurd hv w⟩, fun w => absurd hk w⟩, fun w => absurd h5 w⟩
      · rw [show m_goesOn I f p = _ by unfold m_goesOn; rw [if_neg (fun w => hv w.2.2), if_neg (fun w => ne h5 (by decide) w.1), if_neg (ne h5 (by decide)), if_neg (ne h5 (by decide)), if_neg (ne h5 (by decide)), if_neg (fun w => ne h5 (by decide) w.1), if_neg (ne h5 (by decide))]] at hK
        exact ⟨hp, hf, fun _ => ⟨fun _ => ⟨fun w => absurd w hv, fun _ => ⟨fun w => absurd w (ne h5 (by decide)), fun _ => ⟨fun w => absurd w (ne h5 (by decide)), fun _ => ⟨fun w => absurd w (ne h5 (by decide)), fun _ => ⟨fun w => absurd w (ne h5 (by decide)), fun _ => ⟨fun w => absurd w (ne h5 (by decide)), fun _ => ⟨fun w => absurd w (ne h5 (by decide)), fun _ => ⟨I, F, B, _, rfl, rfl, hK⟩⟩⟩⟩⟩⟩⟩⟩, fun w => absurd hk w⟩, fun w => absurd h5 w⟩
    · rw [show m_goesOn I f p = _ by unfold m_goesOn; rw [if_neg (fun w => hk w.2.1), if_neg (fun w => ne h5 (by decide) w.1), if_neg (ne h5 (by decide)), if_neg (ne h5 (by decide)), if_neg (ne h5 (by decide)), if_neg (fun w => ne h5 (by decide) w.1), if_neg (ne h5 (by decide))]] at hK
      exact ⟨hp, hf, fun _ => ⟨fun w => absurd w hk, fun _ => ⟨fun w => absurd w (ne h5 (by decide)), fun _ => ⟨fun w => absurd w (ne h5 (by decide)), fun _ => ⟨fun w => absurd w (ne h5 (by decide)), fun _ => ⟨fun w => absurd w (ne h5 (by decide)), fun _ => ⟨fun w => absurd w (ne h5 (by decide)), fun _ => ⟨fun w => absurd w (ne h5 (by decide)), fun _ => ⟨I, F, B, _, rfl, rfl, hK⟩⟩⟩⟩⟩⟩⟩⟩, fun w => absurd h5 w⟩
  · by_cases h6 : I 17 p.toNatClampNeg = 6
    · by_cases hk : I 33 f.toNatClampNeg - 2 = 0
      · rw [show m_goesOn I f p = _ by unfold m_goesOn; rw [if_neg (fun w => h5 w.1), if_pos ⟨h6, hk⟩]] at hK
        refine ⟨hp, hf, fun w => absurd w h5, fun _ => ⟨fun _ => ⟨fun _ => ⟨fun h0 => ⟨hp, hf, hf, I, F, B, _, _, _, rfl, rfl, fun _ _ => ht, ?_⟩, fun h0 => ⟨hp, hf, hf, I, F, B, _, _, _, rfl, rfl, fun _ _ => ht, ?_⟩⟩, fun w => absurd hk w⟩, fun w => absurd h6 w⟩⟩
        · rw [if_pos h0] at hK; exact hK
        · rw [if_neg h0] at hK; exact hK
      · rw [show m_goesOn I f p = _ by unfold m_goesOn; rw [if_neg (fun w => h5 w.1), if_neg (fun w => hk w.2), if_neg (ne h6 (by decide)), if_neg (ne h6 (by decide)), if_neg (ne h6 (by decide)), if_neg (fun w => ne h6 (by decide) w.1), if_neg (ne h6 (by decide))]] at hK
        exact ⟨hp, hf, fun w => absurd w h5, fun _ => ⟨fun _ => ⟨fun w => absurd w hk, fun _ => ⟨fun w => absurd w (ne h6 (by decide)), fun _ => ⟨fun w => absurd w (ne h6 (by decide)), fun _ => ⟨fun w => absurd w (ne h6 (by decide)), fun _ => ⟨fun w => absurd w (ne h6 (by decide)), fun _ => ⟨fun w => absurd w (ne h6 (by decide)), fun _ => ⟨I, F, B, _, rfl, rfl, hK⟩⟩⟩⟩⟩⟩⟩, fun w => absurd h6 w⟩⟩
    · by_cases h7 : I 17 p.toNatClampNeg = 7
      · rw [show m_goesOn I f p = _ by unfold m_goesOn; rw [if_neg (fun w => h5 w.1), if_neg (fun w => h6 w.1), if_pos h7]] at hK
        exact ⟨hp, hf, fun w => absurd w h5, fun _ => ⟨fun w => absurd w h6, fun _ => ⟨fun _ => ⟨hp, I, F, B, _, _, rfl, rfl, h7v h7, I, F, B, _, _, _, rfl, rfl, hK⟩, fun w => absurd h7 w⟩⟩⟩
      · by_cases h8 : I 17 p.toNatClampNeg = 8
        · rw [show m_goesOn I f p = _ by unfold m_goesOn; rw [if_neg (fun w => h5 w.1), if_neg (fun w => h6 w.1), if_neg h7, if_pos h8]] at hK
          refine ⟨hp, hf, fun w => absurd w h5, fun _ => ⟨fun w => absurd w h6, fun _ => ⟨fun w => absurd w h7, fun _ => ⟨fun _ => ⟨_, _, _, rfl, fun h0 => ⟨I, F, B, _, _, _, rfl, rfl, ?_⟩, fun h0 => ⟨h8v h8 h0, I, F, B, _, _, _, rfl, rfl, ?_⟩⟩, fun w => absurd h8 w⟩⟩⟩⟩
          · rw [if_pos h0] at hK; exact hK
          · rw [if_neg h0] at hK; exact hK
        · by_cases h9 : I 17 p.toNatClampNeg = 9
          · rw [show m_goesOn I f p = _ by unfold m_goesOn; rw [if_neg (fun w => h5 w.1), if_neg (fun w => h6 w.1), if_neg h7, if_neg h8, if_pos h9]] at hK
            exact ⟨hp, hf, fun w => absurd w h5, fun _ => ⟨fun w => absurd w h6, fun _ => ⟨fun w => absurd w h7, fun _ => ⟨fun w => absurd w h8, fun _ => ⟨fun _ => ⟨hp, I, F, B, _, rfl, rfl, hK⟩, fun w => absurd h9 w⟩⟩⟩⟩⟩
          · by_cases h11 : I 17 p.toNatClampNeg = 11
            · by_cases hk : I 33 f.toNatClampNeg - 2 = 0
              · rw [show m_goesOn I f p = _ by unfold m_goesOn; rw [if_neg (fun w => h5 w.1), if_neg (fun w => h6 w.1), if_neg h7, if_neg h8, if_neg h9, if_pos ⟨h11, hk⟩]] at hK
                exact ⟨hp, hf, fun w => absurd w h5, fun _ => ⟨fun w => absurd w h6, fun _ => ⟨fun w => absurd w h7, fun _ => ⟨fun w => absurd w h8, fun _ => ⟨fun w => absurd w h9, fun _ => ⟨fun _ => ⟨fun _ => ⟨hf, hp, hf, hf, _, F, B, _, _, _, rfl, rfl, fun _ _ => ht, hK⟩, fun w => absurd hk w⟩, fun w => absurd h11 w⟩⟩⟩⟩⟩⟩
              · rw [show m_goesOn I f p = _ by unfold m_goesOn; rw [if_neg (fun w => h5 w.1), if_neg (fun w => h6 w.1), if_neg h7, if_neg h8, if_neg h9, if_neg (fun w => hk w.2), if_pos h11]] at hK
                exact ⟨hp, hf, fun w => absurd w h5, fun _ => ⟨fun w => absurd w h6, fun _ => ⟨fun w => absurd w h7, fun _ => ⟨fun w => absurd w h8, fun _ => ⟨fun w => absurd w h9, fun _ => ⟨fun _ => ⟨fun w => absurd w hk, fun _ => ⟨fun _ => ⟨hf, hp, I, F, B, _, rfl, rfl, hK⟩, fun w => absurd h11 w⟩⟩, fun w => absurd h11 w⟩⟩⟩⟩⟩⟩
            · rw [show m_goesOn I f p = _ by unfold m_goesOn; rw [if_neg (fun w => h5 w.1), if_neg (fun w => h6 w.1), if_neg h7, if_neg h8, if_neg h9, if_neg (fun w => h11 w.1), if_neg h11]] at hK
              exact ⟨hp, hf, fun w => absurd w h5, fun _ => ⟨fun w => absurd w h6, fun _ => ⟨fun w => absurd w h7, fun _ => ⟨fun w => absurd w h8, fun _ => ⟨fun w => absurd w h9, fun _ => ⟨fun w => absurd w h11, fun _ => ⟨fun w => absurd w h11, fun _ => ⟨I, F, B, _, rfl, rfl, hK⟩⟩⟩⟩⟩⟩⟩⟩
def m_fp (I : Nat → Nat → Int32) : Int32 := I 30 (I 16 13 - 1).toNatClampNeg
def m_falls (I : Nat → Nat → Int32) : Nat → Nat → Int32 :=
  if ¬ m_fp I < 0 ∧ I 17 (m_fp I).toNatClampNeg = 12 ∧ ¬ I 16 20 = 4 ∧ (I 19 (m_fp I).toNatClampNeg = 0 ∨ I 19 (m_fp I).toNatClampNeg = I 16 20) ∧ ¬ 20 ≤ I 16 12 then a_w (a_w (a_w (a_w I 16 13 (I 16 13 - 1)) 16 12 (I 16 12 + 1)) 16 20 0) 16 21 (I 20 (m_fp I).toNatClampNeg)
  else a_w I 16 13 (I 16 13 - 1)
def sp_X3_falls : aP := fun as σ K => ∃ I F B, σ = a_mk I F B ∧ as = [.inr (some 16)] ∧ vp_in (I 16 13 - 1) 104 ∧ (¬ m_fp I < 0 → vp_in (m_fp I) 60) ∧ K none (a_mk (m_falls I) F B)
theorem rc_X3_falls : ∀ as σ K, sp_X3_falls as σ K → ∃ h As, as = .inr (some h) :: As ∧ a_is σ h 3 25 = true := by
  rintro as σ K ⟨I, F, B, rfl, rfl, -⟩
  exact ⟨16, _, rfl, rfl⟩
def P_X3_falls (K : aK) (bc bs : Nat) : List (Nat × aT) := [(0, t_ald 0 1),
  (1, t_dup 2),
  (2, t_geti 3 25 13 5),
  (5, t_ic 1 6),
  (6, t_sub 7),
  (7, t_puti 3 25 13 10),
  (10, t_ald 0 11),
  (11, t_getr 3 25 14 14),
  (14, t_ald 0 15),
  (15, t_geti 3 25 13 18),
  (18, t_iald 19),
  (19, t_ist 1 20),
  (20, t_ild 1 21),
  (21, t_if (fun x => x < 0) 78 24),
  (24, t_ald 0 25),
  (25, t_getr 3 25 1 28),
  (28, t_ild 1 29),
  (29, t_iald 30),
  (30, t_ic 12 32),
  (32, t_ifc (fun x y => x = y) 35 78),
  (35, t_ald 0 36),
  (36, t_geti 3 25 20 39),
  (39, t_ic 4 40),
  (40, t_ifc (fun x y => x = y) 78 43),
  (43, t_ald 0 44),
  (44, t_getr 3 25 3 47),
  (47, t_ild 1 48),
  (48, t_iald 49),
  (49, t_if (fun x => x = 0) 65 52),
  (52, t_ald 0 53),
  (53, t_getr 3 25 3 56),
  (56, t_ild 1 57),
  (57, t_iald 58),
  (58, t_ald 0 59),
  (59, t_geti 3 25 20 62),
  (62, t_ifc (fun x y => x = y) 65 78),
  (65, t_ald 0 66),
  (66, t_geti 3 25 12 69),
  (69, t_ic 20 71),
  (71, t_ifc (fun x y => y ≤ x) 78 74),
  (74, t_ic 1 75),
  (75, t_goto 79),
  (78, t_ic 0 79),
  (79, t_ist 2 80),
  (80, t_ild 2 81),
  (81, t_if (fun x => x = 0) 109 84),
  (84, t_ald 0 85),
  (85, t_dup 86),
  (86, t_geti 3 25 12 89),
  (89, t_ic 1 90),
  (90, t_add 91),
  (91, t_puti 3 25 12 94),
  (94, t_ald 0 95),
  (95, t_ic 0 96),
  (96, t_puti 3 25 20 99),
  (99, t_ald 0 100),
  (100, t_ald 0 101),
  (101, t_getr 3 25 4 104),
  (104, t_ild 1 105),
  (105, t_iald 106),
  (106, t_puti 3 25 21 109),
  (109, t_vret K bc bs)]
set_option maxRecDepth 100000 in
theorem S_X3_falls {X : a_X} {K : aK} {l : Launch} {D : va_G} {G : aG} {N0 : Nat} (C : a_C X cX3_falls none RX3) (Y : a_Y X l (a_rm 1 0 0) D G N0) (M : a_mq X K (a_rm 1 0 0).cells (a_rm 1 0 0).slots) : ∀ x ∈ P_X3_falls K 0 0, a_Sd X x.1 x.2 := by
  unfold P_X3_falls
  refine List.forall_mem_cons.mpr ⟨s_aldn C dX3_falls_0 rfl, ?_⟩
  refine List.forall_mem_cons.mpr ⟨s_dup C dX3_falls_1, ?_⟩
  refine List.forall_mem_cons.mpr ⟨s_geti C rfl in_X3 (by decide) lk_X3_80 rfl dX3_falls_2, ?_⟩
  refine List.forall_mem_cons.mpr ⟨s_ic C dX3_falls_5 (by decide), ?_⟩
  refine List.forall_mem_cons.mpr ⟨s_sub C dX3_falls_6, ?_⟩
  refine List.forall_mem_cons.mpr ⟨s_puti C tyX3 tyX3_ok nmX3 rfl in_X3 (by decide) lk_X3_80 rfl (Or.inl rfl) rfl dX3_falls_7, ?_⟩
  refine List.forall_mem_cons.mpr ⟨s_aldn C dX3_falls_10 rfl, ?_⟩
  refine List.forall_mem_cons.mpr ⟨s_getr C rfl in_X3 (by decide) lk_X3_37 rfl dX3_falls_11, ?_⟩
  refine List.forall_mem_cons.mpr ⟨s_aldn C dX3_falls_14 rfl, ?_⟩
  refine List.forall_mem_cons.mpr ⟨s_geti C rfl in_X3 (by decide) lk_X3_80 rfl dX3_falls_15, ?_⟩
  refine List.forall_mem_cons.mpr ⟨s_iald C dX3_falls_18, ?_⟩
  refine List.forall_mem_cons.mpr ⟨s_istn C dX3_falls_19 rfl, ?_⟩
  refine List.forall_mem_cons.mpr ⟨s_ildn C dX3_falls_20 rfl, ?_⟩
  refine List.forall_mem_cons.mpr ⟨s_if_lt C dX3_falls_21 (by decide), ?_⟩
  refine List.forall_mem_cons.mpr ⟨s_aldn C dX3_falls_24 rfl, ?_⟩
  refine List.forall_mem_cons.mpr ⟨s_getr C rfl in_X3 (by decide) lk_X3_7 rfl dX3_falls_25, ?_⟩
  refine List.forall_mem_cons.mpr ⟨s_ildn C dX3_falls_28 rfl, ?_⟩
  refine List.forall_mem_cons.mpr ⟨s_iald C dX3_falls_29, ?_⟩
  refine List.forall_mem_cons.mpr ⟨s_bi C dX3_falls_30 (by decide), ?_⟩
  refine List.forall_mem_cons.mpr ⟨s_icmp_ne C dX3_falls_32 (by decide), ?_⟩
  refine List.forall_mem_cons.mpr ⟨s_aldn C dX3_falls_35 rfl, ?_⟩
  refine List.forall_mem_cons.mpr ⟨s_geti C rfl in_X3 (by decide) lk_X3_77 rfl dX3_falls_36, ?_⟩
  refine List.forall_mem_cons.mpr ⟨s_ic C dX3_falls_39 (by decide), ?_⟩
  refine List.forall_mem_cons.mpr ⟨s_icmp_eq C dX3_falls_40 (by decide), ?_⟩
  refine List.forall_mem_cons.mpr ⟨s_aldn C dX3_falls_43 rfl, ?_⟩
  refine List.forall_mem_cons.mpr ⟨s_getr C rfl in_X3 (by decide) lk_X3_16 rfl dX3_falls_44, ?_⟩
  refine List.forall_mem_cons.mpr ⟨s_ildn C dX3_falls_47 rfl, ?_⟩
  refine List.forall_mem_cons.mpr ⟨s_iald C dX3_falls_48, ?_⟩
  refine List.forall_mem_cons.mpr ⟨s_if_eq C dX3_falls_49 (by decide), ?_⟩
  refine List.forall_mem_cons.mpr ⟨s_aldn C dX3_falls_52 rfl, ?_⟩
  refine List.forall_mem_cons.mpr ⟨s_getr C rfl in_X3 (by decide) lk_X3_16 rfl dX3_falls_53, ?_⟩
  refine List.forall_mem_cons.mpr ⟨s_ildn C dX3_falls_56 rfl, ?_⟩
  refine List.forall_mem_cons.mpr ⟨s_iald C dX3_falls_57, ?_⟩
  refine List.forall_mem_cons.mpr ⟨s_aldn C dX3_falls_58 rfl, ?_⟩
  refine List.forall_mem_cons.mpr ⟨s_geti C rfl in_X3 (by decide) lk_X3_77 rfl dX3_falls_59, ?_⟩
  refine List.forall_mem_cons.mpr ⟨s_icmp_ne C dX3_falls_62 (by decide), ?_⟩
  refine List.forall_mem_cons.mpr ⟨s_aldn C dX3_falls_65 rfl, ?_⟩
  refine List.forall_mem_cons.mpr ⟨s_geti C rfl in_X3 (by decide) lk_X3_110 rfl dX3_falls_66, ?_⟩
  refine List.forall_mem_cons.mpr ⟨s_bi C dX3_falls_69 (by decide), ?_⟩
  refine List.forall_mem_cons.mpr ⟨s_icmp_ge C dX3_falls_71 (by decide), ?_⟩
  refine List.forall_mem_cons.mpr ⟨s_ic C dX3_falls_74 (by decide), ?_⟩
  refine List.forall_mem_cons.mpr ⟨s_goto C dX3_falls_75 (by decide), ?_⟩
  refine List.forall_mem_cons.mpr ⟨s_ic C dX3_falls_78 (by decide), ?_⟩
  refine List.forall_mem_cons.mpr ⟨s_istn C dX3_falls_79 rfl, ?_⟩
  refine List.forall_mem_cons.mpr ⟨s_ildn C dX3_falls_80 rfl, ?_⟩
  refine List.forall_mem_cons.mpr ⟨s_if_eq C dX3_falls_81 (by decide), ?_⟩
  refine List.forall_mem_cons.mpr ⟨s_aldn C dX3_falls_84 rfl, ?_⟩
  refine List.forall_mem_cons.mpr ⟨s_dup C dX3_falls_85, ?_⟩
  refine List.forall_mem_cons.mpr ⟨s_geti C rfl in_X3 (by decide) lk_X3_110 rfl dX3_falls_86, ?_⟩
  refine List.forall_mem_cons.mpr ⟨s_ic C dX3_falls_89 (by decide), ?_⟩
  refine List.forall_mem_cons.mpr ⟨s_add C dX3_falls_90, ?_⟩
  refine List.forall_mem_cons.mpr ⟨s_puti C tyX3 tyX3_ok nmX3 rfl in_X3 (by decide) lk_X3_110 rfl (Or.inl rfl) rfl dX3_falls_91, ?_⟩
  refine List.forall_mem_cons.mpr ⟨s_aldn C dX3_falls_94 rfl, ?_⟩
  refine List.forall_mem_cons.mpr ⟨s_ic C dX3_falls_95 (by decide), ?_⟩
  refine List.forall_mem_cons.mpr ⟨s_puti C tyX3 tyX3_ok nmX3 rfl in_X3 (by decide) lk_X3_77 rfl (Or.inl rfl) rfl dX3_falls_96, ?_⟩
  refine List.forall_mem_cons.mpr ⟨s_aldn C dX3_falls_99 rfl, ?_⟩
  refine List.forall_mem_cons.mpr ⟨s_aldn C dX3_falls_100 rfl, ?_⟩
  refine List.forall_mem_cons.mpr ⟨s_getr C rfl in_X3 (by decide) lk_X3_19 rfl dX3_falls_101, ?_⟩
  refine List.forall_mem_cons.mpr ⟨s_ildn C dX3_falls_104 rfl, ?_⟩
  refine List.forall_mem_cons.mpr ⟨s_iald C dX3_falls_105, ?_⟩
  refine List.forall_mem_cons.mpr ⟨s_puti C tyX3 tyX3_ok nmX3 rfl in_X3 (by decide) lk_X3_83 rfl (Or.inl rfl) rfl dX3_falls_106, ?_⟩
  refine List.forall_mem_cons.mpr ⟨s_vret C M dX3_falls_109, ?_⟩
  exact fun _ h => absurd h List.not_mem_nil
set_option maxRecDepth 20000 in
theorem con_X3_falls {l : Launch} {D : va_G} {G : aG} {N0 : Nat} : a_Con l D G N0 yX3_falls cX3_falls 3 none (a_rm 1 0 0) sp_X3_falls := by
  refine a_con (by decide) (fun as σ K h => by obtain ⟨I, F, B, rfl, rfl, -⟩ := h; exact (by decide : 1 ≤ 3)) ?_
  intro X as σ K h C Y M _
  obtain ⟨I, F, B, rfl, rfl, ht, hv, hK⟩ := h
  refine a_wps (S_X3_falls C Y M) (inv := a_ni) a_nih 100 _ _ _ _ _ _ ?_
  have n0 : ¬ (0 : Int32) = 0 → False := fun w => w rfl
  have n1 : ¬ (1 : Int32) = 0 := by decide
  by_cases h1 : m_fp I < 0
  · rw [show m_falls I = _ from if_neg (fun w => w.1 h1)] at hK
    exact ⟨ht, fun _ => ⟨fun _ => hK, fun w => (n0 w).elim⟩, fun w => absurd h1 w⟩
  · have hp := hv h1
    by_cases h2 : I 17 (m_fp I).toNatClampNeg = 12
    · by_cases h3 : I 16 20 = 4
      · rw [show m_falls I = _ from if_neg (fun w => w.2.2.1 h3)] at hK
        exact ⟨ht, fun w => absurd w h1, fun _ => ⟨hp, fun _ => ⟨fun _ => ⟨fun _ => hK, fun w => (n0 w).elim⟩, fun w => absurd h3 w⟩, fun w => absurd h2 w⟩⟩
      · by_cases h4 : I 19 (m_fp I).toNatClampNeg = 0
        · by_cases h6 : 20 ≤ I 16 12
          · rw [show m_falls I = _ from if_neg (fun w => w.2.2.2.2 h6)] at hK
            exact ⟨ht, fun w => absurd w h1, fun _ => ⟨hp, fun _ => ⟨fun w => absurd w h3, fun _ => ⟨hp, fun _ => ⟨fun _ => ⟨fun _ => hK, fun w => (n0 w).elim⟩, fun w => absurd h6 w⟩, fun w => absurd h4 w⟩⟩, fun w => absurd h2 w⟩⟩
          · rw [show m_falls I = _ from if_pos ⟨h1, h2, h3, Or.inl h4, h6⟩] at hK
            exact ⟨ht, fun w => absurd w h1, fun _ => ⟨hp, fun _ => ⟨fun w => absurd w h3, fun _ => ⟨hp, fun _ => ⟨fun w => absurd w h6, fun _ => ⟨fun w => absurd w n1, fun _ => ⟨hp, hK⟩⟩⟩, fun w => absurd h4 w⟩⟩, fun w => absurd h2 w⟩⟩
        · by_cases h5 : I 19 (m_fp I).toNatClampNeg = I 16 20
          · by_cases h6 : 20 ≤ I 16 12
            · rw [show m_falls I = _ from if_neg (fun w => w.2.2.2.2 h6)] at hK
              exact ⟨ht, fun w => absurd w h1, fun _ => ⟨hp, fun _ => ⟨fun w => absurd w h3, fun _ => ⟨hp, fun w => absurd w h4, fun _ => ⟨hp, fun _ => ⟨fun _ => ⟨fun _ => hK, fun w => (n0 w).elim⟩, fun w => absurd h6 w⟩, fun w => absurd h5 w⟩⟩⟩, fun w => absurd h2 w⟩⟩
            · rw [show m_falls I = _ from if_pos ⟨h1, h2, h3, Or.inr h5, h6⟩] at hK
              exact ⟨ht, fun w => absurd w h1, fun _ => ⟨hp, fun _ => ⟨fun w => absurd w h3, fun _ => ⟨hp, fun w => absurd w h4, fun _ => ⟨hp, fun _ => ⟨fun w => absurd w h6, fun _ => ⟨fun w => absurd w n1, fun _ => ⟨hp, hK⟩⟩⟩, fun w => absurd h5 w⟩⟩⟩, fun w => absurd h2 w⟩⟩
          · rw [show m_falls I = _ from if_neg (fun w => w.2.2.2.1.elim h4 h5)] at hK
            exact ⟨ht, fun w => absurd w h1, fun _ => ⟨hp, fun _ => ⟨fun w => absurd w h3, fun _ => ⟨hp, fun w => absurd w h4, fun _ => ⟨hp, fun w => absurd w h5, fun _ => ⟨fun _ => hK, fun w => (n0 w).elim⟩⟩⟩⟩, fun w => absurd h2 w⟩⟩
    · rw [show m_falls I = _ from if_neg (fun w => h2 w.2.1)] at hK
      exact ⟨ht, fun w => absurd w h1, fun _ => ⟨hp, fun w => absurd w h2, fun _ => ⟨fun _ => hK, fun w => (n0 w).elim⟩⟩⟩

