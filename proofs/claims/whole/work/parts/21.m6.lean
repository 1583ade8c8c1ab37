/-! ===== the reference's pattern and weave ===== -/
def m_bad (s b : Int32) : Prop := (s = 4 ∧ m_in b 0 3 = 0) ∨ (s = 10 ∧ m_in b 1 50 = 0) ∨ (s = 12 ∧ m_in b 0 3 = 0)
def m_cpy (J : Nat → Nat → Int32) (n d k : Nat) : Nat → Nat → Int32 := fun h j => if h = 21 ∧ 8 * n ≤ j ∧ j < 8 * n + k then J 24 (8 * d + (j - 8 * n)) else J h j
theorem m_cpy_0 (J : Nat → Nat → Int32) (n d : Nat) : m_cpy J n d 0 = J := by
  funext h j
  exact if_neg (fun w => by omega)
theorem m_cpy_s (J : Nat → Nat → Int32) (n d k : Nat) : a_w (m_cpy J n d k) 21 (8 * n + k) (J 24 (8 * d + k)) = m_cpy J n d (k + 1) := by
  funext h j
  unfold a_w m_cpy
  by_cases e : h = 21 ∧ j = 8 * n + k
  · rw [if_pos e, if_pos ⟨e.1, by omega, by omega⟩, e.2, Nat.add_sub_cancel_left]
  · rw [if_neg e]
    by_cases e2 : h = 21 ∧ 8 * n ≤ j ∧ j < 8 * n + k
    · rw [if_pos e2, if_pos ⟨e2.1, e2.2.1, by omega⟩]
    · rw [if_neg e2, if_neg (fun w => e2 ⟨w.1, w.2.1, by
        rcases Nat.lt_or_ge j (8 * n + k) with z | z
        · exact z
        · exact absurd ⟨w.1, by omega⟩ e⟩)]
def m_p6 (I : Nat → Nat → Int32) (n : Nat) (s a b c : Int32) : Nat → Nat → Int32 := a_w (a_w (a_w (a_w (a_w (a_w I 17 n s) 18 n a) 19 n b) 20 n c) 23 n 0) 22 n (if s = 13 then I 25 a.toNatClampNeg else -1)
def m_pt (I : Nat → Nat → Int32) (n : Nat) (s a b c : Int32) : Nat → Nat → Int32 := a_w (if s = 8 then m_cpy (m_p6 I n s a b c) n b.toNatClampNeg 8 else m_p6 I n s a b c) 16 0 (nI (n + 1))
def sp_X3_pattern : aP := fun as σ K => ∃ I F B n s a b c, σ = a_mk I F B ∧ as = [.inr (some 16), .inl s, .inl a, .inl b, .inl c] ∧ I 16 0 = nI n ∧ n ≤ 60 ∧
  (m_in s 0 13 = 0 → K (some (.inl (-2))) σ) ∧ (¬ m_in s 0 13 = 0 → m_there (nI n - 1) s a b c = 0 → K (some (.inl (-3))) σ) ∧
  (¬ m_in s 0 13 = 0 → ¬ m_there (nI n - 1) s a b c = 0 → m_bad s b → K (some (.inl (-2))) σ) ∧
  (¬ m_in s 0 13 = 0 → ¬ m_there (nI n - 1) s a b c = 0 → ¬ m_bad s b → n = 60 → K (some (.inl (-4))) σ) ∧
  (¬ m_in s 0 13 = 0 → ¬ m_there (nI n - 1) s a b c = 0 → ¬ m_bad s b → n < 60 → K (some (.inl (nI n))) (a_mk (m_pt I n s a b c) F B))
theorem rc_X3_pattern : ∀ as σ K, sp_X3_pattern as σ K → ∃ h As, as = .inr (some h) :: As ∧ a_is σ h 3 25 = true := by
  rintro as σ K ⟨I, F, B, n, s, a, b, c, rfl, rfl, -⟩
  exact ⟨16, _, rfl, rfl⟩
def P_X3_pattern (K : aK) (bc bs : Nat) : List (Nat × aT) := [(0, t_ild 1 1),
  (1, t_ic 0 2),
  (2, t_ic 13 4),
  (4, t_call 3 0 0 bc bs sp_X3_in 7),
  (7, t_if (fun x => x = 0) 10 13),
  (10, t_ic (-2) 12),
  (12, t_iret K bc bs),
  (13, t_ald 0 14),
  (14, t_ild 1 15),
  (15, t_ild 2 16),
  (16, t_ild 3 17),
  (17, t_ild 4 19),
  (19, t_call 5 0 0 bc bs sp_X3_areThere 22),
  (22, t_if (fun x => x = 0) 25 28),
  (25, t_ic (-3) 27),
  (27, t_iret K bc bs),
  (28, t_ild 1 29),
  (29, t_ic 4 30),
  (30, t_ifc (fun x y => x = y) 33 42),
  (33, t_ild 3 34),
  (34, t_ic 0 35),
  (35, t_ic 3 36),
  (36, t_call 3 0 0 bc bs sp_X3_in 39),
  (39, t_if (fun x => x = 0) 73 42),
  (42, t_ild 1 43),
  (43, t_ic 10 45),
  (45, t_ifc (fun x y => x = y) 48 58),
  (48, t_ild 3 49),
  (49, t_ic 1 50),
  (50, t_ic 50 52),
  (52, t_call 3 0 0 bc bs sp_X3_in 55),
  (55, t_if (fun x => x = 0) 73 58),
  (58, t_ild 1 59),
  (59, t_ic 12 61),
  (61, t_ifc (fun x y => x = y) 64 76),
  (64, t_ild 3 65),
  (65, t_ic 0 66),
  (66, t_ic 3 67),
  (67, t_call 3 0 0 bc bs sp_X3_in 70),
  (70, t_if (fun x => x = 0) 73 76),
  (73, t_ic (-2) 75),
  (75, t_iret K bc bs),
  (76, t_ald 0 77),
  (77, t_geti 3 25 0 80),
  (80, t_ic 60 82),
  (82, t_ifc (fun x y => x = y) 85 88),
  (85, t_ic (-4) 87),
  (87, t_iret K bc bs),
  (88, t_ald 0 89),
  (89, t_geti 3 25 0 92),
  (92, t_ist 5 94),
  (94, t_ald 0 95),
  (95, t_getr 3 25 1 98),
  (98, t_ild 5 100),
  (100, t_ild 1 101),
  (101, t_iast 102),
  (102, t_ald 0 103),
  (103, t_getr 3 25 2 106),
  (106, t_ild 5 108),
  (108, t_ild 2 109),
  (109, t_iast 110),
  (110, t_ald 0 111),
  (111, t_getr 3 25 3 114),
  (114, t_ild 5 116),
  (116, t_ild 3 117),
  (117, t_iast 118),
  (118, t_ald 0 119),
  (119, t_getr 3 25 4 122),
  (122, t_ild 5 124),
  (124, t_ild 4 126),
  (126, t_iast 127),
  (127, t_ald 0 128),
  (128, t_getr 3 25 7 131),
  (131, t_ild 5 133),
  (133, t_ic 0 134),
  (134, t_iast 135),
  (135, t_ald 0 136),
  (136, t_getr 3 25 6 139),
  (139, t_ild 5 141),
  (141, t_ild 1 142),
  (142, t_ic 13 144),
  (144, t_ifc (fun x y => x = y) 147 156),
  (147, t_ald 0 148),
  (148, t_getr 3 25 9 151),
  (151, t_ild 2 152),
  (152, t_iald 153),
  (153, t_goto 157),
  (156, t_ic (-1) 157),
  (157, t_iast 158),
  (158, t_ic 0 159),
  (159, t_ist 6 161),
  (161, t_ild 6 163),
  (163, t_ic 8 165),
  (165, t_ifc (fun x y => y ≤ x) 205 168),
  (168, t_ild 1 169),
  (169, t_ic 8 171),
  (171, t_ifc (fun x y => x = y) 174 205),
  (174, t_ald 0 175),
  (175, t_getr 3 25 5 178),
  (178, t_ic 8 180),
  (180, t_ild 5 182),
  (182, t_mul 183),
  (183, t_ild 6 185),
  (185, t_add 186),
  (186, t_ald 0 187),
  (187, t_getr 3 25 8 190),
  (190, t_ic 8 192),
  (192, t_ild 3 193),
  (193, t_mul 194),
  (194, t_ild 6 196),
  (196, t_add 197),
  (197, t_iald 198),
  (198, t_iast 199),
  (199, t_iinc 6 1 202),
  (202, t_goto 161),
  (205, t_ald 0 206),
  (206, t_dup 207),
  (207, t_geti 3 25 0 210),
  (210, t_ic 1 211),
  (211, t_add 212),
  (212, t_puti 3 25 0 215),
  (215, t_ild 5 217),
  (217, t_iret K bc bs)]
set_option maxRecDepth 100000 in
theorem S_X3_pattern {X : a_X} {K : aK} {l : Launch} {D : va_G} {G : aG} {N0 : Nat} (C : a_C X cX3_pattern (some .int) RX3) (Y : a_Y X l (a_rm 4 0 0) D G N0) (M : a_mq X K (a_rm 4 0 0).cells (a_rm 4 0 0).slots) : ∀ x ∈ P_X3_pattern K 0 0, a_Sd X x.1 x.2 := by
  unfold P_X3_pattern
  refine List.forall_mem_cons.mpr ⟨s_ildn C dX3_pattern_0 rfl, ?_⟩
  refine List.forall_mem_cons.mpr ⟨s_ic C dX3_pattern_1 (by decide), ?_⟩
  refine List.forall_mem_cons.mpr ⟨s_bi C dX3_pattern_2 (by decide), ?_⟩
  refine List.forall_mem_cons.mpr ⟨s_callS (rm := (a_rm 1 0 0)) C Y con_X3_in co_X3_in ml_X3_59 st_X3_in ii_X3 (by decide +kernel) ⟨by decide, by decide⟩ ⟨rfl, rfl⟩ dX3_pattern_4, ?_⟩
  refine List.forall_mem_cons.mpr ⟨s_if_ne C dX3_pattern_7 (by decide), ?_⟩
  refine List.forall_mem_cons.mpr ⟨s_bi C dX3_pattern_10 (by decide), ?_⟩
  refine List.forall_mem_cons.mpr ⟨s_iret C M dX3_pattern_12, ?_⟩
  refine List.forall_mem_cons.mpr ⟨s_aldn C dX3_pattern_13 rfl, ?_⟩
  refine List.forall_mem_cons.mpr ⟨s_ildn C dX3_pattern_14 rfl, ?_⟩
  refine List.forall_mem_cons.mpr ⟨s_ildn C dX3_pattern_15 rfl, ?_⟩
  refine List.forall_mem_cons.mpr ⟨s_ildn C dX3_pattern_16 rfl, ?_⟩
  refine List.forall_mem_cons.mpr ⟨s_ild C dX3_pattern_17, ?_⟩
  refine List.forall_mem_cons.mpr ⟨s_callV (rm := (a_rm 3 0 0)) (n := 4) C Y (ci := 3) rfl con_X3_areThere rc_X3_areThere co_X3_areThere ml_X3_70 im_X3_areThere se_X3_areThere ii_X3 (by decide +kernel) ⟨by decide, by decide⟩ ⟨rfl, rfl⟩ dX3_pattern_19, ?_⟩
  refine List.forall_mem_cons.mpr ⟨s_if_ne C dX3_pattern_22 (by decide), ?_⟩
  refine List.forall_mem_cons.mpr ⟨s_bi C dX3_pattern_25 (by decide), ?_⟩
  refine List.forall_mem_cons.mpr ⟨s_iret C M dX3_pattern_27, ?_⟩
  refine List.forall_mem_cons.mpr ⟨s_ildn C dX3_pattern_28 rfl, ?_⟩
  refine List.forall_mem_cons.mpr ⟨s_ic C dX3_pattern_29 (by decide), ?_⟩
  refine List.forall_mem_cons.mpr ⟨s_icmp_ne C dX3_pattern_30 (by decide), ?_⟩
  refine List.forall_mem_cons.mpr ⟨s_ildn C dX3_pattern_33 rfl, ?_⟩
  refine List.forall_mem_cons.mpr ⟨s_ic C dX3_pattern_34 (by decide), ?_⟩
  refine List.forall_mem_cons.mpr ⟨s_ic C dX3_pattern_35 (by decide), ?_⟩
  refine List.forall_mem_cons.mpr ⟨s_callS (rm := (a_rm 1 0 0)) C Y con_X3_in co_X3_in ml_X3_59 st_X3_in ii_X3 (by decide +kernel) ⟨by decide, by decide⟩ ⟨rfl, rfl⟩ dX3_pattern_36, ?_⟩
  refine List.forall_mem_cons.mpr ⟨s_if_eq C dX3_pattern_39 (by decide), ?_⟩
  refine List.forall_mem_cons.mpr ⟨s_ildn C dX3_pattern_42 rfl, ?_⟩
  refine List.forall_mem_cons.mpr ⟨s_bi C dX3_pattern_43 (by decide), ?_⟩
  refine List.forall_mem_cons.mpr ⟨s_icmp_ne C dX3_pattern_45 (by decide), ?_⟩
  refine List.forall_mem_cons.mpr ⟨s_ildn C dX3_pattern_48 rfl, ?_⟩
  refine List.forall_mem_cons.mpr ⟨s_ic C dX3_pattern_49 (by decide), ?_⟩
  refine List.forall_mem_cons.mpr ⟨s_bi C dX3_pattern_50 (by decide), ?_⟩
  refine List.forall_mem_cons.mpr ⟨s_callS (rm := (a_rm 1 0 0)) C Y con_X3_in co_X3_in ml_X3_59 st_X3_in ii_X3 (by decide +kernel) ⟨by decide, by decide⟩ ⟨rfl, rfl⟩ dX3_pattern_52, ?_⟩
  refine List.forall_mem_cons.mpr ⟨s_if_eq C dX3_pattern_55 (by decide), ?_⟩
  refine List.forall_mem_cons.mpr ⟨s_ildn C dX3_pattern_58 rfl, ?_⟩
  refine List.forall_mem_cons.mpr ⟨s_bi C dX3_pattern_59 (by decide), ?_⟩
  refine List.forall_mem_cons.mpr ⟨s_icmp_ne C dX3_pattern_61 (by decide), ?_⟩
  refine List.forall_mem_cons.mpr ⟨s_ildn C dX3_pattern_64 rfl, ?_⟩
  refine List.forall_mem_cons.mpr ⟨s_ic C dX3_pattern_65 (by decide), ?_⟩
  refine List.forall_mem_cons.mpr ⟨s_ic C dX3_pattern_66 (by decide), ?_⟩
  refine List.forall_mem_cons.mpr ⟨s_callS (rm := (a_rm 1 0 0)) C Y con_X3_in co_X3_in ml_X3_59 st_X3_in ii_X3 (by decide +kernel) ⟨by decide, by decide⟩ ⟨rfl, rfl⟩ dX3_pattern_67, ?_⟩
  refine List.forall_mem_cons.mpr ⟨s_if_ne C dX3_pattern_70 (by decide), ?_⟩
  refine List.forall_mem_cons.mpr ⟨s_bi C dX3_pattern_73 (by decide), ?_⟩
  refine List.forall_mem_cons.mpr ⟨s_iret C M dX3_pattern_75, ?_⟩
  refine List.forall_mem_cons.mpr ⟨s_aldn C dX3_pattern_76 rfl, ?_⟩
  refine List.forall_mem_cons.mpr ⟨s_geti C rfl in_X3 (by decide) lk_X3_55 rfl dX3_pattern_77, ?_⟩
  refine List.forall_mem_cons.mpr ⟨s_bi C dX3_pattern_80 (by decide), ?_⟩
  refine List.forall_mem_cons.mpr ⟨s_icmp_ne C dX3_pattern_82 (by decide), ?_⟩
  refine List.forall_mem_cons.mpr ⟨s_bi C dX3_pattern_85 (by decide), ?_⟩
  refine List.forall_mem_cons.mpr ⟨s_iret C M dX3_pattern_87, ?_⟩
  refine List.forall_mem_cons.mpr ⟨s_aldn C dX3_pattern_88 rfl, ?_⟩
  refine List.forall_mem_cons.mpr ⟨s_geti C rfl in_X3 (by decide) lk_X3_55 rfl dX3_pattern_89, ?_⟩
  refine List.forall_mem_cons.mpr ⟨s_ist C dX3_pattern_92, ?_⟩
  refine List.forall_mem_cons.mpr ⟨s_aldn C dX3_pattern_94 rfl, ?_⟩
  refine List.forall_mem_cons.mpr ⟨s_getr C rfl in_X3 (by decide) lk_X3_7 rfl dX3_pattern_95, ?_⟩
  refine List.forall_mem_cons.mpr ⟨s_ild C dX3_pattern_98, ?_⟩
  refine List.forall_mem_cons.mpr ⟨s_ildn C dX3_pattern_100 rfl, ?_⟩
  refine List.forall_mem_cons.mpr ⟨s_iast C dX3_pattern_101, ?_⟩
  refine List.forall_mem_cons.mpr ⟨s_aldn C dX3_pattern_102 rfl, ?_⟩
  refine List.forall_mem_cons.mpr ⟨s_getr C rfl in_X3 (by decide) lk_X3_13 rfl dX3_pattern_103, ?_⟩
  refine List.forall_mem_cons.mpr ⟨s_ild C dX3_pattern_106, ?_⟩
  refine List.forall_mem_cons.mpr ⟨s_ildn C dX3_pattern_108 rfl, ?_⟩
  refine List.forall_mem_cons.mpr ⟨s_iast C dX3_pattern_109, ?_⟩
  refine List.forall_mem_cons.mpr ⟨s_aldn C dX3_pattern_110 rfl, ?_⟩
  refine List.forall_mem_cons.mpr ⟨s_getr C rfl in_X3 (by decide) lk_X3_16 rfl dX3_pattern_111, ?_⟩
  refine List.forall_mem_cons.mpr ⟨s_ild C dX3_pattern_114, ?_⟩
  refine List.forall_mem_cons.mpr ⟨s_ildn C dX3_pattern_116 rfl, ?_⟩
  refine List.forall_mem_cons.mpr ⟨s_iast C dX3_pattern_117, ?_⟩
  refine List.forall_mem_cons.mpr ⟨s_aldn C dX3_pattern_118 rfl, ?_⟩
  refine List.forall_mem_cons.mpr ⟨s_getr C rfl in_X3 (by decide) lk_X3_19 rfl dX3_pattern_119, ?_⟩
  refine List.forall_mem_cons.mpr ⟨s_ild C dX3_pattern_122, ?_⟩
  refine List.forall_mem_cons.mpr ⟨s_ild C dX3_pattern_124, ?_⟩
  refine List.forall_mem_cons.mpr ⟨s_iast C dX3_pattern_126, ?_⟩
  refine List.forall_mem_cons.mpr ⟨s_aldn C dX3_pattern_127 rfl, ?_⟩
  refine List.forall_mem_cons.mpr ⟨s_getr C rfl in_X3 (by decide) lk_X3_28 rfl dX3_pattern_128, ?_⟩
  refine List.forall_mem_cons.mpr ⟨s_ild C dX3_pattern_131, ?_⟩
  refine List.forall_mem_cons.mpr ⟨s_ic C dX3_pattern_133 (by decide), ?_⟩
  refine List.forall_mem_cons.mpr ⟨s_iast C dX3_pattern_134, ?_⟩
  refine List.forall_mem_cons.mpr ⟨s_aldn C dX3_pattern_135 rfl, ?_⟩
  refine List.forall_mem_cons.mpr ⟨s_getr C rfl in_X3 (by decide) lk_X3_25 rfl dX3_pattern_136, ?_⟩
  refine List.forall_mem_cons.mpr ⟨s_ild C dX3_pattern_139, ?_⟩
  refine List.forall_mem_cons.mpr ⟨s_ildn C dX3_pattern_141 rfl, ?_⟩
  refine List.forall_mem_cons.mpr ⟨s_bi C dX3_pattern_142 (by decide), ?_⟩
  refine List.forall_mem_cons.mpr ⟨s_icmp_ne C dX3_pattern_144 (by decide), ?_⟩
  refine List.forall_mem_cons.mpr ⟨s_aldn C dX3_pattern_147 rfl, ?_⟩
  refine List.forall_mem_cons.mpr ⟨s_getr C rfl in_X3 (by decide) lk_X3_34 rfl dX3_pattern_148, ?_⟩
  refine List.forall_mem_cons.mpr ⟨s_ildn C dX3_pattern_151 rfl, ?_⟩
  refine List.forall_mem_cons.mpr ⟨s_iald C dX3_pattern_152, ?_⟩
  refine List.forall_mem_cons.mpr ⟨s_goto C dX3_pattern_153 (by decide), ?_⟩
  refine List.forall_mem_cons.mpr ⟨s_ic C dX3_pattern_156 (by decide), ?_⟩
  refine List.forall_mem_cons.mpr ⟨s_iast C dX3_pattern_157, ?_⟩
  refine List.forall_mem_cons.mpr ⟨s_ic C dX3_pattern_158 (by decide), ?_⟩
  refine List.forall_mem_cons.mpr ⟨s_ist C dX3_pattern_159, ?_⟩
  refine List.forall_mem_cons.mpr ⟨s_ild C dX3_pattern_161, ?_⟩
  refine List.forall_mem_cons.mpr ⟨s_bi C dX3_pattern_163 (by decide), ?_⟩
  refine List.forall_mem_cons.mpr ⟨s_icmp_ge C dX3_pattern_165 (by decide), ?_⟩
  refine List.forall_mem_cons.mpr ⟨s_ildn C dX3_pattern_168 rfl, ?_⟩
  refine List.forall_mem_cons.mpr ⟨s_bi C dX3_pattern_169 (by decide), ?_⟩
  refine List.forall_mem_cons.mpr ⟨s_icmp_ne C dX3_pattern_171 (by decide), ?_⟩
  refine List.forall_mem_cons.mpr ⟨s_aldn C dX3_pattern_174 rfl, ?_⟩
  refine List.forall_mem_cons.mpr ⟨s_getr C rfl in_X3 (by decide) lk_X3_22 rfl dX3_pattern_175, ?_⟩
  refine List.forall_mem_cons.mpr ⟨s_bi C dX3_pattern_178 (by decide), ?_⟩
  refine List.forall_mem_cons.mpr ⟨s_ild C dX3_pattern_180, ?_⟩
  refine List.forall_mem_cons.mpr ⟨s_mul C dX3_pattern_182, ?_⟩
  refine List.forall_mem_cons.mpr ⟨s_ild C dX3_pattern_183, ?_⟩
  refine List.forall_mem_cons.mpr ⟨s_add C dX3_pattern_185, ?_⟩
  refine List.forall_mem_cons.mpr ⟨s_aldn C dX3_pattern_186 rfl, ?_⟩
  refine List.forall_mem_cons.mpr ⟨s_getr C rfl in_X3 (by decide) lk_X3_31 rfl dX3_pattern_187, ?_⟩
  refine List.forall_mem_cons.mpr ⟨s_bi C dX3_pattern_190 (by decide), ?_⟩
  refine List.forall_mem_cons.mpr ⟨s_ildn C dX3_pattern_192 rfl, ?_⟩
  refine List.forall_mem_cons.mpr ⟨s_mul C dX3_pattern_193, ?_⟩
  refine List.forall_mem_cons.mpr ⟨s_ild C dX3_pattern_194, ?_⟩
  refine List.forall_mem_cons.mpr ⟨s_add C dX3_pattern_196, ?_⟩
  refine List.forall_mem_cons.mpr ⟨s_iald C dX3_pattern_197, ?_⟩
  refine List.forall_mem_cons.mpr ⟨s_iast C dX3_pattern_198, ?_⟩
  refine List.forall_mem_cons.mpr ⟨s_iinc C dX3_pattern_199 (by decide), ?_⟩
  refine List.forall_mem_cons.mpr ⟨s_goto C dX3_pattern_202 (by decide), ?_⟩
  refine List.forall_mem_cons.mpr ⟨s_aldn C dX3_pattern_205 rfl, ?_⟩
  refine List.forall_mem_cons.mpr ⟨s_dup C dX3_pattern_206, ?_⟩
  refine List.forall_mem_cons.mpr ⟨s_geti C rfl in_X3 (by decide) lk_X3_55 rfl dX3_pattern_207, ?_⟩
  refine List.forall_mem_cons.mpr ⟨s_ic C dX3_pattern_210 (by decide), ?_⟩
  refine List.forall_mem_cons.mpr ⟨s_add C dX3_pattern_211, ?_⟩
  refine List.forall_mem_cons.mpr ⟨s_puti C tyX3 tyX3_ok nmX3 rfl in_X3 (by decide) lk_X3_55 rfl (Or.inl rfl) rfl dX3_pattern_212, ?_⟩
  refine List.forall_mem_cons.mpr ⟨s_ild C dX3_pattern_215, ?_⟩
  refine List.forall_mem_cons.mpr ⟨s_iret C M dX3_pattern_217, ?_⟩
  exact fun _ h => absurd h List.not_mem_nil
theorem m_there_13 {c0 a b c : Int32} (h : ¬ m_there c0 13 a b c = 0) : m_vc 6 a := by
  have e : m_there c0 13 a b c = m_in a 0 5 := by
    unfold m_there
    rw [if_neg (by decide), if_neg (by decide), if_neg (by decide), if_neg (by decide), if_neg (by decide), if_neg (by decide), if_neg (by decide), if_neg (by decide), if_neg (by decide), if_neg (by decide), if_neg (by decide), if_neg (by decide), if_neg (by decide), if_pos rfl]
  rw [e] at h
  obtain ⟨j, hj, rfl⟩ := m_in_n (b := 5) (by decide) h
  exact ⟨j, by omega, rfl⟩
theorem m_there_8 {c0 a b c : Int32} (h : ¬ m_there c0 8 a b c = 0) : m_vc 4 b := by
  have e : m_there c0 8 a b c = (if m_in a 0 c0 = 0 then 0 else if m_in b 0 3 = 0 then 0 else 1) := by
    unfold m_there
    rw [if_neg (by decide), if_neg (by decide), if_neg (by decide), if_neg (by decide), if_neg (by decide), if_neg (by decide), if_neg (by decide), if_neg (by decide), if_pos rfl]
  rw [e] at h
  by_cases h1 : m_in a 0 c0 = 0
  · rw [if_pos h1] at h; exact absurd rfl h
  · rw [if_neg h1] at h
    by_cases h2 : m_in b 0 3 = 0
    · rw [if_pos h2] at h; exact absurd rfl h
    · obtain ⟨j, hj, rfl⟩ := m_in_n (b := 3) (by decide) h2
      exact ⟨j, by omega, rfl⟩
set_option maxRecDepth 20000 in
set_option maxHeartbeats 4000000 in
theorem con_X3_pattern {l : Launch} {D : va_G} {G : aG} {N0 : Nat} : a_Con l D G N0 yX3_pattern cX3_pattern 7 (some .int) (a_rm 4 0 0) sp_X3_pattern := by
  refine a_con (by decide) (fun as σ K h => by obtain ⟨I, F, B, n, s, a, b, c, rfl, rfl, -⟩ := h; exact (by decide : 5 ≤ 7)) ?_
  intro X as σ K h C Y M _
  obtain ⟨I, F, B, n, s, a, b, c, rfl, rfl, hn, hle, hK1, hK2, hK3, hK4, hK5⟩ := h
  have hS := S_X3_pattern C Y M
  by_cases h13 : m_in s 0 13 = 0
  · refine a_wps hS (inv := a_iv X [76, 161]) a_ivh 60 _ _ _ _ _ _ ?_
    exact ⟨s, 0, 13, rfl, fun _ => hK1 h13, fun w => absurd h13 w⟩
  by_cases hth : m_there (nI n - 1) s a b c = 0
  · have hth' : m_there (I 16 0 - 1) s a b c = 0 := by rw [hn]; exact hth
    refine a_wps hS (inv := a_iv X [76, 161]) a_ivh 60 _ _ _ _ _ _ ?_
    exact ⟨s, 0, 13, rfl, fun w => absurd w h13, fun _ => ⟨I, F, B, s, a, b, c, rfl, rfl, fun _ => hK2 h13 hth, fun w => absurd hth' w⟩⟩
  have hth' : ¬ m_there (I 16 0 - 1) s a b c = 0 := by rw [hn]; exact hth
  by_cases hbad : m_bad s b
  · have hK := hK3 h13 hth hbad
    refine a_wps hS (inv := a_iv X [76, 161]) a_ivh 60 _ _ _ _ _ _ ?_
    refine ⟨s, 0, 13, rfl, fun w => absurd w h13, fun _ => ⟨I, F, B, s, a, b, c, rfl, rfl, fun w => absurd w hth', fun _ => ?_⟩⟩
    rcases hbad with ⟨e, hb⟩ | ⟨e, hb⟩ | ⟨e, hb⟩
    · exact ⟨fun _ => ⟨b, 0, 3, rfl, fun _ => hK, fun w => absurd hb w⟩, fun w => absurd e w⟩
    · exact ⟨fun w => absurd (e.symm.trans w) (by decide), fun _ => ⟨fun _ => ⟨b, 1, 50, rfl, fun _ => hK, fun w => absurd hb w⟩, fun w => absurd e w⟩⟩
    · exact ⟨fun w => absurd (e.symm.trans w) (by decide), fun _ => ⟨fun w => absurd (e.symm.trans w) (by decide), fun _ => ⟨fun _ => ⟨b, 0, 3, rfl, fun _ => hK, fun w => absurd hb w⟩, fun w => absurd e w⟩⟩⟩
  -- the tail: from 76 on
  have tail : a_J X 76 [some (.inr (some 16)), some (.inl s), some (.inl a), some (.inl b), some (.inl c), none, none] [] (a_mk I F B) 0 0 := by
    by_cases h60 : n = 60
    · have e60 : I 16 0 = 60 := by rw [hn, h60]; rfl
      exact a_wp1 hS a_ivh (inv := a_iv X [76, 161]) 60 76 _ rfl ⟨fun _ => hK4 h13 hth hbad h60, fun w => absurd e60 w⟩
    have hlt : n < 60 := by omega
    have n60 : ¬ I 16 0 = 60 := by
      rw [hn]
      intro w
      have := (nI_eq (b := 60) (by omega) (by decide)).mp w
      omega
    have hK := hK5 h13 hth hbad hlt
    have hv : vp_in (I 16 0) 60 := by rw [hn]; exact vp_in_nI hlt (by decide)
    have hcl : (I 16 0).toNatClampNeg = n := by rw [hn]; exact nI_clamp (by omega)
    -- the loop
    have e6 : a_w (a_w (a_w (a_w (a_w I 17 n s) 18 n a) 19 n b) 20 n c) 23 n 0 = a_w (a_w (a_w (a_w (a_w I 17 (I 16 0).toNatClampNeg s) 18 (I 16 0).toNatClampNeg a) 19 (I 16 0).toNatClampNeg b) 20 (I 16 0).toNatClampNeg c) 23 (I 16 0).toNatClampNeg 0 := by rw [hcl]
    have loop : a_J X 161 [some (.inr (some 16)), some (.inl s), some (.inl a), some (.inl b), some (.inl c), some (.inl (nI n)), some (.inl 0)] [] (a_mk (m_p6 I n s a b c) F B) 0 0 := by
      have hr : m_p6 I n s a b c 16 0 = nI n := hn
      by_cases h8 : s = 8
      · obtain ⟨d, hd, rfl⟩ := m_there_8 (h8 ▸ hth)
        have go : ∀ m i, i + m = 8 → a_J X 161 [some (.inr (some 16)), some (.inl s), some (.inl a), some (.inl (nI d)), some (.inl c), some (.inl (nI n)), some (.inl (nI i))] [] (a_mk (m_cpy (m_p6 I n s a (nI d) c) n d i) F B) 0 0 := by
          intro m
          induction m with
          | zero =>
            intro i hi
            have hi : i = 8 := by omega
            subst hi
            have e : m_pt I n s a (nI d) c = a_w (m_cpy (m_p6 I n s a (nI d) c) n d 8) 16 0 (nI (n + 1)) := by
              unfold m_pt
              rw [if_pos h8, show (nI d).toNatClampNeg = d from nI_clamp (by omega)]
            rw [e, ← nI_1 n, ← hr] at hK
            exact a_wp1 hS a_ivh (inv := a_iv X [76, 161]) 60 161 _ rfl ⟨fun _ => hr ▸ hK, fun w => absurd (show (8 : Int32) ≤ nI 8 by decide) w⟩
          | succ m ih =>
            intro i hi
            have hn8 : ¬ (8 : Int32) ≤ nI i := by
              intro w
              have := (nI_leI (a := 8) (by decide) (by omega)).mp w
              omega
            have f1 : vp_in (8 * nI d + nI i) 32 := a_8in hd (by omega)
            have f2 : vp_in (8 * nI n + nI i) 480 := by rw [a_8 hlt (by omega)]; exact vp_in_nI (by omega) (by decide)
            have c1 : (8 * nI d + nI i : Int32).toNatClampNeg = 8 * d + i := by rw [a_8 (by omega) (by omega)]; exact nI_clamp (by omega)
            have c2 : (8 * nI n + nI i : Int32).toNatClampNeg = 8 * n + i := by rw [a_8 hlt (by omega)]; exact nI_clamp (by omega)
            have ih := ih (i + 1) (by omega)
            rw [← m_cpy_s, ← nI_1 i, ← c1, ← c2] at ih
            exact a_wp1 hS a_ivh (inv := a_iv X [76, 161]) 60 161 _ rfl ⟨fun w => absurd w hn8, fun _ => ⟨fun _ => ⟨f1, f2, ih⟩, fun w => absurd h8 w⟩⟩
        have := go 8 0 (by omega)
        rw [m_cpy_0] at this
        exact this
      · have e : m_pt I n s a b c = a_w (m_p6 I n s a b c) 16 0 (nI (n + 1)) := by unfold m_pt; rw [if_neg h8]
        rw [e, ← nI_1 n, ← hr] at hK
        exact a_wp1 hS a_ivh (inv := a_iv X [76, 161]) 60 161 _ rfl ⟨fun w => absurd w (by decide), fun _ => ⟨fun w => absurd w h8, fun _ => hr ▸ hK⟩⟩
    by_cases hs13 : s = 13
    · have ha : vp_in a 6 := by
        obtain ⟨j, hj, rfl⟩ := m_there_13 (hs13 ▸ hth)
        exact vp_in_nI hj (by decide)
      have e : m_p6 I n s a b c = a_w (a_w (a_w (a_w (a_w (a_w I 17 (I 16 0).toNatClampNeg s) 18 (I 16 0).toNatClampNeg a) 19 (I 16 0).toNatClampNeg b) 20 (I 16 0).toNatClampNeg c) 23 (I 16 0).toNatClampNeg 0) 22 (I 16 0).toNatClampNeg (I 25 a.toNatClampNeg) := by
        unfold m_p6
        rw [if_pos hs13, hcl]
      rw [e, ← hn] at loop
      exact a_wp1 hS a_ivh (inv := a_iv X [76, 161]) 80 76 _ rfl ⟨fun w => absurd w n60, fun _ => ⟨hv, hv, hv, hv, hv, fun _ => ⟨ha, hv, loop⟩, fun w => absurd hs13 w⟩⟩
    · have e : m_p6 I n s a b c = a_w (a_w (a_w (a_w (a_w (a_w I 17 (I 16 0).toNatClampNeg s) 18 (I 16 0).toNatClampNeg a) 19 (I 16 0).toNatClampNeg b) 20 (I 16 0).toNatClampNeg c) 23 (I 16 0).toNatClampNeg 0) 22 (I 16 0).toNatClampNeg (-1) := by
        unfold m_p6
        rw [if_neg hs13, hcl]
      rw [e, ← hn] at loop
      exact a_wp1 hS a_ivh (inv := a_iv X [76, 161]) 80 76 _ rfl ⟨fun w => absurd w n60, fun _ => ⟨hv, hv, hv, hv, hv, fun w => absurd w hs13, fun _ => ⟨hv, loop⟩⟩⟩
  refine a_wps hS (inv := a_iv X [76, 161]) a_ivh 60 _ _ _ _ _ _ ?_
  refine ⟨s, 0, 13, rfl, fun w => absurd w h13, fun _ => ⟨I, F, B, s, a, b, c, rfl, rfl, fun w => absurd w hth', fun _ => ?_⟩⟩
  by_cases e4 : s = 4
  · exact ⟨fun _ => ⟨b, 0, 3, rfl, fun w => absurd (Or.inl ⟨e4, w⟩) hbad, fun _ => ⟨fun w => absurd (e4.symm.trans w) (by decide), fun _ => ⟨fun w => absurd (e4.symm.trans w) (by decide), fun _ => tail⟩⟩⟩, fun w => absurd e4 w⟩
  · refine ⟨fun w => absurd w e4, fun _ => ?_⟩
    by_cases e10 : s = 10
    · exact ⟨fun _ => ⟨b, 1, 50, rfl, fun w => absurd (Or.inr (Or.inl ⟨e10, w⟩)) hbad, fun _ => ⟨fun w => absurd (e10.symm.trans w) (by decide), fun _ => tail⟩⟩, fun w => absurd e10 w⟩
    · refine ⟨fun w => absurd w e10, fun _ => ?_⟩
      by_cases e12 : s = 12
      · exact ⟨fun _ => ⟨b, 0, 3, rfl, fun w => absurd (Or.inr (Or.inr ⟨e12, w⟩)) hbad, fun _ => tail⟩, fun w => absurd e12 w⟩
      · exact ⟨fun w => absurd w e12, fun _ => tail⟩

