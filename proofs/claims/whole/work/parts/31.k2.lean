/-! ===== the reference's constructor ===== -/
section CB
variable {l : Launch} {D : va_G} {G : aG} {N0 : Nat}
def i_L1 (j : Nat) (h k : Nat) : Int32 := if h = 24 ∧ k < j then nI (k % 8) else i_I h k
def i_nm (k : Nat) : Int32 := if k = 0 then -2 else if k = 1 then -3 else -1
def i_L2 (j : Nat) (h k : Nat) : Int32 := if h = 25 ∧ k < j then i_nm k else i_L1 32 h k
def sp_X3_init : aP := fun as σ K => as = [.inr (some 16)] ∧ σ = a_new (i_I, i_F2, i_B2) 16 (fun _ => 0) ∧ K none (a_mk (i_L2 6) i_F2 i_B2)
theorem rc_X3_init : ∀ as σ K, sp_X3_init as σ K → ∃ h As, as = .inr (some h) :: As := by
  rintro as σ K ⟨rfl, -⟩
  exact ⟨16, _, rfl⟩
def P_X3_init (K : aK) (bc bs : Nat) : List (Nat × aT) := [(0, t_ald 0 1),
  (1, t_obi 4),
  (4, t_ald 0 5),
  (5, t_ic 60 7),
  (7, t_newi 60 bc bs 9),
  (9, t_putr 3 25 1 12),
  (12, t_ald 0 13),
  (13, t_ic 60 15),
  (15, t_newi 60 bc bs 17),
  (17, t_putr 3 25 2 20),
  (20, t_ald 0 21),
  (21, t_ic 60 23),
  (23, t_newi 60 bc bs 25),
  (25, t_putr 3 25 3 28),
  (28, t_ald 0 29),
  (29, t_ic 60 31),
  (31, t_newi 60 bc bs 33),
  (33, t_putr 3 25 4 36),
  (36, t_ald 0 37),
  (37, t_ic 480 40),
  (40, t_newi 480 bc bs 42),
  (42, t_putr 3 25 5 45),
  (45, t_ald 0 46),
  (46, t_ic 60 48),
  (48, t_newi 60 bc bs 50),
  (50, t_putr 3 25 6 53),
  (53, t_ald 0 54),
  (54, t_ic 60 56),
  (56, t_newi 60 bc bs 58),
  (58, t_putr 3 25 7 61),
  (61, t_ald 0 62),
  (62, t_ic 32 64),
  (64, t_newi 32 bc bs 66),
  (66, t_putr 3 25 8 69),
  (69, t_ald 0 70),
  (70, t_ic 6 72),
  (72, t_newi 6 bc bs 74),
  (74, t_putr 3 25 9 77),
  (77, t_ald 0 78),
  (78, t_ic 104 80),
  (80, t_newi 104 bc bs 82),
  (82, t_putr 3 25 14 85),
  (85, t_ald 0 86),
  (86, t_ic 104 88),
  (88, t_newi 104 bc bs 90),
  (90, t_putr 3 25 15 93),
  (93, t_ald 0 94),
  (94, t_ic 104 96),
  (96, t_newi 104 bc bs 98),
  (98, t_putr 3 25 16 101),
  (101, t_ald 0 102),
  (102, t_ic 104 104),
  (104, t_newi 104 bc bs 106),
  (106, t_putr 3 25 17 109),
  (109, t_ald 0 110),
  (110, t_ic 104 112),
  (112, t_newi 104 bc bs 114),
  (114, t_putr 3 25 18 117),
  (117, t_ald 0 118),
  (118, t_ic 144 121),
  (121, t_newi 144 bc bs 123),
  (123, t_putr 3 25 22 126),
  (126, t_ic 0 127),
  (127, t_ist 1 128),
  (128, t_ild 1 129),
  (129, t_ic 32 131),
  (131, t_ifc (fun x y => y ≤ x) 150 134),
  (134, t_ald 0 135),
  (135, t_getr 3 25 8 138),
  (138, t_ild 1 139),
  (139, t_ild 1 140),
  (140, t_ic 8 142),
  (142, t_rem 143),
  (143, t_iast 144),
  (144, t_iinc 1 1 147),
  (147, t_goto 128),
  (150, t_ic 0 151),
  (151, t_ist 1 152),
  (152, t_ild 1 153),
  (153, t_ic 6 155),
  (155, t_ifc (fun x y => y ≤ x) 190 158),
  (158, t_ald 0 159),
  (159, t_getr 3 25 9 162),
  (162, t_ild 1 163),
  (163, t_ild 1 164),
  (164, t_if (fun x => x = 0) 167 172),
  (167, t_ic (-2) 169),
  (169, t_goto 183),
  (172, t_ild 1 173),
  (173, t_ic 1 174),
  (174, t_ifc (fun x y => x = y) 177 182),
  (177, t_ic (-3) 179),
  (179, t_goto 183),
  (182, t_ic (-1) 183),
  (183, t_iast 184),
  (184, t_iinc 1 1 187),
  (187, t_goto 152),
  (190, t_vret K bc bs)]
set_option maxRecDepth 100000 in
theorem S_X3_init {X : a_X} {K : aK} {l : Launch} {D : va_G} {G : aG} {N0 : Nat} (C : a_C X cX3_init none RX3) (Y : a_Y X l (a_rm 1 15 1542) D G N0) (M : a_mq X K (a_rm 1 15 1542).cells (a_rm 1 15 1542).slots) (N : X.2.2.2.2.2.2.2.2.1.name = "<init>") : ∀ x ∈ P_X3_init K 15 1542, a_Sd X x.1 x.2 := by
  unfold P_X3_init
  refine List.forall_mem_cons.mpr ⟨s_aldn C dX3_init_0 rfl, ?_⟩
  refine List.forall_mem_cons.mpr ⟨s_obi C Y ml_X3_1 im_obj co_obj ⟨by decide, by decide⟩ dX3_init_1, ?_⟩
  refine List.forall_mem_cons.mpr ⟨s_aldn C dX3_init_4 rfl, ?_⟩
  refine List.forall_mem_cons.mpr ⟨s_bi C dX3_init_5 (by decide), ?_⟩
  refine List.forall_mem_cons.mpr ⟨s_newi C Y (by decide) ac_int ⟨rfl, rfl⟩ dX3_init_7, ?_⟩
  refine List.forall_mem_cons.mpr ⟨s_putr C tyX3 tyX3_ok nmX3 rfl in_X3 (by decide) lk_X3_7 rfl (Or.inr ⟨rfl, N, rfl⟩) (Or.inl ⟨_, rfl⟩) dX3_init_9, ?_⟩
  refine List.forall_mem_cons.mpr ⟨s_aldn C dX3_init_12 rfl, ?_⟩
  refine List.forall_mem_cons.mpr ⟨s_bi C dX3_init_13 (by decide), ?_⟩
  refine List.forall_mem_cons.mpr ⟨s_newi C Y (by decide) ac_int ⟨rfl, rfl⟩ dX3_init_15, ?_⟩
  refine List.forall_mem_cons.mpr ⟨s_putr C tyX3 tyX3_ok nmX3 rfl in_X3 (by decide) lk_X3_13 rfl (Or.inr ⟨rfl, N, rfl⟩) (Or.inl ⟨_, rfl⟩) dX3_init_17, ?_⟩
  refine List.forall_mem_cons.mpr ⟨s_aldn C dX3_init_20 rfl, ?_⟩
  refine List.forall_mem_cons.mpr ⟨s_bi C dX3_init_21 (by decide), ?_⟩
  refine List.forall_mem_cons.mpr ⟨s_newi C Y (by decide) ac_int ⟨rfl, rfl⟩ dX3_init_23, ?_⟩
  refine List.forall_mem_cons.mpr ⟨s_putr C tyX3 tyX3_ok nmX3 rfl in_X3 (by decide) lk_X3_16 rfl (Or.inr ⟨rfl, N, rfl⟩) (Or.inl ⟨_, rfl⟩) dX3_init_25, ?_⟩
  refine List.forall_mem_cons.mpr ⟨s_aldn C dX3_init_28 rfl, ?_⟩
  refine List.forall_mem_cons.mpr ⟨s_bi C dX3_init_29 (by decide), ?_⟩
  refine List.forall_mem_cons.mpr ⟨s_newi C Y (by decide) ac_int ⟨rfl, rfl⟩ dX3_init_31, ?_⟩
  refine List.forall_mem_cons.mpr ⟨s_putr C tyX3 tyX3_ok nmX3 rfl in_X3 (by decide) lk_X3_19 rfl (Or.inr ⟨rfl, N, rfl⟩) (Or.inl ⟨_, rfl⟩) dX3_init_33, ?_⟩
  refine List.forall_mem_cons.mpr ⟨s_aldn C dX3_init_36 rfl, ?_⟩
  refine List.forall_mem_cons.mpr ⟨s_si C dX3_init_37 (by decide), ?_⟩
  refine List.forall_mem_cons.mpr ⟨s_newi C Y (by decide) ac_int ⟨rfl, rfl⟩ dX3_init_40, ?_⟩
  refine List.forall_mem_cons.mpr ⟨s_putr C tyX3 tyX3_ok nmX3 rfl in_X3 (by decide) lk_X3_22 rfl (Or.inr ⟨rfl, N, rfl⟩) (Or.inl ⟨_, rfl⟩) dX3_init_42, ?_⟩
  refine List.forall_mem_cons.mpr ⟨s_aldn C dX3_init_45 rfl, ?_⟩
  refine List.forall_mem_cons.mpr ⟨s_bi C dX3_init_46 (by decide), ?_⟩
  refine List.forall_mem_cons.mpr ⟨s_newi C Y (by decide) ac_int ⟨rfl, rfl⟩ dX3_init_48, ?_⟩
  refine List.forall_mem_cons.mpr ⟨s_putr C tyX3 tyX3_ok nmX3 rfl in_X3 (by decide) lk_X3_25 rfl (Or.inr ⟨rfl, N, rfl⟩) (Or.inl ⟨_, rfl⟩) dX3_init_50, ?_⟩
  refine List.forall_mem_cons.mpr ⟨s_aldn C dX3_init_53 rfl, ?_⟩
  refine List.forall_mem_cons.mpr ⟨s_bi C dX3_init_54 (by decide), ?_⟩
  refine List.forall_mem_cons.mpr ⟨s_newi C Y (by decide) ac_int ⟨rfl, rfl⟩ dX3_init_56, ?_⟩
  refine List.forall_mem_cons.mpr ⟨s_putr C tyX3 tyX3_ok nmX3 rfl in_X3 (by decide) lk_X3_28 rfl (Or.inr ⟨rfl, N, rfl⟩) (Or.inl ⟨_, rfl⟩) dX3_init_58, ?_⟩
  refine List.forall_mem_cons.mpr ⟨s_aldn C dX3_init_61 rfl, ?_⟩
  refine List.forall_mem_cons.mpr ⟨s_bi C dX3_init_62 (by decide), ?_⟩
  refine List.forall_mem_cons.mpr ⟨s_newi C Y (by decide) ac_int ⟨rfl, rfl⟩ dX3_init_64, ?_⟩
  refine List.forall_mem_cons.mpr ⟨s_putr C tyX3 tyX3_ok nmX3 rfl in_X3 (by decide) lk_X3_31 rfl (Or.inr ⟨rfl, N, rfl⟩) (Or.inl ⟨_, rfl⟩) dX3_init_66, ?_⟩
  refine List.forall_mem_cons.mpr ⟨s_aldn C dX3_init_69 rfl, ?_⟩
  refine List.forall_mem_cons.mpr ⟨s_bi C dX3_init_70 (by decide), ?_⟩
  refine List.forall_mem_cons.mpr ⟨s_newi C Y (by decide) ac_int ⟨rfl, rfl⟩ dX3_init_72, ?_⟩
  refine List.forall_mem_cons.mpr ⟨s_putr C tyX3 tyX3_ok nmX3 rfl in_X3 (by decide) lk_X3_34 rfl (Or.inr ⟨rfl, N, rfl⟩) (Or.inl ⟨_, rfl⟩) dX3_init_74, ?_⟩
  refine List.forall_mem_cons.mpr ⟨s_aldn C dX3_init_77 rfl, ?_⟩
  refine List.forall_mem_cons.mpr ⟨s_bi C dX3_init_78 (by decide), ?_⟩
  refine List.forall_mem_cons.mpr ⟨s_newi C Y (by decide) ac_int ⟨rfl, rfl⟩ dX3_init_80, ?_⟩
  refine List.forall_mem_cons.mpr ⟨s_putr C tyX3 tyX3_ok nmX3 rfl in_X3 (by decide) lk_X3_37 rfl (Or.inr ⟨rfl, N, rfl⟩) (Or.inl ⟨_, rfl⟩) dX3_init_82, ?_⟩
  refine List.forall_mem_cons.mpr ⟨s_aldn C dX3_init_85 rfl, ?_⟩
  refine List.forall_mem_cons.mpr ⟨s_bi C dX3_init_86 (by decide), ?_⟩
  refine List.forall_mem_cons.mpr ⟨s_newi C Y (by decide) ac_int ⟨rfl, rfl⟩ dX3_init_88, ?_⟩
  refine List.forall_mem_cons.mpr ⟨s_putr C tyX3 tyX3_ok nmX3 rfl in_X3 (by decide) lk_X3_40 rfl (Or.inr ⟨rfl, N, rfl⟩) (Or.inl ⟨_, rfl⟩) dX3_init_90, ?_⟩
  refine List.forall_mem_cons.mpr ⟨s_aldn C dX3_init_93 rfl, ?_⟩
  refine List.forall_mem_cons.mpr ⟨s_bi C dX3_init_94 (by decide), ?_⟩
  refine List.forall_mem_cons.mpr ⟨s_newi C Y (by decide) ac_int ⟨rfl, rfl⟩ dX3_init_96, ?_⟩
  refine List.forall_mem_cons.mpr ⟨s_putr C tyX3 tyX3_ok nmX3 rfl in_X3 (by decide) lk_X3_43 rfl (Or.inr ⟨rfl, N, rfl⟩) (Or.inl ⟨_, rfl⟩) dX3_init_98, ?_⟩
  refine List.forall_mem_cons.mpr ⟨s_aldn C dX3_init_101 rfl, ?_⟩
  refine List.forall_mem_cons.mpr ⟨s_bi C dX3_init_102 (by decide), ?_⟩
  refine List.forall_mem_cons.mpr ⟨s_newi C Y (by decide) ac_int ⟨rfl, rfl⟩ dX3_init_104, ?_⟩
  refine List.forall_mem_cons.mpr ⟨s_putr C tyX3 tyX3_ok nmX3 rfl in_X3 (by decide) lk_X3_46 rfl (Or.inr ⟨rfl, N, rfl⟩) (Or.inl ⟨_, rfl⟩) dX3_init_106, ?_⟩
  refine List.forall_mem_cons.mpr ⟨s_aldn C dX3_init_109 rfl, ?_⟩
  refine List.forall_mem_cons.mpr ⟨s_bi C dX3_init_110 (by decide), ?_⟩
  refine List.forall_mem_cons.mpr ⟨s_newi C Y (by decide) ac_int ⟨rfl, rfl⟩ dX3_init_112, ?_⟩
  refine List.forall_mem_cons.mpr ⟨s_putr C tyX3 tyX3_ok nmX3 rfl in_X3 (by decide) lk_X3_49 rfl (Or.inr ⟨rfl, N, rfl⟩) (Or.inl ⟨_, rfl⟩) dX3_init_114, ?_⟩
  refine List.forall_mem_cons.mpr ⟨s_aldn C dX3_init_117 rfl, ?_⟩
  refine List.forall_mem_cons.mpr ⟨s_si C dX3_init_118 (by decide), ?_⟩
  refine List.forall_mem_cons.mpr ⟨s_newi C Y (by decide) ac_int ⟨rfl, rfl⟩ dX3_init_121, ?_⟩
  refine List.forall_mem_cons.mpr ⟨s_putr C tyX3 tyX3_ok nmX3 rfl in_X3 (by decide) lk_X3_52 rfl (Or.inr ⟨rfl, N, rfl⟩) (Or.inl ⟨_, rfl⟩) dX3_init_123, ?_⟩
  refine List.forall_mem_cons.mpr ⟨s_ic C dX3_init_126 (by decide), ?_⟩
  refine List.forall_mem_cons.mpr ⟨s_istn C dX3_init_127 rfl, ?_⟩
  refine List.forall_mem_cons.mpr ⟨s_ildn C dX3_init_128 rfl, ?_⟩
  refine List.forall_mem_cons.mpr ⟨s_bi C dX3_init_129 (by decide), ?_⟩
  refine List.forall_mem_cons.mpr ⟨s_icmp_ge C dX3_init_131 (by decide), ?_⟩
  refine List.forall_mem_cons.mpr ⟨s_aldn C dX3_init_134 rfl, ?_⟩
  refine List.forall_mem_cons.mpr ⟨s_getr C rfl in_X3 (by decide) lk_X3_31 rfl dX3_init_135, ?_⟩
  refine List.forall_mem_cons.mpr ⟨s_ildn C dX3_init_138 rfl, ?_⟩
  refine List.forall_mem_cons.mpr ⟨s_ildn C dX3_init_139 rfl, ?_⟩
  refine List.forall_mem_cons.mpr ⟨s_bi C dX3_init_140 (by decide), ?_⟩
  refine List.forall_mem_cons.mpr ⟨s_rem C dX3_init_142, ?_⟩
  refine List.forall_mem_cons.mpr ⟨s_iast C dX3_init_143, ?_⟩
  refine List.forall_mem_cons.mpr ⟨s_iinc C dX3_init_144 (by decide), ?_⟩
  refine List.forall_mem_cons.mpr ⟨s_goto C dX3_init_147 (by decide), ?_⟩
  refine List.forall_mem_cons.mpr ⟨s_ic C dX3_init_150 (by decide), ?_⟩
  refine List.forall_mem_cons.mpr ⟨s_istn C dX3_init_151 rfl, ?_⟩
  refine List.forall_mem_cons.mpr ⟨s_ildn C dX3_init_152 rfl, ?_⟩
  refine List.forall_mem_cons.mpr ⟨s_bi C dX3_init_153 (by decide), ?_⟩
  refine List.forall_mem_cons.mpr ⟨s_icmp_ge C dX3_init_155 (by decide), ?_⟩
  refine List.forall_mem_cons.mpr ⟨s_aldn C dX3_init_158 rfl, ?_⟩
  refine List.forall_mem_cons.mpr ⟨s_getr C rfl in_X3 (by decide) lk_X3_34 rfl dX3_init_159, ?_⟩
  refine List.forall_mem_cons.mpr ⟨s_ildn C dX3_init_162 rfl, ?_⟩
  refine List.forall_mem_cons.mpr ⟨s_ildn C dX3_init_163 rfl, ?_⟩
  refine List.forall_mem_cons.mpr ⟨s_if_ne C dX3_init_164 (by decide), ?_⟩
  refine List.forall_mem_cons.mpr ⟨s_bi C dX3_init_167 (by decide), ?_⟩
  refine List.forall_mem_cons.mpr ⟨s_goto C dX3_init_169 (by decide), ?_⟩
  refine List.forall_mem_cons.mpr ⟨s_ildn C dX3_init_172 rfl, ?_⟩
  refine List.forall_mem_cons.mpr ⟨s_ic C dX3_init_173 (by decide), ?_⟩
  refine List.forall_mem_cons.mpr ⟨s_icmp_ne C dX3_init_174 (by decide), ?_⟩
  refine List.forall_mem_cons.mpr ⟨s_bi C dX3_init_177 (by decide), ?_⟩
  refine List.forall_mem_cons.mpr ⟨s_goto C dX3_init_179 (by decide), ?_⟩
  refine List.forall_mem_cons.mpr ⟨s_ic C dX3_init_182 (by decide), ?_⟩
  refine List.forall_mem_cons.mpr ⟨s_iast C dX3_init_183, ?_⟩
  refine List.forall_mem_cons.mpr ⟨s_iinc C dX3_init_184 (by decide), ?_⟩
  refine List.forall_mem_cons.mpr ⟨s_goto C dX3_init_187 (by decide), ?_⟩
  refine List.forall_mem_cons.mpr ⟨s_vret C M dX3_init_190, ?_⟩
  exact fun _ h => absurd h List.not_mem_nil
theorem i_L1_0 : i_L1 0 = i_I := by
  funext h k
  exact if_neg (by omega)
theorem i_L2_0 : i_L2 0 = i_L1 32 := by
  funext h k
  exact if_neg (by omega)
theorem i_L1_s {j : Nat} : a_w (i_L1 j) 24 j (nI (j % 8)) = i_L1 (j + 1) := by
  funext h k
  unfold a_w i_L1
  by_cases e : h = 24 ∧ k = j
  · rw [if_pos e, if_pos (by omega), e.2]
  · rw [if_neg e]
    by_cases e2 : h = 24 ∧ k < j
    · rw [if_pos e2, if_pos (by omega)]
    · rw [if_neg e2, if_neg (by omega)]
theorem i_L2_s {j : Nat} : a_w (i_L2 j) 25 j (i_nm j) = i_L2 (j + 1) := by
  funext h k
  unfold a_w i_L2
  by_cases e : h = 25 ∧ k = j
  · rw [if_pos e, if_pos (by omega), e.2]
  · rw [if_neg e]
    by_cases e2 : h = 25 ∧ k < j
    · rw [if_pos e2, if_pos (by omega)]
    · rw [if_neg e2, if_neg (by omega)]
abbrev i_w0 : aS := a_new (i_I, i_F2, i_B2) 16 (fun _ => 0)
abbrev i_w1 : aS := a_uF (a_new i_w0 17 (fun _ => 0)) 16 1 (some 17)
abbrev i_w2 : aS := a_uF (a_new i_w1 18 (fun _ => 0)) 16 2 (some 18)
abbrev i_w3 : aS := a_uF (a_new i_w2 19 (fun _ => 0)) 16 3 (some 19)
abbrev i_w4 : aS := a_uF (a_new i_w3 20 (fun _ => 0)) 16 4 (some 20)
abbrev i_w5 : aS := a_uF (a_new i_w4 21 (fun _ => 0)) 16 5 (some 21)
abbrev i_w6 : aS := a_uF (a_new i_w5 22 (fun _ => 0)) 16 6 (some 22)
abbrev i_w7 : aS := a_uF (a_new i_w6 23 (fun _ => 0)) 16 7 (some 23)
abbrev i_w8 : aS := a_uF (a_new i_w7 24 (fun _ => 0)) 16 8 (some 24)
abbrev i_w9 : aS := a_uF (a_new i_w8 25 (fun _ => 0)) 16 9 (some 25)
abbrev i_w14 : aS := a_uF (a_new i_w9 30 (fun _ => 0)) 16 14 (some 30)
abbrev i_w15 : aS := a_uF (a_new i_w14 31 (fun _ => 0)) 16 15 (some 31)
abbrev i_w16 : aS := a_uF (a_new i_w15 32 (fun _ => 0)) 16 16 (some 32)
abbrev i_w17 : aS := a_uF (a_new i_w16 33 (fun _ => 0)) 16 17 (some 33)
abbrev i_w18 : aS := a_uF (a_new i_w17 34 (fun _ => 0)) 16 18 (some 34)
abbrev i_w22 : aS := a_uF (a_new i_w18 38 (fun _ => 0)) 16 22 (some 38)
theorem i_I_z {h k : Nat} (h1 : 10 ≤ h) (h2 : h < 64) : i_I h k = 0 := by
  unfold i_I i_D
  rw [if_neg (by omega), if_neg (by omega), if_neg (by omega), if_neg (by omega)]
theorem i_F2_z {h k : Nat} (h1 : 10 ≤ h) (h2 : h < 64) : i_F2 h k = none := by
  unfold i_F2 i_F
  rw [if_neg (by omega), if_neg (by omega), if_neg (by omega), if_neg (by omega), if_neg (by omega)]
theorem i_SR {h k : Nat} (h1 : h ≠ 16) : a_SR i_F2 h k = i_F2 h k := by
  unfold a_SR
  by_cases h0 : h = 0
  · subst h0; rfl
  by_cases h1 : h = 1
  · subst h1; rfl
  by_cases h4 : h = 4
  · subst h4; rfl
  rw [if_neg h0, if_neg h1, if_neg h4, if_neg (by assumption)]
set_option maxRecDepth 20000 in
theorem i_e128 : i_w22 = a_mk i_I i_F2 i_B2 := by
  refine Prod.ext ?_ (Prod.ext ?_ ?_)
  · funext h k
    simp only [i_w0, i_w1, i_w2, i_w3, i_w4, i_w5, i_w6, i_w7, i_w8, i_w9, i_w14, i_w15, i_w16, i_w17, i_w18, i_w22, a_uF, a_new]
    by_cases e : 10 ≤ h ∧ h < 64
    · rw [i_I_z e.1 e.2]
      simp
    · simp [show ¬ h = 16 by omega, show ¬ h = 17 by omega, show ¬ h = 18 by omega, show ¬ h = 19 by omega, show ¬ h = 20 by omega, show ¬ h = 21 by omega, show ¬ h = 22 by omega, show ¬ h = 23 by omega, show ¬ h = 24 by omega, show ¬ h = 25 by omega, show ¬ h = 30 by omega, show ¬ h = 31 by omega, show ¬ h = 32 by omega, show ¬ h = 33 by omega, show ¬ h = 34 by omega, show ¬ h = 38 by omega]
  · funext h k
    by_cases e16 : h = 16
    · subst e16
      by_cases hk : k < 25
      · revert k
        decide +kernel
      · simp only [i_w0, i_w1, i_w2, i_w3, i_w4, i_w5, i_w6, i_w7, i_w8, i_w9, i_w14, i_w15, i_w16, i_w17, i_w18, i_w22, a_uF, a_new]
        have e : a_mref k = false := by
          unfold a_mref
          simp
          omega
        show _ = (if a_mref k = true then some (16 + k) else none)
        rw [e]
        simp [show ¬ k = 1 by omega, show ¬ k = 2 by omega, show ¬ k = 3 by omega, show ¬ k = 4 by omega, show ¬ k = 5 by omega, show ¬ k = 6 by omega, show ¬ k = 7 by omega, show ¬ k = 8 by omega, show ¬ k = 9 by omega, show ¬ k = 14 by omega, show ¬ k = 15 by omega, show ¬ k = 16 by omega, show ¬ k = 17 by omega, show ¬ k = 18 by omega, show ¬ k = 22 by omega]
    · show _ = a_SR i_F2 h k
      rw [i_SR e16]
      simp only [i_w0, i_w1, i_w2, i_w3, i_w4, i_w5, i_w6, i_w7, i_w8, i_w9, i_w14, i_w15, i_w16, i_w17, i_w18, i_w22, a_uF, a_new]
      by_cases e : 10 ≤ h ∧ h < 64
      · rw [i_F2_z e.1 e.2]
        simp [e16]
      · simp [show ¬ h = 16 by omega, show ¬ h = 17 by omega, show ¬ h = 18 by omega, show ¬ h = 19 by omega, show ¬ h = 20 by omega, show ¬ h = 21 by omega, show ¬ h = 22 by omega, show ¬ h = 23 by omega, show ¬ h = 24 by omega, show ¬ h = 25 by omega, show ¬ h = 30 by omega, show ¬ h = 31 by omega, show ¬ h = 32 by omega, show ¬ h = 33 by omega, show ¬ h = 34 by omega, show ¬ h = 38 by omega]
  · funext h
    by_cases e : h < 66
    · revert h
      decide +kernel
    · show _ = a_LV i_B2 h
      rw [a_LVn (by omega)]
      simp only [i_w0, i_w1, i_w2, i_w3, i_w4, i_w5, i_w6, i_w7, i_w8, i_w9, i_w14, i_w15, i_w16, i_w17, i_w18, i_w22, a_uF, a_new]
      simp [show ¬ h = 16 by omega, show ¬ h = 17 by omega, show ¬ h = 18 by omega, show ¬ h = 19 by omega, show ¬ h = 20 by omega, show ¬ h = 21 by omega, show ¬ h = 22 by omega, show ¬ h = 23 by omega, show ¬ h = 24 by omega, show ¬ h = 25 by omega, show ¬ h = 30 by omega, show ¬ h = 31 by omega, show ¬ h = 32 by omega, show ¬ h = 33 by omega, show ¬ h = 34 by omega, show ¬ h = 38 by omega]
set_option maxRecDepth 20000 in
set_option maxHeartbeats 4000000 in
theorem con_X3_init : a_Con l D G N0 yX3_init cX3_init 2 none (a_rm 1 15 1542) sp_X3_init := by
  refine a_con (by decide) (fun as σ K h => by obtain ⟨rfl, -⟩ := h; exact (by decide : 1 ≤ 2)) ?_
  intro X as σ K h C Y M N
  obtain ⟨rfl, rfl, hK⟩ := h
  have hS := S_X3_init C Y M N
  have loop2 : ∀ m j, j + m = 6 → a_J X 152 [some (.inr (some 16)), some (.inl (nI j))] [] (a_mk (i_L2 j) i_F2 i_B2) 15 1542 := by
    intro m
    induction m with
    | zero =>
      intro j hj
      have hj : j = 6 := by omega
      subst hj
      exact a_wp1 hS a_ivh (inv := a_iv X []) 40 152 _ rfl ⟨fun _ => hK, fun w => absurd (show (6 : Int32) ≤ nI 6 by decide) w⟩
    | succ m ih =>
      intro j hj
      have hn6 : ¬ (6 : Int32) ≤ nI j := by
        intro w
        have := (nI_leI (a := 6) (by decide) (by omega)).mp w
        omega
      have hv : vp_in (nI j) 6 := vp_in_nI (by omega) (by decide)
      have cj : (nI j).toNatClampNeg = j := nI_clamp (by omega)
      have ih := ih (j + 1) (by omega)
      rw [← i_L2_s, ← nI_1 j] at ih
      have ih : a_J X 152 [some (.inr (some 16)), some (.inl (nI j + 1))] [] (a_mk (a_w (i_L2 j) 25 (nI j).toNatClampNeg (i_nm j)) i_F2 i_B2) 15 1542 := by rw [cj]; exact ih
      refine a_wp1 hS a_ivh (inv := a_iv X [152]) 40 152 _ rfl ⟨fun w => absurd w hn6, fun _ => ⟨fun h0 => ⟨hv, ?_⟩, fun h0 => ⟨fun h1 => ⟨hv, ?_⟩, fun h1 => ⟨hv, ?_⟩⟩⟩⟩
      · have e0 : j = 0 := (nI_eq (b := 0) (by omega) (by decide)).mp h0
        rw [show i_nm j = -2 by rw [e0]; rfl] at ih
        exact ih
      · have e1 : j = 1 := (nI_eq (b := 1) (by omega) (by decide)).mp h1
        rw [show i_nm j = -3 by rw [e1]; rfl] at ih
        exact ih
      · have e0 : ¬ j = 0 := fun e => h0 (by rw [e]; rfl)
        have e1 : ¬ j = 1 := fun e => h1 (by rw [e]; rfl)
        rw [show i_nm j = -1 by unfold i_nm; rw [if_neg e0, if_neg e1]] at ih
        exact ih
  have loop1 : ∀ m j, j + m = 32 → a_J X 128 [some (.inr (some 16)), some (.inl (nI j))] [] (a_mk (i_L1 j) i_F2 i_B2) 15 1542 := by
    intro m
    induction m with
    | zero =>
      intro j hj
      have hj : j = 32 := by omega
      subst hj
      have l2 := loop2 6 0 (by omega)
      rw [i_L2_0] at l2
      exact a_wp1 hS a_ivh (inv := a_iv X [152]) 40 128 _ rfl ⟨fun _ => l2, fun w => absurd (show (32 : Int32) ≤ nI 32 by decide) w⟩
    | succ m ih =>
      intro j hj
      have hn : ¬ (32 : Int32) ≤ nI j := by
        intro w
        have := (nI_leI (a := 32) (by decide) (by omega)).mp w
        omega
      have hv : vp_in (nI j) 32 := vp_in_nI (by omega) (by decide)
      have cj : (nI j).toNatClampNeg = j := nI_clamp (by omega)
      have er : a_rem (nI j) 8 = nI (j % 8) := by
        have : ∀ j, j < 32 → a_rem (nI j) 8 = nI (j % 8) := by decide +kernel
        exact this j (by omega)
      have ih := ih (j + 1) (by omega)
      rw [← i_L1_s, ← nI_1 j] at ih
      have ih : a_J X 128 [some (.inr (some 16)), some (.inl (nI j + 1))] [] (a_mk (a_w (i_L1 j) 24 (nI j).toNatClampNeg (a_rem (nI j) 8)) i_F2 i_B2) 15 1542 := by rw [cj, er]; exact ih
      exact a_wp1 hS a_ivh (inv := a_iv X [128]) 40 128 _ rfl ⟨fun w => absurd w hn, fun _ => ⟨by decide, hv, ih⟩⟩
  have l1 := loop1 32 0 (by omega)
  rw [i_L1_0, ← i_e128] at l1
  refine a_wps hS (inv := a_iv X [128]) a_ivh 90 _ _ _ _ _ _ ?_
  exact ⟨rfl, 17, rfl, rfl, ⟨by decide, by decide⟩, by decide, rfl, 18, rfl, rfl, ⟨by decide, by decide⟩, by decide, rfl, 19, rfl, rfl, ⟨by decide, by decide⟩, by decide, rfl, 20, rfl, rfl, ⟨by decide, by decide⟩, by decide, rfl, 21, rfl, rfl, ⟨by decide, by decide⟩, by decide, rfl, 22, rfl, rfl, ⟨by decide, by decide⟩, by decide, rfl, 23, rfl, rfl, ⟨by decide, by decide⟩, by decide, rfl, 24, rfl, rfl, ⟨by decide, by decide⟩, by decide, rfl, 25, rfl, rfl, ⟨by decide, by decide⟩, by decide, rfl, 30, rfl, rfl, ⟨by decide, by decide⟩, by decide, rfl, 31, rfl, rfl, ⟨by decide, by decide⟩, by decide, rfl, 32, rfl, rfl, ⟨by decide, by decide⟩, by decide, rfl, 33, rfl, rfl, ⟨by decide, by decide⟩, by decide, rfl, 34, rfl, rfl, ⟨by decide, by decide⟩, by decide, rfl, 38, rfl, rfl, ⟨by decide, by decide⟩, by decide, l1⟩
end CB

