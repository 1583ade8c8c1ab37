/-! ===== the constructors ===== -/
section CA
variable {l : Launch} {D : va_G} {G : aG} {N0 : Nat}
def sp_X0_init : aP := fun as σ K => as = [.inr (some 4)] ∧ a_is σ 4 0 3 = true ∧ σ.2.2 5 = false ∧ K none (a_uF (a_new σ 5 (fun _ => 0)) 4 0 (some 5))
theorem rc_X0_init : ∀ as σ K, sp_X0_init as σ K → ∃ h As, as = .inr (some h) :: As := by
  rintro as σ K ⟨rfl, -⟩
  exact ⟨4, _, rfl⟩
def P_X0_init (K : aK) (bc bs : Nat) : List (Nat × aT) := [(0, t_ald 0 1),
  (1, t_obi 4),
  (4, t_ald 0 5),
  (5, t_ic 144 8),
  (8, t_newi 144 bc bs 10),
  (10, t_putr 0 3 0 13),
  (13, t_vret K bc bs)]
set_option maxRecDepth 100000 in
theorem S_X0_init {X : a_X} {K : aK} {l : Launch} {D : va_G} {G : aG} {N0 : Nat} (C : a_C X cX0_init none RX0) (Y : a_Y X l (a_rm 1 1 144) D G N0) (M : a_mq X K (a_rm 1 1 144).cells (a_rm 1 1 144).slots) (N : X.2.2.2.2.2.2.2.2.1.name = "<init>") : ∀ x ∈ P_X0_init K 1 144, a_Sd X x.1 x.2 := by
  unfold P_X0_init
  refine List.forall_mem_cons.mpr ⟨s_aldn C dX0_init_0 rfl, ?_⟩
  refine List.forall_mem_cons.mpr ⟨s_obi C Y ml_X0_3 im_obj co_obj ⟨by decide, by decide⟩ dX0_init_1, ?_⟩
  refine List.forall_mem_cons.mpr ⟨s_aldn C dX0_init_4 rfl, ?_⟩
  refine List.forall_mem_cons.mpr ⟨s_si C dX0_init_5 (by decide), ?_⟩
  refine List.forall_mem_cons.mpr ⟨s_newi C Y (by decide) ac_int ⟨rfl, rfl⟩ dX0_init_8, ?_⟩
  refine List.forall_mem_cons.mpr ⟨s_putr C tyX0 tyX0_ok nmX0 rfl in_X0 (by decide) lk_X0_9 rfl (Or.inr ⟨rfl, N, rfl⟩) (Or.inl ⟨_, rfl⟩) dX0_init_10, ?_⟩
  refine List.forall_mem_cons.mpr ⟨s_vret C M dX0_init_13, ?_⟩
  exact fun _ h => absurd h List.not_mem_nil
theorem con_X0_init : a_Con l D G N0 yX0_init cX0_init 1 none (a_rm 1 1 144) sp_X0_init := by
  refine a_con (by decide) (fun as σ K h => by obtain ⟨rfl, -⟩ := h; exact (by decide : 1 ≤ 1)) ?_
  intro X as σ K h C Y M N
  obtain ⟨rfl, his, hf, hK⟩ := h
  refine a_wps (S_X0_init C Y M N) (inv := a_ni) a_nih 40 _ _ _ _ _ _ ?_
  exact ⟨rfl, 5, hf, rfl, ⟨by decide, by decide⟩, a_gi his ⟨by decide, hK⟩⟩
/-- the empty world, and what the class's constructor makes of it -/
def i_e : aS := (fun _ _ => 0, fun _ _ => none, fun _ => false)
def i_F (h k : Nat) : Option Nat := if h = 0 then (if k < 4 then some (k + 1) else none) else if h = 1 then (if k < 4 then some (6 + k) else none) else if h = 4 then (if k = 0 then some 5 else none) else none
def i_B (h : Nat) : Bool := decide (h < 10)
def i_D (d j : Nat) (h k : Nat) : Int32 := if 6 ≤ h ∧ h < 6 + d ∧ k < 8 then nI k else if h = 6 + d ∧ k < j then nI k else 0
theorem i_D_0 : i_D 0 0 = fun _ _ => 0 := by
  funext h k
  unfold i_D
  rw [if_neg (by omega), if_neg (by omega)]
theorem i_D_s {d j : Nat} : a_w (i_D d j) (6 + d) j (nI j) = i_D d (j + 1) := by
  funext h k
  unfold a_w i_D
  by_cases e : h = 6 + d ∧ k = j
  · rw [if_pos e, if_neg (by omega), if_pos (by omega), e.2]
  · rw [if_neg e]
    by_cases e1 : 6 ≤ h ∧ h < 6 + d ∧ k < 8
    · rw [if_pos e1, if_pos e1]
    · rw [if_neg e1, if_neg e1]
      by_cases e2 : h = 6 + d ∧ k < j
      · rw [if_pos e2, if_pos (by omega)]
      · rw [if_neg e2, if_neg (by omega)]
theorem i_D_n {d : Nat} : i_D d 8 = i_D (d + 1) 0 := by
  funext h k
  unfold i_D
  by_cases e1 : 6 ≤ h ∧ h < 6 + d ∧ k < 8
  · rw [if_pos e1, if_pos (by omega)]
  · rw [if_neg e1]
    by_cases e2 : h = 6 + d ∧ k < 8
    · rw [if_pos e2, if_pos (by omega)]
    · rw [if_neg e2, if_neg (by omega), if_neg (by omega)]
def i_I (h k : Nat) : Int32 := if h = 64 ∧ k = 0 then 14 else if h = 65 ∧ k = 0 then 15 else i_D 4 0 h k
def i_F2 (h k : Nat) : Option Nat := if h = 2 ∧ k = 0 then some 64 else if h = 2 ∧ k = 1 then some 65 else i_F h k
def i_B2 (h : Nat) : Bool := decide (h < 10) || (decide (h = 64) || decide (h = 65))
def sp_X2_init : aP := fun as σ K => as = [.inr (some 0)] ∧ σ = a_new i_e 0 (fun _ => 0) ∧ K none (i_I, i_F2, i_B2)
theorem rc_X2_init : ∀ as σ K, sp_X2_init as σ K → ∃ h As, as = .inr (some h) :: As := by
  rintro as σ K ⟨rfl, -⟩
  exact ⟨0, _, rfl⟩
def P_X2_init (K : aK) (bc bs : Nat) : List (Nat × aT) := [(0, t_ald 0 1),
  (1, t_obi 4),
  (4, t_ald 0 5),
  (5, t_ic 4 6),
  (6, t_ic 8 8),
  (8, t_mna bc bs 12),
  (12, t_putr 2 10 0 15),
  (15, t_ald 0 16),
  (16, t_ic 6 18),
  (18, t_newq 6 bc bs 21),
  (21, t_putr 2 10 1 24),
  (24, t_ald 0 25),
  (25, t_ic 60 27),
  (27, t_newq 60 bc bs 30),
  (30, t_putr 2 10 2 33),
  (33, t_ald 0 34),
  (34, t_new 0 3 bc bs 37),
  (37, t_dup 38),
  (38, t_call 1 1 144 bc bs sp_X0_init 41),
  (41, t_putr 2 10 3 44),
  (44, t_ic 0 45),
  (45, t_ist 1 46),
  (46, t_ild 1 47),
  (47, t_ic 4 48),
  (48, t_ifc (fun x y => y ≤ x) 80 51),
  (51, t_ic 0 52),
  (52, t_ist 2 53),
  (53, t_ild 2 54),
  (54, t_ic 8 56),
  (56, t_ifc (fun x y => y ≤ x) 74 59),
  (59, t_ald 0 60),
  (60, t_getr 2 10 0 63),
  (63, t_ild 1 64),
  (64, t_aald 65),
  (65, t_ild 2 66),
  (66, t_ild 2 67),
  (67, t_iast 68),
  (68, t_iinc 2 1 71),
  (71, t_goto 53),
  (74, t_iinc 1 1 77),
  (77, t_goto 46),
  (80, t_ald 0 81),
  (81, t_getr 2 10 1 84),
  (84, t_ic 0 85),
  (85, t_new 1 7 bc bs 88),
  (88, t_dup 89),
  (89, t_ic 14 91),
  (91, t_ic 0 92),
  (92, t_ic 0 93),
  (93, t_ic 0 94),
  (94, t_null 95),
  (95, t_null 96),
  (96, t_call 7 0 0 bc bs sp_X1_init 99),
  (99, t_aast 100),
  (100, t_ald 0 101),
  (101, t_getr 2 10 1 104),
  (104, t_ic 1 105),
  (105, t_new 1 7 bc bs 108),
  (108, t_dup 109),
  (109, t_ic 15 111),
  (111, t_ic 0 112),
  (112, t_ic 0 113),
  (113, t_ic 0 114),
  (114, t_null 115),
  (115, t_null 116),
  (116, t_call 7 0 0 bc bs sp_X1_init 119),
  (119, t_aast 120),
  (120, t_vret K bc bs)]
set_option maxRecDepth 100000 in
theorem S_X2_init {X : a_X} {K : aK} {l : Launch} {D : va_G} {G : aG} {N0 : Nat} (C : a_C X cX2_init none RX2) (Y : a_Y X l (a_rm 2 11 263) D G N0) (M : a_mq X K (a_rm 2 11 263).cells (a_rm 2 11 263).slots) (N : X.2.2.2.2.2.2.2.2.1.name = "<init>") : ∀ x ∈ P_X2_init K 11 263, a_Sd X x.1 x.2 := by
  unfold P_X2_init
  refine List.forall_mem_cons.mpr ⟨s_aldn C dX2_init_0 rfl, ?_⟩
  refine List.forall_mem_cons.mpr ⟨s_obi C Y ml_X2_1 im_obj co_obj ⟨by decide, by decide⟩ dX2_init_1, ?_⟩
  refine List.forall_mem_cons.mpr ⟨s_aldn C dX2_init_4 rfl, ?_⟩
  refine List.forall_mem_cons.mpr ⟨s_ic C dX2_init_5 (by decide), ?_⟩
  refine List.forall_mem_cons.mpr ⟨s_bi C dX2_init_6 (by decide), ?_⟩
  refine List.forall_mem_cons.mpr ⟨s_mna C Y cl_X2_9 ac_int ⟨rfl, rfl⟩ dX2_init_8, ?_⟩
  refine List.forall_mem_cons.mpr ⟨s_putr C tyX2 tyX2_ok nmX2 rfl in_X2 (by decide) lk_X2_11 rfl (Or.inr ⟨rfl, N, rfl⟩) (Or.inl ⟨_, rfl⟩) dX2_init_12, ?_⟩
  refine List.forall_mem_cons.mpr ⟨s_aldn C dX2_init_15 rfl, ?_⟩
  refine List.forall_mem_cons.mpr ⟨s_bi C dX2_init_16 (by decide), ?_⟩
  refine List.forall_mem_cons.mpr ⟨s_newq C Y (by decide) cl_X2_14 ⟨rfl, rfl⟩ dX2_init_18, ?_⟩
  refine List.forall_mem_cons.mpr ⟨s_putr C tyX2 tyX2_ok nmX2 rfl in_X2 (by decide) lk_X2_16 rfl (Or.inr ⟨rfl, N, rfl⟩) (Or.inl ⟨_, rfl⟩) dX2_init_21, ?_⟩
  refine List.forall_mem_cons.mpr ⟨s_aldn C dX2_init_24 rfl, ?_⟩
  refine List.forall_mem_cons.mpr ⟨s_bi C dX2_init_25 (by decide), ?_⟩
  refine List.forall_mem_cons.mpr ⟨s_newq C Y (by decide) cl_X2_14 ⟨rfl, rfl⟩ dX2_init_27, ?_⟩
  refine List.forall_mem_cons.mpr ⟨s_putr C tyX2 tyX2_ok nmX2 rfl in_X2 (by decide) lk_X2_20 rfl (Or.inr ⟨rfl, N, rfl⟩) (Or.inl ⟨_, rfl⟩) dX2_init_30, ?_⟩
  refine List.forall_mem_cons.mpr ⟨s_aldn C dX2_init_33 rfl, ?_⟩
  refine List.forall_mem_cons.mpr ⟨s_new C Y tyX0 tyX0_ok df_X0 rfl in_X0 cl_X2_23 ia_X0 ii_X0 ⟨rfl, rfl⟩ dX2_init_34, ?_⟩
  refine List.forall_mem_cons.mpr ⟨s_dup C dX2_init_37, ?_⟩
  refine List.forall_mem_cons.mpr ⟨s_callIN (rm := (a_rm 1 1 144)) C Y con_X0_init rc_X0_init co_X0_init im_X0_init ii_X0 ⟨by decide, by decide⟩ ⟨rfl, rfl⟩ dX2_init_38, ?_⟩
  refine List.forall_mem_cons.mpr ⟨s_putr C tyX2 tyX2_ok nmX2 rfl in_X2 (by decide) lk_X2_26 rfl (Or.inr ⟨rfl, N, rfl⟩) (Or.inr ⟨_, rfl⟩) dX2_init_41, ?_⟩
  refine List.forall_mem_cons.mpr ⟨s_ic C dX2_init_44 (by decide), ?_⟩
  refine List.forall_mem_cons.mpr ⟨s_istn C dX2_init_45 rfl, ?_⟩
  refine List.forall_mem_cons.mpr ⟨s_ildn C dX2_init_46 rfl, ?_⟩
  refine List.forall_mem_cons.mpr ⟨s_ic C dX2_init_47 (by decide), ?_⟩
  refine List.forall_mem_cons.mpr ⟨s_icmp_ge C dX2_init_48 (by decide), ?_⟩
  refine List.forall_mem_cons.mpr ⟨s_ic C dX2_init_51 (by decide), ?_⟩
  refine List.forall_mem_cons.mpr ⟨s_istn C dX2_init_52 rfl, ?_⟩
  refine List.forall_mem_cons.mpr ⟨s_ildn C dX2_init_53 rfl, ?_⟩
  refine List.forall_mem_cons.mpr ⟨s_bi C dX2_init_54 (by decide), ?_⟩
  refine List.forall_mem_cons.mpr ⟨s_icmp_ge C dX2_init_56 (by decide), ?_⟩
  refine List.forall_mem_cons.mpr ⟨s_aldn C dX2_init_59 rfl, ?_⟩
  refine List.forall_mem_cons.mpr ⟨s_getr C rfl in_X2 (by decide) lk_X2_11 rfl dX2_init_60, ?_⟩
  refine List.forall_mem_cons.mpr ⟨s_ildn C dX2_init_63 rfl, ?_⟩
  refine List.forall_mem_cons.mpr ⟨s_aald C dX2_init_64, ?_⟩
  refine List.forall_mem_cons.mpr ⟨s_ildn C dX2_init_65 rfl, ?_⟩
  refine List.forall_mem_cons.mpr ⟨s_ildn C dX2_init_66 rfl, ?_⟩
  refine List.forall_mem_cons.mpr ⟨s_iast C dX2_init_67, ?_⟩
  refine List.forall_mem_cons.mpr ⟨s_iinc C dX2_init_68 (by decide), ?_⟩
  refine List.forall_mem_cons.mpr ⟨s_goto C dX2_init_71 (by decide), ?_⟩
  refine List.forall_mem_cons.mpr ⟨s_iinc C dX2_init_74 (by decide), ?_⟩
  refine List.forall_mem_cons.mpr ⟨s_goto C dX2_init_77 (by decide), ?_⟩
  refine List.forall_mem_cons.mpr ⟨s_aldn C dX2_init_80 rfl, ?_⟩
  refine List.forall_mem_cons.mpr ⟨s_getr C rfl in_X2 (by decide) lk_X2_16 rfl dX2_init_81, ?_⟩
  refine List.forall_mem_cons.mpr ⟨s_ic C dX2_init_84 (by decide), ?_⟩
  refine List.forall_mem_cons.mpr ⟨s_new C Y tyX1 tyX1_ok df_X1 rfl in_X1 cl_X2_14 ia_X1 ii_X1 ⟨rfl, rfl⟩ dX2_init_85, ?_⟩
  refine List.forall_mem_cons.mpr ⟨s_dup C dX2_init_88, ?_⟩
  refine List.forall_mem_cons.mpr ⟨s_bi C dX2_init_89 (by decide), ?_⟩
  refine List.forall_mem_cons.mpr ⟨s_ic C dX2_init_91 (by decide), ?_⟩
  refine List.forall_mem_cons.mpr ⟨s_ic C dX2_init_92 (by decide), ?_⟩
  refine List.forall_mem_cons.mpr ⟨s_ic C dX2_init_93 (by decide), ?_⟩
  refine List.forall_mem_cons.mpr ⟨s_null C dX2_init_94, ?_⟩
  refine List.forall_mem_cons.mpr ⟨s_null C dX2_init_95, ?_⟩
  refine List.forall_mem_cons.mpr ⟨s_callI (rm := (a_rm 1 0 0)) (n := 6) C Y con_X1_init rc_X1_init co_X1_init ml_X2_30 im_X1_init ii_X1 rfl (by decide +kernel) ⟨by decide, by decide⟩ ⟨rfl, rfl⟩ dX2_init_96, ?_⟩
  refine List.forall_mem_cons.mpr ⟨s_aast C dX2_init_99, ?_⟩
  refine List.forall_mem_cons.mpr ⟨s_aldn C dX2_init_100 rfl, ?_⟩
  refine List.forall_mem_cons.mpr ⟨s_getr C rfl in_X2 (by decide) lk_X2_16 rfl dX2_init_101, ?_⟩
  refine List.forall_mem_cons.mpr ⟨s_ic C dX2_init_104 (by decide), ?_⟩
  refine List.forall_mem_cons.mpr ⟨s_new C Y tyX1 tyX1_ok df_X1 rfl in_X1 cl_X2_14 ia_X1 ii_X1 ⟨rfl, rfl⟩ dX2_init_105, ?_⟩
  refine List.forall_mem_cons.mpr ⟨s_dup C dX2_init_108, ?_⟩
  refine List.forall_mem_cons.mpr ⟨s_bi C dX2_init_109 (by decide), ?_⟩
  refine List.forall_mem_cons.mpr ⟨s_ic C dX2_init_111 (by decide), ?_⟩
  refine List.forall_mem_cons.mpr ⟨s_ic C dX2_init_112 (by decide), ?_⟩
  refine List.forall_mem_cons.mpr ⟨s_ic C dX2_init_113 (by decide), ?_⟩
  refine List.forall_mem_cons.mpr ⟨s_null C dX2_init_114, ?_⟩
  refine List.forall_mem_cons.mpr ⟨s_null C dX2_init_115, ?_⟩
  refine List.forall_mem_cons.mpr ⟨s_callI (rm := (a_rm 1 0 0)) (n := 6) C Y con_X1_init rc_X1_init co_X1_init ml_X2_30 im_X1_init ii_X1 rfl (by decide +kernel) ⟨by decide, by decide⟩ ⟨rfl, rfl⟩ dX2_init_116, ?_⟩
  refine List.forall_mem_cons.mpr ⟨s_aast C dX2_init_119, ?_⟩
  refine List.forall_mem_cons.mpr ⟨s_vret C M dX2_init_120, ?_⟩
  exact fun _ h => absurd h List.not_mem_nil
abbrev i_u1 : aS := a_uF (a_mn (a_new i_e 0 (fun _ => 0))) 0 0 (some 1)
abbrev i_u2 : aS := a_uF (a_new i_u1 2 (fun _ => 0)) 0 1 (some 2)
abbrev i_u3 : aS := a_uF (a_new i_u2 3 (fun _ => 0)) 0 2 (some 3)
abbrev i_u4 : aS := a_uF (a_uF (a_new (a_new i_u3 4 (fun _ => 0)) 5 (fun _ => 0)) 4 0 (some 5)) 0 3 (some 4)
theorem i_e46 : i_u4 = (i_D 0 0, i_F, i_B) := by
  rw [i_D_0]
  refine Prod.ext ?_ (Prod.ext ?_ ?_)
  · funext h k
    simp [a_uF, a_new, a_mn, i_e]
  · funext h k
    simp only [a_uF, a_new, a_mn, i_e, i_F, a_mnh]
    by_cases h0 : h = 0
    · subst h0
      by_cases k0 : k = 0
      · subst k0; rfl
      by_cases k1 : k = 1
      · subst k1; rfl
      by_cases k2 : k = 2
      · subst k2; rfl
      by_cases k3 : k = 3
      · subst k3; rfl
      simp [k0, k1, k2, k3, show ¬ k < 4 by omega]
    by_cases h1 : h = 1
    · subst h1; simp
    by_cases h4 : h = 4
    · subst h4; simp
    simp [h0, h1, h4]
  · funext h
    simp only [a_uF, a_new, a_mn, i_e, i_B, a_mnh]
    by_cases e : h < 10
    · rcases (show h = 0 ∨ h = 1 ∨ h = 2 ∨ h = 3 ∨ h = 4 ∨ h = 5 ∨ h = 6 ∨ h = 7 ∨ h = 8 ∨ h = 9 by omega) with rfl | rfl | rfl | rfl | rfl | rfl | rfl | rfl | rfl | rfl <;> rfl
    · simp [show ¬ h = 0 by omega, show ¬ h = 1 by omega, show ¬ h = 2 by omega, show ¬ h = 3 by omega, show ¬ h = 4 by omega, show ¬ h = 5 by omega, show ¬ h ≤ 9 by omega]
      omega
abbrev i_v1 : aS := a_uF (a_uF (a_uF (a_uI (a_uI (a_uI (a_uI (a_new (i_D 4 0, i_F, i_B) 64 (fun _ => 0)) 64 0 14) 64 1 0) 64 2 0) 64 3 0) 64 4 none) 64 5 none) 2 0 (some 64)
abbrev i_v2 : aS := a_uF (a_uF (a_uF (a_uI (a_uI (a_uI (a_uI (a_new i_v1 65 (fun _ => 0)) 65 0 15) 65 1 0) 65 2 0) 65 3 0) 65 4 none) 65 5 none) 2 1 (some 65)
theorem i_e125 : i_v2 = (i_I, i_F2, i_B2) := by
  refine Prod.ext ?_ (Prod.ext ?_ ?_)
  · funext h k
    simp only [i_v2, i_v1, a_uF, a_uI, a_new, i_I]
    by_cases h64 : h = 64
    · subst h64
      by_cases k0 : k = 0
      · subst k0; rfl
      · simp [k0, i_D]
    by_cases h65 : h = 65
    · subst h65
      by_cases k0 : k = 0
      · subst k0; rfl
      · simp [k0, i_D]
    simp [h64, h65]
  · funext h k
    simp only [i_v2, i_v1, a_uF, a_uI, a_new, i_F2]
    by_cases h64 : h = 64
    · subst h64
      simp [i_F]
    by_cases h65 : h = 65
    · subst h65
      simp [i_F]
    by_cases h2 : h = 2
    · subst h2
      by_cases k0 : k = 0
      · subst k0; rfl
      by_cases k1 : k = 1
      · subst k1; rfl
      simp [k0, k1]
    simp [h64, h65, h2]
  · funext h
    simp only [i_v2, i_v1, a_uF, a_uI, a_new, i_B2, i_B]
    by_cases h64 : h = 64
    · subst h64; rfl
    by_cases h65 : h = 65
    · subst h65; rfl
    simp [h64, h65]
set_option maxRecDepth 20000 in
set_option maxHeartbeats 4000000 in
theorem con_X2_init : a_Con l D G N0 yX2_init cX2_init 3 none (a_rm 2 11 263) sp_X2_init := by
  refine a_con (by decide) (fun as σ K h => by obtain ⟨rfl, -⟩ := h; exact (by decide : 1 ≤ 3)) ?_
  intro X as σ K h C Y M N
  obtain ⟨rfl, rfl, hK⟩ := h
  have hS := S_X2_init C Y M N
  have j80 : a_J X 80 [some (.inr (some 0)), some (.inl 4), some (.inl 8)] [] (i_D 4 0, i_F, i_B) 9 249 := by
    have j100 : a_J X 100 [some (.inr (some 0)), some (.inl 4), some (.inl 8)] [] i_v1 10 256 := by
      have hK : K none i_v2 := by rw [i_e125]; exact hK
      exact a_wp1 hS a_ivh (inv := a_iv X []) 40 100 _ rfl ⟨65, rfl, rfl, ⟨by decide, by decide⟩, 65, 15, 0, 0, 0, none, none, rfl, rfl, by decide, by decide, (show vp_in (nI 1) 6 from vp_in_nI (by decide) (by decide)), fun h' e => (by cases e; rfl), hK⟩
    exact a_wp1 hS a_ivh (inv := a_iv X [100]) 60 80 _ rfl ⟨64, rfl, rfl, ⟨by decide, by decide⟩, 64, 14, 0, 0, 0, none, none, rfl, rfl, by decide, by decide, (show vp_in (nI 0) 6 from vp_in_nI (by decide) (by decide)), fun h' e => (by cases e; rfl), j100⟩
  have inner : ∀ d m j, d < 4 → j + m = 8 → (d + 1 ≤ 4 → a_J X 46 [some (.inr (some 0)), some (.inl (nI (d + 1))), some (.inl 8)] [] (i_D (d + 1) 0, i_F, i_B) 9 249) → a_J X 53 [some (.inr (some 0)), some (.inl (nI d)), some (.inl (nI j))] [] (i_D d j, i_F, i_B) 9 249 := by
    intro d m
    induction m with
    | zero =>
      intro j hd hj H
      have hj : j = 8 := by omega
      subst hj
      have H := H (by omega)
      rw [← i_D_n, ← nI_1] at H
      exact a_wp1 hS a_ivh (inv := a_iv X [46, 65]) 40 53 _ rfl ⟨fun _ => H, fun w => absurd (show (8 : Int32) ≤ nI 8 by decide) w⟩
    | succ m ih =>
      intro j hd hj H
      have hn8 : ¬ (8 : Int32) ≤ nI j := by
        intro w
        have := (nI_leI (a := 8) (by decide) (by omega)).mp w
        omega
      have hv : vp_in (nI d) 4 := vp_in_nI (by omega) (by decide)
      have hvj : vp_in (nI j) 8 := vp_in_nI (by omega) (by decide)
      have cj : (nI j).toNatClampNeg = j := nI_clamp (by omega)
      have e : i_F 1 (nI d).toNatClampNeg = some (6 + d) := by
        rw [show (nI d).toNatClampNeg = d from nI_clamp (by omega)]
        exact if_pos (show d < 4 by omega)
      have hkd : kd (6 + d) = (4, 8) := by
        rcases (show d = 0 ∨ d = 1 ∨ d = 2 ∨ d = 3 by omega) with rfl | rfl | rfl | rfl <;> rfl
      have hA : a_isA (i_D d j, i_F, i_B) (6 + d) 4 = true := by
        show (i_B (6 + d) && (kd (6 + d)).1 == 4) = true
        rw [hkd, show i_B (6 + d) = true from decide_eq_true (by omega)]
        rfl
      have ih := ih (j + 1) hd (by omega) H
      rw [← i_D_s, ← nI_1 j] at ih
      refine a_wp1 hS a_ivh (inv := a_iv X [46, 65]) 40 53 _ rfl ⟨fun w => absurd w hn8, fun _ => ⟨hv, ?_⟩⟩
      show a_J X 65 [some (.inr (some 0)), some (.inl (nI d)), some (.inl (nI j))] [.inr (i_F 1 (nI d).toNatClampNeg)] (i_D d j, i_F, i_B) 9 249
      rw [e]
      have ih : a_J X 53 [some (.inr (some 0)), some (.inl (nI d)), some (.inl (nI j + 1))] [] (a_w (i_D d j) (6 + d) (nI j).toNatClampNeg (nI j), i_F, i_B) 9 249 := by rw [cj]; exact ih
      exact a_wp1 hS a_ivh (inv := a_iv X [53]) 40 65 _ rfl (a_gi hA ⟨by rw [hkd]; exact hvj, ih⟩)
  have outer : ∀ m d q, d + m = 4 → (m = 0 → q = some (.inl 8)) → a_J X 46 [some (.inr (some 0)), some (.inl (nI d)), q] [] (i_D d 0, i_F, i_B) 9 249 := by
    intro m
    induction m with
    | zero =>
      intro d q hd hq
      have hd : d = 4 := by omega
      subst hd
      rw [hq rfl]
      exact a_wp1 hS a_ivh (inv := a_iv X [80]) 40 46 _ rfl ⟨fun _ => j80, fun w => absurd (show (4 : Int32) ≤ nI 4 by decide) w⟩
    | succ m ih =>
      intro d q hd hq
      have hn4 : ¬ (4 : Int32) ≤ nI d := by
        intro w
        have := (nI_leI (a := 4) (by decide) (by omega)).mp w
        omega
      exact a_wp1 hS a_ivh (inv := a_iv X [53]) 40 46 _ rfl ⟨fun w => absurd w hn4, fun _ => inner d 8 0 (by omega) (by omega) (fun _ => ih (d + 1) (some (.inl 8)) (by omega) (fun _ => rfl))⟩
  have h46 := outer 4 0 none (by omega) (fun w => by omega)
  rw [← i_e46] at h46
  refine a_wps hS (inv := a_iv X [46]) a_ivh 60 _ _ _ _ _ _ ?_
  refine ⟨⟨rfl, rfl⟩, fun h e => ?_, by decide, rfl, 2, rfl, rfl, ⟨by decide, by decide⟩, by decide, rfl, 3, rfl, rfl, ⟨by decide, by decide⟩, by decide, 4, rfl, rfl, ⟨by decide, by decide⟩, rfl, rfl, rfl, by decide, h46⟩
  by_cases e0 : h = 0
  · subst e0; cases e
  · exact if_neg e0
end CA

