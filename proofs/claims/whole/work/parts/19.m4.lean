/-! ===== the reference's public methods (but pattern and the loops over the cloth) ===== -/
theorem tt_congr {M M' : Nat → Nat → Int32} (h17 : M 17 = M' 17) (h18 : M 18 = M' 18) (h19 : M 19 = M' 19) (h20 : M 20 = M' 20) (h21 : M 21 = M' 21) (h22 : M 22 = M' 22) (h24 : M 24 = M' 24) (h25 : M 25 = M' 25) : ∀ D, tt_T M D = tt_T M' D := by
  intro D
  induction D with
  | zero => rfl
  | succ D ih =>
    funext c x y s
    show (if 100 ≤ s.1 then ((4, 0, s) : tR) else t_b M (tt_T M D) c x y (s.1 + 1, s.2)) = (if 100 ≤ s.1 then ((4, 0, s) : tR) else t_b M' (tt_T M' D) c x y (s.1 + 1, s.2))
    rw [ih]
    unfold t_b t_s
    rw [h17, h18, h19, h20, h21, h22, h24, h25]
def sp_X3_work : aP := fun as σ K => ∃ I F B n E c x y, σ = a_mk I F B ∧ as = [.inr (some 16), .inl c, .inl x, .inl y] ∧ 101 ≤ E ∧ m_D I n ∧ m_cd n c ∧ ∀ (r : tR), r = tt_T I E c x y (0, I 16 12, I 16 11, I 23) → ∀ (g' : Int32) (A' : w5), (r.1 = 0 → g' = r.2.1) → K none (a_mk (m_r I r.2.2 r.1 g' 0 A') F B)
theorem rc_X3_work : ∀ as σ K, sp_X3_work as σ K → ∃ h As, as = .inr (some h) :: As ∧ a_is σ h 3 25 = true := by
  rintro as σ K ⟨I, F, B, n, E, c, x, y, rfl, rfl, -⟩
  exact ⟨16, _, rfl, rfl⟩
theorem w_e0 (I : Nat → Nat → Int32) : a_w (a_w (a_w (a_w I 16 19 0) 16 20 0) 16 13 0) 16 21 0 = m_r I (0, I 16 12, I 16 11, I 23) 0 0 (nI 0) (I 30, I 31, I 32, I 33, I 34) :=
  (congrArg (fun J => a_w (a_w (a_w (a_w J 16 19 0) 16 20 0) 16 13 0) 16 21 0) (mp_self I).symm).trans (by rw [mp_19, mp_20, mp_13, mp_21]; rfl)
set_option maxRecDepth 20000 in
theorem con_X3_work {l : Launch} {D : va_G} {G : aG} {N0 : Nat} : a_Con l D G N0 yX3_work cX3_work 6 none (a_rm 4 0 0) sp_X3_work := by
  refine a_con (by decide) (fun as σ K h => by obtain ⟨I, F, B, n, E, c, x, y, rfl, rfl, -⟩ := h; exact (by decide : 4 ≤ 6)) ?_
  intro X as σ K h C Y M _
  obtain ⟨I, F, B, n, E, c, x, y, rfl, rfl, hE, hD, hc, hK⟩ := h
  have hS := S_X3_work C Y M
  refine a_wps hS (inv := w_inv X) w_invh 60 _ _ _ _ _ _ ?_
  refine ⟨_, F, B, c, x, y, rfl, rfl, fun _ _ => (vp_in_nI (n := 0) (by decide) (by decide) : vp_in (nI 0) 104), ?_⟩
  have h := w_RL (X := X) (F := F) (B := B) hS hD E c x y (0, I 16 12, I 16 11, I 23) 0 0 0 (I 30, I 31, I 32, I 33, I 34) hc rfl (Nat.le_refl _) (by omega) (by omega) (fun g' A' hg _ => w_exit hS rfl (hK _ rfl g' A' hg))
  rw [← w_e0 I] at h
  exact h c x y none none
def m_wh (f : Int32) : Int32 := if f = 0 then 0 else -10 - f
def m_an (r : tR) : Int32 := if r.1 = 0 then r.2.1 else 0
def sp_X3_ask : aP := fun as σ K => ∃ I F B n E p x y, σ = a_mk I F B ∧ as = [.inr (some 16), .inl p, .inl x, .inl y] ∧ 101 ≤ E ∧ m_D I n ∧ (¬ m_in p 0 (I 16 0 - 1) = 0 → m_cd n p) ∧
  (m_in p 0 (I 16 0 - 1) = 0 → K (some (.inl 0)) (a_mk (a_w I 16 10 (-3)) F B)) ∧
  (¬ m_in p 0 (I 16 0 - 1) = 0 → ∀ (r : tR), r = tt_T I E p x y (0, 0, I 16 11, I 23) → ∀ (g' : Int32) (A' : w5), K (some (.inl (m_an r))) (a_mk (a_w (m_r (a_w (a_w I 16 10 0) 16 12 0) r.2.2 r.1 g' 0 A') 16 10 (m_wh r.1)) F B))
theorem rc_X3_ask : ∀ as σ K, sp_X3_ask as σ K → ∃ h As, as = .inr (some h) :: As ∧ a_is σ h 3 25 = true := by
  rintro as σ K ⟨I, F, B, n, E, c, x, y, rfl, rfl, -⟩
  exact ⟨16, _, rfl, rfl⟩
def P_X3_ask (K : aK) (bc bs : Nat) : List (Nat × aT) := [(0, t_ald 0 1),
  (1, t_ald 0 2),
  (2, t_ild 1 3),
  (3, t_call 2 0 0 bc bs sp_X3_isPattern 6),
  (6, t_if (fun x => x = 0) 13 9),
  (9, t_ic 0 10),
  (10, t_goto 15),
  (13, t_ic (-3) 15),
  (15, t_puti 3 25 10 18),
  (18, t_ald 0 19),
  (19, t_geti 3 25 10 22),
  (22, t_if (fun x => x = 0) 27 25),
  (25, t_ic 0 26),
  (26, t_iret K bc bs),
  (27, t_ald 0 28),
  (28, t_ic 0 29),
  (29, t_puti 3 25 12 32),
  (32, t_ald 0 33),
  (33, t_ild 1 34),
  (34, t_ild 2 35),
  (35, t_ild 3 36),
  (36, t_call 4 0 0 bc bs sp_X3_work 39),
  (39, t_ald 0 40),
  (40, t_ald 0 41),
  (41, t_geti 3 25 20 44),
  (44, t_if (fun x => x = 0) 47 51),
  (47, t_ic 0 48),
  (48, t_goto 58),
  (51, t_ic (-10) 53),
  (53, t_ald 0 54),
  (54, t_geti 3 25 20 57),
  (57, t_sub 58),
  (58, t_puti 3 25 10 61),
  (61, t_ald 0 62),
  (62, t_geti 3 25 20 65),
  (65, t_if (fun x => x = 0) 68 75),
  (68, t_ald 0 69),
  (69, t_geti 3 25 21 72),
  (72, t_goto 76),
  (75, t_ic 0 76),
  (76, t_iret K bc bs)]
set_option maxRecDepth 100000 in
theorem S_X3_ask {X : a_X} {K : aK} {l : Launch} {D : va_G} {G : aG} {N0 : Nat} (C : a_C X cX3_ask (some .int) RX3) (Y : a_Y X l (a_rm 5 0 0) D G N0) (M : a_mq X K (a_rm 5 0 0).cells (a_rm 5 0 0).slots) : ∀ x ∈ P_X3_ask K 0 0, a_Sd X x.1 x.2 := by
  unfold P_X3_ask
  refine List.forall_mem_cons.mpr ⟨s_aldn C dX3_ask_0 rfl, ?_⟩
  refine List.forall_mem_cons.mpr ⟨s_aldn C dX3_ask_1 rfl, ?_⟩
  refine List.forall_mem_cons.mpr ⟨s_ildn C dX3_ask_2 rfl, ?_⟩
  refine List.forall_mem_cons.mpr ⟨s_callV (rm := (a_rm 2 0 0)) (n := 1) C Y (ci := 3) rfl con_X3_isPattern rc_X3_isPattern co_X3_isPattern ml_X3_66 im_X3_isPattern se_X3_isPattern ii_X3 (by decide +kernel) ⟨by decide, by decide⟩ ⟨rfl, rfl⟩ dX3_ask_3, ?_⟩
  refine List.forall_mem_cons.mpr ⟨s_if_eq C dX3_ask_6 (by decide), ?_⟩
  refine List.forall_mem_cons.mpr ⟨s_ic C dX3_ask_9 (by decide), ?_⟩
  refine List.forall_mem_cons.mpr ⟨s_goto C dX3_ask_10 (by decide), ?_⟩
  refine List.forall_mem_cons.mpr ⟨s_bi C dX3_ask_13 (by decide), ?_⟩
  refine List.forall_mem_cons.mpr ⟨s_puti C tyX3 tyX3_ok nmX3 rfl in_X3 (by decide) lk_X3_63 rfl (Or.inl rfl) rfl dX3_ask_15, ?_⟩
  refine List.forall_mem_cons.mpr ⟨s_aldn C dX3_ask_18 rfl, ?_⟩
  refine List.forall_mem_cons.mpr ⟨s_geti C rfl in_X3 (by decide) lk_X3_63 rfl dX3_ask_19, ?_⟩
  refine List.forall_mem_cons.mpr ⟨s_if_eq C dX3_ask_22 (by decide), ?_⟩
  refine List.forall_mem_cons.mpr ⟨s_ic C dX3_ask_25 (by decide), ?_⟩
  refine List.forall_mem_cons.mpr ⟨s_iret C M dX3_ask_26, ?_⟩
  refine List.forall_mem_cons.mpr ⟨s_aldn C dX3_ask_27 rfl, ?_⟩
  refine List.forall_mem_cons.mpr ⟨s_ic C dX3_ask_28 (by decide), ?_⟩
  refine List.forall_mem_cons.mpr ⟨s_puti C tyX3 tyX3_ok nmX3 rfl in_X3 (by decide) lk_X3_110 rfl (Or.inl rfl) rfl dX3_ask_29, ?_⟩
  refine List.forall_mem_cons.mpr ⟨s_aldn C dX3_ask_32 rfl, ?_⟩
  refine List.forall_mem_cons.mpr ⟨s_ildn C dX3_ask_33 rfl, ?_⟩
  refine List.forall_mem_cons.mpr ⟨s_ildn C dX3_ask_34 rfl, ?_⟩
  refine List.forall_mem_cons.mpr ⟨s_ildn C dX3_ask_35 rfl, ?_⟩
  refine List.forall_mem_cons.mpr ⟨s_callV (rm := (a_rm 4 0 0)) (n := 3) C Y (ci := 3) rfl con_X3_work rc_X3_work co_X3_work ml_X3_126 im_X3_work se_X3_work ii_X3 (by decide +kernel) ⟨by decide, by decide⟩ ⟨rfl, rfl⟩ dX3_ask_36, ?_⟩
  refine List.forall_mem_cons.mpr ⟨s_aldn C dX3_ask_39 rfl, ?_⟩
  refine List.forall_mem_cons.mpr ⟨s_aldn C dX3_ask_40 rfl, ?_⟩
  refine List.forall_mem_cons.mpr ⟨s_geti C rfl in_X3 (by decide) lk_X3_77 rfl dX3_ask_41, ?_⟩
  refine List.forall_mem_cons.mpr ⟨s_if_ne C dX3_ask_44 (by decide), ?_⟩
  refine List.forall_mem_cons.mpr ⟨s_ic C dX3_ask_47 (by decide), ?_⟩
  refine List.forall_mem_cons.mpr ⟨s_goto C dX3_ask_48 (by decide), ?_⟩
  refine List.forall_mem_cons.mpr ⟨s_bi C dX3_ask_51 (by decide), ?_⟩
  refine List.forall_mem_cons.mpr ⟨s_aldn C dX3_ask_53 rfl, ?_⟩
  refine List.forall_mem_cons.mpr ⟨s_geti C rfl in_X3 (by decide) lk_X3_77 rfl dX3_ask_54, ?_⟩
  refine List.forall_mem_cons.mpr ⟨s_sub C dX3_ask_57, ?_⟩
  refine List.forall_mem_cons.mpr ⟨s_puti C tyX3 tyX3_ok nmX3 rfl in_X3 (by decide) lk_X3_63 rfl (Or.inl rfl) rfl dX3_ask_58, ?_⟩
  refine List.forall_mem_cons.mpr ⟨s_aldn C dX3_ask_61 rfl, ?_⟩
  refine List.forall_mem_cons.mpr ⟨s_geti C rfl in_X3 (by decide) lk_X3_77 rfl dX3_ask_62, ?_⟩
  refine List.forall_mem_cons.mpr ⟨s_if_ne C dX3_ask_65 (by decide), ?_⟩
  refine List.forall_mem_cons.mpr ⟨s_aldn C dX3_ask_68 rfl, ?_⟩
  refine List.forall_mem_cons.mpr ⟨s_geti C rfl in_X3 (by decide) lk_X3_83 rfl dX3_ask_69, ?_⟩
  refine List.forall_mem_cons.mpr ⟨s_goto C dX3_ask_72 (by decide), ?_⟩
  refine List.forall_mem_cons.mpr ⟨s_ic C dX3_ask_75 (by decide), ?_⟩
  refine List.forall_mem_cons.mpr ⟨s_iret C M dX3_ask_76, ?_⟩
  exact fun _ h => absurd h List.not_mem_nil
set_option maxRecDepth 20000 in
theorem con_X3_ask {l : Launch} {D : va_G} {G : aG} {N0 : Nat} : a_Con l D G N0 yX3_ask cX3_ask 4 (some .int) (a_rm 5 0 0) sp_X3_ask := by
  refine a_con (by decide) (fun as σ K h => by obtain ⟨I, F, B, n, E, c, x, y, rfl, rfl, -⟩ := h; exact (by decide : 4 ≤ 4)) ?_
  intro X as σ K h C Y M _
  obtain ⟨I, F, B, n, E, p, x, y, rfl, rfl, hE, hD, hc, hK1, hK2⟩ := h
  refine a_wps (S_X3_ask C Y M) (inv := a_ni) a_nih 60 _ _ _ _ _ _ ?_
  refine ⟨I, F, B, p, rfl, rfl, fun h1 => ?_, fun h1 => ?_⟩
  · exact ⟨fun w => absurd w (show ¬ (-3 : Int32) = 0 by decide), fun _ => hK1 h1⟩
  · have hK := hK2 h1
    refine ⟨fun _ => ⟨_, F, B, n, E, p, x, y, rfl, rfl, hE, hD, hc h1, fun r hr g' A' hg => ?_⟩, fun w => absurd (rfl : (0 : Int32) = 0) w⟩
    have hr2 : r = tt_T I E p x y (0, 0, I 16 11, I 23) := by
      rw [hr]
      exact congrFun (congrFun (congrFun (congrFun (tt_congr (M := (a_uI (a_uI (a_mk I F B) 16 10 0) 16 12 0).1) (M' := I) rfl rfl rfl rfl rfl rfl rfl rfl E) p) x) y) (0, 0, I 16 11, I 23)
    have hK := hK r hr2 g' A'
    clear hr hr2
    by_cases hz : r.1 = 0
    · rw [show m_an r = _ from if_pos hz, show m_wh r.1 = _ from if_pos hz, ← hg hz] at hK
      exact ⟨fun _ => ⟨fun _ => hK, fun w => absurd hz w⟩, fun w => absurd hz w⟩
    · rw [show m_an r = _ from if_neg hz, show m_wh r.1 = _ from if_neg hz] at hK
      exact ⟨fun w => absurd w hz, fun _ => ⟨fun w => absurd w hz, fun _ => hK⟩⟩
def sp_X3_dye : aP := fun as σ K => ∃ I F B d i v, σ = a_mk I F B ∧ as = [.inr (some 16), .inl d, .inl i, .inl v] ∧
  ((m_in d 0 3 = 0 ∨ m_in i 0 7 = 0) → K (some (.inl 0)) (a_mk (a_w I 16 10 (-3)) F B)) ∧ (¬ m_in d 0 3 = 0 → ¬ m_in i 0 7 = 0 → K (some (.inl (I 24 (8 * d + i).toNatClampNeg))) (a_mk (a_w (a_w I 16 10 0) 24 (8 * d + i).toNatClampNeg v) F B))
theorem rc_X3_dye : ∀ as σ K, sp_X3_dye as σ K → ∃ h As, as = .inr (some h) :: As ∧ a_is σ h 3 25 = true := by
  rintro as σ K ⟨I, F, B, c, x, y, rfl, rfl, -⟩
  exact ⟨16, _, rfl, rfl⟩
def P_X3_dye (K : aK) (bc bs : Nat) : List (Nat × aT) := [(0, t_ald 0 1),
  (1, t_ild 1 2),
  (2, t_ic 0 3),
  (3, t_ic 3 4),
  (4, t_call 3 0 0 bc bs sp_X3_in 7),
  (7, t_if (fun x => x = 0) 24 10),
  (10, t_ild 2 11),
  (11, t_ic 0 12),
  (12, t_ic 7 14),
  (14, t_call 3 0 0 bc bs sp_X3_in 17),
  (17, t_if (fun x => x = 0) 24 20),
  (20, t_ic 0 21),
  (21, t_goto 26),
  (24, t_ic (-3) 26),
  (26, t_puti 3 25 10 29),
  (29, t_ald 0 30),
  (30, t_geti 3 25 10 33),
  (33, t_if (fun x => x = 0) 38 36),
  (36, t_ic 0 37),
  (37, t_iret K bc bs),
  (38, t_ald 0 39),
  (39, t_getr 3 25 8 42),
  (42, t_ic 8 44),
  (44, t_ild 1 45),
  (45, t_mul 46),
  (46, t_ild 2 47),
  (47, t_add 48),
  (48, t_iald 49),
  (49, t_ist 4 51),
  (51, t_ald 0 52),
  (52, t_getr 3 25 8 55),
  (55, t_ic 8 57),
  (57, t_ild 1 58),
  (58, t_mul 59),
  (59, t_ild 2 60),
  (60, t_add 61),
  (61, t_ild 3 62),
  (62, t_iast 63),
  (63, t_ild 4 65),
  (65, t_iret K bc bs)]
set_option maxRecDepth 100000 in
theorem S_X3_dye {X : a_X} {K : aK} {l : Launch} {D : va_G} {G : aG} {N0 : Nat} (C : a_C X cX3_dye (some .int) RX3) (Y : a_Y X l (a_rm 2 0 0) D G N0) (M : a_mq X K (a_rm 2 0 0).cells (a_rm 2 0 0).slots) : ∀ x ∈ P_X3_dye K 0 0, a_Sd X x.1 x.2 := by
  unfold P_X3_dye
  refine List.forall_mem_cons.mpr ⟨s_aldn C dX3_dye_0 rfl, ?_⟩
  refine List.forall_mem_cons.mpr ⟨s_ildn C dX3_dye_1 rfl, ?_⟩
  refine List.forall_mem_cons.mpr ⟨s_ic C dX3_dye_2 (by decide), ?_⟩
  refine List.forall_mem_cons.mpr ⟨s_ic C dX3_dye_3 (by decide), ?_⟩
  refine List.forall_mem_cons.mpr ⟨s_callS (rm := (a_rm 1 0 0)) C Y con_X3_in co_X3_in ml_X3_59 st_X3_in ii_X3 (by decide +kernel) ⟨by decide, by decide⟩ ⟨rfl, rfl⟩ dX3_dye_4, ?_⟩
  refine List.forall_mem_cons.mpr ⟨s_if_eq C dX3_dye_7 (by decide), ?_⟩
  refine List.forall_mem_cons.mpr ⟨s_ildn C dX3_dye_10 rfl, ?_⟩
  refine List.forall_mem_cons.mpr ⟨s_ic C dX3_dye_11 (by decide), ?_⟩
  refine List.forall_mem_cons.mpr ⟨s_bi C dX3_dye_12 (by decide), ?_⟩
  refine List.forall_mem_cons.mpr ⟨s_callS (rm := (a_rm 1 0 0)) C Y con_X3_in co_X3_in ml_X3_59 st_X3_in ii_X3 (by decide +kernel) ⟨by decide, by decide⟩ ⟨rfl, rfl⟩ dX3_dye_14, ?_⟩
  refine List.forall_mem_cons.mpr ⟨s_if_eq C dX3_dye_17 (by decide), ?_⟩
  refine List.forall_mem_cons.mpr ⟨s_ic C dX3_dye_20 (by decide), ?_⟩
  refine List.forall_mem_cons.mpr ⟨s_goto C dX3_dye_21 (by decide), ?_⟩
  refine List.forall_mem_cons.mpr ⟨s_bi C dX3_dye_24 (by decide), ?_⟩
  refine List.forall_mem_cons.mpr ⟨s_puti C tyX3 tyX3_ok nmX3 rfl in_X3 (by decide) lk_X3_63 rfl (Or.inl rfl) rfl dX3_dye_26, ?_⟩
  refine List.forall_mem_cons.mpr ⟨s_aldn C dX3_dye_29 rfl, ?_⟩
  refine List.forall_mem_cons.mpr ⟨s_geti C rfl in_X3 (by decide) lk_X3_63 rfl dX3_dye_30, ?_⟩
  refine List.forall_mem_cons.mpr ⟨s_if_eq C dX3_dye_33 (by decide), ?_⟩
  refine List.forall_mem_cons.mpr ⟨s_ic C dX3_dye_36 (by decide), ?_⟩
  refine List.forall_mem_cons.mpr ⟨s_iret C M dX3_dye_37, ?_⟩
  refine List.forall_mem_cons.mpr ⟨s_aldn C dX3_dye_38 rfl, ?_⟩
  refine List.forall_mem_cons.mpr ⟨s_getr C rfl in_X3 (by decide) lk_X3_31 rfl dX3_dye_39, ?_⟩
  refine List.forall_mem_cons.mpr ⟨s_bi C dX3_dye_42 (by decide), ?_⟩
  refine List.forall_mem_cons.mpr ⟨s_ildn C dX3_dye_44 rfl, ?_⟩
  refine List.forall_mem_cons.mpr ⟨s_mul C dX3_dye_45, ?_⟩
  refine List.forall_mem_cons.mpr ⟨s_ildn C dX3_dye_46 rfl, ?_⟩
  refine List.forall_mem_cons.mpr ⟨s_add C dX3_dye_47, ?_⟩
  refine List.forall_mem_cons.mpr ⟨s_iald C dX3_dye_48, ?_⟩
  refine List.forall_mem_cons.mpr ⟨s_ist C dX3_dye_49, ?_⟩
  refine List.forall_mem_cons.mpr ⟨s_aldn C dX3_dye_51 rfl, ?_⟩
  refine List.forall_mem_cons.mpr ⟨s_getr C rfl in_X3 (by decide) lk_X3_31 rfl dX3_dye_52, ?_⟩
  refine List.forall_mem_cons.mpr ⟨s_bi C dX3_dye_55 (by decide), ?_⟩
  refine List.forall_mem_cons.mpr ⟨s_ildn C dX3_dye_57 rfl, ?_⟩
  refine List.forall_mem_cons.mpr ⟨s_mul C dX3_dye_58, ?_⟩
  refine List.forall_mem_cons.mpr ⟨s_ildn C dX3_dye_59 rfl, ?_⟩
  refine List.forall_mem_cons.mpr ⟨s_add C dX3_dye_60, ?_⟩
  refine List.forall_mem_cons.mpr ⟨s_ildn C dX3_dye_61 rfl, ?_⟩
  refine List.forall_mem_cons.mpr ⟨s_iast C dX3_dye_62, ?_⟩
  refine List.forall_mem_cons.mpr ⟨s_ild C dX3_dye_63, ?_⟩
  refine List.forall_mem_cons.mpr ⟨s_iret C M dX3_dye_65, ?_⟩
  exact fun _ h => absurd h List.not_mem_nil
set_option maxRecDepth 20000 in
theorem con_X3_dye {l : Launch} {D : va_G} {G : aG} {N0 : Nat} : a_Con l D G N0 yX3_dye cX3_dye 5 (some .int) (a_rm 2 0 0) sp_X3_dye := by
  refine a_con (by decide) (fun as σ K h => by obtain ⟨I, F, B, c, x, y, rfl, rfl, -⟩ := h; exact (by decide : 4 ≤ 5)) ?_
  intro X as σ K h C Y M _
  obtain ⟨I, F, B, d, i, v, rfl, rfl, hK1, hK2⟩ := h
  refine a_wps (S_X3_dye C Y M) (inv := a_ni) a_nih 60 _ _ _ _ _ _ ?_
  refine ⟨d, 0, 3, rfl, fun h1 => ?_, fun h1 => ⟨i, 0, 7, rfl, fun h2 => ?_, fun h2 => ?_⟩⟩
  · exact ⟨fun w => absurd w (show ¬ (-3 : Int32) = 0 by decide), fun _ => hK1 (Or.inl h1)⟩
  · exact ⟨fun w => absurd w (show ¬ (-3 : Int32) = 0 by decide), fun _ => hK1 (Or.inr h2)⟩
  · have hv : vp_in (8 * d + i) 32 := by
      obtain ⟨d', hd, rfl⟩ := m_in_n (b := 3) (by decide) h1
      obtain ⟨i', hi, rfl⟩ := m_in_n (b := 7) (by decide) h2
      exact a_8in (by omega) (by omega)
    exact ⟨fun _ => ⟨hv, hv, hK2 h1 h2⟩, fun w => absurd (rfl : (0 : Int32) = 0) w⟩
def m_there (c0 s a b c : Int32) : Int32 :=
  if s = 0 then 1 else if s = 1 then 1 else if s = 2 then 1 else if s = 3 then m_in a 0 c0 else if s = 4 then m_in a 0 c0
  else if s = 5 then (if m_in a 0 c0 = 0 then 0 else if m_in b 0 c0 = 0 then 0 else 1)
  else if s = 6 then (if m_in a 0 c0 = 0 then 0 else if m_in b 0 c0 = 0 then 0 else if m_in c 0 c0 = 0 then 0 else 1)
  else if s = 7 then (if m_in a 0 c0 = 0 then 0 else if m_in b 0 3 = 0 then 0 else 1)
  else if s = 8 then (if m_in a 0 c0 = 0 then 0 else if m_in b 0 3 = 0 then 0 else 1)
  else if s = 9 then m_in a 0 5 else if s = 10 then m_in a 0 c0
  else if s = 11 then (if m_in a 0 c0 = 0 then 0 else if m_in b 0 c0 = 0 then 0 else 1)
  else if s = 12 then m_in a 0 c0 else if s = 13 then m_in a 0 5 else m_in a 0 c0
def sp_X3_areThere : aP := fun as σ K => ∃ I F B s a b c, σ = a_mk I F B ∧ as = [.inr (some 16), .inl s, .inl a, .inl b, .inl c] ∧ K (some (.inl (m_there (I 16 0 - 1) s a b c))) σ
theorem rc_X3_areThere : ∀ as σ K, sp_X3_areThere as σ K → ∃ h As, as = .inr (some h) :: As ∧ a_is σ h 3 25 = true := by
  rintro as σ K ⟨I, F, B, s, a, b, c, rfl, rfl, -⟩
  exact ⟨16, _, rfl, rfl⟩
def P_X3_areThere (K : aK) (bc bs : Nat) : List (Nat × aT) := [(0, t_ild 1 1),
  (1, t_sw [(0, 72), (1, 72), (2, 72), (3, 157), (4, 157), (5, 74), (6, 96), (7, 127), (8, 127), (9, 150), (10, 157), (11, 74), (12, 157), (13, 150)] 157),
  (72, t_ic 1 73),
  (73, t_zret K bc bs),
  (74, t_ald 0 75),
  (75, t_ild 2 76),
  (76, t_call 2 0 0 bc bs sp_X3_isPattern 79),
  (79, t_if (fun x => x = 0) 94 82),
  (82, t_ald 0 83),
  (83, t_ild 3 84),
  (84, t_call 2 0 0 bc bs sp_X3_isPattern 87),
  (87, t_if (fun x => x = 0) 94 90),
  (90, t_ic 1 91),
  (91, t_goto 95),
  (94, t_ic 0 95),
  (95, t_zret K bc bs),
  (96, t_ald 0 97),
  (97, t_ild 2 98),
  (98, t_call 2 0 0 bc bs sp_X3_isPattern 101),
  (101, t_if (fun x => x = 0) 125 104),
  (104, t_ald 0 105),
  (105, t_ild 3 106),
  (106, t_call 2 0 0 bc bs sp_X3_isPattern 109),
  (109, t_if (fun x => x = 0) 125 112),
  (112, t_ald 0 113),
  (113, t_ild 4 115),
  (115, t_call 2 0 0 bc bs sp_X3_isPattern 118),
  (118, t_if (fun x => x = 0) 125 121),
  (121, t_ic 1 122),
  (122, t_goto 126),
  (125, t_ic 0 126),
  (126, t_zret K bc bs),
  (127, t_ald 0 128),
  (128, t_ild 2 129),
  (129, t_call 2 0 0 bc bs sp_X3_isPattern 132),
  (132, t_if (fun x => x = 0) 148 135),
  (135, t_ild 3 136),
  (136, t_ic 0 137),
  (137, t_ic 3 138),
  (138, t_call 3 0 0 bc bs sp_X3_in 141),
  (141, t_if (fun x => x = 0) 148 144),
  (144, t_ic 1 145),
  (145, t_goto 149),
  (148, t_ic 0 149),
  (149, t_zret K bc bs),
  (150, t_ild 2 151),
  (151, t_ic 0 152),
  (152, t_ic 5 153),
  (153, t_call 3 0 0 bc bs sp_X3_in 156),
  (156, t_zret K bc bs),
  (157, t_ald 0 158),
  (158, t_ild 2 159),
  (159, t_call 2 0 0 bc bs sp_X3_isPattern 162),
  (162, t_zret K bc bs)]
set_option maxRecDepth 100000 in
theorem S_X3_areThere {X : a_X} {K : aK} {l : Launch} {D : va_G} {G : aG} {N0 : Nat} (C : a_C X cX3_areThere (some .boolean) RX3) (Y : a_Y X l (a_rm 3 0 0) D G N0) (M : a_mq X K (a_rm 3 0 0).cells (a_rm 3 0 0).slots) : ∀ x ∈ P_X3_areThere K 0 0, a_Sd X x.1 x.2 := by
  unfold P_X3_areThere
  refine List.forall_mem_cons.mpr ⟨s_ildn C dX3_areThere_0 rfl, ?_⟩
  refine List.forall_mem_cons.mpr ⟨s_tsw C dX3_areThere_1 (a_tok_of2 13 (by decide) (by decide) (by decide) (by decide)), ?_⟩
  refine List.forall_mem_cons.mpr ⟨s_ic C dX3_areThere_72 (by decide), ?_⟩
  refine List.forall_mem_cons.mpr ⟨s_zret C M dX3_areThere_73, ?_⟩
  refine List.forall_mem_cons.mpr ⟨s_aldn C dX3_areThere_74 rfl, ?_⟩
  refine List.forall_mem_cons.mpr ⟨s_ildn C dX3_areThere_75 rfl, ?_⟩
  refine List.forall_mem_cons.mpr ⟨s_callV (rm := (a_rm 2 0 0)) (n := 1) C Y (ci := 3) rfl con_X3_isPattern rc_X3_isPattern co_X3_isPattern ml_X3_66 im_X3_isPattern se_X3_isPattern ii_X3 (by decide +kernel) ⟨by decide, by decide⟩ ⟨rfl, rfl⟩ dX3_areThere_76, ?_⟩
  refine List.forall_mem_cons.mpr ⟨s_if_eq C dX3_areThere_79 (by decide), ?_⟩
  refine List.forall_mem_cons.mpr ⟨s_aldn C dX3_areThere_82 rfl, ?_⟩
  refine List.forall_mem_cons.mpr ⟨s_ildn C dX3_areThere_83 rfl, ?_⟩
  refine List.forall_mem_cons.mpr ⟨s_callV (rm := (a_rm 2 0 0)) (n := 1) C Y (ci := 3) rfl con_X3_isPattern rc_X3_isPattern co_X3_isPattern ml_X3_66 im_X3_isPattern se_X3_isPattern ii_X3 (by decide +kernel) ⟨by decide, by decide⟩ ⟨rfl, rfl⟩ dX3_areThere_84, ?_⟩
  refine List.forall_mem_cons.mpr ⟨s_if_eq C dX3_areThere_87 (by decide), ?_⟩
  refine List.forall_mem_cons.mpr ⟨s_ic C dX3_areThere_90 (by decide), ?_⟩
  refine List.forall_mem_cons.mpr ⟨s_goto C dX3_areThere_91 (by decide), ?_⟩
  refine List.forall_mem_cons.mpr ⟨s_ic C dX3_areThere_94 (by decide), ?_⟩
  refine List.forall_mem_cons.mpr ⟨s_zret C M dX3_areThere_95, ?_⟩
  refine List.forall_mem_cons.mpr ⟨s_aldn C dX3_areThere_96 rfl, ?_⟩
  refine List.forall_mem_cons.mpr ⟨s_ildn C dX3_areThere_97 rfl, ?_⟩
  refine List.forall_mem_cons.mpr ⟨s_callV (rm := (a_rm 2 0 0)) (n := 1) C Y (ci := 3) rfl con_X3_isPattern rc_X3_isPattern co_X3_isPattern ml_X3_66 im_X3_isPattern se_X3_isPattern ii_X3 (by decide +kernel) ⟨by decide, by decide⟩ ⟨rfl, rfl⟩ dX3_areThere_98, ?_⟩
  refine List.forall_mem_cons.mpr ⟨s_if_eq C dX3_areThere_101 (by decide), ?_⟩
  refine List.forall_mem_cons.mpr ⟨s_aldn C dX3_areThere_104 rfl, ?_⟩
  refine List.forall_mem_cons.mpr ⟨s_ildn C dX3_areThere_105 rfl, ?_⟩
  refine List.forall_mem_cons.mpr ⟨s_callV (rm := (a_rm 2 0 0)) (n := 1) C Y (ci := 3) rfl con_X3_isPattern rc_X3_isPattern co_X3_isPattern ml_X3_66 im_X3_isPattern se_X3_isPattern ii_X3 (by decide +kernel) ⟨by decide, by decide⟩ ⟨rfl, rfl⟩ dX3_areThere_106, ?_⟩
  refine List.forall_mem_cons.mpr ⟨s_if_eq C dX3_areThere_109 (by decide), ?_⟩
  refine List.forall_mem_cons.mpr ⟨s_aldn C dX3_areThere_112 rfl, ?_⟩
  refine List.forall_mem_cons.mpr ⟨s_ild C dX3_areThere_113, ?_⟩
  refine List.forall_mem_cons.mpr ⟨s_callV (rm := (a_rm 2 0 0)) (n := 1) C Y (ci := 3) rfl con_X3_isPattern rc_X3_isPattern co_X3_isPattern ml_X3_66 im_X3_isPattern se_X3_isPattern ii_X3 (by decide +kernel) ⟨by decide, by decide⟩ ⟨rfl, rfl⟩ dX3_areThere_115, ?_⟩
  refine List.forall_mem_cons.mpr ⟨s_if_eq C dX3_areThere_118 (by decide), ?_⟩
  refine List.forall_mem_cons.mpr ⟨s_ic C dX3_areThere_121 (by decide), ?_⟩
  refine List.forall_mem_cons.mpr ⟨s_goto C dX3_areThere_122 (by decide), ?_⟩
  refine List.forall_mem_cons.mpr ⟨s_ic C dX3_areThere_125 (by decide), ?_⟩
  refine List.forall_mem_cons.mpr ⟨s_zret C M dX3_areThere_126, ?_⟩
  refine List.forall_mem_cons.mpr ⟨s_aldn C dX3_areThere_127 rfl, ?_⟩
  refine List.forall_mem_cons.mpr ⟨s_ildn C dX3_areThere_128 rfl, ?_⟩
  refine List.forall_mem_cons.mpr ⟨s_callV (rm := (a_rm 2 0 0)) (n := 1) C Y (ci := 3) rfl con_X3_isPattern rc_X3_isPattern co_X3_isPattern ml_X3_66 im_X3_isPattern se_X3_isPattern ii_X3 (by decide +kernel) ⟨by decide, by decide⟩ ⟨rfl, rfl⟩ dX3_areThere_129, ?_⟩
  refine List.forall_mem_cons.mpr ⟨s_if_eq C dX3_areThere_132 (by decide), ?_⟩
  refine List.forall_mem_cons.mpr ⟨s_ildn C dX3_areThere_135 rfl, ?_⟩
  refine List.forall_mem_cons.mpr ⟨s_ic C dX3_areThere_136 (by decide), ?_⟩
  refine List.forall_mem_cons.mpr ⟨s_ic C dX3_areThere_137 (by decide), ?_⟩
  refine List.forall_mem_cons.mpr ⟨s_callS (rm := (a_rm 1 0 0)) C Y con_X3_in co_X3_in ml_X3_59 st_X3_in ii_X3 (by decide +kernel) ⟨by decide, by decide⟩ ⟨rfl, rfl⟩ dX3_areThere_138, ?_⟩
  refine List.forall_mem_cons.mpr ⟨s_if_eq C dX3_areThere_141 (by decide), ?_⟩
  refine List.forall_mem_cons.mpr ⟨s_ic C dX3_areThere_144 (by decide), ?_⟩
  refine List.forall_mem_cons.mpr ⟨s_goto C dX3_areThere_145 (by decide), ?_⟩
  refine List.forall_mem_cons.mpr ⟨s_ic C dX3_areThere_148 (by decide), ?_⟩
  refine List.forall_mem_cons.mpr ⟨s_zret C M dX3_areThere_149, ?_⟩
  refine List.forall_mem_cons.mpr ⟨s_ildn C dX3_areThere_150 rfl, ?_⟩
  refine List.forall_mem_cons.mpr ⟨s_ic C dX3_areThere_151 (by decide), ?_⟩
  refine List.forall_mem_cons.mpr ⟨s_ic C dX3_areThere_152 (by decide), ?_⟩
  refine List.forall_mem_cons.mpr ⟨s_callS (rm := (a_rm 1 0 0)) C Y con_X3_in co_X3_in ml_X3_59 st_X3_in ii_X3 (by decide +kernel) ⟨by decide, by decide⟩ ⟨rfl, rfl⟩ dX3_areThere_153, ?_⟩
  refine List.forall_mem_cons.mpr ⟨s_zret C M dX3_areThere_156, ?_⟩
  refine List.forall_mem_cons.mpr ⟨s_aldn C dX3_areThere_157 rfl, ?_⟩
  refine List.forall_mem_cons.mpr ⟨s_ildn C dX3_areThere_158 rfl, ?_⟩
  refine List.forall_mem_cons.mpr ⟨s_callV (rm := (a_rm 2 0 0)) (n := 1) C Y (ci := 3) rfl con_X3_isPattern rc_X3_isPattern co_X3_isPattern ml_X3_66 im_X3_isPattern se_X3_isPattern ii_X3 (by decide +kernel) ⟨by decide, by decide⟩ ⟨rfl, rfl⟩ dX3_areThere_159, ?_⟩
  refine List.forall_mem_cons.mpr ⟨s_zret C M dX3_areThere_162, ?_⟩
  exact fun _ h => absurd h List.not_mem_nil
set_option maxRecDepth 20000 in
theorem con_X3_areThere {l : Launch} {D : va_G} {G : aG} {N0 : Nat} : a_Con l D G N0 yX3_areThere cX3_areThere 5 (some .boolean) (a_rm 3 0 0) sp_X3_areThere := by
  refine a_con (by decide) (fun as σ K h => by obtain ⟨I, F, B, s, a, b, c, rfl, rfl, -⟩ := h; exact (by decide : 5 ≤ 5)) ?_
  intro X as σ K h C Y M _
  obtain ⟨I, F, B, s, a, b, c, rfl, rfl, hK⟩ := h
  refine a_wps (S_X3_areThere C Y M) (inv := a_ni) a_nih 60 _ _ _ _ _ _ ?_
  unfold m_there at hK
  refine ⟨fun h0 => ?_, fun h0 => ⟨fun h1 => ?_, fun h1 => ⟨fun h2 => ?_, fun h2 => ⟨fun h3 => ?_, fun h3 => ⟨fun h4 => ?_, fun h4 => ⟨fun h5 => ?_, fun h5 => ⟨fun h6 => ?_, fun h6 => ⟨fun h7 => ?_, fun h7 => ⟨fun h8 => ?_, fun h8 => ⟨fun h9 => ?_, fun h9 => ⟨fun h10 => ?_, fun h10 => ⟨fun h11 => ?_, fun h11 => ⟨fun h12 => ?_, fun h12 => ⟨fun h13 => ?_, fun h13 => ?_⟩⟩⟩⟩⟩⟩⟩⟩⟩⟩⟩⟩⟩⟩
  · rw [if_pos h0] at hK; exact ⟨Or.inr rfl, hK⟩
  · rw [if_neg h0, if_pos h1] at hK; exact ⟨Or.inr rfl, hK⟩
  · rw [if_neg h0, if_neg h1, if_pos h2] at hK; exact ⟨Or.inr rfl, hK⟩
  · rw [if_neg h0, if_neg h1, if_neg h2, if_pos h3] at hK; exact ⟨I, F, B, _, rfl, rfl, m_in_01 _ _ _, hK⟩
  · rw [if_neg h0, if_neg h1, if_neg h2, if_neg h3, if_pos h4] at hK; exact ⟨I, F, B, _, rfl, rfl, m_in_01 _ _ _, hK⟩
  · rw [if_neg h0, if_neg h1, if_neg h2, if_neg h3, if_neg h4, if_pos h5] at hK
    refine ⟨I, F, B, _, rfl, rfl, fun z => ?_, fun z => ⟨I, F, B, _, rfl, rfl, fun z2 => ?_, fun z2 => ?_⟩⟩
    · rw [if_pos z] at hK; exact ⟨Or.inl rfl, hK⟩
    · rw [if_neg z, if_pos z2] at hK; exact ⟨Or.inl rfl, hK⟩
    · rw [if_neg z, if_neg z2] at hK; exact ⟨Or.inr rfl, hK⟩
  · rw [if_neg h0, if_neg h1, if_neg h2, if_neg h3, if_neg h4, if_neg h5, if_pos h6] at hK
    refine ⟨I, F, B, _, rfl, rfl, fun z => ?_, fun z => ⟨I, F, B, _, rfl, rfl, fun z2 => ?_, fun z2 => ⟨I, F, B, _, rfl, rfl, fun z3 => ?_, fun z3 => ?_⟩⟩⟩
    · rw [if_pos z] at hK; exact ⟨Or.inl rfl, hK⟩
    · rw [if_neg z, if_pos z2] at hK; exact ⟨Or.inl rfl, hK⟩
    · rw [if_neg z, if_neg z2, if_pos z3] at hK; exact ⟨Or.inl rfl, hK⟩
    · rw [if_neg z, if_neg z2, if_neg z3] at hK; exact ⟨Or.inr rfl, hK⟩
  · rw [if_neg h0, if_neg h1, if_neg h2, if_neg h3, if_neg h4, if_neg h5, if_neg h6, if_pos h7] at hK
    refine ⟨I, F, B, _, rfl, rfl, fun z => ?_, fun z => ⟨_, _, _, rfl, fun z2 => ?_, fun z2 => ?_⟩⟩
    · rw [if_pos z] at hK; exact ⟨Or.inl rfl, hK⟩
    · rw [if_neg z, if_pos z2] at hK; exact ⟨Or.inl rfl, hK⟩
    · rw [if_neg z, if_neg z2] at hK; exact ⟨Or.inr rfl, hK⟩
  · rw [if_neg h0, if_neg h1, if_neg h2, if_neg h3, if_neg h4, if_neg h5, if_neg h6, if_neg h7, if_pos h8] at hK
    refine ⟨I, F, B, _, rfl, rfl, fun z => ?_, fun z => ⟨_, _, _, rfl, fun z2 => ?_, fun z2 => ?_⟩⟩
    · rw [if_pos z] at hK; exact ⟨Or.inl rfl, hK⟩
    · rw [if_neg z, if_pos z2] at hK; exact ⟨Or.inl rfl, hK⟩
    · rw [if_neg z, if_neg z2] at hK; exact ⟨Or.inr rfl, hK⟩
  · rw [if_neg h0, if_neg h1, if_neg h2, if_neg h3, if_neg h4, if_neg h5, if_neg h6, if_neg h7, if_neg h8, if_pos h9] at hK; exact ⟨_, _, _, rfl, m_in_01 _ _ _, hK⟩
  · rw [if_neg h0, if_neg h1, if_neg h2, if_neg h3, if_neg h4, if_neg h5, if_neg h6, if_neg h7, if_neg h8, if_neg h9, if_pos h10] at hK; exact ⟨I, F, B, _, rfl, rfl, m_in_01 _ _ _, hK⟩
  · rw [if_neg h0, if_neg h1, if_neg h2, if_neg h3, if_neg h4, if_neg h5, if_neg h6, if_neg h7, if_neg h8, if_neg h9, if_neg h10, if_pos h11] at hK
    refine ⟨I, F, B, _, rfl, rfl, fun z => ?_, fun z => ⟨I, F, B, _, rfl, rfl, fun z2 => ?_, fun z2 => ?_⟩⟩
    · rw [if_pos z] at hK; exact ⟨Or.inl rfl, hK⟩
    · rw [if_neg z, if_pos z2] at hK; exact ⟨Or.inl rfl, hK⟩
    · rw [if_neg z, if_neg z2] at hK; exact ⟨Or.inr rfl, hK⟩
  · rw [if_neg h0, if_neg h1, if_neg h2, if_neg h3, if_neg h4, if_neg h5, if_neg h6, if_neg h7, if_neg h8, if_neg h9, if_neg h10, if_neg h11, if_pos h12] at hK; exact ⟨I, F, B, _, rfl, rfl, m_in_01 _ _ _, hK⟩
  · rw [if_neg h0, if_neg h1, if_neg h2, if_neg h3, if_neg h4, if_neg h5, if_neg h6, if_neg h7, if_neg h8, if_neg h9, if_neg h10, if_neg h11, if_neg h12, if_pos h13] at hK; exact ⟨_, _, _, rfl, m_in_01 _ _ _, hK⟩
  · rw [if_neg h0, if_neg h1, if_neg h2, if_neg h3, if_neg h4, if_neg h5, if_neg h6, if_neg h7, if_neg h8, if_neg h9, if_neg h10, if_neg h11, if_neg h12, if_neg h13] at hK; exact ⟨I, F, B, _, rfl, rfl, m_in_01 _ _ _, hK⟩
def sp_X3_name : aP := fun as σ K => ∃ I F B n p, σ = a_mk I F B ∧ as = [.inr (some 16), .inl n, .inl p] ∧
  ((m_in n 0 5 = 0 ∨ (¬ p = -1 ∧ m_in p 0 (I 16 0 - 1) = 0)) → K (some (.inl (-3))) σ) ∧ (¬ m_in n 0 5 = 0 → (p = -1 ∨ ¬ m_in p 0 (I 16 0 - 1) = 0) → K (some (.inl (if I 25 n.toNatClampNeg = -1 then 0 else 1))) (a_mk (a_w I 25 n.toNatClampNeg p) F B))
theorem rc_X3_name : ∀ as σ K, sp_X3_name as σ K → ∃ h As, as = .inr (some h) :: As ∧ a_is σ h 3 25 = true := by
  rintro as σ K ⟨I, F, B, n, p, rfl, rfl, -⟩
  exact ⟨16, _, rfl, rfl⟩
def P_X3_name (K : aK) (bc bs : Nat) : List (Nat × aT) := [(0, t_ild 1 1),
  (1, t_ic 0 2),
  (2, t_ic 5 3),
  (3, t_call 3 0 0 bc bs sp_X3_in 6),
  (6, t_if (fun x => x = 0) 22 9),
  (9, t_ild 2 10),
  (10, t_ic (-1) 11),
  (11, t_ifc (fun x y => x = y) 25 14),
  (14, t_ald 0 15),
  (15, t_ild 2 16),
  (16, t_call 2 0 0 bc bs sp_X3_isPattern 19),
  (19, t_if (fun x => x = 0) 22 25),
  (22, t_ic (-3) 24),
  (24, t_iret K bc bs),
  (25, t_ald 0 26),
  (26, t_getr 3 25 9 29),
  (29, t_ild 1 30),
  (30, t_iald 31),
  (31, t_ic (-1) 32),
  (32, t_ifc (fun x y => x = y) 35 39),
  (35, t_ic 0 36),
  (36, t_goto 40),
  (39, t_ic 1 40),
  (40, t_ist 3 41),
  (41, t_ald 0 42),
  (42, t_getr 3 25 9 45),
  (45, t_ild 1 46),
  (46, t_ild 2 47),
  (47, t_iast 48),
  (48, t_ild 3 49),
  (49, t_iret K bc bs)]
set_option maxRecDepth 100000 in
theorem S_X3_name {X : a_X} {K : aK} {l : Launch} {D : va_G} {G : aG} {N0 : Nat} (C : a_C X cX3_name (some .int) RX3) (Y : a_Y X l (a_rm 3 0 0) D G N0) (M : a_mq X K (a_rm 3 0 0).cells (a_rm 3 0 0).slots) : ∀ x ∈ P_X3_name K 0 0, a_Sd X x.1 x.2 := by
  unfold P_X3_name
  refine List.forall_mem_cons.mpr ⟨s_ildn C dX3_name_0 rfl, ?_⟩
  refine List.forall_mem_cons.mpr ⟨s_ic C dX3_name_1 (by decide), ?_⟩
  refine List.forall_mem_cons.mpr ⟨s_ic C dX3_name_2 (by decide), ?_⟩
  refine List.forall_mem_cons.mpr ⟨s_callS (rm := (a_rm 1 0 0)) C Y con_X3_in co_X3_in ml_X3_59 st_X3_in ii_X3 (by decide +kernel) ⟨by decide, by decide⟩ ⟨rfl, rfl⟩ dX3_name_3, ?_⟩
  refine List.forall_mem_cons.mpr ⟨s_if_eq C dX3_name_6 (by decide), ?_⟩
  refine List.forall_mem_cons.mpr ⟨s_ildn C dX3_name_9 rfl, ?_⟩
  refine List.forall_mem_cons.mpr ⟨s_ic C dX3_name_10 (by decide), ?_⟩
  refine List.forall_mem_cons.mpr ⟨s_icmp_eq C dX3_name_11 (by decide), ?_⟩
  refine List.forall_mem_cons.mpr ⟨s_aldn C dX3_name_14 rfl, ?_⟩
  refine List.forall_mem_cons.mpr ⟨s_ildn C dX3_name_15 rfl, ?_⟩
  refine List.forall_mem_cons.mpr ⟨s_callV (rm := (a_rm 2 0 0)) (n := 1) C Y (ci := 3) rfl con_X3_isPattern rc_X3_isPattern co_X3_isPattern ml_X3_66 im_X3_isPattern se_X3_isPattern ii_X3 (by decide +kernel) ⟨by decide, by decide⟩ ⟨rfl, rfl⟩ dX3_name_16, ?_⟩
  refine List.forall_mem_cons.mpr ⟨s_if_ne C dX3_name_19 (by decide), ?_⟩
  refine List.forall_mem_cons.mpr ⟨s_bi C dX3_name_22 (by decide), ?_⟩
  refine List.forall_mem_cons.mpr ⟨s_iret C M dX3_name_24, ?_⟩
  refine List.forall_mem_cons.mpr ⟨s_aldn C dX3_name_25 rfl, ?_⟩
  refine List.forall_mem_cons.mpr ⟨s_getr C rfl in_X3 (by decide) lk_X3_34 rfl dX3_name_26, ?_⟩
  refine List.forall_mem_cons.mpr ⟨s_ildn C dX3_name_29 rfl, ?_⟩
  refine List.forall_mem_cons.mpr ⟨s_iald C dX3_name_30, ?_⟩
  refine List.forall_mem_cons.mpr ⟨s_ic C dX3_name_31 (by decide), ?_⟩
  refine List.forall_mem_cons.mpr ⟨s_icmp_ne C dX3_name_32 (by decide), ?_⟩
  refine List.forall_mem_cons.mpr ⟨s_ic C dX3_name_35 (by decide), ?_⟩
  refine List.forall_mem_cons.mpr ⟨s_goto C dX3_name_36 (by decide), ?_⟩
  refine List.forall_mem_cons.mpr ⟨s_ic C dX3_name_39 (by decide), ?_⟩
  refine List.forall_mem_cons.mpr ⟨s_istn C dX3_name_40 rfl, ?_⟩
  refine List.forall_mem_cons.mpr ⟨s_aldn C dX3_name_41 rfl, ?_⟩
  refine List.forall_mem_cons.mpr ⟨s_getr C rfl in_X3 (by decide) lk_X3_34 rfl dX3_name_42, ?_⟩
  refine List.forall_mem_cons.mpr ⟨s_ildn C dX3_name_45 rfl, ?_⟩
  refine List.forall_mem_cons.mpr ⟨s_ildn C dX3_name_46 rfl, ?_⟩
  refine List.forall_mem_cons.mpr ⟨s_iast C dX3_name_47, ?_⟩
  refine List.forall_mem_cons.mpr ⟨s_ildn C dX3_name_48 rfl, ?_⟩
  refine List.forall_mem_cons.mpr ⟨s_iret C M dX3_name_49, ?_⟩
  exact fun _ h => absurd h List.not_mem_nil
set_option maxRecDepth 20000 in
theorem con_X3_name {l : Launch} {D : va_G} {G : aG} {N0 : Nat} : a_Con l D G N0 yX3_name cX3_name 4 (some .int) (a_rm 3 0 0) sp_X3_name := by
  refine a_con (by decide) (fun as σ K h => by obtain ⟨I, F, B, n, p, rfl, rfl, -⟩ := h; exact (by decide : 3 ≤ 4)) ?_
  intro X as σ K h C Y M _
  obtain ⟨I, F, B, n, p, rfl, rfl, hK1, hK2⟩ := h
  refine a_wps (S_X3_name C Y M) (inv := a_ni) a_nih 60 _ _ _ _ _ _ ?_
  refine ⟨n, 0, 5, rfl, fun h1 => hK1 (Or.inl h1), fun h1 => ?_⟩
  have hn : vp_in n 6 := by
    obtain ⟨j, hj, rfl⟩ := m_in_n (b := 5) (by decide) h1
    exact vp_in_nI (by omega) (by decide)
  refine ⟨fun h2 => ⟨hn, fun h4 => ⟨hn, ?_⟩, fun h4 => ⟨hn, ?_⟩⟩, fun h2 => ⟨I, F, B, p, rfl, rfl, fun h3 => hK1 (Or.inr ⟨h2, h3⟩), fun h3 => ⟨hn, fun h4 => ⟨hn, ?_⟩, fun h4 => ⟨hn, ?_⟩⟩⟩⟩
  · have hK := hK2 h1 (Or.inl h2)
    rw [if_pos h4] at hK; exact hK
  · have hK := hK2 h1 (Or.inl h2)
    rw [if_neg h4] at hK; exact hK
  · have hK := hK2 h1 (Or.inr h3)
    rw [if_pos h4] at hK; exact hK
  · have hK := hK2 h1 (Or.inr h3)
    rw [if_neg h4] at hK; exact hK
def sp_X3_cloth : aP := fun as σ K => ∃ I F B i, σ = a_mk I F B ∧ as = [.inr (some 16), .inl i] ∧ (¬ m_in i 0 (I 16 23 - 1) = 0 → vp_in i 144) ∧ K (some (.inl (if m_in i 0 (I 16 23 - 1) = 0 then 0 else I 38 i.toNatClampNeg))) σ
theorem rc_X3_cloth : ∀ as σ K, sp_X3_cloth as σ K → ∃ h As, as = .inr (some h) :: As ∧ a_is σ h 3 25 = true := by
  rintro as σ K ⟨I, F, B, p, rfl, rfl, -⟩
  exact ⟨16, _, rfl, rfl⟩
def P_X3_cloth (K : aK) (bc bs : Nat) : List (Nat × aT) := [(0, t_ild 1 1),
  (1, t_ic 0 2),
  (2, t_ald 0 3),
  (3, t_geti 3 25 23 6),
  (6, t_ic 1 7),
  (7, t_sub 8),
  (8, t_call 3 0 0 bc bs sp_X3_in 11),
  (11, t_if (fun x => x = 0) 23 14),
  (14, t_ald 0 15),
  (15, t_getr 3 25 22 18),
  (18, t_ild 1 19),
  (19, t_iald 20),
  (20, t_goto 24),
  (23, t_ic 0 24),
  (24, t_iret K bc bs)]
set_option maxRecDepth 100000 in
theorem S_X3_cloth {X : a_X} {K : aK} {l : Launch} {D : va_G} {G : aG} {N0 : Nat} (C : a_C X cX3_cloth (some .int) RX3) (Y : a_Y X l (a_rm 2 0 0) D G N0) (M : a_mq X K (a_rm 2 0 0).cells (a_rm 2 0 0).slots) : ∀ x ∈ P_X3_cloth K 0 0, a_Sd X x.1 x.2 := by
  unfold P_X3_cloth
  refine List.forall_mem_cons.mpr ⟨s_ildn C dX3_cloth_0 rfl, ?_⟩
  refine List.forall_mem_cons.mpr ⟨s_ic C dX3_cloth_1 (by decide), ?_⟩
  refine List.forall_mem_cons.mpr ⟨s_aldn C dX3_cloth_2 rfl, ?_⟩
  refine List.forall_mem_cons.mpr ⟨s_geti C rfl in_X3 (by decide) lk_X3_129 rfl dX3_cloth_3, ?_⟩
  refine List.forall_mem_cons.mpr ⟨s_ic C dX3_cloth_6 (by decide), ?_⟩
  refine List.forall_mem_cons.mpr ⟨s_sub C dX3_cloth_7, ?_⟩
  refine List.forall_mem_cons.mpr ⟨s_callS (rm := (a_rm 1 0 0)) C Y con_X3_in co_X3_in ml_X3_59 st_X3_in ii_X3 (by decide +kernel) ⟨by decide, by decide⟩ ⟨rfl, rfl⟩ dX3_cloth_8, ?_⟩
  refine List.forall_mem_cons.mpr ⟨s_if_eq C dX3_cloth_11 (by decide), ?_⟩
  refine List.forall_mem_cons.mpr ⟨s_aldn C dX3_cloth_14 rfl, ?_⟩
  refine List.forall_mem_cons.mpr ⟨s_getr C rfl in_X3 (by decide) lk_X3_52 rfl dX3_cloth_15, ?_⟩
  refine List.forall_mem_cons.mpr ⟨s_ildn C dX3_cloth_18 rfl, ?_⟩
  refine List.forall_mem_cons.mpr ⟨s_iald C dX3_cloth_19, ?_⟩
  refine List.forall_mem_cons.mpr ⟨s_goto C dX3_cloth_20 (by decide), ?_⟩
  refine List.forall_mem_cons.mpr ⟨s_ic C dX3_cloth_23 (by decide), ?_⟩
  refine List.forall_mem_cons.mpr ⟨s_iret C M dX3_cloth_24, ?_⟩
  exact fun _ h => absurd h List.not_mem_nil
theorem con_X3_cloth {l : Launch} {D : va_G} {G : aG} {N0 : Nat} : a_Con l D G N0 yX3_cloth cX3_cloth 2 (some .int) (a_rm 2 0 0) sp_X3_cloth := by
  refine a_con (by decide) (fun as σ K h => by obtain ⟨I, F, B, p, rfl, rfl, -⟩ := h; exact (by decide : 2 ≤ 2)) ?_
  intro X as σ K h C Y M _
  obtain ⟨I, F, B, i, rfl, rfl, hv, hK⟩ := h
  refine a_wps (S_X3_cloth C Y M) (inv := a_ni) a_nih 60 _ _ _ _ _ _ ?_
  refine ⟨i, 0, _, rfl, fun h1 => ?_, fun h1 => ⟨hv h1, ?_⟩⟩
  · rw [if_pos h1] at hK; exact hK
  · rw [if_neg h1] at hK; exact hK
def sp_X3_why : aP := fun as σ K => ∃ I F B, σ = a_mk I F B ∧ as = [.inr (some 16)] ∧ K (some (.inl (I 16 10))) σ
theorem rc_X3_why : ∀ as σ K, sp_X3_why as σ K → ∃ h As, as = .inr (some h) :: As ∧ a_is σ h 3 25 = true := by
  rintro as σ K ⟨I, F, B, rfl, rfl, -⟩
  exact ⟨16, _, rfl, rfl⟩
def P_X3_why (K : aK) (bc bs : Nat) : List (Nat × aT) := [(0, t_ald 0 1),
  (1, t_geti 3 25 10 4),
  (4, t_iret K bc bs)]
set_option maxRecDepth 100000 in
theorem S_X3_why {X : a_X} {K : aK} {l : Launch} {D : va_G} {G : aG} {N0 : Nat} (C : a_C X cX3_why (some .int) RX3) (Y : a_Y X l (a_rm 1 0 0) D G N0) (M : a_mq X K (a_rm 1 0 0).cells (a_rm 1 0 0).slots) : ∀ x ∈ P_X3_why K 0 0, a_Sd X x.1 x.2 := by
  unfold P_X3_why
  refine List.forall_mem_cons.mpr ⟨s_aldn C dX3_why_0 rfl, ?_⟩
  refine List.forall_mem_cons.mpr ⟨s_geti C rfl in_X3 (by decide) lk_X3_63 rfl dX3_why_1, ?_⟩
  refine List.forall_mem_cons.mpr ⟨s_iret C M dX3_why_4, ?_⟩
  exact fun _ h => absurd h List.not_mem_nil
theorem con_X3_why {l : Launch} {D : va_G} {G : aG} {N0 : Nat} : a_Con l D G N0 yX3_why cX3_why 1 (some .int) (a_rm 1 0 0) sp_X3_why := by
  refine a_con (by decide) (fun as σ K h => by obtain ⟨I, F, B, rfl, rfl, -⟩ := h; exact (by decide : 1 ≤ 1)) ?_
  intro X as σ K h C Y M _
  obtain ⟨I, F, B, rfl, rfl, hK⟩ := h
  exact a_wps (S_X3_why C Y M) (inv := a_ni) a_nih 60 _ _ _ _ _ _ hK
def m_cnt (a b c d e w : Int32) : Int32 := if w = 0 then a else if w = 1 then b else if w = 2 then c else if w = 3 then d else if w = 4 then e else -2
def sp_X3_count : aP := fun as σ K => ∃ I F B w, σ = a_mk I F B ∧ as = [.inr (some 16), .inl w] ∧ K (some (.inl (m_cnt (I 16 0) (I 16 23) (I 16 24) (I 16 19) (I 16 11) w))) σ
theorem rc_X3_count : ∀ as σ K, sp_X3_count as σ K → ∃ h As, as = .inr (some h) :: As ∧ a_is σ h 3 25 = true := by
  rintro as σ K ⟨I, F, B, w, rfl, rfl, -⟩
  exact ⟨16, _, rfl, rfl⟩
def P_X3_count (K : aK) (bc bs : Nat) : List (Nat × aT) := [(0, t_ild 1 1),
  (1, t_sw [(0, 36), (1, 41), (2, 46), (3, 51), (4, 56)] 61),
  (36, t_ald 0 37),
  (37, t_geti 3 25 0 40),
  (40, t_iret K bc bs),
  (41, t_ald 0 42),
  (42, t_geti 3 25 23 45),
  (45, t_iret K bc bs),
  (46, t_ald 0 47),
  (47, t_geti 3 25 24 50),
  (50, t_iret K bc bs),
  (51, t_ald 0 52),
  (52, t_geti 3 25 19 55),
  (55, t_iret K bc bs),
  (56, t_ald 0 57),
  (57, t_geti 3 25 11 60),
  (60, t_iret K bc bs),
  (61, t_ic (-2) 63),
  (63, t_iret K bc bs)]
set_option maxRecDepth 100000 in
theorem S_X3_count {X : a_X} {K : aK} {l : Launch} {D : va_G} {G : aG} {N0 : Nat} (C : a_C X cX3_count (some .int) RX3) (Y : a_Y X l (a_rm 1 0 0) D G N0) (M : a_mq X K (a_rm 1 0 0).cells (a_rm 1 0 0).slots) : ∀ x ∈ P_X3_count K 0 0, a_Sd X x.1 x.2 := by
  unfold P_X3_count
  refine List.forall_mem_cons.mpr ⟨s_ildn C dX3_count_0 rfl, ?_⟩
  refine List.forall_mem_cons.mpr ⟨s_tsw C dX3_count_1 (a_tok_of2 4 (by decide) (by decide) (by decide) (by decide)), ?_⟩
  refine List.forall_mem_cons.mpr ⟨s_aldn C dX3_count_36 rfl, ?_⟩
  refine List.forall_mem_cons.mpr ⟨s_geti C rfl in_X3 (by decide) lk_X3_55 rfl dX3_count_37, ?_⟩
  refine List.forall_mem_cons.mpr ⟨s_iret C M dX3_count_40, ?_⟩
  refine List.forall_mem_cons.mpr ⟨s_aldn C dX3_count_41 rfl, ?_⟩
  refine List.forall_mem_cons.mpr ⟨s_geti C rfl in_X3 (by decide) lk_X3_129 rfl dX3_count_42, ?_⟩
  refine List.forall_mem_cons.mpr ⟨s_iret C M dX3_count_45, ?_⟩
  refine List.forall_mem_cons.mpr ⟨s_aldn C dX3_count_46 rfl, ?_⟩
  refine List.forall_mem_cons.mpr ⟨s_geti C rfl in_X3 (by decide) lk_X3_132 rfl dX3_count_47, ?_⟩
  refine List.forall_mem_cons.mpr ⟨s_iret C M dX3_count_50, ?_⟩
  refine List.forall_mem_cons.mpr ⟨s_aldn C dX3_count_51 rfl, ?_⟩
  refine List.forall_mem_cons.mpr ⟨s_geti C rfl in_X3 (by decide) lk_X3_74 rfl dX3_count_52, ?_⟩
  refine List.forall_mem_cons.mpr ⟨s_iret C M dX3_count_55, ?_⟩
  refine List.forall_mem_cons.mpr ⟨s_aldn C dX3_count_56 rfl, ?_⟩
  refine List.forall_mem_cons.mpr ⟨s_geti C rfl in_X3 (by decide) lk_X3_107 rfl dX3_count_57, ?_⟩
  refine List.forall_mem_cons.mpr ⟨s_iret C M dX3_count_60, ?_⟩
  refine List.forall_mem_cons.mpr ⟨s_bi C dX3_count_61 (by decide), ?_⟩
  refine List.forall_mem_cons.mpr ⟨s_iret C M dX3_count_63, ?_⟩
  exact fun _ h => absurd h List.not_mem_nil
theorem con_X3_count {l : Launch} {D : va_G} {G : aG} {N0 : Nat} : a_Con l D G N0 yX3_count cX3_count 2 (some .int) (a_rm 1 0 0) sp_X3_count := by
  refine a_con (by decide) (fun as σ K h => by obtain ⟨I, F, B, w, rfl, rfl, -⟩ := h; exact (by decide : 2 ≤ 2)) ?_
  intro X as σ K h C Y M _
  obtain ⟨I, F, B, w, rfl, rfl, hK⟩ := h
  refine a_wps (S_X3_count C Y M) (inv := a_ni) a_nih 60 _ _ _ _ _ _ ?_
  unfold m_cnt at hK
  refine ⟨fun h0 => ?_, fun h0 => ⟨fun h1 => ?_, fun h1 => ⟨fun h2 => ?_, fun h2 => ⟨fun h3 => ?_, fun h3 => ⟨fun h4 => ?_, fun h4 => ?_⟩⟩⟩⟩⟩
  · rw [if_pos h0] at hK; exact hK
  · rw [if_neg h0, if_pos h1] at hK; exact hK
  · rw [if_neg h0, if_neg h1, if_pos h2] at hK; exact hK
  · rw [if_neg h0, if_neg h1, if_neg h2, if_pos h3] at hK; exact hK
  · rw [if_neg h0, if_neg h1, if_neg h2, if_neg h3, if_pos h4] at hK; exact hK
  · rw [if_neg h0, if_neg h1, if_neg h2, if_neg h3, if_neg h4] at hK; exact hK

