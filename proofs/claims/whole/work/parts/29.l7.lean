/-! ===== the class's pattern ===== -/
def n_1 (I : Nat → Nat → Int32) (h : Nat) (f : Nat → Int32) : Nat → Nat → Int32 := fun h' k' => if h' = h then f k' else I h' k'
def n_2 (F : Nat → Nat → Option Nat) (h : Nat) : Nat → Nat → Option Nat := fun h' k' => if h' = h then none else F h' k'
def n_3 (B : Nat → Bool) (h : Nat) : Nat → Bool := fun h' => if h' = h then true else B h'
theorem n_e {I : Nat → Nat → Int32} {F : Nat → Nat → Option Nat} {B : Nat → Bool} {h : Nat} {f : Nat → Int32} (hh : 64 ≤ h) : a_new (a_mk I F B) h f = a_mk (n_1 I h f) (n_2 F h) (n_3 B h) := by
  have e2 : (fun h' k' => if h' = h then none else a_SR F h' k') = a_SR (n_2 F h) := by
    funext h' k'
    unfold a_SR n_2
    by_cases e : h' = h
    · rw [if_pos e, if_neg (by omega), if_neg (by omega), if_neg (by omega), if_neg (by omega), if_pos e]
    · rw [if_neg e, if_neg e]
  have e3 : (fun h' => if h' = h then true else a_LV B h') = a_LV (n_3 B h) := by
    funext h'
    unfold a_LV n_3
    by_cases e : h' = h
    · rw [if_pos e, if_pos e, decide_eq_true (show 64 ≤ h' by omega)]
      simp
    · rw [if_neg e, if_neg e]
  show ((fun h' k' => if h' = h then f k' else I h' k'), (fun h' k' => if h' = h then none else a_SR F h' k'), (fun h' => if h' = h then true else a_LV B h')) = _
  rw [e2, e3]
  rfl
section LZ
variable {l : Launch} {D : va_G} {G : aG} {N0 : Nat}
def sp_X1_init : aP := fun as σ K => ∃ h s a b c row old, as = [.inr (some h), .inl s, .inl a, .inl b, .inl c, .inr row, .inr old] ∧ a_is σ h 1 7 = true ∧ ¬ row = some 63 ∧ ¬ old = some 63 ∧
  K none (a_uF (a_uF (a_uI (a_uI (a_uI (a_uI σ h 0 s) h 1 a) h 2 b) h 3 c) h 4 row) h 5 old)
theorem rc_X1_init : ∀ as σ K, sp_X1_init as σ K → ∃ h As, as = .inr (some h) :: As := by
  rintro as σ K ⟨h, s, a, b, c, row, old, rfl, -⟩
  exact ⟨h, _, rfl⟩
def P_X1_init (K : aK) (bc bs : Nat) : List (Nat × aT) := [(0, t_ald 0 1),
  (1, t_obi 4),
  (4, t_ald 0 5),
  (5, t_ild 1 6),
  (6, t_puti 1 7 0 9),
  (9, t_ald 0 10),
  (10, t_ild 2 11),
  (11, t_puti 1 7 1 14),
  (14, t_ald 0 15),
  (15, t_ild 3 16),
  (16, t_puti 1 7 2 19),
  (19, t_ald 0 20),
  (20, t_ild 4 22),
  (22, t_puti 1 7 3 25),
  (25, t_ald 0 26),
  (26, t_ald 5 28),
  (28, t_putr 1 7 4 31),
  (31, t_ald 0 32),
  (32, t_ald 6 34),
  (34, t_putr 1 7 5 37),
  (37, t_vret K bc bs)]
set_option maxRecDepth 100000 in
theorem S_X1_init {X : a_X} {K : aK} {l : Launch} {D : va_G} {G : aG} {N0 : Nat} (C : a_C X cX1_init none RX1) (Y : a_Y X l (a_rm 1 0 0) D G N0) (M : a_mq X K (a_rm 1 0 0).cells (a_rm 1 0 0).slots) (N : X.2.2.2.2.2.2.2.2.1.name = "<init>") : ∀ x ∈ P_X1_init K 0 0, a_Sd X x.1 x.2 := by
  unfold P_X1_init
  refine List.forall_mem_cons.mpr ⟨s_aldn C dX1_init_0 rfl, ?_⟩
  refine List.forall_mem_cons.mpr ⟨s_obi C Y ml_X1_1 im_obj co_obj ⟨by decide, by decide⟩ dX1_init_1, ?_⟩
  refine List.forall_mem_cons.mpr ⟨s_aldn C dX1_init_4 rfl, ?_⟩
  refine List.forall_mem_cons.mpr ⟨s_ildn C dX1_init_5 rfl, ?_⟩
  refine List.forall_mem_cons.mpr ⟨s_puti C tyX1 tyX1_ok nmX1 rfl in_X1 (by decide) lk_X1_7 rfl (Or.inr ⟨rfl, N, rfl⟩) rfl dX1_init_6, ?_⟩
  refine List.forall_mem_cons.mpr ⟨s_aldn C dX1_init_9 rfl, ?_⟩
  refine List.forall_mem_cons.mpr ⟨s_ildn C dX1_init_10 rfl, ?_⟩
  refine List.forall_mem_cons.mpr ⟨s_puti C tyX1 tyX1_ok nmX1 rfl in_X1 (by decide) lk_X1_13 rfl (Or.inr ⟨rfl, N, rfl⟩) rfl dX1_init_11, ?_⟩
  refine List.forall_mem_cons.mpr ⟨s_aldn C dX1_init_14 rfl, ?_⟩
  refine List.forall_mem_cons.mpr ⟨s_ildn C dX1_init_15 rfl, ?_⟩
  refine List.forall_mem_cons.mpr ⟨s_puti C tyX1 tyX1_ok nmX1 rfl in_X1 (by decide) lk_X1_16 rfl (Or.inr ⟨rfl, N, rfl⟩) rfl dX1_init_16, ?_⟩
  refine List.forall_mem_cons.mpr ⟨s_aldn C dX1_init_19 rfl, ?_⟩
  refine List.forall_mem_cons.mpr ⟨s_ild C dX1_init_20, ?_⟩
  refine List.forall_mem_cons.mpr ⟨s_puti C tyX1 tyX1_ok nmX1 rfl in_X1 (by decide) lk_X1_19 rfl (Or.inr ⟨rfl, N, rfl⟩) rfl dX1_init_22, ?_⟩
  refine List.forall_mem_cons.mpr ⟨s_aldn C dX1_init_25 rfl, ?_⟩
  refine List.forall_mem_cons.mpr ⟨s_ald C dX1_init_26, ?_⟩
  refine List.forall_mem_cons.mpr ⟨s_putr C tyX1 tyX1_ok nmX1 rfl in_X1 (by decide) lk_X1_22 rfl (Or.inr ⟨rfl, N, rfl⟩) (Or.inl ⟨_, rfl⟩) dX1_init_28, ?_⟩
  refine List.forall_mem_cons.mpr ⟨s_aldn C dX1_init_31 rfl, ?_⟩
  refine List.forall_mem_cons.mpr ⟨s_ald C dX1_init_32, ?_⟩
  refine List.forall_mem_cons.mpr ⟨s_putr C tyX1 tyX1_ok nmX1 rfl in_X1 (by decide) lk_X1_26 rfl (Or.inr ⟨rfl, N, rfl⟩) (Or.inr ⟨_, rfl⟩) dX1_init_34, ?_⟩
  refine List.forall_mem_cons.mpr ⟨s_vret C M dX1_init_37, ?_⟩
  exact fun _ h => absurd h List.not_mem_nil
theorem con_X1_init : a_Con l D G N0 yX1_init cX1_init 7 none (a_rm 1 0 0) sp_X1_init := by
  refine a_con (by decide) (fun as σ K h => by obtain ⟨h, s, a, b, c, row, old, rfl, -⟩ := h; exact (by decide : 7 ≤ 7)) ?_
  intro X as σ K h C Y M N
  obtain ⟨h, s, a, b, c, row, old, rfl, his, hrow, hold, hK⟩ := h
  refine a_wps (S_X1_init C Y M N) (inv := a_ni) a_nih 40 _ _ _ _ _ _ ?_
  exact a_gi his (a_gi his (a_gi his (a_gi his (a_gi his ⟨hrow, a_gi his ⟨hold, hK⟩⟩))))
/-- what a new pattern changes in the class's world -/
def l_new (I : Nat → Nat → Int32) (F : Nat → Nat → Option Nat) (B : Nat → Bool) (n : Nat) (s a b c : Int32) (I' : Nat → Nat → Int32) (F' : Nat → Nat → Option Nat) (B' : Nat → Bool) : Prop :=
  I' 0 4 = nI (n + 1) ∧ (∀ h k, h ≠ 66 + n → h ≠ 128 + n → ¬ (h = 0 ∧ k = 4) → I' h k = I h k) ∧ (I' (66 + n) 0 = s ∧ I' (66 + n) 1 = a ∧ I' (66 + n) 2 = b ∧ I' (66 + n) 3 = c ∧ I' (66 + n) 6 = 0) ∧
  (∀ h k, h ≠ 66 + n → h ≠ 128 + n → ¬ (h = 3 ∧ k = n) → F' h k = F h k) ∧ F' 3 n = some (66 + n) ∧ (∀ h, h ≠ 66 + n → h ≠ 128 + n → B' h = B h) ∧ B' (66 + n) = true ∧
  (s = 8 → F' (66 + n) 4 = some (128 + n) ∧ B' (128 + n) = true ∧ ∀ d, d < 4 → b = nI d → ∀ j, I' (128 + n) j = I (6 + d) j) ∧ (s = 13 → F' (66 + n) 5 = F 2 a.toNatClampNeg)
def sp_X2_pattern : aP := fun as σ K => ∃ I F B n s a b c, σ = a_mk I F B ∧ as = [.inr (some 0), .inl s, .inl a, .inl b, .inl c] ∧ l_env I F B n ∧ B (66 + n) = false ∧ B (128 + n) = false ∧
  (m_in s 0 13 = 0 → K (some (.inl (-2))) σ) ∧ (¬ m_in s 0 13 = 0 → m_there (nI n - 1) s a b c = 0 → K (some (.inl (-3))) σ) ∧
  (¬ m_in s 0 13 = 0 → ¬ m_there (nI n - 1) s a b c = 0 → m_bad s b → K (some (.inl (-2))) σ) ∧
  (¬ m_in s 0 13 = 0 → ¬ m_there (nI n - 1) s a b c = 0 → ¬ m_bad s b → n = 60 → K (some (.inl (-4))) σ) ∧
  (¬ m_in s 0 13 = 0 → ¬ m_there (nI n - 1) s a b c = 0 → ¬ m_bad s b → n < 60 → ∀ I' F' B', l_new I F B n s a b c I' F' B' → K (some (.inl (nI n))) (a_mk I' F' B'))
theorem rc_X2_pattern : ∀ as σ K, sp_X2_pattern as σ K → ∃ h As, as = .inr (some h) :: As ∧ a_is σ h 2 10 = true := by
  rintro as σ K ⟨I, F, B, n, s, a, b, c, rfl, rfl, -⟩
  exact ⟨0, _, rfl, rfl⟩
def P_X2_pattern (K : aK) (bc bs : Nat) : List (Nat × aT) := [(0, t_ild 1 1),
  (1, t_if (fun x => x < 0) 10 4),
  (4, t_ild 1 5),
  (5, t_ic 13 7),
  (7, t_ifc (fun x y => x ≤ y) 13 10),
  (10, t_ic (-2) 12),
  (12, t_iret K bc bs),
  (13, t_ald 0 14),
  (14, t_ild 1 15),
  (15, t_ild 2 16),
  (16, t_ild 3 17),
  (17, t_ild 4 19),
  (19, t_call 5 0 0 bc bs sp_X2_knowsAll 22),
  (22, t_if (fun x => x = 0) 25 28),
  (25, t_ic (-3) 27),
  (27, t_iret K bc bs),
  (28, t_ild 1 29),
  (29, t_ild 3 30),
  (30, t_call 2 0 0 bc bs sp_X2_fits 33),
  (33, t_if (fun x => x = 0) 36 39),
  (36, t_ic (-2) 38),
  (38, t_iret K bc bs),
  (39, t_ald 0 40),
  (40, t_geti 2 10 4 43),
  (43, t_ic 60 45),
  (45, t_ifc (fun x y => x < y) 51 48),
  (48, t_ic (-4) 50),
  (50, t_iret K bc bs),
  (51, t_ild 1 52),
  (52, t_ic 8 54),
  (54, t_ifc (fun x y => x = y) 57 79),
  (57, t_ild 3 58),
  (58, t_call 1 0 0 bc bs sp_X2_isDye 61),
  (61, t_if (fun x => x = 0) 79 64),
  (64, t_ald 0 65),
  (65, t_getr 2 10 0 68),
  (68, t_ild 3 69),
  (69, t_aald 70),
  (70, t_clone bc bs 73),
  (73, t_cast 76),
  (76, t_goto 80),
  (79, t_null 80),
  (80, t_ast 5 82),
  (82, t_ild 1 83),
  (83, t_ic 13 85),
  (85, t_ifc (fun x y => x = y) 88 96),
  (88, t_ald 0 89),
  (89, t_ild 2 90),
  (90, t_call 2 0 0 bc bs sp_X2_named 93),
  (93, t_goto 97),
  (96, t_null 97),
  (97, t_ast 6 99),
  (99, t_ald 0 100),
  (100, t_getr 2 10 2 103),
  (103, t_ald 0 104),
  (104, t_geti 2 10 4 107),
  (107, t_new 1 7 bc bs 110),
  (110, t_dup 111),
  (111, t_ild 1 112),
  (112, t_ild 2 113),
  (113, t_ild 3 114),
  (114, t_ild 4 116),
  (116, t_ald 5 118),
  (118, t_ald 6 120),
  (120, t_call 7 0 0 bc bs sp_X1_init 123),
  (123, t_aast 124),
  (124, t_ald 0 125),
  (125, t_dup 126),
  (126, t_geti 2 10 4 129),
  (129, t_ic 1 130),
  (130, t_add 131),
  (131, t_puti 2 10 4 134),
  (134, t_ald 0 135),
  (135, t_geti 2 10 4 138),
  (138, t_ic 1 139),
  (139, t_sub 140),
  (140, t_iret K bc bs)]
set_option maxRecDepth 100000 in
theorem S_X2_pattern {X : a_X} {K : aK} {l : Launch} {D : va_G} {G : aG} {N0 : Nat} (C : a_C X cX2_pattern (some .int) RX2) (Y : a_Y X l (a_rm 3 2 15) D G N0) (M : a_mq X K (a_rm 3 2 15).cells (a_rm 3 2 15).slots) : ∀ x ∈ P_X2_pattern K 2 15, a_Sd X x.1 x.2 := by
  unfold P_X2_pattern
  refine List.forall_mem_cons.mpr ⟨s_ildn C dX2_pattern_0 rfl, ?_⟩
  refine List.forall_mem_cons.mpr ⟨s_if_lt C dX2_pattern_1 (by decide), ?_⟩
  refine List.forall_mem_cons.mpr ⟨s_ildn C dX2_pattern_4 rfl, ?_⟩
  refine List.forall_mem_cons.mpr ⟨s_bi C dX2_pattern_5 (by decide), ?_⟩
  refine List.forall_mem_cons.mpr ⟨s_icmp_le C dX2_pattern_7 (by decide), ?_⟩
  refine List.forall_mem_cons.mpr ⟨s_bi C dX2_pattern_10 (by decide), ?_⟩
  refine List.forall_mem_cons.mpr ⟨s_iret C M dX2_pattern_12, ?_⟩
  refine List.forall_mem_cons.mpr ⟨s_aldn C dX2_pattern_13 rfl, ?_⟩
  refine List.forall_mem_cons.mpr ⟨s_ildn C dX2_pattern_14 rfl, ?_⟩
  refine List.forall_mem_cons.mpr ⟨s_ildn C dX2_pattern_15 rfl, ?_⟩
  refine List.forall_mem_cons.mpr ⟨s_ildn C dX2_pattern_16 rfl, ?_⟩
  refine List.forall_mem_cons.mpr ⟨s_ild C dX2_pattern_17, ?_⟩
  refine List.forall_mem_cons.mpr ⟨s_callV (rm := (a_rm 2 0 0)) (n := 4) C Y (ci := 2) rfl con_X2_knowsAll rc_X2_knowsAll co_X2_knowsAll ml_X2_41 im_X2_knowsAll se_X2_knowsAll ii_X2 (by decide +kernel) ⟨by decide, by decide⟩ ⟨rfl, rfl⟩ dX2_pattern_19, ?_⟩
  refine List.forall_mem_cons.mpr ⟨s_if_ne C dX2_pattern_22 (by decide), ?_⟩
  refine List.forall_mem_cons.mpr ⟨s_bi C dX2_pattern_25 (by decide), ?_⟩
  refine List.forall_mem_cons.mpr ⟨s_iret C M dX2_pattern_27, ?_⟩
  refine List.forall_mem_cons.mpr ⟨s_ildn C dX2_pattern_28 rfl, ?_⟩
  refine List.forall_mem_cons.mpr ⟨s_ildn C dX2_pattern_29 rfl, ?_⟩
  refine List.forall_mem_cons.mpr ⟨s_callS (rm := (a_rm 1 0 0)) C Y con_X2_fits co_X2_fits ml_X2_45 st_X2_fits ii_X2 (by decide +kernel) ⟨by decide, by decide⟩ ⟨rfl, rfl⟩ dX2_pattern_30, ?_⟩
  refine List.forall_mem_cons.mpr ⟨s_if_ne C dX2_pattern_33 (by decide), ?_⟩
  refine List.forall_mem_cons.mpr ⟨s_bi C dX2_pattern_36 (by decide), ?_⟩
  refine List.forall_mem_cons.mpr ⟨s_iret C M dX2_pattern_38, ?_⟩
  refine List.forall_mem_cons.mpr ⟨s_aldn C dX2_pattern_39 rfl, ?_⟩
  refine List.forall_mem_cons.mpr ⟨s_geti C rfl in_X2 (by decide) lk_X2_49 rfl dX2_pattern_40, ?_⟩
  refine List.forall_mem_cons.mpr ⟨s_bi C dX2_pattern_43 (by decide), ?_⟩
  refine List.forall_mem_cons.mpr ⟨s_icmp_lt C dX2_pattern_45 (by decide), ?_⟩
  refine List.forall_mem_cons.mpr ⟨s_bi C dX2_pattern_48 (by decide), ?_⟩
  refine List.forall_mem_cons.mpr ⟨s_iret C M dX2_pattern_50, ?_⟩
  refine List.forall_mem_cons.mpr ⟨s_ildn C dX2_pattern_51 rfl, ?_⟩
  refine List.forall_mem_cons.mpr ⟨s_bi C dX2_pattern_52 (by decide), ?_⟩
  refine List.forall_mem_cons.mpr ⟨s_icmp_ne C dX2_pattern_54 (by decide), ?_⟩
  refine List.forall_mem_cons.mpr ⟨s_ildn C dX2_pattern_57 rfl, ?_⟩
  refine List.forall_mem_cons.mpr ⟨s_callS (rm := (a_rm 1 0 0)) C Y con_X2_isDye co_X2_isDye ml_X2_33 st_X2_isDye ii_X2 (by decide +kernel) ⟨by decide, by decide⟩ ⟨rfl, rfl⟩ dX2_pattern_58, ?_⟩
  refine List.forall_mem_cons.mpr ⟨s_if_eq C dX2_pattern_61 (by decide), ?_⟩
  refine List.forall_mem_cons.mpr ⟨s_aldn C dX2_pattern_64 rfl, ?_⟩
  refine List.forall_mem_cons.mpr ⟨s_getr C rfl in_X2 (by decide) lk_X2_11 rfl dX2_pattern_65, ?_⟩
  refine List.forall_mem_cons.mpr ⟨s_ildn C dX2_pattern_68 rfl, ?_⟩
  refine List.forall_mem_cons.mpr ⟨s_aald C dX2_pattern_69, ?_⟩
  refine List.forall_mem_cons.mpr ⟨s_clone C Y ml_X2_52 sm_clone na_clone im_clone se_clone ⟨by decide, by decide⟩ ⟨rfl, rfl⟩ dX2_pattern_70, ?_⟩
  refine List.forall_mem_cons.mpr ⟨s_cast C cl_X2_53 dX2_pattern_73, ?_⟩
  refine List.forall_mem_cons.mpr ⟨s_goto C dX2_pattern_76 (by decide), ?_⟩
  refine List.forall_mem_cons.mpr ⟨s_null C dX2_pattern_79, ?_⟩
  refine List.forall_mem_cons.mpr ⟨s_ast C dX2_pattern_80, ?_⟩
  refine List.forall_mem_cons.mpr ⟨s_ildn C dX2_pattern_82 rfl, ?_⟩
  refine List.forall_mem_cons.mpr ⟨s_bi C dX2_pattern_83 (by decide), ?_⟩
  refine List.forall_mem_cons.mpr ⟨s_icmp_ne C dX2_pattern_85 (by decide), ?_⟩
  refine List.forall_mem_cons.mpr ⟨s_aldn C dX2_pattern_88 rfl, ?_⟩
  refine List.forall_mem_cons.mpr ⟨s_ildn C dX2_pattern_89 rfl, ?_⟩
  refine List.forall_mem_cons.mpr ⟨s_callV (rm := (a_rm 2 0 0)) (n := 1) C Y (ci := 2) rfl con_X2_named rc_X2_named co_X2_named ml_X2_58 im_X2_named se_X2_named ii_X2 (by decide +kernel) ⟨by decide, by decide⟩ ⟨rfl, rfl⟩ dX2_pattern_90, ?_⟩
  refine List.forall_mem_cons.mpr ⟨s_goto C dX2_pattern_93 (by decide), ?_⟩
  refine List.forall_mem_cons.mpr ⟨s_null C dX2_pattern_96, ?_⟩
  refine List.forall_mem_cons.mpr ⟨s_ast C dX2_pattern_97, ?_⟩
  refine List.forall_mem_cons.mpr ⟨s_aldn C dX2_pattern_99 rfl, ?_⟩
  refine List.forall_mem_cons.mpr ⟨s_getr C rfl in_X2 (by decide) lk_X2_20 rfl dX2_pattern_100, ?_⟩
  refine List.forall_mem_cons.mpr ⟨s_aldn C dX2_pattern_103 rfl, ?_⟩
  refine List.forall_mem_cons.mpr ⟨s_geti C rfl in_X2 (by decide) lk_X2_49 rfl dX2_pattern_104, ?_⟩
  refine List.forall_mem_cons.mpr ⟨s_new C Y tyX1 tyX1_ok df_X1 rfl in_X1 cl_X2_14 ia_X1 ii_X1 ⟨rfl, rfl⟩ dX2_pattern_107, ?_⟩
  refine List.forall_mem_cons.mpr ⟨s_dup C dX2_pattern_110, ?_⟩
  refine List.forall_mem_cons.mpr ⟨s_ildn C dX2_pattern_111 rfl, ?_⟩
  refine List.forall_mem_cons.mpr ⟨s_ildn C dX2_pattern_112 rfl, ?_⟩
  refine List.forall_mem_cons.mpr ⟨s_ildn C dX2_pattern_113 rfl, ?_⟩
  refine List.forall_mem_cons.mpr ⟨s_ild C dX2_pattern_114, ?_⟩
  refine List.forall_mem_cons.mpr ⟨s_ald C dX2_pattern_116, ?_⟩
  refine List.forall_mem_cons.mpr ⟨s_ald C dX2_pattern_118, ?_⟩
  refine List.forall_mem_cons.mpr ⟨s_callI (rm := (a_rm 1 0 0)) (n := 6) C Y con_X1_init rc_X1_init co_X1_init ml_X2_30 im_X1_init ii_X1 rfl (by decide +kernel) ⟨by decide, by decide⟩ ⟨rfl, rfl⟩ dX2_pattern_120, ?_⟩
  refine List.forall_mem_cons.mpr ⟨s_aast C dX2_pattern_123, ?_⟩
  refine List.forall_mem_cons.mpr ⟨s_aldn C dX2_pattern_124 rfl, ?_⟩
  refine List.forall_mem_cons.mpr ⟨s_dup C dX2_pattern_125, ?_⟩
  refine List.forall_mem_cons.mpr ⟨s_geti C rfl in_X2 (by decide) lk_X2_49 rfl dX2_pattern_126, ?_⟩
  refine List.forall_mem_cons.mpr ⟨s_ic C dX2_pattern_129 (by decide), ?_⟩
  refine List.forall_mem_cons.mpr ⟨s_add C dX2_pattern_130, ?_⟩
  refine List.forall_mem_cons.mpr ⟨s_puti C tyX2 tyX2_ok nmX2 rfl in_X2 (by decide) lk_X2_49 rfl (Or.inl rfl) rfl dX2_pattern_131, ?_⟩
  refine List.forall_mem_cons.mpr ⟨s_aldn C dX2_pattern_134 rfl, ?_⟩
  refine List.forall_mem_cons.mpr ⟨s_geti C rfl in_X2 (by decide) lk_X2_49 rfl dX2_pattern_135, ?_⟩
  refine List.forall_mem_cons.mpr ⟨s_ic C dX2_pattern_138 (by decide), ?_⟩
  refine List.forall_mem_cons.mpr ⟨s_sub C dX2_pattern_139, ?_⟩
  refine List.forall_mem_cons.mpr ⟨s_iret C M dX2_pattern_140, ?_⟩
  exact fun _ h => absurd h List.not_mem_nil
abbrev l_J4 (J : Nat → Nat → Int32) (n : Nat) (s a b c : Int32) : Nat → Nat → Int32 := a_w (a_w (a_w (a_w J (66 + n) 0 s) (66 + n) 1 a) (66 + n) 2 b) (66 + n) 3 c
abbrev l_F3 (F : Nat → Nat → Option Nat) (n : Nat) (row old : Option Nat) : Nat → Nat → Option Nat := u_2 (u_2 (u_2 F (66 + n) 4 row) (66 + n) 5 old) 3 n (some (66 + n))
theorem l_newI {I J : Nat → Nat → Int32} {F FJ : Nat → Nat → Option Nat} {B BJ : Nat → Bool} {n : Nat} {s a b c : Int32} {row old : Option Nat} (h1 : ∀ h k, h ≠ 66 + n → h ≠ 128 + n → J h k = I h k) (h2 : J (66 + n) 6 = 0) (h3 : ∀ h k, h ≠ 66 + n → h ≠ 128 + n → FJ h k = F h k)
    (h4 : ∀ h, h ≠ 66 + n → h ≠ 128 + n → BJ h = B h) (h5 : BJ (66 + n) = true) (h7 : s = 8 → row = some (128 + n) ∧ BJ (128 + n) = true ∧ ∀ d, d < 4 → b = nI d → ∀ j, J (128 + n) j = I (6 + d) j) (h8 : s = 13 → old = F 2 a.toNatClampNeg) :
    l_new I F B n s a b c (a_w (l_J4 J n s a b c) 0 4 (nI (n + 1))) (l_F3 FJ n row old) BJ := by
  refine ⟨if_pos ⟨rfl, rfl⟩, fun h k e1 e2 e3 => ?_, ⟨?_, ?_, ?_, ?_, ?_⟩, fun h k e1 e2 e3 => ?_, if_pos ⟨rfl, rfl⟩, h4, h5, fun e => ⟨?_, (h7 e).2.1, fun d hd hb j => ?_⟩, fun e => ?_⟩
  · unfold l_J4 a_w
    rw [if_neg e3, if_neg (fun w => e1 w.1), if_neg (fun w => e1 w.1), if_neg (fun w => e1 w.1), if_neg (fun w => e1 w.1)]
    exact h1 h k e1 e2
  · unfold l_J4 a_w
    rw [if_neg (by omega), if_neg (by omega), if_neg (by omega), if_neg (by omega), if_pos ⟨rfl, rfl⟩]
  · unfold l_J4 a_w
    rw [if_neg (by omega), if_neg (by omega), if_neg (by omega), if_pos ⟨rfl, rfl⟩]
  · unfold l_J4 a_w
    rw [if_neg (by omega), if_neg (by omega), if_pos ⟨rfl, rfl⟩]
  · unfold l_J4 a_w
    rw [if_neg (by omega), if_pos ⟨rfl, rfl⟩]
  · unfold l_J4 a_w
    rw [if_neg (by omega), if_neg (by omega), if_neg (by omega), if_neg (by omega), if_neg (by omega)]
    exact h2
  · unfold l_F3 u_2
    rw [if_neg e3, if_neg (fun w => e1 w.1), if_neg (fun w => e1 w.1)]
    exact h3 h k e1 e2
  · unfold l_F3 u_2
    rw [if_neg (by omega), if_neg (by omega), if_pos ⟨rfl, rfl⟩]
    exact (h7 e).1
  · unfold l_J4 a_w
    rw [if_neg (by omega), if_neg (by omega), if_neg (by omega), if_neg (by omega), if_neg (by omega)]
    exact (h7 e).2.2 d hd hb j
  · unfold l_F3 u_2
    rw [if_neg (by omega), if_pos ⟨rfl, rfl⟩]
    exact h8 e
theorem a_LVn {B : Nat → Bool} {h : Nat} (hh : 64 ≤ h) : a_LV B h = B h := by
  unfold a_LV a_mnh a_mref
  rw [decide_eq_true hh, decide_eq_false (show ¬ h = 1 by omega), decide_eq_false (show ¬ h ≤ 9 by omega), decide_eq_false (show ¬ h = 0 by omega), decide_eq_false (show ¬ h = 2 by omega), decide_eq_false (show ¬ h = 3 by omega), decide_eq_false (show ¬ h = 4 by omega), decide_eq_false (show ¬ h = 5 by omega), decide_eq_false (show ¬ h = 16 by omega), decide_eq_false (show ¬ h - 16 ≤ 9 by omega), decide_eq_false (show ¬ h - 16 ≤ 18 by omega), decide_eq_false (show ¬ h - 16 = 22 by omega)]
  simp
theorem l_ref63 {n : Nat} {c : Int32} (hn : n ≤ 60) (h : m_cd n c) : ¬ l_ref c = some 63 := by
  rcases h with rfl | rfl | rfl | ⟨j, hj, rfl⟩
  · exact (fun e => by cases e)
  · exact (fun e => by cases e)
  · exact (fun e => by cases e)
  · rw [l_ref_p (by omega)]
    intro e
    have := Option.some.inj e
    omega
set_option maxRecDepth 20000 in
set_option maxHeartbeats 4000000 in
theorem con_X2_pattern : a_Con l D G N0 yX2_pattern cX2_pattern 7 (some .int) (a_rm 3 2 15) sp_X2_pattern := by
  refine a_con (by decide) (fun as σ K h => by obtain ⟨I, F, B, n, s, a, b, c, rfl, rfl, -⟩ := h; exact (by decide : 5 ≤ 7)) ?_
  intro X as σ K h C Y M _
  obtain ⟨I, F, B, n, s, a, b, c, rfl, rfl, henv, hB1, hB2, hK1, hK2, hK3, hK4, hK5⟩ := h
  have hS := S_X2_pattern C Y M
  have d1 := henv.2.1
  have hle := henv.1.1
  by_cases h13 : m_in s 0 13 = 0
  · refine a_wps hS (inv := a_iv X [51]) a_ivh 60 _ _ _ _ _ _ ?_
    refine ⟨fun _ => hK1 h13, fun h1 => ⟨fun h2 => ?_, fun _ => hK1 h13⟩⟩
    unfold m_in at h13
    rw [if_neg h1, if_neg (Int32.not_lt.mpr h2)] at h13
    exact absurd h13 (by decide)
  have hs : ¬ s < 0 ∧ s ≤ 13 := by
    unfold m_in at h13
    by_cases h1 : s < 0
    · rw [if_pos h1] at h13; exact absurd rfl h13
    · rw [if_neg h1] at h13
      by_cases h2 : 13 < s
      · rw [if_pos h2] at h13; exact absurd rfl h13
      · exact ⟨h1, Int32.not_lt.mp h2⟩
  by_cases hth : m_there (nI n - 1) s a b c = 0
  · refine a_wps hS (inv := a_iv X [51]) a_ivh 60 _ _ _ _ _ _ ?_
    exact ⟨fun w => absurd w hs.1, fun _ => ⟨fun _ => ⟨I, F, B, n, s, a, b, c, rfl, rfl, d1, hle, h13, fun _ => hK2 h13 hth, fun w => absurd hth w⟩, fun w => absurd hs.2 w⟩⟩
  by_cases hbad : m_bad s b
  · refine a_wps hS (inv := a_iv X [51]) a_ivh 60 _ _ _ _ _ _ ?_
    exact ⟨fun w => absurd w hs.1, fun _ => ⟨fun _ => ⟨I, F, B, n, s, a, b, c, rfl, rfl, d1, hle, h13, fun w => absurd w hth, fun _ => ⟨s, b, rfl, fun _ => ⟨fun _ => hK3 h13 hth hbad, fun w => absurd rfl w⟩, fun w => absurd hbad w⟩⟩, fun w => absurd hs.2 w⟩⟩
  have tail : a_J X 51 [some (.inr (some 0)), some (.inl s), some (.inl a), some (.inl b), some (.inl c), none, none] [] (a_mk I F B) 0 0 ∨ n = 60 := by
    by_cases h60 : n = 60
    · exact Or.inr h60
    refine Or.inl ?_
    have hlt : n < 60 := by omega
    have hK := hK5 h13 hth hbad hlt
    have hk1 : kd (66 + n) = (1, 7) := by unfold kd; rw [if_neg (by omega), if_pos (by omega)]
    have hk2 : kd (128 + n) = (4, 8) := by unfold kd; rw [if_neg (by omega), if_neg (by omega)]
    have j120 : ∀ (kc ks : Nat), (kc = 1 ∧ ks = 7 ∨ kc = 2 ∧ ks = 15) → ∀ (v : Int32) (J : Nat → Nat → Int32) (FJ : Nat → Nat → Option Nat) (BJ : Nat → Bool) (row old : Option Nat), v = nI n → BJ (66 + n) = true → J 0 4 = nI n → ¬ row = some 63 → ¬ old = some 63 → K (some (.inl (nI n))) (a_mk (a_w (l_J4 J n s a b c) 0 4 (nI (n + 1))) (l_F3 FJ n row old) BJ) →
        a_J X 120 [some (.inr (some 0)), some (.inl s), some (.inl a), some (.inl b), some (.inl c), some (.inr row), some (.inr old)] [.inr old, .inr row, .inl c, .inl b, .inl a, .inl s, .inr (some (66 + n)), .inr (some (66 + n)), .inl v, .inr (some 3)] (a_mk J FJ BJ) kc ks := by
      intro kc ks hkk v J FJ BJ row old hv0 hb hJ hrow hold hKK
      have hv : vp_in v 60 := by rw [hv0]; exact vp_in_nI hlt (by decide)
      have hcl : v.toNatClampNeg = n := by rw [hv0]; exact nI_clamp (by omega)
      have hlv : a_LV BJ (66 + n) = true := by rw [a_LVn (by omega)]; exact hb
      have his : ∀ J' F', a_is (J', F', a_LV BJ) (66 + n) 1 7 = true := fun J' F' => by
        show (a_LV BJ (66 + n) && ((kd (66 + n)).1 == 1 && (kd (66 + n)).2 == 7)) = true
        rw [hlv, hk1]
        rfl
      have j124 : a_J X 124 [some (.inr (some 0)), some (.inl s), some (.inl a), some (.inl b), some (.inl c), some (.inr row), some (.inr old)] [] (a_mk (l_J4 J n s a b c) (l_F3 FJ n row old) BJ) kc ks := by
        have e4 : l_J4 J n s a b c 0 4 = nI n := by
          unfold l_J4 a_w
          rw [if_neg (by omega), if_neg (by omega), if_neg (by omega), if_neg (by omega)]
          exact hJ
        have e5 : nI n + 1 - 1 = nI n := by rw [nI_1]; exact nI_pred n
        generalize l_J4 J n s a b c = J4 at hKK e4
        have hKK : K (some (.inl (J4 0 4 + 1 - 1))) (a_mk (a_w J4 0 4 (J4 0 4 + 1)) (l_F3 FJ n row old) BJ) := by
          rw [e4, e5, nI_1]
          exact hKK
        rcases hkk with ⟨rfl, rfl⟩ | ⟨rfl, rfl⟩
        · exact a_wp1 hS a_ivh (inv := a_iv X []) 40 124 _ rfl hKK
        · exact a_wp1 hS a_ivh (inv := a_iv X []) 40 124 _ rfl hKK
      rcases hkk with ⟨rfl, rfl⟩ | ⟨rfl, rfl⟩
      all_goals
        refine a_wp1 hS a_ivh (inv := a_iv X [124]) 40 120 _ rfl ⟨66 + n, s, a, b, c, row, old, rfl, his _ _, hrow, hold, hv, fun h' e => (by cases e; exact his _ _), ?_⟩
        show a_J X 124 [some (.inr (some 0)), some (.inl s), some (.inl a), some (.inl b), some (.inl c), some (.inr row), some (.inr old)] [] (a_uF (a_uF (a_uF (a_mk (l_J4 J n s a b c) FJ BJ) (66 + n) 4 row) (66 + n) 5 old) 3 v.toNatClampNeg (some (66 + n))) _ _
        rw [hcl, u_2e (by omega), u_2e (by omega), u_2e (by omega)]
        exact j124
    have j80 : ∀ (kc ks : Nat), (kc = 0 ∧ ks = 0 ∨ kc = 1 ∧ ks = 8) → ∀ (J : Nat → Nat → Int32) (FJ : Nat → Nat → Option Nat) (BJ : Nat → Bool) (row : Option Nat), BJ (66 + n) = false → J 0 4 = nI n → (∀ k, FJ 2 k = F 2 k) → ¬ row = some 63 →
        (∀ old : Option Nat, (s = 13 → old = F 2 a.toNatClampNeg) → K (some (.inl (nI n))) (a_mk (a_w (l_J4 (n_1 J (66 + n) (fun _ => 0)) n s a b c) 0 4 (nI (n + 1))) (l_F3 (n_2 FJ (66 + n)) n row old) (n_3 BJ (66 + n)))) →
        a_J X 80 [some (.inr (some 0)), some (.inl s), some (.inl a), some (.inl b), some (.inl c), none, none] [.inr row] (a_mk J FJ BJ) kc ks := by
      intro kc ks hkk J FJ BJ row hb hJ hF2 hrow hKK
      have j97 : ∀ old : Option Nat, ¬ old = some 63 → (s = 13 → old = F 2 a.toNatClampNeg) → a_J X 97 [some (.inr (some 0)), some (.inl s), some (.inl a), some (.inl b), some (.inl c), some (.inr row), none] [.inr old] (a_mk J FJ BJ) kc ks := by
        intro old hold h8
        have g1 : n_3 BJ (66 + n) (66 + n) = true := if_pos rfl
        have g4 : n_1 J (66 + n) (fun _ => 0) 0 4 = nI n := by unfold n_1; rw [if_neg (by omega)]; exact hJ
        have hlf : a_LV BJ (66 + n) = false := by rw [a_LVn (by omega)]; exact hb
        have j := j120 (kc + 1) (ks + 7) (by omega) (J 0 4) _ _ _ row old hJ g1 g4 hrow hold (hKK old h8)
        rw [← n_e (by omega)] at j
        rcases hkk with ⟨rfl, rfl⟩ | ⟨rfl, rfl⟩
        · exact a_wp1 hS a_ivh (inv := a_iv X [120]) 60 97 _ rfl ⟨66 + n, hlf, hk1, ⟨by omega, by omega⟩, j⟩
        · exact a_wp1 hS a_ivh (inv := a_iv X [120]) 60 97 _ rfl ⟨66 + n, hlf, hk1, ⟨by omega, by omega⟩, j⟩
      rcases hkk with ⟨rfl, rfl⟩ | ⟨rfl, rfl⟩
      all_goals
        refine a_wp1 hS a_ivh (inv := a_iv X [97]) 40 80 _ rfl ⟨fun e13 => ⟨J, FJ, BJ, a, rfl, rfl, ?_⟩, fun e13 => j97 none (fun e => by cases e) (fun e => absurd e e13)⟩
        obtain ⟨j, hj, ea⟩ := m_there_13 (e13 ▸ hth)
        have cj : a.toNatClampNeg = j := by rw [ea]; exact nI_clamp (by omega)
        have e5 : m_in a 0 5 = 1 := by rw [ea]; exact m_in_y (b := 5) (by decide) (by omega)
        show a_J X 97 [some (.inr (some 0)), some (.inl s), some (.inl a), some (.inl b), some (.inl c), some (.inr row), none] [.inr (if m_in a 0 5 = 0 then none else FJ 2 a.toNatClampNeg)] (a_mk J FJ BJ) _ _
        rw [e5, if_neg (by decide), hF2]
        refine j97 _ ?_ (fun _ => rfl)
        rw [cj, henv.2.2.2.2.2.2.1 j hj]
        exact l_ref63 hle (henv.1.2.2 j hj)
    refine a_wp1 hS a_ivh (inv := a_iv X [70, 80]) 40 51 _ rfl ⟨fun e8 => ?_, fun e8 => ?_⟩
    · obtain ⟨d, hd, hb⟩ := m_there_8 (e8 ▸ hth)
      have ez : ¬ m_in b 0 3 = 0 := by
        rw [hb, show m_in (nI d) 0 3 = 1 from m_in_y (b := 3) (by decide) (by omega)]
        decide
      have hv : vp_in b 4 := by rw [hb]; exact vp_in_nI (by omega) (by decide)
      have e : a_SR F 1 b.toNatClampNeg = some (6 + d) := by
        rw [hb, show (nI d).toNatClampNeg = d from nI_clamp (by omega)]
        exact if_pos (show d < 4 by omega)
      have hlf : a_LV B (128 + n) = false := by rw [a_LVn (by omega)]; exact hB2
      have j80c : a_J X 80 [some (.inr (some 0)), some (.inl s), some (.inl a), some (.inl b), some (.inl c), none, none] [.inr (some (128 + n))] (a_mk (n_1 I (128 + n) (I (6 + d))) (n_2 F (128 + n)) (n_3 B (128 + n))) 1 8 := by
        refine j80 1 8 (Or.inr ⟨rfl, rfl⟩) _ _ _ _ ?_ ?_ (fun k => ?_) (fun e => by have := Option.some.inj e; omega) (fun old h8 => hK _ _ _ (l_newI (fun h k e1 e2 => ?_) ?_ (fun h k e1 e2 => ?_) (fun h e1 e2 => ?_) ?_ (fun e => ⟨rfl, ?_, fun d' hd' hb' j => ?_⟩) h8))
        · unfold n_3; rw [if_neg (by omega)]; exact hB1
        · unfold n_1; rw [if_neg (by omega)]; exact d1
        · unfold n_2; rw [if_neg (by omega)]
        · unfold n_1; rw [if_neg e1, if_neg e2]
        · unfold n_1; rw [if_pos rfl]
        · unfold n_2; rw [if_neg e1, if_neg e2]
        · unfold n_3; rw [if_neg e1, if_neg e2]
        · unfold n_3; rw [if_pos rfl]
        · unfold n_3; rw [if_neg (by omega), if_pos rfl]
        · have e9 : nI d = nI d' := hb.symm.trans hb'
          have := (nI_eq (by omega) (by omega)).mp e9
          unfold n_1
          rw [if_neg (by omega), if_pos rfl, this]
      rw [← n_e (by omega)] at j80c
      refine ⟨b, rfl, fun hz => absurd hz ez, fun _ => ⟨hv, ?_⟩⟩
      show a_J X 70 [some (.inr (some 0)), some (.inl s), some (.inl a), some (.inl b), some (.inl c), none, none] [.inr (a_SR F 1 b.toNatClampNeg)] (a_mk I F B) 0 0
      rw [e]
      refine a_wp1 hS a_ivh (inv := a_iv X [80]) 60 70 _ rfl (a_gi (l_dy (I := I) (F := F) (B := B) (d := d) (by omega)) ⟨128 + n, hlf, hk2, ⟨by omega, by omega⟩, a_gi ?_ j80c⟩)
      show ((a_new (a_mk I F B) (128 + n) (I (6 + d))).2.2 (128 + n) && (kd (128 + n)).1 == 4) = true
      rw [a_new_3, hk2]
      rfl
    · exact j80 0 0 (Or.inl ⟨rfl, rfl⟩) I F B none hB1 d1 (fun _ => rfl) (fun e => by cases e) (fun old h8 => hK _ _ _ (l_newI (fun h k e1 _ => if_neg e1) (if_pos rfl) (fun h k e1 _ => if_neg e1) (fun h e1 _ => if_neg e1) (if_pos rfl) (fun e => absurd e e8) h8))
  refine a_wps hS (inv := a_iv X [51]) a_ivh 60 _ _ _ _ _ _ ?_
  refine ⟨fun w => absurd w hs.1, fun _ => ⟨fun _ => ⟨I, F, B, n, s, a, b, c, rfl, rfl, d1, hle, h13, fun w => absurd w hth, fun _ => ⟨s, b, rfl, fun w => absurd w hbad, fun _ => ⟨fun w => absurd w (by decide), fun _ => ?_⟩⟩⟩, fun w => absurd hs.2 w⟩⟩
  rcases tail with tail | h60
  · refine ⟨fun _ => tail, fun w => ?_⟩
    have w : ¬ I 0 4 < 60 := w
    refine hK4 h13 hth hbad ?_
    rw [d1] at w
    rcases Nat.lt_or_ge n 60 with z | z
    · exact absurd (nI_lt (b := 60) z (by decide)) w
    · omega
  · have e60 : I 0 4 = 60 := by rw [d1, h60]; rfl
    refine ⟨fun w => ?_, fun _ => hK4 h13 hth hbad h60⟩
    have w : I 0 4 < 60 := w
    rw [e60] at w
    exact absurd w (by decide)
end LZ

