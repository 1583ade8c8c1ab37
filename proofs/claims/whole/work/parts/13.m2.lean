/-! ===== the reference's middle methods ===== -/
theorem m_in_n {v : Int32} {b : Nat} (hb : b < 2 ^ 31) (h : ¬ m_in v 0 (nI b) = 0) : ∃ j, j ≤ b ∧ v = nI j := by
  unfold m_in at h
  by_cases h1 : v < 0
  · rw [if_pos h1] at h; exact absurd rfl h
  · by_cases h2 : nI b < v
    · rw [if_neg h1, if_pos h2] at h; exact absurd rfl h
    · obtain ⟨j, hj, rfl⟩ := nI_of h1
      exact ⟨j, Nat.not_lt.mp (fun w => h2 (nI_lt w hj)), rfl⟩
theorem m_in_y {j b : Nat} (hb : b < 2 ^ 31) (h : j ≤ b) : m_in (nI j) 0 (nI b) = 1 := by
  unfold m_in
  rw [if_neg (nI_pos (by omega)), if_neg (nI_nlt h (by omega))]
theorem m_in_01 (v lo hi : Int32) : m_in v lo hi = 0 ∨ m_in v lo hi = 1 := by
  unfold m_in
  split
  · exact Or.inl rfl
  · split
    · exact Or.inl rfl
    · exact Or.inr rfl
theorem a_8 {d i : Nat} (hd : d < 60) (hi : i < 8) : (8 : Int32) * nI d + nI i = nI (8 * d + i) := by
  rw [show (8 : Int32) = nI 8 from rfl, pk_mul, nI_add]
theorem a_8in {d i : Nat} (hd : d < 4) (hi : i < 8) : vp_in ((8 : Int32) * nI d + nI i) 32 := by
  rw [a_8 (by omega) hi]
  exact vp_in_nI (by omega) (by decide)
def m_tellsOf (I : Nat → Nat → Int32) (i v more : Int32) : Nat → Nat → Int32 := if m_in i 0 7 = 0 then a_w I 16 20 2 else m_tells I (v + more)
def sp_X3_tellsOf : aP := fun as σ K => ∃ I F B i v more, σ = a_mk I F B ∧ as = [.inr (some 16), .inl i, .inl v, .inl more] ∧ K none (a_mk (m_tellsOf I i v more) F B)
theorem rc_X3_tellsOf : ∀ as σ K, sp_X3_tellsOf as σ K → ∃ h As, as = .inr (some h) :: As ∧ a_is σ h 3 25 = true := by
  rintro as σ K ⟨I, F, B, c, x, y, rfl, rfl, -⟩
  exact ⟨16, _, rfl, rfl⟩
def P_X3_tellsOf (K : aK) (bc bs : Nat) : List (Nat × aT) := [(0, t_ild 1 1),
  (1, t_ic 0 2),
  (2, t_ic 7 4),
  (4, t_call 3 0 0 bc bs sp_X3_in 7),
  (7, t_if (fun x => x = 0) 20 10),
  (10, t_ald 0 11),
  (11, t_ild 2 12),
  (12, t_ild 3 13),
  (13, t_add 14),
  (14, t_call 2 0 0 bc bs sp_X3_tells 17),
  (17, t_goto 25),
  (20, t_ald 0 21),
  (21, t_ic 2 22),
  (22, t_puti 3 25 20 25),
  (25, t_vret K bc bs)]
set_option maxRecDepth 100000 in
theorem S_X3_tellsOf {X : a_X} {K : aK} {l : Launch} {D : va_G} {G : aG} {N0 : Nat} (C : a_C X cX3_tellsOf none RX3) (Y : a_Y X l (a_rm 2 0 0) D G N0) (M : a_mq X K (a_rm 2 0 0).cells (a_rm 2 0 0).slots) : ∀ x ∈ P_X3_tellsOf K 0 0, a_Sd X x.1 x.2 := by
  unfold P_X3_tellsOf
  refine List.forall_mem_cons.mpr ⟨s_ildn C dX3_tellsOf_0 rfl, ?_⟩
  refine List.forall_mem_cons.mpr ⟨s_ic C dX3_tellsOf_1 (by decide), ?_⟩
  refine List.forall_mem_cons.mpr ⟨s_bi C dX3_tellsOf_2 (by decide), ?_⟩
  refine List.forall_mem_cons.mpr ⟨s_callS (rm := (a_rm 1 0 0)) C Y con_X3_in co_X3_in ml_X3_59 st_X3_in ii_X3 (by decide +kernel) ⟨by decide, by decide⟩ ⟨rfl, rfl⟩ dX3_tellsOf_4, ?_⟩
  refine List.forall_mem_cons.mpr ⟨s_if_eq C dX3_tellsOf_7 (by decide), ?_⟩
  refine List.forall_mem_cons.mpr ⟨s_aldn C dX3_tellsOf_10 rfl, ?_⟩
  refine List.forall_mem_cons.mpr ⟨s_ildn C dX3_tellsOf_11 rfl, ?_⟩
  refine List.forall_mem_cons.mpr ⟨s_ildn C dX3_tellsOf_12 rfl, ?_⟩
  refine List.forall_mem_cons.mpr ⟨s_add C dX3_tellsOf_13, ?_⟩
  refine List.forall_mem_cons.mpr ⟨s_callV (rm := (a_rm 1 0 0)) (n := 1) C Y (ci := 3) rfl con_X3_tells rc_X3_tells co_X3_tells ml_X3_86 im_X3_tells se_X3_tells ii_X3 (by decide +kernel) ⟨by decide, by decide⟩ ⟨rfl, rfl⟩ dX3_tellsOf_14, ?_⟩
  refine List.forall_mem_cons.mpr ⟨s_goto C dX3_tellsOf_17 (by decide), ?_⟩
  refine List.forall_mem_cons.mpr ⟨s_aldn C dX3_tellsOf_20 rfl, ?_⟩
  refine List.forall_mem_cons.mpr ⟨s_ic C dX3_tellsOf_21 (by decide), ?_⟩
  refine List.forall_mem_cons.mpr ⟨s_puti C tyX3 tyX3_ok nmX3 rfl in_X3 (by decide) lk_X3_77 rfl (Or.inl rfl) rfl dX3_tellsOf_22, ?_⟩
  refine List.forall_mem_cons.mpr ⟨s_vret C M dX3_tellsOf_25, ?_⟩
  exact fun _ h => absurd h List.not_mem_nil
theorem con_X3_tellsOf {l : Launch} {D : va_G} {G : aG} {N0 : Nat} : a_Con l D G N0 yX3_tellsOf cX3_tellsOf 4 none (a_rm 2 0 0) sp_X3_tellsOf := by
  refine a_con (by decide) (fun as σ K h => by obtain ⟨I, F, B, c, x, y, rfl, rfl, -⟩ := h; exact Nat.le_refl _) ?_
  intro X as σ K h C Y M _
  obtain ⟨I, F, B, i, v, more, rfl, rfl, hK⟩ := h
  refine a_wps (S_X3_tellsOf C Y M) (inv := a_ni) a_nih 40 _ _ _ _ _ _ ?_
  refine ⟨i, 0, 7, rfl, fun h1 => ?_, fun h1 => ?_⟩
  · rw [show m_tellsOf I i v more = _ from if_pos h1] at hK
    exact hK
  · rw [show m_tellsOf I i v more = _ from if_neg h1] at hK
    exact ⟨I, F, B, v + more, rfl, rfl, hK⟩
def m_dyeAt (I : Nat → Nat → Int32) (d i : Int32) : Int32 := if m_in i 0 7 = 0 then 0 else I 24 (8 * d + i).toNatClampNeg
def sp_X3_dyeAt : aP := fun as σ K => ∃ I F B d i, σ = a_mk I F B ∧ as = [.inr (some 16), .inl d, .inl i] ∧ (¬ m_in i 0 7 = 0 → vp_in (8 * d + i) 32) ∧ K (some (.inl (m_dyeAt I d i))) σ
theorem rc_X3_dyeAt : ∀ as σ K, sp_X3_dyeAt as σ K → ∃ h As, as = .inr (some h) :: As ∧ a_is σ h 3 25 = true := by
  rintro as σ K ⟨I, F, B, c, x, rfl, rfl, -⟩
  exact ⟨16, _, rfl, rfl⟩
def P_X3_dyeAt (K : aK) (bc bs : Nat) : List (Nat × aT) := [(0, t_ild 2 1),
  (1, t_ic 0 2),
  (2, t_ic 7 4),
  (4, t_call 3 0 0 bc bs sp_X3_in 7),
  (7, t_if (fun x => x = 0) 24 10),
  (10, t_ald 0 11),
  (11, t_getr 3 25 8 14),
  (14, t_ic 8 16),
  (16, t_ild 1 17),
  (17, t_mul 18),
  (18, t_ild 2 19),
  (19, t_add 20),
  (20, t_iald 21),
  (21, t_goto 25),
  (24, t_ic 0 25),
  (25, t_iret K bc bs)]
set_option maxRecDepth 100000 in
theorem S_X3_dyeAt {X : a_X} {K : aK} {l : Launch} {D : va_G} {G : aG} {N0 : Nat} (C : a_C X cX3_dyeAt (some .int) RX3) (Y : a_Y X l (a_rm 2 0 0) D G N0) (M : a_mq X K (a_rm 2 0 0).cells (a_rm 2 0 0).slots) : ∀ x ∈ P_X3_dyeAt K 0 0, a_Sd X x.1 x.2 := by
  unfold P_X3_dyeAt
  refine List.forall_mem_cons.mpr ⟨s_ildn C dX3_dyeAt_0 rfl, ?_⟩
  refine List.forall_mem_cons.mpr ⟨s_ic C dX3_dyeAt_1 (by decide), ?_⟩
  refine List.forall_mem_cons.mpr ⟨s_bi C dX3_dyeAt_2 (by decide), ?_⟩
  refine List.forall_mem_cons.mpr ⟨s_callS (rm := (a_rm 1 0 0)) C Y con_X3_in co_X3_in ml_X3_59 st_X3_in ii_X3 (by decide +kernel) ⟨by decide, by decide⟩ ⟨rfl, rfl⟩ dX3_dyeAt_4, ?_⟩
  refine List.forall_mem_cons.mpr ⟨s_if_eq C dX3_dyeAt_7 (by decide), ?_⟩
  refine List.forall_mem_cons.mpr ⟨s_aldn C dX3_dyeAt_10 rfl, ?_⟩
  refine List.forall_mem_cons.mpr ⟨s_getr C rfl in_X3 (by decide) lk_X3_31 rfl dX3_dyeAt_11, ?_⟩
  refine List.forall_mem_cons.mpr ⟨s_bi C dX3_dyeAt_14 (by decide), ?_⟩
  refine List.forall_mem_cons.mpr ⟨s_ildn C dX3_dyeAt_16 rfl, ?_⟩
  refine List.forall_mem_cons.mpr ⟨s_mul C dX3_dyeAt_17, ?_⟩
  refine List.forall_mem_cons.mpr ⟨s_ildn C dX3_dyeAt_18 rfl, ?_⟩
  refine List.forall_mem_cons.mpr ⟨s_add C dX3_dyeAt_19, ?_⟩
  refine List.forall_mem_cons.mpr ⟨s_iald C dX3_dyeAt_20, ?_⟩
  refine List.forall_mem_cons.mpr ⟨s_goto C dX3_dyeAt_21 (by decide), ?_⟩
  refine List.forall_mem_cons.mpr ⟨s_ic C dX3_dyeAt_24 (by decide), ?_⟩
  refine List.forall_mem_cons.mpr ⟨s_iret C M dX3_dyeAt_25, ?_⟩
  exact fun _ h => absurd h List.not_mem_nil
theorem con_X3_dyeAt {l : Launch} {D : va_G} {G : aG} {N0 : Nat} : a_Con l D G N0 yX3_dyeAt cX3_dyeAt 3 (some .int) (a_rm 2 0 0) sp_X3_dyeAt := by
  refine a_con (by decide) (fun as σ K h => by obtain ⟨I, F, B, c, x, rfl, rfl, -⟩ := h; exact Nat.le_refl _) ?_
  intro X as σ K h C Y M _
  obtain ⟨I, F, B, d, i, rfl, rfl, hv, hK⟩ := h
  refine a_wps (S_X3_dyeAt C Y M) (inv := a_ni) a_nih 40 _ _ _ _ _ _ ?_
  refine ⟨i, 0, 7, rfl, fun h1 => ?_, fun h1 => ⟨hv h1, ?_⟩⟩
  · rw [show m_dyeAt I d i = _ from if_pos h1] at hK
    exact hK
  · rw [show m_dyeAt I d i = _ from if_neg h1] at hK
    exact hK
def m_quot (x b : Int32) : Int32 := if b = -1 then -x else x / b
def sp_X3_quotient : aP := fun as σ K => ∃ x b, as = [.inl x, .inl b] ∧ ¬ b = 0 ∧ K (some (.inl (m_quot x b))) σ
def P_X3_quotient (K : aK) (bc bs : Nat) : List (Nat × aT) := [(0, t_ild 1 1),
  (1, t_ic (-1) 2),
  (2, t_ifc (fun x y => x = y) 5 10),
  (5, t_ild 0 6),
  (6, t_neg 7),
  (7, t_goto 13),
  (10, t_ild 0 11),
  (11, t_ild 1 12),
  (12, t_div 13),
  (13, t_iret K bc bs)]
set_option maxRecDepth 100000 in
theorem S_X3_quotient {X : a_X} {K : aK} {l : Launch} {D : va_G} {G : aG} {N0 : Nat} (C : a_C X cX3_quotient (some .int) RX3) (Y : a_Y X l (a_rm 1 0 0) D G N0) (M : a_mq X K (a_rm 1 0 0).cells (a_rm 1 0 0).slots) : ∀ x ∈ P_X3_quotient K 0 0, a_Sd X x.1 x.2 := by
  unfold P_X3_quotient
  refine List.forall_mem_cons.mpr ⟨s_ildn C dX3_quotient_0 rfl, ?_⟩
  refine List.forall_mem_cons.mpr ⟨s_ic C dX3_quotient_1 (by decide), ?_⟩
  refine List.forall_mem_cons.mpr ⟨s_icmp_ne C dX3_quotient_2 (by decide), ?_⟩
  refine List.forall_mem_cons.mpr ⟨s_ildn C dX3_quotient_5 rfl, ?_⟩
  refine List.forall_mem_cons.mpr ⟨s_neg C dX3_quotient_6, ?_⟩
  refine List.forall_mem_cons.mpr ⟨s_goto C dX3_quotient_7 (by decide), ?_⟩
  refine List.forall_mem_cons.mpr ⟨s_ildn C dX3_quotient_10 rfl, ?_⟩
  refine List.forall_mem_cons.mpr ⟨s_ildn C dX3_quotient_11 rfl, ?_⟩
  refine List.forall_mem_cons.mpr ⟨s_div C dX3_quotient_12, ?_⟩
  refine List.forall_mem_cons.mpr ⟨s_iret C M dX3_quotient_13, ?_⟩
  exact fun _ h => absurd h List.not_mem_nil
theorem con_X3_quotient {l : Launch} {D : va_G} {G : aG} {N0 : Nat} : a_Con l D G N0 yX3_quotient cX3_quotient 2 (some .int) (a_rm 1 0 0) sp_X3_quotient := by
  refine a_con (by decide) (fun as σ K h => by obtain ⟨x, b, rfl, -⟩ := h; exact Nat.le_refl _) ?_
  intro X as σ K h C Y M _
  obtain ⟨x, b, rfl, hb, hK⟩ := h
  refine a_wps (S_X3_quotient C Y M) (inv := a_ni) a_nih 40 _ _ _ _ _ _ ?_
  refine ⟨fun h1 => ?_, fun h1 => ⟨hb, ?_⟩⟩
  · rw [show m_quot x b = _ from if_pos h1] at hK
    exact hK
  · rw [show m_quot x b = _ from if_neg h1] at hK
    exact hK
def m_alone (I : Nat → Nat → Int32) (p x y : Int32) : Nat → Nat → Int32 :=
  if p = -2 then m_tells I (a_rem (x + y) 2)
  else if p = -3 then m_tellsOf I x (m_dyeAt I 0 x) y
  else if I 17 p.toNatClampNeg = 0 then m_tells I (I 18 p.toNatClampNeg)
  else if I 17 p.toNatClampNeg = 1 then (if I 20 p.toNatClampNeg = 0 then a_w I 16 20 1 else m_tells I (if a_rem (m_quot x (I 20 p.toNatClampNeg)) 2 = 0 then I 18 p.toNatClampNeg else I 19 p.toNatClampNeg))
  else if I 19 p.toNatClampNeg = 0 then a_w I 16 20 1
  else m_tells I ((if I 19 p.toNatClampNeg = -1 then 0 else a_rem (x + I 18 p.toNatClampNeg * y) (I 19 p.toNatClampNeg)) + I 20 p.toNatClampNeg)
def sp_X3_alone : aP := fun as σ K => ∃ I F B p x y, σ = a_mk I F B ∧ as = [.inr (some 16), .inl p, .inl x, .inl y] ∧ (¬ p = -2 → ¬ p = -3 → vp_in p 60) ∧ K none (a_mk (m_alone I p x y) F B)
theorem rc_X3_alone : ∀ as σ K, sp_X3_alone as σ K → ∃ h As, as = .inr (some h) :: As ∧ a_is σ h 3 25 = true := by
  rintro as σ K ⟨I, F, B, c, x, y, rfl, rfl, -⟩
  exact ⟨16, _, rfl, rfl⟩
def P_X3_alone (K : aK) (bc bs : Nat) : List (Nat × aT) := [(0, t_ild 1 1),
  (1, t_ic (-2) 3),
  (3, t_ifc (fun x y => x = y) 6 18),
  (6, t_ald 0 7),
  (7, t_ild 2 8),
  (8, t_ild 3 9),
  (9, t_add 10),
  (10, t_ic 2 11),
  (11, t_rem 12),
  (12, t_call 2 0 0 bc bs sp_X3_tells 15),
  (15, t_goto 184),
  (18, t_ild 1 19),
  (19, t_ic (-3) 21),
  (21, t_ifc (fun x y => x = y) 24 39),
  (24, t_ald 0 25),
  (25, t_ild 2 26),
  (26, t_ald 0 27),
  (27, t_ic 0 28),
  (28, t_ild 2 29),
  (29, t_call 3 0 0 bc bs sp_X3_dyeAt 32),
  (32, t_ild 3 33),
  (33, t_call 4 0 0 bc bs sp_X3_tellsOf 36),
  (36, t_goto 184),
  (39, t_ald 0 40),
  (40, t_getr 3 25 1 43),
  (43, t_ild 1 44),
  (44, t_iald 45),
  (45, t_if (fun x => x = 0) 48 61),
  (48, t_ald 0 49),
  (49, t_ald 0 50),
  (50, t_getr 3 25 2 53),
  (53, t_ild 1 54),
  (54, t_iald 55),
  (55, t_call 2 0 0 bc bs sp_X3_tells 58),
  (58, t_goto 184),
  (61, t_ald 0 62),
  (62, t_getr 3 25 1 65),
  (65, t_ild 1 66),
  (66, t_iald 67),
  (67, t_ic 1 68),
  (68, t_ifc (fun x y => x = y) 71 125),
  (71, t_ald 0 72),
  (72, t_getr 3 25 4 75),
  (75, t_ild 1 76),
  (76, t_iald 77),
  (77, t_if (fun x => x = 0) 80 88),
  (80, t_ald 0 81),
  (81, t_ic 1 82),
  (82, t_puti 3 25 20 85),
  (85, t_goto 184),
  (88, t_ald 0 89),
  (89, t_ild 2 90),
  (90, t_ald 0 91),
  (91, t_getr 3 25 4 94),
  (94, t_ild 1 95),
  (95, t_iald 96),
  (96, t_call 2 0 0 bc bs sp_X3_quotient 99),
  (99, t_ic 2 100),
  (100, t_rem 101),
  (101, t_if (fun x => x = 0) 104 113),
  (104, t_ald 0 105),
  (105, t_getr 3 25 2 108),
  (108, t_ild 1 109),
  (109, t_iald 110),
  (110, t_goto 119),
  (113, t_ald 0 114),
  (114, t_getr 3 25 3 117),
  (117, t_ild 1 118),
  (118, t_iald 119),
  (119, t_call 2 0 0 bc bs sp_X3_tells 122),
  (122, t_goto 184),
  (125, t_ald 0 126),
  (126, t_getr 3 25 3 129),
  (129, t_ild 1 130),
  (130, t_iald 131),
  (131, t_if (fun x => x = 0) 134 142),
  (134, t_ald 0 135),
  (135, t_ic 1 136),
  (136, t_puti 3 25 20 139),
  (139, t_goto 184),
  (142, t_ald 0 143),
  (143, t_ald 0 144),
  (144, t_getr 3 25 3 147),
  (147, t_ild 1 148),
  (148, t_iald 149),
  (149, t_ic (-1) 150),
  (150, t_ifc (fun x y => x = y) 153 157),
  (153, t_ic 0 154),
  (154, t_goto 174),
  (157, t_ild 2 158),
  (158, t_ald 0 159),
  (159, t_getr 3 25 2 162),
  (162, t_ild 1 163),
  (163, t_iald 164),
  (164, t_ild 3 165),
  (165, t_mul 166),
  (166, t_add 167),
  (167, t_ald 0 168),
  (168, t_getr 3 25 3 171),
  (171, t_ild 1 172),
  (172, t_iald 173),
  (173, t_rem 174),
  (174, t_ald 0 175),
  (175, t_getr 3 25 4 178),
  (178, t_ild 1 179),
  (179, t_iald 180),
  (180, t_add 181),
  (181, t_call 2 0 0 bc bs sp_X3_tells 184),
  (184, t_vret K bc bs)]
set_option maxRecDepth 100000 in
theorem S_X3_alone {X : a_X} {K : aK} {l : Launch} {D : va_G} {G : aG} {N0 : Nat} (C : a_C X cX3_alone none RX3) (Y : a_Y X l (a_rm 3 0 0) D G N0) (M : a_mq X K (a_rm 3 0 0).cells (a_rm 3 0 0).slots) : ∀ x ∈ P_X3_alone K 0 0, a_Sd X x.1 x.2 := by
  unfold P_X3_alone
  refine List.forall_mem_cons.mpr ⟨s_ildn C dX3_alone_0 rfl, ?_⟩
  refine List.forall_mem_cons.mpr ⟨s_bi C dX3_alone_1 (by decide), ?_⟩
  refine List.forall_mem_cons.mpr ⟨s_icmp_ne C dX3_alone_3 (by decide), ?_⟩
  refine List.forall_mem_cons.mpr ⟨s_aldn C dX3_alone_6 rfl, ?_⟩
  refine List.forall_mem_cons.mpr ⟨s_ildn C dX3_alone_7 rfl, ?_⟩
  refine List.forall_mem_cons.mpr ⟨s_ildn C dX3_alone_8 rfl, ?_⟩
  refine List.forall_mem_cons.mpr ⟨s_add C dX3_alone_9, ?_⟩
  refine List.forall_mem_cons.mpr ⟨s_ic C dX3_alone_10 (by decide), ?_⟩
  refine List.forall_mem_cons.mpr ⟨s_rem C dX3_alone_11, ?_⟩
  refine List.forall_mem_cons.mpr ⟨s_callV (rm := (a_rm 1 0 0)) (n := 1) C Y (ci := 3) rfl con_X3_tells rc_X3_tells co_X3_tells ml_X3_86 im_X3_tells se_X3_tells ii_X3 (by decide +kernel) ⟨by decide, by decide⟩ ⟨rfl, rfl⟩ dX3_alone_12, ?_⟩
  refine List.forall_mem_cons.mpr ⟨s_goto C dX3_alone_15 (by decide), ?_⟩
  refine List.forall_mem_cons.mpr ⟨s_ildn C dX3_alone_18 rfl, ?_⟩
  refine List.forall_mem_cons.mpr ⟨s_bi C dX3_alone_19 (by decide), ?_⟩
  refine List.forall_mem_cons.mpr ⟨s_icmp_ne C dX3_alone_21 (by decide), ?_⟩
  refine List.forall_mem_cons.mpr ⟨s_aldn C dX3_alone_24 rfl, ?_⟩
  refine List.forall_mem_cons.mpr ⟨s_ildn C dX3_alone_25 rfl, ?_⟩
  refine List.forall_mem_cons.mpr ⟨s_aldn C dX3_alone_26 rfl, ?_⟩
  refine List.forall_mem_cons.mpr ⟨s_ic C dX3_alone_27 (by decide), ?_⟩
  refine List.forall_mem_cons.mpr ⟨s_ildn C dX3_alone_28 rfl, ?_⟩
  refine List.forall_mem_cons.mpr ⟨s_callV (rm := (a_rm 2 0 0)) (n := 2) C Y (ci := 3) rfl con_X3_dyeAt rc_X3_dyeAt co_X3_dyeAt ml_X3_90 im_X3_dyeAt se_X3_dyeAt ii_X3 (by decide +kernel) ⟨by decide, by decide⟩ ⟨rfl, rfl⟩ dX3_alone_29, ?_⟩
  refine List.forall_mem_cons.mpr ⟨s_ildn C dX3_alone_32 rfl, ?_⟩
  refine List.forall_mem_cons.mpr ⟨s_callV (rm := (a_rm 2 0 0)) (n := 3) C Y (ci := 3) rfl con_X3_tellsOf rc_X3_tellsOf co_X3_tellsOf ml_X3_94 im_X3_tellsOf se_X3_tellsOf ii_X3 (by decide +kernel) ⟨by decide, by decide⟩ ⟨rfl, rfl⟩ dX3_alone_33, ?_⟩
  refine List.forall_mem_cons.mpr ⟨s_goto C dX3_alone_36 (by decide), ?_⟩
  refine List.forall_mem_cons.mpr ⟨s_aldn C dX3_alone_39 rfl, ?_⟩
  refine List.forall_mem_cons.mpr ⟨s_getr C rfl in_X3 (by decide) lk_X3_7 rfl dX3_alone_40, ?_⟩
  refine List.forall_mem_cons.mpr ⟨s_ildn C dX3_alone_43 rfl, ?_⟩
  refine List.forall_mem_cons.mpr ⟨s_iald C dX3_alone_44, ?_⟩
  refine List.forall_mem_cons.mpr ⟨s_if_ne C dX3_alone_45 (by decide), ?_⟩
  refine List.forall_mem_cons.mpr ⟨s_aldn C dX3_alone_48 rfl, ?_⟩
  refine List.forall_mem_cons.mpr ⟨s_aldn C dX3_alone_49 rfl, ?_⟩
  refine List.forall_mem_cons.mpr ⟨s_getr C rfl in_X3 (by decide) lk_X3_13 rfl dX3_alone_50, ?_⟩
  refine List.forall_mem_cons.mpr ⟨s_ildn C dX3_alone_53 rfl, ?_⟩
  refine List.forall_mem_cons.mpr ⟨s_iald C dX3_alone_54, ?_⟩
  refine List.forall_mem_cons.mpr ⟨s_callV (rm := (a_rm 1 0 0)) (n := 1) C Y (ci := 3) rfl con_X3_tells rc_X3_tells co_X3_tells ml_X3_86 im_X3_tells se_X3_tells ii_X3 (by decide +kernel) ⟨by decide, by decide⟩ ⟨rfl, rfl⟩ dX3_alone_55, ?_⟩
  refine List.forall_mem_cons.mpr ⟨s_goto C dX3_alone_58 (by decide), ?_⟩
  refine List.forall_mem_cons.mpr ⟨s_aldn C dX3_alone_61 rfl, ?_⟩
  refine List.forall_mem_cons.mpr ⟨s_getr C rfl in_X3 (by decide) lk_X3_7 rfl dX3_alone_62, ?_⟩
  refine List.forall_mem_cons.mpr ⟨s_ildn C dX3_alone_65 rfl, ?_⟩
  refine List.forall_mem_cons.mpr ⟨s_iald C dX3_alone_66, ?_⟩
  refine List.forall_mem_cons.mpr ⟨s_ic C dX3_alone_67 (by decide), ?_⟩
  refine List.forall_mem_cons.mpr ⟨s_icmp_ne C dX3_alone_68 (by decide), ?_⟩
  refine List.forall_mem_cons.mpr ⟨s_aldn C dX3_alone_71 rfl, ?_⟩
  refine List.forall_mem_cons.mpr ⟨s_getr C rfl in_X3 (by decide) lk_X3_19 rfl dX3_alone_72, ?_⟩
  refine List.forall_mem_cons.mpr ⟨s_ildn C dX3_alone_75 rfl, ?_⟩
  refine List.forall_mem_cons.mpr ⟨s_iald C dX3_alone_76, ?_⟩
  refine List.forall_mem_cons.mpr ⟨s_if_ne C dX3_alone_77 (by decide), ?_⟩
  refine List.forall_mem_cons.mpr ⟨s_aldn C dX3_alone_80 rfl, ?_⟩
  refine List.forall_mem_cons.mpr ⟨s_ic C dX3_alone_81 (by decide), ?_⟩
  refine List.forall_mem_cons.mpr ⟨s_puti C tyX3 tyX3_ok nmX3 rfl in_X3 (by decide) lk_X3_77 rfl (Or.inl rfl) rfl dX3_alone_82, ?_⟩
  refine List.forall_mem_cons.mpr ⟨s_goto C dX3_alone_85 (by decide), ?_⟩
  refine List.forall_mem_cons.mpr ⟨s_aldn C dX3_alone_88 rfl, ?_⟩
  refine List.forall_mem_cons.mpr ⟨s_ildn C dX3_alone_89 rfl, ?_⟩
  refine List.forall_mem_cons.mpr ⟨s_aldn C dX3_alone_90 rfl, ?_⟩
  refine List.forall_mem_cons.mpr ⟨s_getr C rfl in_X3 (by decide) lk_X3_19 rfl dX3_alone_91, ?_⟩
  refine List.forall_mem_cons.mpr ⟨s_ildn C dX3_alone_94 rfl, ?_⟩
  refine List.forall_mem_cons.mpr ⟨s_iald C dX3_alone_95, ?_⟩
  refine List.forall_mem_cons.mpr ⟨s_callS (rm := (a_rm 1 0 0)) C Y con_X3_quotient co_X3_quotient ml_X3_98 st_X3_quotient ii_X3 (by decide +kernel) ⟨by decide, by decide⟩ ⟨rfl, rfl⟩ dX3_alone_96, ?_⟩
  refine List.forall_mem_cons.mpr ⟨s_ic C dX3_alone_99 (by decide), ?_⟩
  refine List.forall_mem_cons.mpr ⟨s_rem C dX3_alone_100, ?_⟩
  refine List.forall_mem_cons.mpr ⟨s_if_ne C dX3_alone_101 (by decide), ?_⟩
  refine List.forall_mem_cons.mpr ⟨s_aldn C dX3_alone_104 rfl, ?_⟩
  refine List.forall_mem_cons.mpr ⟨s_getr C rfl in_X3 (by decide) lk_X3_13 rfl dX3_alone_105, ?_⟩
  refine List.forall_mem_cons.mpr ⟨s_ildn C dX3_alone_108 rfl, ?_⟩
  refine List.forall_mem_cons.mpr ⟨s_iald C dX3_alone_109, ?_⟩
  refine List.forall_mem_cons.mpr ⟨s_goto C dX3_alone_110 (by decide), ?_⟩
  refine List.forall_mem_cons.mpr ⟨s_aldn C dX3_alone_113 rfl, ?_⟩
  refine List.forall_mem_cons.mpr ⟨s_getr C rfl in_X3 (by decide) lk_X3_16 rfl dX3_alone_114, ?_⟩
  refine List.forall_mem_cons.mpr ⟨s_ildn C dX3_alone_117 rfl, ?_⟩
  refine List.forall_mem_cons.mpr ⟨s_iald C dX3_alone_118, ?_⟩
  refine List.forall_mem_cons.mpr ⟨s_callV (rm := (a_rm 1 0 0)) (n := 1) C Y (ci := 3) rfl con_X3_tells rc_X3_tells co_X3_tells ml_X3_86 im_X3_tells se_X3_tells ii_X3 (by decide +kernel) ⟨by decide, by decide⟩ ⟨rfl, rfl⟩ dX3_alone_119, ?_⟩
  refine List.forall_mem_cons.mpr ⟨s_goto C dX3_alone_122 (by decide), ?_⟩
  refine List.forall_mem_cons.mpr ⟨s_aldn C dX3_alone_125 rfl, ?_⟩
  refine List.forall_mem_cons.mpr ⟨s_getr C rfl in_X3 (by decide) lk_X3_16 rfl dX3_alone_126, ?_⟩
  refine List.forall_mem_cons.mpr ⟨s_ildn C dX3_alone_129 rfl, ?_⟩
  refine List.forall_mem_cons.mpr ⟨s_iald C dX3_alone_130, ?_⟩
  refine List.forall_mem_cons.mpr ⟨s_if_ne C dX3_alone_131 (by decide), ?_⟩
  refine List.forall_mem_cons.mpr ⟨s_aldn C dX3_alone_134 rfl, ?_⟩
  refine List.forall_mem_cons.mpr ⟨s_ic C dX3_alone_135 (by decide), ?_⟩
  refine List.forall_mem_cons.mpr ⟨s_puti C tyX3 tyX3_ok nmX3 rfl in_X3 (by decide) lk_X3_77 rfl (Or.inl rfl) rfl dX3_alone_136, ?_⟩
  refine List.forall_mem_cons.mpr ⟨s_goto C dX3_alone_139 (by decide), ?_⟩
  refine List.forall_mem_cons.mpr ⟨s_aldn C dX3_alone_142 rfl, ?_⟩
  refine List.forall_mem_cons.mpr ⟨s_aldn C dX3_alone_143 rfl, ?_⟩
  refine List.forall_mem_cons.mpr ⟨s_getr C rfl in_X3 (by decide) lk_X3_16 rfl dX3_alone_144, ?_⟩
  refine List.forall_mem_cons.mpr ⟨s_ildn C dX3_alone_147 rfl, ?_⟩
  refine List.forall_mem_cons.mpr ⟨s_iald C dX3_alone_148, ?_⟩
  refine List.forall_mem_cons.mpr ⟨s_ic C dX3_alone_149 (by decide), ?_⟩
  refine List.forall_mem_cons.mpr ⟨s_icmp_ne C dX3_alone_150 (by decide), ?_⟩
  refine List.forall_mem_cons.mpr ⟨s_ic C dX3_alone_153 (by decide), ?_⟩
  refine List.forall_mem_cons.mpr ⟨s_goto C dX3_alone_154 (by decide), ?_⟩
  refine List.forall_mem_cons.mpr ⟨s_ildn C dX3_alone_157 rfl, ?_⟩
  refine List.forall_mem_cons.mpr ⟨s_aldn C dX3_alone_158 rfl, ?_⟩
  refine List.forall_mem_cons.mpr ⟨s_getr C rfl in_X3 (by decide) lk_X3_13 rfl dX3_alone_159, ?_⟩
  refine List.forall_mem_cons.mpr ⟨s_ildn C dX3_alone_162 rfl, ?_⟩
  refine List.forall_mem_cons.mpr ⟨s_iald C dX3_alone_163, ?_⟩
  refine List.forall_mem_cons.mpr ⟨s_ildn C dX3_alone_164 rfl, ?_⟩
  refine List.forall_mem_cons.mpr ⟨s_mul C dX3_alone_165, ?_⟩
  refine List.forall_mem_cons.mpr ⟨s_add C dX3_alone_166, ?_⟩
  refine List.forall_mem_cons.mpr ⟨s_aldn C dX3_alone_167 rfl, ?_⟩
  refine List.forall_mem_cons.mpr ⟨s_getr C rfl in_X3 (by decide) lk_X3_16 rfl dX3_alone_168, ?_⟩
  refine List.forall_mem_cons.mpr ⟨s_ildn C dX3_alone_171 rfl, ?_⟩
  refine List.forall_mem_cons.mpr ⟨s_iald C dX3_alone_172, ?_⟩
  refine List.forall_mem_cons.mpr ⟨s_rem C dX3_alone_173, ?_⟩
  refine List.forall_mem_cons.mpr ⟨s_aldn C dX3_alone_174 rfl, ?_⟩
  refine List.forall_mem_cons.mpr ⟨s_getr C rfl in_X3 (by decide) lk_X3_19 rfl dX3_alone_175, ?_⟩
  refine List.forall_mem_cons.mpr ⟨s_ildn C dX3_alone_178 rfl, ?_⟩
  refine List.forall_mem_cons.mpr ⟨s_iald C dX3_alone_179, ?_⟩
  refine List.forall_mem_cons.mpr ⟨s_add C dX3_alone_180, ?_⟩
  refine List.forall_mem_cons.mpr ⟨s_callV (rm := (a_rm 1 0 0)) (n := 1) C Y (ci := 3) rfl con_X3_tells rc_X3_tells co_X3_tells ml_X3_86 im_X3_tells se_X3_tells ii_X3 (by decide +kernel) ⟨by decide, by decide⟩ ⟨rfl, rfl⟩ dX3_alone_181, ?_⟩
  refine List.forall_mem_cons.mpr ⟨s_vret C M dX3_alone_184, ?_⟩
  exact fun _ h => absurd h List.not_mem_nil
set_option maxRecDepth 20000 in
theorem con_X3_alone {l : Launch} {D : va_G} {G : aG} {N0 : Nat} : a_Con l D G N0 yX3_alone cX3_alone 4 none (a_rm 3 0 0) sp_X3_alone := by
  refine a_con (by decide) (fun as σ K h => by obtain ⟨I, F, B, c, x, y, rfl, rfl, -⟩ := h; exact Nat.le_refl _) ?_
  intro X as σ K h C Y M _
  obtain ⟨I, F, B, p, x, y, rfl, rfl, hv, hK⟩ := h
  refine a_wps (S_X3_alone C Y M) (inv := a_ni) a_nih 120 _ _ _ _ _ _ ?_
  refine ⟨fun h1 => ⟨by decide, I, F, B, a_rem (x + y) 2, rfl, rfl, ?_⟩, fun h1 => ⟨fun h2 => ⟨I, F, B, 0, x, rfl, rfl, fun h3 => ?_, I, F, B, x, m_dyeAt I 0 x, y, rfl, rfl, ?_⟩, fun h2 => ?_⟩⟩
  · rw [show m_alone I p x y = _ from if_pos h1] at hK
    exact hK
  · obtain ⟨j, hj, rfl⟩ := m_in_n (b := 7) (by decide) h3
    exact a_8in (d := 0) (by decide) (by omega)
  · rw [show m_alone I p x y = _ by unfold m_alone; rw [if_neg h1, if_pos h2]] at hK
    exact hK
  · have hp := hv h1 h2
    refine ⟨hp, fun h3 => ⟨hp, I, F, B, _, rfl, rfl, ?_⟩, fun h3 => ⟨hp, fun h4 => ⟨hp, fun h5 => ?_, fun h5 => ⟨hp, x, _, rfl, h5, by decide, fun h6 => ⟨hp, I, F, B, _, rfl, rfl, ?_⟩, fun h6 => ⟨hp, I, F, B, _, rfl, rfl, ?_⟩⟩⟩, fun h4 => ⟨hp, fun h5 => ?_, fun h5 => ⟨hp, fun h6 => ⟨hp, I, F, B, _, rfl, rfl, ?_⟩, fun h6 => ⟨hp, hp, h5, hp, I, F, B, _, rfl, rfl, ?_⟩⟩⟩⟩⟩
    · rw [show m_alone I p x y = _ by unfold m_alone; rw [if_neg h1, if_neg h2, if_pos h3]] at hK
      exact hK
    · rw [show m_alone I p x y = _ by unfold m_alone; rw [if_neg h1, if_neg h2, if_neg h3, if_pos h4, if_pos h5]] at hK
      exact hK
    · rw [show m_alone I p x y = _ by unfold m_alone; rw [if_neg h1, if_neg h2, if_neg h3, if_pos h4, if_neg h5, if_pos h6]] at hK
      exact hK
    · rw [show m_alone I p x y = _ by unfold m_alone; rw [if_neg h1, if_neg h2, if_neg h3, if_pos h4, if_neg h5, if_neg h6]] at hK
      exact hK
    · rw [show m_alone I p x y = _ by unfold m_alone; rw [if_neg h1, if_neg h2, if_neg h3, if_neg h4, if_pos h5]] at hK
      exact hK
    · rw [show m_alone I p x y = _ by unfold m_alone; rw [if_neg h1, if_neg h2, if_neg h3, if_neg h4, if_neg h5, if_pos h6]] at hK
      exact hK
    · rw [show m_alone I p x y = _ by unfold m_alone; rw [if_neg h1, if_neg h2, if_neg h3, if_neg h4, if_neg h5, if_neg h6]] at hK
      exact hK
def m_tx (b x y : Int32) : Int32 := if b = 0 then y else if b = 1 then -x else if b = 2 then x else x * y
def m_ty (b x y : Int32) : Int32 := if b = 0 then x else if b = 1 then y else if b = 2 then -y else x + y
def sp_X3_turned : aP := fun as σ K => ∃ I F B p x y, σ = a_mk I F B ∧ as = [.inr (some 16), .inl p, .inl x, .inl y] ∧ vp_in p 60 ∧ (¬ I 16 19 = 100 → ¬ I 18 p.toNatClampNeg = -1 → vp_in (I 16 13) 104) ∧ K none (a_mk (m_push I (I 18 p.toNatClampNeg) (m_tx (I 19 p.toNatClampNeg) x y) (m_ty (I 19 p.toNatClampNeg) x y)) F B)
theorem rc_X3_turned : ∀ as σ K, sp_X3_turned as σ K → ∃ h As, as = .inr (some h) :: As ∧ a_is σ h 3 25 = true := by
  rintro as σ K ⟨I, F, B, c, x, y, rfl, rfl, -⟩
  exact ⟨16, _, rfl, rfl⟩
def P_X3_turned (K : aK) (bc bs : Nat) : List (Nat × aT) := [(0, t_ald 0 1),
  (1, t_getr 3 25 3 4),
  (4, t_ild 1 5),
  (5, t_iald 6),
  (6, t_ist 4 8),
  (8, t_ald 0 9),
  (9, t_ald 0 10),
  (10, t_getr 3 25 2 13),
  (13, t_ild 1 14),
  (14, t_iald 15),
  (15, t_ild 4 17),
  (17, t_if (fun x => x = 0) 20 24),
  (20, t_ild 3 21),
  (21, t_goto 48),
  (24, t_ild 4 26),
  (26, t_ic 1 27),
  (27, t_ifc (fun x y => x = y) 30 35),
  (30, t_ild 2 31),
  (31, t_neg 32),
  (32, t_goto 48),
  (35, t_ild 4 37),
  (37, t_ic 2 38),
  (38, t_ifc (fun x y => x = y) 41 45),
  (41, t_ild 2 42),
  (42, t_goto 48),
  (45, t_ild 2 46),
  (46, t_ild 3 47),
  (47, t_mul 48),
  (48, t_ild 4 50),
  (50, t_if (fun x => x = 0) 53 57),
  (53, t_ild 2 54),
  (54, t_goto 81),
  (57, t_ild 4 59),
  (59, t_ic 1 60),
  (60, t_ifc (fun x y => x = y) 63 67),
  (63, t_ild 3 64),
  (64, t_goto 81),
  (67, t_ild 4 69),
  (69, t_ic 2 70),
  (70, t_ifc (fun x y => x = y) 73 78),
  (73, t_ild 3 74),
  (74, t_neg 75),
  (75, t_goto 81),
  (78, t_ild 2 79),
  (79, t_ild 3 80),
  (80, t_add 81),
  (81, t_call 4 0 0 bc bs sp_X3_push 84),
  (84, t_vret K bc bs)]
set_option maxRecDepth 100000 in
theorem S_X3_turned {X : a_X} {K : aK} {l : Launch} {D : va_G} {G : aG} {N0 : Nat} (C : a_C X cX3_turned none RX3) (Y : a_Y X l (a_rm 2 0 0) D G N0) (M : a_mq X K (a_rm 2 0 0).cells (a_rm 2 0 0).slots) : ∀ x ∈ P_X3_turned K 0 0, a_Sd X x.1 x.2 := by
  unfold P_X3_turned
  refine List.forall_mem_cons.mpr ⟨s_aldn C dX3_turned_0 rfl, ?_⟩
  refine List.forall_mem_cons.mpr ⟨s_getr C rfl in_X3 (by decide) lk_X3_16 rfl dX3_turned_1, ?_⟩
  refine List.forall_mem_cons.mpr ⟨s_ildn C dX3_turned_4 rfl, ?_⟩
  refine List.forall_mem_cons.mpr ⟨s_iald C dX3_turned_5, ?_⟩
  refine List.forall_mem_cons.mpr ⟨s_ist C dX3_turned_6, ?_⟩
  refine List.forall_mem_cons.mpr ⟨s_aldn C dX3_turned_8 rfl, ?_⟩
  refine List.forall_mem_cons.mpr ⟨s_aldn C dX3_turned_9 rfl, ?_⟩
  refine List.forall_mem_cons.mpr ⟨s_getr C rfl in_X3 (by decide) lk_X3_13 rfl dX3_turned_10, ?_⟩
  refine List.forall_mem_cons.mpr ⟨s_ildn C dX3_turned_13 rfl, ?_⟩
  refine List.forall_mem_cons.mpr ⟨s_iald C dX3_turned_14, ?_⟩
  refine List.forall_mem_cons.mpr ⟨s_ild C dX3_turned_15, ?_⟩
  refine List.forall_mem_cons.mpr ⟨s_if_ne C dX3_turned_17 (by decide), ?_⟩
  refine List.forall_mem_cons.mpr ⟨s_ildn C dX3_turned_20 rfl, ?_⟩
  refine List.forall_mem_cons.mpr ⟨s_goto C dX3_turned_21 (by decide), ?_⟩
  refine List.forall_mem_cons.mpr ⟨s_ild C dX3_turned_24, ?_⟩
  refine List.forall_mem_cons.mpr ⟨s_ic C dX3_turned_26 (by decide), ?_⟩
  refine List.forall_mem_cons.mpr ⟨s_icmp_ne C dX3_turned_27 (by decide), ?_⟩
  refine List.forall_mem_cons.mpr ⟨s_ildn C dX3_turned_30 rfl, ?_⟩
  refine List.forall_mem_cons.mpr ⟨s_neg C dX3_turned_31, ?_⟩
  refine List.forall_mem_cons.mpr ⟨s_goto C dX3_turned_32 (by decide), ?_⟩
  refine List.forall_mem_cons.mpr ⟨s_ild C dX3_turned_35, ?_⟩
  refine List.forall_mem_cons.mpr ⟨s_ic C dX3_turned_37 (by decide), ?_⟩
  refine List.forall_mem_cons.mpr ⟨s_icmp_ne C dX3_turned_38 (by decide), ?_⟩
  refine List.forall_mem_cons.mpr ⟨s_ildn C dX3_turned_41 rfl, ?_⟩
  refine List.forall_mem_cons.mpr ⟨s_goto C dX3_turned_42 (by decide), ?_⟩
  refine List.forall_mem_cons.mpr ⟨s_ildn C dX3_turned_45 rfl, ?_⟩
  refine List.forall_mem_cons.mpr ⟨s_ildn C dX3_turned_46 rfl, ?_⟩
  refine List.forall_mem_cons.mpr ⟨s_mul C dX3_turned_47, ?_⟩
  refine List.forall_mem_cons.mpr ⟨s_ild C dX3_turned_48, ?_⟩
  refine List.forall_mem_cons.mpr ⟨s_if_ne C dX3_turned_50 (by decide), ?_⟩
  refine List.forall_mem_cons.mpr ⟨s_ildn C dX3_turned_53 rfl, ?_⟩
  refine List.forall_mem_cons.mpr ⟨s_goto C dX3_turned_54 (by decide), ?_⟩
  refine List.forall_mem_cons.mpr ⟨s_ild C dX3_turned_57, ?_⟩
  refine List.forall_mem_cons.mpr ⟨s_ic C dX3_turned_59 (by decide), ?_⟩
  refine List.forall_mem_cons.mpr ⟨s_icmp_ne C dX3_turned_60 (by decide), ?_⟩
  refine List.forall_mem_cons.mpr ⟨s_ildn C dX3_turned_63 rfl, ?_⟩
  refine List.forall_mem_cons.mpr ⟨s_goto C dX3_turned_64 (by decide), ?_⟩
  refine List.forall_mem_cons.mpr ⟨s_ild C dX3_turned_67, ?_⟩
  refine List.forall_mem_cons.mpr ⟨s_ic C dX3_turned_69 (by decide), ?_⟩
  refine List.forall_mem_cons.mpr ⟨s_icmp_ne C dX3_turned_70 (by decide), ?_⟩
  refine List.forall_mem_cons.mpr ⟨s_ildn C dX3_turned_73 rfl, ?_⟩
  refine List.forall_mem_cons.mpr ⟨s_neg C dX3_turned_74, ?_⟩
  refine List.forall_mem_cons.mpr ⟨s_goto C dX3_turned_75 (by decide), ?_⟩
  refine List.forall_mem_cons.mpr ⟨s_ildn C dX3_turned_78 rfl, ?_⟩
  refine List.forall_mem_cons.mpr ⟨s_ildn C dX3_turned_79 rfl, ?_⟩
  refine List.forall_mem_cons.mpr ⟨s_add C dX3_turned_80, ?_⟩
  refine List.forall_mem_cons.mpr ⟨s_callV (rm := (a_rm 1 0 0)) (n := 3) C Y (ci := 3) rfl con_X3_push rc_X3_push co_X3_push ml_X3_101 im_X3_push se_X3_push ii_X3 (by decide +kernel) ⟨by decide, by decide⟩ ⟨rfl, rfl⟩ dX3_turned_81, ?_⟩
  refine List.forall_mem_cons.mpr ⟨s_vret C M dX3_turned_84, ?_⟩
  exact fun _ h => absurd h List.not_mem_nil
set_option maxRecDepth 20000 in
theorem con_X3_turned {l : Launch} {D : va_G} {G : aG} {N0 : Nat} : a_Con l D G N0 yX3_turned cX3_turned 5 none (a_rm 2 0 0) sp_X3_turned := by
  refine a_con (by decide) (fun as σ K h => by obtain ⟨I, F, B, c, x, y, rfl, rfl, -⟩ := h; exact (by decide : 4 ≤ 5)) ?_
  intro X as σ K h C Y M _
  obtain ⟨I, F, B, p, x, y, rfl, rfl, hp, hv, hK⟩ := h
  refine a_wps (S_X3_turned C Y M) (inv := a_ni) a_nih 120 _ _ _ _ _ _ ?_
  refine ⟨hp, hp, fun h1 => ?_, fun h1 => ⟨fun h2 => ?_, fun h2 => ⟨fun h3 => ?_, fun h3 => ?_⟩⟩⟩
  · rw [show m_tx (I 19 p.toNatClampNeg) x y = _ from if_pos h1, show m_ty (I 19 p.toNatClampNeg) x y = _ from if_pos h1] at hK
    exact ⟨fun _ => ⟨I, F, B, _, _, _, rfl, rfl, hv, hK⟩, fun w => absurd h1 w⟩
  · rw [show m_tx (I 19 p.toNatClampNeg) x y = _ by unfold m_tx; rw [if_neg h1, if_pos h2], show m_ty (I 19 p.toNatClampNeg) x y = _ by unfold m_ty; rw [if_neg h1, if_pos h2]] at hK
    exact ⟨fun w => absurd w h1, fun _ => ⟨fun _ => ⟨I, F, B, _, _, _, rfl, rfl, hv, hK⟩, fun w => absurd h2 w⟩⟩
  · rw [show m_tx (I 19 p.toNatClampNeg) x y = _ by unfold m_tx; rw [if_neg h1, if_neg h2, if_pos h3], show m_ty (I 19 p.toNatClampNeg) x y = _ by unfold m_ty; rw [if_neg h1, if_neg h2, if_pos h3]] at hK
    exact ⟨fun w => absurd w h1, fun _ => ⟨fun w => absurd w h2, fun _ => ⟨fun _ => ⟨I, F, B, _, _, _, rfl, rfl, hv, hK⟩, fun w => absurd h3 w⟩⟩⟩
  · rw [show m_tx (I 19 p.toNatClampNeg) x y = _ by unfold m_tx; rw [if_neg h1, if_neg h2, if_neg h3], show m_ty (I 19 p.toNatClampNeg) x y = _ by unfold m_ty; rw [if_neg h1, if_neg h2, if_neg h3]] at hK
    exact ⟨fun w => absurd w h1, fun _ => ⟨fun w => absurd w h2, fun _ => ⟨fun w => absurd w h3, fun _ => ⟨I, F, B, _, _, _, rfl, rfl, hv, hK⟩⟩⟩⟩

