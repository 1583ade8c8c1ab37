/-! ===== the reference's weave and its constructor ===== -/
abbrev tW : Type := Int32 × Nat × tS × (Nat → Int32)
def t_wv (T : Int32 → Int32 → tS → tR) (x y : Int32) (w : Nat) : Nat → Nat → tS → (Nat → Int32) → tW
  | 0, k, s, C => (0, k, s, C)
  | m + 1, k, s, C => if (T (x + nI (k % w)) (y + nI (k / w)) (0, s.2)).1 = 0 then t_wv T x y w m (k + 1) (T (x + nI (k % w)) (y + nI (k / w)) (0, s.2)).2.2 (upd C k (T (x + nI (k % w)) (y + nI (k / w)) (0, s.2)).2.1) else ((T (x + nI (k % w)) (y + nI (k / w)) (0, s.2)).1, k, (T (x + nI (k % w)) (y + nI (k / w)) (0, s.2)).2.2, C)
def m_c (I : Nat → Nat → Int32) (sz wd : Int32) (C : Nat → Int32) : Nat → Nat → Int32 := fun h j => if h = 16 then (if j = 23 then sz else if j = 24 then wd else I 16 j) else if h = 38 then C j else I h j
section MC
variable {I M : Nat → Nat → Int32} {k f g sf wn tp x sz wd : Int32} {ak pl px py sg fs C : Nat → Int32} {t : Nat}
theorem mc_23 : a_w (m_p (m_c I sz wd C) k f g sf wn tp ak pl px py sg fs) 16 23 x = m_p (m_c I x wd C) k f g sf wn tp ak pl px py sg fs := by
  funext h j; unfold a_w m_p m_c
  by_cases e : h = 16
  · subst e; by_cases e2 : j = 23 <;> simp [e2]
  · simp [e]
theorem mc_24 : a_w (m_p (m_c I sz wd C) k f g sf wn tp ak pl px py sg fs) 16 24 x = m_p (m_c I sz x C) k f g sf wn tp ak pl px py sg fs := by
  funext h j; unfold a_w m_p m_c
  by_cases e : h = 16
  · subst e; by_cases e2 : j = 24 <;> simp [e2]
  · simp [e]
theorem mc_38 : a_w (m_p (m_c I sz wd C) k f g sf wn tp ak pl px py sg fs) 38 t x = m_p (m_c I sz wd (upd C t x)) k f g sf wn tp ak pl px py sg fs := by
  funext h j; unfold a_w m_p m_c upd
  by_cases e : h = 38
  · subst e; by_cases e2 : j = t <;> simp [e2]
  · simp [e]
theorem mc_self (I : Nat → Nat → Int32) : m_c I (I 16 23) (I 16 24) (I 38) = I := by
  funext h j; unfold m_c
  by_cases e : h = 16
  · subst e
    by_cases e1 : j = 23
    · simp [e1]
    · by_cases e2 : j = 24
      · simp [e2]
      · simp [e1, e2]
  · by_cases e1 : h = 38
    · simp [e1]
    · simp [e, e1]
theorem mp_mp {k' f' g' sf' wn' tp' : Int32} {ak' pl' px' py' sg' fs' : Nat → Int32} : m_p (m_p M k f g sf wn tp ak pl px py sg fs) k' f' g' sf' wn' tp' ak' pl' px' py' sg' fs' = m_p M k' f' g' sf' wn' tp' ak' pl' px' py' sg' fs' := by
  funext h j; unfold m_p
  by_cases e : h = 16
  · subst e
    by_cases e1 : j = 11
    · simp [e1]
    · by_cases e2 : j = 12
      · simp [e2]
      · by_cases e3 : j = 13
        · simp [e3]
        · by_cases e4 : j = 19
          · simp [e4]
          · by_cases e5 : j = 20
            · simp [e5]
            · by_cases e6 : j = 21
              · simp [e6]
              · simp [e1, e2, e3, e4, e5, e6]
  · by_cases e1 : h = 23
    · simp [e1]
    · by_cases e2 : h = 30
      · simp [e2]
      · by_cases e3 : h = 31
        · simp [e3]
        · by_cases e4 : h = 32
          · simp [e4]
          · by_cases e5 : h = 33
            · simp [e5]
            · by_cases e6 : h = 34
              · simp [e6]
              · simp [e, e1, e2, e3, e4, e5, e6]
end MC
def m_wr (R : tW) : Int32 := if R.1 = 0 then nI R.2.1 else -10 - R.1
def sp_X3_weave : aP := fun as σ K => ∃ I F B n E p x y w h, σ = a_mk I F B ∧ as = [.inr (some 16), .inl p, .inl x, .inl y, .inl w, .inl h] ∧ 101 ≤ E ∧ m_D I n ∧ (¬ m_in p 0 (I 16 0 - 1) = 0 → m_cd n p) ∧
  (m_in p 0 (I 16 0 - 1) = 0 → K (some (.inl (-3))) σ) ∧ (¬ m_in p 0 (I 16 0 - 1) = 0 → (m_in w 1 12 = 0 ∨ m_in h 1 12 = 0) → K (some (.inl (-2))) σ) ∧
  (¬ m_in p 0 (I 16 0 - 1) = 0 → ∀ wn hn : Nat, 1 ≤ wn → wn ≤ 12 → 1 ≤ hn → hn ≤ 12 → w = nI wn → h = nI hn → ∀ R : tW, R = t_wv (tt_T I E p) x y wn (wn * hn) 0 (I 16 19, 0, I 16 11, I 23) (I 38) → ∀ (g : Int32) (A : w5), K (some (.inl (m_wr R))) (a_mk (m_r (m_c I (nI R.2.1) w R.2.2.2) R.2.2.1 R.1 g 0 A) F B))
theorem rc_X3_weave : ∀ as σ K, sp_X3_weave as σ K → ∃ h As, as = .inr (some h) :: As ∧ a_is σ h 3 25 = true := by
  rintro as σ K ⟨I, F, B, n, E, p, x, y, w, h, rfl, rfl, -⟩
  exact ⟨16, _, rfl, rfl⟩
theorem m_in_12 {v : Int32} (h : ¬ m_in v 1 12 = 0) : ∃ j, 1 ≤ j ∧ j ≤ 12 ∧ v = nI j := by
  unfold m_in at h
  by_cases h1 : v < 1
  · rw [if_pos h1] at h; exact absurd rfl h
  · by_cases h2 : (12 : Int32) < v
    · rw [if_neg h1, if_pos h2] at h; exact absurd rfl h
    · have h0 : ¬ v < 0 := fun w => h1 (Int32.lt_trans w (by decide))
      obtain ⟨j, hj, rfl⟩ := nI_of h0
      refine ⟨j, ?_, ?_, rfl⟩
      · rcases Nat.eq_zero_or_pos j with z | z
        · subst z; exact absurd (by decide) h1
        · exact z
      · exact Nat.not_lt.mp (fun w => h2 (nI_lt (a := 12) w hj))
def P_X3_weave (K : aK) (bc bs : Nat) : List (Nat × aT) := [(0, t_ald 0 1),
  (1, t_ild 1 2),
  (2, t_call 2 0 0 bc bs sp_X3_isPattern 5),
  (5, t_if (fun x => x = 0) 8 11),
  (8, t_ic (-3) 10),
  (10, t_iret K bc bs),
  (11, t_ild 4 13),
  (13, t_ic 1 14),
  (14, t_ic 12 16),
  (16, t_call 3 0 0 bc bs sp_X3_in 19),
  (19, t_if (fun x => x = 0) 33 22),
  (22, t_ild 5 24),
  (24, t_ic 1 25),
  (25, t_ic 12 27),
  (27, t_call 3 0 0 bc bs sp_X3_in 30),
  (30, t_if (fun x => x = 0) 33 36),
  (33, t_ic (-2) 35),
  (35, t_iret K bc bs),
  (36, t_ald 0 37),
  (37, t_ic 0 38),
  (38, t_puti 3 25 12 41),
  (41, t_ald 0 42),
  (42, t_ic 0 43),
  (43, t_puti 3 25 23 46),
  (46, t_ald 0 47),
  (47, t_ild 4 49),
  (49, t_puti 3 25 24 52),
  (52, t_ic 0 53),
  (53, t_ist 6 55),
  (55, t_ild 6 57),
  (57, t_ild 4 59),
  (59, t_ild 5 61),
  (61, t_mul 62),
  (62, t_ifc (fun x y => y ≤ x) 128 65),
  (65, t_ald 0 66),
  (66, t_ild 1 67),
  (67, t_ild 2 68),
  (68, t_ild 6 70),
  (70, t_ild 4 72),
  (72, t_rem 73),
  (73, t_add 74),
  (74, t_ild 3 75),
  (75, t_ild 6 77),
  (77, t_ild 4 79),
  (79, t_div 80),
  (80, t_add 81),
  (81, t_call 4 0 0 bc bs sp_X3_work 84),
  (84, t_ald 0 85),
  (85, t_geti 3 25 20 88),
  (88, t_if (fun x => x = 0) 99 91),
  (91, t_ic (-10) 93),
  (93, t_ald 0 94),
  (94, t_geti 3 25 20 97),
  (97, t_sub 98),
  (98, t_iret K bc bs),
  (99, t_ald 0 100),
  (100, t_getr 3 25 22 103),
  (103, t_ald 0 104),
  (104, t_geti 3 25 23 107),
  (107, t_ald 0 108),
  (108, t_geti 3 25 21 111),
  (111, t_iast 112),
  (112, t_ald 0 113),
  (113, t_dup 114),
  (114, t_geti 3 25 23 117),
  (117, t_ic 1 118),
  (118, t_add 119),
  (119, t_puti 3 25 23 122),
  (122, t_iinc 6 1 125),
  (125, t_goto 55),
  (128, t_ald 0 129),
  (129, t_geti 3 25 23 132),
  (132, t_iret K bc bs)]
set_option maxRecDepth 100000 in
theorem S_X3_weave {X : a_X} {K : aK} {l : Launch} {D : va_G} {G : aG} {N0 : Nat} (C : a_C X cX3_weave (some .int) RX3) (Y : a_Y X l (a_rm 5 0 0) D G N0) (M : a_mq X K (a_rm 5 0 0).cells (a_rm 5 0 0).slots) : ∀ x ∈ P_X3_weave K 0 0, a_Sd X x.1 x.2 := by
  unfold P_X3_weave
  refine List.forall_mem_cons.mpr ⟨s_aldn C dX3_weave_0 rfl, ?_⟩
  refine List.forall_mem_cons.mpr ⟨s_ildn C dX3_weave_1 rfl, ?_⟩
  refine List.forall_mem_cons.mpr ⟨s_callV (rm := (a_rm 2 0 0)) (n := 1) C Y (ci := 3) rfl con_X3_isPattern rc_X3_isPattern co_X3_isPattern ml_X3_66 im_X3_isPattern se_X3_isPattern ii_X3 (by decide +kernel) ⟨by decide, by decide⟩ ⟨rfl, rfl⟩ dX3_weave_2, ?_⟩
  refine List.forall_mem_cons.mpr ⟨s_if_ne C dX3_weave_5 (by decide), ?_⟩
  refine List.forall_mem_cons.mpr ⟨s_bi C dX3_weave_8 (by decide), ?_⟩
  refine List.forall_mem_cons.mpr ⟨s_iret C M dX3_weave_10, ?_⟩
  refine List.forall_mem_cons.mpr ⟨s_ild C dX3_weave_11, ?_⟩
  refine List.forall_mem_cons.mpr ⟨s_ic C dX3_weave_13 (by decide), ?_⟩
  refine List.forall_mem_cons.mpr ⟨s_bi C dX3_weave_14 (by decide), ?_⟩
  refine List.forall_mem_cons.mpr ⟨s_callS (rm := (a_rm 1 0 0)) C Y con_X3_in co_X3_in ml_X3_59 st_X3_in ii_X3 (by decide +kernel) ⟨by decide, by decide⟩ ⟨rfl, rfl⟩ dX3_weave_16, ?_⟩
  refine List.forall_mem_cons.mpr ⟨s_if_eq C dX3_weave_19 (by decide), ?_⟩
  refine List.forall_mem_cons.mpr ⟨s_ild C dX3_weave_22, ?_⟩
  refine List.forall_mem_cons.mpr ⟨s_ic C dX3_weave_24 (by decide), ?_⟩
  refine List.forall_mem_cons.mpr ⟨s_bi C dX3_weave_25 (by decide), ?_⟩
  refine List.forall_mem_cons.mpr ⟨s_callS (rm := (a_rm 1 0 0)) C Y con_X3_in co_X3_in ml_X3_59 st_X3_in ii_X3 (by decide +kernel) ⟨by decide, by decide⟩ ⟨rfl, rfl⟩ dX3_weave_27, ?_⟩
  refine List.forall_mem_cons.mpr ⟨s_if_ne C dX3_weave_30 (by decide), ?_⟩
  refine List.forall_mem_cons.mpr ⟨s_bi C dX3_weave_33 (by decide), ?_⟩
  refine List.forall_mem_cons.mpr ⟨s_iret C M dX3_weave_35, ?_⟩
  refine List.forall_mem_cons.mpr ⟨s_aldn C dX3_weave_36 rfl, ?_⟩
  refine List.forall_mem_cons.mpr ⟨s_ic C dX3_weave_37 (by decide), ?_⟩
  refine List.forall_mem_cons.mpr ⟨s_puti C tyX3 tyX3_ok nmX3 rfl in_X3 (by decide) lk_X3_110 rfl (Or.inl rfl) rfl dX3_weave_38, ?_⟩
  refine List.forall_mem_cons.mpr ⟨s_aldn C dX3_weave_41 rfl, ?_⟩
  refine List.forall_mem_cons.mpr ⟨s_ic C dX3_weave_42 (by decide), ?_⟩
  refine List.forall_mem_cons.mpr ⟨s_puti C tyX3 tyX3_ok nmX3 rfl in_X3 (by decide) lk_X3_129 rfl (Or.inl rfl) rfl dX3_weave_43, ?_⟩
  refine List.forall_mem_cons.mpr ⟨s_aldn C dX3_weave_46 rfl, ?_⟩
  refine List.forall_mem_cons.mpr ⟨s_ild C dX3_weave_47, ?_⟩
  refine List.forall_mem_cons.mpr ⟨s_puti C tyX3 tyX3_ok nmX3 rfl in_X3 (by decide) lk_X3_132 rfl (Or.inl rfl) rfl dX3_weave_49, ?_⟩
  refine List.forall_mem_cons.mpr ⟨s_ic C dX3_weave_52 (by decide), ?_⟩
  refine List.forall_mem_cons.mpr ⟨s_ist C dX3_weave_53, ?_⟩
  refine List.forall_mem_cons.mpr ⟨s_ild C dX3_weave_55, ?_⟩
  refine List.forall_mem_cons.mpr ⟨s_ild C dX3_weave_57, ?_⟩
  refine List.forall_mem_cons.mpr ⟨s_ild C dX3_weave_59, ?_⟩
  refine List.forall_mem_cons.mpr ⟨s_mul C dX3_weave_61, ?_⟩
  refine List.forall_mem_cons.mpr ⟨s_icmp_ge C dX3_weave_62 (by decide), ?_⟩
  refine List.forall_mem_cons.mpr ⟨s_aldn C dX3_weave_65 rfl, ?_⟩
  refine List.forall_mem_cons.mpr ⟨s_ildn C dX3_weave_66 rfl, ?_⟩
  refine List.forall_mem_cons.mpr ⟨s_ildn C dX3_weave_67 rfl, ?_⟩
  refine List.forall_mem_cons.mpr ⟨s_ild C dX3_weave_68, ?_⟩
  refine List.forall_mem_cons.mpr ⟨s_ild C dX3_weave_70, ?_⟩
  refine List.forall_mem_cons.mpr ⟨s_rem C dX3_weave_72, ?_⟩
  refine List.forall_mem_cons.mpr ⟨s_add C dX3_weave_73, ?_⟩
  refine List.forall_mem_cons.mpr ⟨s_ildn C dX3_weave_74 rfl, ?_⟩
  refine List.forall_mem_cons.mpr ⟨s_ild C dX3_weave_75, ?_⟩
  refine List.forall_mem_cons.mpr ⟨s_ild C dX3_weave_77, ?_⟩
  refine List.forall_mem_cons.mpr ⟨s_div C dX3_weave_79, ?_⟩
  refine List.forall_mem_cons.mpr ⟨s_add C dX3_weave_80, ?_⟩
  refine List.forall_mem_cons.mpr ⟨s_callV (rm := (a_rm 4 0 0)) (n := 3) C Y (ci := 3) rfl con_X3_work rc_X3_work co_X3_work ml_X3_126 im_X3_work se_X3_work ii_X3 (by decide +kernel) ⟨by decide, by decide⟩ ⟨rfl, rfl⟩ dX3_weave_81, ?_⟩
  refine List.forall_mem_cons.mpr ⟨s_aldn C dX3_weave_84 rfl, ?_⟩
  refine List.forall_mem_cons.mpr ⟨s_geti C rfl in_X3 (by decide) lk_X3_77 rfl dX3_weave_85, ?_⟩
  refine List.forall_mem_cons.mpr ⟨s_if_eq C dX3_weave_88 (by decide), ?_⟩
  refine List.forall_mem_cons.mpr ⟨s_bi C dX3_weave_91 (by decide), ?_⟩
  refine List.forall_mem_cons.mpr ⟨s_aldn C dX3_weave_93 rfl, ?_⟩
  refine List.forall_mem_cons.mpr ⟨s_geti C rfl in_X3 (by decide) lk_X3_77 rfl dX3_weave_94, ?_⟩
  refine List.forall_mem_cons.mpr ⟨s_sub C dX3_weave_97, ?_⟩
  refine List.forall_mem_cons.mpr ⟨s_iret C M dX3_weave_98, ?_⟩
  refine List.forall_mem_cons.mpr ⟨s_aldn C dX3_weave_99 rfl, ?_⟩
  refine List.forall_mem_cons.mpr ⟨s_getr C rfl in_X3 (by decide) lk_X3_52 rfl dX3_weave_100, ?_⟩
  refine List.forall_mem_cons.mpr ⟨s_aldn C dX3_weave_103 rfl, ?_⟩
  refine List.forall_mem_cons.mpr ⟨s_geti C rfl in_X3 (by decide) lk_X3_129 rfl dX3_weave_104, ?_⟩
  refine List.forall_mem_cons.mpr ⟨s_aldn C dX3_weave_107 rfl, ?_⟩
  refine List.forall_mem_cons.mpr ⟨s_geti C rfl in_X3 (by decide) lk_X3_83 rfl dX3_weave_108, ?_⟩
  refine List.forall_mem_cons.mpr ⟨s_iast C dX3_weave_111, ?_⟩
  refine List.forall_mem_cons.mpr ⟨s_aldn C dX3_weave_112 rfl, ?_⟩
  refine List.forall_mem_cons.mpr ⟨s_dup C dX3_weave_113, ?_⟩
  refine List.forall_mem_cons.mpr ⟨s_geti C rfl in_X3 (by decide) lk_X3_129 rfl dX3_weave_114, ?_⟩
  refine List.forall_mem_cons.mpr ⟨s_ic C dX3_weave_117 (by decide), ?_⟩
  refine List.forall_mem_cons.mpr ⟨s_add C dX3_weave_118, ?_⟩
  refine List.forall_mem_cons.mpr ⟨s_puti C tyX3 tyX3_ok nmX3 rfl in_X3 (by decide) lk_X3_129 rfl (Or.inl rfl) rfl dX3_weave_119, ?_⟩
  refine List.forall_mem_cons.mpr ⟨s_iinc C dX3_weave_122 (by decide), ?_⟩
  refine List.forall_mem_cons.mpr ⟨s_goto C dX3_weave_125 (by decide), ?_⟩
  refine List.forall_mem_cons.mpr ⟨s_aldn C dX3_weave_128 rfl, ?_⟩
  refine List.forall_mem_cons.mpr ⟨s_geti C rfl in_X3 (by decide) lk_X3_129 rfl dX3_weave_129, ?_⟩
  refine List.forall_mem_cons.mpr ⟨s_iret C M dX3_weave_132, ?_⟩
  exact fun _ h => absurd h List.not_mem_nil
set_option maxRecDepth 20000 in
set_option maxHeartbeats 4000000 in
theorem con_X3_weave {l : Launch} {D : va_G} {G : aG} {N0 : Nat} : a_Con l D G N0 yX3_weave cX3_weave 7 (some .int) (a_rm 5 0 0) sp_X3_weave := by
  refine a_con (by decide) (fun as σ K h => by obtain ⟨I, F, B, n, E, p, x, y, w, h, rfl, rfl, -⟩ := h; exact (by decide : 6 ≤ 7)) ?_
  intro X as σ K h C Y M _
  obtain ⟨I, F, B, n, E, p, x, y, w, h, rfl, rfl, hE, hD, hc, hK1, hK2, hK3⟩ := h
  have hS := S_X3_weave C Y M
  by_cases hp : m_in p 0 (I 16 0 - 1) = 0
  · refine a_wps hS (inv := a_iv X [55]) a_ivh 60 _ _ _ _ _ _ ?_
    exact ⟨I, F, B, p, rfl, rfl, fun _ => hK1 hp, fun z => absurd hp z⟩
  by_cases hw : m_in w 1 12 = 0
  · refine a_wps hS (inv := a_iv X [55]) a_ivh 60 _ _ _ _ _ _ ?_
    exact ⟨I, F, B, p, rfl, rfl, fun z => absurd z hp, fun _ => ⟨w, 1, 12, rfl, fun _ => hK2 hp (Or.inl hw), fun z => absurd hw z⟩⟩
  by_cases hh : m_in h 1 12 = 0
  · refine a_wps hS (inv := a_iv X [55]) a_ivh 60 _ _ _ _ _ _ ?_
    exact ⟨I, F, B, p, rfl, rfl, fun z => absurd z hp, fun _ => ⟨w, 1, 12, rfl, fun z => absurd z hw, fun _ => ⟨h, 1, 12, rfl, fun _ => hK2 hp (Or.inr hh), fun z => absurd hh z⟩⟩⟩
  obtain ⟨wn, w1, w12, ew⟩ := m_in_12 hw
  obtain ⟨hn, h1, h12, eh⟩ := m_in_12 hh
  have hK := hK3 hp wn hn w1 w12 h1 h12 ew eh
  have hcd := hc hp
  have hprod : wn * hn ≤ 144 := by
    have := Nat.mul_le_mul w12 h12
    omega
  have hpos : 1 ≤ wn * hn := Nat.mul_pos w1 h1
  have loop : ∀ m k (s : tS) (Cl : Nat → Int32) (f g tp : Int32) (A : w5), k + m = wn * hn → (m = 0 → f = 0 ∧ tp = 0) →
      (∀ R : tW, R = t_wv (tt_T I E p) x y wn m k s Cl → ∀ (g : Int32) (A : w5), K (some (.inl (m_wr R))) (a_mk (m_r (m_c I (nI R.2.1) w R.2.2.2) R.2.2.1 R.1 g 0 A) F B)) →
      a_J X 55 [some (.inr (some 16)), some (.inl p), some (.inl x), some (.inl y), some (.inl w), some (.inl h), some (.inl (nI k))] [] (a_mk (m_r (m_c I (nI k) w Cl) s f g tp A) F B) 0 0 := by
    intro m
    induction m with
    | zero =>
      intro k s Cl f g tp A hk h0 HK
      obtain ⟨rfl, rfl⟩ := h0 rfl
      have hle : w * h ≤ nI k := by rw [ew, eh, pk_mul, show k = wn * hn by omega]; exact Int32.le_refl _
      have HK0 := HK (0, k, s, Cl) rfl g A
      rw [show m_wr (0, k, s, Cl) = nI k from if_pos rfl] at HK0
      exact a_wp1 hS a_ivh (inv := a_iv X [55]) 60 55 _ rfl ⟨fun _ => HK0, fun z => absurd hle z⟩
    | succ m ih =>
      intro k s Cl f g tp A hk h0 HK
      have hnle : ¬ w * h ≤ nI k := by rw [ew, eh, pk_mul]; exact nI_ge (by omega) (by omega)
      have hw0 : ¬ w = 0 := by rw [ew]; exact nI_ne0 w1 (by omega)
      have er : a_rem (nI k) w = nI (k % wn) := by rw [ew]; exact a_remN (by omega) w1 (by omega)
      have ed : nI k / w = nI (k / wn) := by rw [ew]; exact pk_div (by omega) w1 (by omega)
      refine a_wp1 hS a_ivh (inv := a_iv X [55]) 60 55 _ rfl ⟨fun z => absurd z hnle, fun _ => ⟨hw0, hw0, m_r (m_c I (nI k) w Cl) s f g tp A, F, B, n, E, p, x + a_rem (nI k) w, y + nI k / w, rfl, rfl, hE, hD, hcd, fun r hr g' A' hg => ?_⟩⟩
      have hr2 : r = tt_T I E p (x + nI (k % wn)) (y + nI (k / wn)) (0, s.2) := by
        rw [hr, er, ed]
        exact congrFun (congrFun (congrFun (congrFun (tt_congr (M := m_r (m_c I (nI k) w Cl) s f g tp A) (M' := I) rfl rfl rfl rfl rfl rfl rfl rfl E) p) _) _) (0, s.2)
      clear hr
      have est : m_r (m_r (m_c I (nI k) w Cl) s f g tp A) r.2.2 r.1 g' 0 A' = m_r (m_c I (nI k) w Cl) r.2.2 r.1 g' 0 A' := mp_mp
      have key : ∀ st, st = m_r (m_c I (nI k) w Cl) r.2.2 r.1 g' 0 A' → a_wp (P_X3_weave K 0 0) (a_iv X [55]) 43 84 [some (.inr (some 16)), some (.inl p), some (.inl x), some (.inl y), some (.inl w), some (.inl h), some (.inl (nI k))] [] (a_mk st F B) 0 0 := by
        intro st est2
        subst est2
        by_cases hz : r.1 = 0
        · have hv : vp_in (nI k) 144 := vp_in_nI (by omega) (by decide)
          have HK2 := ih (k + 1) r.2.2 (upd Cl k r.2.1) 0 r.2.1 0 A' (by omega) (fun _ => ⟨rfl, rfl⟩) (fun R hR => HK R (by
            rw [hR]
            show _ = (if (tt_T I E p (x + nI (k % wn)) (y + nI (k / wn)) (0, s.2)).1 = 0 then _ else _)
            rw [← hr2, if_pos hz]))
          have e2 : m_r (m_c I (nI (k + 1)) w (upd Cl k r.2.1)) r.2.2 0 r.2.1 0 A' = a_w (a_w (m_r (m_c I (nI k) w Cl) r.2.2 r.1 g' 0 A') 38 (nI k).toNatClampNeg g') 16 23 (nI k + 1) := by
            rw [show (nI k).toNatClampNeg = k from nI_clamp (by omega), mc_38, nI_1, mc_23, hg hz, hz]
          rw [e2, ← nI_1 k] at HK2
          exact ⟨fun _ => ⟨hv, HK2⟩, fun z => absurd hz z⟩
        · have HK2 := HK (r.1, k, r.2.2, Cl) (by
            show _ = (if (tt_T I E p (x + nI (k % wn)) (y + nI (k / wn)) (0, s.2)).1 = 0 then _ else _)
            rw [← hr2, if_neg hz]) g' A'
          rw [show m_wr (r.1, k, r.2.2, Cl) = -10 - r.1 from if_neg hz] at HK2
          exact ⟨fun z => absurd z hz, fun _ => HK2⟩
      exact key _ est
  have h0 := loop (wn * hn) 0 (I 16 19, 0, I 16 11, I 23) (I 38) (I 16 20) (I 16 21) (I 16 13) (I 30, I 31, I 32, I 33, I 34) (by omega) (fun z => by omega) hK
  have e0 : m_r (m_c I (nI 0) w (I 38)) (I 16 19, 0, I 16 11, I 23) (I 16 20) (I 16 21) (I 16 13) (I 30, I 31, I 32, I 33, I 34) = a_w (a_w (a_w I 16 12 0) 16 23 0) 16 24 w := by
    have e1 : I = m_p (m_c I (I 16 23) (I 16 24) (I 38)) (I 16 19) (I 16 20) (I 16 21) (I 16 12) (I 16 11) (I 16 13) (I 23) (I 30) (I 31) (I 32) (I 33) (I 34) := by rw [mc_self, mp_self]
    refine Eq.trans ?_ (congrArg (fun J => a_w (a_w (a_w J 16 12 0) 16 23 0) 16 24 w) e1.symm)
    show _ = a_w (a_w (a_w (m_p (m_c I (I 16 23) (I 16 24) (I 38)) (I 16 19) (I 16 20) (I 16 21) (I 16 12) (I 16 11) (I 16 13) (I 23) (I 30) (I 31) (I 32) (I 33) (I 34)) 16 12 0) 16 23 0) 16 24 w
    rw [mp_12, mc_23, mc_24]
    rfl
  rw [e0] at h0
  refine a_wps hS (inv := a_iv X [55]) a_ivh 60 _ _ _ _ _ _ ?_
  exact ⟨I, F, B, p, rfl, rfl, fun z => absurd z hp, fun _ => ⟨w, 1, 12, rfl, fun z => absurd z hw, fun _ => ⟨h, 1, 12, rfl, fun z => absurd z hh, fun _ => h0⟩⟩⟩

