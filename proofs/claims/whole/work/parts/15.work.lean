/-! ===== what a pattern tells, in numbers; the reference's loop ===== -/
abbrev tS : Type := Int32 × Int32 × Int32 × (Nat → Int32)
abbrev tR : Type := Int32 × Int32 × tS
abbrev tF : Type := Int32 → Int32 → Int32 → tS → tR
def t_over (rc : tF) (a b x y : Int32) (s : tS) : tR := if (rc a x y s).1 = 0 ∧ (rc a x y s).2.1 = 0 then rc b x y (rc a x y s).2.2 else rc a x y s
def t_where (rc : tF) (a b c x y : Int32) (s : tS) : tR := if (rc a x y s).1 = 0 then rc (if (rc a x y s).2.1 ≤ 0 then c else b) x y (rc a x y s).2.2 else rc a x y s
def t_dyed (g : Int32 → Int32) (r : tR) : tR := if r.1 = 0 then (if m_in r.2.1 0 7 = 0 then (2, 0, r.2.2) else (0, g r.2.1, r.2.2)) else r
def t_named (b : Int32) (r : tR) : tR := (r.1, r.2.1 + b, r.2.2)
def t_worn (rc : tF) (a b c : Int32) (p : Nat) (x y : Int32) (s : tS) : tR := if s.2.2.2 p + 1 = b then (0, c, s.1, s.2.1, s.2.2.1 + 1, upd s.2.2.2 p 0) else rc a x y (s.1, s.2.1, s.2.2.1, upd s.2.2.2 p (s.2.2.2 p + 1))
def t_both (rc : tF) (a b c x y : Int32) (s : tS) : tR := if (rc a x y s).1 = 0 then ((rc b x y (rc a x y s).2.2).1, (rc a x y s).2.1 + c * (rc b x y (rc a x y s).2.2).2.1, (rc b x y (rc a x y s).2.2).2.2) else rc a x y s
def t_safe (b c : Int32) (r : tR) : tR := if ¬ r.1 = 0 ∧ ¬ r.1 = 4 ∧ (b = 0 ∨ b = r.1) ∧ ¬ 20 ≤ r.2.2.2.1 then (0, c, r.2.2.1, r.2.2.2.1 + 1, r.2.2.2.2) else r
def t_s (M : Nat → Nat → Int32) (rc : tF) (p : Nat) (x y : Int32) (s : tS) : tR :=
  if M 17 p = 0 then (0, M 18 p, s)
  else if M 17 p = 1 then (if M 20 p = 0 then (1, 0, s) else (0, if a_rem (x / M 20 p) 2 = 0 then M 18 p else M 19 p, s))
  else if M 17 p = 2 then (if M 19 p = 0 then (1, 0, s) else (0, a_rem (x + M 18 p * y) (M 19 p) + M 20 p, s))
  else if M 17 p = 3 then rc (M 18 p) (x - M 19 p) (y - M 20 p) s
  else if M 17 p = 4 then rc (M 18 p) (m_tx (M 19 p) x y) (m_ty (M 19 p) x y) s
  else if M 17 p = 5 then t_over rc (M 18 p) (M 19 p) x y s
  else if M 17 p = 6 then t_where rc (M 18 p) (M 19 p) (M 20 p) x y s
  else if M 17 p = 7 then t_dyed (fun v => M 24 (8 * M 19 p + v).toNatClampNeg) (rc (M 18 p) x y s)
  else if M 17 p = 8 then t_dyed (fun v => M 21 (8 * nI p + v).toNatClampNeg) (rc (M 18 p) x y s)
  else if M 17 p = 9 then t_named (M 19 p) (rc (M 25 (M 18 p).toNatClampNeg) x y s)
  else if M 17 p = 10 then t_worn rc (M 18 p) (M 19 p) (M 20 p) p x y s
  else if M 17 p = 11 then t_both rc (M 18 p) (M 19 p) (M 20 p) x y s
  else if M 17 p = 12 then t_safe (M 19 p) (M 20 p) (rc (M 18 p) x y s)
  else rc (M 22 p) x y s
def t_b (M : Nat → Nat → Int32) (rc : tF) (c x y : Int32) (s : tS) : tR :=
  if c = -1 then (3, 0, s)
  else if c = -2 then (0, a_rem (x + y) 2, s)
  else if c = -3 then (if m_in x 0 7 = 0 then (2, 0, s) else (0, M 24 x.toNatClampNeg + y, s))
  else t_s M rc c.toNatClampNeg x y s
/-- what the pattern c tells at x, y: failure (0: none), colour, and what asking did; D bounds the depth -/
def tt_T (M : Nat → Nat → Int32) : Nat → tF
  | 0 => fun _ _ _ s => (4, 0, s)
  | D + 1 => fun c x y s => if 100 ≤ s.1 then (4, 0, s) else t_b M (tt_T M D) c x y (s.1 + 1, s.2)
def m_vc (n : Nat) (c : Int32) : Prop := ∃ j, j < n ∧ c = nI j
def m_cd (n : Nat) (c : Int32) : Prop := c = -1 ∨ c = -2 ∨ c = -3 ∨ m_vc n c
def m_ok (M : Nat → Nat → Int32) (n p : Nat) : Prop := ∃ s : Nat, s ≤ 13 ∧ M 17 p = nI s ∧ (3 ≤ s → s ≠ 9 → s ≠ 13 → m_vc n (M 18 p)) ∧ ((s = 5 ∨ s = 6 ∨ s = 11) → m_vc n (M 19 p)) ∧ (s = 6 → m_vc n (M 20 p)) ∧ ((s = 7 ∨ s = 8) → m_vc 4 (M 19 p)) ∧ ((s = 9 ∨ s = 13) → m_vc 6 (M 18 p)) ∧ (s = 13 → m_cd n (M 22 p))
def m_D (M : Nat → Nat → Int32) (n : Nat) : Prop := n ≤ 60 ∧ (∀ p, p < n → m_ok M n p) ∧ ∀ k, k < 6 → m_cd n (M 25 k)
/-- the reference's store with its moving parts told one by one -/
def m_p (M : Nat → Nat → Int32) (k f g sf wn tp : Int32) (ak pl px py sg fs : Nat → Int32) : Nat → Nat → Int32 := fun h j =>
  if h = 16 then (if j = 11 then wn else if j = 12 then sf else if j = 13 then tp else if j = 19 then k else if j = 20 then f else if j = 21 then g else M 16 j)
  else if h = 23 then ak j else if h = 30 then pl j else if h = 31 then px j else if h = 32 then py j else if h = 33 then sg j else if h = 34 then fs j else M h j
section MP
variable {M : Nat → Nat → Int32} {k f g sf wn tp x : Int32} {ak pl px py sg fs : Nat → Int32} {t : Nat}
theorem mp_11 : a_w (m_p M k f g sf wn tp ak pl px py sg fs) 16 11 x = m_p M k f g sf x tp ak pl px py sg fs := by
  funext h j; unfold a_w m_p
  by_cases e : h = 16
  · subst e; by_cases e2 : j = 11 <;> simp [e2]
  · simp [e]
theorem mp_12 : a_w (m_p M k f g sf wn tp ak pl px py sg fs) 16 12 x = m_p M k f g x wn tp ak pl px py sg fs := by
  funext h j; unfold a_w m_p
  by_cases e : h = 16
  · subst e; by_cases e2 : j = 12 <;> simp [e2]
  · simp [e]
theorem mp_13 : a_w (m_p M k f g sf wn tp ak pl px py sg fs) 16 13 x = m_p M k f g sf wn x ak pl px py sg fs := by
  funext h j; unfold a_w m_p
  by_cases e : h = 16
  · subst e; by_cases e2 : j = 13 <;> simp [e2]
  · simp [e]
theorem mp_19 : a_w (m_p M k f g sf wn tp ak pl px py sg fs) 16 19 x = m_p M x f g sf wn tp ak pl px py sg fs := by
  funext h j; unfold a_w m_p
  by_cases e : h = 16
  · subst e; by_cases e2 : j = 19 <;> simp [e2]
  · simp [e]
theorem mp_20 : a_w (m_p M k f g sf wn tp ak pl px py sg fs) 16 20 x = m_p M k x g sf wn tp ak pl px py sg fs := by
  funext h j; unfold a_w m_p
  by_cases e : h = 16
  · subst e; by_cases e2 : j = 20 <;> simp [e2]
  · simp [e]
theorem mp_21 : a_w (m_p M k f g sf wn tp ak pl px py sg fs) 16 21 x = m_p M k f x sf wn tp ak pl px py sg fs := by
  funext h j; unfold a_w m_p
  by_cases e : h = 16
  · subst e; by_cases e2 : j = 21 <;> simp [e2]
  · simp [e]
theorem mp_a23 : a_w (m_p M k f g sf wn tp ak pl px py sg fs) 23 t x = m_p M k f g sf wn tp (upd ak t x) pl px py sg fs := by
  funext h j; unfold a_w m_p upd
  by_cases e : h = 23
  · subst e; by_cases e2 : j = t <;> simp [e2]
  · simp [e]
theorem mp_a30 : a_w (m_p M k f g sf wn tp ak pl px py sg fs) 30 t x = m_p M k f g sf wn tp ak (upd pl t x) px py sg fs := by
  funext h j; unfold a_w m_p upd
  by_cases e : h = 30
  · subst e; by_cases e2 : j = t <;> simp [e2]
  · simp [e]
theorem mp_a31 : a_w (m_p M k f g sf wn tp ak pl px py sg fs) 31 t x = m_p M k f g sf wn tp ak pl (upd px t x) py sg fs := by
  funext h j; unfold a_w m_p upd
  by_cases e : h = 31
  · subst e; by_cases e2 : j = t <;> simp [e2]
  · simp [e]
theorem mp_a32 : a_w (m_p M k f g sf wn tp ak pl px py sg fs) 32 t x = m_p M k f g sf wn tp ak pl px (upd py t x) sg fs := by
  funext h j; unfold a_w m_p upd
  by_cases e : h = 32
  · subst e; by_cases e2 : j = t <;> simp [e2]
  · simp [e]
theorem mp_a33 : a_w (m_p M k f g sf wn tp ak pl px py sg fs) 33 t x = m_p M k f g sf wn tp ak pl px py (upd sg t x) fs := by
  funext h j; unfold a_w m_p upd
  by_cases e : h = 33
  · subst e; by_cases e2 : j = t <;> simp [e2]
  · simp [e]
theorem mp_a34 : a_w (m_p M k f g sf wn tp ak pl px py sg fs) 34 t x = m_p M k f g sf wn tp ak pl px py sg (upd fs t x) := by
  funext h j; unfold a_w m_p upd
  by_cases e : h = 34
  · subst e; by_cases e2 : j = t <;> simp [e2]
  · simp [e]
/-- a store is its own moving parts -/
theorem mp_self (I : Nat → Nat → Int32) : m_p I (I 16 19) (I 16 20) (I 16 21) (I 16 12) (I 16 11) (I 16 13) (I 23) (I 30) (I 31) (I 32) (I 33) (I 34) = I := by
  funext h j; unfold m_p
  by_cases e : h = 16
  · subst e
    by_cases e1 : j = 11
    · simp [e1]
    · by_cases e2 : j = 12
      · simp [e2]
      · by_cases e3 : j = 13
        · simp [e3]
        · by_cases e4 : j = 19
          · simp [e4]
          · by_cases e5 : j = 20
            · simp [e5]
            · by_cases e6 : j = 21
              · simp [e6]
              · simp [e1, e2, e3, e4, e5, e6]
  · by_cases e1 : h = 23
    · simp [e1]
    · by_cases e2 : h = 30
      · simp [e2]
      · by_cases e3 : h = 31
        · simp [e3]
        · by_cases e4 : h = 32
          · simp [e4]
          · by_cases e5 : h = 33
            · simp [e5]
            · by_cases e6 : h = 34
              · simp [e6]
              · simp [e, e1, e2, e3, e4, e5, e6]
end MP
def P_X3_work (K : aK) (bc bs : Nat) : List (Nat × aT) := [(0, t_ald 0 1),
  (1, t_ic 0 2),
  (2, t_puti 3 25 19 5),
  (5, t_ald 0 6),
  (6, t_ic 0 7),
  (7, t_puti 3 25 20 10),
  (10, t_ald 0 11),
  (11, t_ic 0 12),
  (12, t_puti 3 25 13 15),
  (15, t_ald 0 16),
  (16, t_ic 0 17),
  (17, t_puti 3 25 21 20),
  (20, t_ald 0 21),
  (21, t_ild 1 22),
  (22, t_ild 2 23),
  (23, t_ild 3 24),
  (24, t_call 4 0 0 bc bs sp_X3_push 27),
  (27, t_ald 0 28),
  (28, t_geti 3 25 13 31),
  (31, t_if (fun x => x ≤ 0) 167 34),
  (34, t_ald 0 35),
  (35, t_geti 3 25 13 38),
  (38, t_ic 1 39),
  (39, t_sub 40),
  (40, t_ist 4 42),
  (42, t_ald 0 43),
  (43, t_getr 3 25 14 46),
  (46, t_ild 4 48),
  (48, t_iald 49),
  (49, t_ist 5 51),
  (51, t_ald 0 52),
  (52, t_geti 3 25 20 55),
  (55, t_if (fun x => x = 0) 65 58),
  (58, t_ald 0 59),
  (59, t_call 1 0 0 bc bs sp_X3_falls 62),
  (62, t_goto 164),
  (65, t_ild 5 67),
  (67, t_if (fun x => x < 0) 81 70),
  (70, t_ald 0 71),
  (71, t_getr 3 25 1 74),
  (74, t_ild 5 76),
  (76, t_iald 77),
  (77, t_ic 3 78),
  (78, t_ifc (fun x y => y ≤ x) 104 81),
  (81, t_ald 0 82),
  (82, t_ild 5 84),
  (84, t_ald 0 85),
  (85, t_getr 3 25 15 88),
  (88, t_ild 4 90),
  (90, t_iald 91),
  (91, t_ald 0 92),
  (92, t_getr 3 25 16 95),
  (95, t_ild 4 97),
  (97, t_iald 98),
  (98, t_call 4 0 0 bc bs sp_X3_alone 101),
  (101, t_goto 164),
  (104, t_ald 0 105),
  (105, t_getr 3 25 17 108),
  (108, t_ild 4 110),
  (110, t_iald 111),
  (111, t_if (fun x => x = 0) 114 145),
  (114, t_ald 0 115),
  (115, t_getr 3 25 17 118),
  (118, t_ild 4 120),
  (120, t_ic 1 121),
  (121, t_iast 122),
  (122, t_ald 0 123),
  (123, t_ild 5 125),
  (125, t_ald 0 126),
  (126, t_getr 3 25 15 129),
  (129, t_ild 4 131),
  (131, t_iald 132),
  (132, t_ald 0 133),
  (133, t_getr 3 25 16 136),
  (136, t_ild 4 138),
  (138, t_iald 139),
  (139, t_call 4 0 0 bc bs sp_X3_begins 142),
  (142, t_goto 164),
  (145, t_ald 0 146),
  (146, t_getr 3 25 17 149),
  (149, t_ild 4 151),
  (151, t_dup2 152),
  (152, t_iald 153),
  (153, t_ic 1 154),
  (154, t_add 155),
  (155, t_iast 156),
  (156, t_ald 0 157),
  (157, t_ild 4 159),
  (159, t_ild 5 161),
  (161, t_call 3 0 0 bc bs sp_X3_goesOn 164),
  (164, t_goto 27),
  (167, t_vret K bc bs)]
set_option maxRecDepth 100000 in
theorem S_X3_work {X : a_X} {K : aK} {l : Launch} {D : va_G} {G : aG} {N0 : Nat} (C : a_C X cX3_work none RX3) (Y : a_Y X l (a_rm 4 0 0) D G N0) (M : a_mq X K (a_rm 4 0 0).cells (a_rm 4 0 0).slots) : ∀ x ∈ P_X3_work K 0 0, a_Sd X x.1 x.2 := by
  unfold P_X3_work
  refine List.forall_mem_cons.mpr ⟨s_aldn C dX3_work_0 rfl, ?_⟩
  refine List.forall_mem_cons.mpr ⟨s_ic C dX3_work_1 (by decide), ?_⟩
  refine List.forall_mem_cons.mpr ⟨s_puti C tyX3 tyX3_ok nmX3 rfl in_X3 (by decide) lk_X3_74 rfl (Or.inl rfl) rfl dX3_work_2, ?_⟩
  refine List.forall_mem_cons.mpr ⟨s_aldn C dX3_work_5 rfl, ?_⟩
  refine List.forall_mem_cons.mpr ⟨s_ic C dX3_work_6 (by decide), ?_⟩
  refine List.forall_mem_cons.mpr ⟨s_puti C tyX3 tyX3_ok nmX3 rfl in_X3 (by decide) lk_X3_77 rfl (Or.inl rfl) rfl dX3_work_7, ?_⟩
  refine List.forall_mem_cons.mpr ⟨s_aldn C dX3_work_10 rfl, ?_⟩
  refine List.forall_mem_cons.mpr ⟨s_ic C dX3_work_11 (by decide), ?_⟩
  refine List.forall_mem_cons.mpr ⟨s_puti C tyX3 tyX3_ok nmX3 rfl in_X3 (by decide) lk_X3_80 rfl (Or.inl rfl) rfl dX3_work_12, ?_⟩
  refine List.forall_mem_cons.mpr ⟨s_aldn C dX3_work_15 rfl, ?_⟩
  refine List.forall_mem_cons.mpr ⟨s_ic C dX3_work_16 (by decide), ?_⟩
  refine List.forall_mem_cons.mpr ⟨s_puti C tyX3 tyX3_ok nmX3 rfl in_X3 (by decide) lk_X3_83 rfl (Or.inl rfl) rfl dX3_work_17, ?_⟩
  refine List.forall_mem_cons.mpr ⟨s_aldn C dX3_work_20 rfl, ?_⟩
  refine List.forall_mem_cons.mpr ⟨s_ildn C dX3_work_21 rfl, ?_⟩
  refine List.forall_mem_cons.mpr ⟨s_ildn C dX3_work_22 rfl, ?_⟩
  refine List.forall_mem_cons.mpr ⟨s_ildn C dX3_work_23 rfl, ?_⟩
  refine List.forall_mem_cons.mpr ⟨s_callV (rm := (a_rm 1 0 0)) (n := 3) C Y (ci := 3) rfl con_X3_push rc_X3_push co_X3_push ml_X3_101 im_X3_push se_X3_push ii_X3 (by decide +kernel) ⟨by decide, by decide⟩ ⟨rfl, rfl⟩ dX3_work_24, ?_⟩
  refine List.forall_mem_cons.mpr ⟨s_aldn C dX3_work_27 rfl, ?_⟩
  refine List.forall_mem_cons.mpr ⟨s_geti C rfl in_X3 (by decide) lk_X3_80 rfl dX3_work_28, ?_⟩
  refine List.forall_mem_cons.mpr ⟨s_if_le C dX3_work_31 (by decide), ?_⟩
  refine List.forall_mem_cons.mpr ⟨s_aldn C dX3_work_34 rfl, ?_⟩
  refine List.forall_mem_cons.mpr ⟨s_geti C rfl in_X3 (by decide) lk_X3_80 rfl dX3_work_35, ?_⟩
  refine List.forall_mem_cons.mpr ⟨s_ic C dX3_work_38 (by decide), ?_⟩
  refine List.forall_mem_cons.mpr ⟨s_sub C dX3_work_39, ?_⟩
  refine List.forall_mem_cons.mpr ⟨s_ist C dX3_work_40, ?_⟩
  refine List.forall_mem_cons.mpr ⟨s_aldn C dX3_work_42 rfl, ?_⟩
  refine List.forall_mem_cons.mpr ⟨s_getr C rfl in_X3 (by decide) lk_X3_37 rfl dX3_work_43, ?_⟩
  refine List.forall_mem_cons.mpr ⟨s_ild C dX3_work_46, ?_⟩
  refine List.forall_mem_cons.mpr ⟨s_iald C dX3_work_48, ?_⟩
  refine List.forall_mem_cons.mpr ⟨s_ist C dX3_work_49, ?_⟩
  refine List.forall_mem_cons.mpr ⟨s_aldn C dX3_work_51 rfl, ?_⟩
  refine List.forall_mem_cons.mpr ⟨s_geti C rfl in_X3 (by decide) lk_X3_77 rfl dX3_work_52, ?_⟩
  refine List.forall_mem_cons.mpr ⟨s_if_eq C dX3_work_55 (by decide), ?_⟩
  refine List.forall_mem_cons.mpr ⟨s_aldn C dX3_work_58 rfl, ?_⟩
  refine List.forall_mem_cons.mpr ⟨s_callV (rm := (a_rm 1 0 0)) (n := 0) C Y (ci := 3) rfl con_X3_falls rc_X3_falls co_X3_falls ml_X3_113 im_X3_falls se_X3_falls ii_X3 (by decide +kernel) ⟨by decide, by decide⟩ ⟨rfl, rfl⟩ dX3_work_59, ?_⟩
  refine List.forall_mem_cons.mpr ⟨s_goto C dX3_work_62 (by decide), ?_⟩
  refine List.forall_mem_cons.mpr ⟨s_ild C dX3_work_65, ?_⟩
  refine List.forall_mem_cons.mpr ⟨s_if_lt C dX3_work_67 (by decide), ?_⟩
  refine List.forall_mem_cons.mpr ⟨s_aldn C dX3_work_70 rfl, ?_⟩
  refine List.forall_mem_cons.mpr ⟨s_getr C rfl in_X3 (by decide) lk_X3_7 rfl dX3_work_71, ?_⟩
  refine List.forall_mem_cons.mpr ⟨s_ild C dX3_work_74, ?_⟩
  refine List.forall_mem_cons.mpr ⟨s_iald C dX3_work_76, ?_⟩
  refine List.forall_mem_cons.mpr ⟨s_ic C dX3_work_77 (by decide), ?_⟩
  refine List.forall_mem_cons.mpr ⟨s_icmp_ge C dX3_work_78 (by decide), ?_⟩
  refine List.forall_mem_cons.mpr ⟨s_aldn C dX3_work_81 rfl, ?_⟩
  refine List.forall_mem_cons.mpr ⟨s_ild C dX3_work_82, ?_⟩
  refine List.forall_mem_cons.mpr ⟨s_aldn C dX3_work_84 rfl, ?_⟩
  refine List.forall_mem_cons.mpr ⟨s_getr C rfl in_X3 (by decide) lk_X3_40 rfl dX3_work_85, ?_⟩
  refine List.forall_mem_cons.mpr ⟨s_ild C dX3_work_88, ?_⟩
  refine List.forall_mem_cons.mpr ⟨s_iald C dX3_work_90, ?_⟩
  refine List.forall_mem_cons.mpr ⟨s_aldn C dX3_work_91 rfl, ?_⟩
  refine List.forall_mem_cons.mpr ⟨s_getr C rfl in_X3 (by decide) lk_X3_43 rfl dX3_work_92, ?_⟩
  refine List.forall_mem_cons.mpr ⟨s_ild C dX3_work_95, ?_⟩
  refine List.forall_mem_cons.mpr ⟨s_iald C dX3_work_97, ?_⟩
  refine List.forall_mem_cons.mpr ⟨s_callV (rm := (a_rm 3 0 0)) (n := 3) C Y (ci := 3) rfl con_X3_alone rc_X3_alone co_X3_alone ml_X3_116 im_X3_alone se_X3_alone ii_X3 (by decide +kernel) ⟨by decide, by decide⟩ ⟨rfl, rfl⟩ dX3_work_98, ?_⟩
  refine List.forall_mem_cons.mpr ⟨s_goto C dX3_work_101 (by decide), ?_⟩
  refine List.forall_mem_cons.mpr ⟨s_aldn C dX3_work_104 rfl, ?_⟩
  refine List.forall_mem_cons.mpr ⟨s_getr C rfl in_X3 (by decide) lk_X3_46 rfl dX3_work_105, ?_⟩
  refine List.forall_mem_cons.mpr ⟨s_ild C dX3_work_108, ?_⟩
  refine List.forall_mem_cons.mpr ⟨s_iald C dX3_work_110, ?_⟩
  refine List.forall_mem_cons.mpr ⟨s_if_ne C dX3_work_111 (by decide), ?_⟩
  refine List.forall_mem_cons.mpr ⟨s_aldn C dX3_work_114 rfl, ?_⟩
  refine List.forall_mem_cons.mpr ⟨s_getr C rfl in_X3 (by decide) lk_X3_46 rfl dX3_work_115, ?_⟩
  refine List.forall_mem_cons.mpr ⟨s_ild C dX3_work_118, ?_⟩
  refine List.forall_mem_cons.mpr ⟨s_ic C dX3_work_120 (by decide), ?_⟩
  refine List.forall_mem_cons.mpr ⟨s_iast C dX3_work_121, ?_⟩
  refine List.forall_mem_cons.mpr ⟨s_aldn C dX3_work_122 rfl, ?_⟩
  refine List.forall_mem_cons.mpr ⟨s_ild C dX3_work_123, ?_⟩
  refine List.forall_mem_cons.mpr ⟨s_aldn C dX3_work_125 rfl, ?_⟩
  refine List.forall_mem_cons.mpr ⟨s_getr C rfl in_X3 (by decide) lk_X3_40 rfl dX3_work_126, ?_⟩
  refine List.forall_mem_cons.mpr ⟨s_ild C dX3_work_129, ?_⟩
  refine List.forall_mem_cons.mpr ⟨s_iald C dX3_work_131, ?_⟩
  refine List.forall_mem_cons.mpr ⟨s_aldn C dX3_work_132 rfl, ?_⟩
  refine List.forall_mem_cons.mpr ⟨s_getr C rfl in_X3 (by decide) lk_X3_43 rfl dX3_work_133, ?_⟩
  refine List.forall_mem_cons.mpr ⟨s_ild C dX3_work_136, ?_⟩
  refine List.forall_mem_cons.mpr ⟨s_iald C dX3_work_138, ?_⟩
  refine List.forall_mem_cons.mpr ⟨s_callV (rm := (a_rm 3 0 0)) (n := 3) C Y (ci := 3) rfl con_X3_begins rc_X3_begins co_X3_begins ml_X3_119 im_X3_begins se_X3_begins ii_X3 (by decide +kernel) ⟨by decide, by decide⟩ ⟨rfl, rfl⟩ dX3_work_139, ?_⟩
  refine List.forall_mem_cons.mpr ⟨s_goto C dX3_work_142 (by decide), ?_⟩
  refine List.forall_mem_cons.mpr ⟨s_aldn C dX3_work_145 rfl, ?_⟩
  refine List.forall_mem_cons.mpr ⟨s_getr C rfl in_X3 (by decide) lk_X3_46 rfl dX3_work_146, ?_⟩
  refine List.forall_mem_cons.mpr ⟨s_ild C dX3_work_149, ?_⟩
  refine List.forall_mem_cons.mpr ⟨s_dup2 C dX3_work_151, ?_⟩
  refine List.forall_mem_cons.mpr ⟨s_iald C dX3_work_152, ?_⟩
  refine List.forall_mem_cons.mpr ⟨s_ic C dX3_work_153 (by decide), ?_⟩
  refine List.forall_mem_cons.mpr ⟨s_add C dX3_work_154, ?_⟩
  refine List.forall_mem_cons.mpr ⟨s_iast C dX3_work_155, ?_⟩
  refine List.forall_mem_cons.mpr ⟨s_aldn C dX3_work_156 rfl, ?_⟩
  refine List.forall_mem_cons.mpr ⟨s_ild C dX3_work_157, ?_⟩
  refine List.forall_mem_cons.mpr ⟨s_ild C dX3_work_159, ?_⟩
  refine List.forall_mem_cons.mpr ⟨s_callV (rm := (a_rm 3 0 0)) (n := 2) C Y (ci := 3) rfl con_X3_goesOn rc_X3_goesOn co_X3_goesOn ml_X3_122 im_X3_goesOn se_X3_goesOn ii_X3 (by decide +kernel) ⟨by decide, by decide⟩ ⟨rfl, rfl⟩ dX3_work_161, ?_⟩
  refine List.forall_mem_cons.mpr ⟨s_goto C dX3_work_164 (by decide), ?_⟩
  refine List.forall_mem_cons.mpr ⟨s_vret C M dX3_work_167, ?_⟩
  exact fun _ h => absurd h List.not_mem_nil

