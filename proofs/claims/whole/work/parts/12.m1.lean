/-! ===== the reference's small methods ===== -/
def a_w (I : Nat → Nat → Int32) (h k : Nat) (x : Int32) : Nat → Nat → Int32 := fun h' k' => if h' = h ∧ k' = k then x else I h' k'
def a_mref (k : Nat) : Bool := (decide (1 ≤ k) && decide (k ≤ 9)) || ((decide (14 ≤ k) && decide (k ≤ 18)) || decide (k = 22))
def a_SR (F : Nat → Nat → Option Nat) : Nat → Nat → Option Nat := fun h k =>
  if h = 0 then (if k < 4 then some (k + 1) else none)
  else if h = 1 then (if k < 4 then some (6 + k) else none)
  else if h = 4 then (if k = 0 then some 5 else none)
  else if h = 16 then (if a_mref k = true then some (16 + k) else none)
  else F h k
def a_LV (B : Nat → Bool) : Nat → Bool := fun h => a_mnh h || (decide (h = 0) || (decide (h = 2) || (decide (h = 3) || (decide (h = 4) || (decide (h = 5) || (decide (h = 16) || ((decide (17 ≤ h) && a_mref (h - 16)) || (decide (64 ≤ h) && B h))))))))
abbrev a_mk (I : Nat → Nat → Int32) (F : Nat → Nat → Option Nat) (B : Nat → Bool) : aS := (I, a_SR F, a_LV B)
abbrev a_ni : Nat → Option (aL → List aV → aS → Nat → Nat → Prop) := fun _ => none
theorem a_nih : ∀ {X : a_X} (pc : Nat) (I : aL → List aV → aS → Nat → Nat → Prop), a_ni pc = some I → ∀ L st σ kc ks, I L st σ kc ks → a_J X pc L st σ kc ks := fun pc I e => by cases e
def m_in (v lo hi : Int32) : Int32 := if v < lo then 0 else if hi < v then 0 else 1
def sp_X3_in : aP := fun as σ K => ∃ v lo hi, as = [.inl v, .inl lo, .inl hi] ∧ K (some (.inl (m_in v lo hi))) σ
def P_X3_in (K : aK) (bc bs : Nat) : List (Nat × aT) := [(0, t_ild 0 1),
  (1, t_ild 1 2),
  (2, t_ifc (fun x y => x < y) 14 5),
  (5, t_ild 0 6),
  (6, t_ild 2 7),
  (7, t_ifc (fun x y => y < x) 14 10),
  (10, t_ic 1 11),
  (11, t_goto 15),
  (14, t_ic 0 15),
  (15, t_zret K bc bs)]
set_option maxRecDepth 100000 in
theorem S_X3_in {X : a_X} {K : aK} {l : Launch} {D : va_G} {G : aG} {N0 : Nat} (C : a_C X cX3_in (some .boolean) RX3) (Y : a_Y X l (a_rm 1 0 0) D G N0) (M : a_mq X K (a_rm 1 0 0).cells (a_rm 1 0 0).slots) : ∀ x ∈ P_X3_in K 0 0, a_Sd X x.1 x.2 := by
  unfold P_X3_in
  refine List.forall_mem_cons.mpr ⟨s_ildn C dX3_in_0 rfl, ?_⟩
  refine List.forall_mem_cons.mpr ⟨s_ildn C dX3_in_1 rfl, ?_⟩
  refine List.forall_mem_cons.mpr ⟨s_icmp_lt C dX3_in_2 (by decide), ?_⟩
  refine List.forall_mem_cons.mpr ⟨s_ildn C dX3_in_5 rfl, ?_⟩
  refine List.forall_mem_cons.mpr ⟨s_ildn C dX3_in_6 rfl, ?_⟩
  refine List.forall_mem_cons.mpr ⟨s_icmp_gt C dX3_in_7 (by decide), ?_⟩
  refine List.forall_mem_cons.mpr ⟨s_ic C dX3_in_10 (by decide), ?_⟩
  refine List.forall_mem_cons.mpr ⟨s_goto C dX3_in_11 (by decide), ?_⟩
  refine List.forall_mem_cons.mpr ⟨s_ic C dX3_in_14 (by decide), ?_⟩
  refine List.forall_mem_cons.mpr ⟨s_zret C M dX3_in_15, ?_⟩
  exact fun _ h => absurd h List.not_mem_nil
theorem con_X3_in {l : Launch} {D : va_G} {G : aG} {N0 : Nat} : a_Con l D G N0 yX3_in cX3_in 3 (some .boolean) (a_rm 1 0 0) sp_X3_in := by
  refine a_con (by decide) (fun as σ K h => by obtain ⟨v, lo, hi, rfl, -⟩ := h; exact Nat.le_refl _) ?_
  intro X as σ K h C Y M _
  obtain ⟨v, lo, hi, rfl, hK⟩ := h
  refine a_wps (S_X3_in C Y M) (inv := a_ni) a_nih 20 _ _ _ _ _ _ ?_
  refine ⟨fun h1 => ?_, fun h1 => ⟨fun h2 => ?_, fun h2 => ?_⟩⟩
  · rw [show m_in v lo hi = 0 from if_pos h1] at hK
    exact ⟨Or.inl rfl, hK⟩
  · rw [show m_in v lo hi = 0 by unfold m_in; rw [if_neg h1, if_pos h2]] at hK
    exact ⟨Or.inl rfl, hK⟩
  · rw [show m_in v lo hi = 1 by unfold m_in; rw [if_neg h1, if_neg h2]] at hK
    exact ⟨Or.inr rfl, hK⟩
def sp_X3_isPattern : aP := fun as σ K => ∃ I F B p, σ = a_mk I F B ∧ as = [.inr (some 16), .inl p] ∧ K (some (.inl (m_in p 0 (I 16 0 - 1)))) σ
theorem rc_X3_isPattern : ∀ as σ K, sp_X3_isPattern as σ K → ∃ h As, as = .inr (some h) :: As ∧ a_is σ h 3 25 = true := by
  rintro as σ K ⟨I, F, B, p, rfl, rfl, -⟩
  exact ⟨16, _, rfl, rfl⟩
def P_X3_isPattern (K : aK) (bc bs : Nat) : List (Nat × aT) := [(0, t_ild 1 1),
  (1, t_ic 0 2),
  (2, t_ald 0 3),
  (3, t_geti 3 25 0 6),
  (6, t_ic 1 7),
  (7, t_sub 8),
  (8, t_call 3 0 0 bc bs sp_X3_in 11),
  (11, t_zret K bc bs)]
set_option maxRecDepth 100000 in
theorem S_X3_isPattern {X : a_X} {K : aK} {l : Launch} {D : va_G} {G : aG} {N0 : Nat} (C : a_C X cX3_isPattern (some .boolean) RX3) (Y : a_Y X l (a_rm 2 0 0) D G N0) (M : a_mq X K (a_rm 2 0 0).cells (a_rm 2 0 0).slots) : ∀ x ∈ P_X3_isPattern K 0 0, a_Sd X x.1 x.2 := by
  unfold P_X3_isPattern
  refine List.forall_mem_cons.mpr ⟨s_ildn C dX3_isPattern_0 rfl, ?_⟩
  refine List.forall_mem_cons.mpr ⟨s_ic C dX3_isPattern_1 (by decide), ?_⟩
  refine List.forall_mem_cons.mpr ⟨s_aldn C dX3_isPattern_2 rfl, ?_⟩
  refine List.forall_mem_cons.mpr ⟨s_geti C rfl in_X3 (by decide) lk_X3_55 rfl dX3_isPattern_3, ?_⟩
  refine List.forall_mem_cons.mpr ⟨s_ic C dX3_isPattern_6 (by decide), ?_⟩
  refine List.forall_mem_cons.mpr ⟨s_sub C dX3_isPattern_7, ?_⟩
  refine List.forall_mem_cons.mpr ⟨s_callS (rm := (a_rm 1 0 0)) C Y con_X3_in co_X3_in ml_X3_59 st_X3_in ii_X3 (by decide +kernel) ⟨by decide, by decide⟩ ⟨rfl, rfl⟩ dX3_isPattern_8, ?_⟩
  refine List.forall_mem_cons.mpr ⟨s_zret C M dX3_isPattern_11, ?_⟩
  exact fun _ h => absurd h List.not_mem_nil
theorem con_X3_isPattern {l : Launch} {D : va_G} {G : aG} {N0 : Nat} : a_Con l D G N0 yX3_isPattern cX3_isPattern 2 (some .boolean) (a_rm 2 0 0) sp_X3_isPattern := by
  refine a_con (by decide) (fun as σ K h => by obtain ⟨I, F, B, p, rfl, rfl, -⟩ := h; exact Nat.le_refl _) ?_
  intro X as σ K h C Y M _
  obtain ⟨I, F, B, p, rfl, rfl, hK⟩ := h
  refine a_wps (S_X3_isPattern C Y M) (inv := a_ni) a_nih 20 _ _ _ _ _ _ ?_
  refine ⟨p, 0, I 16 0 - 1, rfl, ?_, hK⟩
  unfold m_in
  split
  · exact Or.inl rfl
  · split
    · exact Or.inl rfl
    · exact Or.inr rfl
def m_tells (I : Nat → Nat → Int32) (v : Int32) : Nat → Nat → Int32 := a_w (a_w I 16 21 v) 16 13 (I 16 13 - 1)
def sp_X3_tells : aP := fun as σ K => ∃ I F B v, σ = a_mk I F B ∧ as = [.inr (some 16), .inl v] ∧ K none (a_mk (m_tells I v) F B)
theorem rc_X3_tells : ∀ as σ K, sp_X3_tells as σ K → ∃ h As, as = .inr (some h) :: As ∧ a_is σ h 3 25 = true := by
  rintro as σ K ⟨I, F, B, p, rfl, rfl, -⟩
  exact ⟨16, _, rfl, rfl⟩
def P_X3_tells (K : aK) (bc bs : Nat) : List (Nat × aT) := [(0, t_ald 0 1),
  (1, t_ild 1 2),
  (2, t_puti 3 25 21 5),
  (5, t_ald 0 6),
  (6, t_dup 7),
  (7, t_geti 3 25 13 10),
  (10, t_ic 1 11),
  (11, t_sub 12),
  (12, t_puti 3 25 13 15),
  (15, t_vret K bc bs)]
set_option maxRecDepth 100000 in
theorem S_X3_tells {X : a_X} {K : aK} {l : Launch} {D : va_G} {G : aG} {N0 : Nat} (C : a_C X cX3_tells none RX3) (Y : a_Y X l (a_rm 1 0 0) D G N0) (M : a_mq X K (a_rm 1 0 0).cells (a_rm 1 0 0).slots) : ∀ x ∈ P_X3_tells K 0 0, a_Sd X x.1 x.2 := by
  unfold P_X3_tells
  refine List.forall_mem_cons.mpr ⟨s_aldn C dX3_tells_0 rfl, ?_⟩
  refine List.forall_mem_cons.mpr ⟨s_ildn C dX3_tells_1 rfl, ?_⟩
  refine List.forall_mem_cons.mpr ⟨s_puti C tyX3 tyX3_ok nmX3 rfl in_X3 (by decide) lk_X3_83 rfl (Or.inl rfl) rfl dX3_tells_2, ?_⟩
  refine List.forall_mem_cons.mpr ⟨s_aldn C dX3_tells_5 rfl, ?_⟩
  refine List.forall_mem_cons.mpr ⟨s_dup C dX3_tells_6, ?_⟩
  refine List.forall_mem_cons.mpr ⟨s_geti C rfl in_X3 (by decide) lk_X3_80 rfl dX3_tells_7, ?_⟩
  refine List.forall_mem_cons.mpr ⟨s_ic C dX3_tells_10 (by decide), ?_⟩
  refine List.forall_mem_cons.mpr ⟨s_sub C dX3_tells_11, ?_⟩
  refine List.forall_mem_cons.mpr ⟨s_puti C tyX3 tyX3_ok nmX3 rfl in_X3 (by decide) lk_X3_80 rfl (Or.inl rfl) rfl dX3_tells_12, ?_⟩
  refine List.forall_mem_cons.mpr ⟨s_vret C M dX3_tells_15, ?_⟩
  exact fun _ h => absurd h List.not_mem_nil
theorem con_X3_tells {l : Launch} {D : va_G} {G : aG} {N0 : Nat} : a_Con l D G N0 yX3_tells cX3_tells 2 none (a_rm 1 0 0) sp_X3_tells := by
  refine a_con (by decide) (fun as σ K h => by obtain ⟨I, F, B, p, rfl, rfl, -⟩ := h; exact Nat.le_refl _) ?_
  intro X as σ K h C Y M _
  obtain ⟨I, F, B, v, rfl, rfl, hK⟩ := h
  refine a_wps (S_X3_tells C Y M) (inv := a_ni) a_nih 20 _ _ _ _ _ _ ?_
  exact hK
def m_push (I : Nat → Nat → Int32) (c x y : Int32) : Nat → Nat → Int32 :=
  if I 16 19 = 100 then a_w I 16 20 4
  else if c = -1 then a_w (a_w I 16 19 (I 16 19 + 1)) 16 20 3
  else a_w (a_w (a_w (a_w (a_w (a_w I 16 19 (I 16 19 + 1)) 30 (I 16 13).toNatClampNeg c) 31 (I 16 13).toNatClampNeg x) 32 (I 16 13).toNatClampNeg y) 33 (I 16 13).toNatClampNeg 0) 16 13 (I 16 13 + 1)
def sp_X3_push : aP := fun as σ K => ∃ I F B c x y, σ = a_mk I F B ∧ as = [.inr (some 16), .inl c, .inl x, .inl y] ∧ (¬ I 16 19 = 100 → ¬ c = -1 → vp_in (I 16 13) 104) ∧ K none (a_mk (m_push I c x y) F B)
theorem rc_X3_push : ∀ as σ K, sp_X3_push as σ K → ∃ h As, as = .inr (some h) :: As ∧ a_is σ h 3 25 = true := by
  rintro as σ K ⟨I, F, B, c, x, y, rfl, rfl, -⟩
  exact ⟨16, _, rfl, rfl⟩
def P_X3_push (K : aK) (bc bs : Nat) : List (Nat × aT) := [(0, t_ald 0 1),
  (1, t_geti 3 25 19 4),
  (4, t_ic 100 6),
  (6, t_ifc (fun x y => x = y) 9 15),
  (9, t_ald 0 10),
  (10, t_ic 4 11),
  (11, t_puti 3 25 20 14),
  (14, t_vret K bc bs),
  (15, t_ald 0 16),
  (16, t_dup 17),
  (17, t_geti 3 25 19 20),
  (20, t_ic 1 21),
  (21, t_add 22),
  (22, t_puti 3 25 19 25),
  (25, t_ild 1 26),
  (26, t_ic (-1) 27),
  (27, t_ifc (fun x y => x = y) 30 36),
  (30, t_ald 0 31),
  (31, t_ic 3 32),
  (32, t_puti 3 25 20 35),
  (35, t_vret K bc bs),
  (36, t_ald 0 37),
  (37, t_getr 3 25 14 40),
  (40, t_ald 0 41),
  (41, t_geti 3 25 13 44),
  (44, t_ild 1 45),
  (45, t_iast 46),
  (46, t_ald 0 47),
  (47, t_getr 3 25 15 50),
  (50, t_ald 0 51),
  (51, t_geti 3 25 13 54),
  (54, t_ild 2 55),
  (55, t_iast 56),
  (56, t_ald 0 57),
  (57, t_getr 3 25 16 60),
  (60, t_ald 0 61),
  (61, t_geti 3 25 13 64),
  (64, t_ild 3 65),
  (65, t_iast 66),
  (66, t_ald 0 67),
  (67, t_getr 3 25 17 70),
  (70, t_ald 0 71),
  (71, t_geti 3 25 13 74),
  (74, t_ic 0 75),
  (75, t_iast 76),
  (76, t_ald 0 77),
  (77, t_dup 78),
  (78, t_geti 3 25 13 81),
  (81, t_ic 1 82),
  (82, t_add 83),
  (83, t_puti 3 25 13 86),
  (86, t_vret K bc bs)]
set_option maxRecDepth 100000 in
theorem S_X3_push {X : a_X} {K : aK} {l : Launch} {D : va_G} {G : aG} {N0 : Nat} (C : a_C X cX3_push none RX3) (Y : a_Y X l (a_rm 1 0 0) D G N0) (M : a_mq X K (a_rm 1 0 0).cells (a_rm 1 0 0).slots) : ∀ x ∈ P_X3_push K 0 0, a_Sd X x.1 x.2 := by
  unfold P_X3_push
  refine List.forall_mem_cons.mpr ⟨s_aldn C dX3_push_0 rfl, ?_⟩
  refine List.forall_mem_cons.mpr ⟨s_geti C rfl in_X3 (by decide) lk_X3_74 rfl dX3_push_1, ?_⟩
  refine List.forall_mem_cons.mpr ⟨s_bi C dX3_push_4 (by decide), ?_⟩
  refine List.forall_mem_cons.mpr ⟨s_icmp_ne C dX3_push_6 (by decide), ?_⟩
  refine List.forall_mem_cons.mpr ⟨s_aldn C dX3_push_9 rfl, ?_⟩
  refine List.forall_mem_cons.mpr ⟨s_ic C dX3_push_10 (by decide), ?_⟩
  refine List.forall_mem_cons.mpr ⟨s_puti C tyX3 tyX3_ok nmX3 rfl in_X3 (by decide) lk_X3_77 rfl (Or.inl rfl) rfl dX3_push_11, ?_⟩
  refine List.forall_mem_cons.mpr ⟨s_vret C M dX3_push_14, ?_⟩
  refine List.forall_mem_cons.mpr ⟨s_aldn C dX3_push_15 rfl, ?_⟩
  refine List.forall_mem_cons.mpr ⟨s_dup C dX3_push_16, ?_⟩
  refine List.forall_mem_cons.mpr ⟨s_geti C rfl in_X3 (by decide) lk_X3_74 rfl dX3_push_17, ?_⟩
  refine List.forall_mem_cons.mpr ⟨s_ic C dX3_push_20 (by decide), ?_⟩
  refine List.forall_mem_cons.mpr ⟨s_add C dX3_push_21, ?_⟩
  refine List.forall_mem_cons.mpr ⟨s_puti C tyX3 tyX3_ok nmX3 rfl in_X3 (by decide) lk_X3_74 rfl (Or.inl rfl) rfl dX3_push_22, ?_⟩
  refine List.forall_mem_cons.mpr ⟨s_ildn C dX3_push_25 rfl, ?_⟩
  refine List.forall_mem_cons.mpr ⟨s_ic C dX3_push_26 (by decide), ?_⟩
  refine List.forall_mem_cons.mpr ⟨s_icmp_ne C dX3_push_27 (by decide), ?_⟩
  refine List.forall_mem_cons.mpr ⟨s_aldn C dX3_push_30 rfl, ?_⟩
  refine List.forall_mem_cons.mpr ⟨s_ic C dX3_push_31 (by decide), ?_⟩
  refine List.forall_mem_cons.mpr ⟨s_puti C tyX3 tyX3_ok nmX3 rfl in_X3 (by decide) lk_X3_77 rfl (Or.inl rfl) rfl dX3_push_32, ?_⟩
  refine List.forall_mem_cons.mpr ⟨s_vret C M dX3_push_35, ?_⟩
  refine List.forall_mem_cons.mpr ⟨s_aldn C dX3_push_36 rfl, ?_⟩
  refine List.forall_mem_cons.mpr ⟨s_getr C rfl in_X3 (by decide) lk_X3_37 rfl dX3_push_37, ?_⟩
  refine List.forall_mem_cons.mpr ⟨s_aldn C dX3_push_40 rfl, ?_⟩
  refine List.forall_mem_cons.mpr ⟨s_geti C rfl in_X3 (by decide) lk_X3_80 rfl dX3_push_41, ?_⟩
  refine List.forall_mem_cons.mpr ⟨s_ildn C dX3_push_44 rfl, ?_⟩
  refine List.forall_mem_cons.mpr ⟨s_iast C dX3_push_45, ?_⟩
  refine List.forall_mem_cons.mpr ⟨s_aldn C dX3_push_46 rfl, ?_⟩
  refine List.forall_mem_cons.mpr ⟨s_getr C rfl in_X3 (by decide) lk_X3_40 rfl dX3_push_47, ?_⟩
  refine List.forall_mem_cons.mpr ⟨s_aldn C dX3_push_50 rfl, ?_⟩
  refine List.forall_mem_cons.mpr ⟨s_geti C rfl in_X3 (by decide) lk_X3_80 rfl dX3_push_51, ?_⟩
  refine List.forall_mem_cons.mpr ⟨s_ildn C dX3_push_54 rfl, ?_⟩
  refine List.forall_mem_cons.mpr ⟨s_iast C dX3_push_55, ?_⟩
  refine List.forall_mem_cons.mpr ⟨s_aldn C dX3_push_56 rfl, ?_⟩
  refine List.forall_mem_cons.mpr ⟨s_getr C rfl in_X3 (by decide) lk_X3_43 rfl dX3_push_57, ?_⟩
  refine List.forall_mem_cons.mpr ⟨s_aldn C dX3_push_60 rfl, ?_⟩
  refine List.forall_mem_cons.mpr ⟨s_geti C rfl in_X3 (by decide) lk_X3_80 rfl dX3_push_61, ?_⟩
  refine List.forall_mem_cons.mpr ⟨s_ildn C dX3_push_64 rfl, ?_⟩
  refine List.forall_mem_cons.mpr ⟨s_iast C dX3_push_65, ?_⟩
  refine List.forall_mem_cons.mpr ⟨s_aldn C dX3_push_66 rfl, ?_⟩
  refine List.forall_mem_cons.mpr ⟨s_getr C rfl in_X3 (by decide) lk_X3_46 rfl dX3_push_67, ?_⟩
  refine List.forall_mem_cons.mpr ⟨s_aldn C dX3_push_70 rfl, ?_⟩
  refine List.forall_mem_cons.mpr ⟨s_geti C rfl in_X3 (by decide) lk_X3_80 rfl dX3_push_71, ?_⟩
  refine List.forall_mem_cons.mpr ⟨s_ic C dX3_push_74 (by decide), ?_⟩
  refine List.forall_mem_cons.mpr ⟨s_iast C dX3_push_75, ?_⟩
  refine List.forall_mem_cons.mpr ⟨s_aldn C dX3_push_76 rfl, ?_⟩
  refine List.forall_mem_cons.mpr ⟨s_dup C dX3_push_77, ?_⟩
  refine List.forall_mem_cons.mpr ⟨s_geti C rfl in_X3 (by decide) lk_X3_80 rfl dX3_push_78, ?_⟩
  refine List.forall_mem_cons.mpr ⟨s_ic C dX3_push_81 (by decide), ?_⟩
  refine List.forall_mem_cons.mpr ⟨s_add C dX3_push_82, ?_⟩
  refine List.forall_mem_cons.mpr ⟨s_puti C tyX3 tyX3_ok nmX3 rfl in_X3 (by decide) lk_X3_80 rfl (Or.inl rfl) rfl dX3_push_83, ?_⟩
  refine List.forall_mem_cons.mpr ⟨s_vret C M dX3_push_86, ?_⟩
  exact fun _ h => absurd h List.not_mem_nil
theorem con_X3_push {l : Launch} {D : va_G} {G : aG} {N0 : Nat} : a_Con l D G N0 yX3_push cX3_push 4 none (a_rm 1 0 0) sp_X3_push := by
  refine a_con (by decide) (fun as σ K h => by obtain ⟨I, F, B, c, x, y, rfl, rfl, -⟩ := h; exact Nat.le_refl _) ?_
  intro X as σ K h C Y M _
  obtain ⟨I, F, B, c, x, y, rfl, rfl, hv, hK⟩ := h
  refine a_wps (S_X3_push C Y M) (inv := a_ni) a_nih 80 _ _ _ _ _ _ ?_
  refine ⟨fun h1 => ?_, fun h1 => ⟨fun h2 => ?_, fun h2 => ?_⟩⟩
  · rw [show m_push I c x y = _ from if_pos h1] at hK
    exact hK
  · rw [show m_push I c x y = _ by unfold m_push; rw [if_neg h1, if_pos h2]] at hK
    exact hK
  · rw [show m_push I c x y = _ by unfold m_push; rw [if_neg h1, if_neg h2]] at hK
    have hv := hv h1 h2
    exact ⟨hv, hv, hv, hv, hK⟩

