/-! ===== the cloth; dye, name and the looks at the cloth ===== -/
theorem l_iffq {v : Int32} {n : Nat} (hn : n ≤ 500) (hv : ¬ v < 0) : (nI n ≤ v ↔ nI n - 1 < v) := by
  obtain ⟨j, hj, rfl⟩ := nI_of hv
  cases n with
  | zero =>
    have e : nI 0 - 1 = -1 := by decide
    rw [e]
    exact ⟨fun _ => by rw [Int32.lt_iff_toInt_lt, nI_toInt hj, show (-1 : Int32).toInt = -1 from rfl]; omega, fun _ => nI_le (Nat.zero_le _) hj⟩
  | succ n =>
    rw [nI_pred]
    exact l_iff3 (nI j) n (by omega)
section LX
variable {l : Launch} {D : va_G} {G : aG} {N0 : Nat}
def sp_X0_begin : aP := fun as σ K => ∃ I F B w, σ = a_mk I F B ∧ as = [.inr (some 4), .inl w] ∧ K none (a_mk (a_w (a_w I 4 1 0) 4 2 w) F B)
theorem rc_X0_begin : ∀ as σ K, sp_X0_begin as σ K → ∃ h As, as = .inr (some h) :: As ∧ a_is σ h 0 3 = true := by
  rintro as σ K ⟨I, F, B, w, rfl, rfl, -⟩
  exact ⟨4, _, rfl, rfl⟩
def P_X0_begin (K : aK) (bc bs : Nat) : List (Nat × aT) := [(0, t_ald 0 1),
  (1, t_ic 0 2),
  (2, t_puti 0 3 1 5),
  (5, t_ald 0 6),
  (6, t_ild 1 7),
  (7, t_puti 0 3 2 10),
  (10, t_vret K bc bs)]
set_option maxRecDepth 100000 in
theorem S_X0_begin {X : a_X} {K : aK} {l : Launch} {D : va_G} {G : aG} {N0 : Nat} (C : a_C X cX0_begin none RX0) (Y : a_Y X l (a_rm 1 0 0) D G N0) (M : a_mq X K (a_rm 1 0 0).cells (a_rm 1 0 0).slots) : ∀ x ∈ P_X0_begin K 0 0, a_Sd X x.1 x.2 := by
  unfold P_X0_begin
  refine List.forall_mem_cons.mpr ⟨s_aldn C dX0_begin_0 rfl, ?_⟩
  refine List.forall_mem_cons.mpr ⟨s_ic C dX0_begin_1 (by decide), ?_⟩
  refine List.forall_mem_cons.mpr ⟨s_puti C tyX0 tyX0_ok nmX0 rfl in_X0 (by decide) lk_X0_15 rfl (Or.inl rfl) rfl dX0_begin_2, ?_⟩
  refine List.forall_mem_cons.mpr ⟨s_aldn C dX0_begin_5 rfl, ?_⟩
  refine List.forall_mem_cons.mpr ⟨s_ildn C dX0_begin_6 rfl, ?_⟩
  refine List.forall_mem_cons.mpr ⟨s_puti C tyX0 tyX0_ok nmX0 rfl in_X0 (by decide) lk_X0_19 rfl (Or.inl rfl) rfl dX0_begin_7, ?_⟩
  refine List.forall_mem_cons.mpr ⟨s_vret C M dX0_begin_10, ?_⟩
  exact fun _ h => absurd h List.not_mem_nil
theorem con_X0_begin : a_Con l D G N0 yX0_begin cX0_begin 2 none (a_rm 1 0 0) sp_X0_begin := by
  refine a_con (by decide) (fun as σ K h => by obtain ⟨I, F, B, w, rfl, rfl, -⟩ := h; exact Nat.le_refl _) ?_
  intro X as σ K h C Y M _
  obtain ⟨I, F, B, w, rfl, rfl, hK⟩ := h
  exact a_wps (S_X0_begin C Y M) (inv := a_ni) a_nih 20 _ _ _ _ _ _ hK
def sp_X0_add : aP := fun as σ K => ∃ I F B c k, σ = a_mk I F B ∧ as = [.inr (some 4), .inl c] ∧ I 4 1 = nI k ∧ k < 144 ∧ K none (a_mk (a_w (a_w I 5 k c) 4 1 (nI (k + 1))) F B)
theorem rc_X0_add : ∀ as σ K, sp_X0_add as σ K → ∃ h As, as = .inr (some h) :: As ∧ a_is σ h 0 3 = true := by
  rintro as σ K ⟨I, F, B, w, k, rfl, rfl, -⟩
  exact ⟨4, _, rfl, rfl⟩
def P_X0_add (K : aK) (bc bs : Nat) : List (Nat × aT) := [(0, t_ald 0 1),
  (1, t_geti 0 3 1 4),
  (4, t_ald 0 5),
  (5, t_getr 0 3 0 8),
  (8, t_alen 9),
  (9, t_ifc (fun x y => y ≤ x) 32 12),
  (12, t_ald 0 13),
  (13, t_getr 0 3 0 16),
  (16, t_ald 0 17),
  (17, t_geti 0 3 1 20),
  (20, t_ild 1 21),
  (21, t_iast 22),
  (22, t_ald 0 23),
  (23, t_dup 24),
  (24, t_geti 0 3 1 27),
  (27, t_ic 1 28),
  (28, t_add 29),
  (29, t_puti 0 3 1 32),
  (32, t_vret K bc bs)]
set_option maxRecDepth 100000 in
theorem S_X0_add {X : a_X} {K : aK} {l : Launch} {D : va_G} {G : aG} {N0 : Nat} (C : a_C X cX0_add none RX0) (Y : a_Y X l (a_rm 1 0 0) D G N0) (M : a_mq X K (a_rm 1 0 0).cells (a_rm 1 0 0).slots) : ∀ x ∈ P_X0_add K 0 0, a_Sd X x.1 x.2 := by
  unfold P_X0_add
  refine List.forall_mem_cons.mpr ⟨s_aldn C dX0_add_0 rfl, ?_⟩
  refine List.forall_mem_cons.mpr ⟨s_geti C rfl in_X0 (by decide) lk_X0_15 rfl dX0_add_1, ?_⟩
  refine List.forall_mem_cons.mpr ⟨s_aldn C dX0_add_4 rfl, ?_⟩
  refine List.forall_mem_cons.mpr ⟨s_getr C rfl in_X0 (by decide) lk_X0_9 rfl dX0_add_5, ?_⟩
  refine List.forall_mem_cons.mpr ⟨s_alen C dX0_add_8, ?_⟩
  refine List.forall_mem_cons.mpr ⟨s_icmp_ge C dX0_add_9 (by decide), ?_⟩
  refine List.forall_mem_cons.mpr ⟨s_aldn C dX0_add_12 rfl, ?_⟩
  refine List.forall_mem_cons.mpr ⟨s_getr C rfl in_X0 (by decide) lk_X0_9 rfl dX0_add_13, ?_⟩
  refine List.forall_mem_cons.mpr ⟨s_aldn C dX0_add_16 rfl, ?_⟩
  refine List.forall_mem_cons.mpr ⟨s_geti C rfl in_X0 (by decide) lk_X0_15 rfl dX0_add_17, ?_⟩
  refine List.forall_mem_cons.mpr ⟨s_ildn C dX0_add_20 rfl, ?_⟩
  refine List.forall_mem_cons.mpr ⟨s_iast C dX0_add_21, ?_⟩
  refine List.forall_mem_cons.mpr ⟨s_aldn C dX0_add_22 rfl, ?_⟩
  refine List.forall_mem_cons.mpr ⟨s_dup C dX0_add_23, ?_⟩
  refine List.forall_mem_cons.mpr ⟨s_geti C rfl in_X0 (by decide) lk_X0_15 rfl dX0_add_24, ?_⟩
  refine List.forall_mem_cons.mpr ⟨s_ic C dX0_add_27 (by decide), ?_⟩
  refine List.forall_mem_cons.mpr ⟨s_add C dX0_add_28, ?_⟩
  refine List.forall_mem_cons.mpr ⟨s_puti C tyX0 tyX0_ok nmX0 rfl in_X0 (by decide) lk_X0_15 rfl (Or.inl rfl) rfl dX0_add_29, ?_⟩
  refine List.forall_mem_cons.mpr ⟨s_vret C M dX0_add_32, ?_⟩
  exact fun _ h => absurd h List.not_mem_nil
theorem con_X0_add : a_Con l D G N0 yX0_add cX0_add 2 none (a_rm 1 0 0) sp_X0_add := by
  refine a_con (by decide) (fun as σ K h => by obtain ⟨I, F, B, w, k, rfl, rfl, -⟩ := h; exact Nat.le_refl _) ?_
  intro X as σ K h C Y M _
  obtain ⟨I, F, B, c, k, rfl, rfl, hk, hlt, hK⟩ := h
  have hn : ¬ Int32.ofNat 144 ≤ I 4 1 := by rw [hk]; exact nI_ge hlt (by decide)
  have hv : vp_in (I 4 1) 144 := by rw [hk]; exact vp_in_nI hlt (by decide)
  have e : a_w (a_w I 5 k c) 4 1 (nI (k + 1)) = a_w (a_w I 5 (I 4 1).toNatClampNeg c) 4 1 (I 4 1 + 1) := by rw [hk, nI_1, show (nI k).toNatClampNeg = k from nI_clamp (by omega)]
  rw [e] at hK
  refine a_wps (S_X0_add C Y M) (inv := a_ni) a_nih 30 _ _ _ _ _ _ ?_
  exact ⟨fun w => absurd w hn, fun _ => ⟨hv, hK⟩⟩
def sp_X0_colourAt : aP := fun as σ K => ∃ I F B sz i, σ = a_mk I F B ∧ as = [.inr (some 4), .inl i] ∧ I 4 1 = nI sz ∧ sz ≤ 144 ∧ K (some (.inl (if m_in i 0 (nI sz - 1) = 0 then 0 else I 5 i.toNatClampNeg))) σ
theorem rc_X0_colourAt : ∀ as σ K, sp_X0_colourAt as σ K → ∃ h As, as = .inr (some h) :: As ∧ a_is σ h 0 3 = true := by
  rintro as σ K ⟨I, F, B, w, k, rfl, rfl, -⟩
  exact ⟨4, _, rfl, rfl⟩
def P_X0_colourAt (K : aK) (bc bs : Nat) : List (Nat × aT) := [(0, t_ild 1 1),
  (1, t_if (fun x => x < 0) 21 4),
  (4, t_ild 1 5),
  (5, t_ald 0 6),
  (6, t_geti 0 3 1 9),
  (9, t_ifc (fun x y => y ≤ x) 21 12),
  (12, t_ald 0 13),
  (13, t_getr 0 3 0 16),
  (16, t_ild 1 17),
  (17, t_iald 18),
  (18, t_goto 22),
  (21, t_ic 0 22),
  (22, t_iret K bc bs)]
set_option maxRecDepth 100000 in
theorem S_X0_colourAt {X : a_X} {K : aK} {l : Launch} {D : va_G} {G : aG} {N0 : Nat} (C : a_C X cX0_colourAt (some .int) RX0) (Y : a_Y X l (a_rm 1 0 0) D G N0) (M : a_mq X K (a_rm 1 0 0).cells (a_rm 1 0 0).slots) : ∀ x ∈ P_X0_colourAt K 0 0, a_Sd X x.1 x.2 := by
  unfold P_X0_colourAt
  refine List.forall_mem_cons.mpr ⟨s_ildn C dX0_colourAt_0 rfl, ?_⟩
  refine List.forall_mem_cons.mpr ⟨s_if_lt C dX0_colourAt_1 (by decide), ?_⟩
  refine List.forall_mem_cons.mpr ⟨s_ildn C dX0_colourAt_4 rfl, ?_⟩
  refine List.forall_mem_cons.mpr ⟨s_aldn C dX0_colourAt_5 rfl, ?_⟩
  refine List.forall_mem_cons.mpr ⟨s_geti C rfl in_X0 (by decide) lk_X0_15 rfl dX0_colourAt_6, ?_⟩
  refine List.forall_mem_cons.mpr ⟨s_icmp_ge C dX0_colourAt_9 (by decide), ?_⟩
  refine List.forall_mem_cons.mpr ⟨s_aldn C dX0_colourAt_12 rfl, ?_⟩
  refine List.forall_mem_cons.mpr ⟨s_getr C rfl in_X0 (by decide) lk_X0_9 rfl dX0_colourAt_13, ?_⟩
  refine List.forall_mem_cons.mpr ⟨s_ildn C dX0_colourAt_16 rfl, ?_⟩
  refine List.forall_mem_cons.mpr ⟨s_iald C dX0_colourAt_17, ?_⟩
  refine List.forall_mem_cons.mpr ⟨s_goto C dX0_colourAt_18 (by decide), ?_⟩
  refine List.forall_mem_cons.mpr ⟨s_ic C dX0_colourAt_21 (by decide), ?_⟩
  refine List.forall_mem_cons.mpr ⟨s_iret C M dX0_colourAt_22, ?_⟩
  exact fun _ h => absurd h List.not_mem_nil
theorem con_X0_colourAt : a_Con l D G N0 yX0_colourAt cX0_colourAt 2 (some .int) (a_rm 1 0 0) sp_X0_colourAt := by
  refine a_con (by decide) (fun as σ K h => by obtain ⟨I, F, B, w, k, rfl, rfl, -⟩ := h; exact Nat.le_refl _) ?_
  intro X as σ K h C Y M _
  obtain ⟨I, F, B, sz, i, rfl, rfl, hsz, hle, hK⟩ := h
  refine a_wps (S_X0_colourAt C Y M) (inv := a_ni) a_nih 30 _ _ _ _ _ _ ?_
  refine ⟨fun h1 => ?_, fun h1 => ⟨fun h2 => ?_, fun h2 => ?_⟩⟩
  · rw [if_pos (show m_in i 0 (nI sz - 1) = 0 from if_pos h1)] at hK; exact hK
  · have h2 : I 4 1 ≤ i := h2
    rw [hsz] at h2
    rw [if_pos (show m_in i 0 (nI sz - 1) = 0 by unfold m_in; rw [if_neg h1, if_pos ((l_iffq (by omega) h1).mp h2)])] at hK
    exact hK
  · have h2 : ¬ I 4 1 ≤ i := h2
    rw [hsz] at h2
    rw [if_neg (show ¬ m_in i 0 (nI sz - 1) = 0 by unfold m_in; rw [if_neg h1, if_neg (fun w => h2 ((l_iffq (by omega) h1).mpr w))]; decide)] at hK
    obtain ⟨j, hj, rfl⟩ := nI_of h1
    have hjs : j < sz := Nat.not_le.mp (fun w => h2 (nI_le w hj))
    have hv : vp_in (nI j) 144 := vp_in_nI (by omega) (by decide)
    exact ⟨hv, hK⟩
def sp_X0_changesInRows : aP := fun as σ K => ∃ I F B sz wd, σ = a_mk I F B ∧ as = [.inr (some 4)] ∧ I 4 1 = nI sz ∧ I 4 2 = nI wd ∧ sz ≤ 144 ∧ wd ≤ 12 ∧ (0 < sz → 0 < wd) ∧ K (some (.inl (nI (c_g (I 5) wd sz)))) σ
theorem rc_X0_changesInRows : ∀ as σ K, sp_X0_changesInRows as σ K → ∃ h As, as = .inr (some h) :: As ∧ a_is σ h 0 3 = true := by
  rintro as σ K ⟨I, F, B, w, k, rfl, rfl, -⟩
  exact ⟨4, _, rfl, rfl⟩
def P_X0_changesInRows (K : aK) (bc bs : Nat) : List (Nat × aT) := [(0, t_ald 0 1),
  (1, t_geti 0 3 2 4),
  (4, t_if (fun x => x = 0) 7 9),
  (7, t_ic 0 8),
  (8, t_iret K bc bs),
  (9, t_ic 0 10),
  (10, t_ist 1 11),
  (11, t_ic 1 12),
  (12, t_ist 2 13),
  (13, t_ild 2 14),
  (14, t_ald 0 15),
  (15, t_geti 0 3 1 18),
  (18, t_ifc (fun x y => y ≤ x) 56 21),
  (21, t_ild 2 22),
  (22, t_ald 0 23),
  (23, t_geti 0 3 2 26),
  (26, t_rem 27),
  (27, t_if (fun x => x = 0) 50 30),
  (30, t_ald 0 31),
  (31, t_getr 0 3 0 34),
  (34, t_ild 2 35),
  (35, t_iald 36),
  (36, t_ald 0 37),
  (37, t_getr 0 3 0 40),
  (40, t_ild 2 41),
  (41, t_ic 1 42),
  (42, t_sub 43),
  (43, t_iald 44),
  (44, t_ifc (fun x y => x = y) 50 47),
  (47, t_iinc 1 1 50),
  (50, t_iinc 2 1 53),
  (53, t_goto 13),
  (56, t_ild 1 57),
  (57, t_iret K bc bs)]
set_option maxRecDepth 100000 in
theorem S_X0_changesInRows {X : a_X} {K : aK} {l : Launch} {D : va_G} {G : aG} {N0 : Nat} (C : a_C X cX0_changesInRows (some .int) RX0) (Y : a_Y X l (a_rm 1 0 0) D G N0) (M : a_mq X K (a_rm 1 0 0).cells (a_rm 1 0 0).slots) : ∀ x ∈ P_X0_changesInRows K 0 0, a_Sd X x.1 x.2 := by
  unfold P_X0_changesInRows
  refine List.forall_mem_cons.mpr ⟨s_aldn C dX0_changesInRows_0 rfl, ?_⟩
  refine List.forall_mem_cons.mpr ⟨s_geti C rfl in_X0 (by decide) lk_X0_19 rfl dX0_changesInRows_1, ?_⟩
  refine List.forall_mem_cons.mpr ⟨s_if_ne C dX0_changesInRows_4 (by decide), ?_⟩
  refine List.forall_mem_cons.mpr ⟨s_ic C dX0_changesInRows_7 (by decide), ?_⟩
  refine List.forall_mem_cons.mpr ⟨s_iret C M dX0_changesInRows_8, ?_⟩
  refine List.forall_mem_cons.mpr ⟨s_ic C dX0_changesInRows_9 (by decide), ?_⟩
  refine List.forall_mem_cons.mpr ⟨s_istn C dX0_changesInRows_10 rfl, ?_⟩
  refine List.forall_mem_cons.mpr ⟨s_ic C dX0_changesInRows_11 (by decide), ?_⟩
  refine List.forall_mem_cons.mpr ⟨s_istn C dX0_changesInRows_12 rfl, ?_⟩
  refine List.forall_mem_cons.mpr ⟨s_ildn C dX0_changesInRows_13 rfl, ?_⟩
  refine List.forall_mem_cons.mpr ⟨s_aldn C dX0_changesInRows_14 rfl, ?_⟩
  refine List.forall_mem_cons.mpr ⟨s_geti C rfl in_X0 (by decide) lk_X0_15 rfl dX0_changesInRows_15, ?_⟩
  refine List.forall_mem_cons.mpr ⟨s_icmp_ge C dX0_changesInRows_18 (by decide), ?_⟩
  refine List.forall_mem_cons.mpr ⟨s_ildn C dX0_changesInRows_21 rfl, ?_⟩
  refine List.forall_mem_cons.mpr ⟨s_aldn C dX0_changesInRows_22 rfl, ?_⟩
  refine List.forall_mem_cons.mpr ⟨s_geti C rfl in_X0 (by decide) lk_X0_19 rfl dX0_changesInRows_23, ?_⟩
  refine List.forall_mem_cons.mpr ⟨s_rem C dX0_changesInRows_26, ?_⟩
  refine List.forall_mem_cons.mpr ⟨s_if_eq C dX0_changesInRows_27 (by decide), ?_⟩
  refine List.forall_mem_cons.mpr ⟨s_aldn C dX0_changesInRows_30 rfl, ?_⟩
  refine List.forall_mem_cons.mpr ⟨s_getr C rfl in_X0 (by decide) lk_X0_9 rfl dX0_changesInRows_31, ?_⟩
  refine List.forall_mem_cons.mpr ⟨s_ildn C dX0_changesInRows_34 rfl, ?_⟩
  refine List.forall_mem_cons.mpr ⟨s_iald C dX0_changesInRows_35, ?_⟩
  refine List.forall_mem_cons.mpr ⟨s_aldn C dX0_changesInRows_36 rfl, ?_⟩
  refine List.forall_mem_cons.mpr ⟨s_getr C rfl in_X0 (by decide) lk_X0_9 rfl dX0_changesInRows_37, ?_⟩
  refine List.forall_mem_cons.mpr ⟨s_ildn C dX0_changesInRows_40 rfl, ?_⟩
  refine List.forall_mem_cons.mpr ⟨s_ic C dX0_changesInRows_41 (by decide), ?_⟩
  refine List.forall_mem_cons.mpr ⟨s_sub C dX0_changesInRows_42, ?_⟩
  refine List.forall_mem_cons.mpr ⟨s_iald C dX0_changesInRows_43, ?_⟩
  refine List.forall_mem_cons.mpr ⟨s_icmp_eq C dX0_changesInRows_44 (by decide), ?_⟩
  refine List.forall_mem_cons.mpr ⟨s_iinc C dX0_changesInRows_47 (by decide), ?_⟩
  refine List.forall_mem_cons.mpr ⟨s_iinc C dX0_changesInRows_50 (by decide), ?_⟩
  refine List.forall_mem_cons.mpr ⟨s_goto C dX0_changesInRows_53 (by decide), ?_⟩
  refine List.forall_mem_cons.mpr ⟨s_ildn C dX0_changesInRows_56 rfl, ?_⟩
  refine List.forall_mem_cons.mpr ⟨s_iret C M dX0_changesInRows_57, ?_⟩
  exact fun _ h => absurd h List.not_mem_nil
set_option maxRecDepth 20000 in
theorem con_X0_changesInRows : a_Con l D G N0 yX0_changesInRows cX0_changesInRows 3 (some .int) (a_rm 1 0 0) sp_X0_changesInRows := by
  refine a_con (by decide) (fun as σ K h => by obtain ⟨I, F, B, w, k, rfl, rfl, -⟩ := h; exact (by decide : 1 ≤ 3)) ?_
  intro X as σ K h C Y M _
  obtain ⟨I, F, B, sz, wd, rfl, rfl, hsz, hwd, hle, hw12, hw0, hK⟩ := h
  have hS := S_X0_changesInRows C Y M
  by_cases hwz : wd = 0
  · have hs0 : sz = 0 := by
      rcases Nat.eq_zero_or_pos sz with z | z
      · exact z
      · have := hw0 z; omega
    subst hs0
    subst hwz
    have hK : K (some (.inl (nI 0))) (a_mk I F B) := hK
    rw [nI_0] at hK
    refine a_wps hS (inv := a_iv X [13]) a_ivh 30 _ _ _ _ _ _ ?_
    exact ⟨fun _ => hK, fun w => absurd (show I 4 2 = 0 by rw [hwd]; exact nI_0) w⟩
  have hwp : 0 < wd := by omega
  have hwne : ¬ I 4 2 = 0 := by rw [hwd]; exact nI_ne0 hwp (by omega)
  have loop : ∀ m i, 1 ≤ i → (i + m = sz ∨ (sz = 0 ∧ i = 1 ∧ m = 0)) → a_J X 13 [some (.inr (some 4)), some (.inl (nI (c_g (I 5) wd i))), some (.inl (nI i))] [] (a_mk I F B) 0 0 := by
    intro m
    induction m with
    | zero =>
      intro i h1 hi
      have hge : I 4 1 ≤ nI i := by
        rw [hsz]
        exact nI_le (by omega) (by omega)
      have e : c_g (I 5) wd i = c_g (I 5) wd sz := by
        rcases hi with hi | ⟨hi, hi2, -⟩
        · rw [show i = sz by omega]
        · subst hi hi2
          show c_g (I 5) wd 0 + (if ¬ 0 % wd = 0 ∧ _ then 1 else 0) = _
          rw [if_neg (fun w => w.1 (Nat.zero_mod wd))]
          rfl
      rw [e]
      exact a_wp1 hS a_ivh (inv := a_iv X [13]) 40 13 _ rfl ⟨fun _ => hK, fun w => absurd hge w⟩
    | succ m ih =>
      intro i h1 hi
      have hi : i + (m + 1) = sz := by omega
      have hn : ¬ I 4 1 ≤ nI i := by rw [hsz]; exact nI_ge (by omega) (by omega)
      have hcl : (nI i).toNatClampNeg = i := nI_clamp (by omega)
      have hv : vp_in (nI i) 144 := vp_in_nI (by omega) (by decide)
      have erem : a_rem (nI i) (I 4 2) = nI (i % wd) := by rw [hwd]; exact a_remN (by omega) hwp (by omega)
      obtain ⟨i', rfl⟩ : ∃ i', i = i' + 1 := ⟨i - 1, by omega⟩
      have hcl2 : (nI (i' + 1) - 1).toNatClampNeg = i' := by rw [nI_pred]; exact nI_clamp (by omega)
      have ih := ih (i' + 1 + 1) (by omega) (Or.inl (by omega))
      refine a_wp1 hS a_ivh (inv := a_iv X [13]) 40 13 _ rfl ⟨fun w => absurd w hn, fun _ => ⟨hwne, fun h => ?_, fun h => ⟨hv, by show vp_in (nI (i' + 1) - 1) 144; rw [nI_pred]; exact vp_in_nI (by omega) (by decide), fun h2 => ?_, fun h2 => ?_⟩⟩⟩
      · have h : a_rem (nI (i' + 1)) (I 4 2) = 0 := h
        rw [erem] at h
        have hz : (i' + 1) % wd = 0 := (nI_eq (b := 0) (by have := Nat.mod_lt (i' + 1) hwp; omega) (by decide)).mp (h.trans nI_0.symm)
        rw [show c_g (I 5) wd (i' + 1 + 1) = c_g (I 5) wd (i' + 1) by show c_g (I 5) wd (i' + 1) + (if _ then _ else _) = _; rw [if_neg (fun w => w.1 hz)]; rfl, ← nI_1 (i' + 1)] at ih
        exact ih
      · have h2 : I 5 (nI (i' + 1)).toNatClampNeg = I 5 (nI (i' + 1) - 1).toNatClampNeg := h2
        rw [hcl, hcl2] at h2
        rw [show c_g (I 5) wd (i' + 1 + 1) = c_g (I 5) wd (i' + 1) by show c_g (I 5) wd (i' + 1) + (if _ then _ else _) = _; rw [if_neg (fun w => w.2 h2)]; rfl, ← nI_1 (i' + 1)] at ih
        exact ih
      · have h : ¬ a_rem (nI (i' + 1)) (I 4 2) = 0 := h
        rw [erem] at h
        have hz : ¬ (i' + 1) % wd = 0 := fun z => h (by rw [z]; exact nI_0)
        have h2 : ¬ I 5 (nI (i' + 1)).toNatClampNeg = I 5 (nI (i' + 1) - 1).toNatClampNeg := h2
        rw [hcl, hcl2] at h2
        rw [show c_g (I 5) wd (i' + 1 + 1) = c_g (I 5) wd (i' + 1) + 1 by show c_g (I 5) wd (i' + 1) + (if _ then _ else _) = _; rw [if_pos ⟨hz, h2⟩], ← nI_1 (i' + 1), ← nI_1 (c_g (I 5) wd (i' + 1))] at ih
        exact ih
  have h1 : a_J X 13 [some (.inr (some 4)), some (.inl (nI (c_g (I 5) wd 1))), some (.inl (nI 1))] [] (a_mk I F B) 0 0 := by
    rcases Nat.eq_zero_or_pos sz with z | z
    · exact loop 0 1 (by omega) (Or.inr ⟨z, rfl, rfl⟩)
    · exact loop (sz - 1) 1 (by omega) (Or.inl (by omega))
  have e1 : c_g (I 5) wd 1 = 0 := by
    show c_g (I 5) wd 0 + (if ¬ 0 % wd = 0 ∧ _ then 1 else 0) = _
    rw [if_neg (fun w => w.1 (Nat.zero_mod wd))]
    rfl
  rw [e1] at h1
  refine a_wps hS (inv := a_iv X [13]) a_ivh 30 _ _ _ _ _ _ ?_
  exact ⟨fun w => absurd w hwne, fun _ => h1⟩
theorem c_n_mono (C : Nat → Int32) (v : Int32) (i : Nat) : ∀ m, c_n C v i ≤ c_n C v (i + m)
  | 0 => Nat.le_refl _
  | m + 1 => Nat.le_trans (c_n_mono C v i m) (Nat.le_add_right _ _)
def sp_X0_timesFrom : aP := fun as σ K => ∃ I F B sz fi, σ = a_mk I F B ∧ as = [.inr (some 4), .inl (nI fi)] ∧ I 4 1 = nI sz ∧ sz ≤ 144 ∧ fi < sz ∧ K (some (.inl (nI (c_n (I 5) (I 5 fi) sz - c_n (I 5) (I 5 fi) fi)))) σ
theorem rc_X0_timesFrom : ∀ as σ K, sp_X0_timesFrom as σ K → ∃ h As, as = .inr (some h) :: As ∧ a_is σ h 0 3 = true := by
  rintro as σ K ⟨I, F, B, w, k, rfl, rfl, -⟩
  exact ⟨4, _, rfl, rfl⟩
def P_X0_timesFrom (K : aK) (bc bs : Nat) : List (Nat × aT) := [(0, t_ic 0 1),
  (1, t_ist 2 2),
  (2, t_ild 1 3),
  (3, t_ist 3 4),
  (4, t_ild 3 5),
  (5, t_ald 0 6),
  (6, t_geti 0 3 1 9),
  (9, t_ifc (fun x y => y ≤ x) 36 12),
  (12, t_ald 0 13),
  (13, t_getr 0 3 0 16),
  (16, t_ild 3 17),
  (17, t_iald 18),
  (18, t_ald 0 19),
  (19, t_getr 0 3 0 22),
  (22, t_ild 1 23),
  (23, t_iald 24),
  (24, t_ifc (fun x y => x = y) 27 30),
  (27, t_iinc 2 1 30),
  (30, t_iinc 3 1 33),
  (33, t_goto 4),
  (36, t_ild 2 37),
  (37, t_iret K bc bs)]
set_option maxRecDepth 100000 in
theorem S_X0_timesFrom {X : a_X} {K : aK} {l : Launch} {D : va_G} {G : aG} {N0 : Nat} (C : a_C X cX0_timesFrom (some .int) RX0) (Y : a_Y X l (a_rm 1 0 0) D G N0) (M : a_mq X K (a_rm 1 0 0).cells (a_rm 1 0 0).slots) : ∀ x ∈ P_X0_timesFrom K 0 0, a_Sd X x.1 x.2 := by
  unfold P_X0_timesFrom
  refine List.forall_mem_cons.mpr ⟨s_ic C dX0_timesFrom_0 (by decide), ?_⟩
  refine List.forall_mem_cons.mpr ⟨s_istn C dX0_timesFrom_1 rfl, ?_⟩
  refine List.forall_mem_cons.mpr ⟨s_ildn C dX0_timesFrom_2 rfl, ?_⟩
  refine List.forall_mem_cons.mpr ⟨s_istn C dX0_timesFrom_3 rfl, ?_⟩
  refine List.forall_mem_cons.mpr ⟨s_ildn C dX0_timesFrom_4 rfl, ?_⟩
  refine List.forall_mem_cons.mpr ⟨s_aldn C dX0_timesFrom_5 rfl, ?_⟩
  refine List.forall_mem_cons.mpr ⟨s_geti C rfl in_X0 (by decide) lk_X0_15 rfl dX0_timesFrom_6, ?_⟩
  refine List.forall_mem_cons.mpr ⟨s_icmp_ge C dX0_timesFrom_9 (by decide), ?_⟩
  refine List.forall_mem_cons.mpr ⟨s_aldn C dX0_timesFrom_12 rfl, ?_⟩
  refine List.forall_mem_cons.mpr ⟨s_getr C rfl in_X0 (by decide) lk_X0_9 rfl dX0_timesFrom_13, ?_⟩
  refine List.forall_mem_cons.mpr ⟨s_ildn C dX0_timesFrom_16 rfl, ?_⟩
  refine List.forall_mem_cons.mpr ⟨s_iald C dX0_timesFrom_17, ?_⟩
  refine List.forall_mem_cons.mpr ⟨s_aldn C dX0_timesFrom_18 rfl, ?_⟩
  refine List.forall_mem_cons.mpr ⟨s_getr C rfl in_X0 (by decide) lk_X0_9 rfl dX0_timesFrom_19, ?_⟩
  refine List.forall_mem_cons.mpr ⟨s_ildn C dX0_timesFrom_22 rfl, ?_⟩
  refine List.forall_mem_cons.mpr ⟨s_iald C dX0_timesFrom_23, ?_⟩
  refine List.forall_mem_cons.mpr ⟨s_icmp_ne C dX0_timesFrom_24 (by decide), ?_⟩
  refine List.forall_mem_cons.mpr ⟨s_iinc C dX0_timesFrom_27 (by decide), ?_⟩
  refine List.forall_mem_cons.mpr ⟨s_iinc C dX0_timesFrom_30 (by decide), ?_⟩
  refine List.forall_mem_cons.mpr ⟨s_goto C dX0_timesFrom_33 (by decide), ?_⟩
  refine List.forall_mem_cons.mpr ⟨s_ildn C dX0_timesFrom_36 rfl, ?_⟩
  refine List.forall_mem_cons.mpr ⟨s_iret C M dX0_timesFrom_37, ?_⟩
  exact fun _ h => absurd h List.not_mem_nil
set_option maxRecDepth 20000 in
theorem con_X0_timesFrom : a_Con l D G N0 yX0_timesFrom cX0_timesFrom 4 (some .int) (a_rm 1 0 0) sp_X0_timesFrom := by
  refine a_con (by decide) (fun as σ K h => by obtain ⟨I, F, B, w, k, rfl, rfl, -⟩ := h; exact (by decide : 2 ≤ 4)) ?_
  intro X as σ K h C Y M _
  obtain ⟨I, F, B, sz, fi, rfl, rfl, hsz, hle, hfi, hK⟩ := h
  have hS := S_X0_timesFrom C Y M
  have hclf : (nI fi).toNatClampNeg = fi := nI_clamp (by omega)
  have hvf : vp_in (nI fi) 144 := vp_in_nI (by omega) (by decide)
  have loop : ∀ m i, fi ≤ i → i + m = sz → a_J X 4 [some (.inr (some 4)), some (.inl (nI fi)), some (.inl (nI (c_n (I 5) (I 5 fi) i - c_n (I 5) (I 5 fi) fi))), some (.inl (nI i))] [] (a_mk I F B) 0 0 := by
    intro m
    induction m with
    | zero =>
      intro i h0 hi
      have hi : i = sz := by omega
      subst hi
      exact a_wp1 hS a_ivh (inv := a_iv X [4]) 40 4 _ rfl ⟨fun _ => hK, fun w => absurd (show I 4 1 ≤ nI i by rw [hsz]; exact Int32.le_refl _) w⟩
    | succ m ih =>
      intro i h0 hi
      have hn : ¬ I 4 1 ≤ nI i := by rw [hsz]; exact nI_ge (by omega) (by omega)
      have hcl : (nI i).toNatClampNeg = i := nI_clamp (by omega)
      have hv : vp_in (nI i) 144 := vp_in_nI (by omega) (by decide)
      have hmo : c_n (I 5) (I 5 fi) fi ≤ c_n (I 5) (I 5 fi) i := by
        have := c_n_mono (I 5) (I 5 fi) fi (i - fi)
        rw [show fi + (i - fi) = i by omega] at this
        exact this
      have ih := ih (i + 1) (by omega) (by omega)
      refine a_wp1 hS a_ivh (inv := a_iv X [4]) 40 4 _ rfl ⟨fun w => absurd w hn, fun _ => ⟨hv, hvf, fun h => ?_, fun h => ?_⟩⟩
      · have h : I 5 (nI i).toNatClampNeg = I 5 (nI fi).toNatClampNeg := h
        rw [hcl, hclf] at h
        rw [show c_n (I 5) (I 5 fi) (i + 1) - c_n (I 5) (I 5 fi) fi = (c_n (I 5) (I 5 fi) i - c_n (I 5) (I 5 fi) fi) + 1 by show c_n (I 5) (I 5 fi) i + (if _ then _ else _) - _ = _; rw [if_pos h]; omega, ← nI_1 i, ← nI_1] at ih
        exact ih
      · have h : ¬ I 5 (nI i).toNatClampNeg = I 5 (nI fi).toNatClampNeg := h
        rw [hcl, hclf] at h
        rw [show c_n (I 5) (I 5 fi) (i + 1) - c_n (I 5) (I 5 fi) fi = c_n (I 5) (I 5 fi) i - c_n (I 5) (I 5 fi) fi by show c_n (I 5) (I 5 fi) i + (if _ then _ else _) - _ = _; rw [if_neg h]; omega, ← nI_1 i] at ih
        exact ih
  have h1 := loop (sz - fi) fi (Nat.le_refl _) (by omega)
  rw [Nat.sub_self] at h1
  exact a_wps hS (inv := a_iv X [4]) a_ivh 20 _ _ _ _ _ _ h1
def l_b (C : Nat → Int32) (sz : Nat) : Nat → Int32 × Nat
  | 0 => (0, 0)
  | k + 1 => if c_n C (C k) sz - c_n C (C k) k ≤ (l_b C sz k).2 then l_b C sz k else (C k, c_n C (C k) sz - c_n C (C k) k)
theorem c_n_zero {C : Nat → Int32} {v : Int32} : ∀ {k : Nat}, (∀ j, j < k → ¬ C j = v) → c_n C v k = 0
  | 0, _ => rfl
  | k + 1, h => by
    show c_n C v k + (if C k = v then 1 else 0) = 0
    rw [c_n_zero (fun j hj => h j (by omega)), if_neg (h k (by omega))]
theorem c_b_ge (C : Nat → Int32) (sz : Nat) : ∀ k j, j < k → c_n C (C j) sz ≤ (c_b C sz k).2
  | 0, j, h => by omega
  | k + 1, j, h => by
    show c_n C (C j) sz ≤ (if c_n C (C k) sz ≤ (c_b C sz k).2 then c_b C sz k else (C k, c_n C (C k) sz)).2
    by_cases e : c_n C (C k) sz ≤ (c_b C sz k).2
    · rw [if_pos e]
      rcases Nat.lt_or_ge j k with z | z
      · exact c_b_ge C sz k j z
      · rw [show j = k by omega]; exact e
    · rw [if_neg e]
      rcases Nat.lt_or_ge j k with z | z
      · have := c_b_ge C sz k j z
        show _ ≤ c_n C (C k) sz
        omega
      · rw [show j = k by omega]; exact Nat.le_refl _
theorem l_b_eq (C : Nat → Int32) (sz : Nat) : ∀ k, l_b C sz k = c_b C sz k
  | 0 => rfl
  | k + 1 => by
    show (if c_n C (C k) sz - c_n C (C k) k ≤ (l_b C sz k).2 then l_b C sz k else (C k, c_n C (C k) sz - c_n C (C k) k)) = (if c_n C (C k) sz ≤ (c_b C sz k).2 then c_b C sz k else (C k, c_n C (C k) sz))
    rw [l_b_eq C sz k]
    by_cases e : ∃ j, j < k ∧ C j = C k
    · obtain ⟨j, hj, ej⟩ := e
      have := c_b_ge C sz k j hj
      rw [ej] at this
      rw [if_pos this, if_pos (by omega)]
    · rw [c_n_zero (fun j hj w => e ⟨j, hj, w⟩), Nat.sub_zero]
def sp_X0_mostOften : aP := fun as σ K => ∃ I F B sz, σ = a_mk I F B ∧ as = [.inr (some 4)] ∧ I 4 1 = nI sz ∧ sz ≤ 144 ∧ K (some (.inl (c_b (I 5) sz sz).1)) σ
theorem rc_X0_mostOften : ∀ as σ K, sp_X0_mostOften as σ K → ∃ h As, as = .inr (some h) :: As ∧ a_is σ h 0 3 = true := by
  rintro as σ K ⟨I, F, B, sz, rfl, rfl, -⟩
  exact ⟨4, _, rfl, rfl⟩
def P_X0_mostOften (K : aK) (bc bs : Nat) : List (Nat × aT) := [(0, t_ic 0 1),
  (1, t_ist 1 2),
  (2, t_ic 0 3),
  (3, t_ist 2 4),
  (4, t_ic 0 5),
  (5, t_ist 3 6),
  (6, t_ild 3 7),
  (7, t_ald 0 8),
  (8, t_geti 0 3 1 11),
  (11, t_ifc (fun x y => y ≤ x) 43 14),
  (14, t_ald 0 15),
  (15, t_ild 3 16),
  (16, t_call 2 0 0 bc bs sp_X0_timesFrom 19),
  (19, t_ist 4 21),
  (21, t_ild 4 23),
  (23, t_ild 2 24),
  (24, t_ifc (fun x y => x ≤ y) 37 27),
  (27, t_ald 0 28),
  (28, t_getr 0 3 0 31),
  (31, t_ild 3 32),
  (32, t_iald 33),
  (33, t_ist 1 34),
  (34, t_ild 4 36),
  (36, t_ist 2 37),
  (37, t_iinc 3 1 40),
  (40, t_goto 6),
  (43, t_ild 1 44),
  (44, t_iret K bc bs)]
set_option maxRecDepth 100000 in
theorem S_X0_mostOften {X : a_X} {K : aK} {l : Launch} {D : va_G} {G : aG} {N0 : Nat} (C : a_C X cX0_mostOften (some .int) RX0) (Y : a_Y X l (a_rm 2 0 0) D G N0) (M : a_mq X K (a_rm 2 0 0).cells (a_rm 2 0 0).slots) : ∀ x ∈ P_X0_mostOften K 0 0, a_Sd X x.1 x.2 := by
  unfold P_X0_mostOften
  refine List.forall_mem_cons.mpr ⟨s_ic C dX0_mostOften_0 (by decide), ?_⟩
  refine List.forall_mem_cons.mpr ⟨s_istn C dX0_mostOften_1 rfl, ?_⟩
  refine List.forall_mem_cons.mpr ⟨s_ic C dX0_mostOften_2 (by decide), ?_⟩
  refine List.forall_mem_cons.mpr ⟨s_istn C dX0_mostOften_3 rfl, ?_⟩
  refine List.forall_mem_cons.mpr ⟨s_ic C dX0_mostOften_4 (by decide), ?_⟩
  refine List.forall_mem_cons.mpr ⟨s_istn C dX0_mostOften_5 rfl, ?_⟩
  refine List.forall_mem_cons.mpr ⟨s_ildn C dX0_mostOften_6 rfl, ?_⟩
  refine List.forall_mem_cons.mpr ⟨s_aldn C dX0_mostOften_7 rfl, ?_⟩
  refine List.forall_mem_cons.mpr ⟨s_geti C rfl in_X0 (by decide) lk_X0_15 rfl dX0_mostOften_8, ?_⟩
  refine List.forall_mem_cons.mpr ⟨s_icmp_ge C dX0_mostOften_11 (by decide), ?_⟩
  refine List.forall_mem_cons.mpr ⟨s_aldn C dX0_mostOften_14 rfl, ?_⟩
  refine List.forall_mem_cons.mpr ⟨s_ildn C dX0_mostOften_15 rfl, ?_⟩
  refine List.forall_mem_cons.mpr ⟨s_callV (rm := (a_rm 1 0 0)) (n := 1) C Y (ci := 0) rfl con_X0_timesFrom rc_X0_timesFrom co_X0_timesFrom ml_X0_22 im_X0_timesFrom se_X0_timesFrom ii_X0 (by decide +kernel) ⟨by decide, by decide⟩ ⟨rfl, rfl⟩ dX0_mostOften_16, ?_⟩
  refine List.forall_mem_cons.mpr ⟨s_ist C dX0_mostOften_19, ?_⟩
  refine List.forall_mem_cons.mpr ⟨s_ild C dX0_mostOften_21, ?_⟩
  refine List.forall_mem_cons.mpr ⟨s_ildn C dX0_mostOften_23 rfl, ?_⟩
  refine List.forall_mem_cons.mpr ⟨s_icmp_le C dX0_mostOften_24 (by decide), ?_⟩
  refine List.forall_mem_cons.mpr ⟨s_aldn C dX0_mostOften_27 rfl, ?_⟩
  refine List.forall_mem_cons.mpr ⟨s_getr C rfl in_X0 (by decide) lk_X0_9 rfl dX0_mostOften_28, ?_⟩
  refine List.forall_mem_cons.mpr ⟨s_ildn C dX0_mostOften_31 rfl, ?_⟩
  refine List.forall_mem_cons.mpr ⟨s_iald C dX0_mostOften_32, ?_⟩
  refine List.forall_mem_cons.mpr ⟨s_istn C dX0_mostOften_33 rfl, ?_⟩
  refine List.forall_mem_cons.mpr ⟨s_ild C dX0_mostOften_34, ?_⟩
  refine List.forall_mem_cons.mpr ⟨s_istn C dX0_mostOften_36 rfl, ?_⟩
  refine List.forall_mem_cons.mpr ⟨s_iinc C dX0_mostOften_37 (by decide), ?_⟩
  refine List.forall_mem_cons.mpr ⟨s_goto C dX0_mostOften_40 (by decide), ?_⟩
  refine List.forall_mem_cons.mpr ⟨s_ildn C dX0_mostOften_43 rfl, ?_⟩
  refine List.forall_mem_cons.mpr ⟨s_iret C M dX0_mostOften_44, ?_⟩
  exact fun _ h => absurd h List.not_mem_nil
set_option maxRecDepth 20000 in
theorem con_X0_mostOften : a_Con l D G N0 yX0_mostOften cX0_mostOften 5 (some .int) (a_rm 2 0 0) sp_X0_mostOften := by
  refine a_con (by decide) (fun as σ K h => by obtain ⟨I, F, B, sz, rfl, rfl, -⟩ := h; exact (by decide : 1 ≤ 5)) ?_
  intro X as σ K h C Y M _
  obtain ⟨I, F, B, sz, rfl, rfl, hsz, hle, hK⟩ := h
  rw [← l_b_eq] at hK
  have hS := S_X0_mostOften C Y M
  have loop : ∀ m i (q : Option aV), i + m = sz → a_J X 6 [some (.inr (some 4)), some (.inl (l_b (I 5) sz i).1), some (.inl (nI (l_b (I 5) sz i).2)), some (.inl (nI i)), q] [] (a_mk I F B) 0 0 := by
    intro m
    induction m with
    | zero =>
      intro i q hi
      have hi : i = sz := by omega
      subst hi
      exact a_wp1 hS a_ivh (inv := a_iv X [6]) 40 6 _ rfl ⟨fun _ => hK, fun w => absurd (show I 4 1 ≤ nI i by rw [hsz]; exact Int32.le_refl _) w⟩
    | succ m ih =>
      intro i q hi
      have hlt : i < sz := by omega
      have hn : ¬ I 4 1 ≤ nI i := by rw [hsz]; exact nI_ge hlt (by omega)
      have hcl : (nI i).toNatClampNeg = i := nI_clamp (by omega)
      have hv : vp_in (nI i) 144 := vp_in_nI (by omega) (by decide)
      have b1 := c_n_le (I 5) (I 5 i) sz
      have b2 := c_b_le (I 5) sz i
      rw [← l_b_eq] at b2
      generalize hnn : c_n (I 5) (I 5 i) sz - c_n (I 5) (I 5 i) i = nn
      have b3 : nn ≤ 144 := by omega
      refine a_wp1 hS a_ivh (inv := a_iv X [6]) 40 6 _ rfl ⟨fun w => absurd w hn, fun _ => ⟨I, F, B, sz, i, rfl, rfl, hsz, hle, hlt, ?_⟩⟩
      rw [hnn]
      refine ⟨fun h => ?_, fun h => ⟨hv, ?_⟩⟩
      · have h : nI nn ≤ nI (l_b (I 5) sz i).2 := h
        have h := (nI_leI (by omega) (by omega)).mp h
        have ih := ih (i + 1) (some (.inl (nI nn))) (by omega)
        rw [show l_b (I 5) sz (i + 1) = l_b (I 5) sz i from if_pos (by rw [hnn]; exact h), ← nI_1 i] at ih
        exact ih
      · have h : ¬ nI nn ≤ nI (l_b (I 5) sz i).2 := h
        have h : ¬ nn ≤ (l_b (I 5) sz i).2 := fun w => h ((nI_leI (by omega) (by omega)).mpr w)
        have ih := ih (i + 1) (some (.inl (nI nn))) (by omega)
        rw [show l_b (I 5) sz (i + 1) = (I 5 i, nn) by show (if _ then _ else _) = _; rw [hnn, if_neg h], ← nI_1 i] at ih
        show a_J X 6 [some (.inr (some 4)), some (.inl (I 5 (nI i).toNatClampNeg)), some (.inl (nI nn)), some (.inl (nI i + 1)), some (.inl (nI nn))] [] (a_mk I F B) 0 0
        rw [hcl]
        exact ih
  exact a_wps hS (inv := a_iv X [6]) a_ivh 20 _ _ _ _ _ _ (loop sz 0 none (by omega))
def sp_X2_cloth : aP := fun as σ K => ∃ I F B sz i, σ = a_mk I F B ∧ as = [.inr (some 0), .inl i] ∧ I 4 1 = nI sz ∧ sz ≤ 144 ∧ K (some (.inl (if m_in i 0 (nI sz - 1) = 0 then 0 else I 5 i.toNatClampNeg))) σ
theorem rc_X2_cloth : ∀ as σ K, sp_X2_cloth as σ K → ∃ h As, as = .inr (some h) :: As ∧ a_is σ h 2 10 = true := by
  rintro as σ K ⟨I, F, B, w, k, rfl, rfl, -⟩
  exact ⟨0, _, rfl, rfl⟩
def P_X2_cloth (K : aK) (bc bs : Nat) : List (Nat × aT) := [(0, t_ald 0 1),
  (1, t_getr 2 10 3 4),
  (4, t_ild 1 5),
  (5, t_call 2 0 0 bc bs sp_X0_colourAt 8),
  (8, t_iret K bc bs)]
set_option maxRecDepth 100000 in
theorem S_X2_cloth {X : a_X} {K : aK} {l : Launch} {D : va_G} {G : aG} {N0 : Nat} (C : a_C X cX2_cloth (some .int) RX2) (Y : a_Y X l (a_rm 2 0 0) D G N0) (M : a_mq X K (a_rm 2 0 0).cells (a_rm 2 0 0).slots) : ∀ x ∈ P_X2_cloth K 0 0, a_Sd X x.1 x.2 := by
  unfold P_X2_cloth
  refine List.forall_mem_cons.mpr ⟨s_aldn C dX2_cloth_0 rfl, ?_⟩
  refine List.forall_mem_cons.mpr ⟨s_getr C rfl in_X2 (by decide) lk_X2_26 rfl dX2_cloth_1, ?_⟩
  refine List.forall_mem_cons.mpr ⟨s_ildn C dX2_cloth_4 rfl, ?_⟩
  refine List.forall_mem_cons.mpr ⟨s_callV (rm := (a_rm 1 0 0)) (n := 1) C Y (ci := 0) rfl con_X0_colourAt rc_X0_colourAt co_X0_colourAt ml_X2_91 im_X0_colourAt se_X0_colourAt ii_X0 (by decide +kernel) ⟨by decide, by decide⟩ ⟨rfl, rfl⟩ dX2_cloth_5, ?_⟩
  refine List.forall_mem_cons.mpr ⟨s_iret C M dX2_cloth_8, ?_⟩
  exact fun _ h => absurd h List.not_mem_nil
theorem con_X2_cloth : a_Con l D G N0 yX2_cloth cX2_cloth 2 (some .int) (a_rm 2 0 0) sp_X2_cloth := by
  refine a_con (by decide) (fun as σ K h => by obtain ⟨I, F, B, w, k, rfl, rfl, -⟩ := h; exact Nat.le_refl _) ?_
  intro X as σ K h C Y M _
  obtain ⟨I, F, B, sz, i, rfl, rfl, hsz, hle, hK⟩ := h
  exact a_wps (S_X2_cloth C Y M) (inv := a_ni) a_nih 30 _ _ _ _ _ _ ⟨I, F, B, sz, i, rfl, rfl, hsz, hle, hK⟩
def sp_X2_changes : aP := fun as σ K => ∃ I F B sz wd, σ = a_mk I F B ∧ as = [.inr (some 0)] ∧ I 4 1 = nI sz ∧ I 4 2 = nI wd ∧ sz ≤ 144 ∧ wd ≤ 12 ∧ (0 < sz → 0 < wd) ∧ K (some (.inl (nI (c_g (I 5) wd sz)))) σ
theorem rc_X2_changes : ∀ as σ K, sp_X2_changes as σ K → ∃ h As, as = .inr (some h) :: As ∧ a_is σ h 2 10 = true := by
  rintro as σ K ⟨I, F, B, w, k, rfl, rfl, -⟩
  exact ⟨0, _, rfl, rfl⟩
def P_X2_changes (K : aK) (bc bs : Nat) : List (Nat × aT) := [(0, t_ald 0 1),
  (1, t_getr 2 10 3 4),
  (4, t_call 1 0 0 bc bs sp_X0_changesInRows 7),
  (7, t_iret K bc bs)]
set_option maxRecDepth 100000 in
theorem S_X2_changes {X : a_X} {K : aK} {l : Launch} {D : va_G} {G : aG} {N0 : Nat} (C : a_C X cX2_changes (some .int) RX2) (Y : a_Y X l (a_rm 2 0 0) D G N0) (M : a_mq X K (a_rm 2 0 0).cells (a_rm 2 0 0).slots) : ∀ x ∈ P_X2_changes K 0 0, a_Sd X x.1 x.2 := by
  unfold P_X2_changes
  refine List.forall_mem_cons.mpr ⟨s_aldn C dX2_changes_0 rfl, ?_⟩
  refine List.forall_mem_cons.mpr ⟨s_getr C rfl in_X2 (by decide) lk_X2_26 rfl dX2_changes_1, ?_⟩
  refine List.forall_mem_cons.mpr ⟨s_callV (rm := (a_rm 1 0 0)) (n := 0) C Y (ci := 0) rfl con_X0_changesInRows rc_X0_changesInRows co_X0_changesInRows ml_X2_95 im_X0_changesInRows se_X0_changesInRows ii_X0 (by decide +kernel) ⟨by decide, by decide⟩ ⟨rfl, rfl⟩ dX2_changes_4, ?_⟩
  refine List.forall_mem_cons.mpr ⟨s_iret C M dX2_changes_7, ?_⟩
  exact fun _ h => absurd h List.not_mem_nil
theorem con_X2_changes : a_Con l D G N0 yX2_changes cX2_changes 1 (some .int) (a_rm 2 0 0) sp_X2_changes := by
  refine a_con (by decide) (fun as σ K h => by obtain ⟨I, F, B, w, k, rfl, rfl, -⟩ := h; exact Nat.le_refl _) ?_
  intro X as σ K h C Y M _
  obtain ⟨I, F, B, sz, wd, rfl, rfl, h1, h2, h3, h4, h5, hK⟩ := h
  exact a_wps (S_X2_changes C Y M) (inv := a_ni) a_nih 30 _ _ _ _ _ _ ⟨I, F, B, sz, wd, rfl, rfl, h1, h2, h3, h4, h5, hK⟩
def sp_X2_most : aP := fun as σ K => ∃ I F B sz, σ = a_mk I F B ∧ as = [.inr (some 0)] ∧ I 4 1 = nI sz ∧ sz ≤ 144 ∧ K (some (.inl (c_b (I 5) sz sz).1)) σ
theorem rc_X2_most : ∀ as σ K, sp_X2_most as σ K → ∃ h As, as = .inr (some h) :: As ∧ a_is σ h 2 10 = true := by
  rintro as σ K ⟨I, F, B, w, rfl, rfl, -⟩
  exact ⟨0, _, rfl, rfl⟩
def P_X2_most (K : aK) (bc bs : Nat) : List (Nat × aT) := [(0, t_ald 0 1),
  (1, t_getr 2 10 3 4),
  (4, t_call 1 0 0 bc bs sp_X0_mostOften 7),
  (7, t_iret K bc bs)]
set_option maxRecDepth 100000 in
theorem S_X2_most {X : a_X} {K : aK} {l : Launch} {D : va_G} {G : aG} {N0 : Nat} (C : a_C X cX2_most (some .int) RX2) (Y : a_Y X l (a_rm 3 0 0) D G N0) (M : a_mq X K (a_rm 3 0 0).cells (a_rm 3 0 0).slots) : ∀ x ∈ P_X2_most K 0 0, a_Sd X x.1 x.2 := by
  unfold P_X2_most
  refine List.forall_mem_cons.mpr ⟨s_aldn C dX2_most_0 rfl, ?_⟩
  refine List.forall_mem_cons.mpr ⟨s_getr C rfl in_X2 (by decide) lk_X2_26 rfl dX2_most_1, ?_⟩
  refine List.forall_mem_cons.mpr ⟨s_callV (rm := (a_rm 2 0 0)) (n := 0) C Y (ci := 0) rfl con_X0_mostOften rc_X0_mostOften co_X0_mostOften ml_X2_99 im_X0_mostOften se_X0_mostOften ii_X0 (by decide +kernel) ⟨by decide, by decide⟩ ⟨rfl, rfl⟩ dX2_most_4, ?_⟩
  refine List.forall_mem_cons.mpr ⟨s_iret C M dX2_most_7, ?_⟩
  exact fun _ h => absurd h List.not_mem_nil
theorem con_X2_most : a_Con l D G N0 yX2_most cX2_most 1 (some .int) (a_rm 3 0 0) sp_X2_most := by
  refine a_con (by decide) (fun as σ K h => by obtain ⟨I, F, B, w, rfl, rfl, -⟩ := h; exact Nat.le_refl _) ?_
  intro X as σ K h C Y M _
  obtain ⟨I, F, B, sz, rfl, rfl, h1, h2, hK⟩ := h
  exact a_wps (S_X2_most C Y M) (inv := a_ni) a_nih 30 _ _ _ _ _ _ ⟨I, F, B, sz, rfl, rfl, h1, h2, hK⟩
def sp_X2_why : aP := fun as σ K => ∃ I F B, σ = a_mk I F B ∧ as = [.inr (some 0)] ∧ K (some (.inl (I 0 5))) σ
theorem rc_X2_why : ∀ as σ K, sp_X2_why as σ K → ∃ h As, as = .inr (some h) :: As ∧ a_is σ h 2 10 = true := by
  rintro as σ K ⟨I, F, B, rfl, rfl, -⟩
  exact ⟨0, _, rfl, rfl⟩
def P_X2_why (K : aK) (bc bs : Nat) : List (Nat × aT) := [(0, t_ald 0 1),
  (1, t_geti 2 10 5 4),
  (4, t_iret K bc bs)]
set_option maxRecDepth 100000 in
theorem S_X2_why {X : a_X} {K : aK} {l : Launch} {D : va_G} {G : aG} {N0 : Nat} (C : a_C X cX2_why (some .int) RX2) (Y : a_Y X l (a_rm 1 0 0) D G N0) (M : a_mq X K (a_rm 1 0 0).cells (a_rm 1 0 0).slots) : ∀ x ∈ P_X2_why K 0 0, a_Sd X x.1 x.2 := by
  unfold P_X2_why
  refine List.forall_mem_cons.mpr ⟨s_aldn C dX2_why_0 rfl, ?_⟩
  refine List.forall_mem_cons.mpr ⟨s_geti C rfl in_X2 (by decide) lk_X2_37 rfl dX2_why_1, ?_⟩
  refine List.forall_mem_cons.mpr ⟨s_iret C M dX2_why_4, ?_⟩
  exact fun _ h => absurd h List.not_mem_nil
theorem con_X2_why : a_Con l D G N0 yX2_why cX2_why 1 (some .int) (a_rm 1 0 0) sp_X2_why := by
  refine a_con (by decide) (fun as σ K h => by obtain ⟨I, F, B, rfl, rfl, -⟩ := h; exact Nat.le_refl _) ?_
  intro X as σ K h C Y M _
  obtain ⟨I, F, B, rfl, rfl, hK⟩ := h
  exact a_wps (S_X2_why C Y M) (inv := a_ni) a_nih 30 _ _ _ _ _ _ hK
def sp_X2_count : aP := fun as σ K => ∃ I F B w, σ = a_mk I F B ∧ as = [.inr (some 0), .inl w] ∧ K (some (.inl (m_cnt (I 0 4) (I 4 1) (I 4 2) (I 0 7) (I 0 9) w))) σ
theorem rc_X2_count : ∀ as σ K, sp_X2_count as σ K → ∃ h As, as = .inr (some h) :: As ∧ a_is σ h 2 10 = true := by
  rintro as σ K ⟨I, F, B, w, rfl, rfl, -⟩
  exact ⟨0, _, rfl, rfl⟩
def P_X2_count (K : aK) (bc bs : Nat) : List (Nat × aT) := [(0, t_ild 1 1),
  (1, t_sw [(0, 36), (1, 41), (2, 49), (3, 57), (4, 62)] 67),
  (36, t_ald 0 37),
  (37, t_geti 2 10 4 40),
  (40, t_iret K bc bs),
  (41, t_ald 0 42),
  (42, t_getr 2 10 3 45),
  (45, t_geti 0 3 1 48),
  (48, t_iret K bc bs),
  (49, t_ald 0 50),
  (50, t_getr 2 10 3 53),
  (53, t_geti 0 3 2 56),
  (56, t_iret K bc bs),
  (57, t_ald 0 58),
  (58, t_geti 2 10 7 61),
  (61, t_iret K bc bs),
  (62, t_ald 0 63),
  (63, t_geti 2 10 9 66),
  (66, t_iret K bc bs),
  (67, t_ic (-2) 69),
  (69, t_iret K bc bs)]
set_option maxRecDepth 100000 in
theorem S_X2_count {X : a_X} {K : aK} {l : Launch} {D : va_G} {G : aG} {N0 : Nat} (C : a_C X cX2_count (some .int) RX2) (Y : a_Y X l (a_rm 1 0 0) D G N0) (M : a_mq X K (a_rm 1 0 0).cells (a_rm 1 0 0).slots) : ∀ x ∈ P_X2_count K 0 0, a_Sd X x.1 x.2 := by
  unfold P_X2_count
  refine List.forall_mem_cons.mpr ⟨s_ildn C dX2_count_0 rfl, ?_⟩
  refine List.forall_mem_cons.mpr ⟨s_tsw C dX2_count_1 (a_tok_of2 4 (by decide) (by decide) (by decide) (by decide)), ?_⟩
  refine List.forall_mem_cons.mpr ⟨s_aldn C dX2_count_36 rfl, ?_⟩
  refine List.forall_mem_cons.mpr ⟨s_geti C rfl in_X2 (by decide) lk_X2_49 rfl dX2_count_37, ?_⟩
  refine List.forall_mem_cons.mpr ⟨s_iret C M dX2_count_40, ?_⟩
  refine List.forall_mem_cons.mpr ⟨s_aldn C dX2_count_41 rfl, ?_⟩
  refine List.forall_mem_cons.mpr ⟨s_getr C rfl in_X2 (by decide) lk_X2_26 rfl dX2_count_42, ?_⟩
  refine List.forall_mem_cons.mpr ⟨s_geti C rfl in_X0 (by decide) lk_X2_102 rfl dX2_count_45, ?_⟩
  refine List.forall_mem_cons.mpr ⟨s_iret C M dX2_count_48, ?_⟩
  refine List.forall_mem_cons.mpr ⟨s_aldn C dX2_count_49 rfl, ?_⟩
  refine List.forall_mem_cons.mpr ⟨s_getr C rfl in_X2 (by decide) lk_X2_26 rfl dX2_count_50, ?_⟩
  refine List.forall_mem_cons.mpr ⟨s_geti C rfl in_X0 (by decide) lk_X2_105 rfl dX2_count_53, ?_⟩
  refine List.forall_mem_cons.mpr ⟨s_iret C M dX2_count_56, ?_⟩
  refine List.forall_mem_cons.mpr ⟨s_aldn C dX2_count_57 rfl, ?_⟩
  refine List.forall_mem_cons.mpr ⟨s_geti C rfl in_X2 (by decide) lk_X2_108 rfl dX2_count_58, ?_⟩
  refine List.forall_mem_cons.mpr ⟨s_iret C M dX2_count_61, ?_⟩
  refine List.forall_mem_cons.mpr ⟨s_aldn C dX2_count_62 rfl, ?_⟩
  refine List.forall_mem_cons.mpr ⟨s_geti C rfl in_X2 (by decide) lk_X2_111 rfl dX2_count_63, ?_⟩
  refine List.forall_mem_cons.mpr ⟨s_iret C M dX2_count_66, ?_⟩
  refine List.forall_mem_cons.mpr ⟨s_bi C dX2_count_67 (by decide), ?_⟩
  refine List.forall_mem_cons.mpr ⟨s_iret C M dX2_count_69, ?_⟩
  exact fun _ h => absurd h List.not_mem_nil
theorem con_X2_count : a_Con l D G N0 yX2_count cX2_count 2 (some .int) (a_rm 1 0 0) sp_X2_count := by
  refine a_con (by decide) (fun as σ K h => by obtain ⟨I, F, B, w, rfl, rfl, -⟩ := h; exact Nat.le_refl _) ?_
  intro X as σ K h C Y M _
  obtain ⟨I, F, B, w, rfl, rfl, hK⟩ := h
  refine a_wps (S_X2_count C Y M) (inv := a_ni) a_nih 60 _ _ _ _ _ _ ?_
  unfold m_cnt at hK
  refine ⟨fun h0 => ?_, fun h0 => ⟨fun h1 => ?_, fun h1 => ⟨fun h2 => ?_, fun h2 => ⟨fun h3 => ?_, fun h3 => ⟨fun h4 => ?_, fun h4 => ?_⟩⟩⟩⟩⟩
  · rw [if_pos h0] at hK; exact hK
  · rw [if_neg h0, if_pos h1] at hK; exact hK
  · rw [if_neg h0, if_neg h1, if_pos h2] at hK; exact hK
  · rw [if_neg h0, if_neg h1, if_neg h2, if_pos h3] at hK; exact hK
  · rw [if_neg h0, if_neg h1, if_neg h2, if_neg h3, if_pos h4] at hK; exact hK
  · rw [if_neg h0, if_neg h1, if_neg h2, if_neg h3, if_neg h4] at hK; exact hK
def sp_X2_dye : aP := fun as σ K => ∃ I F B d i v, σ = a_mk I F B ∧ as = [.inr (some 0), .inl d, .inl i, .inl v] ∧
  ((m_in d 0 3 = 0 ∨ m_in i 0 7 = 0) → K (some (.inl 0)) (a_mk (a_w I 0 5 (-3)) F B)) ∧ (∀ d' i' : Nat, d' < 4 → i' < 8 → d = nI d' → i = nI i' → K (some (.inl (I (6 + d') i'))) (a_mk (a_w (a_w I (6 + d') i' v) 0 5 0) F B))
theorem rc_X2_dye : ∀ as σ K, sp_X2_dye as σ K → ∃ h As, as = .inr (some h) :: As ∧ a_is σ h 2 10 = true := by
  rintro as σ K ⟨I, F, B, c, x, y, rfl, rfl, -⟩
  exact ⟨0, _, rfl, rfl⟩
def P_X2_dye (K : aK) (bc bs : Nat) : List (Nat × aT) := [(0, t_ild 1 1),
  (1, t_call 1 0 0 bc bs sp_X2_isDye 4),
  (4, t_if (fun x => x = 0) 17 7),
  (7, t_ild 2 8),
  (8, t_if (fun x => x < 0) 17 11),
  (11, t_ild 2 12),
  (12, t_ic 8 14),
  (14, t_ifc (fun x y => x < y) 25 17),
  (17, t_ald 0 18),
  (18, t_ic (-3) 20),
  (20, t_puti 2 10 5 23),
  (23, t_ic 0 24),
  (24, t_iret K bc bs),
  (25, t_ald 0 26),
  (26, t_getr 2 10 0 29),
  (29, t_ild 1 30),
  (30, t_aald 31),
  (31, t_ild 2 32),
  (32, t_iald 33),
  (33, t_ist 4 35),
  (35, t_ald 0 36),
  (36, t_getr 2 10 0 39),
  (39, t_ild 1 40),
  (40, t_aald 41),
  (41, t_ild 2 42),
  (42, t_ild 3 43),
  (43, t_iast 44),
  (44, t_ald 0 45),
  (45, t_ic 0 46),
  (46, t_puti 2 10 5 49),
  (49, t_ild 4 51),
  (51, t_iret K bc bs)]
set_option maxRecDepth 100000 in
theorem S_X2_dye {X : a_X} {K : aK} {l : Launch} {D : va_G} {G : aG} {N0 : Nat} (C : a_C X cX2_dye (some .int) RX2) (Y : a_Y X l (a_rm 2 0 0) D G N0) (M : a_mq X K (a_rm 2 0 0).cells (a_rm 2 0 0).slots) : ∀ x ∈ P_X2_dye K 0 0, a_Sd X x.1 x.2 := by
  unfold P_X2_dye
  refine List.forall_mem_cons.mpr ⟨s_ildn C dX2_dye_0 rfl, ?_⟩
  refine List.forall_mem_cons.mpr ⟨s_callS (rm := (a_rm 1 0 0)) C Y con_X2_isDye co_X2_isDye ml_X2_33 st_X2_isDye ii_X2 (by decide +kernel) ⟨by decide, by decide⟩ ⟨rfl, rfl⟩ dX2_dye_1, ?_⟩
  refine List.forall_mem_cons.mpr ⟨s_if_eq C dX2_dye_4 (by decide), ?_⟩
  refine List.forall_mem_cons.mpr ⟨s_ildn C dX2_dye_7 rfl, ?_⟩
  refine List.forall_mem_cons.mpr ⟨s_if_lt C dX2_dye_8 (by decide), ?_⟩
  refine List.forall_mem_cons.mpr ⟨s_ildn C dX2_dye_11 rfl, ?_⟩
  refine List.forall_mem_cons.mpr ⟨s_bi C dX2_dye_12 (by decide), ?_⟩
  refine List.forall_mem_cons.mpr ⟨s_icmp_lt C dX2_dye_14 (by decide), ?_⟩
  refine List.forall_mem_cons.mpr ⟨s_aldn C dX2_dye_17 rfl, ?_⟩
  refine List.forall_mem_cons.mpr ⟨s_bi C dX2_dye_18 (by decide), ?_⟩
  refine List.forall_mem_cons.mpr ⟨s_puti C tyX2 tyX2_ok nmX2 rfl in_X2 (by decide) lk_X2_37 rfl (Or.inl rfl) rfl dX2_dye_20, ?_⟩
  refine List.forall_mem_cons.mpr ⟨s_ic C dX2_dye_23 (by decide), ?_⟩
  refine List.forall_mem_cons.mpr ⟨s_iret C M dX2_dye_24, ?_⟩
  refine List.forall_mem_cons.mpr ⟨s_aldn C dX2_dye_25 rfl, ?_⟩
  refine List.forall_mem_cons.mpr ⟨s_getr C rfl in_X2 (by decide) lk_X2_11 rfl dX2_dye_26, ?_⟩
  refine List.forall_mem_cons.mpr ⟨s_ildn C dX2_dye_29 rfl, ?_⟩
  refine List.forall_mem_cons.mpr ⟨s_aald C dX2_dye_30, ?_⟩
  refine List.forall_mem_cons.mpr ⟨s_ildn C dX2_dye_31 rfl, ?_⟩
  refine List.forall_mem_cons.mpr ⟨s_iald C dX2_dye_32, ?_⟩
  refine List.forall_mem_cons.mpr ⟨s_ist C dX2_dye_33, ?_⟩
  refine List.forall_mem_cons.mpr ⟨s_aldn C dX2_dye_35 rfl, ?_⟩
  refine List.forall_mem_cons.mpr ⟨s_getr C rfl in_X2 (by decide) lk_X2_11 rfl dX2_dye_36, ?_⟩
  refine List.forall_mem_cons.mpr ⟨s_ildn C dX2_dye_39 rfl, ?_⟩
  refine List.forall_mem_cons.mpr ⟨s_aald C dX2_dye_40, ?_⟩
  refine List.forall_mem_cons.mpr ⟨s_ildn C dX2_dye_41 rfl, ?_⟩
  refine List.forall_mem_cons.mpr ⟨s_ildn C dX2_dye_42 rfl, ?_⟩
  refine List.forall_mem_cons.mpr ⟨s_iast C dX2_dye_43, ?_⟩
  refine List.forall_mem_cons.mpr ⟨s_aldn C dX2_dye_44 rfl, ?_⟩
  refine List.forall_mem_cons.mpr ⟨s_ic C dX2_dye_45 (by decide), ?_⟩
  refine List.forall_mem_cons.mpr ⟨s_puti C tyX2 tyX2_ok nmX2 rfl in_X2 (by decide) lk_X2_37 rfl (Or.inl rfl) rfl dX2_dye_46, ?_⟩
  refine List.forall_mem_cons.mpr ⟨s_ild C dX2_dye_49, ?_⟩
  refine List.forall_mem_cons.mpr ⟨s_iret C M dX2_dye_51, ?_⟩
  exact fun _ h => absurd h List.not_mem_nil
set_option maxRecDepth 20000 in
theorem con_X2_dye : a_Con l D G N0 yX2_dye cX2_dye 5 (some .int) (a_rm 2 0 0) sp_X2_dye := by
  refine a_con (by decide) (fun as σ K h => by obtain ⟨I, F, B, c, x, y, rfl, rfl, -⟩ := h; exact (by decide : 4 ≤ 5)) ?_
  intro X as σ K h C Y M _
  obtain ⟨I, F, B, d, i, v, rfl, rfl, hK1, hK2⟩ := h
  have hS := S_X2_dye C Y M
  refine a_wps hS (inv := a_iv X [31, 41]) a_ivh 60 _ _ _ _ _ _ ?_
  refine ⟨d, rfl, fun h1 => hK1 (Or.inl h1), fun h1 => ⟨fun h2 => hK1 (Or.inr (if_pos h2)), fun h2 => ⟨fun h3 => ?_, fun h3 => hK1 (Or.inr (by unfold m_in; rw [if_neg h2, if_pos ((l_lt7 i).mp h3)]))⟩⟩⟩
  obtain ⟨d', hd', rfl⟩ := m_in_n (b := 3) (by decide) h1
  have hin : ¬ m_in i 0 7 = 0 := by unfold m_in; rw [if_neg h2, if_neg (fun w => (l_lt7 i).mpr w h3)]; decide
  obtain ⟨i', hi', rfl⟩ := m_in_n (b := 7) (by decide) hin
  have hK := hK2 d' i' (by omega) (by omega) rfl rfl
  have hv : vp_in (nI d') 4 := vp_in_nI (by omega) (by decide)
  have hvi : vp_in (nI i') 8 := vp_in_nI (by omega) (by decide)
  have ci : (nI i').toNatClampNeg = i' := nI_clamp (by omega)
  have e : a_SR F 1 (nI d').toNatClampNeg = some (6 + d') := by
    rw [show (nI d').toNatClampNeg = d' from nI_clamp (by omega)]
    exact if_pos (show d' < 4 by omega)
  have hA : ∀ J, a_isA (a_mk J F B) (6 + d') 4 = true := fun J => by
    obtain ⟨g1, g2, g3⟩ := a_isE (l_dy (I := J) (F := F) (B := B) (d := d') (by omega))
    show (a_LV B (6 + d') && (kd (6 + d')).1 == 4) = true
    rw [g2, show a_LV B (6 + d') = true from g1]
    rfl
  have hkd : (kd (6 + d')).2 = 8 := (a_isE (l_dy (I := I) (F := F) (B := B) (d := d') (by omega))).2.2
  have j41 : a_J X 41 [some (.inr (some 0)), some (.inl (nI d')), some (.inl (nI i')), some (.inl v), some (.inl (I (6 + d') i'))] [.inr (some (6 + d'))] (a_mk I F B) 0 0 := by
    have hK : K (some (.inl (I (6 + d') i'))) (a_mk (a_w (a_w I (6 + d') (nI i').toNatClampNeg v) 0 5 0) F B) := by rw [ci]; exact hK
    exact a_wp1 hS a_ivh (inv := a_iv X [31]) 40 41 _ rfl (a_gi (hA _) ⟨by rw [hkd]; exact hvi, hK⟩)
  have j31 : a_J X 31 [some (.inr (some 0)), some (.inl (nI d')), some (.inl (nI i')), some (.inl v), none] [.inr (some (6 + d'))] (a_mk I F B) 0 0 := by
    refine a_wp1 hS a_ivh (inv := a_iv X [41]) 40 31 _ rfl (a_gi (hA _) ⟨by rw [hkd]; exact hvi, hv, ?_⟩)
    show a_J X 41 [some (.inr (some 0)), some (.inl (nI d')), some (.inl (nI i')), some (.inl v), some (.inl (I (6 + d') (nI i').toNatClampNeg))] [.inr (a_SR F 1 (nI d').toNatClampNeg)] (a_mk I F B) 0 0
    rw [e, ci]
    exact j41
  refine ⟨hv, ?_⟩
  show a_J X 31 [some (.inr (some 0)), some (.inl (nI d')), some (.inl (nI i')), some (.inl v), none] [.inr (a_SR F 1 (nI d').toNatClampNeg)] (a_mk I F B) 0 0
  rw [e]
  exact j31
def u_2 (F : Nat → Nat → Option Nat) (h k : Nat) (r : Option Nat) : Nat → Nat → Option Nat := fun h' k' => if h' = h ∧ k' = k then r else F h' k'
theorem u_2e {I : Nat → Nat → Int32} {F : Nat → Nat → Option Nat} {B : Nat → Bool} {h k : Nat} {r : Option Nat} (hh : h = 2 ∨ h = 3 ∨ 17 ≤ h) : a_uF (a_mk I F B) h k r = a_mk I (u_2 F h k r) B := by
  have e : (fun h' k' => if h' = h ∧ k' = k then r else a_SR F h' k') = a_SR (u_2 F h k r) := by
    funext h' k'
    unfold a_SR u_2
    by_cases e1 : h' = h ∧ k' = k
    · rw [if_pos e1, if_neg (by omega), if_neg (by omega), if_neg (by omega), if_neg (by omega), if_pos e1]
    · rw [if_neg e1, if_neg e1]
  show (I, (fun h' k' => if h' = h ∧ k' = k then r else a_SR F h' k'), a_LV B) = _
  rw [e]
def sp_X2_name : aP := fun as σ K => ∃ I F B n nm p, σ = a_mk I F B ∧ as = [.inr (some 0), .inl nm, .inl p] ∧ l_env I F B n ∧
  ((m_in nm 0 5 = 0 ∨ (¬ p = -1 ∧ m_in p 0 (nI n - 1) = 0)) → K (some (.inl (-3))) σ) ∧ (∀ j : Nat, j < 6 → nm = nI j → (p = -1 ∨ ¬ m_in p 0 (nI n - 1) = 0) → K (some (.inl (if F 2 j = none then 0 else 1))) (a_mk I (u_2 F 2 j (l_ref p)) B))
theorem rc_X2_name : ∀ as σ K, sp_X2_name as σ K → ∃ h As, as = .inr (some h) :: As ∧ a_is σ h 2 10 = true := by
  rintro as σ K ⟨I, F, B, c, x, y, rfl, rfl, -⟩
  exact ⟨0, _, rfl, rfl⟩
def P_X2_name (K : aK) (bc bs : Nat) : List (Nat × aT) := [(0, t_ild 1 1),
  (1, t_call 1 0 0 bc bs sp_X2_isName 4),
  (4, t_if (fun x => x = 0) 20 7),
  (7, t_ild 2 8),
  (8, t_ic (-1) 9),
  (9, t_ifc (fun x y => x = y) 23 12),
  (12, t_ald 0 13),
  (13, t_ild 2 14),
  (14, t_call 2 0 0 bc bs sp_X2_isPattern 17),
  (17, t_if (fun x => x = 0) 20 23),
  (20, t_ic (-3) 22),
  (22, t_iret K bc bs),
  (23, t_ald 0 24),
  (24, t_getr 2 10 1 27),
  (27, t_ild 1 28),
  (28, t_aald 29),
  (29, t_ifnull 36 32),
  (32, t_ic 1 33),
  (33, t_goto 37),
  (36, t_ic 0 37),
  (37, t_ist 3 38),
  (38, t_ald 0 39),
  (39, t_getr 2 10 1 42),
  (42, t_ild 1 43),
  (43, t_ald 0 44),
  (44, t_ild 2 45),
  (45, t_call 2 0 0 bc bs sp_X2_numbered 48),
  (48, t_aast 49),
  (49, t_ild 3 50),
  (50, t_iret K bc bs)]
set_option maxRecDepth 100000 in
theorem S_X2_name {X : a_X} {K : aK} {l : Launch} {D : va_G} {G : aG} {N0 : Nat} (C : a_C X cX2_name (some .int) RX2) (Y : a_Y X l (a_rm 3 0 0) D G N0) (M : a_mq X K (a_rm 3 0 0).cells (a_rm 3 0 0).slots) : ∀ x ∈ P_X2_name K 0 0, a_Sd X x.1 x.2 := by
  unfold P_X2_name
  refine List.forall_mem_cons.mpr ⟨s_ildn C dX2_name_0 rfl, ?_⟩
  refine List.forall_mem_cons.mpr ⟨s_callS (rm := (a_rm 1 0 0)) C Y con_X2_isName co_X2_isName ml_X2_62 st_X2_isName ii_X2 (by decide +kernel) ⟨by decide, by decide⟩ ⟨rfl, rfl⟩ dX2_name_1, ?_⟩
  refine List.forall_mem_cons.mpr ⟨s_if_eq C dX2_name_4 (by decide), ?_⟩
  refine List.forall_mem_cons.mpr ⟨s_ildn C dX2_name_7 rfl, ?_⟩
  refine List.forall_mem_cons.mpr ⟨s_ic C dX2_name_8 (by decide), ?_⟩
  refine List.forall_mem_cons.mpr ⟨s_icmp_eq C dX2_name_9 (by decide), ?_⟩
  refine List.forall_mem_cons.mpr ⟨s_aldn C dX2_name_12 rfl, ?_⟩
  refine List.forall_mem_cons.mpr ⟨s_ildn C dX2_name_13 rfl, ?_⟩
  refine List.forall_mem_cons.mpr ⟨s_callV (rm := (a_rm 1 0 0)) (n := 1) C Y (ci := 2) rfl con_X2_isPattern rc_X2_isPattern co_X2_isPattern ml_X2_65 im_X2_isPattern se_X2_isPattern ii_X2 (by decide +kernel) ⟨by decide, by decide⟩ ⟨rfl, rfl⟩ dX2_name_14, ?_⟩
  refine List.forall_mem_cons.mpr ⟨s_if_ne C dX2_name_17 (by decide), ?_⟩
  refine List.forall_mem_cons.mpr ⟨s_bi C dX2_name_20 (by decide), ?_⟩
  refine List.forall_mem_cons.mpr ⟨s_iret C M dX2_name_22, ?_⟩
  refine List.forall_mem_cons.mpr ⟨s_aldn C dX2_name_23 rfl, ?_⟩
  refine List.forall_mem_cons.mpr ⟨s_getr C rfl in_X2 (by decide) lk_X2_16 rfl dX2_name_24, ?_⟩
  refine List.forall_mem_cons.mpr ⟨s_ildn C dX2_name_27 rfl, ?_⟩
  refine List.forall_mem_cons.mpr ⟨s_aald C dX2_name_28, ?_⟩
  refine List.forall_mem_cons.mpr ⟨s_ifnull C dX2_name_29 (by decide), ?_⟩
  refine List.forall_mem_cons.mpr ⟨s_ic C dX2_name_32 (by decide), ?_⟩
  refine List.forall_mem_cons.mpr ⟨s_goto C dX2_name_33 (by decide), ?_⟩
  refine List.forall_mem_cons.mpr ⟨s_ic C dX2_name_36 (by decide), ?_⟩
  refine List.forall_mem_cons.mpr ⟨s_istn C dX2_name_37 rfl, ?_⟩
  refine List.forall_mem_cons.mpr ⟨s_aldn C dX2_name_38 rfl, ?_⟩
  refine List.forall_mem_cons.mpr ⟨s_getr C rfl in_X2 (by decide) lk_X2_16 rfl dX2_name_39, ?_⟩
  refine List.forall_mem_cons.mpr ⟨s_ildn C dX2_name_42 rfl, ?_⟩
  refine List.forall_mem_cons.mpr ⟨s_aldn C dX2_name_43 rfl, ?_⟩
  refine List.forall_mem_cons.mpr ⟨s_ildn C dX2_name_44 rfl, ?_⟩
  refine List.forall_mem_cons.mpr ⟨s_callV (rm := (a_rm 2 0 0)) (n := 1) C Y (ci := 2) rfl con_X2_numbered rc_X2_numbered co_X2_numbered ml_X2_68 im_X2_numbered se_X2_numbered ii_X2 (by decide +kernel) ⟨by decide, by decide⟩ ⟨rfl, rfl⟩ dX2_name_45, ?_⟩
  refine List.forall_mem_cons.mpr ⟨s_aast C dX2_name_48, ?_⟩
  refine List.forall_mem_cons.mpr ⟨s_ildn C dX2_name_49 rfl, ?_⟩
  refine List.forall_mem_cons.mpr ⟨s_iret C M dX2_name_50, ?_⟩
  exact fun _ h => absurd h List.not_mem_nil
set_option maxRecDepth 20000 in
theorem con_X2_name : a_Con l D G N0 yX2_name cX2_name 4 (some .int) (a_rm 3 0 0) sp_X2_name := by
  refine a_con (by decide) (fun as σ K h => by obtain ⟨I, F, B, c, x, y, rfl, rfl, -⟩ := h; exact (by decide : 3 ≤ 4)) ?_
  intro X as σ K h C Y M _
  obtain ⟨I, F, B, n, nm, p, rfl, rfl, henv, hK1, hK2⟩ := h
  have d1 := henv.2.1
  have d2 := henv.2.2.1
  have d3 := henv.2.2.2.1
  have hS := S_X2_name C Y M
  by_cases h1 : m_in nm 0 5 = 0
  · refine a_wps hS (inv := a_iv X [23]) a_ivh 60 _ _ _ _ _ _ ?_
    exact ⟨nm, rfl, fun _ => hK1 (Or.inl h1), fun w => absurd h1 w⟩
  obtain ⟨j, hj, rfl⟩ := m_in_n (b := 5) (by decide) h1
  have cj : (nI j).toNatClampNeg = j := nI_clamp (by omega)
  have hv : vp_in (nI j) 6 := vp_in_nI (by omega) (by decide)
  have tail : (p = -1 ∨ ¬ m_in p 0 (nI n - 1) = 0) → a_J X 23 [some (.inr (some 0)), some (.inl (nI j)), some (.inl p), none] [] (a_mk I F B) 0 0 := by
    intro hp
    have hK := hK2 j (by omega) rfl hp
    have hr : (if m_in p 0 (nI n - 1) = 0 then none else F 3 p.toNatClampNeg) = l_ref p := by
      rcases hp with rfl | hp
      · rw [if_pos (show m_in (-1) 0 (nI n - 1) = 0 from if_pos (by decide))]
        exact (if_pos rfl).symm
      · exact l_num henv.1.1 d2 (l_inp henv.1.1 hp)
    have hcast : ∀ h', (if m_in p 0 (nI n - 1) = 0 then none else F 3 p.toNatClampNeg) = some h' → a_is (a_mk I F B) h' 1 7 = true := by
      intro h' e
      by_cases hz : m_in p 0 (nI n - 1) = 0
      · rw [if_pos hz] at e; cases e
      · rw [if_neg hz] at e
        obtain ⟨i, hi, rfl⟩ := l_inp henv.1.1 hz
        have hi60 : i < 60 := Nat.lt_of_lt_of_le hi henv.1.1
        rw [w_pc hi60, d2 i hi] at e
        cases e
        exact l_is (by omega) (by omega) (d3 i hi).1
    rw [← hr, ← u_2e (Or.inl rfl), ← cj] at hK
    by_cases hz : F 2 (nI j).toNatClampNeg = none
    · rw [if_pos hz] at hK
      exact a_wp1 hS a_ivh (inv := a_iv X [23]) 60 23 _ rfl ⟨hv, fun _ => ⟨I, F, B, n, p, rfl, rfl, d1, henv.1.1, hv, hcast, hK⟩, fun w => absurd hz w⟩
    · rw [if_neg hz] at hK
      exact a_wp1 hS a_ivh (inv := a_iv X [23]) 60 23 _ rfl ⟨hv, fun w => absurd w hz, fun _ => ⟨I, F, B, n, p, rfl, rfl, d1, henv.1.1, hv, hcast, hK⟩⟩
  refine a_wps hS (inv := a_iv X [23]) a_ivh 60 _ _ _ _ _ _ ?_
  exact ⟨nI j, rfl, fun w => absurd w h1, fun _ => ⟨fun h2 => tail (Or.inl h2), fun h2 => ⟨I, F, B, n, p, rfl, rfl, d1, henv.1.1, fun h3 => hK1 (Or.inr ⟨h2, h3⟩), fun h3 => tail (Or.inr h3)⟩⟩⟩
end LX

