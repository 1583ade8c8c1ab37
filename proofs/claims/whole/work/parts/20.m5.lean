/-! ===== the reference's loops over the cloth; pattern; weave ===== -/
def a_iv (X : a_X) (hs : List Nat) : Nat → Option (aL → List aV → aS → Nat → Nat → Prop) := fun pc => match hs.elem pc with
  | true => some (fun L st σ kc ks => a_J X pc L st σ kc ks)
  | false => none
theorem a_ivh {X : a_X} {hs : List Nat} : ∀ pc I, a_iv X hs pc = some I → ∀ L st σ kc ks, I L st σ kc ks → a_J X pc L st σ kc ks := by
  intro pc I e L st σ kc ks h
  unfold a_iv at e
  split at e
  · cases e; exact h
  · cases e
def c_n (C : Nat → Int32) (v : Int32) : Nat → Nat
  | 0 => 0
  | k + 1 => c_n C v k + (if C k = v then 1 else 0)
theorem c_n_le (C : Nat → Int32) (v : Int32) : ∀ k, c_n C v k ≤ k
  | 0 => Nat.le_refl _
  | k + 1 => by
    have := c_n_le C v k
    show c_n C v k + (if C k = v then 1 else 0) ≤ k + 1
    split <;> omega
def sp_X3_manyOf : aP := fun as σ K => ∃ I F B sz v, σ = a_mk I F B ∧ as = [.inr (some 16), .inl v] ∧ I 16 23 = nI sz ∧ sz ≤ 144 ∧ K (some (.inl (nI (c_n (I 38) v sz)))) σ
theorem rc_X3_manyOf : ∀ as σ K, sp_X3_manyOf as σ K → ∃ h As, as = .inr (some h) :: As ∧ a_is σ h 3 25 = true := by
  rintro as σ K ⟨I, F, B, sz, v, rfl, rfl, -⟩
  exact ⟨16, _, rfl, rfl⟩
def P_X3_manyOf (K : aK) (bc bs : Nat) : List (Nat × aT) := [(0, t_ic 0 1),
  (1, t_ist 2 2),
  (2, t_ic 0 3),
  (3, t_ist 3 4),
  (4, t_ild 3 5),
  (5, t_ald 0 6),
  (6, t_geti 3 25 23 9),
  (9, t_ifc (fun x y => y ≤ x) 36 12),
  (12, t_ild 2 13),
  (13, t_ald 0 14),
  (14, t_getr 3 25 22 17),
  (17, t_ild 3 18),
  (18, t_iald 19),
  (19, t_ild 1 20),
  (20, t_ifc (fun x y => x = y) 23 27),
  (23, t_ic 1 24),
  (24, t_goto 28),
  (27, t_ic 0 28),
  (28, t_add 29),
  (29, t_ist 2 30),
  (30, t_iinc 3 1 33),
  (33, t_goto 4),
  (36, t_ild 2 37),
  (37, t_iret K bc bs)]
set_option maxRecDepth 100000 in
theorem S_X3_manyOf {X : a_X} {K : aK} {l : Launch} {D : va_G} {G : aG} {N0 : Nat} (C : a_C X cX3_manyOf (some .int) RX3) (Y : a_Y X l (a_rm 1 0 0) D G N0) (M : a_mq X K (a_rm 1 0 0).cells (a_rm 1 0 0).slots) : ∀ x ∈ P_X3_manyOf K 0 0, a_Sd X x.1 x.2 := by
  unfold P_X3_manyOf
  refine List.forall_mem_cons.mpr ⟨s_ic C dX3_manyOf_0 (by decide), ?_⟩
  refine List.forall_mem_cons.mpr ⟨s_istn C dX3_manyOf_1 rfl, ?_⟩
  refine List.forall_mem_cons.mpr ⟨s_ic C dX3_manyOf_2 (by decide), ?_⟩
  refine List.forall_mem_cons.mpr ⟨s_istn C dX3_manyOf_3 rfl, ?_⟩
  refine List.forall_mem_cons.mpr ⟨s_ildn C dX3_manyOf_4 rfl, ?_⟩
  refine List.forall_mem_cons.mpr ⟨s_aldn C dX3_manyOf_5 rfl, ?_⟩
  refine List.forall_mem_cons.mpr ⟨s_geti C rfl in_X3 (by decide) lk_X3_129 rfl dX3_manyOf_6, ?_⟩
  refine List.forall_mem_cons.mpr ⟨s_icmp_ge C dX3_manyOf_9 (by decide), ?_⟩
  refine List.forall_mem_cons.mpr ⟨s_ildn C dX3_manyOf_12 rfl, ?_⟩
  refine List.forall_mem_cons.mpr ⟨s_aldn C dX3_manyOf_13 rfl, ?_⟩
  refine List.forall_mem_cons.mpr ⟨s_getr C rfl in_X3 (by decide) lk_X3_52 rfl dX3_manyOf_14, ?_⟩
  refine List.forall_mem_cons.mpr ⟨s_ildn C dX3_manyOf_17 rfl, ?_⟩
  refine List.forall_mem_cons.mpr ⟨s_iald C dX3_manyOf_18, ?_⟩
  refine List.forall_mem_cons.mpr ⟨s_ildn C dX3_manyOf_19 rfl, ?_⟩
  refine List.forall_mem_cons.mpr ⟨s_icmp_ne C dX3_manyOf_20 (by decide), ?_⟩
  refine List.forall_mem_cons.mpr ⟨s_ic C dX3_manyOf_23 (by decide), ?_⟩
  refine List.forall_mem_cons.mpr ⟨s_goto C dX3_manyOf_24 (by decide), ?_⟩
  refine List.forall_mem_cons.mpr ⟨s_ic C dX3_manyOf_27 (by decide), ?_⟩
  refine List.forall_mem_cons.mpr ⟨s_add C dX3_manyOf_28, ?_⟩
  refine List.forall_mem_cons.mpr ⟨s_istn C dX3_manyOf_29 rfl, ?_⟩
  refine List.forall_mem_cons.mpr ⟨s_iinc C dX3_manyOf_30 (by decide), ?_⟩
  refine List.forall_mem_cons.mpr ⟨s_goto C dX3_manyOf_33 (by decide), ?_⟩
  refine List.forall_mem_cons.mpr ⟨s_ildn C dX3_manyOf_36 rfl, ?_⟩
  refine List.forall_mem_cons.mpr ⟨s_iret C M dX3_manyOf_37, ?_⟩
  exact fun _ h => absurd h List.not_mem_nil
set_option maxRecDepth 20000 in
theorem con_X3_manyOf {l : Launch} {D : va_G} {G : aG} {N0 : Nat} : a_Con l D G N0 yX3_manyOf cX3_manyOf 4 (some .int) (a_rm 1 0 0) sp_X3_manyOf := by
  refine a_con (by decide) (fun as σ K h => by obtain ⟨I, F, B, sz, v, rfl, rfl, -⟩ := h; exact (by decide : 2 ≤ 4)) ?_
  intro X as σ K h C Y M _
  obtain ⟨I, F, B, sz, v, rfl, rfl, hsz, hle, hK⟩ := h
  have hS := S_X3_manyOf C Y M
  have loop : ∀ m i, i + m = sz → a_J X 4 [some (.inr (some 16)), some (.inl v), some (.inl (nI (c_n (I 38) v i))), some (.inl (nI i))] [] (a_mk I F B) 0 0 := by
    intro m
    induction m with
    | zero =>
      intro i hi
      have hi : i = sz := by omega
      subst hi
      exact a_wp1 hS a_ivh (inv := a_iv X [4]) 40 4 _ rfl ⟨fun _ => hK, fun w => absurd (show I 16 23 ≤ nI i by rw [hsz]; exact Int32.le_refl _) w⟩
    | succ m ih =>
      intro i hi
      have hlt : i < sz := by omega
      have hn : ¬ I 16 23 ≤ nI i := by rw [hsz]; exact nI_ge hlt (by omega)
      have hcl : (nI i).toNatClampNeg = i := nI_clamp (by omega)
      have hv : vp_in (nI i) 144 := vp_in_nI (by omega) (by decide)
      have ih := ih (i + 1) (by omega)
      refine a_wp1 hS a_ivh (inv := a_iv X [4]) 40 4 _ rfl ⟨fun w => absurd w hn, fun _ => ⟨hv, fun h => ?_, fun h => ?_⟩⟩
      · have h : I 38 (nI i).toNatClampNeg = v := h
        rw [hcl] at h
        rw [show c_n (I 38) v (i + 1) = c_n (I 38) v i + 1 by show c_n (I 38) v i + (if _ then _ else _) = _; rw [if_pos h], ← nI_1 i, ← nI_1] at ih
        exact ih
      · have h : ¬ I 38 (nI i).toNatClampNeg = v := h
        rw [hcl] at h
        rw [show c_n (I 38) v (i + 1) = c_n (I 38) v i by show c_n (I 38) v i + (if _ then _ else _) = _; rw [if_neg h]; rfl, ← nI_1 i, ← Int32.add_zero (nI (c_n (I 38) v i))] at ih
        exact ih
  exact a_wps hS (inv := a_iv X [4]) a_ivh 20 _ _ _ _ _ _ (loop sz 0 (by omega))
def c_g (C : Nat → Int32) (wd : Nat) : Nat → Nat
  | 0 => 0
  | k + 1 => c_g C wd k + (if ¬ k % wd = 0 ∧ ¬ C k = C (k - 1) then 1 else 0)
def sp_X3_changes : aP := fun as σ K => ∃ I F B sz wd, σ = a_mk I F B ∧ as = [.inr (some 16)] ∧ I 16 23 = nI sz ∧ I 16 24 = nI wd ∧ sz ≤ 144 ∧ wd ≤ 12 ∧ (0 < sz → 0 < wd) ∧ K (some (.inl (nI (c_g (I 38) wd sz)))) σ
theorem rc_X3_changes : ∀ as σ K, sp_X3_changes as σ K → ∃ h As, as = .inr (some h) :: As ∧ a_is σ h 3 25 = true := by
  rintro as σ K ⟨I, F, B, sz, v, rfl, rfl, -⟩
  exact ⟨16, _, rfl, rfl⟩
theorem a_remN {a d : Nat} (ha : a < 2 ^ 31) (h0 : 0 < d) (hd : d < 2 ^ 31) : a_rem (nI a) (nI d) = nI (a % d) := pk_rem ha h0 hd
def P_X3_changes (K : aK) (bc bs : Nat) : List (Nat × aT) := [(0, t_ic 0 1),
  (1, t_ist 1 2),
  (2, t_ic 0 3),
  (3, t_ist 2 4),
  (4, t_ild 2 5),
  (5, t_ald 0 6),
  (6, t_geti 3 25 23 9),
  (9, t_ifc (fun x y => y ≤ x) 52 12),
  (12, t_ild 1 13),
  (13, t_ild 2 14),
  (14, t_ald 0 15),
  (15, t_geti 3 25 24 18),
  (18, t_rem 19),
  (19, t_if (fun x => x ≤ 0) 43 22),
  (22, t_ald 0 23),
  (23, t_getr 3 25 22 26),
  (26, t_ild 2 27),
  (27, t_iald 28),
  (28, t_ald 0 29),
  (29, t_getr 3 25 22 32),
  (32, t_ild 2 33),
  (33, t_ic 1 34),
  (34, t_sub 35),
  (35, t_iald 36),
  (36, t_ifc (fun x y => x = y) 43 39),
  (39, t_ic 1 40),
  (40, t_goto 44),
  (43, t_ic 0 44),
  (44, t_add 45),
  (45, t_ist 1 46),
  (46, t_iinc 2 1 49),
  (49, t_goto 4),
  (52, t_ild 1 53),
  (53, t_iret K bc bs)]
set_option maxRecDepth 100000 in
theorem S_X3_changes {X : a_X} {K : aK} {l : Launch} {D : va_G} {G : aG} {N0 : Nat} (C : a_C X cX3_changes (some .int) RX3) (Y : a_Y X l (a_rm 1 0 0) D G N0) (M : a_mq X K (a_rm 1 0 0).cells (a_rm 1 0 0).slots) : ∀ x ∈ P_X3_changes K 0 0, a_Sd X x.1 x.2 := by
  unfold P_X3_changes
  refine List.forall_mem_cons.mpr ⟨s_ic C dX3_changes_0 (by decide), ?_⟩
  refine List.forall_mem_cons.mpr ⟨s_istn C dX3_changes_1 rfl, ?_⟩
  refine List.forall_mem_cons.mpr ⟨s_ic C dX3_changes_2 (by decide), ?_⟩
  refine List.forall_mem_cons.mpr ⟨s_istn C dX3_changes_3 rfl, ?_⟩
  refine List.forall_mem_cons.mpr ⟨s_ildn C dX3_changes_4 rfl, ?_⟩
  refine List.forall_mem_cons.mpr ⟨s_aldn C dX3_changes_5 rfl, ?_⟩
  refine List.forall_mem_cons.mpr ⟨s_geti C rfl in_X3 (by decide) lk_X3_129 rfl dX3_changes_6, ?_⟩
  refine List.forall_mem_cons.mpr ⟨s_icmp_ge C dX3_changes_9 (by decide), ?_⟩
  refine List.forall_mem_cons.mpr ⟨s_ildn C dX3_changes_12 rfl, ?_⟩
  refine List.forall_mem_cons.mpr ⟨s_ildn C dX3_changes_13 rfl, ?_⟩
  refine List.forall_mem_cons.mpr ⟨s_aldn C dX3_changes_14 rfl, ?_⟩
  refine List.forall_mem_cons.mpr ⟨s_geti C rfl in_X3 (by decide) lk_X3_132 rfl dX3_changes_15, ?_⟩
  refine List.forall_mem_cons.mpr ⟨s_rem C dX3_changes_18, ?_⟩
  refine List.forall_mem_cons.mpr ⟨s_if_le C dX3_changes_19 (by decide), ?_⟩
  refine List.forall_mem_cons.mpr ⟨s_aldn C dX3_changes_22 rfl, ?_⟩
  refine List.forall_mem_cons.mpr ⟨s_getr C rfl in_X3 (by decide) lk_X3_52 rfl dX3_changes_23, ?_⟩
  refine List.forall_mem_cons.mpr ⟨s_ildn C dX3_changes_26 rfl, ?_⟩
  refine List.forall_mem_cons.mpr ⟨s_iald C dX3_changes_27, ?_⟩
  refine List.forall_mem_cons.mpr ⟨s_aldn C dX3_changes_28 rfl, ?_⟩
  refine List.forall_mem_cons.mpr ⟨s_getr C rfl in_X3 (by decide) lk_X3_52 rfl dX3_changes_29, ?_⟩
  refine List.forall_mem_cons.mpr ⟨s_ildn C dX3_changes_32 rfl, ?_⟩
  refine List.forall_mem_cons.mpr ⟨s_ic C dX3_changes_33 (by decide), ?_⟩
  refine List.forall_mem_cons.mpr ⟨s_sub C dX3_changes_34, ?_⟩
  refine List.forall_mem_cons.mpr ⟨s_iald C dX3_changes_35, ?_⟩
  refine List.forall_mem_cons.mpr ⟨s_icmp_eq C dX3_changes_36 (by decide), ?_⟩
  refine List.forall_mem_cons.mpr ⟨s_ic C dX3_changes_39 (by decide), ?_⟩
  refine List.forall_mem_cons.mpr ⟨s_goto C dX3_changes_40 (by decide), ?_⟩
  refine List.forall_mem_cons.mpr ⟨s_ic C dX3_changes_43 (by decide), ?_⟩
  refine List.forall_mem_cons.mpr ⟨s_add C dX3_changes_44, ?_⟩
  refine List.forall_mem_cons.mpr ⟨s_istn C dX3_changes_45 rfl, ?_⟩
  refine List.forall_mem_cons.mpr ⟨s_iinc C dX3_changes_46 (by decide), ?_⟩
  refine List.forall_mem_cons.mpr ⟨s_goto C dX3_changes_49 (by decide), ?_⟩
  refine List.forall_mem_cons.mpr ⟨s_ildn C dX3_changes_52 rfl, ?_⟩
  refine List.forall_mem_cons.mpr ⟨s_iret C M dX3_changes_53, ?_⟩
  exact fun _ h => absurd h List.not_mem_nil
set_option maxRecDepth 20000 in
theorem con_X3_changes {l : Launch} {D : va_G} {G : aG} {N0 : Nat} : a_Con l D G N0 yX3_changes cX3_changes 3 (some .int) (a_rm 1 0 0) sp_X3_changes := by
  refine a_con (by decide) (fun as σ K h => by obtain ⟨I, F, B, sz, v, rfl, rfl, -⟩ := h; exact (by decide : 1 ≤ 3)) ?_
  intro X as σ K h C Y M _
  obtain ⟨I, F, B, sz, wd, rfl, rfl, hsz, hwd, hle, hw12, hw0, hK⟩ := h
  have hS := S_X3_changes C Y M
  have loop : ∀ m i, i + m = sz → a_J X 4 [some (.inr (some 16)), some (.inl (nI (c_g (I 38) wd i))), some (.inl (nI i))] [] (a_mk I F B) 0 0 := by
    intro m
    induction m with
    | zero =>
      intro i hi
      have hi : i = sz := by omega
      subst hi
      exact a_wp1 hS a_ivh (inv := a_iv X [4]) 40 4 _ rfl ⟨fun _ => hK, fun w => absurd (show I 16 23 ≤ nI i by rw [hsz]; exact Int32.le_refl _) w⟩
    | succ m ih =>
      intro i hi
      have hlt : i < sz := by omega
      have hn : ¬ I 16 23 ≤ nI i := by rw [hsz]; exact nI_ge hlt (by omega)
      have hcl : (nI i).toNatClampNeg = i := nI_clamp (by omega)
      have hv : vp_in (nI i) 144 := vp_in_nI (by omega) (by decide)
      have hwp : 0 < wd := hw0 (by omega)
      have hwne : ¬ I 16 24 = 0 := by rw [hwd]; exact nI_ne0 hwp (by omega)
      have erem : a_rem (nI i) (I 16 24) = nI (i % wd) := by rw [hwd]; exact a_remN (by omega) hwp (by omega)
      have ih := ih (i + 1) (by omega)
      refine a_wp1 hS a_ivh (inv := a_iv X [4]) 40 4 _ rfl ⟨fun w => absurd w hn, fun _ => ⟨hwne, fun h => ?_, fun h => ?_⟩⟩
      · have h : a_rem (nI i) (I 16 24) ≤ 0 := h
        rw [erem] at h
        have hz : i % wd = 0 := by
          rcases Nat.eq_zero_or_pos (i % wd) with z | z
          · exact z
          · exact absurd h (nI_nle z (by have := Nat.mod_lt i hwp; omega))
        rw [show c_g (I 38) wd (i + 1) = c_g (I 38) wd i by show c_g (I 38) wd i + (if _ then _ else _) = _; rw [if_neg (fun w => w.1 hz)]; rfl, ← nI_1 i, ← Int32.add_zero (nI (c_g (I 38) wd i))] at ih
        exact ih
      · have h : ¬ a_rem (nI i) (I 16 24) ≤ 0 := h
        rw [erem] at h
        have hz : ¬ i % wd = 0 := fun z => h (by rw [z]; decide)
        have hi0 : 0 < i := by
          rcases Nat.eq_zero_or_pos i with z | z
          · subst z; rw [Nat.zero_mod] at hz; exact absurd rfl hz
          · exact z
        obtain ⟨i', rfl⟩ : ∃ i', i = i' + 1 := ⟨i - 1, by omega⟩
        have hcl2 : (nI (i' + 1) - 1).toNatClampNeg = i' := by rw [nI_pred]; exact nI_clamp (by omega)
        refine ⟨hv, by show vp_in (nI (i' + 1) - 1) 144; rw [nI_pred]; exact vp_in_nI (by omega) (by decide), fun h2 => ?_, fun h2 => ?_⟩
        · have h2 : I 38 (nI (i' + 1)).toNatClampNeg = I 38 (nI (i' + 1) - 1).toNatClampNeg := h2
          rw [hcl, hcl2] at h2
          rw [show c_g (I 38) wd (i' + 1 + 1) = c_g (I 38) wd (i' + 1) by show c_g (I 38) wd (i' + 1) + (if _ then _ else _) = _; rw [if_neg (fun w => w.2 h2)]; rfl, ← nI_1 (i' + 1), ← Int32.add_zero (nI (c_g (I 38) wd (i' + 1)))] at ih
          exact ih
        · have h2 : ¬ I 38 (nI (i' + 1)).toNatClampNeg = I 38 (nI (i' + 1) - 1).toNatClampNeg := h2
          rw [hcl, hcl2] at h2
          rw [show c_g (I 38) wd (i' + 1 + 1) = c_g (I 38) wd (i' + 1) + 1 by show c_g (I 38) wd (i' + 1) + (if _ then _ else _) = _; rw [if_pos ⟨hz, h2⟩], ← nI_1 (i' + 1), ← nI_1 (c_g (I 38) wd (i' + 1))] at ih
          exact ih
  exact a_wps hS (inv := a_iv X [4]) a_ivh 20 _ _ _ _ _ _ (loop sz 0 (by omega))
/-- the best so far: colour and how often -/
def c_b (C : Nat → Int32) (sz : Nat) : Nat → Int32 × Nat
  | 0 => (0, 0)
  | k + 1 => if c_n C (C k) sz ≤ (c_b C sz k).2 then c_b C sz k else (C k, c_n C (C k) sz)
theorem c_b_le (C : Nat → Int32) (sz : Nat) : ∀ k, (c_b C sz k).2 ≤ sz
  | 0 => Nat.zero_le _
  | k + 1 => by
    show (if c_n C (C k) sz ≤ (c_b C sz k).2 then c_b C sz k else (C k, c_n C (C k) sz)).2 ≤ sz
    split
    · exact c_b_le C sz k
    · exact c_n_le _ _ _
def sp_X3_most : aP := fun as σ K => ∃ I F B sz, σ = a_mk I F B ∧ as = [.inr (some 16)] ∧ I 16 23 = nI sz ∧ sz ≤ 144 ∧ K (some (.inl (c_b (I 38) sz sz).1)) σ
theorem rc_X3_most : ∀ as σ K, sp_X3_most as σ K → ∃ h As, as = .inr (some h) :: As ∧ a_is σ h 3 25 = true := by
  rintro as σ K ⟨I, F, B, sz, rfl, rfl, -⟩
  exact ⟨16, _, rfl, rfl⟩
def P_X3_most (K : aK) (bc bs : Nat) : List (Nat × aT) := [(0, t_ic 0 1),
  (1, t_ist 1 2),
  (2, t_ic 0 3),
  (3, t_ist 2 4),
  (4, t_ic 0 5),
  (5, t_ist 3 6),
  (6, t_ild 3 7),
  (7, t_ald 0 8),
  (8, t_geti 3 25 23 11),
  (11, t_ifc (fun x y => y ≤ x) 48 14),
  (14, t_ald 0 15),
  (15, t_ald 0 16),
  (16, t_getr 3 25 22 19),
  (19, t_ild 3 20),
  (20, t_iald 21),
  (21, t_call 2 0 0 bc bs sp_X3_manyOf 24),
  (24, t_ist 4 26),
  (26, t_ild 4 28),
  (28, t_ild 2 29),
  (29, t_ifc (fun x y => x ≤ y) 42 32),
  (32, t_ild 4 34),
  (34, t_ist 2 35),
  (35, t_ald 0 36),
  (36, t_getr 3 25 22 39),
  (39, t_ild 3 40),
  (40, t_iald 41),
  (41, t_ist 1 42),
  (42, t_iinc 3 1 45),
  (45, t_goto 6),
  (48, t_ild 1 49),
  (49, t_iret K bc bs)]
set_option maxRecDepth 100000 in
theorem S_X3_most {X : a_X} {K : aK} {l : Launch} {D : va_G} {G : aG} {N0 : Nat} (C : a_C X cX3_most (some .int) RX3) (Y : a_Y X l (a_rm 2 0 0) D G N0) (M : a_mq X K (a_rm 2 0 0).cells (a_rm 2 0 0).slots) : ∀ x ∈ P_X3_most K 0 0, a_Sd X x.1 x.2 := by
  unfold P_X3_most
  refine List.forall_mem_cons.mpr ⟨s_ic C dX3_most_0 (by decide), ?_⟩
  refine List.forall_mem_cons.mpr ⟨s_istn C dX3_most_1 rfl, ?_⟩
  refine List.forall_mem_cons.mpr ⟨s_ic C dX3_most_2 (by decide), ?_⟩
  refine List.forall_mem_cons.mpr ⟨s_istn C dX3_most_3 rfl, ?_⟩
  refine List.forall_mem_cons.mpr ⟨s_ic C dX3_most_4 (by decide), ?_⟩
  refine List.forall_mem_cons.mpr ⟨s_istn C dX3_most_5 rfl, ?_⟩
  refine List.forall_mem_cons.mpr ⟨s_ildn C dX3_most_6 rfl, ?_⟩
  refine List.forall_mem_cons.mpr ⟨s_aldn C dX3_most_7 rfl, ?_⟩
  refine List.forall_mem_cons.mpr ⟨s_geti C rfl in_X3 (by decide) lk_X3_129 rfl dX3_most_8, ?_⟩
  refine List.forall_mem_cons.mpr ⟨s_icmp_ge C dX3_most_11 (by decide), ?_⟩
  refine List.forall_mem_cons.mpr ⟨s_aldn C dX3_most_14 rfl, ?_⟩
  refine List.forall_mem_cons.mpr ⟨s_aldn C dX3_most_15 rfl, ?_⟩
  refine List.forall_mem_cons.mpr ⟨s_getr C rfl in_X3 (by decide) lk_X3_52 rfl dX3_most_16, ?_⟩
  refine List.forall_mem_cons.mpr ⟨s_ildn C dX3_most_19 rfl, ?_⟩
  refine List.forall_mem_cons.mpr ⟨s_iald C dX3_most_20, ?_⟩
  refine List.forall_mem_cons.mpr ⟨s_callV (rm := (a_rm 1 0 0)) (n := 1) C Y (ci := 3) rfl con_X3_manyOf rc_X3_manyOf co_X3_manyOf ml_X3_135 im_X3_manyOf se_X3_manyOf ii_X3 (by decide +kernel) ⟨by decide, by decide⟩ ⟨rfl, rfl⟩ dX3_most_21, ?_⟩
  refine List.forall_mem_cons.mpr ⟨s_ist C dX3_most_24, ?_⟩
  refine List.forall_mem_cons.mpr ⟨s_ild C dX3_most_26, ?_⟩
  refine List.forall_mem_cons.mpr ⟨s_ildn C dX3_most_28 rfl, ?_⟩
  refine List.forall_mem_cons.mpr ⟨s_icmp_le C dX3_most_29 (by decide), ?_⟩
  refine List.forall_mem_cons.mpr ⟨s_ild C dX3_most_32, ?_⟩
  refine List.forall_mem_cons.mpr ⟨s_istn C dX3_most_34 rfl, ?_⟩
  refine List.forall_mem_cons.mpr ⟨s_aldn C dX3_most_35 rfl, ?_⟩
  refine List.forall_mem_cons.mpr ⟨s_getr C rfl in_X3 (by decide) lk_X3_52 rfl dX3_most_36, ?_⟩
  refine List.forall_mem_cons.mpr ⟨s_ildn C dX3_most_39 rfl, ?_⟩
  refine List.forall_mem_cons.mpr ⟨s_iald C dX3_most_40, ?_⟩
  refine List.forall_mem_cons.mpr ⟨s_istn C dX3_most_41 rfl, ?_⟩
  refine List.forall_mem_cons.mpr ⟨s_iinc C dX3_most_42 (by decide), ?_⟩
  refine List.forall_mem_cons.mpr ⟨s_goto C dX3_most_45 (by decide), ?_⟩
  refine List.forall_mem_cons.mpr ⟨s_ildn C dX3_most_48 rfl, ?_⟩
  refine List.forall_mem_cons.mpr ⟨s_iret C M dX3_most_49, ?_⟩
  exact fun _ h => absurd h List.not_mem_nil
set_option maxRecDepth 20000 in
theorem con_X3_most {l : Launch} {D : va_G} {G : aG} {N0 : Nat} : a_Con l D G N0 yX3_most cX3_most 5 (some .int) (a_rm 2 0 0) sp_X3_most := by
  refine a_con (by decide) (fun as σ K h => by obtain ⟨I, F, B, sz, rfl, rfl, -⟩ := h; exact (by decide : 1 ≤ 5)) ?_
  intro X as σ K h C Y M _
  obtain ⟨I, F, B, sz, rfl, rfl, hsz, hle, hK⟩ := h
  have hS := S_X3_most C Y M
  have loop : ∀ m i (q : Option aV), i + m = sz → a_J X 6 [some (.inr (some 16)), some (.inl (c_b (I 38) sz i).1), some (.inl (nI (c_b (I 38) sz i).2)), some (.inl (nI i)), q] [] (a_mk I F B) 0 0 := by
    intro m
    induction m with
    | zero =>
      intro i q hi
      have hi : i = sz := by omega
      subst hi
      exact a_wp1 hS a_ivh (inv := a_iv X [6]) 40 6 _ rfl ⟨fun _ => hK, fun w => absurd (show I 16 23 ≤ nI i by rw [hsz]; exact Int32.le_refl _) w⟩
    | succ m ih =>
      intro i q hi
      have hlt : i < sz := by omega
      have hn : ¬ I 16 23 ≤ nI i := by rw [hsz]; exact nI_ge hlt (by omega)
      have hcl : (nI i).toNatClampNeg = i := nI_clamp (by omega)
      have hv : vp_in (nI i) 144 := vp_in_nI (by omega) (by decide)
      have b1 := c_n_le (I 38) (I 38 i) sz
      have b2 := c_b_le (I 38) sz i
      refine a_wp1 hS a_ivh (inv := a_iv X [6]) 40 6 _ rfl ⟨fun w => absurd w hn, fun _ => ⟨hv, I, F, B, sz, I 38 i, rfl, ?_, hsz, hle, fun h => ?_, fun h => ⟨hv, ?_⟩⟩⟩
      · show [Sum.inr (some 16), Sum.inl (I 38 (nI i).toNatClampNeg)] = _
        rw [hcl]
      · have h : nI (c_n (I 38) (I 38 i) sz) ≤ nI (c_b (I 38) sz i).2 := h
        have h := (nI_leI (by omega) (by omega)).mp h
        have ih := ih (i + 1) (some (.inl (nI (c_n (I 38) (I 38 i) sz)))) (by omega)
        rw [show c_b (I 38) sz (i + 1) = c_b (I 38) sz i from if_pos h, ← nI_1 i] at ih
        exact ih
      · have h : ¬ nI (c_n (I 38) (I 38 i) sz) ≤ nI (c_b (I 38) sz i).2 := h
        have h : ¬ c_n (I 38) (I 38 i) sz ≤ (c_b (I 38) sz i).2 := fun w => h ((nI_leI (by omega) (by omega)).mpr w)
        have ih := ih (i + 1) (some (.inl (nI (c_n (I 38) (I 38 i) sz)))) (by omega)
        rw [show c_b (I 38) sz (i + 1) = (I 38 i, c_n (I 38) (I 38 i) sz) from if_neg h, ← nI_1 i] at ih
        show a_J X 6 [some (.inr (some 16)), some (.inl (I 38 (nI i).toNatClampNeg)), some (.inl (nI (c_n (I 38) (I 38 i) sz))), some (.inl (nI i + 1)), some (.inl (nI (c_n (I 38) (I 38 i) sz)))] [] (a_mk I F B) 0 0
        rw [hcl]
        exact ih
  exact a_wps hS (inv := a_iv X [6]) a_ivh 20 _ _ _ _ _ _ (loop sz 0 none (by omega))

