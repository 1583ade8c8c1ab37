/-! ===== the class's telling, whole ===== -/
section LU
variable {l : Launch} {D : va_G} {G : aG} {N0 : Nat} {E : Nat}
def sp_X2_tellStripes : aP := fun as σ K => ∃ M F B p x s, σ = a_mk (l_p M 0 s) F B ∧ as = [.inr (some 0), .inr (some (66 + p)), .inl x] ∧ p < 60 ∧ B (66 + p) = true ∧ M (66 + p) 1 = M 18 p ∧ M (66 + p) 2 = M 19 p ∧ M (66 + p) 3 = M 20 p ∧
  ∀ R : tR, R = (if M 20 p = 0 then ((1, 0, s) : tR) else (0, if a_rem (x / M 20 p) 2 = 0 then M 18 p else M 19 p, s)) → ∀ r : Int32, (R.1 = 0 → r = R.2.1) → K (some (.inl r)) (a_mk (l_p M R.1 R.2.2) F B)
theorem rc_X2_tellStripes : ∀ as σ K, sp_X2_tellStripes as σ K → ∃ h As, as = .inr (some h) :: As ∧ a_is σ h 2 10 = true := by
  rintro as σ K ⟨M, F, B, p, x, s, rfl, rfl, -⟩
  exact ⟨0, _, rfl, rfl⟩
def P_X2_tellStripes (K : aK) (bc bs : Nat) : List (Nat × aT) := [(0, t_ald 1 1),
  (1, t_geti 1 7 3 4),
  (4, t_if (fun x => x = 0) 7 13),
  (7, t_ald 0 8),
  (8, t_ic 1 9),
  (9, t_call 2 0 0 bc bs sp_X2_fail 12),
  (12, t_iret K bc bs),
  (13, t_ild 2 14),
  (14, t_ald 1 15),
  (15, t_geti 1 7 3 18),
  (18, t_div 19),
  (19, t_ic 2 20),
  (20, t_rem 21),
  (21, t_if (fun x => x = 0) 24 31),
  (24, t_ald 1 25),
  (25, t_geti 1 7 1 28),
  (28, t_goto 35),
  (31, t_ald 1 32),
  (32, t_geti 1 7 2 35),
  (35, t_iret K bc bs)]
set_option maxRecDepth 100000 in
theorem S_X2_tellStripes {X : a_X} {K : aK} {l : Launch} {D : va_G} {G : aG} {N0 : Nat} (C : a_C X cX2_tellStripes (some .int) RX2) (Y : a_Y X l (a_rm 2 0 0) D G N0) (M : a_mq X K (a_rm 2 0 0).cells (a_rm 2 0 0).slots) : ∀ x ∈ P_X2_tellStripes K 0 0, a_Sd X x.1 x.2 := by
  unfold P_X2_tellStripes
  refine List.forall_mem_cons.mpr ⟨s_aldn C dX2_tellStripes_0 rfl, ?_⟩
  refine List.forall_mem_cons.mpr ⟨s_geti C rfl in_X1 (by decide) lk_X2_136 rfl dX2_tellStripes_1, ?_⟩
  refine List.forall_mem_cons.mpr ⟨s_if_ne C dX2_tellStripes_4 (by decide), ?_⟩
  refine List.forall_mem_cons.mpr ⟨s_aldn C dX2_tellStripes_7 rfl, ?_⟩
  refine List.forall_mem_cons.mpr ⟨s_ic C dX2_tellStripes_8 (by decide), ?_⟩
  refine List.forall_mem_cons.mpr ⟨s_callV (rm := (a_rm 1 0 0)) (n := 1) C Y (ci := 2) rfl con_X2_fail rc_X2_fail co_X2_fail ml_X2_117 im_X2_fail se_X2_fail ii_X2 (by decide +kernel) ⟨by decide, by decide⟩ ⟨rfl, rfl⟩ dX2_tellStripes_9, ?_⟩
  refine List.forall_mem_cons.mpr ⟨s_iret C M dX2_tellStripes_12, ?_⟩
  refine List.forall_mem_cons.mpr ⟨s_ildn C dX2_tellStripes_13 rfl, ?_⟩
  refine List.forall_mem_cons.mpr ⟨s_aldn C dX2_tellStripes_14 rfl, ?_⟩
  refine List.forall_mem_cons.mpr ⟨s_geti C rfl in_X1 (by decide) lk_X2_136 rfl dX2_tellStripes_15, ?_⟩
  refine List.forall_mem_cons.mpr ⟨s_div C dX2_tellStripes_18, ?_⟩
  refine List.forall_mem_cons.mpr ⟨s_ic C dX2_tellStripes_19 (by decide), ?_⟩
  refine List.forall_mem_cons.mpr ⟨s_rem C dX2_tellStripes_20, ?_⟩
  refine List.forall_mem_cons.mpr ⟨s_if_ne C dX2_tellStripes_21 (by decide), ?_⟩
  refine List.forall_mem_cons.mpr ⟨s_aldn C dX2_tellStripes_24 rfl, ?_⟩
  refine List.forall_mem_cons.mpr ⟨s_geti C rfl in_X1 (by decide) lk_X2_123 rfl dX2_tellStripes_25, ?_⟩
  refine List.forall_mem_cons.mpr ⟨s_goto C dX2_tellStripes_28 (by decide), ?_⟩
  refine List.forall_mem_cons.mpr ⟨s_aldn C dX2_tellStripes_31 rfl, ?_⟩
  refine List.forall_mem_cons.mpr ⟨s_geti C rfl in_X1 (by decide) lk_X2_133 rfl dX2_tellStripes_32, ?_⟩
  refine List.forall_mem_cons.mpr ⟨s_iret C M dX2_tellStripes_35, ?_⟩
  exact fun _ h => absurd h List.not_mem_nil
set_option maxRecDepth 20000 in
theorem con_X2_tellStripes : a_Con l D G N0 yX2_tellStripes cX2_tellStripes 3 (some .int) (a_rm 2 0 0) sp_X2_tellStripes := by
  refine a_con (by decide) (fun as σ K h => by obtain ⟨M, F, B, p, x, s, rfl, rfl, -⟩ := h; exact Nat.le_refl _) ?_
  intro X as σ K h C Y M _
  obtain ⟨M', F, B, p, x, s, rfl, rfl, hp, hB, e1, e2, e3, hK⟩ := h
  have hi : ∀ I, a_is (a_mk I F B) (66 + p) 1 7 = true := fun I => l_is (by omega) (by omega) hB
  have f1 : l_p M' 0 s (66 + p) 1 = M' 18 p := by rw [lp_g (by decide), e1]
  have f2 : l_p M' 0 s (66 + p) 2 = M' 19 p := by rw [lp_g (by decide), e2]
  have f3 : l_p M' 0 s (66 + p) 3 = M' 20 p := by rw [lp_g (by decide), e3]
  refine a_wps (S_X2_tellStripes C Y M) (inv := a_ni) a_nih 40 _ _ _ _ _ _ ?_
  refine a_gi (hi _) ⟨fun h => ?_, fun h => ?_⟩
  · have h : l_p M' 0 s (66 + p) 3 = 0 := h
    rw [f3] at h
    have hK2 := hK (1, 0, s) (if_pos h).symm 0 (fun w => absurd w z_1)
    have hK2 : K (some (.inl 0)) (a_mk (l_p M' 1 s) F B) := hK2
    rw [← lp_6 (f := 0)] at hK2
    exact ⟨_, F, B, 1, rfl, rfl, hK2⟩
  · have h : ¬ l_p M' 0 s (66 + p) 3 = 0 := h
    refine a_gi (hi _) ⟨h, by decide, fun h2 => a_gi (hi _) ?_, fun h2 => a_gi (hi _) ?_⟩
    · have h2 : a_rem (x / l_p M' 0 s (66 + p) 3) 2 = 0 := h2
      have hK2 := hK _ (if_neg (by rw [← f3]; exact h)).symm (M' 18 p) (fun _ => by rw [if_pos (by rw [← f3]; exact h2)])
      rw [← f1] at hK2
      exact hK2
    · have h2 : ¬ a_rem (x / l_p M' 0 s (66 + p) 3) 2 = 0 := h2
      have hK2 := hK _ (if_neg (by rw [← f3]; exact h)).symm (M' 19 p) (fun _ => by rw [if_neg (by rw [← f3]; exact h2)])
      rw [← f2] at hK2
      exact hK2
def sp_X2_tellTwill : aP := fun as σ K => ∃ M F B p x y s, σ = a_mk (l_p M 0 s) F B ∧ as = [.inr (some 0), .inr (some (66 + p)), .inl x, .inl y] ∧ p < 60 ∧ B (66 + p) = true ∧ M (66 + p) 1 = M 18 p ∧ M (66 + p) 2 = M 19 p ∧ M (66 + p) 3 = M 20 p ∧
  ∀ R : tR, R = (if M 19 p = 0 then ((1, 0, s) : tR) else (0, a_rem (x + M 18 p * y) (M 19 p) + M 20 p, s)) → ∀ r : Int32, (R.1 = 0 → r = R.2.1) → K (some (.inl r)) (a_mk (l_p M R.1 R.2.2) F B)
theorem rc_X2_tellTwill : ∀ as σ K, sp_X2_tellTwill as σ K → ∃ h As, as = .inr (some h) :: As ∧ a_is σ h 2 10 = true := by
  rintro as σ K ⟨M, F, B, p, x, y, s, rfl, rfl, -⟩
  exact ⟨0, _, rfl, rfl⟩
def P_X2_tellTwill (K : aK) (bc bs : Nat) : List (Nat × aT) := [(0, t_ald 1 1),
  (1, t_geti 1 7 2 4),
  (4, t_if (fun x => x = 0) 7 13),
  (7, t_ald 0 8),
  (8, t_ic 1 9),
  (9, t_call 2 0 0 bc bs sp_X2_fail 12),
  (12, t_iret K bc bs),
  (13, t_ild 2 14),
  (14, t_ald 1 15),
  (15, t_geti 1 7 1 18),
  (18, t_ild 3 19),
  (19, t_mul 20),
  (20, t_add 21),
  (21, t_ald 1 22),
  (22, t_geti 1 7 2 25),
  (25, t_rem 26),
  (26, t_ald 1 27),
  (27, t_geti 1 7 3 30),
  (30, t_add 31),
  (31, t_iret K bc bs)]
set_option maxRecDepth 100000 in
theorem S_X2_tellTwill {X : a_X} {K : aK} {l : Launch} {D : va_G} {G : aG} {N0 : Nat} (C : a_C X cX2_tellTwill (some .int) RX2) (Y : a_Y X l (a_rm 2 0 0) D G N0) (M : a_mq X K (a_rm 2 0 0).cells (a_rm 2 0 0).slots) : ∀ x ∈ P_X2_tellTwill K 0 0, a_Sd X x.1 x.2 := by
  unfold P_X2_tellTwill
  refine List.forall_mem_cons.mpr ⟨s_aldn C dX2_tellTwill_0 rfl, ?_⟩
  refine List.forall_mem_cons.mpr ⟨s_geti C rfl in_X1 (by decide) lk_X2_133 rfl dX2_tellTwill_1, ?_⟩
  refine List.forall_mem_cons.mpr ⟨s_if_ne C dX2_tellTwill_4 (by decide), ?_⟩
  refine List.forall_mem_cons.mpr ⟨s_aldn C dX2_tellTwill_7 rfl, ?_⟩
  refine List.forall_mem_cons.mpr ⟨s_ic C dX2_tellTwill_8 (by decide), ?_⟩
  refine List.forall_mem_cons.mpr ⟨s_callV (rm := (a_rm 1 0 0)) (n := 1) C Y (ci := 2) rfl con_X2_fail rc_X2_fail co_X2_fail ml_X2_117 im_X2_fail se_X2_fail ii_X2 (by decide +kernel) ⟨by decide, by decide⟩ ⟨rfl, rfl⟩ dX2_tellTwill_9, ?_⟩
  refine List.forall_mem_cons.mpr ⟨s_iret C M dX2_tellTwill_12, ?_⟩
  refine List.forall_mem_cons.mpr ⟨s_ildn C dX2_tellTwill_13 rfl, ?_⟩
  refine List.forall_mem_cons.mpr ⟨s_aldn C dX2_tellTwill_14 rfl, ?_⟩
  refine List.forall_mem_cons.mpr ⟨s_geti C rfl in_X1 (by decide) lk_X2_123 rfl dX2_tellTwill_15, ?_⟩
  refine List.forall_mem_cons.mpr ⟨s_ildn C dX2_tellTwill_18 rfl, ?_⟩
  refine List.forall_mem_cons.mpr ⟨s_mul C dX2_tellTwill_19, ?_⟩
  refine List.forall_mem_cons.mpr ⟨s_add C dX2_tellTwill_20, ?_⟩
  refine List.forall_mem_cons.mpr ⟨s_aldn C dX2_tellTwill_21 rfl, ?_⟩
  refine List.forall_mem_cons.mpr ⟨s_geti C rfl in_X1 (by decide) lk_X2_133 rfl dX2_tellTwill_22, ?_⟩
  refine List.forall_mem_cons.mpr ⟨s_rem C dX2_tellTwill_25, ?_⟩
  refine List.forall_mem_cons.mpr ⟨s_aldn C dX2_tellTwill_26 rfl, ?_⟩
  refine List.forall_mem_cons.mpr ⟨s_geti C rfl in_X1 (by decide) lk_X2_136 rfl dX2_tellTwill_27, ?_⟩
  refine List.forall_mem_cons.mpr ⟨s_add C dX2_tellTwill_30, ?_⟩
  refine List.forall_mem_cons.mpr ⟨s_iret C M dX2_tellTwill_31, ?_⟩
  exact fun _ h => absurd h List.not_mem_nil
set_option maxRecDepth 20000 in
theorem con_X2_tellTwill : a_Con l D G N0 yX2_tellTwill cX2_tellTwill 4 (some .int) (a_rm 2 0 0) sp_X2_tellTwill := by
  refine a_con (by decide) (fun as σ K h => by obtain ⟨M, F, B, p, x, y, s, rfl, rfl, -⟩ := h; exact Nat.le_refl _) ?_
  intro X as σ K h C Y M _
  obtain ⟨M', F, B, p, x, y, s, rfl, rfl, hp, hB, e1, e2, e3, hK⟩ := h
  have hi : ∀ I, a_is (a_mk I F B) (66 + p) 1 7 = true := fun I => l_is (by omega) (by omega) hB
  have f1 : l_p M' 0 s (66 + p) 1 = M' 18 p := by rw [lp_g (by decide), e1]
  have f2 : l_p M' 0 s (66 + p) 2 = M' 19 p := by rw [lp_g (by decide), e2]
  have f3 : l_p M' 0 s (66 + p) 3 = M' 20 p := by rw [lp_g (by decide), e3]
  refine a_wps (S_X2_tellTwill C Y M) (inv := a_ni) a_nih 40 _ _ _ _ _ _ ?_
  refine a_gi (hi _) ⟨fun h => ?_, fun h => ?_⟩
  · have h : l_p M' 0 s (66 + p) 2 = 0 := h
    rw [f2] at h
    have hK2 := hK (1, 0, s) (if_pos h).symm 0 (fun w => absurd w z_1)
    have hK2 : K (some (.inl 0)) (a_mk (l_p M' 1 s) F B) := hK2
    rw [← lp_6 (f := 0)] at hK2
    exact ⟨_, F, B, 1, rfl, rfl, hK2⟩
  · have h : ¬ l_p M' 0 s (66 + p) 2 = 0 := h
    have hK2 := hK _ (if_neg (by rw [← f2]; exact h)).symm _ (fun _ => rfl)
    have hK2 : K (some (.inl (a_rem (x + M' 18 p * y) (M' 19 p) + M' 20 p))) (a_mk (l_p M' 0 s) F B) := hK2
    rw [← f1, ← f2, ← f3] at hK2
    exact a_gi (hi _) (a_gi (hi _) ⟨h, a_gi (hi _) hK2⟩)
def sp_X2_colourOf : aP := fun as σ K => ∃ I F B h i, σ = a_mk I F B ∧ as = [.inr (some 0), .inr (some h), .inl i] ∧ a_is σ h 4 8 = true ∧ (m_in i 0 7 = 0 → K (some (.inl 0)) (a_mk (a_w I 0 6 2) F B)) ∧ (¬ m_in i 0 7 = 0 → K (some (.inl (I h i.toNatClampNeg))) σ)
theorem rc_X2_colourOf : ∀ as σ K, sp_X2_colourOf as σ K → ∃ h As, as = .inr (some h) :: As ∧ a_is σ h 2 10 = true := by
  rintro as σ K ⟨I, F, B, h, i, rfl, rfl, -⟩
  exact ⟨0, _, rfl, rfl⟩
theorem l_lt7 (v : Int32) : ¬ v < (8 : Int32) ↔ (7 : Int32) < v := by
  rw [Int32.not_lt]
  exact l_iff3 v 7 (by decide)
def P_X2_colourOf (K : aK) (bc bs : Nat) : List (Nat × aT) := [(0, t_ald 1 1),
  (1, t_ifnull 14 4),
  (4, t_ild 2 5),
  (5, t_if (fun x => x < 0) 14 8),
  (8, t_ild 2 9),
  (9, t_ald 1 10),
  (10, t_alen 11),
  (11, t_ifc (fun x y => x < y) 20 14),
  (14, t_ald 0 15),
  (15, t_ic 2 16),
  (16, t_call 2 0 0 bc bs sp_X2_fail 19),
  (19, t_iret K bc bs),
  (20, t_ald 1 21),
  (21, t_ild 2 22),
  (22, t_iald 23),
  (23, t_iret K bc bs)]
set_option maxRecDepth 100000 in
theorem S_X2_colourOf {X : a_X} {K : aK} {l : Launch} {D : va_G} {G : aG} {N0 : Nat} (C : a_C X cX2_colourOf (some .int) RX2) (Y : a_Y X l (a_rm 2 0 0) D G N0) (M : a_mq X K (a_rm 2 0 0).cells (a_rm 2 0 0).slots) : ∀ x ∈ P_X2_colourOf K 0 0, a_Sd X x.1 x.2 := by
  unfold P_X2_colourOf
  refine List.forall_mem_cons.mpr ⟨s_aldn C dX2_colourOf_0 rfl, ?_⟩
  refine List.forall_mem_cons.mpr ⟨s_ifnull C dX2_colourOf_1 (by decide), ?_⟩
  refine List.forall_mem_cons.mpr ⟨s_ildn C dX2_colourOf_4 rfl, ?_⟩
  refine List.forall_mem_cons.mpr ⟨s_if_lt C dX2_colourOf_5 (by decide), ?_⟩
  refine List.forall_mem_cons.mpr ⟨s_ildn C dX2_colourOf_8 rfl, ?_⟩
  refine List.forall_mem_cons.mpr ⟨s_aldn C dX2_colourOf_9 rfl, ?_⟩
  refine List.forall_mem_cons.mpr ⟨s_alen C dX2_colourOf_10, ?_⟩
  refine List.forall_mem_cons.mpr ⟨s_icmp_lt C dX2_colourOf_11 (by decide), ?_⟩
  refine List.forall_mem_cons.mpr ⟨s_aldn C dX2_colourOf_14 rfl, ?_⟩
  refine List.forall_mem_cons.mpr ⟨s_ic C dX2_colourOf_15 (by decide), ?_⟩
  refine List.forall_mem_cons.mpr ⟨s_callV (rm := (a_rm 1 0 0)) (n := 1) C Y (ci := 2) rfl con_X2_fail rc_X2_fail co_X2_fail ml_X2_117 im_X2_fail se_X2_fail ii_X2 (by decide +kernel) ⟨by decide, by decide⟩ ⟨rfl, rfl⟩ dX2_colourOf_16, ?_⟩
  refine List.forall_mem_cons.mpr ⟨s_iret C M dX2_colourOf_19, ?_⟩
  refine List.forall_mem_cons.mpr ⟨s_aldn C dX2_colourOf_20 rfl, ?_⟩
  refine List.forall_mem_cons.mpr ⟨s_ildn C dX2_colourOf_21 rfl, ?_⟩
  refine List.forall_mem_cons.mpr ⟨s_iald C dX2_colourOf_22, ?_⟩
  refine List.forall_mem_cons.mpr ⟨s_iret C M dX2_colourOf_23, ?_⟩
  exact fun _ h => absurd h List.not_mem_nil
set_option maxRecDepth 20000 in
theorem con_X2_colourOf : a_Con l D G N0 yX2_colourOf cX2_colourOf 3 (some .int) (a_rm 2 0 0) sp_X2_colourOf := by
  refine a_con (by decide) (fun as σ K h => by obtain ⟨I, F, B, h, i, rfl, rfl, -⟩ := h; exact Nat.le_refl _) ?_
  intro X as σ K h C Y M _
  obtain ⟨I, F, B, hh, i, rfl, rfl, his, hK0, hK1⟩ := h
  obtain ⟨g1, g2, g3⟩ := a_isE his
  have hA : a_isA (a_mk I F B) hh 4 = true := by
    show (a_LV B hh && (kd hh).1 == 4) = true
    rw [g2, show a_LV B hh = true from g1]
    rfl
  refine a_wps (S_X2_colourOf C Y M) (inv := a_ni) a_nih 40 _ _ _ _ _ _ ?_
  refine ⟨fun w => (by cases w), fun _ => ⟨fun h1 => ?_, fun h1 => a_gi hA ⟨fun h2 => ?_, fun h2 => ?_⟩⟩⟩
  · exact ⟨_, F, B, 2, rfl, rfl, hK0 (if_pos h1)⟩
  · have h2 : i < Int32.ofNat (kd hh).2 := h2
    rw [g3] at h2
    have hin : ¬ m_in i 0 7 = 0 := by
      unfold m_in
      rw [if_neg h1, if_neg (fun w => (l_lt7 i).mpr w h2)]
      decide
    obtain ⟨j, hj, rfl⟩ := m_in_n (b := 7) (by decide) hin
    exact a_gi hA ⟨by rw [g3]; exact vp_in_nI (by omega) (by decide), hK1 hin⟩
  · have h2 : ¬ i < Int32.ofNat (kd hh).2 := h2
    rw [g3] at h2
    have hin : m_in i 0 7 = 0 := by
      unfold m_in
      rw [if_neg h1, if_pos ((l_lt7 i).mp h2)]
    exact ⟨_, F, B, 2, rfl, rfl, hK0 hin⟩
theorem l_dy {I : Nat → Nat → Int32} {F : Nat → Nat → Option Nat} {B : Nat → Bool} {d : Nat} (hd : d < 4) : a_is (a_mk I F B) (6 + d) 4 8 = true := by
  rcases (show d = 0 ∨ d = 1 ∨ d = 2 ∨ d = 3 by omega) with rfl | rfl | rfl | rfl <;> rfl
theorem l_fr {I : Nat → Nat → Int32} {F : Nat → Nat → Option Nat} {B : Nat → Bool} {p : Nat} (hB : B (128 + p) = true) : a_is (a_mk I F B) (128 + p) 4 8 = true := by
  have e : kd (128 + p) = (4, 8) := by
    unfold kd
    rw [if_neg (by omega), if_neg (by omega)]
  show (a_LV B (128 + p) && ((kd (128 + p)).1 == 4 && (kd (128 + p)).2 == 8)) = true
  rw [l_lv (by omega) hB, e]
  rfl
theorem l_SR {F : Nat → Nat → Option Nat} {h k : Nat} (h1 : 17 ≤ h) : a_SR F h k = F h k := by
  unfold a_SR
  rw [if_neg (by omega), if_neg (by omega), if_neg (by omega), if_neg (by omega)]
/-- the row that a pattern looks its colours up in -/
def sp_X2_rowOf : aP := fun as σ K => ∃ I F B h, σ = a_mk I F B ∧ as = [.inr (some 0), .inr (some h)] ∧ 64 ≤ h ∧ h < 126 ∧ B h = true ∧ (I h 0 = 8 → K (some (.inr (F h 4))) σ) ∧ (¬ I h 0 = 8 → ∃ d, d < 4 ∧ I h 2 = nI d ∧ K (some (.inr (some (6 + d)))) σ)
theorem rc_X2_rowOf : ∀ as σ K, sp_X2_rowOf as σ K → ∃ h As, as = .inr (some h) :: As ∧ a_is σ h 2 10 = true := by
  rintro as σ K ⟨I, F, B, h, rfl, rfl, -⟩
  exact ⟨0, _, rfl, rfl⟩
def P_X2_rowOf (K : aK) (bc bs : Nat) : List (Nat × aT) := [(0, t_ald 1 1),
  (1, t_geti 1 7 0 4),
  (4, t_ic 8 6),
  (6, t_ifc (fun x y => x = y) 9 14),
  (9, t_ald 1 10),
  (10, t_getr 1 7 4 13),
  (13, t_aret K bc bs),
  (14, t_ald 1 15),
  (15, t_geti 1 7 2 18),
  (18, t_call 1 0 0 bc bs sp_X2_isDye 21),
  (21, t_if (fun x => x = 0) 36 24),
  (24, t_ald 0 25),
  (25, t_getr 2 10 0 28),
  (28, t_ald 1 29),
  (29, t_geti 1 7 2 32),
  (32, t_aald 33),
  (33, t_goto 37),
  (36, t_null 37),
  (37, t_aret K bc bs)]
set_option maxRecDepth 100000 in
theorem S_X2_rowOf {X : a_X} {K : aK} {l : Launch} {D : va_G} {G : aG} {N0 : Nat} (C : a_C X cX2_rowOf (some (.array .int)) RX2) (Y : a_Y X l (a_rm 2 0 0) D G N0) (M : a_mq X K (a_rm 2 0 0).cells (a_rm 2 0 0).slots) : ∀ x ∈ P_X2_rowOf K 0 0, a_Sd X x.1 x.2 := by
  unfold P_X2_rowOf
  refine List.forall_mem_cons.mpr ⟨s_aldn C dX2_rowOf_0 rfl, ?_⟩
  refine List.forall_mem_cons.mpr ⟨s_geti C rfl in_X1 (by decide) lk_X2_120 rfl dX2_rowOf_1, ?_⟩
  refine List.forall_mem_cons.mpr ⟨s_bi C dX2_rowOf_4 (by decide), ?_⟩
  refine List.forall_mem_cons.mpr ⟨s_icmp_ne C dX2_rowOf_6 (by decide), ?_⟩
  refine List.forall_mem_cons.mpr ⟨s_aldn C dX2_rowOf_9 rfl, ?_⟩
  refine List.forall_mem_cons.mpr ⟨s_getr C rfl in_X1 (by decide) lk_X2_172 rfl dX2_rowOf_10, ?_⟩
  refine List.forall_mem_cons.mpr ⟨s_aret C (Or.inr ⟨_, rfl⟩) M dX2_rowOf_13, ?_⟩
  refine List.forall_mem_cons.mpr ⟨s_aldn C dX2_rowOf_14 rfl, ?_⟩
  refine List.forall_mem_cons.mpr ⟨s_geti C rfl in_X1 (by decide) lk_X2_133 rfl dX2_rowOf_15, ?_⟩
  refine List.forall_mem_cons.mpr ⟨s_callS (rm := (a_rm 1 0 0)) C Y con_X2_isDye co_X2_isDye ml_X2_33 st_X2_isDye ii_X2 (by decide +kernel) ⟨by decide, by decide⟩ ⟨rfl, rfl⟩ dX2_rowOf_18, ?_⟩
  refine List.forall_mem_cons.mpr ⟨s_if_eq C dX2_rowOf_21 (by decide), ?_⟩
  refine List.forall_mem_cons.mpr ⟨s_aldn C dX2_rowOf_24 rfl, ?_⟩
  refine List.forall_mem_cons.mpr ⟨s_getr C rfl in_X2 (by decide) lk_X2_11 rfl dX2_rowOf_25, ?_⟩
  refine List.forall_mem_cons.mpr ⟨s_aldn C dX2_rowOf_28 rfl, ?_⟩
  refine List.forall_mem_cons.mpr ⟨s_geti C rfl in_X1 (by decide) lk_X2_133 rfl dX2_rowOf_29, ?_⟩
  refine List.forall_mem_cons.mpr ⟨s_aald C dX2_rowOf_32, ?_⟩
  refine List.forall_mem_cons.mpr ⟨s_goto C dX2_rowOf_33 (by decide), ?_⟩
  refine List.forall_mem_cons.mpr ⟨s_null C dX2_rowOf_36, ?_⟩
  refine List.forall_mem_cons.mpr ⟨s_aret C (Or.inr ⟨_, rfl⟩) M dX2_rowOf_37, ?_⟩
  exact fun _ h => absurd h List.not_mem_nil
set_option maxRecDepth 20000 in
theorem con_X2_rowOf : a_Con l D G N0 yX2_rowOf cX2_rowOf 2 (some (.array .int)) (a_rm 2 0 0) sp_X2_rowOf := by
  refine a_con (by decide) (fun as σ K h => by obtain ⟨I, F, B, h, rfl, rfl, -⟩ := h; exact (by decide : 2 ≤ 2)) ?_
  intro X as σ K h C Y M _
  obtain ⟨I, F, B, h, rfl, rfl, h1, h2, hB, hK1, hK2⟩ := h
  have hi : a_is (a_mk I F B) h 1 7 = true := l_is h1 (by omega) hB
  refine a_wps (S_X2_rowOf C Y M) (inv := a_ni) a_nih 40 _ _ _ _ _ _ ?_
  refine a_gi hi ⟨fun h8 => a_gi hi ?_, fun h8 => ?_⟩
  · have hK := hK1 h8
    rw [← l_SR (F := F) (h := h) (k := 4) (by omega)] at hK
    exact hK
  · obtain ⟨d, hd, ed, hK⟩ := hK2 h8
    have ez : ¬ m_in (I h 2) 0 3 = 0 := by
      rw [ed, show m_in (nI d) 0 3 = 1 from m_in_y (b := 3) (by decide) (by omega)]
      decide
    have hv : vp_in (I h 2) 4 := by
      rw [ed]
      exact vp_in_nI (by omega) (by decide)
    have e : a_SR F 1 (I h 2).toNatClampNeg = some (6 + d) := by
      rw [ed, show (nI d).toNatClampNeg = d from nI_clamp (by omega)]
      exact if_pos (show d < 4 by omega)
    rw [← e] at hK
    exact a_gi hi ⟨I h 2, rfl, fun w => absurd w ez, fun _ => a_gi hi ⟨hv, hK⟩⟩
def sp_X2_tellDyed (E : Nat) : aP := l_g E (fun v => v = 7 ∨ v = 8) (fun M rc p x y s => (if M 17 p = 7 then t_dyed (fun v => M 24 (8 * M 19 p + v).toNatClampNeg) (rc (M 18 p) x y s) else t_dyed (fun v => M 21 (8 * nI p + v).toNatClampNeg) (rc (M 18 p) x y s)))
theorem rc_X2_tellDyed {E : Nat} : ∀ as σ K, sp_X2_tellDyed E as σ K → ∃ h As, as = .inr (some h) :: As ∧ a_is σ h 2 10 = true := l_grc
def P_X2_tellDyed {E : Nat} (K : aK) (bc bs : Nat) : List (Nat × aT) := [(0, t_ald 0 1),
  (1, t_ald 0 2),
  (2, t_ald 1 3),
  (3, t_geti 1 7 1 6),
  (6, t_call 2 0 0 bc bs sp_X2_numbered 9),
  (9, t_ild 2 10),
  (10, t_ild 3 11),
  (11, t_call 4 0 0 bc bs (sp_X2_tell E) 14),
  (14, t_ist 4 16),
  (16, t_ald 0 17),
  (17, t_geti 2 10 6 20),
  (20, t_if (fun x => x = 0) 25 23),
  (23, t_ic 0 24),
  (24, t_iret K bc bs),
  (25, t_ald 0 26),
  (26, t_ald 0 27),
  (27, t_ald 1 28),
  (28, t_call 2 0 0 bc bs sp_X2_rowOf 31),
  (31, t_ild 4 33),
  (33, t_call 3 0 0 bc bs sp_X2_colourOf 36),
  (36, t_iret K bc bs)]
set_option maxRecDepth 100000 in
theorem S_X2_tellDyed {E : Nat} {X : a_X} {K : aK} {l : Launch} {D : va_G} {G : aG} {N0 : Nat} (C : a_C X cX2_tellDyed (some .int) RX2) (Y : a_Y X l (rm_X2_tellX E) D G N0) (M : a_mq X K (rm_X2_tellX E).cells (rm_X2_tellX E).slots) (hT : a_Con l D G N0 yX2_tell cX2_tell 4 (some .int) (rm_X2_tell E) (sp_X2_tell E)) : ∀ x ∈ P_X2_tellDyed (E := E) K 0 0, a_Sd X x.1 x.2 := by
  unfold P_X2_tellDyed
  refine List.forall_mem_cons.mpr ⟨s_aldn C dX2_tellDyed_0 rfl, ?_⟩
  refine List.forall_mem_cons.mpr ⟨s_aldn C dX2_tellDyed_1 rfl, ?_⟩
  refine List.forall_mem_cons.mpr ⟨s_aldn C dX2_tellDyed_2 rfl, ?_⟩
  refine List.forall_mem_cons.mpr ⟨s_geti C rfl in_X1 (by decide) lk_X2_123 rfl dX2_tellDyed_3, ?_⟩
  refine List.forall_mem_cons.mpr ⟨s_callV (rm := (a_rm 2 0 0)) (n := 1) C Y (ci := 2) rfl con_X2_numbered rc_X2_numbered co_X2_numbered ml_X2_68 im_X2_numbered se_X2_numbered ii_X2 (by decide +kernel) (a_hr (by omega) (by decide)) ⟨rfl, rfl⟩ dX2_tellDyed_6, ?_⟩
  refine List.forall_mem_cons.mpr ⟨s_ildn C dX2_tellDyed_9 rfl, ?_⟩
  refine List.forall_mem_cons.mpr ⟨s_ildn C dX2_tellDyed_10 rfl, ?_⟩
  refine List.forall_mem_cons.mpr ⟨s_callV (rm := (rm_X2_tell E)) (n := 3) C Y (ci := 2) rfl hT rc_X2_tell co_X2_tell ml_X2_114 im_X2_tell se_X2_tell ii_X2 (by decide +kernel) (a_hr (by omega) (by decide)) ⟨rfl, rfl⟩ dX2_tellDyed_11, ?_⟩
  refine List.forall_mem_cons.mpr ⟨s_ist C dX2_tellDyed_14, ?_⟩
  refine List.forall_mem_cons.mpr ⟨s_aldn C dX2_tellDyed_16 rfl, ?_⟩
  refine List.forall_mem_cons.mpr ⟨s_geti C rfl in_X2 (by decide) lk_X2_78 rfl dX2_tellDyed_17, ?_⟩
  refine List.forall_mem_cons.mpr ⟨s_if_eq C dX2_tellDyed_20 (by decide), ?_⟩
  refine List.forall_mem_cons.mpr ⟨s_ic C dX2_tellDyed_23 (by decide), ?_⟩
  refine List.forall_mem_cons.mpr ⟨s_iret C M dX2_tellDyed_24, ?_⟩
  refine List.forall_mem_cons.mpr ⟨s_aldn C dX2_tellDyed_25 rfl, ?_⟩
  refine List.forall_mem_cons.mpr ⟨s_aldn C dX2_tellDyed_26 rfl, ?_⟩
  refine List.forall_mem_cons.mpr ⟨s_aldn C dX2_tellDyed_27 rfl, ?_⟩
  refine List.forall_mem_cons.mpr ⟨s_callV (rm := (a_rm 2 0 0)) (n := 1) C Y (ci := 2) rfl con_X2_rowOf rc_X2_rowOf co_X2_rowOf ml_X2_164 im_X2_rowOf se_X2_rowOf ii_X2 (by decide +kernel) (a_hr (by omega) (by decide)) ⟨rfl, rfl⟩ dX2_tellDyed_28, ?_⟩
  refine List.forall_mem_cons.mpr ⟨s_ild C dX2_tellDyed_31, ?_⟩
  refine List.forall_mem_cons.mpr ⟨s_callV (rm := (a_rm 2 0 0)) (n := 2) C Y (ci := 2) rfl con_X2_colourOf rc_X2_colourOf co_X2_colourOf ml_X2_168 im_X2_colourOf se_X2_colourOf ii_X2 (by decide +kernel) (a_hr (by omega) (by decide)) ⟨rfl, rfl⟩ dX2_tellDyed_33, ?_⟩
  refine List.forall_mem_cons.mpr ⟨s_iret C M dX2_tellDyed_36, ?_⟩
  exact fun _ h => absurd h List.not_mem_nil
set_option maxRecDepth 20000 in
theorem con_X2_tellDyed (hT : a_Con l D G N0 yX2_tell cX2_tell 4 (some .int) (rm_X2_tell E) (sp_X2_tell E)) : a_Con l D G N0 yX2_tellDyed cX2_tellDyed 5 (some .int) (rm_X2_tellX E) (sp_X2_tellDyed E) := by
  refine a_con (by decide) (fun as σ K h => by rw [l_gl h]; decide) ?_
  intro X as σ K h C Y M _
  obtain ⟨M', F, B, n, p, x, y, s, k, rfl, rfl, henv, hW, hp, hso, hs, hk, hE, hK⟩ := h
  have hK : ∀ R : tR, R = (if M' 17 p = 7 then t_dyed (fun v => M' 24 (8 * M' 19 p + v).toNatClampNeg) ((tt_T M' E) (M' 18 p) x y s) else t_dyed (fun v => M' 21 (8 * nI p + v).toNatClampNeg) ((tt_T M' E) (M' 18 p) x y s)) → ∀ r : Int32, (R.1 = 0 → r = R.2.1) → K (some (.inl r)) (a_mk (l_p M' R.1 R.2.2) F B) := hK
  have hp60 : p < 60 := Nat.lt_of_lt_of_le hp henv.1.1
  obtain ⟨d1, d2, d3, d5, d6, d7, d8, d9⟩ := id henv.2
  obtain ⟨hB, e0, e1, e2, e3⟩ := d3 p hp
  obtain ⟨so, hs13, hsoo, hva, hvb, hvc, hvd, hvn, hvo⟩ := henv.1.2.1 p hp
  have hi : ∀ I, a_is (a_mk I F B) (66 + p) 1 7 = true := fun I => l_is (by omega) (by omega) hB
  have cd : ∀ {a : Int32}, m_vc n a → m_cd n a := fun h => Or.inr (Or.inr (Or.inr h))
  have hso2 : so = 7 ∨ so = 8 := hso.elim (fun z => Or.inl ((nI_eq (by omega) (by decide)).mp (hsoo.symm.trans z))) (fun z => Or.inr ((nI_eq (by omega) (by decide)).mp (hsoo.symm.trans z)))
  have va : m_vc n (M' 18 p) := hva (by omega) (by omega) (by omega)
  refine a_wps (S_X2_tellDyed C Y M hT) (inv := a_ni) a_nih 60 _ _ _ _ _ _ ?_
  refine a_gi (hi _) ⟨_, F, B, n, _, rfl, rfl, d1, henv.1.1, M', F, B, n, M' 18 p, _, x, y, s, k, rfl, rfl, ?_, henv, hW, cd va, hs, hk, hE, fun R hR r hr => ?_⟩
  · show (if m_in (l_p M' 0 s (66 + p) 1) 0 (nI n - 1) = 0 then none else F 3 (l_p M' 0 s (66 + p) 1).toNatClampNeg) = _
    rw [lp_g (by decide), e1]
    exact l_num henv.1.1 d2 va
  · rw [← hR] at hK
    by_cases hz : R.1 = 0
    · have hrv := hr hz
      by_cases h7 : M' 17 p = 7
      · have hs7 : so = 7 := (nI_eq (by omega) (by decide)).mp (hsoo.symm.trans h7)
        obtain ⟨d, hd, ed⟩ := hvd (Or.inl hs7)
        have w0 : l_p M' R.1 R.2.2 (66 + p) 0 = 7 := by rw [lp_g (by decide), e0, h7]
        have w2 : l_p M' R.1 R.2.2 (66 + p) 2 = nI d := by rw [lp_g (by decide), e2, ed]
        refine ⟨fun _ => ⟨_, F, B, 66 + p, rfl, rfl, by omega, by omega, hB, fun w => absurd (w0.symm.trans w) (by decide), fun _ => ⟨d, hd, w2, _, F, B, 6 + d, r, rfl, rfl, l_dy hd, fun hin => ?_, fun hin => ?_⟩⟩, fun w => absurd hz w⟩
        · have hK2 := hK (2, 0, R.2.2) (by rw [if_pos h7]; unfold t_dyed; rw [if_pos hz, if_pos (by rw [← hrv]; exact hin)]) 0 (fun w => absurd w z_2)
          have hK2 : K (some (.inl 0)) (a_mk (l_p M' 2 R.2.2) F B) := hK2
          rw [← lp_6 (f := R.1)] at hK2
          exact hK2
        · obtain ⟨j, hj, ej⟩ := m_in_n (b := 7) (by decide) hin
          have hK2 := hK (0, M' 24 (8 * M' 19 p + R.2.1).toNatClampNeg, R.2.2) (by rw [if_pos h7]; unfold t_dyed; rw [if_pos hz, if_neg (by rw [← hrv]; exact hin)]) (l_p M' R.1 R.2.2 (6 + d) r.toNatClampNeg) (fun _ => by
            rw [lp_o (by omega) (by omega), ← hrv, ed, ej, a_8 (by omega) (by omega), show (nI j).toNatClampNeg = j from nI_clamp (by omega), show (nI (8 * d + j)).toNatClampNeg = 8 * d + j from nI_clamp (by omega)]
            exact d8 d hd j (by omega))
          have hK2 : K (some (.inl (l_p M' R.1 R.2.2 (6 + d) r.toNatClampNeg))) (a_mk (l_p M' 0 R.2.2) F B) := hK2
          have e9 : l_p M' 0 R.2.2 = l_p M' R.1 R.2.2 := by rw [hz]
          rw [e9] at hK2
          exact hK2
      · have h8 : M' 17 p = 8 := hso.elim (fun z => absurd z h7) id
        obtain ⟨hrow, hBr, hkp⟩ := d5 p hp h8
        have w0 : l_p M' R.1 R.2.2 (66 + p) 0 = 8 := by rw [lp_g (by decide), e0, h8]
        refine ⟨fun _ => ⟨_, F, B, 66 + p, rfl, rfl, by omega, by omega, hB, fun _ => ⟨_, F, B, 128 + p, r, rfl, ?_, l_fr hBr, fun hin => ?_, fun hin => ?_⟩, fun w => absurd w0 w⟩, fun w => absurd hz w⟩
        · show [Sum.inr (some 0), Sum.inr (F (66 + p) 4), Sum.inl r] = _
          rw [hrow]
        · have hK2 := hK (2, 0, R.2.2) (by rw [if_neg h7]; unfold t_dyed; rw [if_pos hz, if_pos (by rw [← hrv]; exact hin)]) 0 (fun w => absurd w z_2)
          have hK2 : K (some (.inl 0)) (a_mk (l_p M' 2 R.2.2) F B) := hK2
          rw [← lp_6 (f := R.1)] at hK2
          exact hK2
        · obtain ⟨j, hj, ej⟩ := m_in_n (b := 7) (by decide) hin
          have hK2 := hK (0, M' 21 (8 * nI p + R.2.1).toNatClampNeg, R.2.2) (by rw [if_neg h7]; unfold t_dyed; rw [if_pos hz, if_neg (by rw [← hrv]; exact hin)]) (l_p M' R.1 R.2.2 (128 + p) r.toNatClampNeg) (fun _ => by
            rw [lp_o (by omega) (by omega), ← hrv, ej, a_8 (by omega) (by omega), show (nI j).toNatClampNeg = j from nI_clamp (by omega), show (nI (8 * p + j)).toNatClampNeg = 8 * p + j from nI_clamp (by omega)]
            exact hkp j (by omega))
          have hK2 : K (some (.inl (l_p M' R.1 R.2.2 (128 + p) r.toNatClampNeg))) (a_mk (l_p M' 0 R.2.2) F B) := hK2
          have e9 : l_p M' 0 R.2.2 = l_p M' R.1 R.2.2 := by rw [hz]
          rw [e9] at hK2
          exact hK2
    · have hK2 := hK R (by
        by_cases h7 : M' 17 p = 7
        · rw [if_pos h7]; exact (if_neg hz).symm
        · rw [if_neg h7]; exact (if_neg hz).symm) 0 (fun w => absurd w hz)
      exact ⟨fun w => absurd w hz, fun _ => hK2⟩
end LU

