/-! ===== the class's small methods ===== -/
theorem l_iff3 (v : Int32) (b : Nat) (hb : b < 1000) : (nI (b + 1) ≤ v ↔ nI b < v) := by
  rw [Int32.le_iff_toInt_le, Int32.lt_iff_toInt_lt, nI_toInt (by omega), nI_toInt (by omega)]
  omega
theorem l_iffp {v : Int32} {n : Nat} (hn : n ≤ 60) (hv : ¬ v < 0) : (nI n ≤ v ↔ nI n - 1 < v) := by
  obtain ⟨j, hj, rfl⟩ := nI_of hv
  cases n with
  | zero =>
    have e : nI 0 - 1 = -1 := by decide
    rw [e]
    exact ⟨fun _ => by rw [Int32.lt_iff_toInt_lt, nI_toInt hj, show (-1 : Int32).toInt = -1 from rfl]; omega, fun _ => nI_le (Nat.zero_le _) hj⟩
  | succ n =>
    rw [nI_pred]
    exact l_iff3 (nI j) n (by omega)
theorem l_lt3 (v : Int32) : (4 : Int32) ≤ v ↔ (3 : Int32) < v := l_iff3 v 3 (by decide)
theorem l_lt5 (v : Int32) : (6 : Int32) ≤ v ↔ (5 : Int32) < v := l_iff3 v 5 (by decide)
section LS
variable {l : Launch} {D : va_G} {G : aG} {N0 : Nat}
def sp_X2_isDye : aP := fun as σ K => ∃ d, as = [.inl d] ∧ K (some (.inl (m_in d 0 3))) σ
def P_X2_isDye (K : aK) (bc bs : Nat) : List (Nat × aT) := [(0, t_ild 0 1),
  (1, t_if (fun x => x < 0) 13 4),
  (4, t_ild 0 5),
  (5, t_ic 4 6),
  (6, t_ifc (fun x y => y ≤ x) 13 9),
  (9, t_ic 1 10),
  (10, t_goto 14),
  (13, t_ic 0 14),
  (14, t_zret K bc bs)]
set_option maxRecDepth 100000 in
theorem S_X2_isDye {X : a_X} {K : aK} {l : Launch} {D : va_G} {G : aG} {N0 : Nat} (C : a_C X cX2_isDye (some .boolean) RX2) (Y : a_Y X l (a_rm 1 0 0) D G N0) (M : a_mq X K (a_rm 1 0 0).cells (a_rm 1 0 0).slots) : ∀ x ∈ P_X2_isDye K 0 0, a_Sd X x.1 x.2 := by
  unfold P_X2_isDye
  refine List.forall_mem_cons.mpr ⟨s_ildn C dX2_isDye_0 rfl, ?_⟩
  refine List.forall_mem_cons.mpr ⟨s_if_lt C dX2_isDye_1 (by decide), ?_⟩
  refine List.forall_mem_cons.mpr ⟨s_ildn C dX2_isDye_4 rfl, ?_⟩
  refine List.forall_mem_cons.mpr ⟨s_ic C dX2_isDye_5 (by decide), ?_⟩
  refine List.forall_mem_cons.mpr ⟨s_icmp_ge C dX2_isDye_6 (by decide), ?_⟩
  refine List.forall_mem_cons.mpr ⟨s_ic C dX2_isDye_9 (by decide), ?_⟩
  refine List.forall_mem_cons.mpr ⟨s_goto C dX2_isDye_10 (by decide), ?_⟩
  refine List.forall_mem_cons.mpr ⟨s_ic C dX2_isDye_13 (by decide), ?_⟩
  refine List.forall_mem_cons.mpr ⟨s_zret C M dX2_isDye_14, ?_⟩
  exact fun _ h => absurd h List.not_mem_nil
theorem con_X2_isDye : a_Con l D G N0 yX2_isDye cX2_isDye 1 (some .boolean) (a_rm 1 0 0) sp_X2_isDye := by
  refine a_con (by decide) (fun as σ K h => by obtain ⟨d, rfl, -⟩ := h; exact Nat.le_refl _) ?_
  intro X as σ K h C Y M _
  obtain ⟨d, rfl, hK⟩ := h
  refine a_wps (S_X2_isDye C Y M) (inv := a_ni) a_nih 20 _ _ _ _ _ _ ?_
  refine ⟨fun h1 => ?_, fun h1 => ⟨fun h2 => ?_, fun h2 => ?_⟩⟩
  · rw [show m_in d 0 3 = 0 from if_pos h1] at hK
    exact ⟨Or.inl rfl, hK⟩
  · rw [show m_in d 0 3 = 0 by unfold m_in; rw [if_neg h1, if_pos ((l_lt3 d).mp h2)]] at hK
    exact ⟨Or.inl rfl, hK⟩
  · rw [show m_in d 0 3 = 1 by unfold m_in; rw [if_neg h1, if_neg (fun w => h2 ((l_lt3 d).mpr w))]] at hK
    exact ⟨Or.inr rfl, hK⟩
def sp_X2_isName : aP := fun as σ K => ∃ d, as = [.inl d] ∧ K (some (.inl (m_in d 0 5))) σ
def P_X2_isName (K : aK) (bc bs : Nat) : List (Nat × aT) := [(0, t_ild 0 1),
  (1, t_if (fun x => x < 0) 14 4),
  (4, t_ild 0 5),
  (5, t_ic 6 7),
  (7, t_ifc (fun x y => y ≤ x) 14 10),
  (10, t_ic 1 11),
  (11, t_goto 15),
  (14, t_ic 0 15),
  (15, t_zret K bc bs)]
set_option maxRecDepth 100000 in
theorem S_X2_isName {X : a_X} {K : aK} {l : Launch} {D : va_G} {G : aG} {N0 : Nat} (C : a_C X cX2_isName (some .boolean) RX2) (Y : a_Y X l (a_rm 1 0 0) D G N0) (M : a_mq X K (a_rm 1 0 0).cells (a_rm 1 0 0).slots) : ∀ x ∈ P_X2_isName K 0 0, a_Sd X x.1 x.2 := by
  unfold P_X2_isName
  refine List.forall_mem_cons.mpr ⟨s_ildn C dX2_isName_0 rfl, ?_⟩
  refine List.forall_mem_cons.mpr ⟨s_if_lt C dX2_isName_1 (by decide), ?_⟩
  refine List.forall_mem_cons.mpr ⟨s_ildn C dX2_isName_4 rfl, ?_⟩
  refine List.forall_mem_cons.mpr ⟨s_bi C dX2_isName_5 (by decide), ?_⟩
  refine List.forall_mem_cons.mpr ⟨s_icmp_ge C dX2_isName_7 (by decide), ?_⟩
  refine List.forall_mem_cons.mpr ⟨s_ic C dX2_isName_10 (by decide), ?_⟩
  refine List.forall_mem_cons.mpr ⟨s_goto C dX2_isName_11 (by decide), ?_⟩
  refine List.forall_mem_cons.mpr ⟨s_ic C dX2_isName_14 (by decide), ?_⟩
  refine List.forall_mem_cons.mpr ⟨s_zret C M dX2_isName_15, ?_⟩
  exact fun _ h => absurd h List.not_mem_nil
theorem con_X2_isName : a_Con l D G N0 yX2_isName cX2_isName 1 (some .boolean) (a_rm 1 0 0) sp_X2_isName := by
  refine a_con (by decide) (fun as σ K h => by obtain ⟨d, rfl, -⟩ := h; exact Nat.le_refl _) ?_
  intro X as σ K h C Y M _
  obtain ⟨d, rfl, hK⟩ := h
  refine a_wps (S_X2_isName C Y M) (inv := a_ni) a_nih 20 _ _ _ _ _ _ ?_
  refine ⟨fun h1 => ?_, fun h1 => ⟨fun h2 => ?_, fun h2 => ?_⟩⟩
  · rw [show m_in d 0 5 = 0 from if_pos h1] at hK
    exact ⟨Or.inl rfl, hK⟩
  · rw [show m_in d 0 5 = 0 by unfold m_in; rw [if_neg h1, if_pos ((l_lt5 d).mp h2)]] at hK
    exact ⟨Or.inl rfl, hK⟩
  · rw [show m_in d 0 5 = 1 by unfold m_in; rw [if_neg h1, if_neg (fun w => h2 ((l_lt5 d).mpr w))]] at hK
    exact ⟨Or.inr rfl, hK⟩
def sp_X2_isSide : aP := fun as σ K => ∃ d, as = [.inl d] ∧ K (some (.inl (m_in d 1 12))) σ
def P_X2_isSide (K : aK) (bc bs : Nat) : List (Nat × aT) := [(0, t_ild 0 1),
  (1, t_ic 1 2),
  (2, t_ifc (fun x y => x < y) 15 5),
  (5, t_ild 0 6),
  (6, t_ic 12 8),
  (8, t_ifc (fun x y => y < x) 15 11),
  (11, t_ic 1 12),
  (12, t_goto 16),
  (15, t_ic 0 16),
  (16, t_zret K bc bs)]
set_option maxRecDepth 100000 in
theorem S_X2_isSide {X : a_X} {K : aK} {l : Launch} {D : va_G} {G : aG} {N0 : Nat} (C : a_C X cX2_isSide (some .boolean) RX2) (Y : a_Y X l (a_rm 1 0 0) D G N0) (M : a_mq X K (a_rm 1 0 0).cells (a_rm 1 0 0).slots) : ∀ x ∈ P_X2_isSide K 0 0, a_Sd X x.1 x.2 := by
  unfold P_X2_isSide
  refine List.forall_mem_cons.mpr ⟨s_ildn C dX2_isSide_0 rfl, ?_⟩
  refine List.forall_mem_cons.mpr ⟨s_ic C dX2_isSide_1 (by decide), ?_⟩
  refine List.forall_mem_cons.mpr ⟨s_icmp_lt C dX2_isSide_2 (by decide), ?_⟩
  refine List.forall_mem_cons.mpr ⟨s_ildn C dX2_isSide_5 rfl, ?_⟩
  refine List.forall_mem_cons.mpr ⟨s_bi C dX2_isSide_6 (by decide), ?_⟩
  refine List.forall_mem_cons.mpr ⟨s_icmp_gt C dX2_isSide_8 (by decide), ?_⟩
  refine List.forall_mem_cons.mpr ⟨s_ic C dX2_isSide_11 (by decide), ?_⟩
  refine List.forall_mem_cons.mpr ⟨s_goto C dX2_isSide_12 (by decide), ?_⟩
  refine List.forall_mem_cons.mpr ⟨s_ic C dX2_isSide_15 (by decide), ?_⟩
  refine List.forall_mem_cons.mpr ⟨s_zret C M dX2_isSide_16, ?_⟩
  exact fun _ h => absurd h List.not_mem_nil
theorem con_X2_isSide : a_Con l D G N0 yX2_isSide cX2_isSide 1 (some .boolean) (a_rm 1 0 0) sp_X2_isSide := by
  refine a_con (by decide) (fun as σ K h => by obtain ⟨d, rfl, -⟩ := h; exact Nat.le_refl _) ?_
  intro X as σ K h C Y M _
  obtain ⟨d, rfl, hK⟩ := h
  refine a_wps (S_X2_isSide C Y M) (inv := a_ni) a_nih 20 _ _ _ _ _ _ ?_
  refine ⟨fun h1 => ?_, fun h1 => ⟨fun h2 => ?_, fun h2 => ?_⟩⟩
  · rw [show m_in d 1 12 = 0 from if_pos h1] at hK
    exact ⟨Or.inl rfl, hK⟩
  · rw [show m_in d 1 12 = 0 by unfold m_in; rw [if_neg h1, if_pos h2]] at hK
    exact ⟨Or.inl rfl, hK⟩
  · rw [show m_in d 1 12 = 1 by unfold m_in; rw [if_neg h1, if_neg h2]] at hK
    exact ⟨Or.inr rfl, hK⟩
def sp_X2_isPattern : aP := fun as σ K => ∃ I F B n p, σ = a_mk I F B ∧ as = [.inr (some 0), .inl p] ∧ I 0 4 = nI n ∧ n ≤ 60 ∧ K (some (.inl (m_in p 0 (nI n - 1)))) σ
theorem rc_X2_isPattern : ∀ as σ K, sp_X2_isPattern as σ K → ∃ h As, as = .inr (some h) :: As ∧ a_is σ h 2 10 = true := by
  rintro as σ K ⟨I, F, B, n, p, rfl, rfl, -⟩
  exact ⟨0, _, rfl, rfl⟩
def P_X2_isPattern (K : aK) (bc bs : Nat) : List (Nat × aT) := [(0, t_ild 1 1),
  (1, t_if (fun x => x < 0) 16 4),
  (4, t_ild 1 5),
  (5, t_ald 0 6),
  (6, t_geti 2 10 4 9),
  (9, t_ifc (fun x y => y ≤ x) 16 12),
  (12, t_ic 1 13),
  (13, t_goto 17),
  (16, t_ic 0 17),
  (17, t_zret K bc bs)]
set_option maxRecDepth 100000 in
theorem S_X2_isPattern {X : a_X} {K : aK} {l : Launch} {D : va_G} {G : aG} {N0 : Nat} (C : a_C X cX2_isPattern (some .boolean) RX2) (Y : a_Y X l (a_rm 1 0 0) D G N0) (M : a_mq X K (a_rm 1 0 0).cells (a_rm 1 0 0).slots) : ∀ x ∈ P_X2_isPattern K 0 0, a_Sd X x.1 x.2 := by
  unfold P_X2_isPattern
  refine List.forall_mem_cons.mpr ⟨s_ildn C dX2_isPattern_0 rfl, ?_⟩
  refine List.forall_mem_cons.mpr ⟨s_if_lt C dX2_isPattern_1 (by decide), ?_⟩
  refine List.forall_mem_cons.mpr ⟨s_ildn C dX2_isPattern_4 rfl, ?_⟩
  refine List.forall_mem_cons.mpr ⟨s_aldn C dX2_isPattern_5 rfl, ?_⟩
  refine List.forall_mem_cons.mpr ⟨s_geti C rfl in_X2 (by decide) lk_X2_49 rfl dX2_isPattern_6, ?_⟩
  refine List.forall_mem_cons.mpr ⟨s_icmp_ge C dX2_isPattern_9 (by decide), ?_⟩
  refine List.forall_mem_cons.mpr ⟨s_ic C dX2_isPattern_12 (by decide), ?_⟩
  refine List.forall_mem_cons.mpr ⟨s_goto C dX2_isPattern_13 (by decide), ?_⟩
  refine List.forall_mem_cons.mpr ⟨s_ic C dX2_isPattern_16 (by decide), ?_⟩
  refine List.forall_mem_cons.mpr ⟨s_zret C M dX2_isPattern_17, ?_⟩
  exact fun _ h => absurd h List.not_mem_nil
theorem con_X2_isPattern : a_Con l D G N0 yX2_isPattern cX2_isPattern 2 (some .boolean) (a_rm 1 0 0) sp_X2_isPattern := by
  refine a_con (by decide) (fun as σ K h => by obtain ⟨I, F, B, n, p, rfl, rfl, -⟩ := h; exact Nat.le_refl _) ?_
  intro X as σ K h C Y M _
  obtain ⟨I, F, B, n, p, rfl, rfl, hn, hle, hK⟩ := h
  refine a_wps (S_X2_isPattern C Y M) (inv := a_ni) a_nih 20 _ _ _ _ _ _ ?_
  refine ⟨fun h1 => ?_, fun h1 => ⟨fun h2 => ?_, fun h2 => ?_⟩⟩
  · rw [show m_in p 0 (nI n - 1) = 0 from if_pos h1] at hK
    exact ⟨Or.inl rfl, hK⟩
  · have h2 : I 0 4 ≤ p := h2
    rw [hn] at h2
    rw [show m_in p 0 (nI n - 1) = 0 by unfold m_in; rw [if_neg h1, if_pos ((l_iffp hle h1).mp h2)]] at hK
    exact ⟨Or.inl rfl, hK⟩
  · have h2 : ¬ I 0 4 ≤ p := h2
    rw [hn] at h2
    rw [show m_in p 0 (nI n - 1) = 1 by unfold m_in; rw [if_neg h1, if_neg (fun w => h2 ((l_iffp hle h1).mpr w))]] at hK
    exact ⟨Or.inr rfl, hK⟩
theorem l_inp {p : Int32} {n : Nat} (hn : n ≤ 60) (h : ¬ m_in p 0 (nI n - 1) = 0) : m_vc n p := by
  unfold m_in at h
  by_cases h1 : p < 0
  · rw [if_pos h1] at h; exact absurd rfl h
  · by_cases h2 : nI n - 1 < p
    · rw [if_neg h1, if_pos h2] at h; exact absurd rfl h
    · have h3 : ¬ nI n ≤ p := fun w => h2 ((l_iffp hn h1).mp w)
      obtain ⟨j, hj, rfl⟩ := nI_of h1
      exact ⟨j, Nat.not_le.mp (fun w => h3 (nI_le w hj)), rfl⟩
theorem l_inv {p : Int32} {n : Nat} (hn : n ≤ 60) (h : m_vc n p) : m_in p 0 (nI n - 1) = 1 := by
  obtain ⟨j, hj, rfl⟩ := h
  have h1 : ¬ nI j < 0 := nI_pos (by omega)
  unfold m_in
  rw [if_neg h1, if_neg (fun w => nI_ge hj (by omega) ((l_iffp hn h1).mpr w))]
def sp_X2_numbered : aP := fun as σ K => ∃ I F B n p, σ = a_mk I F B ∧ as = [.inr (some 0), .inl p] ∧ I 0 4 = nI n ∧ n ≤ 60 ∧ K (some (.inr (if m_in p 0 (nI n - 1) = 0 then none else F 3 p.toNatClampNeg))) σ
theorem rc_X2_numbered : ∀ as σ K, sp_X2_numbered as σ K → ∃ h As, as = .inr (some h) :: As ∧ a_is σ h 2 10 = true := by
  rintro as σ K ⟨I, F, B, n, p, rfl, rfl, -⟩
  exact ⟨0, _, rfl, rfl⟩
def P_X2_numbered (K : aK) (bc bs : Nat) : List (Nat × aT) := [(0, t_ald 0 1),
  (1, t_ild 1 2),
  (2, t_call 2 0 0 bc bs sp_X2_isPattern 5),
  (5, t_if (fun x => x = 0) 17 8),
  (8, t_ald 0 9),
  (9, t_getr 2 10 2 12),
  (12, t_ild 1 13),
  (13, t_aald 14),
  (14, t_goto 18),
  (17, t_null 18),
  (18, t_aret K bc bs)]
set_option maxRecDepth 100000 in
theorem S_X2_numbered {X : a_X} {K : aK} {l : Launch} {D : va_G} {G : aG} {N0 : Nat} (C : a_C X cX2_numbered (some (.object "PatternLoom$Pattern")) RX2) (Y : a_Y X l (a_rm 2 0 0) D G N0) (M : a_mq X K (a_rm 2 0 0).cells (a_rm 2 0 0).slots) : ∀ x ∈ P_X2_numbered K 0 0, a_Sd X x.1 x.2 := by
  unfold P_X2_numbered
  refine List.forall_mem_cons.mpr ⟨s_aldn C dX2_numbered_0 rfl, ?_⟩
  refine List.forall_mem_cons.mpr ⟨s_ildn C dX2_numbered_1 rfl, ?_⟩
  refine List.forall_mem_cons.mpr ⟨s_callV (rm := (a_rm 1 0 0)) (n := 1) C Y (ci := 2) rfl con_X2_isPattern rc_X2_isPattern co_X2_isPattern ml_X2_65 im_X2_isPattern se_X2_isPattern ii_X2 (by decide +kernel) ⟨by decide, by decide⟩ ⟨rfl, rfl⟩ dX2_numbered_2, ?_⟩
  refine List.forall_mem_cons.mpr ⟨s_if_eq C dX2_numbered_5 (by decide), ?_⟩
  refine List.forall_mem_cons.mpr ⟨s_aldn C dX2_numbered_8 rfl, ?_⟩
  refine List.forall_mem_cons.mpr ⟨s_getr C rfl in_X2 (by decide) lk_X2_20 rfl dX2_numbered_9, ?_⟩
  refine List.forall_mem_cons.mpr ⟨s_ildn C dX2_numbered_12 rfl, ?_⟩
  refine List.forall_mem_cons.mpr ⟨s_aald C dX2_numbered_13, ?_⟩
  refine List.forall_mem_cons.mpr ⟨s_goto C dX2_numbered_14 (by decide), ?_⟩
  refine List.forall_mem_cons.mpr ⟨s_null C dX2_numbered_17, ?_⟩
  refine List.forall_mem_cons.mpr ⟨s_aret C (Or.inl ⟨_, rfl⟩) M dX2_numbered_18, ?_⟩
  exact fun _ h => absurd h List.not_mem_nil
theorem con_X2_numbered : a_Con l D G N0 yX2_numbered cX2_numbered 2 (some (.object "PatternLoom$Pattern")) (a_rm 2 0 0) sp_X2_numbered := by
  refine a_con (by decide) (fun as σ K h => by obtain ⟨I, F, B, n, p, rfl, rfl, -⟩ := h; exact Nat.le_refl _) ?_
  intro X as σ K h C Y M _
  obtain ⟨I, F, B, n, p, rfl, rfl, hn, hle, hK⟩ := h
  refine a_wps (S_X2_numbered C Y M) (inv := a_ni) a_nih 20 _ _ _ _ _ _ ?_
  refine ⟨I, F, B, n, p, rfl, rfl, hn, hle, fun h1 => ?_, fun h1 => ?_⟩
  · rw [if_pos h1] at hK; exact hK
  · rw [if_neg h1] at hK
    obtain ⟨j, hj, rfl⟩ := l_inp hle h1
    have hv : vp_in (nI j) 60 := vp_in_nI (by omega) (by decide)
    exact ⟨hv, hK⟩
def sp_X2_named : aP := fun as σ K => ∃ I F B p, σ = a_mk I F B ∧ as = [.inr (some 0), .inl p] ∧ K (some (.inr (if m_in p 0 5 = 0 then none else F 2 p.toNatClampNeg))) σ
theorem rc_X2_named : ∀ as σ K, sp_X2_named as σ K → ∃ h As, as = .inr (some h) :: As ∧ a_is σ h 2 10 = true := by
  rintro as σ K ⟨I, F, B, p, rfl, rfl, -⟩
  exact ⟨0, _, rfl, rfl⟩
def P_X2_named (K : aK) (bc bs : Nat) : List (Nat × aT) := [(0, t_ild 1 1),
  (1, t_call 1 0 0 bc bs sp_X2_isName 4),
  (4, t_if (fun x => x = 0) 16 7),
  (7, t_ald 0 8),
  (8, t_getr 2 10 1 11),
  (11, t_ild 1 12),
  (12, t_aald 13),
  (13, t_goto 17),
  (16, t_null 17),
  (17, t_aret K bc bs)]
set_option maxRecDepth 100000 in
theorem S_X2_named {X : a_X} {K : aK} {l : Launch} {D : va_G} {G : aG} {N0 : Nat} (C : a_C X cX2_named (some (.object "PatternLoom$Pattern")) RX2) (Y : a_Y X l (a_rm 2 0 0) D G N0) (M : a_mq X K (a_rm 2 0 0).cells (a_rm 2 0 0).slots) : ∀ x ∈ P_X2_named K 0 0, a_Sd X x.1 x.2 := by
  unfold P_X2_named
  refine List.forall_mem_cons.mpr ⟨s_ildn C dX2_named_0 rfl, ?_⟩
  refine List.forall_mem_cons.mpr ⟨s_callS (rm := (a_rm 1 0 0)) C Y con_X2_isName co_X2_isName ml_X2_62 st_X2_isName ii_X2 (by decide +kernel) ⟨by decide, by decide⟩ ⟨rfl, rfl⟩ dX2_named_1, ?_⟩
  refine List.forall_mem_cons.mpr ⟨s_if_eq C dX2_named_4 (by decide), ?_⟩
  refine List.forall_mem_cons.mpr ⟨s_aldn C dX2_named_7 rfl, ?_⟩
  refine List.forall_mem_cons.mpr ⟨s_getr C rfl in_X2 (by decide) lk_X2_16 rfl dX2_named_8, ?_⟩
  refine List.forall_mem_cons.mpr ⟨s_ildn C dX2_named_11 rfl, ?_⟩
  refine List.forall_mem_cons.mpr ⟨s_aald C dX2_named_12, ?_⟩
  refine List.forall_mem_cons.mpr ⟨s_goto C dX2_named_13 (by decide), ?_⟩
  refine List.forall_mem_cons.mpr ⟨s_null C dX2_named_16, ?_⟩
  refine List.forall_mem_cons.mpr ⟨s_aret C (Or.inl ⟨_, rfl⟩) M dX2_named_17, ?_⟩
  exact fun _ h => absurd h List.not_mem_nil
theorem con_X2_named : a_Con l D G N0 yX2_named cX2_named 2 (some (.object "PatternLoom$Pattern")) (a_rm 2 0 0) sp_X2_named := by
  refine a_con (by decide) (fun as σ K h => by obtain ⟨I, F, B, p, rfl, rfl, -⟩ := h; exact Nat.le_refl _) ?_
  intro X as σ K h C Y M _
  obtain ⟨I, F, B, p, rfl, rfl, hK⟩ := h
  refine a_wps (S_X2_named C Y M) (inv := a_ni) a_nih 20 _ _ _ _ _ _ ?_
  refine ⟨p, rfl, fun h1 => ?_, fun h1 => ?_⟩
  · rw [if_pos h1] at hK; exact hK
  · rw [if_neg h1] at hK
    obtain ⟨j, hj, rfl⟩ := m_in_n (b := 5) (by decide) h1
    have hv : vp_in (nI j) 6 := vp_in_nI (by omega) (by decide)
    exact ⟨hv, hK⟩
def sp_X2_fits : aP := fun as σ K => ∃ s b, as = [.inl s, .inl b] ∧ (m_bad s b → K (some (.inl 0)) σ) ∧ (¬ m_bad s b → K (some (.inl 1)) σ)
def P_X2_fits (K : aK) (bc bs : Nat) : List (Nat × aT) := [(0, t_ild 0 1),
  (1, t_sw [(4, 36), (10, 51), (12, 68)] 83),
  (36, t_ild 1 37),
  (37, t_if (fun x => x < 0) 49 40),
  (40, t_ild 1 41),
  (41, t_ic 3 42),
  (42, t_ifc (fun x y => y < x) 49 45),
  (45, t_ic 1 46),
  (46, t_goto 50),
  (49, t_ic 0 50),
  (50, t_zret K bc bs),
  (51, t_ild 1 52),
  (52, t_ic 1 53),
  (53, t_ifc (fun x y => x < y) 66 56),
  (56, t_ild 1 57),
  (57, t_ic 50 59),
  (59, t_ifc (fun x y => y < x) 66 62),
  (62, t_ic 1 63),
  (63, t_goto 67),
  (66, t_ic 0 67),
  (67, t_zret K bc bs),
  (68, t_ild 1 69),
  (69, t_if (fun x => x < 0) 81 72),
  (72, t_ild 1 73),
  (73, t_ic 4 74),
  (74, t_ifc (fun x y => y ≤ x) 81 77),
  (77, t_ic 1 78),
  (78, t_goto 82),
  (81, t_ic 0 82),
  (82, t_zret K bc bs),
  (83, t_ic 1 84),
  (84, t_zret K bc bs)]
set_option maxRecDepth 100000 in
theorem S_X2_fits {X : a_X} {K : aK} {l : Launch} {D : va_G} {G : aG} {N0 : Nat} (C : a_C X cX2_fits (some .boolean) RX2) (Y : a_Y X l (a_rm 1 0 0) D G N0) (M : a_mq X K (a_rm 1 0 0).cells (a_rm 1 0 0).slots) : ∀ x ∈ P_X2_fits K 0 0, a_Sd X x.1 x.2 := by
  unfold P_X2_fits
  refine List.forall_mem_cons.mpr ⟨s_ildn C dX2_fits_0 rfl, ?_⟩
  refine List.forall_mem_cons.mpr ⟨s_lsw C dX2_fits_1 (by decide) (a_lok_cons (by decide) (by decide) (a_lok_cons (by decide) (by decide) (a_lok_cons (by decide) (by decide) (a_lok_nil (by decide))))), ?_⟩
  refine List.forall_mem_cons.mpr ⟨s_ildn C dX2_fits_36 rfl, ?_⟩
  refine List.forall_mem_cons.mpr ⟨s_if_lt C dX2_fits_37 (by decide), ?_⟩
  refine List.forall_mem_cons.mpr ⟨s_ildn C dX2_fits_40 rfl, ?_⟩
  refine List.forall_mem_cons.mpr ⟨s_ic C dX2_fits_41 (by decide), ?_⟩
  refine List.forall_mem_cons.mpr ⟨s_icmp_gt C dX2_fits_42 (by decide), ?_⟩
  refine List.forall_mem_cons.mpr ⟨s_ic C dX2_fits_45 (by decide), ?_⟩
  refine List.forall_mem_cons.mpr ⟨s_goto C dX2_fits_46 (by decide), ?_⟩
  refine List.forall_mem_cons.mpr ⟨s_ic C dX2_fits_49 (by decide), ?_⟩
  refine List.forall_mem_cons.mpr ⟨s_zret C M dX2_fits_50, ?_⟩
  refine List.forall_mem_cons.mpr ⟨s_ildn C dX2_fits_51 rfl, ?_⟩
  refine List.forall_mem_cons.mpr ⟨s_ic C dX2_fits_52 (by decide), ?_⟩
  refine List.forall_mem_cons.mpr ⟨s_icmp_lt C dX2_fits_53 (by decide), ?_⟩
  refine List.forall_mem_cons.mpr ⟨s_ildn C dX2_fits_56 rfl, ?_⟩
  refine List.forall_mem_cons.mpr ⟨s_bi C dX2_fits_57 (by decide), ?_⟩
  refine List.forall_mem_cons.mpr ⟨s_icmp_gt C dX2_fits_59 (by decide), ?_⟩
  refine List.forall_mem_cons.mpr ⟨s_ic C dX2_fits_62 (by decide), ?_⟩
  refine List.forall_mem_cons.mpr ⟨s_goto C dX2_fits_63 (by decide), ?_⟩
  refine List.forall_mem_cons.mpr ⟨s_ic C dX2_fits_66 (by decide), ?_⟩
  refine List.forall_mem_cons.mpr ⟨s_zret C M dX2_fits_67, ?_⟩
  refine List.forall_mem_cons.mpr ⟨s_ildn C dX2_fits_68 rfl, ?_⟩
  refine List.forall_mem_cons.mpr ⟨s_if_lt C dX2_fits_69 (by decide), ?_⟩
  refine List.forall_mem_cons.mpr ⟨s_ildn C dX2_fits_72 rfl, ?_⟩
  refine List.forall_mem_cons.mpr ⟨s_ic C dX2_fits_73 (by decide), ?_⟩
  refine List.forall_mem_cons.mpr ⟨s_icmp_ge C dX2_fits_74 (by decide), ?_⟩
  refine List.forall_mem_cons.mpr ⟨s_ic C dX2_fits_77 (by decide), ?_⟩
  refine List.forall_mem_cons.mpr ⟨s_goto C dX2_fits_78 (by decide), ?_⟩
  refine List.forall_mem_cons.mpr ⟨s_ic C dX2_fits_81 (by decide), ?_⟩
  refine List.forall_mem_cons.mpr ⟨s_zret C M dX2_fits_82, ?_⟩
  refine List.forall_mem_cons.mpr ⟨s_ic C dX2_fits_83 (by decide), ?_⟩
  refine List.forall_mem_cons.mpr ⟨s_zret C M dX2_fits_84, ?_⟩
  exact fun _ h => absurd h List.not_mem_nil
theorem con_X2_fits : a_Con l D G N0 yX2_fits cX2_fits 2 (some .boolean) (a_rm 1 0 0) sp_X2_fits := by
  refine a_con (by decide) (fun as σ K h => by obtain ⟨s, b, rfl, -⟩ := h; exact Nat.le_refl _) ?_
  intro X as σ K h C Y M _
  obtain ⟨s, b, rfl, hK0, hK1⟩ := h
  refine a_wps (S_X2_fits C Y M) (inv := a_ni) a_nih 30 _ _ _ _ _ _ ?_
  refine ⟨fun h4 => ?_, fun h4 => ⟨fun h10 => ?_, fun h10 => ⟨fun h12 => ?_, fun h12 => ?_⟩⟩⟩
  · refine ⟨fun h1 => ⟨Or.inl rfl, hK0 (Or.inl ⟨h4, if_pos h1⟩)⟩, fun h1 => ⟨fun h2 => ⟨Or.inl rfl, hK0 (Or.inl ⟨h4, by unfold m_in; rw [if_neg h1, if_pos h2]⟩)⟩, fun h2 => ⟨Or.inr rfl, hK1 (fun w => ?_)⟩⟩⟩
    rcases w with ⟨_, w⟩ | ⟨w, _⟩ | ⟨w, _⟩
    · rw [show m_in b 0 3 = 1 by unfold m_in; rw [if_neg h1, if_neg h2]] at w
      exact absurd w (by decide)
    · exact absurd (h4.symm.trans w) (by decide)
    · exact absurd (h4.symm.trans w) (by decide)
  · refine ⟨fun h1 => ⟨Or.inl rfl, hK0 (Or.inr (Or.inl ⟨h10, if_pos h1⟩))⟩, fun h1 => ⟨fun h2 => ⟨Or.inl rfl, hK0 (Or.inr (Or.inl ⟨h10, by unfold m_in; rw [if_neg h1, if_pos h2]⟩))⟩, fun h2 => ⟨Or.inr rfl, hK1 (fun w => ?_)⟩⟩⟩
    rcases w with ⟨w, _⟩ | ⟨_, w⟩ | ⟨w, _⟩
    · exact absurd (h10.symm.trans w) (by decide)
    · rw [show m_in b 1 50 = 1 by unfold m_in; rw [if_neg h1, if_neg h2]] at w
      exact absurd w (by decide)
    · exact absurd (h10.symm.trans w) (by decide)
  · refine ⟨fun h1 => ⟨Or.inl rfl, hK0 (Or.inr (Or.inr ⟨h12, if_pos h1⟩))⟩, fun h1 => ⟨fun h2 => ⟨Or.inl rfl, hK0 (Or.inr (Or.inr ⟨h12, by unfold m_in; rw [if_neg h1, if_pos ((l_lt3 b).mp h2)]⟩))⟩, fun h2 => ⟨Or.inr rfl, hK1 (fun w => ?_)⟩⟩⟩
    rcases w with ⟨w, _⟩ | ⟨w, _⟩ | ⟨_, w⟩
    · exact absurd (h12.symm.trans w) (by decide)
    · exact absurd (h12.symm.trans w) (by decide)
    · rw [show m_in b 0 3 = 1 by unfold m_in; rw [if_neg h1, if_neg (fun w => h2 ((l_lt3 b).mpr w))]] at w
      exact absurd w (by decide)
  · refine ⟨Or.inr rfl, hK1 (fun w => ?_)⟩
    rcases w with ⟨w, _⟩ | ⟨w, _⟩ | ⟨w, _⟩
    · exact h4 w
    · exact h10 w
    · exact h12 w
def sp_X2_fail : aP := fun as σ K => ∃ I F B b, σ = a_mk I F B ∧ as = [.inr (some 0), .inl b] ∧ K (some (.inl 0)) (a_mk (a_w I 0 6 b) F B)
theorem rc_X2_fail : ∀ as σ K, sp_X2_fail as σ K → ∃ h As, as = .inr (some h) :: As ∧ a_is σ h 2 10 = true := by
  rintro as σ K ⟨I, F, B, p, rfl, rfl, -⟩
  exact ⟨0, _, rfl, rfl⟩
def P_X2_fail (K : aK) (bc bs : Nat) : List (Nat × aT) := [(0, t_ald 0 1),
  (1, t_ild 1 2),
  (2, t_puti 2 10 6 5),
  (5, t_ic 0 6),
  (6, t_iret K bc bs)]
set_option maxRecDepth 100000 in
theorem S_X2_fail {X : a_X} {K : aK} {l : Launch} {D : va_G} {G : aG} {N0 : Nat} (C : a_C X cX2_fail (some .int) RX2) (Y : a_Y X l (a_rm 1 0 0) D G N0) (M : a_mq X K (a_rm 1 0 0).cells (a_rm 1 0 0).slots) : ∀ x ∈ P_X2_fail K 0 0, a_Sd X x.1 x.2 := by
  unfold P_X2_fail
  refine List.forall_mem_cons.mpr ⟨s_aldn C dX2_fail_0 rfl, ?_⟩
  refine List.forall_mem_cons.mpr ⟨s_ildn C dX2_fail_1 rfl, ?_⟩
  refine List.forall_mem_cons.mpr ⟨s_puti C tyX2 tyX2_ok nmX2 rfl in_X2 (by decide) lk_X2_78 rfl (Or.inl rfl) rfl dX2_fail_2, ?_⟩
  refine List.forall_mem_cons.mpr ⟨s_ic C dX2_fail_5 (by decide), ?_⟩
  refine List.forall_mem_cons.mpr ⟨s_iret C M dX2_fail_6, ?_⟩
  exact fun _ h => absurd h List.not_mem_nil
theorem con_X2_fail : a_Con l D G N0 yX2_fail cX2_fail 2 (some .int) (a_rm 1 0 0) sp_X2_fail := by
  refine a_con (by decide) (fun as σ K h => by obtain ⟨I, F, B, p, rfl, rfl, -⟩ := h; exact Nat.le_refl _) ?_
  intro X as σ K h C Y M _
  obtain ⟨I, F, B, b, rfl, rfl, hK⟩ := h
  exact a_wps (S_X2_fail C Y M) (inv := a_ni) a_nih 20 _ _ _ _ _ _ hK
def m_sv (f b : Int32) : Int32 := if f = 4 then 0 else if b = 0 then 1 else if b = f then 1 else 0
def sp_X2_saves : aP := fun as σ K => ∃ I F B b, σ = a_mk I F B ∧ as = [.inr (some 0), .inl b] ∧ K (some (.inl (m_sv (I 0 6) b))) σ
theorem rc_X2_saves : ∀ as σ K, sp_X2_saves as σ K → ∃ h As, as = .inr (some h) :: As ∧ a_is σ h 2 10 = true := by
  rintro as σ K ⟨I, F, B, p, rfl, rfl, -⟩
  exact ⟨0, _, rfl, rfl⟩
def P_X2_saves (K : aK) (bc bs : Nat) : List (Nat × aT) := [(0, t_ald 0 1),
  (1, t_geti 2 10 6 4),
  (4, t_ic 4 5),
  (5, t_ifc (fun x y => x = y) 24 8),
  (8, t_ild 1 9),
  (9, t_if (fun x => x = 0) 20 12),
  (12, t_ild 1 13),
  (13, t_ald 0 14),
  (14, t_geti 2 10 6 17),
  (17, t_ifc (fun x y => x = y) 20 24),
  (20, t_ic 1 21),
  (21, t_goto 25),
  (24, t_ic 0 25),
  (25, t_zret K bc bs)]
set_option maxRecDepth 100000 in
theorem S_X2_saves {X : a_X} {K : aK} {l : Launch} {D : va_G} {G : aG} {N0 : Nat} (C : a_C X cX2_saves (some .boolean) RX2) (Y : a_Y X l (a_rm 1 0 0) D G N0) (M : a_mq X K (a_rm 1 0 0).cells (a_rm 1 0 0).slots) : ∀ x ∈ P_X2_saves K 0 0, a_Sd X x.1 x.2 := by
  unfold P_X2_saves
  refine List.forall_mem_cons.mpr ⟨s_aldn C dX2_saves_0 rfl, ?_⟩
  refine List.forall_mem_cons.mpr ⟨s_geti C rfl in_X2 (by decide) lk_X2_78 rfl dX2_saves_1, ?_⟩
  refine List.forall_mem_cons.mpr ⟨s_ic C dX2_saves_4 (by decide), ?_⟩
  refine List.forall_mem_cons.mpr ⟨s_icmp_eq C dX2_saves_5 (by decide), ?_⟩
  refine List.forall_mem_cons.mpr ⟨s_ildn C dX2_saves_8 rfl, ?_⟩
  refine List.forall_mem_cons.mpr ⟨s_if_eq C dX2_saves_9 (by decide), ?_⟩
  refine List.forall_mem_cons.mpr ⟨s_ildn C dX2_saves_12 rfl, ?_⟩
  refine List.forall_mem_cons.mpr ⟨s_aldn C dX2_saves_13 rfl, ?_⟩
  refine List.forall_mem_cons.mpr ⟨s_geti C rfl in_X2 (by decide) lk_X2_78 rfl dX2_saves_14, ?_⟩
  refine List.forall_mem_cons.mpr ⟨s_icmp_ne C dX2_saves_17 (by decide), ?_⟩
  refine List.forall_mem_cons.mpr ⟨s_ic C dX2_saves_20 (by decide), ?_⟩
  refine List.forall_mem_cons.mpr ⟨s_goto C dX2_saves_21 (by decide), ?_⟩
  refine List.forall_mem_cons.mpr ⟨s_ic C dX2_saves_24 (by decide), ?_⟩
  refine List.forall_mem_cons.mpr ⟨s_zret C M dX2_saves_25, ?_⟩
  exact fun _ h => absurd h List.not_mem_nil
theorem con_X2_saves : a_Con l D G N0 yX2_saves cX2_saves 2 (some .boolean) (a_rm 1 0 0) sp_X2_saves := by
  refine a_con (by decide) (fun as σ K h => by obtain ⟨I, F, B, p, rfl, rfl, -⟩ := h; exact Nat.le_refl _) ?_
  intro X as σ K h C Y M _
  obtain ⟨I, F, B, b, rfl, rfl, hK⟩ := h
  refine a_wps (S_X2_saves C Y M) (inv := a_ni) a_nih 20 _ _ _ _ _ _ ?_
  unfold m_sv at hK
  refine ⟨fun h1 => ?_, fun h1 => ⟨fun h2 => ?_, fun h2 => ⟨fun h3 => ?_, fun h3 => ?_⟩⟩⟩
  · rw [if_pos h1] at hK; exact ⟨Or.inl rfl, hK⟩
  · rw [if_neg h1, if_pos h2] at hK; exact ⟨Or.inr rfl, hK⟩
  · rw [if_neg h1, if_neg h2, if_pos h3] at hK; exact ⟨Or.inr rfl, hK⟩
  · rw [if_neg h1, if_neg h2, if_neg h3] at hK; exact ⟨Or.inl rfl, hK⟩
def sp_X2_knowsAll : aP := fun as σ K => ∃ I F B n s a b c, σ = a_mk I F B ∧ as = [.inr (some 0), .inl s, .inl a, .inl b, .inl c] ∧ I 0 4 = nI n ∧ n ≤ 60 ∧ ¬ m_in s 0 13 = 0 ∧ K (some (.inl (m_there (nI n - 1) s a b c))) σ
theorem rc_X2_knowsAll : ∀ as σ K, sp_X2_knowsAll as σ K → ∃ h As, as = .inr (some h) :: As ∧ a_is σ h 2 10 = true := by
  rintro as σ K ⟨I, F, B, n, s, a, b, c, rfl, rfl, -⟩
  exact ⟨0, _, rfl, rfl⟩
def P_X2_knowsAll (K : aK) (bc bs : Nat) : List (Nat × aT) := [(0, t_ild 1 1),
  (1, t_sw [(3, 60), (4, 60), (5, 66), (6, 88), (7, 119), (8, 119), (9, 140), (10, 60), (11, 66), (12, 60), (13, 140)] 145),
  (60, t_ald 0 61),
  (61, t_ild 2 62),
  (62, t_call 2 0 0 bc bs sp_X2_isPattern 65),
  (65, t_zret K bc bs),
  (66, t_ald 0 67),
  (67, t_ild 2 68),
  (68, t_call 2 0 0 bc bs sp_X2_isPattern 71),
  (71, t_if (fun x => x = 0) 86 74),
  (74, t_ald 0 75),
  (75, t_ild 3 76),
  (76, t_call 2 0 0 bc bs sp_X2_isPattern 79),
  (79, t_if (fun x => x = 0) 86 82),
  (82, t_ic 1 83),
  (83, t_goto 87),
  (86, t_ic 0 87),
  (87, t_zret K bc bs),
  (88, t_ald 0 89),
  (89, t_ild 2 90),
  (90, t_call 2 0 0 bc bs sp_X2_isPattern 93),
  (93, t_if (fun x => x = 0) 117 96),
  (96, t_ald 0 97),
  (97, t_ild 3 98),
  (98, t_call 2 0 0 bc bs sp_X2_isPattern 101),
  (101, t_if (fun x => x = 0) 117 104),
  (104, t_ald 0 105),
  (105, t_ild 4 107),
  (107, t_call 2 0 0 bc bs sp_X2_isPattern 110),
  (110, t_if (fun x => x = 0) 117 113),
  (113, t_ic 1 114),
  (114, t_goto 118),
  (117, t_ic 0 118),
  (118, t_zret K bc bs),
  (119, t_ald 0 120),
  (120, t_ild 2 121),
  (121, t_call 2 0 0 bc bs sp_X2_isPattern 124),
  (124, t_if (fun x => x = 0) 138 127),
  (127, t_ild 3 128),
  (128, t_call 1 0 0 bc bs sp_X2_isDye 131),
  (131, t_if (fun x => x = 0) 138 134),
  (134, t_ic 1 135),
  (135, t_goto 139),
  (138, t_ic 0 139),
  (139, t_zret K bc bs),
  (140, t_ild 2 141),
  (141, t_call 1 0 0 bc bs sp_X2_isName 144),
  (144, t_zret K bc bs),
  (145, t_ic 1 146),
  (146, t_zret K bc bs)]
set_option maxRecDepth 100000 in
theorem S_X2_knowsAll {X : a_X} {K : aK} {l : Launch} {D : va_G} {G : aG} {N0 : Nat} (C : a_C X cX2_knowsAll (some .boolean) RX2) (Y : a_Y X l (a_rm 2 0 0) D G N0) (M : a_mq X K (a_rm 2 0 0).cells (a_rm 2 0 0).slots) : ∀ x ∈ P_X2_knowsAll K 0 0, a_Sd X x.1 x.2 := by
  unfold P_X2_knowsAll
  refine List.forall_mem_cons.mpr ⟨s_ildn C dX2_knowsAll_0 rfl, ?_⟩
  refine List.forall_mem_cons.mpr ⟨s_tsw C dX2_knowsAll_1 (a_tok_of2 10 (by decide) (by decide) (by decide) (by decide)), ?_⟩
  refine List.forall_mem_cons.mpr ⟨s_aldn C dX2_knowsAll_60 rfl, ?_⟩
  refine List.forall_mem_cons.mpr ⟨s_ildn C dX2_knowsAll_61 rfl, ?_⟩
  refine List.forall_mem_cons.mpr ⟨s_callV (rm := (a_rm 1 0 0)) (n := 1) C Y (ci := 2) rfl con_X2_isPattern rc_X2_isPattern co_X2_isPattern ml_X2_65 im_X2_isPattern se_X2_isPattern ii_X2 (by decide +kernel) ⟨by decide, by decide⟩ ⟨rfl, rfl⟩ dX2_knowsAll_62, ?_⟩
  refine List.forall_mem_cons.mpr ⟨s_zret C M dX2_knowsAll_65, ?_⟩
  refine List.forall_mem_cons.mpr ⟨s_aldn C dX2_knowsAll_66 rfl, ?_⟩
  refine List.forall_mem_cons.mpr ⟨s_ildn C dX2_knowsAll_67 rfl, ?_⟩
  refine List.forall_mem_cons.mpr ⟨s_callV (rm := (a_rm 1 0 0)) (n := 1) C Y (ci := 2) rfl con_X2_isPattern rc_X2_isPattern co_X2_isPattern ml_X2_65 im_X2_isPattern se_X2_isPattern ii_X2 (by decide +kernel) ⟨by decide, by decide⟩ ⟨rfl, rfl⟩ dX2_knowsAll_68, ?_⟩
  refine List.forall_mem_cons.mpr ⟨s_if_eq C dX2_knowsAll_71 (by decide), ?_⟩
  refine List.forall_mem_cons.mpr ⟨s_aldn C dX2_knowsAll_74 rfl, ?_⟩
  refine List.forall_mem_cons.mpr ⟨s_ildn C dX2_knowsAll_75 rfl, ?_⟩
  refine List.forall_mem_cons.mpr ⟨s_callV (rm := (a_rm 1 0 0)) (n := 1) C Y (ci := 2) rfl con_X2_isPattern rc_X2_isPattern co_X2_isPattern ml_X2_65 im_X2_isPattern se_X2_isPattern ii_X2 (by decide +kernel) ⟨by decide, by decide⟩ ⟨rfl, rfl⟩ dX2_knowsAll_76, ?_⟩
  refine List.forall_mem_cons.mpr ⟨s_if_eq C dX2_knowsAll_79 (by decide), ?_⟩
  refine List.forall_mem_cons.mpr ⟨s_ic C dX2_knowsAll_82 (by decide), ?_⟩
  refine List.forall_mem_cons.mpr ⟨s_goto C dX2_knowsAll_83 (by decide), ?_⟩
  refine List.forall_mem_cons.mpr ⟨s_ic C dX2_knowsAll_86 (by decide), ?_⟩
  refine List.forall_mem_cons.mpr ⟨s_zret C M dX2_knowsAll_87, ?_⟩
  refine List.forall_mem_cons.mpr ⟨s_aldn C dX2_knowsAll_88 rfl, ?_⟩
  refine List.forall_mem_cons.mpr ⟨s_ildn C dX2_knowsAll_89 rfl, ?_⟩
  refine List.forall_mem_cons.mpr ⟨s_callV (rm := (a_rm 1 0 0)) (n := 1) C Y (ci := 2) rfl con_X2_isPattern rc_X2_isPattern co_X2_isPattern ml_X2_65 im_X2_isPattern se_X2_isPattern ii_X2 (by decide +kernel) ⟨by decide, by decide⟩ ⟨rfl, rfl⟩ dX2_knowsAll_90, ?_⟩
  refine List.forall_mem_cons.mpr ⟨s_if_eq C dX2_knowsAll_93 (by decide), ?_⟩
  refine List.forall_mem_cons.mpr ⟨s_aldn C dX2_knowsAll_96 rfl, ?_⟩
  refine List.forall_mem_cons.mpr ⟨s_ildn C dX2_knowsAll_97 rfl, ?_⟩
  refine List.forall_mem_cons.mpr ⟨s_callV (rm := (a_rm 1 0 0)) (n := 1) C Y (ci := 2) rfl con_X2_isPattern rc_X2_isPattern co_X2_isPattern ml_X2_65 im_X2_isPattern se_X2_isPattern ii_X2 (by decide +kernel) ⟨by decide, by decide⟩ ⟨rfl, rfl⟩ dX2_knowsAll_98, ?_⟩
  refine List.forall_mem_cons.mpr ⟨s_if_eq C dX2_knowsAll_101 (by decide), ?_⟩
  refine List.forall_mem_cons.mpr ⟨s_aldn C dX2_knowsAll_104 rfl, ?_⟩
  refine List.forall_mem_cons.mpr ⟨s_ild C dX2_knowsAll_105, ?_⟩
  refine List.forall_mem_cons.mpr ⟨s_callV (rm := (a_rm 1 0 0)) (n := 1) C Y (ci := 2) rfl con_X2_isPattern rc_X2_isPattern co_X2_isPattern ml_X2_65 im_X2_isPattern se_X2_isPattern ii_X2 (by decide +kernel) ⟨by decide, by decide⟩ ⟨rfl, rfl⟩ dX2_knowsAll_107, ?_⟩
  refine List.forall_mem_cons.mpr ⟨s_if_eq C dX2_knowsAll_110 (by decide), ?_⟩
  refine List.forall_mem_cons.mpr ⟨s_ic C dX2_knowsAll_113 (by decide), ?_⟩
  refine List.forall_mem_cons.mpr ⟨s_goto C dX2_knowsAll_114 (by decide), ?_⟩
  refine List.forall_mem_cons.mpr ⟨s_ic C dX2_knowsAll_117 (by decide), ?_⟩
  refine List.forall_mem_cons.mpr ⟨s_zret C M dX2_knowsAll_118, ?_⟩
  refine List.forall_mem_cons.mpr ⟨s_aldn C dX2_knowsAll_119 rfl, ?_⟩
  refine List.forall_mem_cons.mpr ⟨s_ildn C dX2_knowsAll_120 rfl, ?_⟩
  refine List.forall_mem_cons.mpr ⟨s_callV (rm := (a_rm 1 0 0)) (n := 1) C Y (ci := 2) rfl con_X2_isPattern rc_X2_isPattern co_X2_isPattern ml_X2_65 im_X2_isPattern se_X2_isPattern ii_X2 (by decide +kernel) ⟨by decide, by decide⟩ ⟨rfl, rfl⟩ dX2_knowsAll_121, ?_⟩
  refine List.forall_mem_cons.mpr ⟨s_if_eq C dX2_knowsAll_124 (by decide), ?_⟩
  refine List.forall_mem_cons.mpr ⟨s_ildn C dX2_knowsAll_127 rfl, ?_⟩
  refine List.forall_mem_cons.mpr ⟨s_callS (rm := (a_rm 1 0 0)) C Y con_X2_isDye co_X2_isDye ml_X2_33 st_X2_isDye ii_X2 (by decide +kernel) ⟨by decide, by decide⟩ ⟨rfl, rfl⟩ dX2_knowsAll_128, ?_⟩
  refine List.forall_mem_cons.mpr ⟨s_if_eq C dX2_knowsAll_131 (by decide), ?_⟩
  refine List.forall_mem_cons.mpr ⟨s_ic C dX2_knowsAll_134 (by decide), ?_⟩
  refine List.forall_mem_cons.mpr ⟨s_goto C dX2_knowsAll_135 (by decide), ?_⟩
  refine List.forall_mem_cons.mpr ⟨s_ic C dX2_knowsAll_138 (by decide), ?_⟩
  refine List.forall_mem_cons.mpr ⟨s_zret C M dX2_knowsAll_139, ?_⟩
  refine List.forall_mem_cons.mpr ⟨s_ildn C dX2_knowsAll_140 rfl, ?_⟩
  refine List.forall_mem_cons.mpr ⟨s_callS (rm := (a_rm 1 0 0)) C Y con_X2_isName co_X2_isName ml_X2_62 st_X2_isName ii_X2 (by decide +kernel) ⟨by decide, by decide⟩ ⟨rfl, rfl⟩ dX2_knowsAll_141, ?_⟩
  refine List.forall_mem_cons.mpr ⟨s_zret C M dX2_knowsAll_144, ?_⟩
  refine List.forall_mem_cons.mpr ⟨s_ic C dX2_knowsAll_145 (by decide), ?_⟩
  refine List.forall_mem_cons.mpr ⟨s_zret C M dX2_knowsAll_146, ?_⟩
  exact fun _ h => absurd h List.not_mem_nil
set_option maxRecDepth 20000 in
theorem con_X2_knowsAll : a_Con l D G N0 yX2_knowsAll cX2_knowsAll 5 (some .boolean) (a_rm 2 0 0) sp_X2_knowsAll := by
  refine a_con (by decide) (fun as σ K h => by obtain ⟨I, F, B, n, s, a, b, c, rfl, rfl, -⟩ := h; exact (by decide : 5 ≤ 5)) ?_
  intro X as σ K h C Y M _
  obtain ⟨I, F, B, n, s, a, b, c, rfl, rfl, hn, hle, hs, hK⟩ := h
  refine a_wps (S_X2_knowsAll C Y M) (inv := a_ni) a_nih 60 _ _ _ _ _ _ ?_
  unfold m_there at hK
  have ne : ∀ {a b : Int32}, s = a → ¬ a = b → ¬ s = b := fun h w e => w (h.symm.trans e)
  have one : ∀ {j : Int32}, s = j → ¬ j = 0 → ¬ j = 1 → ¬ j = 2 → (¬ s = 0 ∧ ¬ s = 1 ∧ ¬ s = 2) := fun h h0 h1 h2 => ⟨ne h h0, ne h h1, ne h h2⟩
  refine ⟨fun h3 => ?_, fun h3 => ⟨fun h4 => ?_, fun h4 => ⟨fun h5 => ?_, fun h5 => ⟨fun h6 => ?_, fun h6 => ⟨fun h7 => ?_, fun h7 => ⟨fun h8 => ?_, fun h8 => ⟨fun h9 => ?_, fun h9 => ⟨fun h10 => ?_, fun h10 => ⟨fun h11 => ?_, fun h11 => ⟨fun h12 => ?_, fun h12 => ⟨fun h13 => ?_, fun h13 => ?_⟩⟩⟩⟩⟩⟩⟩⟩⟩⟩⟩
  · obtain ⟨h0, h1, h2⟩ := one h3 (by decide) (by decide) (by decide)
    rw [if_neg h0, if_neg h1, if_neg h2, if_pos h3] at hK; exact ⟨I, F, B, n, _, rfl, rfl, hn, hle, m_in_01 _ _ _, hK⟩
  · obtain ⟨h0, h1, h2⟩ := one h4 (by decide) (by decide) (by decide)
    rw [if_neg h0, if_neg h1, if_neg h2, if_neg h3, if_pos h4] at hK; exact ⟨I, F, B, n, _, rfl, rfl, hn, hle, m_in_01 _ _ _, hK⟩
  · obtain ⟨h0, h1, h2⟩ := one h5 (by decide) (by decide) (by decide)
    rw [if_neg h0, if_neg h1, if_neg h2, if_neg h3, if_neg h4, if_pos h5] at hK
    refine ⟨I, F, B, n, _, rfl, rfl, hn, hle, fun z => ?_, fun z => ⟨I, F, B, n, _, rfl, rfl, hn, hle, fun z2 => ?_, fun z2 => ?_⟩⟩
    · rw [if_pos z] at hK; exact ⟨Or.inl rfl, hK⟩
    · rw [if_neg z, if_pos z2] at hK; exact ⟨Or.inl rfl, hK⟩
    · rw [if_neg z, if_neg z2] at hK; exact ⟨Or.inr rfl, hK⟩
  · obtain ⟨h0, h1, h2⟩ := one h6 (by decide) (by decide) (by decide)
    rw [if_neg h0, if_neg h1, if_neg h2, if_neg h3, if_neg h4, if_neg h5, if_pos h6] at hK
    refine ⟨I, F, B, n, _, rfl, rfl, hn, hle, fun z => ?_, fun z => ⟨I, F, B, n, _, rfl, rfl, hn, hle, fun z2 => ?_, fun z2 => ⟨I, F, B, n, _, rfl, rfl, hn, hle, fun z3 => ?_, fun z3 => ?_⟩⟩⟩
    · rw [if_pos z] at hK; exact ⟨Or.inl rfl, hK⟩
    · rw [if_neg z, if_pos z2] at hK; exact ⟨Or.inl rfl, hK⟩
    · rw [if_neg z, if_neg z2, if_pos z3] at hK; exact ⟨Or.inl rfl, hK⟩
    · rw [if_neg z, if_neg z2, if_neg z3] at hK; exact ⟨Or.inr rfl, hK⟩
  · obtain ⟨h0, h1, h2⟩ := one h7 (by decide) (by decide) (by decide)
    rw [if_neg h0, if_neg h1, if_neg h2, if_neg h3, if_neg h4, if_neg h5, if_neg h6, if_pos h7] at hK
    refine ⟨I, F, B, n, _, rfl, rfl, hn, hle, fun z => ?_, fun z => ⟨_, rfl, fun z2 => ?_, fun z2 => ?_⟩⟩
    · rw [if_pos z] at hK; exact ⟨Or.inl rfl, hK⟩
    · rw [if_neg z, if_pos z2] at hK; exact ⟨Or.inl rfl, hK⟩
    · rw [if_neg z, if_neg z2] at hK; exact ⟨Or.inr rfl, hK⟩
  · obtain ⟨h0, h1, h2⟩ := one h8 (by decide) (by decide) (by decide)
    rw [if_neg h0, if_neg h1, if_neg h2, if_neg h3, if_neg h4, if_neg h5, if_neg h6, if_neg h7, if_pos h8] at hK
    refine ⟨I, F, B, n, _, rfl, rfl, hn, hle, fun z => ?_, fun z => ⟨_, rfl, fun z2 => ?_, fun z2 => ?_⟩⟩
    · rw [if_pos z] at hK; exact ⟨Or.inl rfl, hK⟩
    · rw [if_neg z, if_pos z2] at hK; exact ⟨Or.inl rfl, hK⟩
    · rw [if_neg z, if_neg z2] at hK; exact ⟨Or.inr rfl, hK⟩
  · obtain ⟨h0, h1, h2⟩ := one h9 (by decide) (by decide) (by decide)
    rw [if_neg h0, if_neg h1, if_neg h2, if_neg h3, if_neg h4, if_neg h5, if_neg h6, if_neg h7, if_neg h8, if_pos h9] at hK; exact ⟨_, rfl, m_in_01 _ _ _, hK⟩
  · obtain ⟨h0, h1, h2⟩ := one h10 (by decide) (by decide) (by decide)
    rw [if_neg h0, if_neg h1, if_neg h2, if_neg h3, if_neg h4, if_neg h5, if_neg h6, if_neg h7, if_neg h8, if_neg h9, if_pos h10] at hK; exact ⟨I, F, B, n, _, rfl, rfl, hn, hle, m_in_01 _ _ _, hK⟩
  · obtain ⟨h0, h1, h2⟩ := one h11 (by decide) (by decide) (by decide)
    rw [if_neg h0, if_neg h1, if_neg h2, if_neg h3, if_neg h4, if_neg h5, if_neg h6, if_neg h7, if_neg h8, if_neg h9, if_neg h10, if_pos h11] at hK
    refine ⟨I, F, B, n, _, rfl, rfl, hn, hle, fun z => ?_, fun z => ⟨I, F, B, n, _, rfl, rfl, hn, hle, fun z2 => ?_, fun z2 => ?_⟩⟩
    · rw [if_pos z] at hK; exact ⟨Or.inl rfl, hK⟩
    · rw [if_neg z, if_pos z2] at hK; exact ⟨Or.inl rfl, hK⟩
    · rw [if_neg z, if_neg z2] at hK; exact ⟨Or.inr rfl, hK⟩
  · obtain ⟨h0, h1, h2⟩ := one h12 (by decide) (by decide) (by decide)
    rw [if_neg h0, if_neg h1, if_neg h2, if_neg h3, if_neg h4, if_neg h5, if_neg h6, if_neg h7, if_neg h8, if_neg h9, if_neg h10, if_neg h11, if_pos h12] at hK; exact ⟨I, F, B, n, _, rfl, rfl, hn, hle, m_in_01 _ _ _, hK⟩
  · obtain ⟨h0, h1, h2⟩ := one h13 (by decide) (by decide) (by decide)
    rw [if_neg h0, if_neg h1, if_neg h2, if_neg h3, if_neg h4, if_neg h5, if_neg h6, if_neg h7, if_neg h8, if_neg h9, if_neg h10, if_neg h11, if_neg h12, if_pos h13] at hK; exact ⟨_, rfl, m_in_01 _ _ _, hK⟩
  · obtain ⟨j, hj, e⟩ := m_in_n (b := 13) (by decide) hs
    have nj : ∀ i : Nat, i ≤ 13 → ¬ s = nI i → j ≠ i := fun i _ h w => h (by rw [e, w])
    have j3 := nj 3 (by omega) h3
    have j4 := nj 4 (by omega) h4
    have j5 := nj 5 (by omega) h5
    have j6 := nj 6 (by omega) h6
    have j7 := nj 7 (by omega) h7
    have j8 := nj 8 (by omega) h8
    have j9 := nj 9 (by omega) h9
    have j10 := nj 10 (by omega) h10
    have j11 := nj 11 (by omega) h11
    have j12 := nj 12 (by omega) h12
    have j13 := nj 13 (by omega) h13
    rcases (show j = 0 ∨ j = 1 ∨ j = 2 by omega) with rfl | rfl | rfl
    · rw [if_pos (show s = 0 from e)] at hK; exact ⟨Or.inr rfl, hK⟩
    · have e : s = 1 := e
      rw [if_neg (ne e (by decide)), if_pos e] at hK; exact ⟨Or.inr rfl, hK⟩
    · have e : s = 2 := e
      rw [if_neg (ne e (by decide)), if_neg (ne e (by decide)), if_pos e] at hK; exact ⟨Or.inr rfl, hK⟩
end LS

