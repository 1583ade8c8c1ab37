/-! ===== the class's tellings ===== -/
theorem a_hr {n m maxL c s c' s' : Nat} (h : n + 1 ≤ m) (hm : maxL ≤ 21) : (a_rm n c s).frames + 1 ≤ (a_rm m c' s').frames ∧ 8 + (maxL + 11) + (a_rm n c s).locals ≤ (a_rm m c' s').locals := ⟨h, by show 8 + (maxL + 11) + 40 * n ≤ 40 * m; omega⟩
abbrev rm_X2_tell (E : Nat) : Room := a_rm (2 * E + 4) 0 0
abbrev rm_X2_tellX (E : Nat) : Room := a_rm (2 * E + 5) 0 0
/-- the class's store with what telling moves -/
def l_p (M : Nat → Nat → Int32) (f : Int32) (s : tS) : Nat → Nat → Int32 := fun h j =>
  if h = 0 then (if j = 6 then f else if j = 7 then s.1 else if j = 8 then s.2.1 else if j = 9 then s.2.2.1 else M 0 j)
  else if 66 ≤ h ∧ h < 126 ∧ j = 6 then s.2.2.2 (h - 66) else M h j
section LP
variable {M : Nat → Nat → Int32} {f x : Int32} {s : tS} {p j : Nat}
theorem lp_6 : a_w (l_p M f s) 0 6 x = l_p M x s := by
  funext h j; unfold a_w l_p
  by_cases e : h = 0
  · subst e; by_cases e2 : j = 6 <;> simp [e2]
  · simp [e]
theorem lp_7 : a_w (l_p M f s) 0 7 x = l_p M f (x, s.2) := by
  funext h j; unfold a_w l_p
  by_cases e : h = 0
  · subst e; by_cases e2 : j = 7 <;> simp [e2]
  · simp [e]
theorem lp_8 : a_w (l_p M f s) 0 8 x = l_p M f (s.1, x, s.2.2) := by
  funext h j; unfold a_w l_p
  by_cases e : h = 0
  · subst e; by_cases e2 : j = 8 <;> simp [e2]
  · simp [e]
theorem lp_9 : a_w (l_p M f s) 0 9 x = l_p M f (s.1, s.2.1, x, s.2.2.2) := by
  funext h j; unfold a_w l_p
  by_cases e : h = 0
  · subst e; by_cases e2 : j = 9 <;> simp [e2]
  · simp [e]
theorem lp_w (hp : p < 60) : a_w (l_p M f s) (66 + p) 6 x = l_p M f (s.1, s.2.1, s.2.2.1, upd s.2.2.2 p x) := by
  funext h j; unfold a_w l_p upd
  by_cases e : h = 0
  · subst e
    rw [if_neg (fun w => by omega)]
    rfl
  · by_cases e2 : 66 ≤ h ∧ h < 126 ∧ j = 6
    · by_cases e3 : h = 66 + p
      · subst e3
        rw [if_pos ⟨rfl, e2.2.2⟩, if_neg e, if_pos e2]
        simp
      · rw [if_neg (fun w => e3 w.1), if_neg e, if_pos e2, if_neg e, if_pos e2]
        show _ = if h - 66 = p then x else _
        rw [if_neg (by omega)]
    · rw [if_neg (fun w => e2 ⟨by omega, by omega, w.2⟩), if_neg e, if_neg e2, if_neg e, if_neg e2]
theorem lp_g (hj : j ≠ 6) : l_p M f s (66 + p) j = M (66 + p) j := by
  unfold l_p
  rw [if_neg (by omega), if_neg (fun w => hj w.2.2)]
theorem lp_wr (hp : p < 60) : l_p M f s (66 + p) 6 = s.2.2.2 p := by
  unfold l_p
  rw [if_neg (by omega), if_pos ⟨by omega, by omega, rfl⟩, Nat.add_sub_cancel_left]
theorem lp_o {h : Nat} (h0 : h ≠ 0) (h1 : h < 66 ∨ 126 ≤ h) : l_p M f s h = M h := by
  funext j
  unfold l_p
  rw [if_neg h0, if_neg (fun w => by omega)]
end LP
theorem lp_self (I : Nat → Nat → Int32) : l_p I (I 0 6) (I 0 7, I 0 8, I 0 9, fun p => I (66 + p) 6) = I := by
  funext h j; unfold l_p
  by_cases e : h = 0
  · subst e
    by_cases e1 : j = 6
    · simp [e1]
    · by_cases e2 : j = 7
      · simp [e2]
      · by_cases e3 : j = 8
        · simp [e3]
        · by_cases e4 : j = 9
          · simp [e4]
          · simp [e1, e2, e3, e4]
  · by_cases e2 : 66 ≤ h ∧ h < 126 ∧ j = 6
    · rw [if_neg e, if_pos e2, e2.2.2]
      show I (66 + (h - 66)) 6 = _
      rw [show 66 + (h - 66) = h by omega]
    · rw [if_neg e, if_neg e2]
def l_ref (c : Int32) : Option Nat := if c = -1 then none else if c = -2 then some 64 else if c = -3 then some 65 else some (66 + c.toNatClampNeg)
theorem l_ref_p {p : Nat} (hp : p < 60) : l_ref (nI p) = some (66 + p) := by
  unfold l_ref
  rw [if_neg (nI_neg (by omega) (by decide)), if_neg (nI_neg (by omega) (by decide)), if_neg (nI_neg (by omega) (by decide)), w_pc hp]
def l_D (M : Nat → Nat → Int32) (F : Nat → Nat → Option Nat) (B : Nat → Bool) (n : Nat) : Prop :=
  M 0 4 = nI n ∧ (∀ p, p < n → F 3 p = some (66 + p)) ∧ (∀ p, p < n → B (66 + p) = true ∧ M (66 + p) 0 = M 17 p ∧ M (66 + p) 1 = M 18 p ∧ M (66 + p) 2 = M 19 p ∧ M (66 + p) 3 = M 20 p) ∧
  (∀ p, p < n → M 17 p = 8 → F (66 + p) 4 = some (128 + p) ∧ B (128 + p) = true ∧ ∀ j, j < 8 → M (128 + p) j = M 21 (8 * p + j)) ∧
  (∀ p, p < n → M 17 p = 13 → F (66 + p) 5 = l_ref (M 22 p)) ∧ (∀ k, k < 6 → F 2 k = l_ref (M 25 k)) ∧ (∀ d, d < 4 → ∀ i, i < 8 → M (6 + d) i = M 24 (8 * d + i)) ∧
  (B 64 = true ∧ B 65 = true ∧ M 64 0 = 14 ∧ M 65 0 = 15 ∧ M 65 2 = 0)
def l_env (M : Nat → Nat → Int32) (F : Nat → Nat → Option Nat) (B : Nat → Bool) (n : Nat) : Prop := m_D M n ∧ l_D M F B n
def l_W (M : Nat → Nat → Int32) (n : Nat) (s : tS) : Prop := ∀ p, p < n → M 17 p = 10 → ∃ w b : Nat, s.2.2.2 p = nI w ∧ M 19 p = nI b ∧ w < b ∧ b ≤ 50
def tw_P (M : Nat → Nat → Int32) (n : Nat) (rc : tF) : Prop := ∀ (c x y : Int32) (s : tS), l_W M n s → l_W M n (rc c x y s).2.2
theorem tw_worn {M : Nat → Nat → Int32} {n : Nat} {rc : tF} (h : tw_P M n rc) (a c : Int32) (p : Nat) (x y : Int32) (s : tS) (hs : l_W M n s) : l_W M n (t_worn rc a (M 19 p) c p x y s).2.2 := by
  unfold t_worn
  by_cases hz : s.2.2.2 p + 1 = M 19 p
  · rw [if_pos hz]
    intro q hq h10
    obtain ⟨w, b, e1, e2, e3, e4⟩ := hs q hq h10
    by_cases e : q = p
    · exact ⟨0, b, by show upd s.2.2.2 p 0 q = nI 0; rw [e]; exact if_pos rfl, e2, by omega, e4⟩
    · exact ⟨w, b, by show upd s.2.2.2 p 0 q = nI w; rw [← e1]; exact if_neg e, e2, e3, e4⟩
  · rw [if_neg hz]
    refine h _ _ _ _ (fun q hq h10 => ?_)
    obtain ⟨w, b, e1, e2, e3, e4⟩ := hs q hq h10
    by_cases e : q = p
    · subst e
      refine ⟨w + 1, b, by show upd s.2.2.2 q _ q = _; rw [show upd s.2.2.2 q (s.2.2.2 q + 1) q = s.2.2.2 q + 1 from if_pos rfl, e1, nI_1], e2, ?_, e4⟩
      rcases Nat.lt_or_ge (w + 1) b with z | z
      · exact z
      · exact absurd (by rw [e1, e2, nI_1, show w + 1 = b by omega]) hz
    · exact ⟨w, b, by show upd s.2.2.2 p _ q = nI w; rw [← e1]; exact if_neg e, e2, e3, e4⟩
theorem tw_s {M : Nat → Nat → Int32} {n : Nat} {rc : tF} (h : tw_P M n rc) (p : Nat) (x y : Int32) (s : tS) (hs : l_W M n s) : l_W M n (t_s M rc p x y s).2.2 := by
  unfold t_s
  by_cases h0 : M 17 p = 0
  · rw [if_pos h0]; exact hs
  rw [if_neg h0]
  by_cases h1 : M 17 p = 1
  · rw [if_pos h1]
    by_cases hz : M 20 p = 0
    · rw [if_pos hz]; exact hs
    · rw [if_neg hz]; exact hs
  rw [if_neg h1]
  by_cases h2 : M 17 p = 2
  · rw [if_pos h2]
    by_cases hz : M 19 p = 0
    · rw [if_pos hz]; exact hs
    · rw [if_neg hz]; exact hs
  rw [if_neg h2]
  by_cases h3 : M 17 p = 3
  · rw [if_pos h3]; exact h _ _ _ s hs
  rw [if_neg h3]
  by_cases h4 : M 17 p = 4
  · rw [if_pos h4]; exact h _ _ _ s hs
  rw [if_neg h4]
  have hr := h (M 18 p) x y s hs
  by_cases h5 : M 17 p = 5
  · rw [if_pos h5]
    unfold t_over
    by_cases hz : (rc (M 18 p) x y s).1 = 0 ∧ (rc (M 18 p) x y s).2.1 = 0
    · rw [if_pos hz]; exact h _ _ _ _ hr
    · rw [if_neg hz]; exact hr
  rw [if_neg h5]
  by_cases h6 : M 17 p = 6
  · rw [if_pos h6]
    unfold t_where
    by_cases hz : (rc (M 18 p) x y s).1 = 0
    · rw [if_pos hz]; exact h _ _ _ _ hr
    · rw [if_neg hz]; exact hr
  rw [if_neg h6]
  have dy : ∀ g : Int32 → Int32, l_W M n (t_dyed g (rc (M 18 p) x y s)).2.2 := fun g => by
    unfold t_dyed
    by_cases hz : (rc (M 18 p) x y s).1 = 0
    · rw [if_pos hz]
      by_cases hy : m_in (rc (M 18 p) x y s).2.1 0 7 = 0
      · rw [if_pos hy]; exact hr
      · rw [if_neg hy]; exact hr
    · rw [if_neg hz]; exact hr
  by_cases h7 : M 17 p = 7
  · rw [if_pos h7]; exact dy _
  rw [if_neg h7]
  by_cases h8 : M 17 p = 8
  · rw [if_pos h8]; exact dy _
  rw [if_neg h8]
  by_cases h9 : M 17 p = 9
  · rw [if_pos h9]; exact h _ _ _ s hs
  rw [if_neg h9]
  by_cases h10 : M 17 p = 10
  · rw [if_pos h10]; exact tw_worn h _ _ _ _ _ s hs
  rw [if_neg h10]
  by_cases h11 : M 17 p = 11
  · rw [if_pos h11]
    unfold t_both
    by_cases hz : (rc (M 18 p) x y s).1 = 0
    · rw [if_pos hz]; exact h _ _ _ _ hr
    · rw [if_neg hz]; exact hr
  rw [if_neg h11]
  by_cases h12 : M 17 p = 12
  · rw [if_pos h12]
    unfold t_safe
    by_cases hz : ¬ (rc (M 18 p) x y s).1 = 0 ∧ ¬ (rc (M 18 p) x y s).1 = 4 ∧ (M 19 p = 0 ∨ M 19 p = (rc (M 18 p) x y s).1) ∧ ¬ 20 ≤ (rc (M 18 p) x y s).2.2.2.1
    · rw [if_pos hz]; exact hr
    · rw [if_neg hz]; exact hr
  rw [if_neg h12]
  exact h _ _ _ s hs
theorem tw_T {M : Nat → Nat → Int32} {n : Nat} : ∀ D, tw_P M n (tt_T M D) := by
  intro D
  induction D with
  | zero => exact fun c x y s hs => hs
  | succ D ih =>
    intro c x y s hs
    show l_W M n (if 100 ≤ s.1 then ((4, 0, s) : tR) else t_b M (tt_T M D) c x y (s.1 + 1, s.2)).2.2
    by_cases h1 : 100 ≤ s.1
    · rw [if_pos h1]; exact hs
    · rw [if_neg h1]
      have hs2 : l_W M n (s.1 + 1, s.2) := hs
      unfold t_b
      by_cases c1 : c = -1
      · rw [if_pos c1]; exact hs2
      rw [if_neg c1]
      by_cases c2 : c = -2
      · rw [if_pos c2]; exact hs2
      rw [if_neg c2]
      by_cases c3 : c = -3
      · rw [if_pos c3]
        by_cases c4 : m_in x 0 7 = 0
        · rw [if_pos c4]; exact hs2
        · rw [if_neg c4]; exact hs2
      rw [if_neg c3]
      exact tw_s ih _ _ _ _ hs2
theorem l_lv {B : Nat → Bool} {h : Nat} (h1 : 64 ≤ h) (hB : B h = true) : a_LV B h = true := by
  unfold a_LV
  simp [h1, hB]
theorem l_is {I : Nat → Nat → Int32} {F : Nat → Nat → Option Nat} {B : Nat → Bool} {h : Nat} (h1 : 64 ≤ h) (h2 : h < 128) (hB : B h = true) : a_is (a_mk I F B) h 1 7 = true := by
  have e : kd h = (1, 7) := by
    unfold kd
    rw [if_neg (by omega), if_pos h2]
  show (a_LV B h && ((kd h).1 == 1 && (kd h).2 == 7)) = true
  rw [l_lv h1 hB, e]
  rfl
/-- the specification of a telling -/
def sp_X2_tell (E : Nat) : aP := fun as σ K => ∃ M F B n c r0 x y s k, σ = a_mk (l_p M 0 s) F B ∧ as = [.inr (some 0), .inr r0, .inl x, .inl y] ∧ r0 = l_ref c ∧ l_env M F B n ∧ l_W M n s ∧ m_cd n c ∧ s.1 = nI k ∧ k ≤ 100 ∧ 101 ≤ k + E ∧ ∀ R : tR, R = tt_T M E c x y s → ∀ r : Int32, (R.1 = 0 → r = R.2.1) → K (some (.inl r)) (a_mk (l_p M R.1 R.2.2) F B)
theorem rc_X2_tell {E : Nat} : ∀ as σ K, sp_X2_tell E as σ K → ∃ h As, as = .inr (some h) :: As ∧ a_is σ h 2 10 = true := by
  rintro as σ K ⟨M, F, B, n, c, r0, x, y, s, k, rfl, rfl, -⟩
  exact ⟨0, _, rfl, rfl⟩
def l_g (E : Nat) (so : Int32 → Prop) (fn : (Nat → Nat → Int32) → tF → Nat → Int32 → Int32 → tS → tR) : aP := fun as σ K => ∃ M F B n p x y s k, σ = a_mk (l_p M 0 s) F B ∧ as = [.inr (some 0), .inr (some (66 + p)), .inl x, .inl y] ∧ l_env M F B n ∧ l_W M n s ∧ p < n ∧ so (M 17 p) ∧ s.1 = nI k ∧ k ≤ 100 ∧ 101 ≤ k + E ∧ ∀ R : tR, R = fn M (tt_T M E) p x y s → ∀ r : Int32, (R.1 = 0 → r = R.2.1) → K (some (.inl r)) (a_mk (l_p M R.1 R.2.2) F B)
theorem l_grc {E : Nat} {so : Int32 → Prop} {fn : (Nat → Nat → Int32) → tF → Nat → Int32 → Int32 → tS → tR} : ∀ as σ K, l_g E so fn as σ K → ∃ h As, as = .inr (some h) :: As ∧ a_is σ h 2 10 = true := by
  rintro as σ K ⟨M, F, B, n, p, x, y, s, k, rfl, rfl, -⟩
  exact ⟨0, _, rfl, rfl⟩
theorem l_gl {E : Nat} {so : Int32 → Prop} {fn : (Nat → Nat → Int32) → tF → Nat → Int32 → Int32 → tS → tR} {as : List aV} {σ : aS} {K : aK} (h : l_g E so fn as σ K) : as.length = 4 := by
  obtain ⟨M, F, B, n, p, x, y, s, k, rfl, rfl, -⟩ := h
  rfl
/-- what numbered gives for a number that a pattern has -/
theorem l_num {F : Nat → Nat → Option Nat} {n : Nat} {c : Int32} (hn : n ≤ 60) (hF : ∀ p, p < n → F 3 p = some (66 + p)) (hc : m_vc n c) : (if m_in c 0 (nI n - 1) = 0 then none else F 3 c.toNatClampNeg) = l_ref c := by
  rw [if_neg (by rw [l_inv hn hc]; decide)]
  obtain ⟨j, hj, rfl⟩ := hc
  rw [w_pc (by omega), hF j hj, l_ref_p (by omega)]
section LT
variable {l : Launch} {D : va_G} {G : aG} {N0 : Nat} {E : Nat}
def sp_X2_tellOver (E : Nat) : aP := l_g E (fun v => v = 5) (fun M rc p x y s => t_over rc (M 18 p) (M 19 p) x y s)
theorem rc_X2_tellOver {E : Nat} : ∀ as σ K, sp_X2_tellOver E as σ K → ∃ h As, as = .inr (some h) :: As ∧ a_is σ h 2 10 = true := l_grc
def P_X2_tellOver {E : Nat} (K : aK) (bc bs : Nat) : List (Nat × aT) := [(0, t_ald 0 1),
  (1, t_ald 0 2),
  (2, t_ald 1 3),
  (3, t_geti 1 7 1 6),
  (6, t_call 2 0 0 bc bs sp_X2_numbered 9),
  (9, t_ild 2 10),
  (10, t_ild 3 11),
  (11, t_call 4 0 0 bc bs (sp_X2_tell E) 14),
  (14, t_ist 4 16),
  (16, t_ald 0 17),
  (17, t_geti 2 10 6 20),
  (20, t_if (fun x => x = 0) 23 28),
  (23, t_ild 4 25),
  (25, t_if (fun x => x = 0) 31 28),
  (28, t_ild 4 30),
  (30, t_iret K bc bs),
  (31, t_ald 0 32),
  (32, t_ald 0 33),
  (33, t_ald 1 34),
  (34, t_geti 1 7 2 37),
  (37, t_call 2 0 0 bc bs sp_X2_numbered 40),
  (40, t_ild 2 41),
  (41, t_ild 3 42),
  (42, t_call 4 0 0 bc bs (sp_X2_tell E) 45),
  (45, t_iret K bc bs)]
set_option maxRecDepth 100000 in
theorem S_X2_tellOver {E : Nat} {X : a_X} {K : aK} {l : Launch} {D : va_G} {G : aG} {N0 : Nat} (C : a_C X cX2_tellOver (some .int) RX2) (Y : a_Y X l (rm_X2_tellX E) D G N0) (M : a_mq X K (rm_X2_tellX E).cells (rm_X2_tellX E).slots) (hT : a_Con l D G N0 yX2_tell cX2_tell 4 (some .int) (rm_X2_tell E) (sp_X2_tell E)) : ∀ x ∈ P_X2_tellOver (E := E) K 0 0, a_Sd X x.1 x.2 := by
  unfold P_X2_tellOver
  refine List.forall_mem_cons.mpr ⟨s_aldn C dX2_tellOver_0 rfl, ?_⟩
  refine List.forall_mem_cons.mpr ⟨s_aldn C dX2_tellOver_1 rfl, ?_⟩
  refine List.forall_mem_cons.mpr ⟨s_aldn C dX2_tellOver_2 rfl, ?_⟩
  refine List.forall_mem_cons.mpr ⟨s_geti C rfl in_X1 (by decide) lk_X2_123 rfl dX2_tellOver_3, ?_⟩
  refine List.forall_mem_cons.mpr ⟨s_callV (rm := (a_rm 2 0 0)) (n := 1) C Y (ci := 2) rfl con_X2_numbered rc_X2_numbered co_X2_numbered ml_X2_68 im_X2_numbered se_X2_numbered ii_X2 (by decide +kernel) (a_hr (by omega) (by decide)) ⟨rfl, rfl⟩ dX2_tellOver_6, ?_⟩
  refine List.forall_mem_cons.mpr ⟨s_ildn C dX2_tellOver_9 rfl, ?_⟩
  refine List.forall_mem_cons.mpr ⟨s_ildn C dX2_tellOver_10 rfl, ?_⟩
  refine List.forall_mem_cons.mpr ⟨s_callV (rm := (rm_X2_tell E)) (n := 3) C Y (ci := 2) rfl hT rc_X2_tell co_X2_tell ml_X2_114 im_X2_tell se_X2_tell ii_X2 (by decide +kernel) (a_hr (by omega) (by decide)) ⟨rfl, rfl⟩ dX2_tellOver_11, ?_⟩
  refine List.forall_mem_cons.mpr ⟨s_ist C dX2_tellOver_14, ?_⟩
  refine List.forall_mem_cons.mpr ⟨s_aldn C dX2_tellOver_16 rfl, ?_⟩
  refine List.forall_mem_cons.mpr ⟨s_geti C rfl in_X2 (by decide) lk_X2_78 rfl dX2_tellOver_17, ?_⟩
  refine List.forall_mem_cons.mpr ⟨s_if_ne C dX2_tellOver_20 (by decide), ?_⟩
  refine List.forall_mem_cons.mpr ⟨s_ild C dX2_tellOver_23, ?_⟩
  refine List.forall_mem_cons.mpr ⟨s_if_eq C dX2_tellOver_25 (by decide), ?_⟩
  refine List.forall_mem_cons.mpr ⟨s_ild C dX2_tellOver_28, ?_⟩
  refine List.forall_mem_cons.mpr ⟨s_iret C M dX2_tellOver_30, ?_⟩
  refine List.forall_mem_cons.mpr ⟨s_aldn C dX2_tellOver_31 rfl, ?_⟩
  refine List.forall_mem_cons.mpr ⟨s_aldn C dX2_tellOver_32 rfl, ?_⟩
  refine List.forall_mem_cons.mpr ⟨s_aldn C dX2_tellOver_33 rfl, ?_⟩
  refine List.forall_mem_cons.mpr ⟨s_geti C rfl in_X1 (by decide) lk_X2_133 rfl dX2_tellOver_34, ?_⟩
  refine List.forall_mem_cons.mpr ⟨s_callV (rm := (a_rm 2 0 0)) (n := 1) C Y (ci := 2) rfl con_X2_numbered rc_X2_numbered co_X2_numbered ml_X2_68 im_X2_numbered se_X2_numbered ii_X2 (by decide +kernel) (a_hr (by omega) (by decide)) ⟨rfl, rfl⟩ dX2_tellOver_37, ?_⟩
  refine List.forall_mem_cons.mpr ⟨s_ildn C dX2_tellOver_40 rfl, ?_⟩
  refine List.forall_mem_cons.mpr ⟨s_ildn C dX2_tellOver_41 rfl, ?_⟩
  refine List.forall_mem_cons.mpr ⟨s_callV (rm := (rm_X2_tell E)) (n := 3) C Y (ci := 2) rfl hT rc_X2_tell co_X2_tell ml_X2_114 im_X2_tell se_X2_tell ii_X2 (by decide +kernel) (a_hr (by omega) (by decide)) ⟨rfl, rfl⟩ dX2_tellOver_42, ?_⟩
  refine List.forall_mem_cons.mpr ⟨s_iret C M dX2_tellOver_45, ?_⟩
  exact fun _ h => absurd h List.not_mem_nil
set_option maxRecDepth 20000 in
theorem con_X2_tellOver (hT : a_Con l D G N0 yX2_tell cX2_tell 4 (some .int) (rm_X2_tell E) (sp_X2_tell E)) : a_Con l D G N0 yX2_tellOver cX2_tellOver 5 (some .int) (rm_X2_tellX E) (sp_X2_tellOver E) := by
  refine a_con (by decide) (fun as σ K h => by rw [l_gl h]; decide) ?_
  intro X as σ K h C Y M _
  obtain ⟨M', F, B, n, p, x, y, s, k, rfl, rfl, henv, hW, hp, hso, hs, hk, hE, hK⟩ := h
  have hK : ∀ R : tR, R = t_over (tt_T M' E) (M' 18 p) (M' 19 p) x y s → ∀ r : Int32, (R.1 = 0 → r = R.2.1) → K (some (.inl r)) (a_mk (l_p M' R.1 R.2.2) F B) := hK
  have hp60 : p < 60 := Nat.lt_of_lt_of_le hp henv.1.1
  obtain ⟨d1, d2, d3, d5, d6, d7, d8, d9⟩ := id henv.2
  obtain ⟨hB, e0, e1, e2, e3⟩ := d3 p hp
  obtain ⟨so, hs13, hsoo, hva, hvb, hvc, hvd, hvn, hvo⟩ := henv.1.2.1 p hp
  have hi : ∀ I, a_is (a_mk I F B) (66 + p) 1 7 = true := fun I => l_is (by omega) (by omega) hB
  have cd : ∀ {a : Int32}, m_vc n a → m_cd n a := fun h => Or.inr (Or.inr (Or.inr h))
  have hsoe : so = 5 := (nI_eq (by omega) (by decide)).mp (hsoo.symm.trans hso)
  have va : m_vc n (M' 18 p) := hva (by omega) (by omega) (by omega)
  have vb : m_vc n (M' 19 p) := hvb (Or.inl hsoe)
  refine a_wps (S_X2_tellOver C Y M hT) (inv := a_ni) a_nih 60 _ _ _ _ _ _ ?_
  refine a_gi (hi _) ⟨_, F, B, n, _, rfl, rfl, d1, henv.1.1, M', F, B, n, M' 18 p, _, x, y, s, k, rfl, rfl, ?_, henv, hW, cd va, hs, hk, hE, fun R hR r hr => ?_⟩
  · show (if m_in (l_p M' 0 s (66 + p) 1) 0 (nI n - 1) = 0 then none else F 3 (l_p M' 0 s (66 + p) 1).toNatClampNeg) = _
    rw [lp_g (by decide), e1]
    exact l_num henv.1.1 d2 va
  · skip
    obtain ⟨k1, a1, a2, a3⟩ := tk_T (M := M') E (M' 18 p) x y s k hs hk
    have hW1 := tw_T (M := M') (n := n) E (M' 18 p) x y s hW
    rw [← hR] at a3 hW1
    by_cases hz : R.1 = 0
    · by_cases hv : R.2.1 = 0
      · refine ⟨fun _ => ⟨fun _ => a_gi (hi _) ⟨_, F, B, n, _, rfl, rfl, d1, henv.1.1, M', F, B, n, M' 19 p, _, x, y, R.2.2, k1, by rw [hz], rfl, ?_, henv, hW1, cd vb, a3, a2, by omega, fun R2 hR2 r2 hr2 => ?_⟩, fun w => absurd ((hr hz).trans hv) w⟩, fun w => absurd hz w⟩
        · show (if m_in (l_p M' R.1 R.2.2 (66 + p) 2) 0 (nI n - 1) = 0 then none else F 3 (l_p M' R.1 R.2.2 (66 + p) 2).toNatClampNeg) = _
          rw [lp_g (by decide), e2]
          exact l_num henv.1.1 d2 vb
        · exact hK R2 (by rw [hR2, show t_over (tt_T M' E) (M' 18 p) (M' 19 p) x y s = _ from if_pos (by rw [← hR]; exact ⟨hz, hv⟩), ← hR]) r2 hr2
      · have hK2 := hK R (by rw [show t_over (tt_T M' E) (M' 18 p) (M' 19 p) x y s = _ from if_neg (by rw [← hR]; exact fun w => hv w.2)]; exact hR) r hr
        exact ⟨fun _ => ⟨fun w => absurd ((hr hz).symm.trans w) hv, fun _ => hK2⟩, fun w => absurd hz w⟩
    · have hK2 := hK R (by rw [show t_over (tt_T M' E) (M' 18 p) (M' 19 p) x y s = _ from if_neg (by rw [← hR]; exact fun w => hz w.1)]; exact hR) r hr
      exact ⟨fun w => absurd w hz, fun _ => hK2⟩
def sp_X2_tellWhere (E : Nat) : aP := l_g E (fun v => v = 6) (fun M rc p x y s => t_where rc (M 18 p) (M 19 p) (M 20 p) x y s)
theorem rc_X2_tellWhere {E : Nat} : ∀ as σ K, sp_X2_tellWhere E as σ K → ∃ h As, as = .inr (some h) :: As ∧ a_is σ h 2 10 = true := l_grc
def P_X2_tellWhere {E : Nat} (K : aK) (bc bs : Nat) : List (Nat × aT) := [(0, t_ald 0 1),
  (1, t_ald 0 2),
  (2, t_ald 1 3),
  (3, t_geti 1 7 1 6),
  (6, t_call 2 0 0 bc bs sp_X2_numbered 9),
  (9, t_ild 2 10),
  (10, t_ild 3 11),
  (11, t_call 4 0 0 bc bs (sp_X2_tell E) 14),
  (14, t_ist 4 16),
  (16, t_ald 0 17),
  (17, t_geti 2 10 6 20),
  (20, t_if (fun x => x = 0) 25 23),
  (23, t_ic 0 24),
  (24, t_iret K bc bs),
  (25, t_ald 0 26),
  (26, t_ald 0 27),
  (27, t_ild 4 29),
  (29, t_if (fun x => x ≤ 0) 39 32),
  (32, t_ald 1 33),
  (33, t_geti 1 7 2 36),
  (36, t_goto 43),
  (39, t_ald 1 40),
  (40, t_geti 1 7 3 43),
  (43, t_call 2 0 0 bc bs sp_X2_numbered 46),
  (46, t_ild 2 47),
  (47, t_ild 3 48),
  (48, t_call 4 0 0 bc bs (sp_X2_tell E) 51),
  (51, t_iret K bc bs)]
set_option maxRecDepth 100000 in
theorem S_X2_tellWhere {E : Nat} {X : a_X} {K : aK} {l : Launch} {D : va_G} {G : aG} {N0 : Nat} (C : a_C X cX2_tellWhere (some .int) RX2) (Y : a_Y X l (rm_X2_tellX E) D G N0) (M : a_mq X K (rm_X2_tellX E).cells (rm_X2_tellX E).slots) (hT : a_Con l D G N0 yX2_tell cX2_tell 4 (some .int) (rm_X2_tell E) (sp_X2_tell E)) : ∀ x ∈ P_X2_tellWhere (E := E) K 0 0, a_Sd X x.1 x.2 := by
  unfold P_X2_tellWhere
  refine List.forall_mem_cons.mpr ⟨s_aldn C dX2_tellWhere_0 rfl, ?_⟩
  refine List.forall_mem_cons.mpr ⟨s_aldn C dX2_tellWhere_1 rfl, ?_⟩
  refine List.forall_mem_cons.mpr ⟨s_aldn C dX2_tellWhere_2 rfl, ?_⟩
  refine List.forall_mem_cons.mpr ⟨s_geti C rfl in_X1 (by decide) lk_X2_123 rfl dX2_tellWhere_3, ?_⟩
  refine List.forall_mem_cons.mpr ⟨s_callV (rm := (a_rm 2 0 0)) (n := 1) C Y (ci := 2) rfl con_X2_numbered rc_X2_numbered co_X2_numbered ml_X2_68 im_X2_numbered se_X2_numbered ii_X2 (by decide +kernel) (a_hr (by omega) (by decide)) ⟨rfl, rfl⟩ dX2_tellWhere_6, ?_⟩
  refine List.forall_mem_cons.mpr ⟨s_ildn C dX2_tellWhere_9 rfl, ?_⟩
  refine List.forall_mem_cons.mpr ⟨s_ildn C dX2_tellWhere_10 rfl, ?_⟩
  refine List.forall_mem_cons.mpr ⟨s_callV (rm := (rm_X2_tell E)) (n := 3) C Y (ci := 2) rfl hT rc_X2_tell co_X2_tell ml_X2_114 im_X2_tell se_X2_tell ii_X2 (by decide +kernel) (a_hr (by omega) (by decide)) ⟨rfl, rfl⟩ dX2_tellWhere_11, ?_⟩
  refine List.forall_mem_cons.mpr ⟨s_ist C dX2_tellWhere_14, ?_⟩
  refine List.forall_mem_cons.mpr ⟨s_aldn C dX2_tellWhere_16 rfl, ?_⟩
  refine List.forall_mem_cons.mpr ⟨s_geti C rfl in_X2 (by decide) lk_X2_78 rfl dX2_tellWhere_17, ?_⟩
  refine List.forall_mem_cons.mpr ⟨s_if_eq C dX2_tellWhere_20 (by decide), ?_⟩
  refine List.forall_mem_cons.mpr ⟨s_ic C dX2_tellWhere_23 (by decide), ?_⟩
  refine List.forall_mem_cons.mpr ⟨s_iret C M dX2_tellWhere_24, ?_⟩
  refine List.forall_mem_cons.mpr ⟨s_aldn C dX2_tellWhere_25 rfl, ?_⟩
  refine List.forall_mem_cons.mpr ⟨s_aldn C dX2_tellWhere_26 rfl, ?_⟩
  refine List.forall_mem_cons.mpr ⟨s_ild C dX2_tellWhere_27, ?_⟩
  refine List.forall_mem_cons.mpr ⟨s_if_le C dX2_tellWhere_29 (by decide), ?_⟩
  refine List.forall_mem_cons.mpr ⟨s_aldn C dX2_tellWhere_32 rfl, ?_⟩
  refine List.forall_mem_cons.mpr ⟨s_geti C rfl in_X1 (by decide) lk_X2_133 rfl dX2_tellWhere_33, ?_⟩
  refine List.forall_mem_cons.mpr ⟨s_goto C dX2_tellWhere_36 (by decide), ?_⟩
  refine List.forall_mem_cons.mpr ⟨s_aldn C dX2_tellWhere_39 rfl, ?_⟩
  refine List.forall_mem_cons.mpr ⟨s_geti C rfl in_X1 (by decide) lk_X2_136 rfl dX2_tellWhere_40, ?_⟩
  refine List.forall_mem_cons.mpr ⟨s_callV (rm := (a_rm 2 0 0)) (n := 1) C Y (ci := 2) rfl con_X2_numbered rc_X2_numbered co_X2_numbered ml_X2_68 im_X2_numbered se_X2_numbered ii_X2 (by decide +kernel) (a_hr (by omega) (by decide)) ⟨rfl, rfl⟩ dX2_tellWhere_43, ?_⟩
  refine List.forall_mem_cons.mpr ⟨s_ildn C dX2_tellWhere_46 rfl, ?_⟩
  refine List.forall_mem_cons.mpr ⟨s_ildn C dX2_tellWhere_47 rfl, ?_⟩
  refine List.forall_mem_cons.mpr ⟨s_callV (rm := (rm_X2_tell E)) (n := 3) C Y (ci := 2) rfl hT rc_X2_tell co_X2_tell ml_X2_114 im_X2_tell se_X2_tell ii_X2 (by decide +kernel) (a_hr (by omega) (by decide)) ⟨rfl, rfl⟩ dX2_tellWhere_48, ?_⟩
  refine List.forall_mem_cons.mpr ⟨s_iret C M dX2_tellWhere_51, ?_⟩
  exact fun _ h => absurd h List.not_mem_nil
set_option maxRecDepth 20000 in
theorem con_X2_tellWhere (hT : a_Con l D G N0 yX2_tell cX2_tell 4 (some .int) (rm_X2_tell E) (sp_X2_tell E)) : a_Con l D G N0 yX2_tellWhere cX2_tellWhere 5 (some .int) (rm_X2_tellX E) (sp_X2_tellWhere E) := by
  refine a_con (by decide) (fun as σ K h => by rw [l_gl h]; decide) ?_
  intro X as σ K h C Y M _
  obtain ⟨M', F, B, n, p, x, y, s, k, rfl, rfl, henv, hW, hp, hso, hs, hk, hE, hK⟩ := h
  have hK : ∀ R : tR, R = t_where (tt_T M' E) (M' 18 p) (M' 19 p) (M' 20 p) x y s → ∀ r : Int32, (R.1 = 0 → r = R.2.1) → K (some (.inl r)) (a_mk (l_p M' R.1 R.2.2) F B) := hK
  have hp60 : p < 60 := Nat.lt_of_lt_of_le hp henv.1.1
  obtain ⟨d1, d2, d3, d5, d6, d7, d8, d9⟩ := id henv.2
  obtain ⟨hB, e0, e1, e2, e3⟩ := d3 p hp
  obtain ⟨so, hs13, hsoo, hva, hvb, hvc, hvd, hvn, hvo⟩ := henv.1.2.1 p hp
  have hi : ∀ I, a_is (a_mk I F B) (66 + p) 1 7 = true := fun I => l_is (by omega) (by omega) hB
  have cd : ∀ {a : Int32}, m_vc n a → m_cd n a := fun h => Or.inr (Or.inr (Or.inr h))
  have hsoe : so = 6 := (nI_eq (by omega) (by decide)).mp (hsoo.symm.trans hso)
  have va : m_vc n (M' 18 p) := hva (by omega) (by omega) (by omega)
  have vb : m_vc n (M' 19 p) := hvb (Or.inr (Or.inl hsoe))
  have vc : m_vc n (M' 20 p) := hvc hsoe
  refine a_wps (S_X2_tellWhere C Y M hT) (inv := a_ni) a_nih 60 _ _ _ _ _ _ ?_
  refine a_gi (hi _) ⟨_, F, B, n, _, rfl, rfl, d1, henv.1.1, M', F, B, n, M' 18 p, _, x, y, s, k, rfl, rfl, ?_, henv, hW, cd va, hs, hk, hE, fun R hR r hr => ?_⟩
  · show (if m_in (l_p M' 0 s (66 + p) 1) 0 (nI n - 1) = 0 then none else F 3 (l_p M' 0 s (66 + p) 1).toNatClampNeg) = _
    rw [lp_g (by decide), e1]
    exact l_num henv.1.1 d2 va
  · skip
    obtain ⟨k1, a1, a2, a3⟩ := tk_T (M := M') E (M' 18 p) x y s k hs hk
    have hW1 := tw_T (M := M') (n := n) E (M' 18 p) x y s hW
    rw [← hR] at a3 hW1
    by_cases hz : R.1 = 0
    · have eR : ∀ R2 : tR, R2 = tt_T M' E (if r ≤ 0 then M' 20 p else M' 19 p) x y R.2.2 → R2 = t_where (tt_T M' E) (M' 18 p) (M' 19 p) (M' 20 p) x y s := fun R2 hR2 => by
        rw [hR2, show t_where (tt_T M' E) (M' 18 p) (M' 19 p) (M' 20 p) x y s = _ from if_pos (by rw [← hR]; exact hz), ← hR, hr hz]
      refine ⟨fun _ => ⟨fun hl => a_gi (hi _) ⟨_, F, B, n, _, rfl, rfl, d1, henv.1.1, M', F, B, n, M' 20 p, _, x, y, R.2.2, k1, by rw [hz], rfl, ?_, henv, hW1, cd vc, a3, a2, by omega, fun R2 hR2 r2 hr2 => ?_⟩, fun hl => a_gi (hi _) ⟨_, F, B, n, _, rfl, rfl, d1, henv.1.1, M', F, B, n, M' 19 p, _, x, y, R.2.2, k1, by rw [hz], rfl, ?_, henv, hW1, cd vb, a3, a2, by omega, fun R2 hR2 r2 hr2 => ?_⟩⟩, fun w => absurd hz w⟩
      · show (if m_in (l_p M' R.1 R.2.2 (66 + p) 3) 0 (nI n - 1) = 0 then none else F 3 (l_p M' R.1 R.2.2 (66 + p) 3).toNatClampNeg) = _
        rw [lp_g (by decide), e3]
        exact l_num henv.1.1 d2 vc
      · exact hK R2 (eR R2 (by rw [if_pos hl]; exact hR2)) r2 hr2
      · show (if m_in (l_p M' R.1 R.2.2 (66 + p) 2) 0 (nI n - 1) = 0 then none else F 3 (l_p M' R.1 R.2.2 (66 + p) 2).toNatClampNeg) = _
        rw [lp_g (by decide), e2]
        exact l_num henv.1.1 d2 vb
      · exact hK R2 (eR R2 (by rw [if_neg hl]; exact hR2)) r2 hr2
    · have hK2 := hK R (by rw [show t_where (tt_T M' E) (M' 18 p) (M' 19 p) (M' 20 p) x y s = _ from if_neg (by rw [← hR]; exact hz)]; exact hR) 0 (fun w => absurd w hz)
      exact ⟨fun w => absurd w hz, fun _ => hK2⟩
def sp_X2_tellBoth (E : Nat) : aP := l_g E (fun v => v = 11) (fun M rc p x y s => t_both rc (M 18 p) (M 19 p) (M 20 p) x y s)
theorem rc_X2_tellBoth {E : Nat} : ∀ as σ K, sp_X2_tellBoth E as σ K → ∃ h As, as = .inr (some h) :: As ∧ a_is σ h 2 10 = true := l_grc
def P_X2_tellBoth {E : Nat} (K : aK) (bc bs : Nat) : List (Nat × aT) := [(0, t_ald 0 1),
  (1, t_ald 0 2),
  (2, t_ald 1 3),
  (3, t_geti 1 7 1 6),
  (6, t_call 2 0 0 bc bs sp_X2_numbered 9),
  (9, t_ild 2 10),
  (10, t_ild 3 11),
  (11, t_call 4 0 0 bc bs (sp_X2_tell E) 14),
  (14, t_ist 4 16),
  (16, t_ald 0 17),
  (17, t_geti 2 10 6 20),
  (20, t_if (fun x => x = 0) 25 23),
  (23, t_ic 0 24),
  (24, t_iret K bc bs),
  (25, t_ild 4 27),
  (27, t_ald 1 28),
  (28, t_geti 1 7 3 31),
  (31, t_ald 0 32),
  (32, t_ald 0 33),
  (33, t_ald 1 34),
  (34, t_geti 1 7 2 37),
  (37, t_call 2 0 0 bc bs sp_X2_numbered 40),
  (40, t_ild 2 41),
  (41, t_ild 3 42),
  (42, t_call 4 0 0 bc bs (sp_X2_tell E) 45),
  (45, t_mul 46),
  (46, t_add 47),
  (47, t_iret K bc bs)]
set_option maxRecDepth 100000 in
theorem S_X2_tellBoth {E : Nat} {X : a_X} {K : aK} {l : Launch} {D : va_G} {G : aG} {N0 : Nat} (C : a_C X cX2_tellBoth (some .int) RX2) (Y : a_Y X l (rm_X2_tellX E) D G N0) (M : a_mq X K (rm_X2_tellX E).cells (rm_X2_tellX E).slots) (hT : a_Con l D G N0 yX2_tell cX2_tell 4 (some .int) (rm_X2_tell E) (sp_X2_tell E)) : ∀ x ∈ P_X2_tellBoth (E := E) K 0 0, a_Sd X x.1 x.2 := by
  unfold P_X2_tellBoth
  refine List.forall_mem_cons.mpr ⟨s_aldn C dX2_tellBoth_0 rfl, ?_⟩
  refine List.forall_mem_cons.mpr ⟨s_aldn C dX2_tellBoth_1 rfl, ?_⟩
  refine List.forall_mem_cons.mpr ⟨s_aldn C dX2_tellBoth_2 rfl, ?_⟩
  refine List.forall_mem_cons.mpr ⟨s_geti C rfl in_X1 (by decide) lk_X2_123 rfl dX2_tellBoth_3, ?_⟩
  refine List.forall_mem_cons.mpr ⟨s_callV (rm := (a_rm 2 0 0)) (n := 1) C Y (ci := 2) rfl con_X2_numbered rc_X2_numbered co_X2_numbered ml_X2_68 im_X2_numbered se_X2_numbered ii_X2 (by decide +kernel) (a_hr (by omega) (by decide)) ⟨rfl, rfl⟩ dX2_tellBoth_6, ?_⟩
  refine List.forall_mem_cons.mpr ⟨s_ildn C dX2_tellBoth_9 rfl, ?_⟩
  refine List.forall_mem_cons.mpr ⟨s_ildn C dX2_tellBoth_10 rfl, ?_⟩
  refine List.forall_mem_cons.mpr ⟨s_callV (rm := (rm_X2_tell E)) (n := 3) C Y (ci := 2) rfl hT rc_X2_tell co_X2_tell ml_X2_114 im_X2_tell se_X2_tell ii_X2 (by decide +kernel) (a_hr (by omega) (by decide)) ⟨rfl, rfl⟩ dX2_tellBoth_11, ?_⟩
  refine List.forall_mem_cons.mpr ⟨s_ist C dX2_tellBoth_14, ?_⟩
  refine List.forall_mem_cons.mpr ⟨s_aldn C dX2_tellBoth_16 rfl, ?_⟩
  refine List.forall_mem_cons.mpr ⟨s_geti C rfl in_X2 (by decide) lk_X2_78 rfl dX2_tellBoth_17, ?_⟩
  refine List.forall_mem_cons.mpr ⟨s_if_eq C dX2_tellBoth_20 (by decide), ?_⟩
  refine List.forall_mem_cons.mpr ⟨s_ic C dX2_tellBoth_23 (by decide), ?_⟩
  refine List.forall_mem_cons.mpr ⟨s_iret C M dX2_tellBoth_24, ?_⟩
  refine List.forall_mem_cons.mpr ⟨s_ild C dX2_tellBoth_25, ?_⟩
  refine List.forall_mem_cons.mpr ⟨s_aldn C dX2_tellBoth_27 rfl, ?_⟩
  refine List.forall_mem_cons.mpr ⟨s_geti C rfl in_X1 (by decide) lk_X2_136 rfl dX2_tellBoth_28, ?_⟩
  refine List.forall_mem_cons.mpr ⟨s_aldn C dX2_tellBoth_31 rfl, ?_⟩
  refine List.forall_mem_cons.mpr ⟨s_aldn C dX2_tellBoth_32 rfl, ?_⟩
  refine List.forall_mem_cons.mpr ⟨s_aldn C dX2_tellBoth_33 rfl, ?_⟩
  refine List.forall_mem_cons.mpr ⟨s_geti C rfl in_X1 (by decide) lk_X2_133 rfl dX2_tellBoth_34, ?_⟩
  refine List.forall_mem_cons.mpr ⟨s_callV (rm := (a_rm 2 0 0)) (n := 1) C Y (ci := 2) rfl con_X2_numbered rc_X2_numbered co_X2_numbered ml_X2_68 im_X2_numbered se_X2_numbered ii_X2 (by decide +kernel) (a_hr (by omega) (by decide)) ⟨rfl, rfl⟩ dX2_tellBoth_37, ?_⟩
  refine List.forall_mem_cons.mpr ⟨s_ildn C dX2_tellBoth_40 rfl, ?_⟩
  refine List.forall_mem_cons.mpr ⟨s_ildn C dX2_tellBoth_41 rfl, ?_⟩
  refine List.forall_mem_cons.mpr ⟨s_callV (rm := (rm_X2_tell E)) (n := 3) C Y (ci := 2) rfl hT rc_X2_tell co_X2_tell ml_X2_114 im_X2_tell se_X2_tell ii_X2 (by decide +kernel) (a_hr (by omega) (by decide)) ⟨rfl, rfl⟩ dX2_tellBoth_42, ?_⟩
  refine List.forall_mem_cons.mpr ⟨s_mul C dX2_tellBoth_45, ?_⟩
  refine List.forall_mem_cons.mpr ⟨s_add C dX2_tellBoth_46, ?_⟩
  refine List.forall_mem_cons.mpr ⟨s_iret C M dX2_tellBoth_47, ?_⟩
  exact fun _ h => absurd h List.not_mem_nil
set_option maxRecDepth 20000 in
theorem con_X2_tellBoth (hT : a_Con l D G N0 yX2_tell cX2_tell 4 (some .int) (rm_X2_tell E) (sp_X2_tell E)) : a_Con l D G N0 yX2_tellBoth cX2_tellBoth 5 (some .int) (rm_X2_tellX E) (sp_X2_tellBoth E) := by
  refine a_con (by decide) (fun as σ K h => by rw [l_gl h]; decide) ?_
  intro X as σ K h C Y M _
  obtain ⟨M', F, B, n, p, x, y, s, k, rfl, rfl, henv, hW, hp, hso, hs, hk, hE, hK⟩ := h
  have hK : ∀ R : tR, R = t_both (tt_T M' E) (M' 18 p) (M' 19 p) (M' 20 p) x y s → ∀ r : Int32, (R.1 = 0 → r = R.2.1) → K (some (.inl r)) (a_mk (l_p M' R.1 R.2.2) F B) := hK
  have hp60 : p < 60 := Nat.lt_of_lt_of_le hp henv.1.1
  obtain ⟨d1, d2, d3, d5, d6, d7, d8, d9⟩ := id henv.2
  obtain ⟨hB, e0, e1, e2, e3⟩ := d3 p hp
  obtain ⟨so, hs13, hsoo, hva, hvb, hvc, hvd, hvn, hvo⟩ := henv.1.2.1 p hp
  have hi : ∀ I, a_is (a_mk I F B) (66 + p) 1 7 = true := fun I => l_is (by omega) (by omega) hB
  have cd : ∀ {a : Int32}, m_vc n a → m_cd n a := fun h => Or.inr (Or.inr (Or.inr h))
  have hsoe : so = 11 := (nI_eq (by omega) (by decide)).mp (hsoo.symm.trans hso)
  have va : m_vc n (M' 18 p) := hva (by omega) (by omega) (by omega)
  have vb : m_vc n (M' 19 p) := hvb (Or.inr (Or.inr hsoe))
  refine a_wps (S_X2_tellBoth C Y M hT) (inv := a_ni) a_nih 60 _ _ _ _ _ _ ?_
  refine a_gi (hi _) ⟨_, F, B, n, _, rfl, rfl, d1, henv.1.1, M', F, B, n, M' 18 p, _, x, y, s, k, rfl, rfl, ?_, henv, hW, cd va, hs, hk, hE, fun R hR r hr => ?_⟩
  · show (if m_in (l_p M' 0 s (66 + p) 1) 0 (nI n - 1) = 0 then none else F 3 (l_p M' 0 s (66 + p) 1).toNatClampNeg) = _
    rw [lp_g (by decide), e1]
    exact l_num henv.1.1 d2 va
  · skip
    obtain ⟨k1, a1, a2, a3⟩ := tk_T (M := M') E (M' 18 p) x y s k hs hk
    have hW1 := tw_T (M := M') (n := n) E (M' 18 p) x y s hW
    rw [← hR] at a3 hW1
    by_cases hz : R.1 = 0
    · refine ⟨fun _ => a_gi (hi _) (a_gi (hi _) ⟨_, F, B, n, _, rfl, rfl, d1, henv.1.1, M', F, B, n, M' 19 p, _, x, y, R.2.2, k1, by rw [hz], rfl, ?_, henv, hW1, cd vb, a3, a2, by omega, fun R2 hR2 r2 hr2 => ?_⟩), fun w => absurd hz w⟩
      · show (if m_in (l_p M' R.1 R.2.2 (66 + p) 2) 0 (nI n - 1) = 0 then none else F 3 (l_p M' R.1 R.2.2 (66 + p) 2).toNatClampNeg) = _
        rw [lp_g (by decide), e2]
        exact l_num henv.1.1 d2 vb
      · have hK2 := hK (R2.1, R.2.1 + M' 20 p * R2.2.1, R2.2.2) (by rw [show t_both (tt_T M' E) (M' 18 p) (M' 19 p) (M' 20 p) x y s = _ from if_pos (by rw [← hR]; exact hz), ← hR, ← hR2]) (r + M' 20 p * r2) (fun w => by rw [hr hz, hr2 w])
        have e9 : l_p M' R.1 R.2.2 (66 + p) 3 = M' 20 p := by rw [lp_g (by decide), e3]
        rw [← e9] at hK2
        exact hK2
    · have hK2 := hK R (by rw [show t_both (tt_T M' E) (M' 18 p) (M' 19 p) (M' 20 p) x y s = _ from if_neg (by rw [← hR]; exact hz)]; exact hR) 0 (fun w => absurd w hz)
      exact ⟨fun w => absurd w hz, fun _ => hK2⟩
def sp_X2_tellSafe (E : Nat) : aP := l_g E (fun v => v = 12) (fun M rc p x y s => t_safe (M 19 p) (M 20 p) (rc (M 18 p) x y s))
theorem rc_X2_tellSafe {E : Nat} : ∀ as σ K, sp_X2_tellSafe E as σ K → ∃ h As, as = .inr (some h) :: As ∧ a_is σ h 2 10 = true := l_grc
def P_X2_tellSafe {E : Nat} (K : aK) (bc bs : Nat) : List (Nat × aT) := [(0, t_ald 0 1),
  (1, t_ald 0 2),
  (2, t_ald 1 3),
  (3, t_geti 1 7 1 6),
  (6, t_call 2 0 0 bc bs sp_X2_numbered 9),
  (9, t_ild 2 10),
  (10, t_ild 3 11),
  (11, t_call 4 0 0 bc bs (sp_X2_tell E) 14),
  (14, t_ist 4 16),
  (16, t_ald 0 17),
  (17, t_geti 2 10 6 20),
  (20, t_if (fun x => x = 0) 43 23),
  (23, t_ald 0 24),
  (24, t_ald 1 25),
  (25, t_geti 1 7 2 28),
  (28, t_call 2 0 0 bc bs sp_X2_saves 31),
  (31, t_if (fun x => x = 0) 43 34),
  (34, t_ald 0 35),
  (35, t_geti 2 10 8 38),
  (38, t_ic 20 40),
  (40, t_ifc (fun x y => x < y) 46 43),
  (43, t_ild 4 45),
  (45, t_iret K bc bs),
  (46, t_ald 0 47),
  (47, t_dup 48),
  (48, t_geti 2 10 8 51),
  (51, t_ic 1 52),
  (52, t_add 53),
  (53, t_puti 2 10 8 56),
  (56, t_ald 0 57),
  (57, t_ic 0 58),
  (58, t_puti 2 10 6 61),
  (61, t_ald 1 62),
  (62, t_geti 1 7 3 65),
  (65, t_iret K bc bs)]
set_option maxRecDepth 100000 in
theorem S_X2_tellSafe {E : Nat} {X : a_X} {K : aK} {l : Launch} {D : va_G} {G : aG} {N0 : Nat} (C : a_C X cX2_tellSafe (some .int) RX2) (Y : a_Y X l (rm_X2_tellX E) D G N0) (M : a_mq X K (rm_X2_tellX E).cells (rm_X2_tellX E).slots) (hT : a_Con l D G N0 yX2_tell cX2_tell 4 (some .int) (rm_X2_tell E) (sp_X2_tell E)) : ∀ x ∈ P_X2_tellSafe (E := E) K 0 0, a_Sd X x.1 x.2 := by
  unfold P_X2_tellSafe
  refine List.forall_mem_cons.mpr ⟨s_aldn C dX2_tellSafe_0 rfl, ?_⟩
  refine List.forall_mem_cons.mpr ⟨s_aldn C dX2_tellSafe_1 rfl, ?_⟩
  refine List.forall_mem_cons.mpr ⟨s_aldn C dX2_tellSafe_2 rfl, ?_⟩
  refine List.forall_mem_cons.mpr ⟨s_geti C rfl in_X1 (by decide) lk_X2_123 rfl dX2_tellSafe_3, ?_⟩
  refine List.forall_mem_cons.mpr ⟨s_callV (rm := (a_rm 2 0 0)) (n := 1) C Y (ci := 2) rfl con_X2_numbered rc_X2_numbered co_X2_numbered ml_X2_68 im_X2_numbered se_X2_numbered ii_X2 (by decide +kernel) (a_hr (by omega) (by decide)) ⟨rfl, rfl⟩ dX2_tellSafe_6, ?_⟩
  refine List.forall_mem_cons.mpr ⟨s_ildn C dX2_tellSafe_9 rfl, ?_⟩
  refine List.forall_mem_cons.mpr ⟨s_ildn C dX2_tellSafe_10 rfl, ?_⟩
  refine List.forall_mem_cons.mpr ⟨s_callV (rm := (rm_X2_tell E)) (n := 3) C Y (ci := 2) rfl hT rc_X2_tell co_X2_tell ml_X2_114 im_X2_tell se_X2_tell ii_X2 (by decide +kernel) (a_hr (by omega) (by decide)) ⟨rfl, rfl⟩ dX2_tellSafe_11, ?_⟩
  refine List.forall_mem_cons.mpr ⟨s_ist C dX2_tellSafe_14, ?_⟩
  refine List.forall_mem_cons.mpr ⟨s_aldn C dX2_tellSafe_16 rfl, ?_⟩
  refine List.forall_mem_cons.mpr ⟨s_geti C rfl in_X2 (by decide) lk_X2_78 rfl dX2_tellSafe_17, ?_⟩
  refine List.forall_mem_cons.mpr ⟨s_if_eq C dX2_tellSafe_20 (by decide), ?_⟩
  refine List.forall_mem_cons.mpr ⟨s_aldn C dX2_tellSafe_23 rfl, ?_⟩
  refine List.forall_mem_cons.mpr ⟨s_aldn C dX2_tellSafe_24 rfl, ?_⟩
  refine List.forall_mem_cons.mpr ⟨s_geti C rfl in_X1 (by decide) lk_X2_133 rfl dX2_tellSafe_25, ?_⟩
  refine List.forall_mem_cons.mpr ⟨s_callV (rm := (a_rm 1 0 0)) (n := 1) C Y (ci := 2) rfl con_X2_saves rc_X2_saves co_X2_saves ml_X2_178 im_X2_saves se_X2_saves ii_X2 (by decide +kernel) (a_hr (by omega) (by decide)) ⟨rfl, rfl⟩ dX2_tellSafe_28, ?_⟩
  refine List.forall_mem_cons.mpr ⟨s_if_eq C dX2_tellSafe_31 (by decide), ?_⟩
  refine List.forall_mem_cons.mpr ⟨s_aldn C dX2_tellSafe_34 rfl, ?_⟩
  refine List.forall_mem_cons.mpr ⟨s_geti C rfl in_X2 (by decide) lk_X2_71 rfl dX2_tellSafe_35, ?_⟩
  refine List.forall_mem_cons.mpr ⟨s_bi C dX2_tellSafe_38 (by decide), ?_⟩
  refine List.forall_mem_cons.mpr ⟨s_icmp_lt C dX2_tellSafe_40 (by decide), ?_⟩
  refine List.forall_mem_cons.mpr ⟨s_ild C dX2_tellSafe_43, ?_⟩
  refine List.forall_mem_cons.mpr ⟨s_iret C M dX2_tellSafe_45, ?_⟩
  refine List.forall_mem_cons.mpr ⟨s_aldn C dX2_tellSafe_46 rfl, ?_⟩
  refine List.forall_mem_cons.mpr ⟨s_dup C dX2_tellSafe_47, ?_⟩
  refine List.forall_mem_cons.mpr ⟨s_geti C rfl in_X2 (by decide) lk_X2_71 rfl dX2_tellSafe_48, ?_⟩
  refine List.forall_mem_cons.mpr ⟨s_ic C dX2_tellSafe_51 (by decide), ?_⟩
  refine List.forall_mem_cons.mpr ⟨s_add C dX2_tellSafe_52, ?_⟩
  refine List.forall_mem_cons.mpr ⟨s_puti C tyX2 tyX2_ok nmX2 rfl in_X2 (by decide) lk_X2_71 rfl (Or.inl rfl) rfl dX2_tellSafe_53, ?_⟩
  refine List.forall_mem_cons.mpr ⟨s_aldn C dX2_tellSafe_56 rfl, ?_⟩
  refine List.forall_mem_cons.mpr ⟨s_ic C dX2_tellSafe_57 (by decide), ?_⟩
  refine List.forall_mem_cons.mpr ⟨s_puti C tyX2 tyX2_ok nmX2 rfl in_X2 (by decide) lk_X2_78 rfl (Or.inl rfl) rfl dX2_tellSafe_58, ?_⟩
  refine List.forall_mem_cons.mpr ⟨s_aldn C dX2_tellSafe_61 rfl, ?_⟩
  refine List.forall_mem_cons.mpr ⟨s_geti C rfl in_X1 (by decide) lk_X2_136 rfl dX2_tellSafe_62, ?_⟩
  refine List.forall_mem_cons.mpr ⟨s_iret C M dX2_tellSafe_65, ?_⟩
  exact fun _ h => absurd h List.not_mem_nil
set_option maxRecDepth 20000 in
theorem con_X2_tellSafe (hT : a_Con l D G N0 yX2_tell cX2_tell 4 (some .int) (rm_X2_tell E) (sp_X2_tell E)) : a_Con l D G N0 yX2_tellSafe cX2_tellSafe 5 (some .int) (rm_X2_tellX E) (sp_X2_tellSafe E) := by
  refine a_con (by decide) (fun as σ K h => by rw [l_gl h]; decide) ?_
  intro X as σ K h C Y M _
  obtain ⟨M', F, B, n, p, x, y, s, k, rfl, rfl, henv, hW, hp, hso, hs, hk, hE, hK⟩ := h
  have hK : ∀ R : tR, R = t_safe (M' 19 p) (M' 20 p) ((tt_T M' E) (M' 18 p) x y s) → ∀ r : Int32, (R.1 = 0 → r = R.2.1) → K (some (.inl r)) (a_mk (l_p M' R.1 R.2.2) F B) := hK
  have hp60 : p < 60 := Nat.lt_of_lt_of_le hp henv.1.1
  obtain ⟨d1, d2, d3, d5, d6, d7, d8, d9⟩ := id henv.2
  obtain ⟨hB, e0, e1, e2, e3⟩ := d3 p hp
  obtain ⟨so, hs13, hsoo, hva, hvb, hvc, hvd, hvn, hvo⟩ := henv.1.2.1 p hp
  have hi : ∀ I, a_is (a_mk I F B) (66 + p) 1 7 = true := fun I => l_is (by omega) (by omega) hB
  have cd : ∀ {a : Int32}, m_vc n a → m_cd n a := fun h => Or.inr (Or.inr (Or.inr h))
  have hsoe : so = 12 := (nI_eq (by omega) (by decide)).mp (hsoo.symm.trans hso)
  have va : m_vc n (M' 18 p) := hva (by omega) (by omega) (by omega)
  refine a_wps (S_X2_tellSafe C Y M hT) (inv := a_ni) a_nih 60 _ _ _ _ _ _ ?_
  refine a_gi (hi _) ⟨_, F, B, n, _, rfl, rfl, d1, henv.1.1, M', F, B, n, M' 18 p, _, x, y, s, k, rfl, rfl, ?_, henv, hW, cd va, hs, hk, hE, fun R hR r hr => ?_⟩
  · show (if m_in (l_p M' 0 s (66 + p) 1) 0 (nI n - 1) = 0 then none else F 3 (l_p M' 0 s (66 + p) 1).toNatClampNeg) = _
    rw [lp_g (by decide), e1]
    exact l_num henv.1.1 d2 va
  · rw [← hR] at hK
    have eb : l_p M' R.1 R.2.2 (66 + p) 2 = M' 19 p := by rw [lp_g (by decide), e2]
    by_cases hz : R.1 = 0
    · have hK2 := hK R (if_neg (fun w => w.1 hz)).symm r hr
      exact ⟨fun _ => hK2, fun w => absurd hz w⟩
    · have esv : m_sv (l_p M' R.1 R.2.2 0 6) (l_p M' R.1 R.2.2 (66 + p) 2) = m_sv R.1 (M' 19 p) := by rw [eb]; rfl
      by_cases hc : ¬ R.1 = 4 ∧ (M' 19 p = 0 ∨ M' 19 p = R.1)
      · have e1v : m_sv R.1 (M' 19 p) = 1 := by
          unfold m_sv
          rw [if_neg hc.1]
          rcases hc.2 with z | z
          · rw [if_pos z]
          · by_cases z0 : M' 19 p = 0
            · rw [if_pos z0]
            · rw [if_neg z0, if_pos z]
        have nz : ¬ m_sv (l_p M' R.1 R.2.2 0 6) (l_p M' R.1 R.2.2 (66 + p) 2) = 0 := by rw [esv, e1v]; decide
        by_cases h20 : R.2.2.2.1 < 20
        · have n20 : ¬ 20 ≤ R.2.2.2.1 := Int32.not_le.mpr h20
          have hK2 := hK (0, M' 20 p, R.2.2.1, R.2.2.2.1 + 1, R.2.2.2.2) (if_pos ⟨hz, hc.1, hc.2, n20⟩).symm (M' 20 p) (fun _ => rfl)
          have e9 : a_w (a_w (l_p M' R.1 R.2.2) 0 8 (R.2.2.2.1 + 1)) 0 6 0 = l_p M' 0 (R.2.2.1, R.2.2.2.1 + 1, R.2.2.2.2) := by rw [lp_8, lp_6]
          have e10 : a_w (a_w (l_p M' R.1 R.2.2) 0 8 (R.2.2.2.1 + 1)) 0 6 0 (66 + p) 3 = M' 20 p := by rw [e9, lp_g (by decide), e3]
          have hK2 : K (some (.inl (M' 20 p))) (a_mk (l_p M' 0 (R.2.2.1, R.2.2.2.1 + 1, R.2.2.2.2)) F B) := hK2
          rw [← e9, ← e10] at hK2
          exact ⟨fun w => absurd w hz, fun _ => a_gi (hi _) ⟨_, F, B, _, rfl, rfl, fun w => absurd w nz, fun _ => ⟨fun _ => a_gi (hi (a_w (a_w (l_p M' R.1 R.2.2) 0 8 (R.2.2.2.1 + 1)) 0 6 0)) hK2, fun w => absurd h20 w⟩⟩⟩
        · have hK2 := hK R (if_neg (fun w => w.2.2.2 (Int32.not_lt.mp h20))).symm r hr
          exact ⟨fun w => absurd w hz, fun _ => a_gi (hi _) ⟨_, F, B, _, rfl, rfl, fun w => absurd w nz, fun _ => ⟨fun w => absurd w h20, fun _ => hK2⟩⟩⟩
      · have e1v : m_sv R.1 (M' 19 p) = 0 := by
          unfold m_sv
          by_cases z4 : R.1 = 4
          · rw [if_pos z4]
          · rw [if_neg z4]
            by_cases z0 : M' 19 p = 0
            · exact absurd ⟨z4, Or.inl z0⟩ hc
            · rw [if_neg z0]
              by_cases z1 : M' 19 p = R.1
              · exact absurd ⟨z4, Or.inr z1⟩ hc
              · rw [if_neg z1]
        have nz : m_sv (l_p M' R.1 R.2.2 0 6) (l_p M' R.1 R.2.2 (66 + p) 2) = 0 := by rw [esv, e1v]
        have hK2 := hK R (if_neg (fun w => hc ⟨w.2.1, w.2.2.1⟩)).symm r hr
        exact ⟨fun w => absurd w hz, fun _ => a_gi (hi _) ⟨_, F, B, _, rfl, rfl, fun _ => hK2, fun w => absurd nz w⟩⟩
def sp_X2_tellWorn (E : Nat) : aP := l_g E (fun v => v = 10) (fun M rc p x y s => t_worn rc (M 18 p) (M 19 p) (M 20 p) p x y s)
theorem rc_X2_tellWorn {E : Nat} : ∀ as σ K, sp_X2_tellWorn E as σ K → ∃ h As, as = .inr (some h) :: As ∧ a_is σ h 2 10 = true := l_grc
def P_X2_tellWorn {E : Nat} (K : aK) (bc bs : Nat) : List (Nat × aT) := [(0, t_ald 1 1),
  (1, t_dup 2),
  (2, t_geti 1 7 6 5),
  (5, t_ic 1 6),
  (6, t_add 7),
  (7, t_puti 1 7 6 10),
  (10, t_ald 1 11),
  (11, t_geti 1 7 6 14),
  (14, t_ald 1 15),
  (15, t_geti 1 7 2 18),
  (18, t_ifc (fun x y => y ≤ x) 36 21),
  (21, t_ald 0 22),
  (22, t_ald 0 23),
  (23, t_ald 1 24),
  (24, t_geti 1 7 1 27),
  (27, t_call 2 0 0 bc bs sp_X2_numbered 30),
  (30, t_ild 2 31),
  (31, t_ild 3 32),
  (32, t_call 4 0 0 bc bs (sp_X2_tell E) 35),
  (35, t_iret K bc bs),
  (36, t_ald 1 37),
  (37, t_ic 0 38),
  (38, t_puti 1 7 6 41),
  (41, t_ald 0 42),
  (42, t_dup 43),
  (43, t_geti 2 10 9 46),
  (46, t_ic 1 47),
  (47, t_add 48),
  (48, t_puti 2 10 9 51),
  (51, t_ald 1 52),
  (52, t_geti 1 7 3 55),
  (55, t_iret K bc bs)]
set_option maxRecDepth 100000 in
theorem S_X2_tellWorn {E : Nat} {X : a_X} {K : aK} {l : Launch} {D : va_G} {G : aG} {N0 : Nat} (C : a_C X cX2_tellWorn (some .int) RX2) (Y : a_Y X l (rm_X2_tellX E) D G N0) (M : a_mq X K (rm_X2_tellX E).cells (rm_X2_tellX E).slots) (hT : a_Con l D G N0 yX2_tell cX2_tell 4 (some .int) (rm_X2_tell E) (sp_X2_tell E)) : ∀ x ∈ P_X2_tellWorn (E := E) K 0 0, a_Sd X x.1 x.2 := by
  unfold P_X2_tellWorn
  refine List.forall_mem_cons.mpr ⟨s_aldn C dX2_tellWorn_0 rfl, ?_⟩
  refine List.forall_mem_cons.mpr ⟨s_dup C dX2_tellWorn_1, ?_⟩
  refine List.forall_mem_cons.mpr ⟨s_geti C rfl in_X1 (by decide) lk_X2_175 rfl dX2_tellWorn_2, ?_⟩
  refine List.forall_mem_cons.mpr ⟨s_ic C dX2_tellWorn_5 (by decide), ?_⟩
  refine List.forall_mem_cons.mpr ⟨s_add C dX2_tellWorn_6, ?_⟩
  refine List.forall_mem_cons.mpr ⟨s_puti C tyX1 tyX1_ok nmX1 rfl in_X1 (by decide) lk_X2_175 rfl (Or.inl rfl) rfl dX2_tellWorn_7, ?_⟩
  refine List.forall_mem_cons.mpr ⟨s_aldn C dX2_tellWorn_10 rfl, ?_⟩
  refine List.forall_mem_cons.mpr ⟨s_geti C rfl in_X1 (by decide) lk_X2_175 rfl dX2_tellWorn_11, ?_⟩
  refine List.forall_mem_cons.mpr ⟨s_aldn C dX2_tellWorn_14 rfl, ?_⟩
  refine List.forall_mem_cons.mpr ⟨s_geti C rfl in_X1 (by decide) lk_X2_133 rfl dX2_tellWorn_15, ?_⟩
  refine List.forall_mem_cons.mpr ⟨s_icmp_ge C dX2_tellWorn_18 (by decide), ?_⟩
  refine List.forall_mem_cons.mpr ⟨s_aldn C dX2_tellWorn_21 rfl, ?_⟩
  refine List.forall_mem_cons.mpr ⟨s_aldn C dX2_tellWorn_22 rfl, ?_⟩
  refine List.forall_mem_cons.mpr ⟨s_aldn C dX2_tellWorn_23 rfl, ?_⟩
  refine List.forall_mem_cons.mpr ⟨s_geti C rfl in_X1 (by decide) lk_X2_123 rfl dX2_tellWorn_24, ?_⟩
  refine List.forall_mem_cons.mpr ⟨s_callV (rm := (a_rm 2 0 0)) (n := 1) C Y (ci := 2) rfl con_X2_numbered rc_X2_numbered co_X2_numbered ml_X2_68 im_X2_numbered se_X2_numbered ii_X2 (by decide +kernel) (a_hr (by omega) (by decide)) ⟨rfl, rfl⟩ dX2_tellWorn_27, ?_⟩
  refine List.forall_mem_cons.mpr ⟨s_ildn C dX2_tellWorn_30 rfl, ?_⟩
  refine List.forall_mem_cons.mpr ⟨s_ildn C dX2_tellWorn_31 rfl, ?_⟩
  refine List.forall_mem_cons.mpr ⟨s_callV (rm := (rm_X2_tell E)) (n := 3) C Y (ci := 2) rfl hT rc_X2_tell co_X2_tell ml_X2_114 im_X2_tell se_X2_tell ii_X2 (by decide +kernel) (a_hr (by omega) (by decide)) ⟨rfl, rfl⟩ dX2_tellWorn_32, ?_⟩
  refine List.forall_mem_cons.mpr ⟨s_iret C M dX2_tellWorn_35, ?_⟩
  refine List.forall_mem_cons.mpr ⟨s_aldn C dX2_tellWorn_36 rfl, ?_⟩
  refine List.forall_mem_cons.mpr ⟨s_ic C dX2_tellWorn_37 (by decide), ?_⟩
  refine List.forall_mem_cons.mpr ⟨s_puti C tyX1 tyX1_ok nmX1 rfl in_X1 (by decide) lk_X2_175 rfl (Or.inl rfl) rfl dX2_tellWorn_38, ?_⟩
  refine List.forall_mem_cons.mpr ⟨s_aldn C dX2_tellWorn_41 rfl, ?_⟩
  refine List.forall_mem_cons.mpr ⟨s_dup C dX2_tellWorn_42, ?_⟩
  refine List.forall_mem_cons.mpr ⟨s_geti C rfl in_X2 (by decide) lk_X2_111 rfl dX2_tellWorn_43, ?_⟩
  refine List.forall_mem_cons.mpr ⟨s_ic C dX2_tellWorn_46 (by decide), ?_⟩
  refine List.forall_mem_cons.mpr ⟨s_add C dX2_tellWorn_47, ?_⟩
  refine List.forall_mem_cons.mpr ⟨s_puti C tyX2 tyX2_ok nmX2 rfl in_X2 (by decide) lk_X2_111 rfl (Or.inl rfl) rfl dX2_tellWorn_48, ?_⟩
  refine List.forall_mem_cons.mpr ⟨s_aldn C dX2_tellWorn_51 rfl, ?_⟩
  refine List.forall_mem_cons.mpr ⟨s_geti C rfl in_X1 (by decide) lk_X2_136 rfl dX2_tellWorn_52, ?_⟩
  refine List.forall_mem_cons.mpr ⟨s_iret C M dX2_tellWorn_55, ?_⟩
  exact fun _ h => absurd h List.not_mem_nil
set_option maxRecDepth 20000 in
theorem con_X2_tellWorn (hT : a_Con l D G N0 yX2_tell cX2_tell 4 (some .int) (rm_X2_tell E) (sp_X2_tell E)) : a_Con l D G N0 yX2_tellWorn cX2_tellWorn 4 (some .int) (rm_X2_tellX E) (sp_X2_tellWorn E) := by
  refine a_con (by decide) (fun as σ K h => by rw [l_gl h]; decide) ?_
  intro X as σ K h C Y M _
  obtain ⟨M', F, B, n, p, x, y, s, k, rfl, rfl, henv, hW, hp, hso, hs, hk, hE, hK⟩ := h
  have hK : ∀ R : tR, R = t_worn (tt_T M' E) (M' 18 p) (M' 19 p) (M' 20 p) p x y s → ∀ r : Int32, (R.1 = 0 → r = R.2.1) → K (some (.inl r)) (a_mk (l_p M' R.1 R.2.2) F B) := hK
  have hp60 : p < 60 := Nat.lt_of_lt_of_le hp henv.1.1
  obtain ⟨d1, d2, d3, d5, d6, d7, d8, d9⟩ := id henv.2
  obtain ⟨hB, e0, e1, e2, e3⟩ := d3 p hp
  obtain ⟨so, hs13, hsoo, hva, hvb, hvc, hvd, hvn, hvo⟩ := henv.1.2.1 p hp
  have hi : ∀ I, a_is (a_mk I F B) (66 + p) 1 7 = true := fun I => l_is (by omega) (by omega) hB
  have cd : ∀ {a : Int32}, m_vc n a → m_cd n a := fun h => Or.inr (Or.inr (Or.inr h))
  have hsoe : so = 10 := (nI_eq (by omega) (by decide)).mp (hsoo.symm.trans hso)
  have va : m_vc n (M' 18 p) := hva (by omega) (by omega) (by omega)
  refine a_wps (S_X2_tellWorn C Y M hT) (inv := a_ni) a_nih 60 _ _ _ _ _ _ ?_
  obtain ⟨w, b, w1, w2, w3, w4⟩ := hW p hp hso
  have ew : l_p M' 0 s (66 + p) 6 = nI w := by rw [lp_wr hp60, w1]
  have es1 : a_w (l_p M' 0 s) (66 + p) 6 (l_p M' 0 s (66 + p) 6 + 1) = l_p M' 0 (s.1, s.2.1, s.2.2.1, upd s.2.2.2 p (s.2.2.2 p + 1)) := by rw [lp_wr hp60]; exact lp_w hp60
  have er6 : a_w (l_p M' 0 s) (66 + p) 6 (l_p M' 0 s (66 + p) 6 + 1) (66 + p) 6 = nI (w + 1) := by rw [a_ww, ew, nI_1]
  have er2 : a_w (l_p M' 0 s) (66 + p) 6 (l_p M' 0 s (66 + p) 6 + 1) (66 + p) 2 = nI b := by rw [es1, lp_g (by decide), e2, w2]
  refine a_gi (hi _) (a_gi (hi _) (a_gi (hi (a_w (l_p M' 0 s) (66 + p) 6 (l_p M' 0 s (66 + p) 6 + 1))) (a_gi (hi (a_w (l_p M' 0 s) (66 + p) 6 (l_p M' 0 s (66 + p) 6 + 1))) ⟨fun hle => ?_, fun hle => ?_⟩)))
  · have hle : a_w (l_p M' 0 s) (66 + p) 6 (l_p M' 0 s (66 + p) 6 + 1) (66 + p) 2 ≤ a_w (l_p M' 0 s) (66 + p) 6 (l_p M' 0 s (66 + p) 6 + 1) (66 + p) 6 := hle
    rw [er6, er2] at hle
    have hb : b = w + 1 := by have := (nI_leI (by omega) (by omega)).mp hle; omega
    have hT1 : t_worn (tt_T M' E) (M' 18 p) (M' 19 p) (M' 20 p) p x y s = (0, M' 20 p, s.1, s.2.1, s.2.2.1 + 1, upd s.2.2.2 p 0) := if_pos (by rw [w1, w2, nI_1, hb])
    have hK2 := hK _ hT1.symm (M' 20 p) (fun _ => rfl)
    have e8 : a_w (a_w (l_p M' 0 s) (66 + p) 6 (l_p M' 0 s (66 + p) 6 + 1)) (66 + p) 6 0 = l_p M' 0 (s.1, s.2.1, s.2.2.1, upd s.2.2.2 p 0) := by
      rw [es1, lp_w hp60]
      show l_p M' 0 (s.1, s.2.1, s.2.2.1, upd (upd s.2.2.2 p (s.2.2.2 p + 1)) p 0) = _
      rw [show upd (upd s.2.2.2 p (s.2.2.2 p + 1)) p 0 = upd s.2.2.2 p 0 by funext j; unfold upd; by_cases e : j = p <;> simp [e]]
    have e9r : a_w (a_w (l_p M' 0 s) (66 + p) 6 (l_p M' 0 s (66 + p) 6 + 1)) (66 + p) 6 0 0 9 = s.2.2.1 := by rw [e8]; rfl
    have e9 : a_w (a_w (a_w (l_p M' 0 s) (66 + p) 6 (l_p M' 0 s (66 + p) 6 + 1)) (66 + p) 6 0) 0 9 (a_w (a_w (l_p M' 0 s) (66 + p) 6 (l_p M' 0 s (66 + p) 6 + 1)) (66 + p) 6 0 0 9 + 1) = l_p M' 0 (s.1, s.2.1, s.2.2.1 + 1, upd s.2.2.2 p 0) := by rw [e9r, e8, lp_9]
    have e10 : a_w (a_w (a_w (l_p M' 0 s) (66 + p) 6 (l_p M' 0 s (66 + p) 6 + 1)) (66 + p) 6 0) 0 9 (a_w (a_w (l_p M' 0 s) (66 + p) 6 (l_p M' 0 s (66 + p) 6 + 1)) (66 + p) 6 0 0 9 + 1) (66 + p) 3 = M' 20 p := by rw [e9, lp_g (by decide), e3]
    have hK2 : K (some (.inl (M' 20 p))) (a_mk (l_p M' 0 (s.1, s.2.1, s.2.2.1 + 1, upd s.2.2.2 p 0)) F B) := hK2
    rw [← e9, ← e10] at hK2
    exact a_gi (hi (a_w (l_p M' 0 s) (66 + p) 6 (l_p M' 0 s (66 + p) 6 + 1))) (a_gi (hi (a_w (a_w (a_w (l_p M' 0 s) (66 + p) 6 (l_p M' 0 s (66 + p) 6 + 1)) (66 + p) 6 0) 0 9 (a_w (a_w (l_p M' 0 s) (66 + p) 6 (l_p M' 0 s (66 + p) 6 + 1)) (66 + p) 6 0 0 9 + 1))) hK2)
  · have hle : ¬ a_w (l_p M' 0 s) (66 + p) 6 (l_p M' 0 s (66 + p) 6 + 1) (66 + p) 2 ≤ a_w (l_p M' 0 s) (66 + p) 6 (l_p M' 0 s (66 + p) 6 + 1) (66 + p) 6 := hle
    rw [er6, er2] at hle
    have hb : w + 1 < b := Nat.not_le.mp (fun z => hle (nI_le z (by omega)))
    have hT1 : t_worn (tt_T M' E) (M' 18 p) (M' 19 p) (M' 20 p) p x y s = tt_T M' E (M' 18 p) x y (s.1, s.2.1, s.2.2.1, upd s.2.2.2 p (s.2.2.2 p + 1)) := if_neg (by
      rw [w1, w2, nI_1]
      intro z
      have := (nI_eq (by omega) (by omega)).mp z
      omega)
    have hW1 : l_W M' n (s.1, s.2.1, s.2.2.1, upd s.2.2.2 p (s.2.2.2 p + 1)) := fun q hq h10 => by
      by_cases e : q = p
      · subst e
        exact ⟨w + 1, b, by show upd s.2.2.2 q _ q = _; rw [show upd s.2.2.2 q (s.2.2.2 q + 1) q = s.2.2.2 q + 1 from if_pos rfl, w1, nI_1], w2, hb, w4⟩
      · obtain ⟨w', b', f1, f2, f3, f4⟩ := hW q hq h10
        exact ⟨w', b', by show upd s.2.2.2 p _ q = _; rw [← f1]; exact if_neg e, f2, f3, f4⟩
    have er1 : a_w (l_p M' 0 s) (66 + p) 6 (l_p M' 0 s (66 + p) 6 + 1) (66 + p) 1 = M' 18 p := by rw [es1, lp_g (by decide), e1]
    have d1' : a_w (l_p M' 0 s) (66 + p) 6 (l_p M' 0 s (66 + p) 6 + 1) 0 4 = nI n := by rw [es1]; exact d1
    refine a_gi (hi (a_w (l_p M' 0 s) (66 + p) 6 (l_p M' 0 s (66 + p) 6 + 1))) ⟨a_w (l_p M' 0 s) (66 + p) 6 (l_p M' 0 s (66 + p) 6 + 1), F, B, n, _, rfl, rfl, d1', henv.1.1, M', F, B, n, M' 18 p, _, x, y, (s.1, s.2.1, s.2.2.1, upd s.2.2.2 p (s.2.2.2 p + 1)), k, congrArg (fun I => a_mk I F B) es1, rfl, ?_, henv, hW1, cd va, hs, hk, hE, fun R hR r hr => ?_⟩
    · show (if m_in (a_w (l_p M' 0 s) (66 + p) 6 (l_p M' 0 s (66 + p) 6 + 1) (66 + p) 1) 0 (nI n - 1) = 0 then none else F 3 (a_w (l_p M' 0 s) (66 + p) 6 (l_p M' 0 s (66 + p) 6 + 1) (66 + p) 1).toNatClampNeg) = _
      rw [er1]
      exact l_num henv.1.1 d2 va
    · exact hK R (hR.trans hT1.symm) r hr
def sp_X2_tellTurned (E : Nat) : aP := l_g E (fun v => v = 4) (fun M rc p x y s => rc (M 18 p) (m_tx (M 19 p) x y) (m_ty (M 19 p) x y) s)
theorem rc_X2_tellTurned {E : Nat} : ∀ as σ K, sp_X2_tellTurned E as σ K → ∃ h As, as = .inr (some h) :: As ∧ a_is σ h 2 10 = true := l_grc
def P_X2_tellTurned {E : Nat} (K : aK) (bc bs : Nat) : List (Nat × aT) := [(0, t_ald 0 1),
  (1, t_ald 1 2),
  (2, t_geti 1 7 1 5),
  (5, t_call 2 0 0 bc bs sp_X2_numbered 8),
  (8, t_ast 4 10),
  (10, t_ald 1 11),
  (11, t_geti 1 7 2 14),
  (14, t_sw [(0, 40), (1, 49), (2, 59)] 69),
  (40, t_ald 0 41),
  (41, t_ald 4 43),
  (43, t_ild 3 44),
  (44, t_ild 2 45),
  (45, t_call 4 0 0 bc bs (sp_X2_tell E) 48),
  (48, t_iret K bc bs),
  (49, t_ald 0 50),
  (50, t_ald 4 52),
  (52, t_ild 2 53),
  (53, t_neg 54),
  (54, t_ild 3 55),
  (55, t_call 4 0 0 bc bs (sp_X2_tell E) 58),
  (58, t_iret K bc bs),
  (59, t_ald 0 60),
  (60, t_ald 4 62),
  (62, t_ild 2 63),
  (63, t_ild 3 64),
  (64, t_neg 65),
  (65, t_call 4 0 0 bc bs (sp_X2_tell E) 68),
  (68, t_iret K bc bs),
  (69, t_ald 0 70),
  (70, t_ald 4 72),
  (72, t_ild 2 73),
  (73, t_ild 3 74),
  (74, t_mul 75),
  (75, t_ild 2 76),
  (76, t_ild 3 77),
  (77, t_add 78),
  (78, t_call 4 0 0 bc bs (sp_X2_tell E) 81),
  (81, t_iret K bc bs)]
set_option maxRecDepth 100000 in
theorem S_X2_tellTurned {E : Nat} {X : a_X} {K : aK} {l : Launch} {D : va_G} {G : aG} {N0 : Nat} (C : a_C X cX2_tellTurned (some .int) RX2) (Y : a_Y X l (rm_X2_tellX E) D G N0) (M : a_mq X K (rm_X2_tellX E).cells (rm_X2_tellX E).slots) (hT : a_Con l D G N0 yX2_tell cX2_tell 4 (some .int) (rm_X2_tell E) (sp_X2_tell E)) : ∀ x ∈ P_X2_tellTurned (E := E) K 0 0, a_Sd X x.1 x.2 := by
  unfold P_X2_tellTurned
  refine List.forall_mem_cons.mpr ⟨s_aldn C dX2_tellTurned_0 rfl, ?_⟩
  refine List.forall_mem_cons.mpr ⟨s_aldn C dX2_tellTurned_1 rfl, ?_⟩
  refine List.forall_mem_cons.mpr ⟨s_geti C rfl in_X1 (by decide) lk_X2_123 rfl dX2_tellTurned_2, ?_⟩
  refine List.forall_mem_cons.mpr ⟨s_callV (rm := (a_rm 2 0 0)) (n := 1) C Y (ci := 2) rfl con_X2_numbered rc_X2_numbered co_X2_numbered ml_X2_68 im_X2_numbered se_X2_numbered ii_X2 (by decide +kernel) (a_hr (by omega) (by decide)) ⟨rfl, rfl⟩ dX2_tellTurned_5, ?_⟩
  refine List.forall_mem_cons.mpr ⟨s_ast C dX2_tellTurned_8, ?_⟩
  refine List.forall_mem_cons.mpr ⟨s_aldn C dX2_tellTurned_10 rfl, ?_⟩
  refine List.forall_mem_cons.mpr ⟨s_geti C rfl in_X1 (by decide) lk_X2_133 rfl dX2_tellTurned_11, ?_⟩
  refine List.forall_mem_cons.mpr ⟨s_tsw C dX2_tellTurned_14 (a_tok_of2 2 (by decide) (by decide) (by decide) (by decide)), ?_⟩
  refine List.forall_mem_cons.mpr ⟨s_aldn C dX2_tellTurned_40 rfl, ?_⟩
  refine List.forall_mem_cons.mpr ⟨s_ald C dX2_tellTurned_41, ?_⟩
  refine List.forall_mem_cons.mpr ⟨s_ildn C dX2_tellTurned_43 rfl, ?_⟩
  refine List.forall_mem_cons.mpr ⟨s_ildn C dX2_tellTurned_44 rfl, ?_⟩
  refine List.forall_mem_cons.mpr ⟨s_callV (rm := (rm_X2_tell E)) (n := 3) C Y (ci := 2) rfl hT rc_X2_tell co_X2_tell ml_X2_114 im_X2_tell se_X2_tell ii_X2 (by decide +kernel) (a_hr (by omega) (by decide)) ⟨rfl, rfl⟩ dX2_tellTurned_45, ?_⟩
  refine List.forall_mem_cons.mpr ⟨s_iret C M dX2_tellTurned_48, ?_⟩
  refine List.forall_mem_cons.mpr ⟨s_aldn C dX2_tellTurned_49 rfl, ?_⟩
  refine List.forall_mem_cons.mpr ⟨s_ald C dX2_tellTurned_50, ?_⟩
  refine List.forall_mem_cons.mpr ⟨s_ildn C dX2_tellTurned_52 rfl, ?_⟩
  refine List.forall_mem_cons.mpr ⟨s_neg C dX2_tellTurned_53, ?_⟩
  refine List.forall_mem_cons.mpr ⟨s_ildn C dX2_tellTurned_54 rfl, ?_⟩
  refine List.forall_mem_cons.mpr ⟨s_callV (rm := (rm_X2_tell E)) (n := 3) C Y (ci := 2) rfl hT rc_X2_tell co_X2_tell ml_X2_114 im_X2_tell se_X2_tell ii_X2 (by decide +kernel) (a_hr (by omega) (by decide)) ⟨rfl, rfl⟩ dX2_tellTurned_55, ?_⟩
  refine List.forall_mem_cons.mpr ⟨s_iret C M dX2_tellTurned_58, ?_⟩
  refine List.forall_mem_cons.mpr ⟨s_aldn C dX2_tellTurned_59 rfl, ?_⟩
  refine List.forall_mem_cons.mpr ⟨s_ald C dX2_tellTurned_60, ?_⟩
  refine List.forall_mem_cons.mpr ⟨s_ildn C dX2_tellTurned_62 rfl, ?_⟩
  refine List.forall_mem_cons.mpr ⟨s_ildn C dX2_tellTurned_63 rfl, ?_⟩
  refine List.forall_mem_cons.mpr ⟨s_neg C dX2_tellTurned_64, ?_⟩
  refine List.forall_mem_cons.mpr ⟨s_callV (rm := (rm_X2_tell E)) (n := 3) C Y (ci := 2) rfl hT rc_X2_tell co_X2_tell ml_X2_114 im_X2_tell se_X2_tell ii_X2 (by decide +kernel) (a_hr (by omega) (by decide)) ⟨rfl, rfl⟩ dX2_tellTurned_65, ?_⟩
  refine List.forall_mem_cons.mpr ⟨s_iret C M dX2_tellTurned_68, ?_⟩
  refine List.forall_mem_cons.mpr ⟨s_aldn C dX2_tellTurned_69 rfl, ?_⟩
  refine List.forall_mem_cons.mpr ⟨s_ald C dX2_tellTurned_70, ?_⟩
  refine List.forall_mem_cons.mpr ⟨s_ildn C dX2_tellTurned_72 rfl, ?_⟩
  refine List.forall_mem_cons.mpr ⟨s_ildn C dX2_tellTurned_73 rfl, ?_⟩
  refine List.forall_mem_cons.mpr ⟨s_mul C dX2_tellTurned_74, ?_⟩
  refine List.forall_mem_cons.mpr ⟨s_ildn C dX2_tellTurned_75 rfl, ?_⟩
  refine List.forall_mem_cons.mpr ⟨s_ildn C dX2_tellTurned_76 rfl, ?_⟩
  refine List.forall_mem_cons.mpr ⟨s_add C dX2_tellTurned_77, ?_⟩
  refine List.forall_mem_cons.mpr ⟨s_callV (rm := (rm_X2_tell E)) (n := 3) C Y (ci := 2) rfl hT rc_X2_tell co_X2_tell ml_X2_114 im_X2_tell se_X2_tell ii_X2 (by decide +kernel) (a_hr (by omega) (by decide)) ⟨rfl, rfl⟩ dX2_tellTurned_78, ?_⟩
  refine List.forall_mem_cons.mpr ⟨s_iret C M dX2_tellTurned_81, ?_⟩
  exact fun _ h => absurd h List.not_mem_nil
set_option maxRecDepth 20000 in
theorem con_X2_tellTurned (hT : a_Con l D G N0 yX2_tell cX2_tell 4 (some .int) (rm_X2_tell E) (sp_X2_tell E)) : a_Con l D G N0 yX2_tellTurned cX2_tellTurned 5 (some .int) (rm_X2_tellX E) (sp_X2_tellTurned E) := by
  refine a_con (by decide) (fun as σ K h => by rw [l_gl h]; decide) ?_
  intro X as σ K h C Y M _
  obtain ⟨M', F, B, n, p, x, y, s, k, rfl, rfl, henv, hW, hp, hso, hs, hk, hE, hK⟩ := h
  have hK : ∀ R : tR, R = (tt_T M' E) (M' 18 p) (m_tx (M' 19 p) x y) (m_ty (M' 19 p) x y) s → ∀ r : Int32, (R.1 = 0 → r = R.2.1) → K (some (.inl r)) (a_mk (l_p M' R.1 R.2.2) F B) := hK
  have hp60 : p < 60 := Nat.lt_of_lt_of_le hp henv.1.1
  obtain ⟨d1, d2, d3, d5, d6, d7, d8, d9⟩ := id henv.2
  obtain ⟨hB, e0, e1, e2, e3⟩ := d3 p hp
  obtain ⟨so, hs13, hsoo, hva, hvb, hvc, hvd, hvn, hvo⟩ := henv.1.2.1 p hp
  have hi : ∀ I, a_is (a_mk I F B) (66 + p) 1 7 = true := fun I => l_is (by omega) (by omega) hB
  have cd : ∀ {a : Int32}, m_vc n a → m_cd n a := fun h => Or.inr (Or.inr (Or.inr h))
  have hsoe : so = 4 := (nI_eq (by omega) (by decide)).mp (hsoo.symm.trans hso)
  have va : m_vc n (M' 18 p) := hva (by omega) (by omega) (by omega)
  refine a_wps (S_X2_tellTurned C Y M hT) (inv := a_ni) a_nih 60 _ _ _ _ _ _ ?_
  have hnum : (if m_in (l_p M' 0 s (66 + p) 1) 0 (nI n - 1) = 0 then none else F 3 (l_p M' 0 s (66 + p) 1).toNatClampNeg) = l_ref (M' 18 p) := by
    rw [lp_g (by decide), e1]
    exact l_num henv.1.1 d2 va
  have eb : l_p M' 0 s (66 + p) 2 = M' 19 p := by rw [lp_g (by decide), e2]
  refine a_gi (hi _) ⟨_, F, B, n, _, rfl, rfl, d1, henv.1.1, a_gi (hi _) ?_⟩
  refine ⟨fun h0 => ?_, fun h0 => ⟨fun h1 => ?_, fun h1 => ⟨fun h2 => ?_, fun h2 => ?_⟩⟩⟩
  · have h0 : l_p M' 0 s (66 + p) 2 = 0 := h0
    rw [eb] at h0
    skip
    have ex : m_tx (M' 19 p) x y = y := by unfold m_tx; rw [if_pos h0]
    have ey : m_ty (M' 19 p) x y = x := by unfold m_ty; rw [if_pos h0]
    rw [ex, ey] at hK
    exact ⟨M', F, B, n, M' 18 p, _, _, _, s, k, rfl, rfl, hnum, henv, hW, cd va, hs, hk, hE, fun R hR r hr => hK R hR r hr⟩
  · have h0 : ¬ l_p M' 0 s (66 + p) 2 = 0 := h0
    have h1 : l_p M' 0 s (66 + p) 2 = 1 := h1
    rw [eb] at h0 h1
    skip
    have ex : m_tx (M' 19 p) x y = -x := by unfold m_tx; rw [if_neg h0, if_pos h1]
    have ey : m_ty (M' 19 p) x y = y := by unfold m_ty; rw [if_neg h0, if_pos h1]
    rw [ex, ey] at hK
    exact ⟨M', F, B, n, M' 18 p, _, _, _, s, k, rfl, rfl, hnum, henv, hW, cd va, hs, hk, hE, fun R hR r hr => hK R hR r hr⟩
  · have h0 : ¬ l_p M' 0 s (66 + p) 2 = 0 := h0
    have h1 : ¬ l_p M' 0 s (66 + p) 2 = 1 := h1
    have h2 : l_p M' 0 s (66 + p) 2 = 2 := h2
    rw [eb] at h0 h1 h2
    skip
    have ex : m_tx (M' 19 p) x y = x := by unfold m_tx; rw [if_neg h0, if_neg h1, if_pos h2]
    have ey : m_ty (M' 19 p) x y = -y := by unfold m_ty; rw [if_neg h0, if_neg h1, if_pos h2]
    rw [ex, ey] at hK
    exact ⟨M', F, B, n, M' 18 p, _, _, _, s, k, rfl, rfl, hnum, henv, hW, cd va, hs, hk, hE, fun R hR r hr => hK R hR r hr⟩
  · have h0 : ¬ l_p M' 0 s (66 + p) 2 = 0 := h0
    have h1 : ¬ l_p M' 0 s (66 + p) 2 = 1 := h1
    have h2 : ¬ l_p M' 0 s (66 + p) 2 = 2 := h2
    rw [eb] at h0 h1 h2
    skip
    have ex : m_tx (M' 19 p) x y = x * y := by unfold m_tx; rw [if_neg h0, if_neg h1, if_neg h2]
    have ey : m_ty (M' 19 p) x y = x + y := by unfold m_ty; rw [if_neg h0, if_neg h1, if_neg h2]
    rw [ex, ey] at hK
    exact ⟨M', F, B, n, M' 18 p, _, _, _, s, k, rfl, rfl, hnum, henv, hW, cd va, hs, hk, hE, fun R hR r hr => hK R hR r hr⟩
end LT

