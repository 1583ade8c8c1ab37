/-! ===== the class's weave ===== -/
def l_c (I : Nat → Nat → Int32) (sz wd : Int32) (C : Nat → Int32) : Nat → Nat → Int32 := fun h j => if h = 4 then (if j = 1 then sz else if j = 2 then wd else I 4 j) else if h = 5 then C j else I h j
section LC
variable {I : Nat → Nat → Int32} {f x sz wd : Int32} {s : tS} {C : Nat → Int32} {t : Nat}
theorem lc_1 : a_w (l_p (l_c I sz wd C) f s) 4 1 x = l_p (l_c I x wd C) f s := by
  funext h j; unfold a_w l_p l_c
  by_cases e : h = 4
  · subst e; by_cases e2 : j = 1 <;> simp [e2]
  · simp [e]
theorem lc_2 : a_w (l_p (l_c I sz wd C) f s) 4 2 x = l_p (l_c I sz x C) f s := by
  funext h j; unfold a_w l_p l_c
  by_cases e : h = 4
  · subst e; by_cases e2 : j = 2 <;> simp [e2]
  · simp [e]
theorem lc_5 : a_w (l_p (l_c I sz wd C) f s) 5 t x = l_p (l_c I sz wd (upd C t x)) f s := by
  funext h j; unfold a_w l_p l_c upd
  by_cases e : h = 5
  · subst e; by_cases e2 : j = t <;> simp [e2]
  · simp [e]
theorem lc_self (I : Nat → Nat → Int32) : l_c I (I 4 1) (I 4 2) (I 5) = I := by
  funext h j; unfold l_c
  by_cases e : h = 4
  · subst e
    by_cases e1 : j = 1
    · simp [e1]
    · by_cases e2 : j = 2
      · simp [e2]
      · simp [e1, e2]
  · by_cases e1 : h = 5
    · simp [e1]
    · simp [e, e1]
end LC
theorem m_D_c {M M' : Nat → Nat → Int32} {n : Nat} (h17 : M' 17 = M 17) (h18 : M' 18 = M 18) (h19 : M' 19 = M 19) (h20 : M' 20 = M 20) (h22 : M' 22 = M 22) (h25 : M' 25 = M 25) (h : m_D M n) : m_D M' n := by
  unfold m_D m_ok at h ⊢
  rw [h17, h18, h19, h20, h22, h25]
  exact h
/-- the worlds of both sides stay tied when only moving parts change -/
theorem env_c {M M' : Nat → Nat → Int32} {F : Nat → Nat → Option Nat} {B : Nat → Bool} {n : Nat} (h04 : M' 0 4 = M 0 4) (hdy : ∀ d, d < 4 → M' (6 + d) = M (6 + d)) (h17 : M' 17 = M 17) (h18 : M' 18 = M 18) (h19 : M' 19 = M 19) (h20 : M' 20 = M 20) (h21 : M' 21 = M 21) (h22 : M' 22 = M 22) (h24 : M' 24 = M 24) (h25 : M' 25 = M 25)
    (hpt : ∀ h k, 64 ≤ h → h < 126 → k ≠ 6 → M' h k = M h k) (hro : ∀ h, 128 ≤ h → M' h = M h) (h : l_env M F B n) : l_env M' F B n := by
  obtain ⟨hD, d1, d2, d3, d5, d6, d7, d8, b64, b65, m64, m65, f65⟩ := h
  have hn := hD.1
  refine ⟨m_D_c h17 h18 h19 h20 h22 h25 hD, h04.trans d1, d2, fun p hp => ?_, fun p hp => ?_, fun p hp => ?_, fun k hk => ?_, fun d hd i hi => ?_, b64, b65, ?_, ?_, ?_⟩
  · rw [h17, h18, h19, h20, hpt _ 0 (by omega) (by omega) (by decide), hpt _ 1 (by omega) (by omega) (by decide), hpt _ 2 (by omega) (by omega) (by decide), hpt _ 3 (by omega) (by omega) (by decide)]
    exact d3 p hp
  · rw [h17, h21, hro (128 + p) (by omega)]
    exact d5 p hp
  · rw [h17, h22]
    exact d6 p hp
  · rw [h25]
    exact d7 k hk
  · rw [hdy d hd, h24]
    exact d8 d hd i hi
  · rw [hpt 64 0 (by decide) (by decide) (by decide)]; exact m64
  · rw [hpt 65 0 (by decide) (by decide) (by decide)]; exact m65
  · rw [hpt 65 2 (by decide) (by decide) (by decide)]; exact f65
theorem env_lc {I : Nat → Nat → Int32} {F : Nat → Nat → Option Nat} {B : Nat → Bool} {n : Nat} {sz wd : Int32} {C : Nat → Int32} (h : l_env I F B n) : l_env (l_c I sz wd C) F B n := by
  have e : ∀ h, h ≠ 4 → h ≠ 5 → l_c I sz wd C h = I h := fun h h4 h5 => by
    funext j
    unfold l_c
    rw [if_neg h4, if_neg h5]
  exact env_c (by rw [e 0 (by decide) (by decide)]) (fun d hd => e _ (by omega) (by omega)) (e _ (by decide) (by decide)) (e _ (by decide) (by decide)) (e _ (by decide) (by decide)) (e _ (by decide) (by decide)) (e _ (by decide) (by decide)) (e _ (by decide) (by decide)) (e _ (by decide) (by decide)) (e _ (by decide) (by decide)) (fun h k h1 h2 h3 => by rw [e h (by omega) (by omega)]) (fun h h1 => e h (by omega) (by omega)) h
section LY
variable {l : Launch} {D : va_G} {G : aG} {N0 : Nat}
def sp_X2_weave : aP := fun as σ K => ∃ I F B n p x y w h, σ = a_mk I F B ∧ as = [.inr (some 0), .inl p, .inl x, .inl y, .inl w, .inl h] ∧ l_env I F B n ∧ l_W I n (0, 0, 0, fun q => I (66 + q) 6) ∧
  (m_in p 0 (nI n - 1) = 0 → K (some (.inl (-3))) σ) ∧ (¬ m_in p 0 (nI n - 1) = 0 → (m_in w 1 12 = 0 ∨ m_in h 1 12 = 0) → K (some (.inl (-2))) σ) ∧
  (¬ m_in p 0 (nI n - 1) = 0 → ∀ wn hn : Nat, 1 ≤ wn → wn ≤ 12 → 1 ≤ hn → hn ≤ 12 → w = nI wn → h = nI hn → ∀ R : tW, R = t_wv (tt_T I 101 p) x y wn (wn * hn) 0 (I 0 7, 0, I 0 9, fun q => I (66 + q) 6) (I 5) → K (some (.inl (m_wr R))) (a_mk (l_p (l_c I (nI R.2.1) w R.2.2.2) R.1 R.2.2.1) F B))
theorem rc_X2_weave : ∀ as σ K, sp_X2_weave as σ K → ∃ h As, as = .inr (some h) :: As ∧ a_is σ h 2 10 = true := by
  rintro as σ K ⟨I, F, B, n, p, x, y, w, h, rfl, rfl, -⟩
  exact ⟨0, _, rfl, rfl⟩
def P_X2_weave (K : aK) (bc bs : Nat) : List (Nat × aT) := [(0, t_ald 0 1),
  (1, t_ild 1 2),
  (2, t_call 2 0 0 bc bs sp_X2_isPattern 5),
  (5, t_if (fun x => x = 0) 8 11),
  (8, t_ic (-3) 10),
  (10, t_iret K bc bs),
  (11, t_ild 4 13),
  (13, t_call 1 0 0 bc bs sp_X2_isSide 16),
  (16, t_if (fun x => x = 0) 27 19),
  (19, t_ild 5 21),
  (21, t_call 1 0 0 bc bs sp_X2_isSide 24),
  (24, t_if (fun x => x = 0) 27 30),
  (27, t_ic (-2) 29),
  (29, t_iret K bc bs),
  (30, t_ald 0 31),
  (31, t_ic 0 32),
  (32, t_puti 2 10 8 35),
  (35, t_ald 0 36),
  (36, t_getr 2 10 3 39),
  (39, t_ild 4 41),
  (41, t_call 2 0 0 bc bs sp_X0_begin 44),
  (44, t_ald 0 45),
  (45, t_ild 1 46),
  (46, t_call 2 0 0 bc bs sp_X2_numbered 49),
  (49, t_ast 6 51),
  (51, t_ic 0 52),
  (52, t_ist 7 54),
  (54, t_ild 7 56),
  (56, t_ild 5 58),
  (58, t_ifc (fun x y => y ≤ x) 123 61),
  (61, t_ic 0 62),
  (62, t_ist 8 64),
  (64, t_ild 8 66),
  (66, t_ild 4 68),
  (68, t_ifc (fun x y => y ≤ x) 117 71),
  (71, t_ald 0 72),
  (72, t_ald 6 74),
  (74, t_ild 2 75),
  (75, t_ild 8 77),
  (77, t_add 78),
  (78, t_ild 3 79),
  (79, t_ild 7 81),
  (81, t_add 82),
  (82, t_call 4 0 0 bc bs sp_X2_tellPlace 85),
  (85, t_ist 9 87),
  (87, t_ald 0 88),
  (88, t_geti 2 10 6 91),
  (91, t_if (fun x => x = 0) 102 94),
  (94, t_ic (-10) 96),
  (96, t_ald 0 97),
  (97, t_geti 2 10 6 100),
  (100, t_sub 101),
  (101, t_iret K bc bs),
  (102, t_ald 0 103),
  (103, t_getr 2 10 3 106),
  (106, t_ild 9 108),
  (108, t_call 2 0 0 bc bs sp_X0_add 111),
  (111, t_iinc 8 1 114),
  (114, t_goto 64),
  (117, t_iinc 7 1 120),
  (120, t_goto 54),
  (123, t_ild 4 125),
  (125, t_ild 5 127),
  (127, t_mul 128),
  (128, t_iret K bc bs)]
set_option maxRecDepth 100000 in
theorem S_X2_weave {X : a_X} {K : aK} {l : Launch} {D : va_G} {G : aG} {N0 : Nat} (C : a_C X cX2_weave (some .int) RX2) (Y : a_Y X l (a_rm 252 0 0) D G N0) (M : a_mq X K (a_rm 252 0 0).cells (a_rm 252 0 0).slots) : ∀ x ∈ P_X2_weave K 0 0, a_Sd X x.1 x.2 := by
  unfold P_X2_weave
  refine List.forall_mem_cons.mpr ⟨s_aldn C dX2_weave_0 rfl, ?_⟩
  refine List.forall_mem_cons.mpr ⟨s_ildn C dX2_weave_1 rfl, ?_⟩
  refine List.forall_mem_cons.mpr ⟨s_callV (rm := (a_rm 1 0 0)) (n := 1) C Y (ci := 2) rfl con_X2_isPattern rc_X2_isPattern co_X2_isPattern ml_X2_65 im_X2_isPattern se_X2_isPattern ii_X2 (by decide +kernel) ⟨by decide, by decide⟩ ⟨rfl, rfl⟩ dX2_weave_2, ?_⟩
  refine List.forall_mem_cons.mpr ⟨s_if_ne C dX2_weave_5 (by decide), ?_⟩
  refine List.forall_mem_cons.mpr ⟨s_bi C dX2_weave_8 (by decide), ?_⟩
  refine List.forall_mem_cons.mpr ⟨s_iret C M dX2_weave_10, ?_⟩
  refine List.forall_mem_cons.mpr ⟨s_ild C dX2_weave_11, ?_⟩
  refine List.forall_mem_cons.mpr ⟨s_callS (rm := (a_rm 1 0 0)) C Y con_X2_isSide co_X2_isSide ml_X2_81 st_X2_isSide ii_X2 (by decide +kernel) ⟨by decide, by decide⟩ ⟨rfl, rfl⟩ dX2_weave_13, ?_⟩
  refine List.forall_mem_cons.mpr ⟨s_if_eq C dX2_weave_16 (by decide), ?_⟩
  refine List.forall_mem_cons.mpr ⟨s_ild C dX2_weave_19, ?_⟩
  refine List.forall_mem_cons.mpr ⟨s_callS (rm := (a_rm 1 0 0)) C Y con_X2_isSide co_X2_isSide ml_X2_81 st_X2_isSide ii_X2 (by decide +kernel) ⟨by decide, by decide⟩ ⟨rfl, rfl⟩ dX2_weave_21, ?_⟩
  refine List.forall_mem_cons.mpr ⟨s_if_ne C dX2_weave_24 (by decide), ?_⟩
  refine List.forall_mem_cons.mpr ⟨s_bi C dX2_weave_27 (by decide), ?_⟩
  refine List.forall_mem_cons.mpr ⟨s_iret C M dX2_weave_29, ?_⟩
  refine List.forall_mem_cons.mpr ⟨s_aldn C dX2_weave_30 rfl, ?_⟩
  refine List.forall_mem_cons.mpr ⟨s_ic C dX2_weave_31 (by decide), ?_⟩
  refine List.forall_mem_cons.mpr ⟨s_puti C tyX2 tyX2_ok nmX2 rfl in_X2 (by decide) lk_X2_71 rfl (Or.inl rfl) rfl dX2_weave_32, ?_⟩
  refine List.forall_mem_cons.mpr ⟨s_aldn C dX2_weave_35 rfl, ?_⟩
  refine List.forall_mem_cons.mpr ⟨s_getr C rfl in_X2 (by decide) lk_X2_26 rfl dX2_weave_36, ?_⟩
  refine List.forall_mem_cons.mpr ⟨s_ild C dX2_weave_39, ?_⟩
  refine List.forall_mem_cons.mpr ⟨s_callV (rm := (a_rm 1 0 0)) (n := 1) C Y (ci := 0) rfl con_X0_begin rc_X0_begin co_X0_begin ml_X2_84 im_X0_begin se_X0_begin ii_X0 (by decide +kernel) ⟨by decide, by decide⟩ ⟨rfl, rfl⟩ dX2_weave_41, ?_⟩
  refine List.forall_mem_cons.mpr ⟨s_aldn C dX2_weave_44 rfl, ?_⟩
  refine List.forall_mem_cons.mpr ⟨s_ildn C dX2_weave_45 rfl, ?_⟩
  refine List.forall_mem_cons.mpr ⟨s_callV (rm := (a_rm 2 0 0)) (n := 1) C Y (ci := 2) rfl con_X2_numbered rc_X2_numbered co_X2_numbered ml_X2_68 im_X2_numbered se_X2_numbered ii_X2 (by decide +kernel) ⟨by decide, by decide⟩ ⟨rfl, rfl⟩ dX2_weave_46, ?_⟩
  refine List.forall_mem_cons.mpr ⟨s_ast C dX2_weave_49, ?_⟩
  refine List.forall_mem_cons.mpr ⟨s_ic C dX2_weave_51 (by decide), ?_⟩
  refine List.forall_mem_cons.mpr ⟨s_ist C dX2_weave_52, ?_⟩
  refine List.forall_mem_cons.mpr ⟨s_ild C dX2_weave_54, ?_⟩
  refine List.forall_mem_cons.mpr ⟨s_ild C dX2_weave_56, ?_⟩
  refine List.forall_mem_cons.mpr ⟨s_icmp_ge C dX2_weave_58 (by decide), ?_⟩
  refine List.forall_mem_cons.mpr ⟨s_ic C dX2_weave_61 (by decide), ?_⟩
  refine List.forall_mem_cons.mpr ⟨s_ist C dX2_weave_62, ?_⟩
  refine List.forall_mem_cons.mpr ⟨s_ild C dX2_weave_64, ?_⟩
  refine List.forall_mem_cons.mpr ⟨s_ild C dX2_weave_66, ?_⟩
  refine List.forall_mem_cons.mpr ⟨s_icmp_ge C dX2_weave_68 (by decide), ?_⟩
  refine List.forall_mem_cons.mpr ⟨s_aldn C dX2_weave_71 rfl, ?_⟩
  refine List.forall_mem_cons.mpr ⟨s_ald C dX2_weave_72, ?_⟩
  refine List.forall_mem_cons.mpr ⟨s_ildn C dX2_weave_74 rfl, ?_⟩
  refine List.forall_mem_cons.mpr ⟨s_ild C dX2_weave_75, ?_⟩
  refine List.forall_mem_cons.mpr ⟨s_add C dX2_weave_77, ?_⟩
  refine List.forall_mem_cons.mpr ⟨s_ildn C dX2_weave_78 rfl, ?_⟩
  refine List.forall_mem_cons.mpr ⟨s_ild C dX2_weave_79, ?_⟩
  refine List.forall_mem_cons.mpr ⟨s_add C dX2_weave_81, ?_⟩
  refine List.forall_mem_cons.mpr ⟨s_callV (rm := (a_rm 251 0 0)) (n := 3) C Y (ci := 2) rfl con_X2_tellPlace rc_X2_tellPlace co_X2_tellPlace ml_X2_74 im_X2_tellPlace se_X2_tellPlace ii_X2 (by decide +kernel) ⟨by decide, by decide⟩ ⟨rfl, rfl⟩ dX2_weave_82, ?_⟩
  refine List.forall_mem_cons.mpr ⟨s_ist C dX2_weave_85, ?_⟩
  refine List.forall_mem_cons.mpr ⟨s_aldn C dX2_weave_87 rfl, ?_⟩
  refine List.forall_mem_cons.mpr ⟨s_geti C rfl in_X2 (by decide) lk_X2_78 rfl dX2_weave_88, ?_⟩
  refine List.forall_mem_cons.mpr ⟨s_if_eq C dX2_weave_91 (by decide), ?_⟩
  refine List.forall_mem_cons.mpr ⟨s_bi C dX2_weave_94 (by decide), ?_⟩
  refine List.forall_mem_cons.mpr ⟨s_aldn C dX2_weave_96 rfl, ?_⟩
  refine List.forall_mem_cons.mpr ⟨s_geti C rfl in_X2 (by decide) lk_X2_78 rfl dX2_weave_97, ?_⟩
  refine List.forall_mem_cons.mpr ⟨s_sub C dX2_weave_100, ?_⟩
  refine List.forall_mem_cons.mpr ⟨s_iret C M dX2_weave_101, ?_⟩
  refine List.forall_mem_cons.mpr ⟨s_aldn C dX2_weave_102 rfl, ?_⟩
  refine List.forall_mem_cons.mpr ⟨s_getr C rfl in_X2 (by decide) lk_X2_26 rfl dX2_weave_103, ?_⟩
  refine List.forall_mem_cons.mpr ⟨s_ild C dX2_weave_106, ?_⟩
  refine List.forall_mem_cons.mpr ⟨s_callV (rm := (a_rm 1 0 0)) (n := 1) C Y (ci := 0) rfl con_X0_add rc_X0_add co_X0_add ml_X2_88 im_X0_add se_X0_add ii_X0 (by decide +kernel) ⟨by decide, by decide⟩ ⟨rfl, rfl⟩ dX2_weave_108, ?_⟩
  refine List.forall_mem_cons.mpr ⟨s_iinc C dX2_weave_111 (by decide), ?_⟩
  refine List.forall_mem_cons.mpr ⟨s_goto C dX2_weave_114 (by decide), ?_⟩
  refine List.forall_mem_cons.mpr ⟨s_iinc C dX2_weave_117 (by decide), ?_⟩
  refine List.forall_mem_cons.mpr ⟨s_goto C dX2_weave_120 (by decide), ?_⟩
  refine List.forall_mem_cons.mpr ⟨s_ild C dX2_weave_123, ?_⟩
  refine List.forall_mem_cons.mpr ⟨s_ild C dX2_weave_125, ?_⟩
  refine List.forall_mem_cons.mpr ⟨s_mul C dX2_weave_127, ?_⟩
  refine List.forall_mem_cons.mpr ⟨s_iret C M dX2_weave_128, ?_⟩
  exact fun _ h => absurd h List.not_mem_nil
set_option maxRecDepth 20000 in
set_option maxHeartbeats 4000000 in
theorem con_X2_weave : a_Con l D G N0 yX2_weave cX2_weave 10 (some .int) (a_rm 252 0 0) sp_X2_weave := by
  refine a_con (by decide) (fun as σ K h => by obtain ⟨I, F, B, n, p, x, y, w, h, rfl, rfl, -⟩ := h; exact (by decide : 6 ≤ 10)) ?_
  intro X as σ K h C Y M _
  obtain ⟨I, F, B, n, p, x, y, w, h, rfl, rfl, henv, hW0, hK1, hK2, hK3⟩ := h
  have hS := S_X2_weave C Y M
  have d1 := henv.2.1
  have d2 := henv.2.2.1
  have hle := henv.1.1
  by_cases hp : m_in p 0 (nI n - 1) = 0
  · refine a_wps hS (inv := a_iv X [54, 64]) a_ivh 60 _ _ _ _ _ _ ?_
    exact ⟨I, F, B, n, p, rfl, rfl, d1, hle, fun _ => hK1 hp, fun z => absurd hp z⟩
  by_cases hw : m_in w 1 12 = 0
  · refine a_wps hS (inv := a_iv X [54, 64]) a_ivh 60 _ _ _ _ _ _ ?_
    exact ⟨I, F, B, n, p, rfl, rfl, d1, hle, fun z => absurd z hp, fun _ => ⟨w, rfl, fun _ => hK2 hp (Or.inl hw), fun z => absurd hw z⟩⟩
  by_cases hh : m_in h 1 12 = 0
  · refine a_wps hS (inv := a_iv X [54, 64]) a_ivh 60 _ _ _ _ _ _ ?_
    exact ⟨I, F, B, n, p, rfl, rfl, d1, hle, fun z => absurd z hp, fun _ => ⟨w, rfl, fun z => absurd z hw, fun _ => ⟨h, rfl, fun _ => hK2 hp (Or.inr hh), fun z => absurd hh z⟩⟩⟩
  obtain ⟨wn, w1, w12, ew⟩ := m_in_12 hw
  obtain ⟨hn, h1, h12, eh⟩ := m_in_12 hh
  have hK := hK3 hp wn hn w1 w12 h1 h12 ew eh
  have vp : m_vc n p := l_inp hle hp
  have hcd : m_cd n p := Or.inr (Or.inr (Or.inr vp))
  have hprod : wn * hn ≤ 144 := by
    have := Nat.mul_le_mul w12 h12
    omega
  have hpos : 1 ≤ wn * hn := Nat.mul_pos w1 h1
  have hr0 : (if m_in p 0 (nI n - 1) = 0 then none else F 3 p.toNatClampNeg) = l_ref p := l_num hle d2 vp
  generalize hTT : tt_T I 101 p = TT at hK
  have hTc : ∀ (sz wd : Int32) (Cl : Nat → Int32), tt_T (l_c I sz wd Cl) 101 p = TT := fun sz wd Cl => by
    rw [← hTT]
    exact congrFun (tt_congr (M := l_c I sz wd Cl) (M' := I) rfl rfl rfl rfl rfl rfl rfl rfl 101) p
  have hTW : ∀ (x y : Int32) (s : tS), l_W I n s → l_W I n (TT x y s).2.2 := fun x y s hs => by
    rw [← hTT]
    exact tw_T (M := I) 101 p x y s hs
  clear hTT
  have loop : ∀ m row col (k : Nat) (s : tS) (Cl : Nat → Int32) (f : Int32) (q9 : Option aV), row < hn → col ≤ wn → k = row * wn + col → k + m = wn * hn → l_W I n s → (m = 0 → f = 0) →
      (∀ R : tW, R = t_wv TT x y wn m k s Cl → K (some (.inl (m_wr R))) (a_mk (l_p (l_c I (nI R.2.1) w R.2.2.2) R.1 R.2.2.1) F B)) →
      a_J X 64 [some (.inr (some 0)), some (.inl p), some (.inl x), some (.inl y), some (.inl w), some (.inl h), some (.inr (l_ref p)), some (.inl (nI row)), some (.inl (nI col)), q9] [] (a_mk (l_p (l_c I (nI k) w Cl) f s) F B) 0 0 := by
    intro m
    induction m with
    | zero =>
      intro row col k s Cl f q9 hrow hcol hk hm hWs h0 HK
      have hf := h0 rfl
      subst hf
      have hend : row + 1 = hn ∧ col = wn := by
        have e1 : row * wn + col = wn * hn := by omega
        have e2 : wn * hn = hn * wn := Nat.mul_comm _ _
        have e3 : (row + 1) * wn ≤ hn * wn := Nat.mul_le_mul_right wn hrow
        have e4 : (row + 1) * wn = row * wn + wn := Nat.succ_mul row wn
        have ecol : col = wn := by omega
        refine ⟨?_, ecol⟩
        have e5 : (row + 1) * wn = hn * wn := by omega
        exact Nat.eq_of_mul_eq_mul_right w1 e5
      obtain ⟨he1, he2⟩ := hend
      have HK0 := HK (0, k, s, Cl) rfl
      rw [show m_wr (0, k, s, Cl) = nI k from if_pos rfl] at HK0
      have hge1 : w ≤ nI col := by rw [ew, he2]; exact Int32.le_refl _
      have hge2 : h ≤ nI row + 1 := by rw [eh, nI_1, he1]; exact Int32.le_refl _
      have ewh : w * h = nI k := by rw [ew, eh, pk_mul, show k = wn * hn by omega]
      have HK1 : K (some (.inl (w * h))) (a_mk (l_p (l_c I (nI k) w Cl) 0 s) F B) := by rw [ewh]; exact HK0
      have j54 : a_J X 54 [some (.inr (some 0)), some (.inl p), some (.inl x), some (.inl y), some (.inl w), some (.inl h), some (.inr (l_ref p)), some (.inl (nI row + 1)), some (.inl (nI col)), q9] [] (a_mk (l_p (l_c I (nI k) w Cl) 0 s) F B) 0 0 :=
        a_wp1 hS a_ivh (inv := a_iv X [64]) 60 54 _ rfl ⟨fun _ => HK1, fun z => absurd hge2 z⟩
      exact a_wp1 hS a_ivh (inv := a_iv X [54, 64]) 60 64 _ rfl ⟨fun _ => j54, fun z => absurd hge1 z⟩
    | succ m ih =>
      -- a place in the row
      have inner : ∀ row col (k : Nat) (s : tS) (Cl : Nat → Int32) (f : Int32) (q9 : Option aV), row < hn → col < wn → k = row * wn + col → k + (m + 1) = wn * hn → l_W I n s →
          (∀ R : tW, R = t_wv TT x y wn (m + 1) k s Cl → K (some (.inl (m_wr R))) (a_mk (l_p (l_c I (nI R.2.1) w R.2.2.2) R.1 R.2.2.1) F B)) →
          a_J X 64 [some (.inr (some 0)), some (.inl p), some (.inl x), some (.inl y), some (.inl w), some (.inl h), some (.inr (l_ref p)), some (.inl (nI row)), some (.inl (nI col)), q9] [] (a_mk (l_p (l_c I (nI k) w Cl) f s) F B) 0 0 := by
        intro row col k s Cl f q9 hrow hcol hk hm hWs HK
        have hn1 : ¬ w ≤ nI col := by rw [ew]; exact nI_ge hcol (by omega)
        have ekm : k % wn = col := by rw [hk, Nat.mul_comm, Nat.mul_add_mod]; exact Nat.mod_eq_of_lt hcol
        have ekd : k / wn = row := by rw [hk, Nat.mul_comm, Nat.mul_add_div w1, Nat.div_eq_of_lt hcol, Nat.add_zero]
        refine a_wp1 hS a_ivh (inv := a_iv X [54, 64]) 60 64 _ rfl ⟨fun z => absurd z hn1, fun _ => ⟨l_c I (nI k) w Cl, F, B, n, p, l_ref p, x + nI col, y + nI row, f, s, rfl, rfl, rfl, env_lc henv, hWs, hcd, fun R hR r hr => ?_⟩⟩
        have hR2 : R = TT (x + nI (k % wn)) (y + nI (k / wn)) (0, s.2) := by
          rw [hR, ekm, ekd]
          exact congrFun (congrFun (congrFun (hTc (nI k) w Cl) _) _) _
        have hWR : l_W I n R.2.2 := by rw [hR2]; exact hTW _ _ _ hWs
        clear hR
        by_cases hz : R.1 = 0
        · have IH := ih row (col + 1) (k + 1) R.2.2 (upd Cl k R.2.1) R.1 (some (.inl r)) hrow hcol (by omega) (by omega) hWR (fun _ => hz) (fun R' hR' => HK R' (by
            rw [hR']
            show _ = (if (TT (x + nI (k % wn)) (y + nI (k / wn)) (0, s.2)).1 = 0 then _ else _)
            rw [← hR2, if_pos hz]))
          rw [← nI_1 col, ← hr hz, ← lc_1 (sz := nI k), ← lc_5] at IH
          exact ⟨fun _ => ⟨_, F, B, r, k, rfl, rfl, rfl, by omega, IH⟩, fun z => absurd hz z⟩
        · have HK2 := HK (R.1, k, R.2.2, Cl) (by
            show _ = (if (TT (x + nI (k % wn)) (y + nI (k / wn)) (0, s.2)).1 = 0 then _ else _)
            rw [← hR2, if_neg hz])
          rw [show m_wr (R.1, k, R.2.2, Cl) = -10 - R.1 from if_neg hz] at HK2
          exact ⟨fun z => absurd z hz, fun _ => HK2⟩
      intro row col k s Cl f q9 hrow hcol hk hm hWs h0 HK
      rcases Nat.lt_or_ge col wn with hc | hc
      · exact inner row col k s Cl f q9 hrow hc hk hm hWs HK
      · have hcw : col = wn := by omega
        have hrow2 : row + 1 < hn := by
          rcases Nat.lt_or_ge (row + 1) hn with z | z
          · exact z
          · have e3 : hn * wn ≤ (row + 1) * wn := Nat.mul_le_mul_right wn z
            have e4 : (row + 1) * wn = row * wn + wn := Nat.succ_mul row wn
            have e2 : wn * hn = hn * wn := Nat.mul_comm _ _
            omega
        have hge1 : w ≤ nI col := by rw [ew, hcw]; exact Int32.le_refl _
        have hn2 : ¬ h ≤ nI row + 1 := by rw [eh, nI_1]; exact nI_ge hrow2 (by omega)
        have J := inner (row + 1) 0 k s Cl f q9 hrow2 w1 (by rw [Nat.succ_mul]; omega) hm hWs HK
        rw [← nI_1 row] at J
        have j54 : a_J X 54 [some (.inr (some 0)), some (.inl p), some (.inl x), some (.inl y), some (.inl w), some (.inl h), some (.inr (l_ref p)), some (.inl (nI row + 1)), some (.inl (nI col)), q9] [] (a_mk (l_p (l_c I (nI k) w Cl) f s) F B) 0 0 :=
          a_wp1 hS a_ivh (inv := a_iv X [64]) 60 54 _ rfl ⟨fun z => absurd z hn2, fun _ => J⟩
        exact a_wp1 hS a_ivh (inv := a_iv X [54, 64]) 60 64 _ rfl ⟨fun _ => j54, fun z => absurd hge1 z⟩
  have h0 := loop (wn * hn) 0 0 0 (I 0 7, 0, I 0 9, fun q => I (66 + q) 6) (I 5) (I 0 6) none h1 (Nat.zero_le _) (by omega) (by omega) hW0 (fun z => by omega) hK
  have e0 : l_p (l_c I (nI 0) w (I 5)) (I 0 6) (I 0 7, 0, I 0 9, fun q => I (66 + q) 6) = a_w (a_w (a_w I 0 8 0) 4 1 0) 4 2 w := by
    have e1 : I = l_p (l_c I (I 4 1) (I 4 2) (I 5)) (I 0 6) (I 0 7, I 0 8, I 0 9, fun q => I (66 + q) 6) := by rw [lc_self, lp_self]
    refine Eq.trans ?_ (congrArg (fun J => a_w (a_w (a_w J 0 8 0) 4 1 0) 4 2 w) e1.symm)
    show _ = a_w (a_w (a_w (l_p (l_c I (I 4 1) (I 4 2) (I 5)) (I 0 6) (I 0 7, I 0 8, I 0 9, fun q => I (66 + q) 6)) 0 8 0) 4 1 0) 4 2 w
    rw [lp_8, lc_1, lc_2]
    rfl
  rw [e0] at h0
  have d1' : a_w (a_w (a_w I 0 8 0) 4 1 0) 4 2 w 0 4 = nI n := d1
  have hn0 : ¬ h ≤ 0 := by rw [eh]; exact nI_nle h1 (by omega)
  have j54 : a_J X 54 [some (.inr (some 0)), some (.inl p), some (.inl x), some (.inl y), some (.inl w), some (.inl h), some (.inr (l_ref p)), some (.inl 0), none, none] [] (a_mk (a_w (a_w (a_w I 0 8 0) 4 1 0) 4 2 w) F B) 0 0 :=
    a_wp1 hS a_ivh (inv := a_iv X [64]) 60 54 _ rfl ⟨fun z => absurd z hn0, fun _ => h0⟩
  rw [← hr0] at j54
  refine a_wps hS (inv := a_iv X [54, 64]) a_ivh 60 _ _ _ _ _ _ ?_
  exact ⟨I, F, B, n, p, rfl, rfl, d1, hle, fun z => absurd z hp, fun _ => ⟨w, rfl, fun z => absurd z hw, fun _ => ⟨h, rfl, fun z => absurd z hh, fun _ => ⟨_, F, B, w, rfl, rfl, _, F, B, n, p, rfl, rfl, d1', hle, j54⟩⟩⟩⟩
end LY

