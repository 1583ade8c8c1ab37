/-! ===== the law: ask and weave; its loop ===== -/
section WD
variable {X : a_X} {Ls i kc ks n sz wd : Nat} {xs : Nat → Int32} {I : Nat → Nat → Int32} {F : Nat → Nat → Option Nat} {B : Nat → Bool}
theorem mr_o {M : Nat → Nat → Int32} {s : tS} {f g tp : Int32} {A : w5} {h : Nat} (h16 : h ≠ 16) (h23 : h ≠ 23) (h30 : h < 30 ∨ 34 < h) : m_r M s f g tp A h = M h := mq_o h16 h23 h30
theorem mr_16 {M : Nat → Nat → Int32} {s : tS} {f g tp : Int32} {A : w5} {k : Nat} : m_r M s f g tp A 16 k = if k = 11 then s.2.2.1 else if k = 12 then s.2.1 else if k = 13 then tp else if k = 19 then s.1 else if k = 20 then f else if k = 21 then g else M 16 k := by
  unfold m_r m_q m_p
  rw [if_pos rfl]
theorem mr_23 {M : Nat → Nat → Int32} {s : tS} {f g tp : Int32} {A : w5} : m_r M s f g tp A 23 = s.2.2.2 := by
  funext j
  unfold m_r m_q m_p
  rw [if_neg (by decide), if_pos rfl]
theorem aw_ne {I : Nat → Nat → Int32} {h k h' k' : Nat} {x : Int32} (hn : ¬ (h' = h ∧ k' = k)) : a_w I h k x h' k' = I h' k' := if_neg hn
theorem aw_eq {I : Nat → Nat → Int32} {h k : Nat} {x : Int32} : a_w I h k x h k = x := if_pos ⟨rfl, rfl⟩
theorem lp_04 {M : Nat → Nat → Int32} {f : Int32} {s : tS} : l_p M f s 0 4 = M 0 4 := rfl
theorem lp_05 {M : Nat → Nat → Int32} {f : Int32} {s : tS} : l_p M f s 0 5 = M 0 5 := rfl
theorem lp_07 {M : Nat → Nat → Int32} {f : Int32} {s : tS} : l_p M f s 0 7 = s.1 := rfl
theorem lp_09 {M : Nat → Nat → Int32} {f : Int32} {s : tS} : l_p M f s 0 9 = s.2.2.1 := rfl
/-- the store behind both sides' ask -/
theorem v_ask {R : tR} {g' : Int32} {A' : w5} (hv : v_I I F B n sz wd) (hW : l_W I n R.2.2) : v_I (a_w (m_r (a_w (a_w (a_w (l_p I R.1 R.2.2) 0 5 (m_wh R.1)) 16 10 0) 16 12 0) R.2.2 R.1 g' 0 A') 16 10 (m_wh R.1)) F B n sz wd := by
  have hv0 := hv
  obtain ⟨v1, v2, v3, v4, v5, v6, v7, v8, v9, v10⟩ := hv0
  generalize m_wh R.1 = wh
  generalize hM : a_w (m_r (a_w (a_w (a_w (l_p I R.1 R.2.2) 0 5 wh) 16 10 0) 16 12 0) R.2.2 R.1 g' 0 A') 16 10 wh = M
  have e0 : ∀ h, h ≠ 16 → h ≠ 23 → (h < 30 ∨ 34 < h) → M h = a_w (l_p I R.1 R.2.2) 0 5 wh h := fun h h16 h23 h30 => by rw [← hM, a_wn h16, mr_o h16 h23 h30, a_wn h16, a_wn h16]
  have e1 : ∀ h, h ≠ 0 → h ≠ 16 → h ≠ 23 → (h < 30 ∨ 34 < h) → M h = l_p I R.1 R.2.2 h := fun h h0 h16 h23 h30 => by rw [e0 h h16 h23 h30, a_wn h0]
  have e : ∀ h, h ≠ 0 → h ≠ 16 → h ≠ 23 → (h < 30 ∨ 34 < h) → (h < 66 ∨ 126 ≤ h) → M h = I h := fun h h0 h16 h23 h30 h66 => by rw [e1 h h0 h16 h23 h30, lp_o h0 h66]
  have k16 : ∀ k, k ≠ 10 → k ≠ 11 → k ≠ 12 → k ≠ 13 → k ≠ 19 → k ≠ 20 → k ≠ 21 → M 16 k = I 16 k := fun k k10 k11 k12 k13 k19 k20 k21 => by
    rw [← hM, aw_ne (fun w => k10 w.2), mr_16, if_neg k11, if_neg k12, if_neg k13, if_neg k19, if_neg k20, if_neg k21, aw_ne (fun w => k12 w.2), aw_ne (fun w => k10 w.2), a_wn (by decide), lp_o (by decide) (by decide)]
  have k10 : M 16 10 = wh := by rw [← hM, aw_eq]
  have k11 : M 16 11 = R.2.2.2.2.1 := by rw [← hM, aw_ne (by decide), mr_16, if_pos rfl]
  have k19 : M 16 19 = R.2.2.1 := by rw [← hM, aw_ne (by decide), mr_16, if_neg (by decide), if_neg (by decide), if_neg (by decide), if_pos rfl]
  have j05 : M 0 5 = wh := by rw [e0 0 (by decide) (by decide) (by decide), aw_eq]
  have j09 : M 0 9 = R.2.2.2.2.1 := by rw [e0 0 (by decide) (by decide) (by decide), aw_ne (by decide), lp_09]
  have j07 : M 0 7 = R.2.2.1 := by rw [e0 0 (by decide) (by decide) (by decide), aw_ne (by decide), lp_07]
  have j04 : M 0 4 = I 0 4 := by rw [e0 0 (by decide) (by decide) (by decide), aw_ne (by decide), lp_04]
  have j23 : M 23 = R.2.2.2.2.2 := by rw [← hM, a_wn (by decide), mr_23]
  have E : ∀ h, h < 30 → h ≠ 0 → h ≠ 16 → h ≠ 23 → M h = I h := fun h a b c d => e h b c d (by omega) (by omega)
  refine v_mv (s := R.2.2) hv j04 (fun d hd => E _ (by omega) (by omega) (by omega) (by omega)) (E _ (by decide) (by decide) (by decide) (by decide)) (E _ (by decide) (by decide) (by decide) (by decide)) (E _ (by decide) (by decide) (by decide) (by decide)) (E _ (by decide) (by decide) (by decide) (by decide)) (E _ (by decide) (by decide) (by decide) (by decide)) (E _ (by decide) (by decide) (by decide) (by decide)) (E _ (by decide) (by decide) (by decide) (by decide)) (E _ (by decide) (by decide) (by decide) (by decide))
    (fun h k h1 h2 h3 => ?_) (fun h h1 => e h (by omega) (by omega) (by omega) (by omega) (by omega)) (k16 0 (by decide) (by decide) (by decide) (by decide) (by decide) (by decide) (by decide)) (fun q hq => ?_) (fun q hq => by rw [j23]) hW ⟨by rw [j05, k10], by rw [j09, k11], by rw [j07, k19]⟩ ?_ ?_ v8 ?_
  · rw [e1 h (by omega) (by omega) (by omega) (by omega)]
    unfold l_p
    rw [if_neg (by omega), if_neg (fun w => h3 w.2.2)]
  · rw [e1 _ (by omega) (by omega) (by omega) (by omega)]
    exact lp_wr hq
  · rw [E 4 (by decide) (by decide) (by decide) (by decide), k16 23 (by decide) (by decide) (by decide) (by decide) (by decide) (by decide) (by decide)]
    exact v6
  · rw [E 4 (by decide) (by decide) (by decide) (by decide), k16 24 (by decide) (by decide) (by decide) (by decide) (by decide) (by decide) (by decide)]
    exact v7
  · rw [E 5 (by decide) (by decide) (by decide) (by decide), e 38 (by decide) (by decide) (by decide) (by decide) (by decide)]
    exact v9
theorem mcc_16 {I : Nat → Nat → Int32} {sz wd : Int32} {C : Nat → Int32} {k : Nat} : m_c I sz wd C 16 k = if k = 23 then sz else if k = 24 then wd else I 16 k := by
  unfold m_c
  rw [if_pos rfl]
theorem mcc_38 {I : Nat → Nat → Int32} {sz wd : Int32} {C : Nat → Int32} : m_c I sz wd C 38 = C := by
  funext j
  unfold m_c
  rw [if_neg (by decide), if_pos rfl]
theorem mcc_o {I : Nat → Nat → Int32} {sz wd : Int32} {C : Nat → Int32} {h : Nat} (h16 : h ≠ 16) (h38 : h ≠ 38) : m_c I sz wd C h = I h := by
  funext j
  unfold m_c
  rw [if_neg h16, if_neg h38]
theorem v_weave {R : tW} {g' : Int32} {A' : w5} {wn : Nat} (hv : v_I I F B n sz wd) (hW : l_W I n R.2.2.1) (hR : R.2.1 ≤ 144) (h1 : 1 ≤ wn) (h12 : wn ≤ 12) : v_I (m_r (m_c (l_p (l_c I (nI R.2.1) (nI wn) R.2.2.2) R.1 R.2.2.1) (nI R.2.1) (nI wn) R.2.2.2) R.2.2.1 R.1 g' 0 A') F B n R.2.1 wn := by
  have hv0 := hv
  obtain ⟨v1, v2, v3, v4, v5, v6, v7, v8, v9, v10⟩ := hv0
  generalize hM : m_r (m_c (l_p (l_c I (nI R.2.1) (nI wn) R.2.2.2) R.1 R.2.2.1) (nI R.2.1) (nI wn) R.2.2.2) R.2.2.1 R.1 g' 0 A' = M
  have e1 : ∀ h, h ≠ 16 → h ≠ 23 → (h < 30 ∨ 34 < h) → h ≠ 38 → M h = l_p (l_c I (nI R.2.1) (nI wn) R.2.2.2) R.1 R.2.2.1 h := fun h h16 h23 h30 h38 => by
    rw [← hM, mr_o h16 h23 h30, mcc_o h16 h38]
  have lc_o : ∀ h, h ≠ 4 → h ≠ 5 → l_c I (nI R.2.1) (nI wn) R.2.2.2 h = I h := fun h h4 h5 => by
    funext j
    unfold l_c
    rw [if_neg h4, if_neg h5]
  have e : ∀ h, h ≠ 0 → h ≠ 4 → h ≠ 5 → h ≠ 16 → h ≠ 23 → (h < 30 ∨ 34 < h) → h ≠ 38 → (h < 66 ∨ 126 ≤ h) → M h = I h := fun h h0 h4 h5 h16 h23 h30 h38 h66 => by
    rw [e1 h h16 h23 h30 h38, lp_o h0 h66, lc_o h h4 h5]
  have k16 : ∀ k, k ≠ 11 → k ≠ 12 → k ≠ 13 → k ≠ 19 → k ≠ 20 → k ≠ 21 → k ≠ 23 → k ≠ 24 → M 16 k = I 16 k := fun k k11 k12 k13 k19 k20 k21 k23 k24 => by
    rw [← hM, mr_16, if_neg k11, if_neg k12, if_neg k13, if_neg k19, if_neg k20, if_neg k21, mcc_16, if_neg k23, if_neg k24, lp_o (by decide) (by decide), lc_o 16 (by decide) (by decide)]
  have k11 : M 16 11 = R.2.2.1.2.2.1 := by rw [← hM, mr_16, if_pos rfl]
  have k19 : M 16 19 = R.2.2.1.1 := by rw [← hM, mr_16, if_neg (by decide), if_neg (by decide), if_neg (by decide), if_pos rfl]
  have k23 : M 16 23 = nI R.2.1 := by rw [← hM, mr_16, if_neg (by decide), if_neg (by decide), if_neg (by decide), if_neg (by decide), if_neg (by decide), if_neg (by decide), mcc_16, if_pos rfl]
  have k24 : M 16 24 = nI wn := by rw [← hM, mr_16, if_neg (by decide), if_neg (by decide), if_neg (by decide), if_neg (by decide), if_neg (by decide), if_neg (by decide), mcc_16, if_neg (by decide), if_pos rfl]
  have z0 : M 0 = l_p (l_c I (nI R.2.1) (nI wn) R.2.2.2) R.1 R.2.2.1 0 := e1 0 (by decide) (by decide) (by decide) (by decide)
  have j05 : M 0 5 = I 0 5 := by rw [z0, lp_05, lc_o 0 (by decide) (by decide)]
  have j09 : M 0 9 = R.2.2.1.2.2.1 := by rw [z0, lp_09]
  have j07 : M 0 7 = R.2.2.1.1 := by rw [z0, lp_07]
  have j04 : M 0 4 = I 0 4 := by rw [z0, lp_04, lc_o 0 (by decide) (by decide)]
  have z4 : M 4 = l_c I (nI R.2.1) (nI wn) R.2.2.2 4 := by rw [e1 4 (by decide) (by decide) (by decide) (by decide), lp_o (by decide) (by decide)]
  have j41 : M 4 1 = nI R.2.1 := by
    rw [z4]; unfold l_c; rw [if_pos rfl, if_pos rfl]
  have j42 : M 4 2 = nI wn := by
    rw [z4]; unfold l_c; rw [if_pos rfl, if_neg (by decide), if_pos rfl]
  have j5 : M 5 = R.2.2.2 := by
    rw [e1 5 (by decide) (by decide) (by decide) (by decide), lp_o (by decide) (by decide)]
    funext j
    unfold l_c
    rw [if_neg (by decide), if_pos rfl]
  have j38 : M 38 = R.2.2.2 := by rw [← hM, mr_o (by decide) (by decide) (by decide), mcc_38]
  have j23 : M 23 = R.2.2.1.2.2.2 := by rw [← hM, mr_23]
  refine v_mv (s := R.2.2.1) hv j04 (fun d hd => e _ (by omega) (by omega) (by omega) (by omega) (by omega) (by omega) (by omega) (by omega)) (e _ (by decide) (by decide) (by decide) (by decide) (by decide) (by decide) (by decide) (by decide)) (e _ (by decide) (by decide) (by decide) (by decide) (by decide) (by decide) (by decide) (by decide)) (e _ (by decide) (by decide) (by decide) (by decide) (by decide) (by decide) (by decide) (by decide)) (e _ (by decide) (by decide) (by decide) (by decide) (by decide) (by decide) (by decide) (by decide)) (e _ (by decide) (by decide) (by decide) (by decide) (by decide) (by decide) (by decide) (by decide)) (e _ (by decide) (by decide) (by decide) (by decide) (by decide) (by decide) (by decide) (by decide)) (e _ (by decide) (by decide) (by decide) (by decide) (by decide) (by decide) (by decide) (by decide)) (e _ (by decide) (by decide) (by decide) (by decide) (by decide) (by decide) (by decide) (by decide))
    (fun h k h1 h2 h3 => ?_) (fun h h1 => e h (by omega) (by omega) (by omega) (by omega) (by omega) (by omega) (by omega) (by omega)) (k16 0 (by decide) (by decide) (by decide) (by decide) (by decide) (by decide) (by decide) (by decide)) (fun q hq => ?_) (fun q hq => by rw [j23]) hW ⟨?_, by rw [j09, k11], by rw [j07, k19]⟩ ⟨j41, k23, hR⟩ ⟨j42, k24, h12⟩ (fun _ => h1) (by rw [j5, j38])
  · rw [e1 h (by omega) (by omega) (by omega) (by omega)]
    unfold l_p
    rw [if_neg (by omega), if_neg (fun w => h3 w.2.2), lc_o h (by omega) (by omega)]
  · rw [e1 _ (by omega) (by omega) (by omega) (by omega)]
    exact lp_wr hq
  · rw [j05, k16 10 (by decide) (by decide) (by decide) (by decide) (by decide) (by decide) (by decide) (by decide)]
    exact v5.1
set_option maxRecDepth 20000 in
set_option maxHeartbeats 2000000 in
theorem w_ask (hS : ∀ x ∈ P_L_law Ls xs 914936 6357439, a_Sd X x.1 x.2) (hc : kc + 2 ≤ 914936) (hs : ks + 15 ≤ 6357439) (hv : v_I I F B n sz wd) (hw : (fun q => I (66 + q) 6) = I 23) (H : w_H X i kc ks) (g1 : vp_in (nI i + 1) Ls) (g2 : vp_in (nI i + 2) Ls) (g3 : vp_in (nI i + 3) Ls) : a_J X 217 (w_L i) [] (a_mk I F B) kc ks := by
  have hv0 := hv
  obtain ⟨v1, v2, v3, v4, v5, v6, v7, v8, v9, v10⟩ := hv0
  have hle := v1.1.1
  have hv3 : l_W I n (0, 0, 0, fun q => I (66 + q) 6) := v3
  refine a_wp1 hS a_ivh (inv := a_iv X [408]) 80 217 _ rfl ⟨g1, g2, g3, a_gi (a_cgb (Nat.le_of_ble_eq_true rfl) (Nat.le_of_ble_eq_true rfl) (by omega) (by omega)) ⟨I, F, B, n, _, _, _, rfl, rfl, v1, hv3, fun a1 => ?_, fun a1 R hR => ?_⟩⟩
  · have hmD : m_D (a_w I 0 5 (-3)) n := m_D_c (a_wn (by decide)) (a_wn (by decide)) (a_wn (by decide)) (a_wn (by decide)) (a_wn (by decide)) (a_wn (by decide)) v1.1
    have e0 : a_w I 0 5 (-3) 16 0 = nI n := v2
    exact ⟨g1, g2, g3, a_gi (a_cgb (Nat.le_of_ble_eq_true rfl) (Nat.le_of_ble_eq_true rfl) (by omega) (by omega)) ⟨a_w I 0 5 (-3), F, B, n, 101, _, _, _, rfl, rfl, Nat.le_refl _, hmD, fun z => absurd (by rw [e0]; exact a1) z, fun _ => ⟨fun _ => H _ _ _ _ _ _ _ _ (v_why hv) (by omega) (by omega), fun w => absurd rfl w⟩, fun z => absurd (by rw [e0]; exact a1) z⟩⟩
  · have hJ : ∀ h, h ≠ 0 → (h < 66 ∨ 126 ≤ h) → a_w (l_p I R.1 R.2.2) 0 5 (m_wh R.1) h = I h := fun h h0 h66 => by rw [a_wn h0, lp_o h0 h66]
    have hmD : m_D (a_w (l_p I R.1 R.2.2) 0 5 (m_wh R.1)) n := m_D_c (hJ _ (by decide) (by decide)) (hJ _ (by decide) (by decide)) (hJ _ (by decide) (by decide)) (hJ _ (by decide) (by decide)) (hJ _ (by decide) (by decide)) (hJ _ (by decide) (by decide)) v1.1
    have e0 : a_w (l_p I R.1 R.2.2) 0 5 (m_wh R.1) 16 0 = nI n := v2
    have hW : l_W I n R.2.2 := by
      rw [hR]
      exact tw_T (M := I) 101 _ _ _ _ hv3
    refine ⟨g1, g2, g3, a_gi (a_cgb (Nat.le_of_ble_eq_true rfl) (Nat.le_of_ble_eq_true rfl) (by omega) (by omega)) ⟨_, F, B, n, 101, _, _, _, rfl, rfl, Nat.le_refl _, hmD, fun _ => Or.inr (Or.inr (Or.inr (l_inp hle a1))), fun z => absurd (by rw [e0] at z; exact z) a1, fun _ r hr g' A' => ?_⟩⟩
    have hrR : r = R := by
      have e11 : a_w (l_p I R.1 R.2.2) 0 5 (m_wh R.1) 16 11 = I 16 11 := rfl
      refine hr.trans (Eq.trans ?_ hR.symm)
      rw [e11, tt_congr (M := a_w (l_p I R.1 R.2.2) 0 5 (m_wh R.1)) (M' := I) (hJ _ (by decide) (by decide)) (hJ _ (by decide) (by decide)) (hJ _ (by decide) (by decide)) (hJ _ (by decide) (by decide)) (hJ _ (by decide) (by decide)) (hJ _ (by decide) (by decide)) (hJ _ (by decide) (by decide)) (hJ _ (by decide) (by decide)) 101, hJ 23 (by decide) (by decide), hw, v5.2.1]
    clear hr hR
    subst hrR
    exact ⟨fun _ => H _ _ _ _ _ _ _ _ (v_ask hv hW) (by omega) (by omega), fun w => absurd rfl w⟩
theorem m_in_y12 {j : Nat} (h1 : 1 ≤ j) (h2 : j ≤ 12) : m_in (nI j) 1 12 = 1 := by
  unfold m_in
  rw [if_neg (show ¬ nI j < 1 from nI_nlt (a := j) (b := 1) h1 (by omega)), if_neg (show ¬ 12 < nI j from nI_nlt (a := 12) (b := j) h2 (by decide))]
set_option maxRecDepth 20000 in
set_option maxHeartbeats 2000000 in
theorem w_weave (hS : ∀ x ∈ P_L_law Ls xs 914936 6357439, a_Sd X x.1 x.2) (hc : kc + 2 ≤ 914936) (hs : ks + 15 ≤ 6357439) (hv : v_I I F B n sz wd) (hw : (fun q => I (66 + q) 6) = I 23) (H : w_H X i kc ks) (g1 : vp_in (nI i + 1) Ls) (g2 : vp_in (nI i + 2) Ls) (g3 : vp_in (nI i + 3) Ls) (g4 : vp_in (nI i + 4) Ls) (g5 : vp_in (nI i + 5) Ls) : a_J X 260 (w_L i) [] (a_mk I F B) kc ks := by
  have hv0 := hv
  obtain ⟨v1, v2, v3, v4, v5, v6, v7, v8, v9, v10⟩ := hv0
  have hle := v1.1.1
  have hv3 : l_W I n (0, 0, 0, fun q => I (66 + q) 6) := v3
  refine a_wp1 hS a_ivh (inv := a_iv X [408]) 120 260 _ rfl ⟨g1, g2, g3, g4, g5, a_gi (a_cgb (Nat.le_of_ble_eq_true rfl) (Nat.le_of_ble_eq_true rfl) (by omega) (by omega)) ⟨I, F, B, n, _, _, _, _, _, rfl, rfl, v1, hv3, fun a1 => ?_, fun a1 a2 => ?_, fun a1 wn hn w1 w12 h1 h12 ew eh R hR => ?_⟩⟩
  · exact ⟨g1, g2, g3, g4, g5, a_gi (a_cgb (Nat.le_of_ble_eq_true rfl) (Nat.le_of_ble_eq_true rfl) (by omega) (by omega)) ⟨I, F, B, n, 101, _, _, _, _, _, rfl, rfl, Nat.le_refl _, v1.1, fun z => absurd (by rw [v2]; exact a1) z, fun _ => ⟨fun _ => H _ _ _ _ _ _ _ _ hv (by omega) (by omega), fun w => absurd rfl w⟩, fun z => absurd (by rw [v2]; exact a1) z, fun z => absurd (by rw [v2]; exact a1) z⟩⟩
  · refine ⟨g1, g2, g3, g4, g5, a_gi (a_cgb (Nat.le_of_ble_eq_true rfl) (Nat.le_of_ble_eq_true rfl) (by omega) (by omega)) ⟨I, F, B, n, 101, _, _, _, _, _, rfl, rfl, Nat.le_refl _, v1.1, fun _ => Or.inr (Or.inr (Or.inr (l_inp hle a1))), fun z => absurd (by rw [v2] at z; exact z) a1, fun _ _ => ⟨fun _ => H _ _ _ _ _ _ _ _ hv (by omega) (by omega), fun w => absurd rfl w⟩, fun _ wn hn w1 w12 h1 h12 ew eh => ?_⟩⟩
    exfalso
    rw [ew, eh, m_in_y12 w1 w12, m_in_y12 h1 h12] at a2
    exact a2.elim (fun z => absurd z (by decide)) (fun z => absurd z (by decide))
  · have hJ : ∀ h, h ≠ 0 → h ≠ 4 → h ≠ 5 → (h < 66 ∨ 126 ≤ h) → l_p (l_c I (nI R.2.1) (xs (nI i + 4).toNatClampNeg) R.2.2.2) R.1 R.2.2.1 h = I h := fun h h0 h4 h5 h66 => by
      rw [lp_o h0 h66]
      funext j
      unfold l_c
      rw [if_neg h4, if_neg h5]
    have hmD : m_D (l_p (l_c I (nI R.2.1) (xs (nI i + 4).toNatClampNeg) R.2.2.2) R.1 R.2.2.1) n := m_D_c (hJ _ (by decide) (by decide) (by decide) (by decide)) (hJ _ (by decide) (by decide) (by decide) (by decide)) (hJ _ (by decide) (by decide) (by decide) (by decide)) (hJ _ (by decide) (by decide) (by decide) (by decide)) (hJ _ (by decide) (by decide) (by decide) (by decide)) (hJ _ (by decide) (by decide) (by decide) (by decide)) v1.1
    have e0 : l_p (l_c I (nI R.2.1) (xs (nI i + 4).toNatClampNeg) R.2.2.2) R.1 R.2.2.1 16 0 = nI n := v2
    have hW : l_W I n R.2.2.1 := by
      rw [hR]
      exact tw_wv (fun x y s hs => tw_T (M := I) 101 _ x y s hs) _ _ _ _ _ _ _ hv3
    have hle2 : R.2.1 ≤ 144 := by
      have h9 := wv_le (T := tt_T I 101 (xs (nI i + 1).toNatClampNeg)) (xs (nI i + 2).toNatClampNeg) (xs (nI i + 3).toNatClampNeg) wn (wn * hn) 0 (I 0 7, 0, I 0 9, fun q => I (66 + q) 6) (I 5)
      rw [← hR] at h9
      have := Nat.mul_le_mul w12 h12
      omega
    refine ⟨g1, g2, g3, g4, g5, a_gi (a_cgb (Nat.le_of_ble_eq_true rfl) (Nat.le_of_ble_eq_true rfl) (by omega) (by omega)) ⟨_, F, B, n, 101, _, _, _, _, _, rfl, rfl, Nat.le_refl _, hmD, fun _ => Or.inr (Or.inr (Or.inr (l_inp hle a1))), fun z => absurd (by rw [e0] at z; exact z) a1, fun _ z => ?_, fun _ wn' hn' w1' w12' h1' h12' ew' eh' r hr g' A' => ?_⟩⟩
    · exfalso
      rw [ew, eh, m_in_y12 w1 w12, m_in_y12 h1 h12] at z
      exact z.elim (fun z => absurd z (by decide)) (fun z => absurd z (by decide))
    · have ewn : wn' = wn := (nI_eq (by omega) (by omega)).mp (ew'.symm.trans ew)
      have ehn : hn' = hn := (nI_eq (by omega) (by omega)).mp (eh'.symm.trans eh)
      rw [ewn, ehn] at hr
      have hrR : r = R := by
        have e11 : l_p (l_c I (nI R.2.1) (xs (nI i + 4).toNatClampNeg) R.2.2.2) R.1 R.2.2.1 16 11 = I 16 11 := rfl
        have e19 : l_p (l_c I (nI R.2.1) (xs (nI i + 4).toNatClampNeg) R.2.2.2) R.1 R.2.2.1 16 19 = I 16 19 := rfl
        refine hr.trans (Eq.trans ?_ hR.symm)
        rw [e11, e19, tt_congr (M := l_p (l_c I (nI R.2.1) (xs (nI i + 4).toNatClampNeg) R.2.2.2) R.1 R.2.2.1) (M' := I) (hJ _ (by decide) (by decide) (by decide) (by decide)) (hJ _ (by decide) (by decide) (by decide) (by decide)) (hJ _ (by decide) (by decide) (by decide) (by decide)) (hJ _ (by decide) (by decide) (by decide) (by decide)) (hJ _ (by decide) (by decide) (by decide) (by decide)) (hJ _ (by decide) (by decide) (by decide) (by decide)) (hJ _ (by decide) (by decide) (by decide) (by decide)) (hJ _ (by decide) (by decide) (by decide) (by decide)) 101, hJ 23 (by decide) (by decide) (by decide) (by decide), hJ 38 (by decide) (by decide) (by decide) (by decide), hw, v9, v5.2.1, v5.2.2]
      clear hr hR ew' eh'
      subst hrR
      have hvv := v_weave (g' := g') (A' := A') hv hW hle2 w1 w12
      rw [← ew] at hvv
      exact ⟨fun _ => H _ _ _ _ _ _ _ _ hvv (by omega) (by omega), fun w => absurd rfl w⟩
end WD

