/-! ===== the law, case by case ===== -/
theorem a_cgb {a b c d : Prop} {_ : Decidable a} {_ : Decidable b} {_ : Decidable c} {_ : Decidable d} (ha : a) (hb : b) (hc : c) (hd : d) : (decide a && (decide b && (decide c && decide d))) = true := by
  rw [decide_eq_true ha, decide_eq_true hb, decide_eq_true hc, decide_eq_true hd]
  rfl
theorem a_w_comm {I : Nat → Nat → Int32} {h1 k1 h2 k2 : Nat} {x1 x2 : Int32} (hn : h1 ≠ h2) : a_w (a_w I h1 k1 x1) h2 k2 x2 = a_w (a_w I h2 k2 x2) h1 k1 x1 := by
  funext h k
  unfold a_w
  by_cases e1 : h = h1 ∧ k = k1
  · rw [if_pos e1, if_neg (fun w => hn (e1.1.symm.trans w.1)), if_pos e1]
  · rw [if_neg e1, if_neg e1]
theorem m_inS {x : Int32} {sz : Nat} (hs : sz ≤ 144) (h : ¬ m_in x 0 (nI sz - 1) = 0) : vp_in x 144 := by
  cases sz with
  | zero =>
    unfold m_in at h
    by_cases h1 : x < 0
    · rw [if_pos h1] at h; exact absurd rfl h
    · rw [if_neg h1] at h
      rw [if_pos (show nI 0 - 1 < x by
        have h2 : (0 : Int32) ≤ x := Int32.not_lt.mp h1
        exact Int32.lt_of_lt_of_le (by decide) h2)] at h
      exact absurd rfl h
  | succ t =>
    rw [nI_pred] at h
    obtain ⟨j, hj, rfl⟩ := m_in_n (by omega) h
    exact vp_in_nI (by omega) (by decide)
theorem mq_o {M : Nat → Nat → Int32} {k f g sf wn tp : Int32} {ak : Nat → Int32} {A : w5} {h : Nat} (h16 : h ≠ 16) (h23 : h ≠ 23) (h30 : h < 30 ∨ 34 < h) : m_q M k f g sf wn tp ak A h = M h := by
  funext j
  unfold m_q m_p
  rw [if_neg h16, if_neg h23, if_neg (by omega), if_neg (by omega), if_neg (by omega), if_neg (by omega), if_neg (by omega)]
abbrev w_L (i : Nat) : aL := [some (.inr (some 63)), some (.inr (some 0)), some (.inr (some 16)), some (.inl (nI i))]
def w_H (X : a_X) (i kc ks : Nat) : Prop := ∀ I' F' B' n' sz' wd' kc' ks', v_I I' F' B' n' sz' wd' → kc' ≤ kc + 2 → ks' ≤ ks + 15 → a_J X 408 (w_L i) [] (a_mk I' F' B') kc' ks'
section WC
variable {X : a_X} {Ls i kc ks n sz wd : Nat} {xs : Nat → Int32} {I : Nat → Nat → Int32} {F : Nat → Nat → Option Nat} {B : Nat → Bool}
set_option maxRecDepth 20000 in
set_option maxHeartbeats 1000000 in
theorem w_why (hS : ∀ x ∈ P_L_law Ls xs 914936 6357439, a_Sd X x.1 x.2) (hc : kc + 2 ≤ 914936) (hs : ks + 15 ≤ 6357439) (hv : v_I I F B n sz wd) (H : w_H X i kc ks) : a_J X 372 (w_L i) [] (a_mk I F B) kc ks := by
  have e := hv.2.2.2.2.1.1
  exact a_wp1 hS a_ivh (inv := a_iv X [408]) 80 372 _ rfl (a_gi (a_cgb (Nat.le_of_ble_eq_true rfl) (Nat.le_of_ble_eq_true rfl) (by omega) (by omega)) ⟨I, F, B, rfl, rfl, a_gi (a_cgb (Nat.le_of_ble_eq_true rfl) (Nat.le_of_ble_eq_true rfl) (by omega) (by omega)) ⟨I, F, B, rfl, rfl, fun _ => H _ _ _ _ _ _ _ _ hv (by omega) (by omega), fun w => absurd e w⟩⟩)
set_option maxRecDepth 20000 in
set_option maxHeartbeats 1000000 in
theorem w_count (hS : ∀ x ∈ P_L_law Ls xs 914936 6357439, a_Sd X x.1 x.2) (hc : kc + 2 ≤ 914936) (hs : ks + 15 ≤ 6357439) (hv : v_I I F B n sz wd) (H : w_H X i kc ks) (g1 : vp_in (nI i + 1) Ls) : a_J X 385 (w_L i) [] (a_mk I F B) kc ks := by
  have hv0 := hv
  obtain ⟨v1, v2, v3, v4, v5, v6, v7, v8, v9, v10⟩ := hv0
  have d1 : I 0 4 = nI n := v1.2.1
  have e : m_cnt (I 0 4) (I 4 1) (I 4 2) (I 0 7) (I 0 9) (xs (nI i + 1).toNatClampNeg) = m_cnt (I 16 0) (I 16 23) (I 16 24) (I 16 19) (I 16 11) (xs (nI i + 1).toNatClampNeg) := by rw [d1, v2, v6.1, v6.2.1, v7.1, v7.2.1, v5.2.1, v5.2.2]
  exact a_wp1 hS a_ivh (inv := a_iv X [408]) 80 385 _ rfl ⟨g1, a_gi (a_cgb (Nat.le_of_ble_eq_true rfl) (Nat.le_of_ble_eq_true rfl) (by omega) (by omega)) ⟨I, F, B, _, rfl, rfl, g1, a_gi (a_cgb (Nat.le_of_ble_eq_true rfl) (Nat.le_of_ble_eq_true rfl) (by omega) (by omega)) ⟨I, F, B, _, rfl, rfl, fun _ => H _ _ _ _ _ _ _ _ hv (by omega) (by omega), fun w => absurd e w⟩⟩⟩
set_option maxRecDepth 20000 in
set_option maxHeartbeats 1000000 in
theorem w_most (hS : ∀ x ∈ P_L_law Ls xs 914936 6357439, a_Sd X x.1 x.2) (hc : kc + 2 ≤ 914936) (hs : ks + 15 ≤ 6357439) (hv : v_I I F B n sz wd) (H : w_H X i kc ks) : a_J X 359 (w_L i) [] (a_mk I F B) kc ks := by
  have hv0 := hv
  obtain ⟨v1, v2, v3, v4, v5, v6, v7, v8, v9, v10⟩ := hv0
  have e : (c_b (I 5) sz sz).1 = (c_b (I 38) sz sz).1 := by rw [v9]
  exact a_wp1 hS a_ivh (inv := a_iv X [408]) 80 359 _ rfl (a_gi (a_cgb (Nat.le_of_ble_eq_true rfl) (Nat.le_of_ble_eq_true rfl) (by omega) (by omega)) ⟨I, F, B, sz, rfl, rfl, v6.1, v6.2.2, a_gi (a_cgb (Nat.le_of_ble_eq_true rfl) (Nat.le_of_ble_eq_true rfl) (by omega) (by omega)) ⟨I, F, B, sz, rfl, rfl, v6.2.1, v6.2.2, fun _ => H _ _ _ _ _ _ _ _ hv (by omega) (by omega), fun w => absurd e w⟩⟩)
set_option maxRecDepth 20000 in
set_option maxHeartbeats 1000000 in
theorem w_changes (hS : ∀ x ∈ P_L_law Ls xs 914936 6357439, a_Sd X x.1 x.2) (hc : kc + 2 ≤ 914936) (hs : ks + 15 ≤ 6357439) (hv : v_I I F B n sz wd) (H : w_H X i kc ks) : a_J X 346 (w_L i) [] (a_mk I F B) kc ks := by
  have hv0 := hv
  obtain ⟨v1, v2, v3, v4, v5, v6, v7, v8, v9, v10⟩ := hv0
  have e : nI (c_g (I 5) wd sz) = nI (c_g (I 38) wd sz) := by rw [v9]
  exact a_wp1 hS a_ivh (inv := a_iv X [408]) 80 346 _ rfl (a_gi (a_cgb (Nat.le_of_ble_eq_true rfl) (Nat.le_of_ble_eq_true rfl) (by omega) (by omega)) ⟨I, F, B, sz, wd, rfl, rfl, v6.1, v7.1, v6.2.2, v7.2.2, v8, a_gi (a_cgb (Nat.le_of_ble_eq_true rfl) (Nat.le_of_ble_eq_true rfl) (by omega) (by omega)) ⟨I, F, B, sz, wd, rfl, rfl, v6.2.1, v7.2.1, v6.2.2, v7.2.2, v8, fun _ => H _ _ _ _ _ _ _ _ hv (by omega) (by omega), fun w => absurd e w⟩⟩)
set_option maxRecDepth 20000 in
set_option maxHeartbeats 1000000 in
theorem w_cloth (hS : ∀ x ∈ P_L_law Ls xs 914936 6357439, a_Sd X x.1 x.2) (hc : kc + 2 ≤ 914936) (hs : ks + 15 ≤ 6357439) (hv : v_I I F B n sz wd) (H : w_H X i kc ks) (g1 : vp_in (nI i + 1) Ls) : a_J X 323 (w_L i) [] (a_mk I F B) kc ks := by
  have hv0 := hv
  obtain ⟨v1, v2, v3, v4, v5, v6, v7, v8, v9, v10⟩ := hv0
  have e : (if m_in (xs (nI i + 1).toNatClampNeg) 0 (nI sz - 1) = 0 then 0 else I 5 (xs (nI i + 1).toNatClampNeg).toNatClampNeg) = (if m_in (xs (nI i + 1).toNatClampNeg) 0 (I 16 23 - 1) = 0 then 0 else I 38 (xs (nI i + 1).toNatClampNeg).toNatClampNeg) := by rw [v9, v6.2.1]
  exact a_wp1 hS a_ivh (inv := a_iv X [408]) 80 323 _ rfl ⟨g1, a_gi (a_cgb (Nat.le_of_ble_eq_true rfl) (Nat.le_of_ble_eq_true rfl) (by omega) (by omega)) ⟨I, F, B, sz, _, rfl, rfl, v6.1, v6.2.2, g1, a_gi (a_cgb (Nat.le_of_ble_eq_true rfl) (Nat.le_of_ble_eq_true rfl) (by omega) (by omega)) ⟨I, F, B, _, rfl, rfl, fun w => m_inS v6.2.2 (by rw [v6.2.1] at w; exact w), fun _ => H _ _ _ _ _ _ _ _ hv (by omega) (by omega), fun w => absurd e w⟩⟩⟩
set_option maxRecDepth 20000 in
set_option maxHeartbeats 1000000 in
theorem w_dye (hS : ∀ x ∈ P_L_law Ls xs 914936 6357439, a_Sd X x.1 x.2) (hc : kc + 2 ≤ 914936) (hs : ks + 15 ≤ 6357439) (hv : v_I I F B n sz wd) (H : w_H X i kc ks) (g1 : vp_in (nI i + 1) Ls) (g2 : vp_in (nI i + 2) Ls) (g3 : vp_in (nI i + 3) Ls) : a_J X 88 (w_L i) [] (a_mk I F B) kc ks := by
  have hv0 := hv
  obtain ⟨v1, v2, v3, v4, v5, v6, v7, v8, v9, v10⟩ := hv0
  refine a_wp1 hS a_ivh (inv := a_iv X [408]) 80 88 _ rfl ⟨g1, g2, g3, a_gi (a_cgb (Nat.le_of_ble_eq_true rfl) (Nat.le_of_ble_eq_true rfl) (by omega) (by omega)) ⟨I, F, B, _, _, _, rfl, rfl, fun h1 => ⟨g1, g2, g3, a_gi (a_cgb (Nat.le_of_ble_eq_true rfl) (Nat.le_of_ble_eq_true rfl) (by omega) (by omega)) ⟨_, F, B, _, _, _, rfl, rfl, fun _ => ⟨fun _ => H _ _ _ _ _ _ _ _ (v_why hv) (by omega) (by omega), fun w => absurd rfl w⟩, fun w1 w2 => absurd h1 (fun z => z.elim w1 w2)⟩⟩, fun d' i' hd' hi' e1 e2 => ?_⟩⟩
  have d8 := v1.2.2.2.2.2.2.2.1
  have e3 : (8 * (xs (nI i + 1).toNatClampNeg) + (xs (nI i + 2).toNatClampNeg) : Int32).toNatClampNeg = 8 * d' + i' := by rw [e1, e2, a_8 (by omega) hi']; exact nI_clamp (by omega)
  have e4 : I (6 + d') i' = a_w (a_w I (6 + d') i' (xs (nI i + 3).toNatClampNeg)) 0 5 0 24 (8 * (xs (nI i + 1).toNatClampNeg) + (xs (nI i + 2).toNatClampNeg) : Int32).toNatClampNeg := by
    rw [e3, a_wn (by decide), a_wn (by omega)]
    exact d8 d' hd' i' hi'
  have hvv : v_I (a_w (a_w (a_w (a_w I (6 + d') i' (xs (nI i + 3).toNatClampNeg)) 0 5 0) 16 10 0) 24 (8 * (xs (nI i + 1).toNatClampNeg) + (xs (nI i + 2).toNatClampNeg) : Int32).toNatClampNeg (xs (nI i + 3).toNatClampNeg)) F B n sz wd := by
    rw [e3, a_w_comm (h1 := 16) (h2 := 24) (by decide), a_w_comm (h1 := 0) (h2 := 24) (by decide)]
    exact v_why (v_dye hd' hi' hv)
  refine ⟨g1, g2, g3, a_gi (a_cgb (Nat.le_of_ble_eq_true rfl) (Nat.le_of_ble_eq_true rfl) (by omega) (by omega)) ⟨_, F, B, _, _, _, rfl, rfl, fun w => ?_, fun w1 w2 => ⟨fun _ => H _ _ _ _ _ _ _ _ hvv (by omega) (by omega), fun w => absurd e4 w⟩⟩⟩
  exfalso
  rcases w with w | w
  · rw [e1, show m_in (nI d') 0 3 = 1 from m_in_y (b := 3) (by decide) (by omega)] at w; exact absurd w (by decide)
  · rw [e2, show m_in (nI i') 0 7 = 1 from m_in_y (b := 7) (by decide) (by omega)] at w; exact absurd w (by decide)
set_option maxRecDepth 20000 in
set_option maxHeartbeats 1000000 in
theorem w_name (hS : ∀ x ∈ P_L_law Ls xs 914936 6357439, a_Sd X x.1 x.2) (hc : kc + 2 ≤ 914936) (hs : ks + 15 ≤ 6357439) (hv : v_I I F B n sz wd) (H : w_H X i kc ks) (g1 : vp_in (nI i + 1) Ls) (g2 : vp_in (nI i + 2) Ls) : a_J X 184 (w_L i) [] (a_mk I F B) kc ks := by
  have hv0 := hv
  obtain ⟨v1, v2, v3, v4, v5, v6, v7, v8, v9, v10⟩ := hv0
  refine a_wp1 hS a_ivh (inv := a_iv X [408]) 80 184 _ rfl ⟨g1, g2, a_gi (a_cgb (Nat.le_of_ble_eq_true rfl) (Nat.le_of_ble_eq_true rfl) (by omega) (by omega)) ⟨I, F, B, n, _, _, rfl, rfl, v1, fun h1 => ⟨g1, g2, a_gi (a_cgb (Nat.le_of_ble_eq_true rfl) (Nat.le_of_ble_eq_true rfl) (by omega) (by omega)) ⟨I, F, B, _, _, rfl, rfl, fun _ => ⟨fun _ => H _ _ _ _ _ _ _ _ hv (by omega) (by omega), fun w => absurd rfl w⟩, fun w1 w2 => ?_⟩⟩, fun j hj e1 hp => ?_⟩⟩
  · exfalso
    rw [v2] at w2
    rcases h1 with h1 | h1
    · exact w1 h1
    · exact w2.elim h1.1 (fun z => z h1.2)
  have hcd : m_cd n (xs (nI i + 2).toNatClampNeg) := hp.elim Or.inl (fun z => Or.inr (Or.inr (Or.inr (l_inp v1.1.1 z))))
  have e3 : (xs (nI i + 1).toNatClampNeg).toNatClampNeg = j := by rw [e1]; exact nI_clamp (by omega)
  have e4 : (if F 2 j = none then (0 : Int32) else 1) = (if I 25 (xs (nI i + 1).toNatClampNeg).toNatClampNeg = -1 then 0 else 1) := by
    rw [e3, v1.2.2.2.2.2.2.1 j hj]
    by_cases hz : I 25 j = -1
    · rw [if_pos hz, if_pos ((l_ref_n _).mpr hz)]
    · rw [if_neg hz, if_neg (fun w => hz ((l_ref_n _).mp w))]
  have hvv : v_I (a_w I 25 (xs (nI i + 1).toNatClampNeg).toNatClampNeg (xs (nI i + 2).toNatClampNeg)) (u_2 F 2 j (l_ref (xs (nI i + 2).toNatClampNeg))) B n sz wd := by
    rw [e3]
    exact v_name hj hcd hv
  refine ⟨g1, g2, a_gi (a_cgb (Nat.le_of_ble_eq_true rfl) (Nat.le_of_ble_eq_true rfl) (by omega) (by omega)) ⟨I, _, B, _, _, rfl, rfl, fun w => ?_, fun w1 w2 => ⟨fun _ => H _ _ _ _ _ _ _ _ hvv (by omega) (by omega), fun w => absurd e4 w⟩⟩⟩
  exfalso
  rw [v2] at w
  rcases w with w | w
  · rw [e1, show m_in (nI j) 0 5 = 1 from m_in_y (b := 5) (by decide) (by omega)] at w; exact absurd w (by decide)
  · exact hp.elim w.1 (fun z => z w.2)
set_option maxRecDepth 20000 in
set_option maxHeartbeats 1000000 in
theorem w_pattern (hS : ∀ x ∈ P_L_law Ls xs 914936 6357439, a_Sd X x.1 x.2) (hc : kc + 2 ≤ 914936) (hs : ks + 15 ≤ 6357439) (hv : v_I I F B n sz wd) (H : w_H X i kc ks) (g1 : vp_in (nI i + 1) Ls) (g2 : vp_in (nI i + 2) Ls) (g3 : vp_in (nI i + 3) Ls) (g4 : vp_in (nI i + 4) Ls) : a_J X 131 (w_L i) [] (a_mk I F B) kc ks := by
  have hv0 := hv
  obtain ⟨v1, v2, v3, v4, v5, v6, v7, v8, v9, v10⟩ := hv0
  have hle := v1.1.1
  refine a_wp1 hS a_ivh (inv := a_iv X [408]) 90 131 _ rfl ⟨g1, g2, g3, g4, a_gi (a_cgb (Nat.le_of_ble_eq_true rfl) (Nat.le_of_ble_eq_true rfl) (by omega) (by omega)) ⟨I, F, B, n, _, _, _, _, rfl, rfl, v1, (v10 n (Nat.le_refl _) hle).1, (v10 n (Nat.le_refl _) hle).2, fun a1 => ⟨g1, g2, g3, g4, a_gi (a_cgb (Nat.le_of_ble_eq_true rfl) (Nat.le_of_ble_eq_true rfl) (by omega) (by omega)) ⟨I, F, B, n, _, _, _, _, rfl, rfl, v2, hle, fun _ => ⟨fun _ => H _ _ _ _ _ _ _ _ hv (by omega) (by omega), fun w => absurd rfl w⟩, fun z => absurd a1 z, fun z => absurd a1 z, fun z => absurd a1 z, fun z => absurd a1 z⟩⟩,
    fun a1 a2 => ⟨g1, g2, g3, g4, a_gi (a_cgb (Nat.le_of_ble_eq_true rfl) (Nat.le_of_ble_eq_true rfl) (by omega) (by omega)) ⟨I, F, B, n, _, _, _, _, rfl, rfl, v2, hle, fun z => absurd z a1, fun _ _ => ⟨fun _ => H _ _ _ _ _ _ _ _ hv (by omega) (by omega), fun w => absurd rfl w⟩, fun _ z => absurd a2 z, fun _ z => absurd a2 z, fun _ z => absurd a2 z⟩⟩,
    fun a1 a2 a3 => ⟨g1, g2, g3, g4, a_gi (a_cgb (Nat.le_of_ble_eq_true rfl) (Nat.le_of_ble_eq_true rfl) (by omega) (by omega)) ⟨I, F, B, n, _, _, _, _, rfl, rfl, v2, hle, fun z => absurd z a1, fun _ z => absurd z a2, fun _ _ _ => ⟨fun _ => H _ _ _ _ _ _ _ _ hv (by omega) (by omega), fun w => absurd rfl w⟩, fun _ _ z => absurd a3 z, fun _ _ z => absurd a3 z⟩⟩,
    fun a1 a2 a3 a4 => ⟨g1, g2, g3, g4, a_gi (a_cgb (Nat.le_of_ble_eq_true rfl) (Nat.le_of_ble_eq_true rfl) (by omega) (by omega)) ⟨I, F, B, n, _, _, _, _, rfl, rfl, v2, hle, fun z => absurd z a1, fun _ z => absurd z a2, fun _ _ z => absurd z a3, fun _ _ _ _ => ⟨fun _ => H _ _ _ _ _ _ _ _ hv (by omega) (by omega), fun w => absurd rfl w⟩, fun _ _ _ z => absurd z (by omega)⟩⟩,
    fun a1 a2 a3 a4 I' F' B' hN => ?_⟩⟩
  have e0 : I' 16 0 = nI n := by rw [hN.2.1 16 0 (by omega) (by omega) (by omega)]; exact v2
  exact ⟨g1, g2, g3, g4, a_gi (a_cgb (Nat.le_of_ble_eq_true rfl) (Nat.le_of_ble_eq_true rfl) (by omega) (by omega)) ⟨I', F', B', n, _, _, _, _, rfl, rfl, e0, hle, fun z => absurd z a1, fun _ z => absurd z a2, fun _ _ z => absurd z a3, fun _ _ _ z => absurd z (by omega), fun _ _ _ _ => ⟨fun _ => H _ _ _ _ _ _ _ _ (v_pat hv a4 a1 a2 a3 hN) (by omega) (by omega), fun w => absurd rfl w⟩⟩⟩
end WC

