/-! ===== the law's loop ===== -/
section WE
variable {X : a_X} {Ls : Nat} {xs : Nat → Int32}
def v_j (I : Nat → Nat → Int32) : Nat → Nat → Int32 := fun h k => if h = 23 ∧ 60 ≤ k then I (66 + k) 6 else I h k
theorem v_junk {I : Nat → Nat → Int32} {F : Nat → Nat → Option Nat} {B : Nat → Bool} {n sz wd : Nat} (hv : v_I I F B n sz wd) : v_I (v_j I) F B n sz wd ∧ (fun q => v_j I (66 + q) 6) = v_j I 23 := by
  have hv0 := hv
  obtain ⟨v1, v2, v3, v4, v5, v6, v7, v8, v9, v10⟩ := hv0
  have e : ∀ h, h ≠ 23 → v_j I h = I h := fun h h0 => by
    funext k
    exact if_neg (fun w => h0 w.1)
  refine ⟨v_mv (s := (0, 0, 0, I 23)) hv (by rw [e 0 (by decide)]) (fun d hd => e _ (by omega)) (e _ (by decide)) (e _ (by decide)) (e _ (by decide)) (e _ (by decide)) (e _ (by decide)) (e _ (by decide)) (e _ (by decide)) (e _ (by decide)) (fun h k h1 h2 h3 => by rw [e h (by omega)]) (fun h h1 => e h (by omega)) (by rw [e 16 (by decide)])
    (fun q hq => by rw [e _ (by omega)]; exact v4 q hq) (fun q hq => if_neg (by omega)) (fun p hp h10 => by
      obtain ⟨w, b, e1, e2⟩ := v3 p hp h10
      exact ⟨w, b, (v4 p (by have := v1.1.1; omega)).symm.trans e1, e2⟩) (by rw [e 0 (by decide), e 16 (by decide)]; exact v5) (by rw [e 4 (by decide), e 16 (by decide)]; exact v6) (by rw [e 4 (by decide), e 16 (by decide)]; exact v7) v8 (by rw [e 5 (by decide), e 38 (by decide)]; exact v9), ?_⟩
  funext q
  rw [e (66 + q) (by omega)]
  unfold v_j
  by_cases hq : 60 ≤ q
  · rw [if_pos ⟨rfl, hq⟩]
  · rw [if_neg (fun w => hq w.2)]
    exact v4 q (by omega)
theorem w_cmp {i Ls : Nat} (hL : Ls ≤ 3072) (hi : i ≤ 3072) : (Int32.ofNat Ls - 6 < nI i) ↔ Ls < i + 6 := by
  rcases Nat.lt_or_ge Ls 6 with h | h
  · refine ⟨fun _ => by omega, fun _ => ?_⟩
    have h0 : ∀ k, k < 6 → Int32.ofNat k - 6 < 0 := by decide +kernel
    exact Int32.lt_of_lt_of_le (h0 Ls h) (nI_pos' (by omega))
  · obtain ⟨t, rfl⟩ : ∃ t, Ls = t + 6 := ⟨Ls - 6, by omega⟩
    have e : Int32.ofNat (t + 6) - 6 = nI t := by
      show nI (t + 6) - 6 = nI t
      rw [← nI_add]
      exact Int32.add_sub_cancel _ _
    rw [e, nI_ltI (by omega) (by omega)]
    omega
set_option maxRecDepth 20000 in
set_option maxHeartbeats 4000000 in
theorem w_loop (hS : ∀ x ∈ P_L_law Ls xs 914936 6357439, a_Sd X x.1 x.2) (hL : Ls ≤ 3072) : ∀ (m i : Nat) (I : Nat → Nat → Int32) (F : Nat → Nat → Option Nat) (B : Nat → Bool) (n sz wd kc ks : Nat), Ls < i + 6 * m + 6 → i ≤ 3072 → v_I I F B n sz wd → kc + 2 * m ≤ 914936 → ks + 15 * m ≤ 6357439 → a_J X 18 (w_L i) [] (a_mk I F B) kc ks := by
  intro m
  induction m with
  | zero =>
    intro i I F B n sz wd kc ks hm hi hv hc hs
    have hx : Int32.ofNat Ls - 6 < nI i := (w_cmp hL hi).mpr (by omega)
    exact a_wp1 hS a_ivh (inv := a_iv X [408]) 20 18 _ rfl ⟨fun _ => ⟨⟨by omega, by omega⟩, rfl⟩, fun w => absurd hx w⟩
  | succ m ih =>
    intro i I F B n sz wd kc ks hm hi hv hc hs
    by_cases hx : Ls < i + 6
    · have hx : Int32.ofNat Ls - 6 < nI i := (w_cmp hL hi).mpr hx
      exact a_wp1 hS a_ivh (inv := a_iv X [408]) 20 18 _ rfl ⟨fun _ => ⟨⟨by omega, by omega⟩, rfl⟩, fun w => absurd hx w⟩
    have hx2 : ¬ Int32.ofNat Ls - 6 < nI i := fun w => hx ((w_cmp hL hi).mp w)
    obtain ⟨hv1, hw1⟩ := v_junk hv
    refine a_junk (I' := v_j I) (fun h k hh => if_neg hh) ?_
    generalize v_j I = I1 at hv1 hw1
    have H : w_H X i kc ks := by
      intro I' F' B' n' sz' wd' kc' ks' hv' hc' hs'
      have h18 := ih (i + 6) I' F' B' n' sz' wd' kc' ks' (by omega) (by omega) hv' (by omega) (by omega)
      have e6 : nI (i + 6) = nI i + 6 := (nI_add i 6).symm
      unfold w_L at h18
      rw [e6] at h18
      exact a_wp1 hS a_ivh (inv := a_iv X [18]) 20 408 _ rfl h18
    have hc2 : kc + 2 ≤ 914936 := by omega
    have hs2 : ks + 15 ≤ 6357439 := by omega
    have g : ∀ k, k < 6 → vp_in (nI (i + k)) Ls := fun k hk => vp_in_nI (by omega) (by omega)
    have g0 : vp_in (nI i) Ls := g 0 (by decide)
    have g1 : vp_in (nI i + 1) Ls := by rw [show nI i + 1 = nI (i + 1) from nI_add i 1]; exact g 1 (by decide)
    have g2 : vp_in (nI i + 2) Ls := by rw [show nI i + 2 = nI (i + 2) from nI_add i 2]; exact g 2 (by decide)
    have g3 : vp_in (nI i + 3) Ls := by rw [show nI i + 3 = nI (i + 3) from nI_add i 3]; exact g 3 (by decide)
    have g4 : vp_in (nI i + 4) Ls := by rw [show nI i + 4 = nI (i + 4) from nI_add i 4]; exact g 4 (by decide)
    have g5 : vp_in (nI i + 5) Ls := by rw [show nI i + 5 = nI (i + 5) from nI_add i 5]; exact g 5 (by decide)
    exact a_wp1 hS a_ivh (inv := a_iv X [88, 131, 184, 217, 260, 323, 346, 359, 372, 385, 408]) 40 18 _ rfl ⟨fun w => absurd w hx2, fun _ => ⟨g0, fun _ => w_dye hS hc2 hs2 hv1 H g1 g2 g3, fun _ => ⟨fun _ => w_pattern hS hc2 hs2 hv1 H g1 g2 g3 g4, fun _ => ⟨fun _ => w_name hS hc2 hs2 hv1 H g1 g2, fun _ => ⟨fun _ => w_ask hS hc2 hs2 hv1 hw1 H g1 g2 g3, fun _ => ⟨fun _ => w_weave hS hc2 hs2 hv1 hw1 H g1 g2 g3 g4 g5, fun _ => ⟨fun _ => w_cloth hS hc2 hs2 hv1 H g1, fun _ => ⟨fun _ => w_changes hS hc2 hs2 hv1 H, fun _ => ⟨fun _ => w_most hS hc2 hs2 hv1 H, fun _ => ⟨fun _ => w_why hS hc2 hs2 hv1 H, fun _ => ⟨fun _ => w_count hS hc2 hs2 hv1 H g1, fun _ => H _ _ _ _ _ _ _ _ hv1 (by omega) (by omega)⟩⟩⟩⟩⟩⟩⟩⟩⟩⟩⟩
/-- the new objects stand as the tie asks -/
theorem v_start : v_I (i_L2 6) i_F2 i_B2 0 0 0 := by
  refine ⟨⟨⟨by decide, fun p hp => absurd hp (Nat.not_lt_zero _), fun k hk => ?_⟩, rfl, fun p hp => absurd hp (Nat.not_lt_zero _), fun p hp => absurd hp (Nat.not_lt_zero _), fun p hp => absurd hp (Nat.not_lt_zero _), fun p hp => absurd hp (Nat.not_lt_zero _), fun k hk => ?_, fun d hd i hi => ?_, rfl, rfl, rfl, rfl, rfl⟩, rfl, fun p hp => absurd hp (Nat.not_lt_zero _), fun q hq => ?_, ⟨rfl, rfl, rfl⟩, ⟨rfl, rfl, by decide⟩, ⟨rfl, rfl, by decide⟩, fun h => h, ?_, fun p h1 h2 => ?_⟩
  · rcases (show k = 0 ∨ k = 1 ∨ k = 2 ∨ k = 3 ∨ k = 4 ∨ k = 5 by omega) with rfl | rfl | rfl | rfl | rfl | rfl
    · exact Or.inr (Or.inl rfl)
    · exact Or.inr (Or.inr (Or.inl rfl))
    · exact Or.inl rfl
    · exact Or.inl rfl
    · exact Or.inl rfl
    · exact Or.inl rfl
  · rcases (show k = 0 ∨ k = 1 ∨ k = 2 ∨ k = 3 ∨ k = 4 ∨ k = 5 by omega) with rfl | rfl | rfl | rfl | rfl | rfl <;> rfl
  · have e1 : i_L2 6 (6 + d) i = nI i := by
      unfold i_L2 i_L1 i_I i_D
      rw [if_neg (by omega), if_neg (by omega), if_neg (by omega), if_neg (by omega), if_pos (by omega)]
    have e2 : i_L2 6 24 (8 * d + i) = nI ((8 * d + i) % 8) := by
      unfold i_L2 i_L1
      rw [if_neg (by omega), if_pos (by omega)]
    rw [e1, e2, show (8 * d + i) % 8 = i by omega]
  · have e1 : i_L2 6 (66 + q) 6 = 0 := by
      unfold i_L2 i_L1 i_I i_D
      rw [if_neg (by omega), if_neg (by omega), if_neg (by omega), if_neg (by omega), if_neg (by omega), if_neg (by omega)]
    have e2 : i_L2 6 23 q = 0 := by
      unfold i_L2 i_L1 i_I i_D
      rw [if_neg (by omega), if_neg (by omega), if_neg (by omega), if_neg (by omega), if_neg (by omega), if_neg (by omega)]
    rw [e1, e2]
  · funext j
    unfold i_L2 i_L1 i_I i_D
    rw [if_neg (by omega), if_neg (by omega), if_neg (by omega), if_neg (by omega), if_neg (by omega), if_neg (by omega), if_neg (by omega), if_neg (by omega), if_neg (by omega), if_neg (by omega), if_neg (by omega), if_neg (by omega)]
  · unfold i_B2
    rw [decide_eq_false (show ¬ 66 + p < 10 by omega), decide_eq_false (show ¬ 66 + p = 64 by omega), decide_eq_false (show ¬ 66 + p = 65 by omega), decide_eq_false (show ¬ 128 + p < 10 by omega), decide_eq_false (show ¬ 128 + p = 64 by omega), decide_eq_false (show ¬ 128 + p = 65 by omega)]
    exact ⟨rfl, rfl⟩
set_option maxRecDepth 20000 in
set_option maxHeartbeats 4000000 in
theorem w_all (hS : ∀ x ∈ P_L_law Ls xs 914936 6357439, a_Sd X x.1 x.2) (hL : Ls ≤ 3072) : a_J X 0 [some (.inr (some 63)), none, none, none] [] i_e 0 0 := by
  have h18 := w_loop hS hL 512 0 (i_L2 6) i_F2 i_B2 0 0 0 28 1840 (by omega) (by omega) v_start (by omega) (by omega)
  refine a_wps hS (inv := a_iv X [18]) a_ivh 30 _ _ _ _ _ _ ?_
  exact ⟨0, rfl, rfl, ⟨by decide, by decide⟩, rfl, rfl, 16, rfl, rfl, ⟨by decide, by decide⟩, rfl, rfl, h18⟩
end WE

