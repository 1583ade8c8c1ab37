/-! ===== both sides tied together ===== -/
theorem arrV_c {cA : ClassId} {n : Nat} {f g : Nat → Value} (h : ∀ j, j < n → f j = g j) : arrV cA n f = arrV cA n g := by
  unfold arrV
  have e : (Array.ofFn (n := n) fun j => f j.val) = (Array.ofFn (n := n) fun j => g j.val) := congrArg Array.ofFn (funext fun j => h j.val j.isLt)
  rw [e]
/-- what lies beyond an array's end can be told otherwise -/
theorem a_junk {X : a_X} {pc kc ks : Nat} {L : aL} {st : List aV} {I I' : Nat → Nat → Int32} {F : Nat → Nat → Option Nat} {B : Nat → Bool} (hI : ∀ h k, ¬ (h = 23 ∧ 60 ≤ k) → I' h k = I h k) (J : a_J X pc L st (a_mk I' F B) kc ks) : a_J X pc L st (a_mk I F B) kc ks := by
  obtain ⟨p, l, e, R, s, m, args, below, meth, c, Q, D, G, N0, nL, q0, σ0⟩ := X
  intro q H locs ls hR hl hL hst hS hq
  refine J q H locs ls ⟨fun h hh => ⟨(hR.1 h hh).1, ?_⟩, hR.2.1, hR.2.2⟩ hl hL hst hS hq
  have hat := (hR.1 h hh).2
  by_cases e : h = 23
  · subst e
    rw [a_E_4 rfl] at hat ⊢
    have e2 : vp_cell G.1 ((kd 23).2, .inl ((a_mk I' F B).1 23)) = vp_cell G.1 ((kd 23).2, .inl ((a_mk I F B).1 23)) := by
      rw [vp_cell_i, vp_cell_i]
      refine arrV_c (fun j hj => ?_)
      have hj : j < 60 := hj
      show Value.int (I' 23 j) = Value.int (I 23 j)
      rw [hI 23 j (by omega)]
    show H[q 23]? = some (vp_cell G.1 ((kd 23).2, .inl ((a_mk I' F B).1 23)))
    rw [e2]
    exact hat
  · rw [a_E_q (q := q) (σ := a_mk I F B) (σ' := a_mk I' F B) (funext fun k => hI h k (fun w => e w.1)) rfl (fun _ _ _ => rfl)]
    exact hat
def v_I (I : Nat → Nat → Int32) (F : Nat → Nat → Option Nat) (B : Nat → Bool) (n sz wd : Nat) : Prop :=
  l_env I F B n ∧ I 16 0 = nI n ∧ l_W I n (0, 0, 0, fun q => I (66 + q) 6) ∧ (∀ q, q < 60 → I (66 + q) 6 = I 23 q) ∧ (I 0 5 = I 16 10 ∧ I 0 9 = I 16 11 ∧ I 0 7 = I 16 19) ∧ (I 4 1 = nI sz ∧ I 16 23 = nI sz ∧ sz ≤ 144) ∧ (I 4 2 = nI wd ∧ I 16 24 = nI wd ∧ wd ≤ 12) ∧ (0 < sz → 0 < wd) ∧ I 5 = I 38 ∧ (∀ p, n ≤ p → p ≤ 60 → B (66 + p) = false ∧ B (128 + p) = false)
theorem a_wn {I : Nat → Nat → Int32} {h h' k : Nat} {x : Int32} (hn : h' ≠ h) : a_w I h k x h' = I h' := by
  funext j
  exact if_neg (fun w => hn w.1)
/-- when only moving parts change -/
theorem v_mv {I I' : Nat → Nat → Int32} {F : Nat → Nat → Option Nat} {B : Nat → Bool} {n sz wd sz' wd' : Nat} {s : tS} (hv : v_I I F B n sz wd) (h04 : I' 0 4 = I 0 4) (hdy : ∀ d, d < 4 → I' (6 + d) = I (6 + d)) (h17 : I' 17 = I 17) (h18 : I' 18 = I 18) (h19 : I' 19 = I 19) (h20 : I' 20 = I 20) (h21 : I' 21 = I 21) (h22 : I' 22 = I 22) (h24 : I' 24 = I 24) (h25 : I' 25 = I 25)
    (hpt : ∀ h k, 64 ≤ h → h < 126 → k ≠ 6 → I' h k = I h k) (hro : ∀ h, 128 ≤ h → I' h = I h) (h160 : I' 16 0 = I 16 0) (hs1 : ∀ q, q < 60 → I' (66 + q) 6 = s.2.2.2 q) (hs2 : ∀ q, q < 60 → I' 23 q = s.2.2.2 q) (hW : l_W I n s) (h5 : I' 0 5 = I' 16 10 ∧ I' 0 9 = I' 16 11 ∧ I' 0 7 = I' 16 19)
    (hsz : I' 4 1 = nI sz' ∧ I' 16 23 = nI sz' ∧ sz' ≤ 144) (hwd : I' 4 2 = nI wd' ∧ I' 16 24 = nI wd' ∧ wd' ≤ 12) (h0 : 0 < sz' → 0 < wd') (hC : I' 5 = I' 38) : v_I I' F B n sz' wd' := by
  obtain ⟨v1, v2, v3, v4, v5, v6, v7, v8, v9, v10⟩ := hv
  have hle := v1.1.1
  refine ⟨env_c h04 hdy h17 h18 h19 h20 h21 h22 h24 h25 hpt hro v1, h160.trans v2, fun p hp h10 => ?_, fun q hq => (hs1 q hq).trans (hs2 q hq).symm, h5, hsz, hwd, h0, hC, v10⟩
  rw [h17] at h10
  obtain ⟨w, b, e1, e2, e3, e4⟩ := hW p hp h10
  exact ⟨w, b, (hs1 p (by omega)).trans e1, by rw [h19]; exact e2, e3, e4⟩
theorem tw_wv {M : Nat → Nat → Int32} {n : Nat} {T : Int32 → Int32 → tS → tR} (hT : ∀ x y s, l_W M n s → l_W M n (T x y s).2.2) (x y : Int32) (w : Nat) : ∀ m k s C, l_W M n s → l_W M n (t_wv T x y w m k s C).2.2.1 := by
  intro m
  induction m with
  | zero => intro k s C hs; exact hs
  | succ m ih =>
    intro k s C hs
    have h1 := hT (x + nI (k % w)) (y + nI (k / w)) (0, s.2) hs
    show l_W M n (if (T (x + nI (k % w)) (y + nI (k / w)) (0, s.2)).1 = 0 then _ else _ : tW).2.2.1
    by_cases e : (T (x + nI (k % w)) (y + nI (k / w)) (0, s.2)).1 = 0
    · rw [if_pos e]; exact ih _ _ _ h1
    · rw [if_neg e]; exact h1
theorem wv_le {T : Int32 → Int32 → tS → tR} (x y : Int32) (w : Nat) : ∀ m k s C, (t_wv T x y w m k s C).2.1 ≤ k + m := by
  intro m
  induction m with
  | zero => intro k s C; exact Nat.le_refl _
  | succ m ih =>
    intro k s C
    show (if (T (x + nI (k % w)) (y + nI (k / w)) (0, s.2)).1 = 0 then _ else _ : tW).2.1 ≤ _
    by_cases e : (T (x + nI (k % w)) (y + nI (k / w)) (0, s.2)).1 = 0
    · rw [if_pos e]
      have := ih (k + 1) (T (x + nI (k % w)) (y + nI (k / w)) (0, s.2)).2.2 (upd C k (T (x + nI (k % w)) (y + nI (k / w)) (0, s.2)).2.1)
      omega
    · rw [if_neg e]
      show k ≤ _
      omega
/-- both sides' reasons alone -/
theorem v_why {I : Nat → Nat → Int32} {F : Nat → Nat → Option Nat} {B : Nat → Bool} {n sz wd : Nat} {v : Int32} (hv : v_I I F B n sz wd) : v_I (a_w (a_w I 0 5 v) 16 10 v) F B n sz wd := by
  have hv' := hv
  obtain ⟨v1, v2, v3, v4, v5, v6, v7, v8, v9, v10⟩ := hv
  have e : ∀ h, h ≠ 0 → h ≠ 16 → a_w (a_w I 0 5 v) 16 10 v h = I h := fun h h0 h16 => by rw [a_wn h16, a_wn h0]
  exact v_mv (s := (0, 0, 0, I 23)) hv' rfl (fun d hd => e _ (by omega) (by omega)) (e _ (by decide) (by decide)) (e _ (by decide) (by decide)) (e _ (by decide) (by decide)) (e _ (by decide) (by decide)) (e _ (by decide) (by decide)) (e _ (by decide) (by decide)) (e _ (by decide) (by decide)) (e _ (by decide) (by decide))
    (fun h k h1 h2 h3 => by rw [e h (by omega) (by omega)]) (fun h h1 => e h (by omega) (by omega)) rfl (fun q hq => by rw [e _ (by omega) (by omega)]; exact v4 q hq) (fun q hq => by rw [e 23 (by decide) (by decide)]) (fun p hp h10 => by
      obtain ⟨w, b, e1, e2⟩ := v3 p hp h10
      exact ⟨w, b, (v4 p (by have := v1.1.1; omega)).symm.trans e1, e2⟩) ⟨rfl, v5.2⟩ v6 v7 v8 (by rw [e 5 (by decide) (by decide), e 38 (by decide) (by decide)]; exact v9)
theorem v_dye {I : Nat → Nat → Int32} {F : Nat → Nat → Option Nat} {B : Nat → Bool} {n sz wd d0 i0 : Nat} {x : Int32} (hd0 : d0 < 4) (hi0 : i0 < 8) (hv : v_I I F B n sz wd) : v_I (a_w (a_w I (6 + d0) i0 x) 24 (8 * d0 + i0) x) F B n sz wd := by
  obtain ⟨v1, v2, v3, v4, v5, v6, v7, v8, v9, v10⟩ := hv
  have e : ∀ h, (h < 6 ∨ 9 < h) → h ≠ 24 → a_w (a_w I (6 + d0) i0 x) 24 (8 * d0 + i0) x h = I h := fun h h0 h24 => by rw [a_wn h24, a_wn (by omega)]
  obtain ⟨hD, d1, d2, d3, d5, d6, d7, d8, b64, b65, m64, m65, f65⟩ := v1
  have hle := hD.1
  refine ⟨⟨m_D_c (e _ (by decide) (by decide)) (e _ (by decide) (by decide)) (e _ (by decide) (by decide)) (e _ (by decide) (by decide)) (e _ (by decide) (by decide)) (e _ (by decide) (by decide)) hD, by rw [e 0 (by decide) (by decide)]; exact d1, d2, fun p hp => ?_, fun p hp => ?_, fun p hp => ?_, fun k hk => ?_, fun d hd i hi => ?_, b64, b65, ?_, ?_, ?_⟩, ?_, fun p hp => ?_, fun q hq => ?_, ?_, ?_, ?_, v8, ?_, v10⟩
  · rw [e 17 (by decide) (by decide), e 18 (by decide) (by decide), e 19 (by decide) (by decide), e 20 (by decide) (by decide), e (66 + p) (by omega) (by omega)]
    exact d3 p hp
  · rw [e 17 (by decide) (by decide), e 21 (by decide) (by decide), e (128 + p) (by omega) (by omega)]
    exact d5 p hp
  · rw [e 17 (by decide) (by decide), e 22 (by decide) (by decide)]
    exact d6 p hp
  · rw [e 25 (by decide) (by decide)]
    exact d7 k hk
  · unfold a_w
    by_cases hh : d = d0 ∧ i = i0
    · obtain ⟨rfl, rfl⟩ := hh
      rw [if_neg (by omega), if_pos ⟨rfl, rfl⟩, if_pos ⟨rfl, rfl⟩]
    · rw [if_neg (by omega), if_neg (by omega), if_neg (by omega), if_neg (by omega)]
      exact d8 d hd i hi
  · rw [e 64 (by decide) (by decide)]; exact m64
  · rw [e 65 (by decide) (by decide)]; exact m65
  · rw [e 65 (by decide) (by decide)]; exact f65
  · rw [e 16 (by decide) (by decide)]; exact v2
  · show _ → ∃ w b : Nat, a_w (a_w I (6 + d0) i0 x) 24 (8 * d0 + i0) x (66 + p) 6 = nI w ∧ _
    rw [e 17 (by decide) (by decide), e 19 (by decide) (by decide), e (66 + p) (by omega) (by omega)]
    exact v3 p hp
  · rw [e 23 (by decide) (by decide), e (66 + q) (by omega) (by omega)]
    exact v4 q hq
  · rw [e 0 (by decide) (by decide), e 16 (by decide) (by decide)]; exact v5
  · rw [e 4 (by decide) (by decide), e 16 (by decide) (by decide)]; exact v6
  · rw [e 4 (by decide) (by decide), e 16 (by decide) (by decide)]; exact v7
  · rw [e 5 (by decide) (by decide), e 38 (by decide) (by decide)]; exact v9
theorem v_name {I : Nat → Nat → Int32} {F : Nat → Nat → Option Nat} {B : Nat → Bool} {n sz wd j : Nat} {p : Int32} (hj : j < 6) (hp : m_cd n p) (hv : v_I I F B n sz wd) : v_I (a_w I 25 j p) (u_2 F 2 j (l_ref p)) B n sz wd := by
  obtain ⟨v1, v2, v3, v4, v5, v6, v7, v8, v9, v10⟩ := hv
  have e : ∀ h, h ≠ 25 → a_w I 25 j p h = I h := fun h h0 => a_wn h0
  have eF : ∀ h k, h ≠ 2 → u_2 F 2 j (l_ref p) h k = F h k := fun h k h0 => if_neg (fun w => h0 w.1)
  obtain ⟨⟨hle, hok, hnm⟩, d1, d2, d3, d5, d6, d7, d8, b64, b65, m64, m65, f65⟩ := v1
  refine ⟨⟨⟨hle, fun q hq => ?_, fun k hk => ?_⟩, by rw [e 0 (by decide)]; exact d1, fun q hq => ?_, fun q hq => ?_, fun q hq => ?_, fun q hq => ?_, fun k hk => ?_, fun d hd i hi => ?_, b64, b65, ?_, ?_, ?_⟩, ?_, fun q hq => ?_, fun q hq => ?_, ?_, ?_, ?_, v8, ?_, v10⟩
  · have := hok q hq
    unfold m_ok at this ⊢
    rw [e 17 (by decide), e 18 (by decide), e 19 (by decide), e 20 (by decide), e 22 (by decide)]
    exact this
  · unfold a_w
    by_cases hk2 : k = j
    · rw [if_pos ⟨rfl, hk2⟩]; exact hp
    · rw [if_neg (fun w => hk2 w.2)]; exact hnm k hk
  · rw [eF _ _ (by decide)]; exact d2 q hq
  · rw [e 17 (by decide), e 18 (by decide), e 19 (by decide), e 20 (by decide), e (66 + q) (by omega)]
    exact d3 q hq
  · rw [e 17 (by decide), e 21 (by decide), e (128 + q) (by omega), eF _ _ (by omega)]
    exact d5 q hq
  · rw [e 17 (by decide), e 22 (by decide), eF _ _ (by omega)]
    exact d6 q hq
  · unfold a_w u_2
    by_cases hk2 : k = j
    · rw [if_pos ⟨rfl, hk2⟩, if_pos ⟨rfl, hk2⟩]
    · rw [if_neg (fun w => hk2 w.2), if_neg (fun w => hk2 w.2)]; exact d7 k hk
  · rw [e 24 (by decide), e (6 + d) (by omega)]
    exact d8 d hd i hi
  · rw [e 64 (by decide)]; exact m64
  · rw [e 65 (by decide)]; exact m65
  · rw [e 65 (by decide)]; exact f65
  · rw [e 16 (by decide)]; exact v2
  · show _ → ∃ w b : Nat, a_w I 25 j p (66 + q) 6 = nI w ∧ _
    rw [e 17 (by decide), e 19 (by decide), e (66 + q) (by omega)]
    exact v3 q hq
  · rw [e 23 (by decide), e (66 + q) (by omega)]
    exact v4 q hq
  · rw [e 0 (by decide), e 16 (by decide)]; exact v5
  · rw [e 4 (by decide), e 16 (by decide)]; exact v6
  · rw [e 4 (by decide), e 16 (by decide)]; exact v7
  · rw [e 5 (by decide), e 38 (by decide)]; exact v9
theorem l_ref_n (c : Int32) : (l_ref c = none) ↔ c = -1 := by
  unfold l_ref
  by_cases h1 : c = -1
  · rw [if_pos h1]; exact ⟨fun _ => h1, fun _ => rfl⟩
  · rw [if_neg h1]
    refine ⟨fun w => ?_, fun w => absurd w h1⟩
    by_cases h2 : c = -2
    · rw [if_pos h2] at w; cases w
    · rw [if_neg h2] at w
      by_cases h3 : c = -3
      · rw [if_pos h3] at w; cases w
      · rw [if_neg h3] at w; cases w

