/-! ===== the loop tells what the pattern tells ===== -/
theorem nI_neg {p : Nat} (hp : p < 2 ^ 31) {c : Int32} (hc : c < 0) : ¬ nI p = c := fun e => nI_pos hp (by rw [e]; exact hc)
theorem z_1 : ¬ (1 : Int32) = 0 := by decide
theorem z_2 : ¬ (2 : Int32) = 0 := by decide
theorem z_3 : ¬ (3 : Int32) = 0 := by decide
theorem z_4 : ¬ (4 : Int32) = 0 := by decide
section WQ
variable {X : a_X} {K : aK} {F : Nat → Nat → Option Nat} {B : Nat → Bool} {M : Nat → Nat → Int32} {k g sf wn : Int32} {f : Int32} {ak : Nat → Int32} {A : w5} {t p n : Nat}
theorem w_al (hp : p < 60) (x y : Int32) : m_alone (m_q M k f g sf wn (nI (t + 1)) ak A) (nI p) x y =
    (if M 17 p = 0 then m_q M k f (M 18 p) sf wn (nI t) ak A
    else if M 17 p = 1 then (if M 20 p = 0 then m_q M k 1 g sf wn (nI (t + 1)) ak A else m_q M k f (if a_rem (x / M 20 p) 2 = 0 then M 18 p else M 19 p) sf wn (nI t) ak A)
    else if M 19 p = 0 then m_q M k 1 g sf wn (nI (t + 1)) ak A
    else m_q M k f (a_rem (x + M 18 p * y) (M 19 p) + M 20 p) sf wn (nI t) ak A) := by
  unfold m_alone
  rw [if_neg (nI_neg (by omega) (by decide)), if_neg (nI_neg (by omega) (by decide)), w_pc hp]
  rw [show a_w (m_q M k f g sf wn (nI (t + 1)) ak A) 16 20 1 = m_q M k 1 g sf wn (nI (t + 1)) ak A from mp_20]
  rw [w_tells, w_tells, w_tells, i_quot]
  have e : (if M 19 p = -1 then 0 else a_rem (x + M 18 p * y) (M 19 p)) = a_rem (x + M 18 p * y) (M 19 p) := by
    by_cases h : M 19 p = -1
    · rw [if_pos h, h, i_remm1]
    · rw [if_neg h]
  rw [← e]
  rfl
/-- a frame's start -/
theorem w_st (hS : ∀ x ∈ P_X3_work K 0 0, a_Sd X x.1 x.2) (ht : t < 103) (hp : p < 60) {s : Nat} (hso : M 17 p = nI s) (h3 : 3 ≤ s) (h13 : s ≤ 13) (h9 : s = 9 → m_vc 6 (M 18 p)) {x y : Int32} (hJ : w_Lh X F B (m_begins (m_q M k 0 g sf wn (nI (t + 1)) ak (w_sg (w_put A t (nI p) x y 0) t 1)) (nI p) x y)) : w_Lh X F B (m_q M k 0 g sf wn (nI (t + 1)) ak (w_put A t (nI p) x y 0)) := by
  have e := (w_fpq (M := M) (k := k) (f := 0) (g := g) (sf := sf) (wn := wn) (ak := ak) (A := w_put A t (nI p) x y 0) (t := t) (by omega)).trans u_s
  have ecl := w_clamp (t := t) (by omega)
  have ei : (m_q M k 0 g sf wn (nI (t + 1)) ak (w_put A t (nI p) x y 0) 16 13 - 1).toNatClampNeg = t := ecl
  refine w_begins hS (w_npos (by omega)) (w_vin (by omega)) rfl (by rw [e]; exact nI_pos (by omega)) (by rw [e]; exact vp_in_nI hp (by decide)) ?_ ?_ (vp_in_nI (by omega) (by decide)) ?_ ?_
  · rw [e, w_pc hp]
    show 3 ≤ M 17 p
    rw [hso]
    exact nI_le (a := 3) h3 (by omega)
  · rw [ei]; exact u_s
  · rw [e, w_pc hp]
    intro h9'
    have h9' : M 17 p = 9 := h9'
    obtain ⟨j, hj, he⟩ := h9 ((nI_eq (by omega) (by decide)).mp (hso.symm.trans h9'))
    show vp_in (M 18 p) 6
    rw [he]
    exact vp_in_nI hj (by decide)
  · rw [e, ei]
    rw [show m_q M k 0 g sf wn (nI (t + 1)) ak (w_put A t (nI p) x y 0) 31 t = x from u_s, show m_q M k 0 g sf wn (nI (t + 1)) ak (w_put A t (nI p) x y 0) 32 t = y from u_s]
    rw [show a_w (m_q M k 0 g sf wn (nI (t + 1)) ak (w_put A t (nI p) x y 0)) 33 t 1 = m_q M k 0 g sf wn (nI (t + 1)) ak (w_sg (w_put A t (nI p) x y 0) t 1) from mp_a33]
    exact hJ
/-- a frame whose last asked one has told: it tells the same -/
theorem w_ret1 (hS : ∀ x ∈ P_X3_work K 0 0, a_Sd X x.1 x.2) (ht : t < 103) (hp : p < 60) (hA : A.1 t = nI p) {s : Nat} (hso : M 17 p = nI s) (h3 : 3 ≤ s) (h13 : s ≤ 13) {sv : Int32} (hsg : A.2.2.2.1 t = sv) (h0 : ¬ sv = 0) (r : tR) (hg : r.1 = 0 → g = r.2.1)
    (n5 : ¬ (M 17 p = 5 ∧ sv + 1 - 2 = 0 ∧ g = 0)) (n6 : ¬ (M 17 p = 6 ∧ sv + 1 - 2 = 0)) (n7 : ¬ M 17 p = 7) (n8 : ¬ M 17 p = 8) (n9 : ¬ M 17 p = 9) (n11 : ¬ M 17 p = 11)
    (hf : ¬ r.1 = 0 → w_Lh X F B (m_r M r.2.2 r.1 g (nI (t + 1)) A)) (H : ∀ A', w_ag t A A' → r.1 = 0 → w_Lh X F B (m_r M r.2.2 r.1 r.2.1 (nI t) A')) : w_Lh X F B (m_r M r.2.2 r.1 g (nI (t + 1)) A) := by
  by_cases hz : r.1 = 0
  · have H := H (w_sg A t (sv + 1)) w_ag_sg hz
    rw [← hg hz, hz] at H
    rw [hz]
    refine w_on hS ht hp hA hso h3 h13 (v := 0) hsg h0 (fun h => absurd (by rw [hso, h]; rfl) n7) ?_
    rw [w_go hp (by omega)]
    rw [if_neg (fun w => n5 ⟨w.1, by have := w.2.1; rw [show (w_sg A t (sv + 1)).2.2.2.1 t = sv + 1 from u_s] at this; exact this, w.2.2⟩), if_neg (fun w => n6 ⟨w.1, by have := w.2; rw [show (w_sg A t (sv + 1)).2.2.2.1 t = sv + 1 from u_s] at this; exact this⟩), if_neg n7, if_neg n8, if_neg n9, if_neg (fun w => n11 w.1), if_neg n11, w_tells]
    exact H
  · exact hf hz
set_option maxHeartbeats 4000000 in
theorem w_RL (hS : ∀ x ∈ P_X3_work K 0 0, a_Sd X x.1 x.2) (hM : m_D M n) : ∀ (D : Nat) (c x y : Int32) (s : tS) (k t : Nat) (g : Int32) (A : w5), m_cd n c → s.1 = nI k → t ≤ k → k ≤ 100 → 101 ≤ k + D →
    (∀ (g' : Int32) (A' : w5), ((tt_T M D c x y s).1 = 0 → g' = (tt_T M D c x y s).2.1) → w_ag t A A' → w_Lh X F B (m_r M (tt_T M D c x y s).2.2 (tt_T M D c x y s).1 g' (nI t) A')) → w_Lh X F B (m_push (m_r M s 0 g (nI t) A) c x y) := by
  intro D
  induction D with
  | zero => intro c x y s k t g A _ _ _ h1 h2; omega
  | succ D ih =>
    intro c x y s k t g A hc hs htk hk hD H
    obtain ⟨s1, sf, wn, ak⟩ := s
    have hs : s1 = nI k := hs
    subst hs
    by_cases hk1 : k = 100
    · subst hk1
      have hT : tt_T M (D + 1) c x y (nI 100, sf, wn, ak) = (4, 0, nI 100, sf, wn, ak) := by
        show (if (100 : Int32) ≤ nI 100 then ((4, 0, nI 100, sf, wn, ak) : tR) else t_b M (tt_T M D) c x y (nI 100 + 1, sf, wn, ak)) = _
        rw [if_pos (by decide)]
      rw [hT] at H
      have e : m_push (m_r M (nI 100, sf, wn, ak) 0 g (nI t) A) c x y = m_q M (nI 100) 4 g sf wn (nI t) ak A := by
        unfold m_push
        rw [if_pos (show m_r M (nI 100, sf, wn, ak) 0 g (nI t) A 16 19 = 100 from rfl)]
        exact mp_20
      rw [e]
      exact H g A (fun w => absurd w z_4) w_ag_rf
    have hk2 : k < 100 := by omega
    have hT : tt_T M (D + 1) c x y (nI k, sf, wn, ak) = t_b M (tt_T M D) c x y (nI (k + 1), sf, wn, ak) := by
      show (if 100 ≤ nI k then ((4, 0, nI k, sf, wn, ak) : tR) else t_b M (tt_T M D) c x y (nI k + 1, sf, wn, ak)) = _
      rw [if_neg (fun w => by have := (nI_leI (a := 100) (by decide) (by omega)).mp w; omega), nI_1]
    rw [hT] at H
    clear hT
    have htk3 : t < 103 := by omega
    rcases hc with rfl | rfl | rfl | ⟨p, hpn, rfl⟩
    · have hb : t_b M (tt_T M D) (-1) x y (nI (k + 1), sf, wn, ak) = (3, 0, nI (k + 1), sf, wn, ak) := if_pos rfl
      rw [hb] at H
      have e : m_push (m_r M (nI k, sf, wn, ak) 0 g (nI t) A) (-1) x y = m_q M (nI (k + 1)) 3 g sf wn (nI t) ak A := by
        unfold m_push
        rw [if_neg (show ¬ m_r M (nI k, sf, wn, ak) 0 g (nI t) A 16 19 = 100 from fun w => by have := (nI_eq (b := 100) (by omega) (by decide)).mp w; omega), if_pos rfl]
        show a_w (a_w (m_q M (nI k) 0 g sf wn (nI t) ak A) 16 19 (nI k + 1)) 16 20 3 = _
        rw [nI_1, mp_19, mp_20]
      rw [e]
      exact H g A (fun w => absurd w z_3) w_ag_rf
    · have hb : t_b M (tt_T M D) (-2) x y (nI (k + 1), sf, wn, ak) = (0, a_rem (x + y) 2, nI (k + 1), sf, wn, ak) := by
        unfold t_b
        rw [if_neg (by decide), if_pos rfl]
      rw [hb] at H
      rw [w_push (by omega) hk2 _ _ _ (by decide)]
      have e := (w_fpq (M := M) (k := nI (k + 1)) (f := 0) (g := g) (sf := sf) (wn := wn) (ak := ak) (A := w_put A t (-2) x y 0) (t := t) (by omega)).trans u_s
      have ei : (m_q M (nI (k + 1)) 0 g sf wn (nI (t + 1)) ak (w_put A t (-2) x y 0) 16 13 - 1).toNatClampNeg = t := w_clamp (by omega)
      refine w_alone1 hS (w_npos (by omega)) (w_vin (by omega)) rfl (Or.inl e) ?_
      rw [e, ei, show m_q M (nI (k + 1)) 0 g sf wn (nI (t + 1)) ak (w_put A t (-2) x y 0) 31 t = x from u_s, show m_q M (nI (k + 1)) 0 g sf wn (nI (t + 1)) ak (w_put A t (-2) x y 0) 32 t = y from u_s]
      rw [show m_alone (m_q M (nI (k + 1)) 0 g sf wn (nI (t + 1)) ak (w_put A t (-2) x y 0)) (-2) x y = _ from if_pos rfl, w_tells]
      exact H _ _ (fun _ => rfl) w_ag_put
    · rw [w_push (by omega) hk2 _ _ _ (by decide)]
      have e := (w_fpq (M := M) (k := nI (k + 1)) (f := 0) (g := g) (sf := sf) (wn := wn) (ak := ak) (A := w_put A t (-3) x y 0) (t := t) (by omega)).trans u_s
      have ei : (m_q M (nI (k + 1)) 0 g sf wn (nI (t + 1)) ak (w_put A t (-3) x y 0) 16 13 - 1).toNatClampNeg = t := w_clamp (by omega)
      refine w_alone1 hS (w_npos (by omega)) (w_vin (by omega)) rfl (Or.inr e) ?_
      rw [e, ei, show m_q M (nI (k + 1)) 0 g sf wn (nI (t + 1)) ak (w_put A t (-3) x y 0) 31 t = x from u_s, show m_q M (nI (k + 1)) 0 g sf wn (nI (t + 1)) ak (w_put A t (-3) x y 0) 32 t = y from u_s]
      rw [show m_alone (m_q M (nI (k + 1)) 0 g sf wn (nI (t + 1)) ak (w_put A t (-3) x y 0)) (-3) x y = _ by unfold m_alone; rw [if_neg (by decide), if_pos rfl], w_tellsOf]
      by_cases hx : m_in x 0 7 = 0
      · have hb : t_b M (tt_T M D) (-3) x y (nI (k + 1), sf, wn, ak) = (2, 0, nI (k + 1), sf, wn, ak) := by
          unfold t_b
          rw [if_neg (by decide), if_neg (by decide), if_pos rfl, if_pos hx]
        rw [hb] at H
        rw [if_pos hx]
        refine w_failn hS (by omega) (by decide) (by show upd A.1 t (-3) t < 0; rw [u_s]; decide) ?_
        exact H _ _ (fun w => absurd w z_2) w_ag_put
      · have hb : t_b M (tt_T M D) (-3) x y (nI (k + 1), sf, wn, ak) = (0, M 24 x.toNatClampNeg + y, nI (k + 1), sf, wn, ak) := by
          unfold t_b
          rw [if_neg (by decide), if_neg (by decide), if_pos rfl, if_neg hx]
        rw [hb] at H
        rw [if_neg hx]
        have ed : m_dyeAt (m_q M (nI (k + 1)) 0 g sf wn (nI (t + 1)) ak (w_put A t (-3) x y 0)) 0 x = M 24 x.toNatClampNeg := by
          unfold m_dyeAt
          rw [if_neg hx, Int32.mul_zero, Int32.zero_add]
          rfl
        rw [ed]
        exact H _ _ (fun _ => rfl) w_ag_put
    · have hp : p < 60 := Nat.lt_of_lt_of_le hpn hM.1
      have hb : t_b M (tt_T M D) (nI p) x y (nI (k + 1), sf, wn, ak) = t_s M (tt_T M D) p x y (nI (k + 1), sf, wn, ak) := by
        unfold t_b
        rw [if_neg (nI_neg (by omega) (by decide)), if_neg (nI_neg (by omega) (by decide)), if_neg (nI_neg (by omega) (by decide)), w_pc hp]
      rw [hb] at H
      clear hb
      rw [w_push (by omega) hk2 _ _ _ (nI_neg (by omega) (by decide))]
      obtain ⟨s, hs13, hso, hva, hvb, hvc, hvd, hvn, hvo⟩ := hM.2.1 p hpn
      by_cases hs3 : s < 3
      · -- plain, stripes, twill
        have e := (w_fpq (M := M) (k := nI (k + 1)) (f := 0) (g := g) (sf := sf) (wn := wn) (ak := ak) (A := w_put A t (nI p) x y 0) (t := t) (by omega)).trans u_s
        have ei : (m_q M (nI (k + 1)) 0 g sf wn (nI (t + 1)) ak (w_put A t (nI p) x y 0) 16 13 - 1).toNatClampNeg = t := w_clamp (by omega)
        refine w_alone2 hS (w_npos (by omega)) (w_vin (by omega)) rfl (by rw [e]; exact nI_pos (by omega)) (by rw [e]; exact vp_in_nI hp (by decide)) ?_ ?_
        · rw [e, w_pc hp]
          show ¬ 3 ≤ M 17 p
          rw [hso]
          exact fun w => by have := (nI_leI (a := 3) (by decide) (by omega)).mp w; omega
        rw [e, ei, show m_q M (nI (k + 1)) 0 g sf wn (nI (t + 1)) ak (w_put A t (nI p) x y 0) 31 t = x from u_s, show m_q M (nI (k + 1)) 0 g sf wn (nI (t + 1)) ak (w_put A t (nI p) x y 0) 32 t = y from u_s, w_al hp]
        rcases (show s = 0 ∨ s = 1 ∨ s = 2 by omega) with rfl | rfl | rfl
        · have h0 : M 17 p = 0 := hso
          rw [if_pos h0]
          rw [show t_s M (tt_T M D) p x y (nI (k + 1), sf, wn, ak) = _ from if_pos h0] at H
          exact H _ _ (fun _ => rfl) w_ag_put
        · have h1 : M 17 p = 1 := hso
          have n0 : ¬ M 17 p = 0 := by rw [h1]; decide
          rw [if_neg n0, if_pos h1]
          by_cases hz : M 20 p = 0
          · rw [if_pos hz]
            rw [show t_s M (tt_T M D) p x y (nI (k + 1), sf, wn, ak) = _ by unfold t_s; rw [if_neg n0, if_pos h1, if_pos hz]] at H
            exact w_fail hS (by omega) (by decide) hp u_s (by rw [h1]; decide) (H _ _ (fun w => absurd w z_1) w_ag_put)
          · rw [if_neg hz]
            rw [show t_s M (tt_T M D) p x y (nI (k + 1), sf, wn, ak) = _ by unfold t_s; rw [if_neg n0, if_pos h1, if_neg hz]] at H
            exact H _ _ (fun _ => rfl) w_ag_put
        · have h2 : M 17 p = 2 := hso
          have n0 : ¬ M 17 p = 0 := by rw [h2]; decide
          have n1 : ¬ M 17 p = 1 := by rw [h2]; decide
          rw [if_neg n0, if_neg n1]
          by_cases hz : M 19 p = 0
          · rw [if_pos hz]
            rw [show t_s M (tt_T M D) p x y (nI (k + 1), sf, wn, ak) = _ by unfold t_s; rw [if_neg n0, if_neg n1, if_pos h2, if_pos hz]] at H
            exact w_fail hS (by omega) (by decide) hp u_s (by rw [h2]; decide) (H _ _ (fun w => absurd w z_1) w_ag_put)
          · rw [if_neg hz]
            rw [show t_s M (tt_T M D) p x y (nI (k + 1), sf, wn, ak) = _ by unfold t_s; rw [if_neg n0, if_neg n1, if_pos h2, if_neg hz]] at H
            exact H _ _ (fun _ => rfl) w_ag_put
      have hs3 : 3 ≤ s := by omega
      refine w_st hS htk3 hp hso hs3 hs13 (fun h => hvn (Or.inl h)) ?_
      rw [w_be hp]
      have ne : ∀ j : Nat, j ≤ 13 → s ≠ j → ¬ M 17 p = nI j := fun j hj hn e => hn ((nI_eq (by omega) (by omega)).mp (hso.symm.trans e))
      have n0 : ¬ M 17 p = 0 := ne 0 (by omega) (by omega)
      have n1 : ¬ M 17 p = 1 := ne 1 (by omega) (by omega)
      have n2 : ¬ M 17 p = 2 := ne 2 (by omega) (by omega)
      generalize hA2 : w_sg (w_put A t (nI p) x y 0) t 1 = A2
      have a1 : A2.1 t = nI p := by rw [← hA2]; exact u_s
      have a2 : A2.2.1 t = x := by rw [← hA2]; exact u_s
      have a3 : A2.2.2.1 t = y := by rw [← hA2]; exact u_s
      have a4 : A2.2.2.2.1 t = 1 := by rw [← hA2]; exact u_s
      have aA : w_ag t A A2 := by rw [← hA2]; exact w_ag_tr w_ag_put w_ag_sg
      clear hA2
      -- an asking from this frame
      have call : ∀ (a x' y' : Int32) (S' : tS) (k1 : Nat) (g1 : Int32) (A3 : w5), m_cd n a → S'.1 = nI k1 → k + 1 ≤ k1 → k1 ≤ 100 → (∀ (g' : Int32) (A' : w5), ((tt_T M D a x' y' S').1 = 0 → g' = (tt_T M D a x' y' S').2.1) → w_ag (t + 1) A3 A' → w_Lh X F B (m_r M (tt_T M D a x' y' S').2.2 (tt_T M D a x' y' S').1 g' (nI (t + 1)) A')) → w_Lh X F B (m_push (m_r M S' 0 g1 (nI (t + 1)) A3) a x' y') :=
        fun a x' y' S' k1 g1 A3 c1 c2 c3 c4 c5 => ih a x' y' S' k1 (t + 1) g1 A3 c1 c2 (by omega) c4 (by omega) c5
      have vc : ∀ {a : Int32}, m_vc n a → m_cd n a := fun h => Or.inr (Or.inr (Or.inr h))
      -- one asking, told on as it is
      have one : ∀ (a x' y' : Int32) (S' : tS), m_cd n a → S'.1 = nI (k + 1) → s ≠ 5 → s ≠ 6 → s ≠ 7 → s ≠ 8 → s ≠ 9 → s ≠ 11 → s ≠ 12 → (∀ (g' : Int32) (A' : w5), ((tt_T M D a x' y' S').1 = 0 → g' = (tt_T M D a x' y' S').2.1) → w_ag t A A' → w_Lh X F B (m_r M (tt_T M D a x' y' S').2.2 (tt_T M D a x' y' S').1 g' (nI t) A')) → w_Lh X F B (m_push (m_r M S' 0 g (nI (t + 1)) A2) a x' y') := by
        intro a x' y' S' c1 c2 e5 e6 e7 e8 e9 e11 e12 HH
        refine call a x' y' S' (k + 1) g A2 c1 c2 (by omega) (by omega) (fun g' A' hg ag => ?_)
        have at' := ag t (by omega)
        have aA' : w_ag t A A' := w_ag_tr aA (w_ag_le ag (by omega))
        have b1 : A'.1 t = nI p := at'.1.trans a1
        refine w_ret1 hS htk3 hp b1 hso hs3 hs13 (sv := 1) (at'.2.2.2.1.trans a4) (by decide) _ hg (fun w => ne 5 (by omega) e5 w.1) (fun w => ne 6 (by omega) e6 w.1) (ne 7 (by omega) e7) (ne 8 (by omega) e8) (ne 9 (by omega) e9) (ne 11 (by omega) e11) (fun hz => ?_) (fun A'' ag2 hz => ?_)
        · exact w_fail hS (by omega) hz hp b1 (ne 12 (by omega) e12) (HH g' A' hg aA')
        · exact HH _ A'' (fun _ => rfl) (w_ag_tr aA' ag2)
      rcases (show s = 3 ∨ s = 4 ∨ s = 5 ∨ s = 6 ∨ s = 7 ∨ s = 8 ∨ s = 9 ∨ s = 10 ∨ s = 11 ∨ s = 12 ∨ s = 13 by omega) with rfl | rfl | rfl | rfl | rfl | rfl | rfl | rfl | rfl | rfl | rfl
      · have h3 : M 17 p = 3 := hso
        rw [if_pos h3]
        rw [show t_s M (tt_T M D) p x y (nI (k + 1), sf, wn, ak) = _ by unfold t_s; rw [if_neg n0, if_neg n1, if_neg n2, if_pos h3]] at H
        exact one _ _ _ (nI (k + 1), sf, wn, ak) (vc (hva (by omega) (by omega) (by omega))) rfl (by omega) (by omega) (by omega) (by omega) (by omega) (by omega) (by omega) H
      · have h4 : M 17 p = 4 := hso
        have n3 : ¬ M 17 p = 3 := ne 3 (by omega) (by omega)
        rw [if_neg n3, if_pos h4]
        rw [show t_s M (tt_T M D) p x y (nI (k + 1), sf, wn, ak) = _ by unfold t_s; rw [if_neg n0, if_neg n1, if_neg n2, if_neg n3, if_pos h4]] at H
        exact one _ _ _ (nI (k + 1), sf, wn, ak) (vc (hva (by omega) (by omega) (by omega))) rfl (by omega) (by omega) (by omega) (by omega) (by omega) (by omega) (by omega) H
      · have h5 : M 17 p = 5 := hso
        have n3 : ¬ M 17 p = 3 := ne 3 (by omega) (by omega)
        have n4 : ¬ M 17 p = 4 := ne 4 (by omega) (by omega)
        have n6 : ¬ M 17 p = 6 := ne 6 (by omega) (by omega)
        have n7 : ¬ M 17 p = 7 := ne 7 (by omega) (by omega)
        have n8 : ¬ M 17 p = 8 := ne 8 (by omega) (by omega)
        have n9 : ¬ M 17 p = 9 := ne 9 (by omega) (by omega)
        have n10 : ¬ M 17 p = 10 := ne 10 (by omega) (by omega)
        have n11 : ¬ M 17 p = 11 := ne 11 (by omega) (by omega)
        have n12 : ¬ M 17 p = 12 := ne 12 (by omega) (by omega)
        have n13 : ¬ M 17 p = 13 := ne 13 (by omega) (by omega)
        rw [if_neg n3, if_neg n4, if_neg n9, if_neg n10, if_neg n13]
        rw [show t_s M (tt_T M D) p x y (nI (k + 1), sf, wn, ak) = _ by unfold t_s; rw [if_neg n0, if_neg n1, if_neg n2, if_neg n3, if_neg n4, if_pos h5]] at H
        refine call (M 18 p) x y (nI (k + 1), sf, wn, ak) (k + 1) g A2 (vc (hva (by omega) (by omega) (by omega))) rfl (by omega) (by omega) (fun g' A' hg ag => ?_)
        obtain ⟨k1, kk1, kk2, kk3⟩ := tk_T (M := M) D (M 18 p) x y (nI (k + 1), sf, wn, ak) (k + 1) rfl (by omega)
        have at' := ag t (by omega)
        have aA' : w_ag t A A' := w_ag_tr aA (w_ag_le ag (by omega))
        have b1 : A'.1 t = nI p := at'.1.trans a1
        have b2 : A'.2.1 t = x := at'.2.1.trans a2
        have b3 : A'.2.2.1 t = y := at'.2.2.1.trans a3
        have b4 : A'.2.2.2.1 t = 1 := at'.2.2.2.1.trans a4
        by_cases hz : (tt_T M D (M 18 p) x y (nI (k + 1), sf, wn, ak)).1 = 0
        · by_cases hv : (tt_T M D (M 18 p) x y (nI (k + 1), sf, wn, ak)).2.1 = 0
          · rw [show t_over (tt_T M D) (M 18 p) (M 19 p) x y (nI (k + 1), sf, wn, ak) = _ from if_pos ⟨hz, hv⟩] at H
            rw [hz]
            refine w_on hS htk3 hp b1 hso hs3 hs13 (v := 0) b4 (by decide) (fun h => absurd h (by decide)) ?_
            rw [w_go hp (by omega), if_pos ⟨h5, (by show upd A'.2.2.2.1 t (1 + 1) t - 2 = 0; rw [u_s]; decide), (hg hz).trans hv⟩]
            rw [show (w_sg A' t (1 + 1)).2.1 t = x from b2, show (w_sg A' t (1 + 1)).2.2.1 t = y from b3]
            refine call (M 19 p) x y _ k1 g' (w_sg A' t (1 + 1)) (vc (hvb (Or.inl rfl))) kk3 (by omega) kk2 (fun g2 A4 hg2 ag2 => ?_)
            have at2 := ag2 t (by omega)
            have aA4 : w_ag t A A4 := w_ag_tr (w_ag_tr aA' w_ag_sg) (w_ag_le ag2 (by omega))
            have d1 : A4.1 t = nI p := at2.1.trans b1
            exact w_ret1 hS htk3 hp d1 hso hs3 hs13 (sv := 1 + 1) (at2.2.2.2.1.trans u_s) (by decide) _ hg2 (fun w => absurd w.2.1 (by decide)) (fun w => n6 w.1) n7 n8 n9 n11 (fun hz2 => w_fail hS (by omega) hz2 hp d1 n12 (H g2 A4 hg2 aA4)) (fun A5 ag5 hz2 => H _ A5 (fun _ => rfl) (w_ag_tr aA4 ag5))
          · rw [show t_over (tt_T M D) (M 18 p) (M 19 p) x y (nI (k + 1), sf, wn, ak) = _ from if_neg (fun w => hv w.2)] at H
            exact w_ret1 hS htk3 hp b1 hso hs3 hs13 (sv := 1) b4 (by decide) _ hg (fun w => hv ((hg hz).symm.trans w.2.2)) (fun w => n6 w.1) n7 n8 n9 n11 (fun hz2 => absurd hz hz2) (fun A5 ag5 hz2 => H _ A5 (fun _ => rfl) (w_ag_tr aA' ag5))
        · rw [show t_over (tt_T M D) (M 18 p) (M 19 p) x y (nI (k + 1), sf, wn, ak) = _ from if_neg (fun w => hz w.1)] at H
          exact w_fail hS (by omega) hz hp b1 n12 (H g' A' hg aA')
      · have h6 : M 17 p = 6 := hso
        have n3 : ¬ M 17 p = 3 := ne 3 (by omega) (by omega)
        have n4 : ¬ M 17 p = 4 := ne 4 (by omega) (by omega)
        have n5 : ¬ M 17 p = 5 := ne 5 (by omega) (by omega)
        have n7 : ¬ M 17 p = 7 := ne 7 (by omega) (by omega)
        have n8 : ¬ M 17 p = 8 := ne 8 (by omega) (by omega)
        have n9 : ¬ M 17 p = 9 := ne 9 (by omega) (by omega)
        have n10 : ¬ M 17 p = 10 := ne 10 (by omega) (by omega)
        have n11 : ¬ M 17 p = 11 := ne 11 (by omega) (by omega)
        have n12 : ¬ M 17 p = 12 := ne 12 (by omega) (by omega)
        have n13 : ¬ M 17 p = 13 := ne 13 (by omega) (by omega)
        rw [if_neg n3, if_neg n4, if_neg n9, if_neg n10, if_neg n13]
        rw [show t_s M (tt_T M D) p x y (nI (k + 1), sf, wn, ak) = _ by unfold t_s; rw [if_neg n0, if_neg n1, if_neg n2, if_neg n3, if_neg n4, if_neg n5, if_pos h6]] at H
        refine call (M 18 p) x y (nI (k + 1), sf, wn, ak) (k + 1) g A2 (vc (hva (by omega) (by omega) (by omega))) rfl (by omega) (by omega) (fun g' A' hg ag => ?_)
        obtain ⟨k1, kk1, kk2, kk3⟩ := tk_T (M := M) D (M 18 p) x y (nI (k + 1), sf, wn, ak) (k + 1) rfl (by omega)
        have at' := ag t (by omega)
        have aA' : w_ag t A A' := w_ag_tr aA (w_ag_le ag (by omega))
        have b1 : A'.1 t = nI p := at'.1.trans a1
        have b2 : A'.2.1 t = x := at'.2.1.trans a2
        have b3 : A'.2.2.1 t = y := at'.2.2.1.trans a3
        have b4 : A'.2.2.2.1 t = 1 := at'.2.2.2.1.trans a4
        by_cases hz : (tt_T M D (M 18 p) x y (nI (k + 1), sf, wn, ak)).1 = 0
        · rw [show t_where (tt_T M D) (M 18 p) (M 19 p) (M 20 p) x y (nI (k + 1), sf, wn, ak) = _ from if_pos hz] at H
          rw [hz]
          refine w_on hS htk3 hp b1 hso hs3 hs13 (v := 0) b4 (by decide) (fun h => absurd h (by decide)) ?_
          rw [w_go hp (by omega), if_neg (fun w => n5 w.1), if_pos ⟨h6, (by show upd A'.2.2.2.1 t (1 + 1) t - 2 = 0; rw [u_s]; decide)⟩]
          rw [show (w_sg A' t (1 + 1)).2.1 t = x from b2, show (w_sg A' t (1 + 1)).2.2.1 t = y from b3]
          rw [← hg hz] at H
          refine call _ x y _ k1 g' (w_sg A' t (1 + 1)) ?_ kk3 (by omega) kk2 (fun g2 A4 hg2 ag2 => ?_)
          · by_cases hl : g' ≤ 0
            · rw [if_pos hl]; exact vc (hvc rfl)
            · rw [if_neg hl]; exact vc (hvb (Or.inr (Or.inl rfl)))
          have at2 := ag2 t (by omega)
          have aA4 : w_ag t A A4 := w_ag_tr (w_ag_tr aA' w_ag_sg) (w_ag_le ag2 (by omega))
          have d1 : A4.1 t = nI p := at2.1.trans b1
          exact w_ret1 hS htk3 hp d1 hso hs3 hs13 (sv := 1 + 1) (at2.2.2.2.1.trans u_s) (by decide) _ hg2 (fun w => n5 w.1) (fun w => absurd w.2 (by decide)) n7 n8 n9 n11 (fun hz2 => w_fail hS (by omega) hz2 hp d1 n12 (H g2 A4 hg2 aA4)) (fun A5 ag5 hz2 => H _ A5 (fun _ => rfl) (w_ag_tr aA4 ag5))
        · rw [show t_where (tt_T M D) (M 18 p) (M 19 p) (M 20 p) x y (nI (k + 1), sf, wn, ak) = _ from if_neg hz] at H
          exact w_fail hS (by omega) hz hp b1 n12 (H g' A' hg aA')
      · have h7 : M 17 p = 7 := hso
        have n3 : ¬ M 17 p = 3 := ne 3 (by omega) (by omega)
        have n4 : ¬ M 17 p = 4 := ne 4 (by omega) (by omega)
        have n5 : ¬ M 17 p = 5 := ne 5 (by omega) (by omega)
        have n6 : ¬ M 17 p = 6 := ne 6 (by omega) (by omega)
        have n8 : ¬ M 17 p = 8 := ne 8 (by omega) (by omega)
        have n9 : ¬ M 17 p = 9 := ne 9 (by omega) (by omega)
        have n10 : ¬ M 17 p = 10 := ne 10 (by omega) (by omega)
        have n11 : ¬ M 17 p = 11 := ne 11 (by omega) (by omega)
        have n12 : ¬ M 17 p = 12 := ne 12 (by omega) (by omega)
        have n13 : ¬ M 17 p = 13 := ne 13 (by omega) (by omega)
        rw [if_neg n3, if_neg n4, if_neg n9, if_neg n10, if_neg n13]
        rw [show t_s M (tt_T M D) p x y (nI (k + 1), sf, wn, ak) = _ by unfold t_s; rw [if_neg n0, if_neg n1, if_neg n2, if_neg n3, if_neg n4, if_neg n5, if_neg n6, if_pos h7]] at H
        refine call (M 18 p) x y (nI (k + 1), sf, wn, ak) (k + 1) g A2 (vc (hva (by omega) (by omega) (by omega))) rfl (by omega) (by omega) (fun g' A' hg ag => ?_)
        have at' := ag t (by omega)
        have aA' : w_ag t A A' := w_ag_tr aA (w_ag_le ag (by omega))
        have b1 : A'.1 t = nI p := at'.1.trans a1
        have b2 : A'.2.1 t = x := at'.2.1.trans a2
        have b3 : A'.2.2.1 t = y := at'.2.2.1.trans a3
        have b4 : A'.2.2.2.1 t = 1 := at'.2.2.2.1.trans a4
        generalize tt_T M D (M 18 p) x y (nI (k + 1), sf, wn, ak) = r at hg H ⊢
        by_cases hz : r.1 = 0
        · have hg1 := hg hz
          rw [hz]
          refine w_on hS htk3 hp b1 hso hs3 hs13 (v := 0) b4 (by decide) (fun h => hvd (Or.inl h)) ?_
          rw [w_go hp (by omega), if_neg (fun w => n5 w.1), if_neg (fun w => n6 w.1), if_pos h7, w_tellsOf]
          by_cases hi : m_in g' 0 7 = 0
          · rw [if_pos hi]
            rw [show t_dyed (fun v => M 24 (8 * M 19 p + v).toNatClampNeg) r = (2, 0, r.2.2) by unfold t_dyed; rw [if_pos hz, if_pos (by rw [← hg1]; exact hi)]] at H
            exact w_fail hS (by omega) (by decide) hp (A := w_sg A' t (1 + 1)) b1 n12 (H g' (w_sg A' t (1 + 1)) (fun w => absurd w z_2) (w_ag_tr aA' w_ag_sg))
          · rw [if_neg hi]
            rw [show t_dyed (fun v => M 24 (8 * M 19 p + v).toNatClampNeg) r = (0, M 24 (8 * M 19 p + g').toNatClampNeg, r.2.2) by unfold t_dyed; rw [if_pos hz, if_neg (by rw [← hg1]; exact hi), ← hg1]] at H
            rw [show m_dyeAt M (M 19 p) g' = _ from if_neg hi, Int32.add_zero]
            exact H _ (w_sg A' t (1 + 1)) (fun _ => rfl) (w_ag_tr aA' w_ag_sg)
        · rw [show t_dyed (fun v => M 24 (8 * M 19 p + v).toNatClampNeg) r = r from if_neg hz] at H
          exact w_fail hS (by omega) hz hp b1 n12 (H g' A' hg aA')
      · have h8 : M 17 p = 8 := hso
        have n3 : ¬ M 17 p = 3 := ne 3 (by omega) (by omega)
        have n4 : ¬ M 17 p = 4 := ne 4 (by omega) (by omega)
        have n5 : ¬ M 17 p = 5 := ne 5 (by omega) (by omega)
        have n6 : ¬ M 17 p = 6 := ne 6 (by omega) (by omega)
        have n7 : ¬ M 17 p = 7 := ne 7 (by omega) (by omega)
        have n9 : ¬ M 17 p = 9 := ne 9 (by omega) (by omega)
        have n10 : ¬ M 17 p = 10 := ne 10 (by omega) (by omega)
        have n11 : ¬ M 17 p = 11 := ne 11 (by omega) (by omega)
        have n12 : ¬ M 17 p = 12 := ne 12 (by omega) (by omega)
        have n13 : ¬ M 17 p = 13 := ne 13 (by omega) (by omega)
        rw [if_neg n3, if_neg n4, if_neg n9, if_neg n10, if_neg n13]
        rw [show t_s M (tt_T M D) p x y (nI (k + 1), sf, wn, ak) = _ by unfold t_s; rw [if_neg n0, if_neg n1, if_neg n2, if_neg n3, if_neg n4, if_neg n5, if_neg n6, if_neg n7, if_pos h8]] at H
        refine call (M 18 p) x y (nI (k + 1), sf, wn, ak) (k + 1) g A2 (vc (hva (by omega) (by omega) (by omega))) rfl (by omega) (by omega) (fun g' A' hg ag => ?_)
        have at' := ag t (by omega)
        have aA' : w_ag t A A' := w_ag_tr aA (w_ag_le ag (by omega))
        have b1 : A'.1 t = nI p := at'.1.trans a1
        have b2 : A'.2.1 t = x := at'.2.1.trans a2
        have b3 : A'.2.2.1 t = y := at'.2.2.1.trans a3
        have b4 : A'.2.2.2.1 t = 1 := at'.2.2.2.1.trans a4
        generalize tt_T M D (M 18 p) x y (nI (k + 1), sf, wn, ak) = r at hg H ⊢
        by_cases hz : r.1 = 0
        · have hg1 := hg hz
          rw [hz]
          refine w_on hS htk3 hp b1 hso hs3 hs13 (v := 0) b4 (by decide) (fun h => absurd h (by decide)) ?_
          rw [w_go hp (by omega), if_neg (fun w => n5 w.1), if_neg (fun w => n6 w.1), if_neg n7, if_pos h8, w_tellsOf]
          by_cases hi : m_in g' 0 7 = 0
          · rw [if_pos hi]
            rw [show t_dyed (fun v => M 21 (8 * nI p + v).toNatClampNeg) r = (2, 0, r.2.2) by unfold t_dyed; rw [if_pos hz, if_pos (by rw [← hg1]; exact hi)]] at H
            exact w_fail hS (by omega) (by decide) hp (A := w_sg A' t (1 + 1)) b1 n12 (H g' (w_sg A' t (1 + 1)) (fun w => absurd w z_2) (w_ag_tr aA' w_ag_sg))
          · rw [if_neg hi]
            rw [show t_dyed (fun v => M 21 (8 * nI p + v).toNatClampNeg) r = (0, M 21 (8 * nI p + g').toNatClampNeg, r.2.2) by unfold t_dyed; rw [if_pos hz, if_neg (by rw [← hg1]; exact hi), ← hg1]] at H
            rw [if_neg hi, Int32.add_zero]
            exact H _ (w_sg A' t (1 + 1)) (fun _ => rfl) (w_ag_tr aA' w_ag_sg)
        · rw [show t_dyed (fun v => M 21 (8 * nI p + v).toNatClampNeg) r = r from if_neg hz] at H
          exact w_fail hS (by omega) hz hp b1 n12 (H g' A' hg aA')
      · have h9 : M 17 p = 9 := hso
        have n3 : ¬ M 17 p = 3 := ne 3 (by omega) (by omega)
        have n4 : ¬ M 17 p = 4 := ne 4 (by omega) (by omega)
        have n5 : ¬ M 17 p = 5 := ne 5 (by omega) (by omega)
        have n6 : ¬ M 17 p = 6 := ne 6 (by omega) (by omega)
        have n7 : ¬ M 17 p = 7 := ne 7 (by omega) (by omega)
        have n8 : ¬ M 17 p = 8 := ne 8 (by omega) (by omega)
        have n10 : ¬ M 17 p = 10 := ne 10 (by omega) (by omega)
        have n11 : ¬ M 17 p = 11 := ne 11 (by omega) (by omega)
        have n12 : ¬ M 17 p = 12 := ne 12 (by omega) (by omega)
        have n13 : ¬ M 17 p = 13 := ne 13 (by omega) (by omega)
        rw [if_neg n3, if_neg n4, if_pos h9]
        rw [show t_s M (tt_T M D) p x y (nI (k + 1), sf, wn, ak) = _ by unfold t_s; rw [if_neg n0, if_neg n1, if_neg n2, if_neg n3, if_neg n4, if_neg n5, if_neg n6, if_neg n7, if_neg n8, if_pos h9]] at H
        refine call _ x y (nI (k + 1), sf, wn, ak) (k + 1) g A2 ?_ rfl (by omega) (by omega) (fun g' A' hg ag => ?_)
        · obtain ⟨j, hj, he⟩ := hvn (Or.inl rfl)
          rw [he, show (nI j).toNatClampNeg = j from nI_clamp (by omega)]
          exact hM.2.2 j hj
        have at' := ag t (by omega)
        have aA' : w_ag t A A' := w_ag_tr aA (w_ag_le ag (by omega))
        have b1 : A'.1 t = nI p := at'.1.trans a1
        have b2 : A'.2.1 t = x := at'.2.1.trans a2
        have b3 : A'.2.2.1 t = y := at'.2.2.1.trans a3
        have b4 : A'.2.2.2.1 t = 1 := at'.2.2.2.1.trans a4
        generalize tt_T M D (M 25 (M 18 p).toNatClampNeg) x y (nI (k + 1), sf, wn, ak) = r at hg H ⊢
        by_cases hz : r.1 = 0
        · have hg1 := hg hz
          have H2 := H (g' + M 19 p) (w_sg A' t (1 + 1)) (fun _ => by rw [hg1]; rfl) (w_ag_tr aA' w_ag_sg)
          rw [show (t_named (M 19 p) r).1 = 0 from hz] at H2
          rw [hz]
          refine w_on hS htk3 hp b1 hso hs3 hs13 (v := 0) b4 (by decide) (fun h => absurd h (by decide)) ?_
          rw [w_go hp (by omega), if_neg (fun w => n5 w.1), if_neg (fun w => n6 w.1), if_neg n7, if_neg n8, if_pos h9, w_tells]
          exact H2
        · exact w_fail hS (by omega) hz hp b1 n12 (H g' A' (fun w => absurd w hz) aA')
      · have h10 : M 17 p = 10 := hso
        have n3 : ¬ M 17 p = 3 := ne 3 (by omega) (by omega)
        have n4 : ¬ M 17 p = 4 := ne 4 (by omega) (by omega)
        have n5 : ¬ M 17 p = 5 := ne 5 (by omega) (by omega)
        have n6 : ¬ M 17 p = 6 := ne 6 (by omega) (by omega)
        have n7 : ¬ M 17 p = 7 := ne 7 (by omega) (by omega)
        have n8 : ¬ M 17 p = 8 := ne 8 (by omega) (by omega)
        have n9 : ¬ M 17 p = 9 := ne 9 (by omega) (by omega)
        have n11 : ¬ M 17 p = 11 := ne 11 (by omega) (by omega)
        have n12 : ¬ M 17 p = 12 := ne 12 (by omega) (by omega)
        have n13 : ¬ M 17 p = 13 := ne 13 (by omega) (by omega)
        rw [if_neg n3, if_neg n4, if_neg n9, if_pos h10]
        rw [show t_s M (tt_T M D) p x y (nI (k + 1), sf, wn, ak) = _ by unfold t_s; rw [if_neg n0, if_neg n1, if_neg n2, if_neg n3, if_neg n4, if_neg n5, if_neg n6, if_neg n7, if_neg n8, if_neg n9, if_pos h10]] at H
        by_cases hw : ak p + 1 = M 19 p
        · rw [if_pos hw, w_tells]
          rw [show t_worn (tt_T M D) (M 18 p) (M 19 p) (M 20 p) p x y (nI (k + 1), sf, wn, ak) = _ from if_pos hw] at H
          exact H _ A2 (fun _ => rfl) aA
        · rw [if_neg hw]
          rw [show t_worn (tt_T M D) (M 18 p) (M 19 p) (M 20 p) p x y (nI (k + 1), sf, wn, ak) = _ from if_neg hw] at H
          exact one _ _ _ (nI (k + 1), sf, wn, upd ak p (ak p + 1)) (vc (hva (by omega) (by omega) (by omega))) rfl (by omega) (by omega) (by omega) (by omega) (by omega) (by omega) (by omega) H
      · have h11 : M 17 p = 11 := hso
        have n3 : ¬ M 17 p = 3 := ne 3 (by omega) (by omega)
        have n4 : ¬ M 17 p = 4 := ne 4 (by omega) (by omega)
        have n5 : ¬ M 17 p = 5 := ne 5 (by omega) (by omega)
        have n6 : ¬ M 17 p = 6 := ne 6 (by omega) (by omega)
        have n7 : ¬ M 17 p = 7 := ne 7 (by omega) (by omega)
        have n8 : ¬ M 17 p = 8 := ne 8 (by omega) (by omega)
        have n9 : ¬ M 17 p = 9 := ne 9 (by omega) (by omega)
        have n10 : ¬ M 17 p = 10 := ne 10 (by omega) (by omega)
        have n12 : ¬ M 17 p = 12 := ne 12 (by omega) (by omega)
        have n13 : ¬ M 17 p = 13 := ne 13 (by omega) (by omega)
        rw [if_neg n3, if_neg n4, if_neg n9, if_neg n10, if_neg n13]
        rw [show t_s M (tt_T M D) p x y (nI (k + 1), sf, wn, ak) = _ by unfold t_s; rw [if_neg n0, if_neg n1, if_neg n2, if_neg n3, if_neg n4, if_neg n5, if_neg n6, if_neg n7, if_neg n8, if_neg n9, if_neg n10, if_pos h11]] at H
        refine call (M 18 p) x y (nI (k + 1), sf, wn, ak) (k + 1) g A2 (vc (hva (by omega) (by omega) (by omega))) rfl (by omega) (by omega) (fun g' A' hg ag => ?_)
        obtain ⟨k1, kk1, kk2, kk3⟩ := tk_T (M := M) D (M 18 p) x y (nI (k + 1), sf, wn, ak) (k + 1) rfl (by omega)
        have at' := ag t (by omega)
        have aA' : w_ag t A A' := w_ag_tr aA (w_ag_le ag (by omega))
        have b1 : A'.1 t = nI p := at'.1.trans a1
        have b2 : A'.2.1 t = x := at'.2.1.trans a2
        have b3 : A'.2.2.1 t = y := at'.2.2.1.trans a3
        have b4 : A'.2.2.2.1 t = 1 := at'.2.2.2.1.trans a4
        by_cases hz : (tt_T M D (M 18 p) x y (nI (k + 1), sf, wn, ak)).1 = 0
        · rw [show t_both (tt_T M D) (M 18 p) (M 19 p) (M 20 p) x y (nI (k + 1), sf, wn, ak) = _ from if_pos hz] at H
          have hg1 := hg hz
          rw [hz]
          refine w_on hS htk3 hp b1 hso hs3 hs13 (v := 0) b4 (by decide) (fun h => absurd h (by decide)) ?_
          rw [w_go hp (by omega), if_neg (fun w => n5 w.1), if_neg (fun w => n6 w.1), if_neg n7, if_neg n8, if_neg n9, if_pos ⟨h11, (by show upd A'.2.2.2.1 t (1 + 1) t - 2 = 0; rw [u_s]; decide)⟩]
          rw [show (w_sg A' t (1 + 1)).2.1 t = x from b2, show (w_sg A' t (1 + 1)).2.2.1 t = y from b3]
          refine call (M 19 p) x y _ k1 g' (w_fs (w_sg A' t (1 + 1)) t g') (vc (hvb (Or.inr (Or.inr rfl)))) kk3 (by omega) kk2 (fun g2 A4 hg2 ag2 => ?_)
          have at2 := ag2 t (by omega)
          have aA4 : w_ag t A A4 := w_ag_tr (w_ag_tr (w_ag_tr aA' w_ag_sg) w_ag_fs) (w_ag_le ag2 (by omega))
          have d1 : A4.1 t = nI p := at2.1.trans b1
          have d4 : A4.2.2.2.1 t = 1 + 1 := at2.2.2.2.1.trans u_s
          have d5 : A4.2.2.2.2 t = g' := at2.2.2.2.2.trans u_s
          rw [← hg1] at H
          generalize tt_T M D (M 19 p) x y (tt_T M D (M 18 p) x y (nI (k + 1), sf, wn, ak)).2.2 = r2 at hg2 H ⊢
          by_cases hz2 : r2.1 = 0
          · have H2 := H (g' + M 20 p * g2) (w_sg A4 t (1 + 1 + 1)) (fun _ => by rw [hg2 hz2]) (w_ag_tr aA4 w_ag_sg)
            rw [show ((r2.1, g' + M 20 p * r2.2.1, r2.2.2) : tR).1 = 0 from hz2] at H2
            rw [hz2]
            refine w_on hS htk3 hp d1 hso hs3 hs13 (v := 0) d4 (by decide) (fun h => absurd h (by decide)) ?_
            rw [w_go hp (by omega), if_neg (fun w => n5 w.1), if_neg (fun w => n6 w.1), if_neg n7, if_neg n8, if_neg n9, if_neg (fun w => absurd (show (1 : Int32) + 1 + 1 - 2 = 0 by have := w.2; rw [show (w_sg A4 t (1 + 1 + 1)).2.2.2.1 t = 1 + 1 + 1 from u_s] at this; exact this) (by decide)), if_pos h11, w_tells]
            rw [show (w_sg A4 t (1 + 1 + 1)).2.2.2.2 t = g' from d5]
            exact H2
          · exact w_fail hS (by omega) hz2 hp d1 n12 (H g2 A4 (fun w => absurd w hz2) aA4)
        · rw [show t_both (tt_T M D) (M 18 p) (M 19 p) (M 20 p) x y (nI (k + 1), sf, wn, ak) = _ from if_neg hz] at H
          exact w_fail hS (by omega) hz hp b1 n12 (H g' A' hg aA')
      · have h12 : M 17 p = 12 := hso
        have n3 : ¬ M 17 p = 3 := ne 3 (by omega) (by omega)
        have n4 : ¬ M 17 p = 4 := ne 4 (by omega) (by omega)
        have n5 : ¬ M 17 p = 5 := ne 5 (by omega) (by omega)
        have n6 : ¬ M 17 p = 6 := ne 6 (by omega) (by omega)
        have n7 : ¬ M 17 p = 7 := ne 7 (by omega) (by omega)
        have n8 : ¬ M 17 p = 8 := ne 8 (by omega) (by omega)
        have n9 : ¬ M 17 p = 9 := ne 9 (by omega) (by omega)
        have n10 : ¬ M 17 p = 10 := ne 10 (by omega) (by omega)
        have n11 : ¬ M 17 p = 11 := ne 11 (by omega) (by omega)
        have n13 : ¬ M 17 p = 13 := ne 13 (by omega) (by omega)
        rw [if_neg n3, if_neg n4, if_neg n9, if_neg n10, if_neg n13]
        rw [show t_s M (tt_T M D) p x y (nI (k + 1), sf, wn, ak) = _ by unfold t_s; rw [if_neg n0, if_neg n1, if_neg n2, if_neg n3, if_neg n4, if_neg n5, if_neg n6, if_neg n7, if_neg n8, if_neg n9, if_neg n10, if_neg n11, if_pos h12]] at H
        refine call (M 18 p) x y (nI (k + 1), sf, wn, ak) (k + 1) g A2 (vc (hva (by omega) (by omega) (by omega))) rfl (by omega) (by omega) (fun g' A' hg ag => ?_)
        have at' := ag t (by omega)
        have aA' : w_ag t A A' := w_ag_tr aA (w_ag_le ag (by omega))
        have b1 : A'.1 t = nI p := at'.1.trans a1
        have b2 : A'.2.1 t = x := at'.2.1.trans a2
        have b3 : A'.2.2.1 t = y := at'.2.2.1.trans a3
        have b4 : A'.2.2.2.1 t = 1 := at'.2.2.2.1.trans a4
        generalize tt_T M D (M 18 p) x y (nI (k + 1), sf, wn, ak) = r at hg H ⊢
        refine w_ret1 hS htk3 hp b1 hso hs3 hs13 (sv := 1) b4 (by decide) r hg (fun w => n5 w.1) (fun w => n6 w.1) n7 n8 n9 n11 (fun hz => ?_) (fun A5 ag5 hz => ?_)
        · refine w_safe hS (by omega) hz hp b1 h12 ?_
          by_cases hc : ¬ r.1 = 0 ∧ ¬ r.1 = 4 ∧ (M 19 p = 0 ∨ M 19 p = r.1) ∧ ¬ 20 ≤ r.2.2.2.1
          · rw [if_pos hc]
            rw [show t_safe (M 19 p) (M 20 p) r = _ from if_pos hc] at H
            exact H _ A' (fun _ => rfl) aA'
          · rw [if_neg hc]
            rw [show t_safe (M 19 p) (M 20 p) r = _ from if_neg hc] at H
            exact H g' A' hg aA'
        · rw [show t_safe (M 19 p) (M 20 p) r = _ from if_neg (fun w => w.1 hz)] at H
          exact H _ A5 (fun _ => rfl) (w_ag_tr aA' ag5)
      · have h13 : M 17 p = 13 := hso
        have n3 : ¬ M 17 p = 3 := ne 3 (by omega) (by omega)
        have n4 : ¬ M 17 p = 4 := ne 4 (by omega) (by omega)
        have n5 : ¬ M 17 p = 5 := ne 5 (by omega) (by omega)
        have n6 : ¬ M 17 p = 6 := ne 6 (by omega) (by omega)
        have n7 : ¬ M 17 p = 7 := ne 7 (by omega) (by omega)
        have n8 : ¬ M 17 p = 8 := ne 8 (by omega) (by omega)
        have n9 : ¬ M 17 p = 9 := ne 9 (by omega) (by omega)
        have n10 : ¬ M 17 p = 10 := ne 10 (by omega) (by omega)
        have n11 : ¬ M 17 p = 11 := ne 11 (by omega) (by omega)
        have n12 : ¬ M 17 p = 12 := ne 12 (by omega) (by omega)
        rw [if_neg n3, if_neg n4, if_neg n9, if_neg n10, if_pos h13]
        rw [show t_s M (tt_T M D) p x y (nI (k + 1), sf, wn, ak) = _ by unfold t_s; rw [if_neg n0, if_neg n1, if_neg n2, if_neg n3, if_neg n4, if_neg n5, if_neg n6, if_neg n7, if_neg n8, if_neg n9, if_neg n10, if_neg n11, if_neg n12]] at H
        exact one _ _ _ (nI (k + 1), sf, wn, ak) (hvo rfl) rfl (by omega) (by omega) (by omega) (by omega) (by omega) (by omega) (by omega) H
end WQ

