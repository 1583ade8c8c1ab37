/-! ===== the loop, by induction on the depth ===== -/
def tk_P (rc : tF) : Prop := ∀ (c x y : Int32) (s : tS) (k : Nat), s.1 = nI k → k ≤ 100 → ∃ k', k ≤ k' ∧ k' ≤ 100 ∧ (rc c x y s).2.2.1 = nI k'
theorem tk_s {M : Nat → Nat → Int32} {rc : tF} (h : tk_P rc) (p : Nat) (x y : Int32) (s : tS) (k : Nat) (hs : s.1 = nI k) (hk : k ≤ 100) : ∃ k', k ≤ k' ∧ k' ≤ 100 ∧ (t_s M rc p x y s).2.2.1 = nI k' := by
  have base : ∃ k', k ≤ k' ∧ k' ≤ 100 ∧ s.1 = nI k' := ⟨k, Nat.le_refl _, hk, hs⟩
  unfold t_s
  by_cases h0 : M 17 p = 0
  · rw [if_pos h0]; exact base
  rw [if_neg h0]
  by_cases h1 : M 17 p = 1
  · rw [if_pos h1]
    by_cases hz : M 20 p = 0
    · rw [if_pos hz]; exact base
    · rw [if_neg hz]; exact base
  rw [if_neg h1]
  by_cases h2 : M 17 p = 2
  · rw [if_pos h2]
    by_cases hz : M 19 p = 0
    · rw [if_pos hz]; exact base
    · rw [if_neg hz]; exact base
  rw [if_neg h2]
  by_cases h3 : M 17 p = 3
  · rw [if_pos h3]; exact h _ _ _ s k hs hk
  rw [if_neg h3]
  by_cases h4 : M 17 p = 4
  · rw [if_pos h4]; exact h _ _ _ s k hs hk
  rw [if_neg h4]
  by_cases h5 : M 17 p = 5
  · rw [if_pos h5]
    unfold t_over
    obtain ⟨k1, a1, a2, a3⟩ := h (M 18 p) x y s k hs hk
    by_cases hz : (rc (M 18 p) x y s).1 = 0 ∧ (rc (M 18 p) x y s).2.1 = 0
    · rw [if_pos hz]
      obtain ⟨k2, b1, b2, b3⟩ := h (M 19 p) x y _ k1 a3 a2
      exact ⟨k2, by omega, b2, b3⟩
    · rw [if_neg hz]; exact ⟨k1, a1, a2, a3⟩
  rw [if_neg h5]
  by_cases h6 : M 17 p = 6
  · rw [if_pos h6]
    unfold t_where
    obtain ⟨k1, a1, a2, a3⟩ := h (M 18 p) x y s k hs hk
    by_cases hz : (rc (M 18 p) x y s).1 = 0
    · rw [if_pos hz]
      obtain ⟨k2, b1, b2, b3⟩ := h (if (rc (M 18 p) x y s).2.1 ≤ 0 then M 20 p else M 19 p) x y _ k1 a3 a2
      exact ⟨k2, by omega, b2, b3⟩
    · rw [if_neg hz]; exact ⟨k1, a1, a2, a3⟩
  rw [if_neg h6]
  have dy : ∀ g : Int32 → Int32, ∃ k', k ≤ k' ∧ k' ≤ 100 ∧ (t_dyed g (rc (M 18 p) x y s)).2.2.1 = nI k' := fun g => by
    obtain ⟨k1, a1, a2, a3⟩ := h (M 18 p) x y s k hs hk
    unfold t_dyed
    by_cases hz : (rc (M 18 p) x y s).1 = 0
    · rw [if_pos hz]
      by_cases hy : m_in (rc (M 18 p) x y s).2.1 0 7 = 0
      · rw [if_pos hy]; exact ⟨k1, a1, a2, a3⟩
      · rw [if_neg hy]; exact ⟨k1, a1, a2, a3⟩
    · rw [if_neg hz]; exact ⟨k1, a1, a2, a3⟩
  by_cases h7 : M 17 p = 7
  · rw [if_pos h7]; exact dy _
  rw [if_neg h7]
  by_cases h8 : M 17 p = 8
  · rw [if_pos h8]; exact dy _
  rw [if_neg h8]
  by_cases h9 : M 17 p = 9
  · rw [if_pos h9]; exact h _ _ _ s k hs hk
  rw [if_neg h9]
  by_cases h10 : M 17 p = 10
  · rw [if_pos h10]
    unfold t_worn
    by_cases hz : s.2.2.2 p + 1 = M 19 p
    · rw [if_pos hz]; exact base
    · rw [if_neg hz]; exact h _ _ _ _ k hs hk
  rw [if_neg h10]
  by_cases h11 : M 17 p = 11
  · rw [if_pos h11]
    unfold t_both
    obtain ⟨k1, a1, a2, a3⟩ := h (M 18 p) x y s k hs hk
    by_cases hz : (rc (M 18 p) x y s).1 = 0
    · rw [if_pos hz]
      obtain ⟨k2, b1, b2, b3⟩ := h (M 19 p) x y _ k1 a3 a2
      exact ⟨k2, by omega, b2, b3⟩
    · rw [if_neg hz]; exact ⟨k1, a1, a2, a3⟩
  rw [if_neg h11]
  by_cases h12 : M 17 p = 12
  · rw [if_pos h12]
    obtain ⟨k1, a1, a2, a3⟩ := h (M 18 p) x y s k hs hk
    unfold t_safe
    by_cases hz : ¬ (rc (M 18 p) x y s).1 = 0 ∧ ¬ (rc (M 18 p) x y s).1 = 4 ∧ (M 19 p = 0 ∨ M 19 p = (rc (M 18 p) x y s).1) ∧ ¬ 20 ≤ (rc (M 18 p) x y s).2.2.2.1
    · rw [if_pos hz]; exact ⟨k1, a1, a2, a3⟩
    · rw [if_neg hz]; exact ⟨k1, a1, a2, a3⟩
  rw [if_neg h12]
  exact h _ _ _ s k hs hk
theorem tk_T {M : Nat → Nat → Int32} : ∀ D, tk_P (tt_T M D) := by
  intro D
  induction D with
  | zero => exact fun c x y s k hs hk => ⟨k, Nat.le_refl _, hk, hs⟩
  | succ D ih =>
    intro c x y s k hs hk
    show ∃ k', k ≤ k' ∧ k' ≤ 100 ∧ (if 100 ≤ s.1 then ((4, 0, s) : tR) else t_b M (tt_T M D) c x y (s.1 + 1, s.2)).2.2.1 = nI k'
    by_cases h1 : 100 ≤ s.1
    · rw [if_pos h1]; exact ⟨k, Nat.le_refl _, hk, hs⟩
    · rw [if_neg h1]
      have hk2 : k < 100 := by
        rcases Nat.lt_or_ge k 100 with w | w
        · exact w
        · exact absurd (by rw [hs]; exact nI_le (a := 100) w (by omega)) h1
      have e : s.1 + 1 = nI (k + 1) := by rw [hs, nI_1]
      have hs2 : ((s.1 + 1, s.2) : tS).1 = nI (k + 1) := e
      unfold t_b
      by_cases c1 : c = -1
      · rw [if_pos c1]; exact ⟨k + 1, by omega, by omega, hs2⟩
      rw [if_neg c1]
      by_cases c2 : c = -2
      · rw [if_pos c2]; exact ⟨k + 1, by omega, by omega, hs2⟩
      rw [if_neg c2]
      by_cases c3 : c = -3
      · rw [if_pos c3]
        by_cases c4 : m_in x 0 7 = 0
        · rw [if_pos c4]; exact ⟨k + 1, by omega, by omega, hs2⟩
        · rw [if_neg c4]; exact ⟨k + 1, by omega, by omega, hs2⟩
      rw [if_neg c3]
      obtain ⟨k', a1, a2, a3⟩ := tk_s (M := M) ih c.toNatClampNeg x y (s.1 + 1, s.2) (k + 1) hs2 (by omega)
      exact ⟨k', by omega, a2, a3⟩
theorem i_divm1 (x : Int32) : x / (-1) = -x := by
  apply Int32.toBitVec_inj.mp
  show BitVec.sdiv x.toBitVec (-1 : Int32).toBitVec = -x.toBitVec
  rw [show (-1 : Int32).toBitVec = BitVec.allOnes 32 from rfl]
  apply BitVec.eq_of_toInt_eq
  rw [BitVec.toInt_sdiv, BitVec.toInt_allOnes, BitVec.toInt_neg]
  simp
theorem i_quot (x b : Int32) : m_quot x b = x / b := by
  unfold m_quot
  by_cases h : b = -1
  · rw [if_pos h, h, i_divm1]
  · rw [if_neg h]
theorem i_remm1 (x : Int32) : a_rem x (-1) = 0 := by
  unfold a_rem
  rw [i_divm1]
  have e1 : (-x) * (-1) = x := by rw [Int32.neg_mul, Int32.mul_neg, Int32.mul_one, Int32.neg_neg]
  rw [e1, Int32.sub_self]
abbrev m_r (M : Nat → Nat → Int32) (s : tS) (f g tp : Int32) (A : w5) : Nat → Nat → Int32 := m_q M s.1 f g s.2.1 s.2.2.1 tp s.2.2.2 A
section WR
variable {X : a_X} {K : aK} {F : Nat → Nat → Option Nat} {B : Nat → Bool} {M : Nat → Nat → Int32} {k g sf wn : Int32} {f : Int32} {ak : Nat → Int32} {A : w5} {t p n : Nat}
theorem w_go (hp : p < 60) (ht : t < 104) : m_goesOn (m_q M k f g sf wn (nI (t + 1)) ak A) (nI t) (nI p) =
    (if M 17 p = 5 ∧ A.2.2.2.1 t - 2 = 0 ∧ g = 0 then m_push (m_q M k f g sf wn (nI (t + 1)) ak A) (M 19 p) (A.2.1 t) (A.2.2.1 t)
    else if M 17 p = 6 ∧ A.2.2.2.1 t - 2 = 0 then m_push (m_q M k f g sf wn (nI (t + 1)) ak A) (if g ≤ 0 then M 20 p else M 19 p) (A.2.1 t) (A.2.2.1 t)
    else if M 17 p = 7 then m_tellsOf (m_q M k f g sf wn (nI (t + 1)) ak A) g (m_dyeAt M (M 19 p) g) 0
    else if M 17 p = 8 then m_tellsOf (m_q M k f g sf wn (nI (t + 1)) ak A) g (if m_in g 0 7 = 0 then 0 else M 21 (8 * nI p + g).toNatClampNeg) 0
    else if M 17 p = 9 then m_tells (m_q M k f g sf wn (nI (t + 1)) ak A) (g + M 19 p)
    else if M 17 p = 11 ∧ A.2.2.2.1 t - 2 = 0 then m_push (m_q M k f g sf wn (nI (t + 1)) ak (w_fs A t g)) (M 19 p) (A.2.1 t) (A.2.2.1 t)
    else if M 17 p = 11 then m_tells (m_q M k f g sf wn (nI (t + 1)) ak A) (A.2.2.2.2 t + M 20 p * g)
    else m_tells (m_q M k f g sf wn (nI (t + 1)) ak A) g) := by
  unfold m_goesOn
  rw [w_pc hp, show (nI t).toNatClampNeg = t from nI_clamp (by omega)]
  rw [show a_w (m_q M k f g sf wn (nI (t + 1)) ak A) 34 t (m_q M k f g sf wn (nI (t + 1)) ak A 16 21) = m_q M k f g sf wn (nI (t + 1)) ak (w_fs A t g) from mp_a34]
  rfl
theorem w_be (hp : p < 60) (x y : Int32) : m_begins (m_q M k f g sf wn (nI (t + 1)) ak A) (nI p) x y =
    (if M 17 p = 3 then m_push (m_q M k f g sf wn (nI (t + 1)) ak A) (M 18 p) (x - M 19 p) (y - M 20 p)
    else if M 17 p = 4 then m_push (m_q M k f g sf wn (nI (t + 1)) ak A) (M 18 p) (m_tx (M 19 p) x y) (m_ty (M 19 p) x y)
    else if M 17 p = 9 then m_push (m_q M k f g sf wn (nI (t + 1)) ak A) (M 25 (M 18 p).toNatClampNeg) x y
    else if M 17 p = 10 then (if ak p + 1 = M 19 p then m_tells (m_q M k f g sf (wn + 1) (nI (t + 1)) (upd ak p 0) A) (M 20 p) else m_push (m_q M k f g sf wn (nI (t + 1)) (upd ak p (ak p + 1)) A) (M 18 p) x y)
    else if M 17 p = 13 then m_push (m_q M k f g sf wn (nI (t + 1)) ak A) (M 22 p) x y
    else m_push (m_q M k f g sf wn (nI (t + 1)) ak A) (M 18 p) x y) := by
  unfold m_begins
  rw [w_pc hp]
  rw [show a_w (m_q M k f g sf wn (nI (t + 1)) ak A) 23 p (m_q M k f g sf wn (nI (t + 1)) ak A 23 p + 1) = m_q M k f g sf wn (nI (t + 1)) (upd ak p (ak p + 1)) A from mp_a23]
  rw [show a_w (m_q M k f g sf wn (nI (t + 1)) (upd ak p (ak p + 1)) A) 23 p 0 = m_q M k f g sf wn (nI (t + 1)) (upd (upd ak p (ak p + 1)) p 0) A from mp_a23]
  rw [show upd (upd ak p (ak p + 1)) p 0 = upd ak p 0 by funext j; unfold upd; by_cases e : j = p <;> simp [e]]
  rw [show a_w (m_q M k f g sf wn (nI (t + 1)) (upd ak p 0) A) 16 11 (m_q M k f g sf wn (nI (t + 1)) ak A 16 11 + 1) = m_q M k f g sf (wn + 1) (nI (t + 1)) (upd ak p 0) A from mp_11]
  rfl
/-- a frame goes on -/
theorem w_on (hS : ∀ x ∈ P_X3_work K 0 0, a_Sd X x.1 x.2) (ht : t < 103) (hp : p < 60) (hA : A.1 t = nI p) {s v : Nat} (hso : M 17 p = nI s) (h3 : 3 ≤ s) (h13 : s ≤ 13) {sv : Int32} (hsg : A.2.2.2.1 t = sv) (h0 : ¬ sv = 0) (h7 : s = 7 → m_vc 4 (M 19 p)) (hJ : w_Lh X F B (m_goesOn (m_q M k 0 g sf wn (nI (t + 1)) ak (w_sg A t (sv + 1))) (nI t) (nI p))) : w_Lh X F B (m_q M k 0 g sf wn (nI (t + 1)) ak A) := by
  have e := (w_fpq (M := M) (k := k) (f := 0) (g := g) (sf := sf) (wn := wn) (ak := ak) (t := t) (by omega)).trans hA
  have ecl := w_clamp (t := t) (by omega)
  have esg : m_q M k 0 g sf wn (nI (t + 1)) ak A 33 (m_q M k 0 g sf wn (nI (t + 1)) ak A 16 13 - 1).toNatClampNeg = sv := by
    show A.2.2.2.1 (nI (t + 1) - 1).toNatClampNeg = sv
    rw [ecl]; exact hsg
  refine w_goesOn hS (w_npos (by omega)) (w_vin (by omega)) rfl (by rw [e]; exact nI_pos (by omega)) (by rw [e]; exact vp_in_nI hp (by decide)) ?_ (by rw [esg]; exact h0) (vp_in_nI (by omega) (by decide)) ?_ ?_ ?_
  · rw [e, w_pc hp]
    show 3 ≤ M 17 p
    rw [hso]
    exact nI_le (a := 3) h3 (by omega)
  · rw [e, w_pc hp]
    intro h7' hm
    have h7' : M 17 p = 7 := h7'
    have : s = 7 := (nI_eq (by omega) (by decide)).mp (hso.symm.trans h7')
    obtain ⟨d, hd, he⟩ := h7 this
    obtain ⟨j, hj, hg⟩ := m_in_n (b := 7) (by decide) hm
    show vp_in (8 * M 19 p + g) 32
    have hg : g = nI j := hg
    rw [he, hg]
    exact a_8in hd (by omega)
  · rw [e]
    intro _ hm
    obtain ⟨j, hj, hg⟩ := m_in_n (b := 7) (by decide) hm
    have hg : g = nI j := hg
    show vp_in (8 * nI p + g) 480
    rw [hg, a_8 hp (by omega)]
    exact vp_in_nI (by omega) (by decide)
  · rw [e, esg]
    have e1 : (m_q M k 0 g sf wn (nI (t + 1)) ak A 16 13 - 1) = nI t := nI_pred t
    rw [e1, show (nI t).toNatClampNeg = t from nI_clamp (by omega)]
    rw [show a_w (m_q M k 0 g sf wn (nI (t + 1)) ak A) 33 t (sv + 1) = m_q M k 0 g sf wn (nI (t + 1)) ak (w_sg A t (sv + 1)) from mp_a33]
    exact hJ
end WR

