/-! ===== the reference's loop tells what the pattern tells ===== -/
def w_Lh (X : a_X) (F : Nat → Nat → Option Nat) (B : Nat → Bool) (I : Nat → Nat → Int32) : Prop := ∀ (p x y : Int32) (f q : Option aV), a_J X 27 [some (.inr (some 16)), some (.inl p), some (.inl x), some (.inl y), f, q] [] (a_mk I F B) 0 0
def w_inv (X : a_X) : Nat → Option (aL → List aV → aS → Nat → Nat → Prop) := fun pc => if pc = 27 then some (fun L st σ kc ks => a_J X 27 L st σ kc ks) else none
theorem w_invh {X : a_X} : ∀ pc I, w_inv X pc = some I → ∀ L st σ kc ks, I L st σ kc ks → a_J X pc L st σ kc ks := by
  intro pc I e L st σ kc ks h
  unfold w_inv at e
  split at e
  · rename_i hp
    cases e
    subst hp
    exact h
  · cases e
abbrev w5 : Type := (Nat → Int32) × (Nat → Int32) × (Nat → Int32) × (Nat → Int32) × (Nat → Int32)
abbrev m_q (M : Nat → Nat → Int32) (k f g sf wn tp : Int32) (ak : Nat → Int32) (A : w5) : Nat → Nat → Int32 := m_p M k f g sf wn tp ak A.1 A.2.1 A.2.2.1 A.2.2.2.1 A.2.2.2.2
def w_ag (t : Nat) (A A' : w5) : Prop := ∀ i, i < t → A'.1 i = A.1 i ∧ A'.2.1 i = A.2.1 i ∧ A'.2.2.1 i = A.2.2.1 i ∧ A'.2.2.2.1 i = A.2.2.2.1 i ∧ A'.2.2.2.2 i = A.2.2.2.2 i
theorem w_ag_rf {t : Nat} {A : w5} : w_ag t A A := fun _ _ => ⟨rfl, rfl, rfl, rfl, rfl⟩
theorem w_ag_tr {t : Nat} {A A' A'' : w5} (h : w_ag t A A') (h' : w_ag t A' A'') : w_ag t A A'' := fun i hi => ⟨(h' i hi).1.trans (h i hi).1, (h' i hi).2.1.trans (h i hi).2.1, (h' i hi).2.2.1.trans (h i hi).2.2.1, (h' i hi).2.2.2.1.trans (h i hi).2.2.2.1, (h' i hi).2.2.2.2.trans (h i hi).2.2.2.2⟩
theorem w_ag_le {t t' : Nat} {A A' : w5} (h : w_ag t A A') (hle : t' ≤ t) : w_ag t' A A' := fun i hi => h i (by omega)
abbrev w_put (A : w5) (t : Nat) (c x y s : Int32) : w5 := (upd A.1 t c, upd A.2.1 t x, upd A.2.2.1 t y, upd A.2.2.2.1 t s, A.2.2.2.2)
abbrev w_sg (A : w5) (t : Nat) (s : Int32) : w5 := (A.1, A.2.1, A.2.2.1, upd A.2.2.2.1 t s, A.2.2.2.2)
abbrev w_fs (A : w5) (t : Nat) (s : Int32) : w5 := (A.1, A.2.1, A.2.2.1, A.2.2.2.1, upd A.2.2.2.2 t s)
theorem u_s {f : Nat → Int32} {t : Nat} {x : Int32} : upd f t x t = x := if_pos rfl
theorem u_n {f : Nat → Int32} {t i : Nat} {x : Int32} (h : i < t) : upd f t x i = f i := if_neg (by omega)
theorem w_ag_put {t : Nat} {A : w5} {c x y s : Int32} : w_ag t A (w_put A t c x y s) := fun i hi => ⟨u_n hi, u_n hi, u_n hi, u_n hi, rfl⟩
theorem w_ag_sg {t : Nat} {A : w5} {s : Int32} : w_ag t A (w_sg A t s) := fun i hi => ⟨rfl, rfl, rfl, u_n hi, rfl⟩
theorem w_ag_fs {t : Nat} {A : w5} {s : Int32} : w_ag t A (w_fs A t s) := fun i hi => ⟨rfl, rfl, rfl, rfl, u_n hi⟩
section WS
variable {X : a_X} {K : aK} {F : Nat → Nat → Option Nat} {B : Nat → Bool} {M : Nat → Nat → Int32} {k g sf wn : Int32} {f : Int32} {ak : Nat → Int32} {A : w5} {t p : Nat}
theorem w_clamp {t : Nat} (ht : t < 104) : (nI (t + 1) - 1).toNatClampNeg = t := by rw [nI_pred]; exact nI_clamp (by omega)
theorem w_vin {t : Nat} (ht : t < 104) : vp_in (nI (t + 1) - 1) 104 := by rw [nI_pred]; exact vp_in_nI ht (by decide)
set_option maxRecDepth 20000 in
theorem w_exit (hS : ∀ x ∈ P_X3_work K 0 0, a_Sd X x.1 x.2) {I : Nat → Nat → Int32} (h0 : I 16 13 = 0) (hK : K none (a_mk I F B)) : w_Lh X F B I := by
  intro p x y f q
  refine a_wp1 hS w_invh 60 27 _ rfl ?_
  exact ⟨fun _ => hK, fun w => absurd (by show I 16 13 ≤ 0; rw [h0]; decide) w⟩
set_option maxRecDepth 20000 in
theorem w_falls (hS : ∀ x ∈ P_X3_work K 0 0, a_Sd X x.1 x.2) {I : Nat → Nat → Int32} (ht : ¬ I 16 13 ≤ 0) (hf : vp_in (I 16 13 - 1) 104) (h0 : ¬ I 16 20 = 0) (hq : ¬ m_fp I < 0 → vp_in (m_fp I) 60) (hJ : w_Lh X F B (m_falls I)) : w_Lh X F B I := by
  intro p x y f q
  refine a_wp1 hS w_invh 60 27 _ rfl ?_
  exact ⟨fun w => absurd w ht, fun _ => ⟨hf, fun w => absurd w h0, fun _ => ⟨I, F, B, rfl, rfl, hf, hq, hJ _ _ _ _ _⟩⟩⟩
set_option maxRecDepth 20000 in
theorem w_alone1 (hS : ∀ x ∈ P_X3_work K 0 0, a_Sd X x.1 x.2) {I : Nat → Nat → Int32} (ht : ¬ I 16 13 ≤ 0) (hf : vp_in (I 16 13 - 1) 104) (h0 : I 16 20 = 0) (hq : m_fp I = -2 ∨ m_fp I = -3) (hJ : w_Lh X F B (m_alone I (m_fp I) (I 31 (I 16 13 - 1).toNatClampNeg) (I 32 (I 16 13 - 1).toNatClampNeg))) : w_Lh X F B I := by
  intro p x y f q
  refine a_wp1 hS w_invh 60 27 _ rfl ?_
  have hn : m_fp I < 0 := by rcases hq with h | h <;> rw [h] <;> decide
  exact ⟨fun w => absurd w ht, fun _ => ⟨hf, fun _ => ⟨fun _ => ⟨hf, hf, I, F, B, _, _, _, rfl, rfl, fun w1 w2 => absurd hq (fun z => z.elim w1 w2), hJ _ _ _ _ _⟩, fun w => absurd hn w⟩, fun w => absurd h0 w⟩⟩
set_option maxRecDepth 20000 in
theorem w_alone2 (hS : ∀ x ∈ P_X3_work K 0 0, a_Sd X x.1 x.2) {I : Nat → Nat → Int32} (ht : ¬ I 16 13 ≤ 0) (hf : vp_in (I 16 13 - 1) 104) (h0 : I 16 20 = 0) (hn : ¬ m_fp I < 0) (hp : vp_in (m_fp I) 60) (h3 : ¬ 3 ≤ I 17 (m_fp I).toNatClampNeg) (hJ : w_Lh X F B (m_alone I (m_fp I) (I 31 (I 16 13 - 1).toNatClampNeg) (I 32 (I 16 13 - 1).toNatClampNeg))) : w_Lh X F B I := by
  intro p x y f q
  refine a_wp1 hS w_invh 60 27 _ rfl ?_
  exact ⟨fun w => absurd w ht, fun _ => ⟨hf, fun _ => ⟨fun w => absurd w hn, fun _ => ⟨hp, fun w => absurd w h3, fun _ => ⟨hf, hf, I, F, B, _, _, _, rfl, rfl, fun _ _ => hp, hJ _ _ _ _ _⟩⟩⟩, fun w => absurd h0 w⟩⟩
set_option maxRecDepth 20000 in
theorem w_begins (hS : ∀ x ∈ P_X3_work K 0 0, a_Sd X x.1 x.2) {I : Nat → Nat → Int32} (ht : ¬ I 16 13 ≤ 0) (hf : vp_in (I 16 13 - 1) 104) (h0 : I 16 20 = 0) (hn : ¬ m_fp I < 0) (hp : vp_in (m_fp I) 60) (h3 : 3 ≤ I 17 (m_fp I).toNatClampNeg) (hs : I 33 (I 16 13 - 1).toNatClampNeg = 0) (ht4 : vp_in (I 16 13) 104) (h9 : I 17 (m_fp I).toNatClampNeg = 9 → vp_in (I 18 (m_fp I).toNatClampNeg) 6) (hJ : w_Lh X F B (m_begins (a_w I 33 (I 16 13 - 1).toNatClampNeg 1) (m_fp I) (I 31 (I 16 13 - 1).toNatClampNeg) (I 32 (I 16 13 - 1).toNatClampNeg))) : w_Lh X F B I := by
  intro p x y f q
  refine a_wp1 hS w_invh 80 27 _ rfl ?_
  exact ⟨fun w => absurd w ht, fun _ => ⟨hf, fun _ => ⟨fun w => absurd w hn, fun _ => ⟨hp, fun _ => ⟨hf, fun _ => ⟨hf, hf, hf, a_w I 33 (I 16 13 - 1).toNatClampNeg 1, F, B, _, _, _, rfl, rfl, hp, ht4, h9, hJ _ _ _ _ _⟩, fun w => absurd hs w⟩, fun w => absurd h3 w⟩⟩, fun w => absurd h0 w⟩⟩
set_option maxRecDepth 20000 in
theorem w_goesOn (hS : ∀ x ∈ P_X3_work K 0 0, a_Sd X x.1 x.2) {I : Nat → Nat → Int32} (ht : ¬ I 16 13 ≤ 0) (hf : vp_in (I 16 13 - 1) 104) (h0 : I 16 20 = 0) (hn : ¬ m_fp I < 0) (hp : vp_in (m_fp I) 60) (h3 : 3 ≤ I 17 (m_fp I).toNatClampNeg) (hs : ¬ I 33 (I 16 13 - 1).toNatClampNeg = 0) (ht4 : vp_in (I 16 13) 104) (h7 : I 17 (m_fp I).toNatClampNeg = 7 → ¬ m_in (I 16 21) 0 7 = 0 → vp_in (8 * I 19 (m_fp I).toNatClampNeg + I 16 21) 32) (h8 : I 17 (m_fp I).toNatClampNeg = 8 → ¬ m_in (I 16 21) 0 7 = 0 → vp_in (8 * m_fp I + I 16 21) 480) (hJ : w_Lh X F B (m_goesOn (a_w I 33 (I 16 13 - 1).toNatClampNeg (I 33 (I 16 13 - 1).toNatClampNeg + 1)) (I 16 13 - 1) (m_fp I))) : w_Lh X F B I := by
  intro p x y f q
  refine a_wp1 hS w_invh 80 27 _ rfl ?_
  exact ⟨fun w => absurd w ht, fun _ => ⟨hf, fun _ => ⟨fun w => absurd w hn, fun _ => ⟨hp, fun _ => ⟨hf, fun w => absurd w hs, fun _ => ⟨hf, hf, a_w I 33 (I 16 13 - 1).toNatClampNeg (I 33 (I 16 13 - 1).toNatClampNeg + 1), F, B, _, _, rfl, rfl, hf, hp, ht4, h7, h8, hJ _ _ _ _ _⟩⟩, fun w => absurd h3 w⟩⟩, fun w => absurd h0 w⟩⟩
theorem w_fpq (ht : t < 104) : m_fp (m_q M k f g sf wn (nI (t + 1)) ak A) = A.1 t := by
  show A.1 (nI (t + 1) - 1).toNatClampNeg = A.1 t
  rw [w_clamp ht]
theorem w_npos (ht : t < 104) : ¬ nI (t + 1) ≤ 0 := nI_nle (by omega) (by omega)
theorem w_pc {p : Nat} (hp : p < 60) : (nI p).toNatClampNeg = p := nI_clamp (by omega)
/-- a failure goes down one frame -/
theorem w_fail (hS : ∀ x ∈ P_X3_work K 0 0, a_Sd X x.1 x.2) (ht : t < 104) (hf : ¬ f = 0) (hp : p < 60) (hA : A.1 t = nI p) (h12 : ¬ M 17 p = 12) (hJ : w_Lh X F B (m_q M k f g sf wn (nI t) ak A)) : w_Lh X F B (m_q M k f g sf wn (nI (t + 1)) ak A) := by
  have e := (w_fpq (M := M) (k := k) (f := f) (g := g) (sf := sf) (wn := wn) (ak := ak) ht).trans hA
  refine w_falls hS (w_npos ht) (w_vin ht) hf (fun _ => by rw [e]; exact vp_in_nI hp (by decide)) ?_
  unfold m_falls
  rw [if_neg (fun w => h12 (by have := w.2.1; rw [e, w_pc hp] at this; exact this))]
  have e2 : a_w (m_q M k f g sf wn (nI (t + 1)) ak A) 16 13 (nI (t + 1) - 1) = m_q M k f g sf wn (nI t) ak A := by rw [nI_pred]; exact mp_13
  rw [show a_w (m_q M k f g sf wn (nI (t + 1)) ak A) 16 13 (m_q M k f g sf wn (nI (t + 1)) ak A 16 13 - 1) = _ from e2]
  exact hJ
theorem w_failn (hS : ∀ x ∈ P_X3_work K 0 0, a_Sd X x.1 x.2) (ht : t < 104) (hf : ¬ f = 0) (hA : A.1 t < 0) (hJ : w_Lh X F B (m_q M k f g sf wn (nI t) ak A)) : w_Lh X F B (m_q M k f g sf wn (nI (t + 1)) ak A) := by
  have e := (w_fpq (M := M) (k := k) (f := f) (g := g) (sf := sf) (wn := wn) (ak := ak) (A := A) ht)
  refine w_falls hS (w_npos ht) (w_vin ht) hf (fun w => absurd (by rw [e]; exact hA) w) ?_
  unfold m_falls
  rw [if_neg (fun w => w.1 (by rw [e]; exact hA))]
  have e2 : a_w (m_q M k f g sf wn (nI (t + 1)) ak A) 16 13 (nI (t + 1) - 1) = m_q M k f g sf wn (nI t) ak A := by rw [nI_pred]; exact mp_13
  rw [show a_w (m_q M k f g sf wn (nI (t + 1)) ak A) 16 13 (m_q M k f g sf wn (nI (t + 1)) ak A 16 13 - 1) = _ from e2]
  exact hJ
/-- a SAFE frame meets a failure -/
theorem w_safe (hS : ∀ x ∈ P_X3_work K 0 0, a_Sd X x.1 x.2) (ht : t < 104) (hf : ¬ f = 0) (hp : p < 60) (hA : A.1 t = nI p) (h12 : M 17 p = 12) (hJ : w_Lh X F B (if ¬ f = 0 ∧ ¬ f = 4 ∧ (M 19 p = 0 ∨ M 19 p = f) ∧ ¬ 20 ≤ sf then m_q M k 0 (M 20 p) (sf + 1) wn (nI t) ak A else m_q M k f g sf wn (nI t) ak A)) : w_Lh X F B (m_q M k f g sf wn (nI (t + 1)) ak A) := by
  have e := (w_fpq (M := M) (k := k) (f := f) (g := g) (sf := sf) (wn := wn) (ak := ak) ht).trans hA
  have hn : ¬ nI p < 0 := nI_pos (by omega)
  refine w_falls hS (w_npos ht) (w_vin ht) hf (fun _ => by rw [e]; exact vp_in_nI hp (by decide)) ?_
  unfold m_falls
  rw [e, w_pc hp]
  have e2 : a_w (m_q M k f g sf wn (nI (t + 1)) ak A) 16 13 (nI (t + 1) - 1) = m_q M k f g sf wn (nI t) ak A := by rw [nI_pred]; exact mp_13
  rw [show a_w (m_q M k f g sf wn (nI (t + 1)) ak A) 16 13 (m_q M k f g sf wn (nI (t + 1)) ak A 16 13 - 1) = _ from e2]
  by_cases hc : ¬ f = 0 ∧ ¬ f = 4 ∧ (M 19 p = 0 ∨ M 19 p = f) ∧ ¬ 20 ≤ sf
  · rw [if_pos hc] at hJ
    rw [if_pos ⟨hn, h12, hc.2.1, hc.2.2.1, hc.2.2.2⟩, mp_12, mp_20, mp_21]
    exact hJ
  · rw [if_neg hc] at hJ
    rw [if_neg (fun w => hc ⟨hf, w.2.2.1, w.2.2.2.1, w.2.2.2.2⟩)]
    exact hJ
theorem w_tells (v : Int32) : m_tells (m_q M k f g sf wn (nI (t + 1)) ak A) v = m_q M k f v sf wn (nI t) ak A := by
  show a_w (a_w (m_q M k f g sf wn (nI (t + 1)) ak A) 16 21 v) 16 13 (nI (t + 1) - 1) = _
  rw [nI_pred, mp_21, mp_13]
theorem w_tellsOf (i v : Int32) (m : Int32) : m_tellsOf (m_q M k f g sf wn (nI (t + 1)) ak A) i v m = if m_in i 0 7 = 0 then m_q M k 2 g sf wn (nI (t + 1)) ak A else m_q M k f (v + m) sf wn (nI t) ak A := by
  unfold m_tellsOf
  by_cases h : m_in i 0 7 = 0
  · rw [if_pos h, if_pos h, mp_20]
  · rw [if_neg h, if_neg h, w_tells]
theorem w_push (ht : t < 104) {kn : Nat} (hk : kn < 100) (c x y : Int32) (hc : ¬ c = -1) : m_push (m_q M (nI kn) f g sf wn (nI t) ak A) c x y = m_q M (nI (kn + 1)) f g sf wn (nI (t + 1)) ak (w_put A t c x y 0) := by
  have h1 : ¬ nI kn = 100 := fun w => by
    have := (nI_eq (by omega) (by decide)).mp (w.trans (show (100 : Int32) = nI 100 from rfl))
    omega
  have hcl : (nI t).toNatClampNeg = t := nI_clamp (by omega)
  unfold m_push
  rw [if_neg (show ¬ m_q M (nI kn) f g sf wn (nI t) ak A 16 19 = 100 from h1), if_neg hc]
  show a_w (a_w (a_w (a_w (a_w (a_w (m_q M (nI kn) f g sf wn (nI t) ak A) 16 19 (nI kn + 1)) 30 (nI t).toNatClampNeg c) 31 (nI t).toNatClampNeg x) 32 (nI t).toNatClampNeg y) 33 (nI t).toNatClampNeg 0) 16 13 (nI t + 1) = _
  rw [hcl, nI_1, nI_1, mp_19, mp_a30, mp_a31, mp_a32, mp_a33, mp_13]
end WS

