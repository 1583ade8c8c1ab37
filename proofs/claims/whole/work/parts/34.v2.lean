/-! ===== a new pattern on both sides ===== -/
theorem vc_up {n : Nat} {c : Int32} (h : m_vc n c) : m_vc (n + 1) c := by
  obtain ⟨j, hj, e⟩ := h
  exact ⟨j, by omega, e⟩
theorem cd_up {n : Nat} {c : Int32} (h : m_cd n c) : m_cd (n + 1) c := by
  rcases h with h | h | h | h
  · exact Or.inl h
  · exact Or.inr (Or.inl h)
  · exact Or.inr (Or.inr (Or.inl h))
  · exact Or.inr (Or.inr (Or.inr (vc_up h)))
theorem m_in_50 {v : Int32} (h : ¬ m_in v 1 50 = 0) : ∃ j, 1 ≤ j ∧ j ≤ 50 ∧ v = nI j := by
  unfold m_in at h
  by_cases h1 : v < 1
  · rw [if_pos h1] at h; exact absurd rfl h
  · by_cases h2 : (50 : Int32) < v
    · rw [if_neg h1, if_pos h2] at h; exact absurd rfl h
    · have h0 : ¬ v < 0 := fun w => h1 (Int32.lt_trans w (by decide))
      obtain ⟨j, hj, rfl⟩ := nI_of h0
      refine ⟨j, ?_, ?_, rfl⟩
      · rcases Nat.lt_or_ge j 1 with w | w
        · exact absurd (nI_lt (a := j) (b := 1) w (by decide)) h1
        · exact w
      · rcases Nat.lt_or_ge 50 j with w | w
        · exact absurd (nI_lt (a := 50) (b := j) w hj) h2
        · exact w
theorem two_in {x y : Int32} (h : ¬ (if x = 0 then (0 : Int32) else if y = 0 then 0 else 1) = 0) : ¬ x = 0 ∧ ¬ y = 0 := by
  by_cases h1 : x = 0
  · rw [if_pos h1] at h; exact absurd rfl h
  · rw [if_neg h1] at h
    by_cases h2 : y = 0
    · rw [if_pos h2] at h; exact absurd rfl h
    · exact ⟨h1, h2⟩
theorem three_in {x y z : Int32} (h : ¬ (if x = 0 then (0 : Int32) else if y = 0 then 0 else if z = 0 then 0 else 1) = 0) : ¬ x = 0 ∧ ¬ y = 0 ∧ ¬ z = 0 := by
  by_cases h1 : x = 0
  · rw [if_pos h1] at h; exact absurd rfl h
  · rw [if_neg h1] at h
    exact ⟨h1, two_in h⟩
theorem in_4 {v : Int32} (h : ¬ m_in v 0 3 = 0) : m_vc 4 v := by
  obtain ⟨j, hj, e⟩ := m_in_n (b := 3) (by decide) h
  exact ⟨j, by omega, e⟩
theorem in_6 {v : Int32} (h : ¬ m_in v 0 5 = 0) : m_vc 6 v := by
  obtain ⟨j, hj, e⟩ := m_in_n (b := 5) (by decide) h
  exact ⟨j, by omega, e⟩
theorem th_3 {n : Nat} {a b c : Int32} : m_there (nI n - 1) (nI 3) a b c = m_in a 0 (nI n - 1) := by
  unfold m_there
  rw [if_neg (show ¬ nI 3 = 0 by decide), if_neg (show ¬ nI 3 = 1 by decide), if_neg (show ¬ nI 3 = 2 by decide), if_pos (show nI 3 = 3 by decide)]
theorem th_4 {n : Nat} {a b c : Int32} : m_there (nI n - 1) (nI 4) a b c = m_in a 0 (nI n - 1) := by
  unfold m_there
  rw [if_neg (show ¬ nI 4 = 0 by decide), if_neg (show ¬ nI 4 = 1 by decide), if_neg (show ¬ nI 4 = 2 by decide), if_neg (show ¬ nI 4 = 3 by decide), if_pos (show nI 4 = 4 by decide)]
theorem th_5 {n : Nat} {a b c : Int32} : m_there (nI n - 1) (nI 5) a b c = (if m_in a 0 (nI n - 1) = 0 then 0 else if m_in b 0 (nI n - 1) = 0 then 0 else 1) := by
  unfold m_there
  rw [if_neg (show ¬ nI 5 = 0 by decide), if_neg (show ¬ nI 5 = 1 by decide), if_neg (show ¬ nI 5 = 2 by decide), if_neg (show ¬ nI 5 = 3 by decide), if_neg (show ¬ nI 5 = 4 by decide), if_pos (show nI 5 = 5 by decide)]
theorem th_6 {n : Nat} {a b c : Int32} : m_there (nI n - 1) (nI 6) a b c = (if m_in a 0 (nI n - 1) = 0 then 0 else if m_in b 0 (nI n - 1) = 0 then 0 else if m_in c 0 (nI n - 1) = 0 then 0 else 1) := by
  unfold m_there
  rw [if_neg (show ¬ nI 6 = 0 by decide), if_neg (show ¬ nI 6 = 1 by decide), if_neg (show ¬ nI 6 = 2 by decide), if_neg (show ¬ nI 6 = 3 by decide), if_neg (show ¬ nI 6 = 4 by decide), if_neg (show ¬ nI 6 = 5 by decide), if_pos (show nI 6 = 6 by decide)]
theorem th_7 {n : Nat} {a b c : Int32} : m_there (nI n - 1) (nI 7) a b c = (if m_in a 0 (nI n - 1) = 0 then 0 else if m_in b 0 3 = 0 then 0 else 1) := by
  unfold m_there
  rw [if_neg (show ¬ nI 7 = 0 by decide), if_neg (show ¬ nI 7 = 1 by decide), if_neg (show ¬ nI 7 = 2 by decide), if_neg (show ¬ nI 7 = 3 by decide), if_neg (show ¬ nI 7 = 4 by decide), if_neg (show ¬ nI 7 = 5 by decide), if_neg (show ¬ nI 7 = 6 by decide), if_pos (show nI 7 = 7 by decide)]
theorem th_8 {n : Nat} {a b c : Int32} : m_there (nI n - 1) (nI 8) a b c = (if m_in a 0 (nI n - 1) = 0 then 0 else if m_in b 0 3 = 0 then 0 else 1) := by
  unfold m_there
  rw [if_neg (show ¬ nI 8 = 0 by decide), if_neg (show ¬ nI 8 = 1 by decide), if_neg (show ¬ nI 8 = 2 by decide), if_neg (show ¬ nI 8 = 3 by decide), if_neg (show ¬ nI 8 = 4 by decide), if_neg (show ¬ nI 8 = 5 by decide), if_neg (show ¬ nI 8 = 6 by decide), if_neg (show ¬ nI 8 = 7 by decide), if_pos (show nI 8 = 8 by decide)]
theorem th_9 {n : Nat} {a b c : Int32} : m_there (nI n - 1) (nI 9) a b c = m_in a 0 5 := by
  unfold m_there
  rw [if_neg (show ¬ nI 9 = 0 by decide), if_neg (show ¬ nI 9 = 1 by decide), if_neg (show ¬ nI 9 = 2 by decide), if_neg (show ¬ nI 9 = 3 by decide), if_neg (show ¬ nI 9 = 4 by decide), if_neg (show ¬ nI 9 = 5 by decide), if_neg (show ¬ nI 9 = 6 by decide), if_neg (show ¬ nI 9 = 7 by decide), if_neg (show ¬ nI 9 = 8 by decide), if_pos (show nI 9 = 9 by decide)]
theorem th_10 {n : Nat} {a b c : Int32} : m_there (nI n - 1) (nI 10) a b c = m_in a 0 (nI n - 1) := by
  unfold m_there
  rw [if_neg (show ¬ nI 10 = 0 by decide), if_neg (show ¬ nI 10 = 1 by decide), if_neg (show ¬ nI 10 = 2 by decide), if_neg (show ¬ nI 10 = 3 by decide), if_neg (show ¬ nI 10 = 4 by decide), if_neg (show ¬ nI 10 = 5 by decide), if_neg (show ¬ nI 10 = 6 by decide), if_neg (show ¬ nI 10 = 7 by decide), if_neg (show ¬ nI 10 = 8 by decide), if_neg (show ¬ nI 10 = 9 by decide), if_pos (show nI 10 = 10 by decide)]
theorem th_11 {n : Nat} {a b c : Int32} : m_there (nI n - 1) (nI 11) a b c = (if m_in a 0 (nI n - 1) = 0 then 0 else if m_in b 0 (nI n - 1) = 0 then 0 else 1) := by
  unfold m_there
  rw [if_neg (show ¬ nI 11 = 0 by decide), if_neg (show ¬ nI 11 = 1 by decide), if_neg (show ¬ nI 11 = 2 by decide), if_neg (show ¬ nI 11 = 3 by decide), if_neg (show ¬ nI 11 = 4 by decide), if_neg (show ¬ nI 11 = 5 by decide), if_neg (show ¬ nI 11 = 6 by decide), if_neg (show ¬ nI 11 = 7 by decide), if_neg (show ¬ nI 11 = 8 by decide), if_neg (show ¬ nI 11 = 9 by decide), if_neg (show ¬ nI 11 = 10 by decide), if_pos (show nI 11 = 11 by decide)]
theorem th_12 {n : Nat} {a b c : Int32} : m_there (nI n - 1) (nI 12) a b c = m_in a 0 (nI n - 1) := by
  unfold m_there
  rw [if_neg (show ¬ nI 12 = 0 by decide), if_neg (show ¬ nI 12 = 1 by decide), if_neg (show ¬ nI 12 = 2 by decide), if_neg (show ¬ nI 12 = 3 by decide), if_neg (show ¬ nI 12 = 4 by decide), if_neg (show ¬ nI 12 = 5 by decide), if_neg (show ¬ nI 12 = 6 by decide), if_neg (show ¬ nI 12 = 7 by decide), if_neg (show ¬ nI 12 = 8 by decide), if_neg (show ¬ nI 12 = 9 by decide), if_neg (show ¬ nI 12 = 10 by decide), if_neg (show ¬ nI 12 = 11 by decide), if_pos (show nI 12 = 12 by decide)]
theorem th_13 {n : Nat} {a b c : Int32} : m_there (nI n - 1) (nI 13) a b c = m_in a 0 5 := by
  unfold m_there
  rw [if_neg (show ¬ nI 13 = 0 by decide), if_neg (show ¬ nI 13 = 1 by decide), if_neg (show ¬ nI 13 = 2 by decide), if_neg (show ¬ nI 13 = 3 by decide), if_neg (show ¬ nI 13 = 4 by decide), if_neg (show ¬ nI 13 = 5 by decide), if_neg (show ¬ nI 13 = 6 by decide), if_neg (show ¬ nI 13 = 7 by decide), if_neg (show ¬ nI 13 = 8 by decide), if_neg (show ¬ nI 13 = 9 by decide), if_neg (show ¬ nI 13 = 10 by decide), if_neg (show ¬ nI 13 = 11 by decide), if_neg (show ¬ nI 13 = 12 by decide), if_pos (show nI 13 = 13 by decide)]
/-- what is known of a pattern that both sides take -/
theorem there_ok {n s : Nat} {a b c : Int32} (hn : n ≤ 60) (hs : s ≤ 13) (h : ¬ m_there (nI n - 1) (nI s) a b c = 0) :
    (3 ≤ s → s ≠ 9 → s ≠ 13 → m_vc n a) ∧ ((s = 5 ∨ s = 6 ∨ s = 11) → m_vc n b) ∧ (s = 6 → m_vc n c) ∧ ((s = 7 ∨ s = 8) → m_vc 4 b) ∧ ((s = 9 ∨ s = 13) → m_vc 6 a) := by
  rcases (show s = 0 ∨ s = 1 ∨ s = 2 ∨ s = 3 ∨ s = 4 ∨ s = 5 ∨ s = 6 ∨ s = 7 ∨ s = 8 ∨ s = 9 ∨ s = 10 ∨ s = 11 ∨ s = 12 ∨ s = 13 by omega) with rfl | rfl | rfl | rfl | rfl | rfl | rfl | rfl | rfl | rfl | rfl | rfl | rfl | rfl
  · exact ⟨fun w => by omega, fun w => by omega, fun w => by omega, fun w => by omega, fun w => by omega⟩
  · exact ⟨fun w => by omega, fun w => by omega, fun w => by omega, fun w => by omega, fun w => by omega⟩
  · exact ⟨fun w => by omega, fun w => by omega, fun w => by omega, fun w => by omega, fun w => by omega⟩
  · rw [th_3] at h
    exact ⟨fun _ _ _ => l_inp hn h, fun w => by omega, fun w => by omega, fun w => by omega, fun w => by omega⟩
  · rw [th_4] at h
    exact ⟨fun _ _ _ => l_inp hn h, fun w => by omega, fun w => by omega, fun w => by omega, fun w => by omega⟩
  · rw [th_5] at h
    have h := two_in (x := m_in a 0 (nI n - 1)) (y := m_in b 0 (nI n - 1)) h
    exact ⟨fun _ _ _ => l_inp hn h.1, fun _ => l_inp hn h.2, fun w => by omega, fun w => by omega, fun w => by omega⟩
  · rw [th_6] at h
    have h := three_in (x := m_in a 0 (nI n - 1)) (y := m_in b 0 (nI n - 1)) (z := m_in c 0 (nI n - 1)) h
    exact ⟨fun _ _ _ => l_inp hn h.1, fun _ => l_inp hn h.2.1, fun _ => l_inp hn h.2.2, fun w => by omega, fun w => by omega⟩
  · rw [th_7] at h
    have h := two_in (x := m_in a 0 (nI n - 1)) (y := m_in b 0 3) h
    exact ⟨fun _ _ _ => l_inp hn h.1, fun w => by omega, fun w => by omega, fun _ => in_4 h.2, fun w => by omega⟩
  · rw [th_8] at h
    have h := two_in (x := m_in a 0 (nI n - 1)) (y := m_in b 0 3) h
    exact ⟨fun _ _ _ => l_inp hn h.1, fun w => by omega, fun w => by omega, fun _ => in_4 h.2, fun w => by omega⟩
  · rw [th_9] at h
    exact ⟨fun _ w => absurd rfl w, fun w => by omega, fun w => by omega, fun w => by omega, fun _ => in_6 h⟩
  · rw [th_10] at h
    exact ⟨fun _ _ _ => l_inp hn h, fun w => by omega, fun w => by omega, fun w => by omega, fun w => by omega⟩
  · rw [th_11] at h
    have h := two_in (x := m_in a 0 (nI n - 1)) (y := m_in b 0 (nI n - 1)) h
    exact ⟨fun _ _ _ => l_inp hn h.1, fun _ => l_inp hn h.2, fun w => by omega, fun w => by omega, fun w => by omega⟩
  · rw [th_12] at h
    exact ⟨fun _ _ _ => l_inp hn h, fun w => by omega, fun w => by omega, fun w => by omega, fun w => by omega⟩
  · rw [th_13] at h
    exact ⟨fun _ _ w => absurd rfl w, fun w => by omega, fun w => by omega, fun w => by omega, fun _ => in_6 h⟩
section VP
variable {I : Nat → Nat → Int32} {n : Nat} {s a b c : Int32}
theorem pt_o {h k : Nat} (h16 : h ≠ 16) (h21 : h ≠ 21) : m_pt I n s a b c h k = m_p6 I n s a b c h k := by
  unfold m_pt
  rw [a_wn h16]
  by_cases e : s = 8
  · rw [if_pos e]
    unfold m_cpy
    rw [if_neg (fun w => h21 w.1)]
  · rw [if_neg e]
theorem p6_o {h k : Nat} (h1 : h < 17 ∨ 23 < h ∨ h = 21) : m_p6 I n s a b c h k = I h k := by
  unfold m_p6
  rw [a_wn (by omega), a_wn (by omega), a_wn (by omega), a_wn (by omega), a_wn (by omega), a_wn (by omega)]
theorem pt_oo {h k : Nat} (h1 : h < 16 ∨ 23 < h) : m_pt I n s a b c h k = I h k := by
  rw [pt_o (by omega) (by omega), p6_o (by omega)]
theorem pt_17 {p : Nat} : m_pt I n s a b c 17 p = if p = n then s else I 17 p := by
  rw [pt_o (by decide) (by decide)]; simp [m_p6, a_w]
theorem pt_18 {p : Nat} : m_pt I n s a b c 18 p = if p = n then a else I 18 p := by
  rw [pt_o (by decide) (by decide)]; simp [m_p6, a_w]
theorem pt_19 {p : Nat} : m_pt I n s a b c 19 p = if p = n then b else I 19 p := by
  rw [pt_o (by decide) (by decide)]; simp [m_p6, a_w]
theorem pt_20 {p : Nat} : m_pt I n s a b c 20 p = if p = n then c else I 20 p := by
  rw [pt_o (by decide) (by decide)]; simp [m_p6, a_w]
theorem pt_23 {p : Nat} : m_pt I n s a b c 23 p = if p = n then 0 else I 23 p := by
  rw [pt_o (by decide) (by decide)]; simp [m_p6, a_w]
theorem pt_22 {p : Nat} : m_pt I n s a b c 22 p = if p = n then (if s = 13 then I 25 a.toNatClampNeg else -1) else I 22 p := by
  rw [pt_o (by decide) (by decide)]; simp [m_p6, a_w]
theorem pt_16 {k : Nat} : m_pt I n s a b c 16 k = if k = 0 then nI (n + 1) else I 16 k := by
  unfold m_pt
  by_cases hk : k = 0
  · rw [if_pos hk]; unfold a_w; rw [if_pos ⟨rfl, hk⟩]
  · rw [if_neg hk]
    unfold a_w
    rw [if_neg (fun w => hk w.2)]
    by_cases e : s = 8
    · rw [if_pos e]
      unfold m_cpy
      rw [if_neg (by omega), p6_o (by omega)]
    · rw [if_neg e, p6_o (by omega)]
theorem pt_21 {j : Nat} (hj : j < 8 * n) : m_pt I n s a b c 21 j = I 21 j := by
  unfold m_pt
  rw [a_wn (by decide)]
  by_cases e : s = 8
  · rw [if_pos e]
    unfold m_cpy
    rw [if_neg (by omega), p6_o (by omega)]
  · rw [if_neg e, p6_o (by omega)]
theorem pt_21n {j d : Nat} (hs : s = 8) (hd : d < 4) (hb : b = nI d) (hj : j < 8) : m_pt I n s a b c 21 (8 * n + j) = I 24 (8 * d + j) := by
  unfold m_pt
  rw [a_wn (by decide), if_pos hs]
  unfold m_cpy
  rw [if_pos ⟨rfl, by omega, by omega⟩, p6_o (by omega), Nat.add_sub_cancel_left, hb, nI_clamp (by omega)]
end VP
set_option maxHeartbeats 1000000 in
theorem v_pat {I I' : Nat → Nat → Int32} {F F' : Nat → Nat → Option Nat} {B B' : Nat → Bool} {n sz wd : Nat} {s a b c : Int32} (hv : v_I I F B n sz wd) (hlt : n < 60) (h13 : ¬ m_in s 0 13 = 0) (hth : ¬ m_there (nI n - 1) s a b c = 0) (hbad : ¬ m_bad s b) (hN : l_new I F B n s a b c I' F' B') : v_I (m_pt I' n s a b c) F' B' (n + 1) sz wd := by
  obtain ⟨s', hs', rfl⟩ := m_in_n (b := 13) (by decide) h13
  obtain ⟨v1, v2, v3, v4, v5, v6, v7, v8, v9, v10⟩ := hv
  obtain ⟨⟨hle, hok, hnm⟩, d1, d2, d3, d5, d6, d7, d8, b64, b65, m64, m65, f65⟩ := v1
  obtain ⟨n1, n2, ⟨n30, n31, n32, n33, n36⟩, n4, n5, n6, n7, n9, n10⟩ := hN
  obtain ⟨o1, o2, o3, o4, o5⟩ := there_ok hle hs' hth
  -- the reference's arrays, in the words of before
  have q17 : ∀ p, m_pt I' n (nI s') a b c 17 p = if p = n then nI s' else I 17 p := fun p => by rw [pt_17, n2 17 p (by omega) (by omega) (by omega)]
  have q18 : ∀ p, m_pt I' n (nI s') a b c 18 p = if p = n then a else I 18 p := fun p => by rw [pt_18, n2 18 p (by omega) (by omega) (by omega)]
  have q19 : ∀ p, m_pt I' n (nI s') a b c 19 p = if p = n then b else I 19 p := fun p => by rw [pt_19, n2 19 p (by omega) (by omega) (by omega)]
  have q20 : ∀ p, m_pt I' n (nI s') a b c 20 p = if p = n then c else I 20 p := fun p => by rw [pt_20, n2 20 p (by omega) (by omega) (by omega)]
  have q23 : ∀ p, m_pt I' n (nI s') a b c 23 p = if p = n then 0 else I 23 p := fun p => by rw [pt_23, n2 23 p (by omega) (by omega) (by omega)]
  have q22 : ∀ p, m_pt I' n (nI s') a b c 22 p = if p = n then (if nI s' = 13 then I 25 a.toNatClampNeg else -1) else I 22 p := fun p => by rw [pt_22, n2 22 p (by omega) (by omega) (by omega), n2 25 _ (by omega) (by omega) (by omega)]
  have q25 : ∀ k, m_pt I' n (nI s') a b c 25 k = I 25 k := fun k => by rw [pt_oo (by omega), n2 25 k (by omega) (by omega) (by omega)]
  have q24 : ∀ k, m_pt I' n (nI s') a b c 24 k = I 24 k := fun k => by rw [pt_oo (by omega), n2 24 k (by omega) (by omega) (by omega)]
  have q21 : ∀ j, j < 8 * n → m_pt I' n (nI s') a b c 21 j = I 21 j := fun j hj => by rw [pt_21 hj, n2 21 j (by omega) (by omega) (by omega)]
  have q16 : ∀ k, k ≠ 0 → m_pt I' n (nI s') a b c 16 k = I 16 k := fun k hk => by rw [pt_16, if_neg hk, n2 16 k (by omega) (by omega) (by omega)]
  have qo : ∀ h k, (h < 16 ∨ 23 < h) → h ≠ 66 + n → h ≠ 128 + n → ¬ (h = 0 ∧ k = 4) → m_pt I' n (nI s') a b c h k = I h k := fun h k h1 h2 h3 h4 => by rw [pt_oo h1, n2 h k h2 h3 h4]
  have qn : ∀ k, m_pt I' n (nI s') a b c (66 + n) k = I' (66 + n) k := fun k => pt_oo (by omega)
  have qr : ∀ k, m_pt I' n (nI s') a b c (128 + n) k = I' (128 + n) k := fun k => pt_oo (by omega)
  have q04 : m_pt I' n (nI s') a b c 0 4 = nI (n + 1) := by rw [pt_oo (by omega), n1]
  have q160 : m_pt I' n (nI s') a b c 16 0 = nI (n + 1) := by rw [pt_16, if_pos rfl]
  have q21n : nI s' = 8 → ∀ d, d < 4 → b = nI d → ∀ j, j < 8 → m_pt I' n (nI s') a b c 21 (8 * n + j) = I 24 (8 * d + j) := fun e d hd hb j hj => by rw [pt_21n e hd hb hj, n2 24 _ (by omega) (by omega) (by omega)]
  generalize m_pt I' n (nI s') a b c = M at *
  have cs : ∀ t : Nat, t ≤ 15 → nI s' = nI t → s' = t := fun t ht e => (nI_eq (by omega) (by omega)).mp e
  refine ⟨⟨⟨hlt, fun p hp => ?_, fun k hk => ?_⟩, q04, fun p hp => ?_, fun p hp => ?_, fun p hp h8 => ?_, fun p hp h13' => ?_, fun k hk => ?_, fun d hd i hi => ?_, ?_, ?_, ?_, ?_, ?_⟩, q160, fun p hp h10 => ?_, fun q hq => ?_, ⟨?_, ?_, ?_⟩, ⟨?_, ?_, v6.2.2⟩, ⟨?_, ?_, v7.2.2⟩, v8, ?_, fun p hp1 hp2 => ?_⟩
  · unfold m_ok
    rw [q17, q18, q19, q20, q22]
    by_cases e : p = n
    · rw [if_pos e, if_pos e, if_pos e, if_pos e, if_pos e]
      refine ⟨s', hs', rfl, fun w1 w2 w3 => vc_up (o1 w1 w2 w3), fun w => vc_up (o2 w), fun w => vc_up (o3 w), o4, o5, fun w => ?_⟩
      rw [if_pos (show nI s' = 13 by rw [w]; rfl)]
      obtain ⟨j, hj, ea⟩ := o5 (Or.inr w)
      rw [ea, nI_clamp (by omega)]
      exact cd_up (hnm j hj)
    · rw [if_neg e, if_neg e, if_neg e, if_neg e, if_neg e]
      obtain ⟨t, t1, t2, t3, t4, t5, t6, t7, t8⟩ := hok p (by omega)
      exact ⟨t, t1, t2, fun w1 w2 w3 => vc_up (t3 w1 w2 w3), fun w => vc_up (t4 w), fun w => vc_up (t5 w), t6, t7, fun w => cd_up (t8 w)⟩
  · rw [q25]; exact cd_up (hnm k hk)
  · by_cases e : p = n
    · rw [e]; exact n5
    · rw [n4 3 p (by omega) (by omega) (by omega)]; exact d2 p (by omega)
  · rw [q17, q18, q19, q20]
    by_cases e : p = n
    · rw [if_pos e, if_pos e, if_pos e, if_pos e, e, qn, qn, qn, qn]
      exact ⟨n7, n30, n31, n32, n33⟩
    · rw [if_neg e, if_neg e, if_neg e, if_neg e, qo _ 0 (by omega) (by omega) (by omega) (by omega), qo _ 1 (by omega) (by omega) (by omega) (by omega), qo _ 2 (by omega) (by omega) (by omega) (by omega), qo _ 3 (by omega) (by omega) (by omega) (by omega), n6 _ (by omega) (by omega)]
      exact d3 p (by omega)
  · rw [q17] at h8
    by_cases e : p = n
    · rw [if_pos e] at h8
      subst e
      obtain ⟨w1, w2, w3⟩ := n9 h8
      refine ⟨w1, w2, fun j hj => ?_⟩
      obtain ⟨d, hd, hb⟩ := o4 (Or.inr (cs 8 (by decide) h8))
      rw [qr, w3 d hd hb j, q21n h8 d hd hb j hj]
      exact d8 d hd j hj
    · rw [if_neg e] at h8
      rw [n4 _ _ (by omega) (by omega) (by omega), n6 _ (by omega) (by omega)]
      obtain ⟨w1, w2, w3⟩ := d5 p (by omega) h8
      refine ⟨w1, w2, fun j hj => ?_⟩
      rw [qo _ _ (by omega) (by omega) (by omega) (by omega), q21 _ (by omega)]
      exact w3 j hj
  · rw [q17] at h13'
    rw [q22]
    by_cases e : p = n
    · rw [if_pos e] at h13' ⊢
      rw [if_pos h13', e, n10 h13']
      obtain ⟨j, hj, ea⟩ := o5 (Or.inr (cs 13 (by decide) h13'))
      rw [ea, nI_clamp (by omega)]
      exact d7 j hj
    · rw [if_neg e] at h13' ⊢
      rw [n4 _ _ (by omega) (by omega) (by omega)]
      exact d6 p (by omega) h13'
  · rw [q25, n4 _ _ (by omega) (by omega) (by omega)]; exact d7 k hk
  · rw [q24, qo _ _ (by omega) (by omega) (by omega) (by omega)]; exact d8 d hd i hi
  · rw [n6 _ (by omega) (by omega)]; exact b64
  · rw [n6 _ (by omega) (by omega)]; exact b65
  · rw [qo _ _ (by omega) (by omega) (by omega) (by omega)]; exact m64
  · rw [qo _ _ (by omega) (by omega) (by omega) (by omega)]; exact m65
  · rw [qo _ _ (by omega) (by omega) (by omega) (by omega)]; exact f65
  · rw [q17] at h10
    rw [q19]
    show ∃ w b' : Nat, M (66 + p) 6 = nI w ∧ _
    by_cases e : p = n
    · rw [if_pos e] at h10 ⊢
      have hb : ¬ m_in b 1 50 = 0 := fun w => hbad (Or.inr (Or.inl ⟨h10, w⟩))
      obtain ⟨b', h1, h2, e2⟩ := m_in_50 hb
      exact ⟨0, b', by rw [e, qn, n36]; rfl, e2, by omega, h2⟩
    · rw [if_neg e] at h10 ⊢
      rw [qo _ _ (by omega) (by omega) (by omega) (by omega)]
      exact v3 p (by omega) h10
  · rw [q23]
    by_cases e : q = n
    · rw [if_pos e, e, qn, n36]
    · rw [if_neg e, qo _ _ (by omega) (by omega) (by omega) (by omega)]
      exact v4 q hq
  · rw [q16 _ (by decide), qo _ _ (by omega) (by omega) (by omega) (by omega)]; exact v5.1
  · rw [q16 _ (by decide), qo _ _ (by omega) (by omega) (by omega) (by omega)]; exact v5.2.1
  · rw [q16 _ (by decide), qo _ _ (by omega) (by omega) (by omega) (by omega)]; exact v5.2.2
  · rw [qo _ _ (by omega) (by omega) (by omega) (by omega)]; exact v6.1
  · rw [q16 _ (by decide)]; exact v6.2.1
  · rw [qo _ _ (by omega) (by omega) (by omega) (by omega)]; exact v7.1
  · rw [q16 _ (by decide)]; exact v7.2.1
  · funext j
    rw [qo _ _ (by omega) (by omega) (by omega) (by omega), qo _ _ (by omega) (by omega) (by omega) (by omega)]
    exact congrFun v9 j
  · rw [n6 _ (by omega) (by omega), n6 _ (by omega) (by omega)]
    exact v10 p (by omega) hp2

