/-! ===== the transformers' soundness: locals, stack, numbers, branches ===== -/
theorem a_cat (q : Nat → Nat) (v : aV) : (a_val q v).category = 1 := by
  cases v with
  | inl x => rfl
  | inr r => cases r <;> rfl
theorem a_okI {σ : aS} {st : List aV} (x : Int32) (h : ∀ v ∈ st, a_ok σ v) : ∀ v ∈ (Sum.inl x :: st : List aV), a_ok σ v := by
  intro v hv
  rcases List.mem_cons.mp hv with rfl | hv
  · intro h' e; cases e
  · exact h v hv
theorem a_okC {σ : aS} {st : List aV} {w : aV} (hw : a_ok σ w) (h : ∀ v ∈ st, a_ok σ v) : ∀ v ∈ (w :: st : List aV), a_ok σ v := by
  intro v hv
  rcases List.mem_cons.mp hv with rfl | hv
  · exact hw
  · exact h v hv
theorem a_okN {σ : aS} : a_ok σ (.inr none) := fun h e => by cases e
theorem a_okT {σ : aS} {st : List aV} {w : aV} (h : ∀ v ∈ (w :: st : List aV), a_ok σ v) : ∀ v ∈ st, a_ok σ v := fun v hv => h v (List.mem_cons_of_mem _ hv)
theorem a_gd {L : aL} {i : Nat} {v : aV} (h : L.getD i none = some v) : L[i]? = some (some v) := by
  rw [List.getD_eq_getElem?_getD] at h
  cases hx : L[i]? with
  | none => rw [hx] at h; cases h
  | some y => rw [hx] at h; exact congrArg some h
def a_lv (q : Nat → Nat) (L : aL) : List (Nat × Value) := (List.range L.length).filterMap (fun i => ((L[i]?).join).map (fun v => (i, a_val q v)))
theorem a_lv_mem {q : Nat → Nat} {L : aL} {i : Nat} {w : Value} : (i, w) ∈ a_lv q L ↔ ∃ v, L[i]? = some (some v) ∧ w = a_val q v := by
  unfold a_lv
  rw [List.mem_filterMap]
  constructor
  · rintro ⟨j, hj, h⟩
    cases hx : (L[j]?).join with
    | none => rw [hx] at h; cases h
    | some v =>
      rw [hx] at h
      have h9 : (j, a_val q v) = (i, w) := Option.some.inj h
      have e1 : j = i := congrArg Prod.fst h9
      have e2 : a_val q v = w := congrArg Prod.snd h9
      subst e1
      refine ⟨v, ?_, e2.symm⟩
      cases hy : L[j]? with
      | none => rw [hy] at hx; cases hx
      | some z => rw [hy] at hx; exact congrArg some hx
  · rintro ⟨v, h, rfl⟩
    exact ⟨i, List.mem_range.mpr (List.getElem?_eq_some_iff.mp h).1, by rw [h]; rfl⟩
theorem a_ls_has {q : Nat → Nat} {nL : Nat} {L : aL} {ls : Array Slot} (h : a_ls q nL L ls) : lv_has ls nL (a_lv q L) := by
  obtain ⟨h1, h2, h3, h4⟩ := h
  refine ⟨h1, h3, fun x hx => ?_⟩
  obtain ⟨i, w⟩ := x
  obtain ⟨v, hv, rfl⟩ := a_lv_mem.mp hx
  exact h4 i v hv
theorem a_ls_st {q : Nat → Nat} {nL : Nat} {L : aL} {ls ls' : Array Slot} {i : Nat} {v : aV} (h : a_ls q nL L ls) (h' : lv_has ls' nL ((i, a_val q v) :: (a_lv q L).filter (fun q => !(q.1 == i) && !(q.1 + 1 == i && q.2.category == 2)))) : a_ls q nL (L.set i (some v)) ls' := by
  obtain ⟨h1, h2, h3, h4⟩ := h
  obtain ⟨g1, g2, g3⟩ := h'
  refine ⟨g1, by rw [List.length_set]; exact h2, g2, fun j w hw => ?_⟩
  rw [List.getElem?_set] at hw
  by_cases hij : i = j
  · subst hij
    rw [if_pos rfl] at hw
    split at hw
    · cases hw
      exact g3 _ List.mem_cons_self
    · cases hw
  · rw [if_neg hij] at hw
    refine g3 (j, a_val q w) (List.mem_cons_of_mem _ (List.mem_filter.mpr ⟨a_lv_mem.mpr ⟨w, hw, rfl⟩, ?_⟩))
    have e1 : (j == i) = false := by simp; exact fun e => hij e.symm
    simp [e1, a_cat]
theorem a_okS {σ : aS} {L : aL} {i : Nat} {v : aV} (h : ∀ (i : Nat) (v : aV), L[i]? = some (some v) → a_ok σ v) (hv : a_ok σ v) : ∀ (j : Nat) (w : aV), (L.set i (some v))[j]? = some (some w) → a_ok σ w := by
  intro j w hw
  rw [List.getElem?_set] at hw
  by_cases hij : i = j
  · rw [if_pos hij] at hw
    split at hw
    · cases hw; exact hv
    · cases hw
  · rw [if_neg hij] at hw
    exact h j w hw
section AP
variable {X : a_X} {cc : ByteArray} {rt : Option FieldType} {own : String} {pc : Nat}
theorem s_ic (C : a_C X cc rt own) {n : Int} {v : Int32} (hd : decode cc pc = .ok (.iconst n, 1)) (hv : Int32.ofInt n = v) : a_Sd X pc (t_ic v (pc + 1)) := by
  obtain ⟨p, l, e, R, s, m, args, below, meth, c, Q, D, G, N0, nL, q0, σ0⟩ := X
  obtain ⟨hx, hb, -⟩ := C
  intro k L st σ kc ks h hk q H locs ls hR hl hL hst hS hq
  exact lv_iconst hx hb hd hv (hk _ _ _ _ _ _ h q H locs ls hR hl hL (a_okI _ hst) hS hq)
theorem s_bi (C : a_C X cc rt own) {n : Int} {v : Int32} (hd : decode cc pc = .ok (.bipush n, 2)) (hv : (Int8.ofInt n).toInt32 = v) : a_Sd X pc (t_ic v (pc + 2)) := by
  obtain ⟨p, l, e, R, s, m, args, below, meth, c, Q, D, G, N0, nL, q0, σ0⟩ := X
  obtain ⟨hx, hb, -⟩ := C
  intro k L st σ kc ks h hk q H locs ls hR hl hL hst hS hq
  exact lv_bipush hx hb hd hv (hk _ _ _ _ _ _ h q H locs ls hR hl hL (a_okI _ hst) hS hq)
theorem s_si (C : a_C X cc rt own) {n : Int} {v : Int32} (hd : decode cc pc = .ok (.sipush n, 3)) (hv : (Int16.ofInt n).toInt32 = v) : a_Sd X pc (t_ic v (pc + 3)) := by
  obtain ⟨p, l, e, R, s, m, args, below, meth, c, Q, D, G, N0, nL, q0, σ0⟩ := X
  obtain ⟨hx, hb, -⟩ := C
  intro k L st σ kc ks h hk q H locs ls hR hl hL hst hS hq
  exact lv_sipush hx hb hd hv (hk _ _ _ _ _ _ h q H locs ls hR hl hL (a_okI _ hst) hS hq)
theorem s_ildn (C : a_C X cc rt own) {f : Fin 4} {i : Nat} (hd : decode cc pc = .ok (.iload_n f, 1)) (hi : (f : Nat) = i) : a_Sd X pc (t_ild i (pc + 1)) := by
  obtain ⟨p, l, e, R, s, m, args, below, meth, c, Q, D, G, N0, nL, q0, σ0⟩ := X
  obtain ⟨hx, hb, -⟩ := C
  intro k L st σ kc ks h hk q H locs ls hR hl hL hst hS hq
  unfold t_ild at h
  split at h
  · rename_i x e
    exact lv_iload_n hx hb hd hi (hl.2.2.2 i _ (a_gd e)) (hk _ _ _ _ _ _ h q H locs ls hR hl hL (a_okI _ hst) hS hq)
  · exact h.elim
theorem s_ild (C : a_C X cc rt own) {i : Nat} (hd : decode cc pc = .ok (.iload i, 2)) : a_Sd X pc (t_ild i (pc + 2)) := by
  obtain ⟨p, l, e, R, s, m, args, below, meth, c, Q, D, G, N0, nL, q0, σ0⟩ := X
  obtain ⟨hx, hb, -⟩ := C
  intro k L st σ kc ks h hk q H locs ls hR hl hL hst hS hq
  unfold t_ild at h
  split at h
  · rename_i x e
    exact lv_iload hx hb hd (hl.2.2.2 i _ (a_gd e)) (hk _ _ _ _ _ _ h q H locs ls hR hl hL (a_okI _ hst) hS hq)
  · exact h.elim
theorem s_aldn (C : a_C X cc rt own) {f : Fin 4} {i : Nat} (hd : decode cc pc = .ok (.aload_n f, 1)) (hi : (f : Nat) = i) : a_Sd X pc (t_ald i (pc + 1)) := by
  obtain ⟨p, l, e, R, s, m, args, below, meth, c, Q, D, G, N0, nL, q0, σ0⟩ := X
  obtain ⟨hx, hb, -⟩ := C
  intro k L st σ kc ks h hk q H locs ls hR hl hL hst hS hq
  unfold t_ald at h
  split at h
  · rename_i r e
    have e1 := hl.2.2.2 i _ (a_gd e)
    have e2 := hk _ _ _ _ _ _ h q H locs ls hR hl hL (a_okC (hL i _ (a_gd e)) hst) hS hq
    cases r with
    | none => exact lv_aload_nN hx hb hd hi e1 e2
    | some y => exact lv_aload_n hx hb hd hi e1 e2
  · exact h.elim
theorem s_ald (C : a_C X cc rt own) {i : Nat} (hd : decode cc pc = .ok (.aload i, 2)) : a_Sd X pc (t_ald i (pc + 2)) := by
  obtain ⟨p, l, e, R, s, m, args, below, meth, c, Q, D, G, N0, nL, q0, σ0⟩ := X
  obtain ⟨hx, hb, -⟩ := C
  intro k L st σ kc ks h hk q H locs ls hR hl hL hst hS hq
  unfold t_ald at h
  split at h
  · rename_i r e
    have e1 := hl.2.2.2 i _ (a_gd e)
    have e2 := hk _ _ _ _ _ _ h q H locs ls hR hl hL (a_okC (hL i _ (a_gd e)) hst) hS hq
    cases r with
    | none => exact lv_aloadN hx hb hd e1 e2
    | some y => exact lv_aload hx hb hd e1 e2
  · exact h.elim
theorem s_istn (C : a_C X cc rt own) {f : Fin 4} {i : Nat} (hd : decode cc pc = .ok (.istore_n f, 1)) (hi : (f : Nat) = i) : a_Sd X pc (t_ist i (pc + 1)) := by
  obtain ⟨p, l, e, R, s, m, args, below, meth, c, Q, D, G, N0, nL, q0, σ0⟩ := X
  obtain ⟨hx, hb, -⟩ := C
  intro k L st σ kc ks h hk q H locs ls hR hl hL hst hS hq
  unfold t_ist at h
  split at h
  · obtain ⟨e, h⟩ := a_ge h
    have hn : i < nL := by rw [← hl.2.1]; exact of_decide_eq_true e
    exact lv_istore_n hx hb hd hi (a_ls_has hl) hn rfl (fun ls' h' => hk _ _ _ _ _ _ h q H locs ls' hR (a_ls_st hl h') (a_okS hL (fun h e => by cases e)) (a_okT hst) hS hq)
  · exact h.elim
theorem s_ist (C : a_C X cc rt own) {i : Nat} (hd : decode cc pc = .ok (.istore i, 2)) : a_Sd X pc (t_ist i (pc + 2)) := by
  obtain ⟨p, l, e, R, s, m, args, below, meth, c, Q, D, G, N0, nL, q0, σ0⟩ := X
  obtain ⟨hx, hb, -⟩ := C
  intro k L st σ kc ks h hk q H locs ls hR hl hL hst hS hq
  unfold t_ist at h
  split at h
  · obtain ⟨e, h⟩ := a_ge h
    have hn : i < nL := by rw [← hl.2.1]; exact of_decide_eq_true e
    exact lv_istore hx hb hd (a_ls_has hl) hn rfl (fun ls' h' => hk _ _ _ _ _ _ h q H locs ls' hR (a_ls_st hl h') (a_okS hL (fun h e => by cases e)) (a_okT hst) hS hq)
  · exact h.elim
theorem s_astn (C : a_C X cc rt own) {f : Fin 4} {i : Nat} (hd : decode cc pc = .ok (.astore_n f, 1)) (hi : (f : Nat) = i) : a_Sd X pc (t_ast i (pc + 1)) := by
  obtain ⟨p, l, e, R, s, m, args, below, meth, c, Q, D, G, N0, nL, q0, σ0⟩ := X
  obtain ⟨hx, hb, -⟩ := C
  intro k L st σ kc ks h hk q H locs ls hR hl hL hst hS hq
  unfold t_ast at h
  split at h
  · rename_i r st'
    obtain ⟨e, h⟩ := a_ge h
    have hn : i < nL := by rw [← hl.2.1]; exact of_decide_eq_true e
    have hv := hst _ List.mem_cons_self
    cases r with
    | none => exact lv_astore_nN hx hb hd hi (a_ls_has hl) hn rfl (fun ls' h' => hk _ _ _ _ _ _ h q H locs ls' hR (a_ls_st (v := .inr none) hl h') (a_okS hL hv) (a_okT hst) hS hq)
    | some y => exact lv_astore_n hx hb hd hi (a_ls_has hl) hn rfl (fun ls' h' => hk _ _ _ _ _ _ h q H locs ls' hR (a_ls_st (v := .inr (some y)) hl h') (a_okS hL hv) (a_okT hst) hS hq)
  · exact h.elim
theorem s_ast (C : a_C X cc rt own) {i : Nat} (hd : decode cc pc = .ok (.astore i, 2)) : a_Sd X pc (t_ast i (pc + 2)) := by
  obtain ⟨p, l, e, R, s, m, args, below, meth, c, Q, D, G, N0, nL, q0, σ0⟩ := X
  obtain ⟨hx, hb, -⟩ := C
  intro k L st σ kc ks h hk q H locs ls hR hl hL hst hS hq
  unfold t_ast at h
  split at h
  · rename_i r st'
    obtain ⟨e, h⟩ := a_ge h
    have hn : i < nL := by rw [← hl.2.1]; exact of_decide_eq_true e
    have hv := hst _ List.mem_cons_self
    cases r with
    | none => exact lv_astoreN hx hb hd (a_ls_has hl) hn rfl (fun ls' h' => hk _ _ _ _ _ _ h q H locs ls' hR (a_ls_st (v := .inr none) hl h') (a_okS hL hv) (a_okT hst) hS hq)
    | some y => exact lv_astore hx hb hd (a_ls_has hl) hn rfl (fun ls' h' => hk _ _ _ _ _ _ h q H locs ls' hR (a_ls_st (v := .inr (some y)) hl h') (a_okS hL hv) (a_okT hst) hS hq)
  · exact h.elim
theorem s_iinc (C : a_C X cc rt own) {i : Nat} {n : Int} {d : Int32} (hd : decode cc pc = .ok (.iinc i n, 3)) (hn : Int32.ofInt n = d) : a_Sd X pc (t_iinc i d (pc + 3)) := by
  obtain ⟨p, l, e, R, s, m, args, below, meth, c, Q, D, G, N0, nL, q0, σ0⟩ := X
  obtain ⟨hx, hb, -⟩ := C
  intro k L st σ kc ks h hk q H locs ls hR hl hL hst hS hq
  unfold t_iinc at h
  split at h
  · rename_i x e
    have e1 := a_gd e
    obtain ⟨j, hj⟩ := List.getElem?_of_mem (a_lv_mem (q := q).mpr ⟨_, e1, rfl⟩)
    have hi : i < nL := by rw [← hl.2.1]; exact (List.getElem?_eq_some_iff.mp e1).1
    exact lv_iinc (k := j) (x := x) (v := x + d) hx hb hd (a_ls_has hl) hj (by rw [hn]) hi rfl (fun ls' h' => hk _ _ _ _ _ _ h q H locs ls' hR (a_ls_st (v := .inl (x + d)) hl h') (a_okS hL (fun h e => by cases e)) hst hS hq)
  · exact h.elim
theorem s_add (C : a_C X cc rt own) (hd : decode cc pc = .ok (.iadd, 1)) : a_Sd X pc (t_add (pc + 1)) := by
  obtain ⟨p, l, e, R, s, m, args, below, meth, c, Q, D, G, N0, nL, q0, σ0⟩ := X
  obtain ⟨hx, hb, -⟩ := C
  intro k L st σ kc ks h hk q H locs ls hR hl hL hst hS hq
  unfold t_add at h
  split at h
  · exact lv_iadd hx hb hd (hk _ _ _ _ _ _ h q H locs ls hR hl hL (a_okI _ (a_okT (a_okT hst))) hS hq)
  · exact h.elim
theorem s_sub (C : a_C X cc rt own) (hd : decode cc pc = .ok (.isub, 1)) : a_Sd X pc (t_sub (pc + 1)) := by
  obtain ⟨p, l, e, R, s, m, args, below, meth, c, Q, D, G, N0, nL, q0, σ0⟩ := X
  obtain ⟨hx, hb, -⟩ := C
  intro k L st σ kc ks h hk q H locs ls hR hl hL hst hS hq
  unfold t_sub at h
  split at h
  · exact lv_isub hx hb hd (hk _ _ _ _ _ _ h q H locs ls hR hl hL (a_okI _ (a_okT (a_okT hst))) hS hq)
  · exact h.elim
theorem s_mul (C : a_C X cc rt own) (hd : decode cc pc = .ok (.imul, 1)) : a_Sd X pc (t_mul (pc + 1)) := by
  obtain ⟨p, l, e, R, s, m, args, below, meth, c, Q, D, G, N0, nL, q0, σ0⟩ := X
  obtain ⟨hx, hb, -⟩ := C
  intro k L st σ kc ks h hk q H locs ls hR hl hL hst hS hq
  unfold t_mul at h
  split at h
  · exact lv_imul hx hb hd (hk _ _ _ _ _ _ h q H locs ls hR hl hL (a_okI _ (a_okT (a_okT hst))) hS hq)
  · exact h.elim
theorem s_and (C : a_C X cc rt own) (hd : decode cc pc = .ok (.iand, 1)) : a_Sd X pc (t_and (pc + 1)) := by
  obtain ⟨p, l, e, R, s, m, args, below, meth, c, Q, D, G, N0, nL, q0, σ0⟩ := X
  obtain ⟨hx, hb, -⟩ := C
  intro k L st σ kc ks h hk q H locs ls hR hl hL hst hS hq
  unfold t_and at h
  split at h
  · exact lv_iand hx hb hd (hk _ _ _ _ _ _ h q H locs ls hR hl hL (a_okI _ (a_okT (a_okT hst))) hS hq)
  · exact h.elim
theorem s_neg (C : a_C X cc rt own) (hd : decode cc pc = .ok (.ineg, 1)) : a_Sd X pc (t_neg (pc + 1)) := by
  obtain ⟨p, l, e, R, s, m, args, below, meth, c, Q, D, G, N0, nL, q0, σ0⟩ := X
  obtain ⟨hx, hb, -⟩ := C
  intro k L st σ kc ks h hk q H locs ls hR hl hL hst hS hq
  unfold t_neg at h
  split at h
  · exact lv_ineg hx hb hd (hk _ _ _ _ _ _ h q H locs ls hR hl hL (a_okI _ (a_okT hst)) hS hq)
  · exact h.elim
theorem s_div (C : a_C X cc rt own) (hd : decode cc pc = .ok (.idiv, 1)) : a_Sd X pc (t_div (pc + 1)) := by
  obtain ⟨p, l, e, R, s, m, args, below, meth, c, Q, D, G, N0, nL, q0, σ0⟩ := X
  obtain ⟨hx, hb, -⟩ := C
  intro k L st σ kc ks h hk q H locs ls hR hl hL hst hS hq
  unfold t_div at h
  split at h
  · exact lv_idiv hx hb hd h.1 (hk _ _ _ _ _ _ h.2 q H locs ls hR hl hL (a_okI _ (a_okT (a_okT hst))) hS hq)
  · exact h.elim
theorem s_rem (C : a_C X cc rt own) (hd : decode cc pc = .ok (.irem, 1)) : a_Sd X pc (t_rem (pc + 1)) := by
  obtain ⟨p, l, e, R, s, m, args, below, meth, c, Q, D, G, N0, nL, q0, σ0⟩ := X
  obtain ⟨hx, hb, -⟩ := C
  intro k L st σ kc ks h hk q H locs ls hR hl hL hst hS hq
  unfold t_rem at h
  split at h
  · exact lv_irem hx hb hd h.1 (hk _ _ _ _ _ _ h.2 q H locs ls hR hl hL (a_okI _ (a_okT (a_okT hst))) hS hq)
  · exact h.elim
theorem s_dup (C : a_C X cc rt own) (hd : decode cc pc = .ok (.dup, 1)) : a_Sd X pc (t_dup (pc + 1)) := by
  obtain ⟨p, l, e, R, s, m, args, below, meth, c, Q, D, G, N0, nL, q0, σ0⟩ := X
  obtain ⟨hx, hb, -⟩ := C
  intro k L st σ kc ks h hk q H locs ls hR hl hL hst hS hq
  unfold t_dup at h
  split at h
  · exact lv_dup hx hb hd (a_cat _ _) (hk _ _ _ _ _ _ h q H locs ls hR hl hL (a_okC (hst _ List.mem_cons_self) hst) hS hq)
  · exact h.elim
theorem s_dup2 (C : a_C X cc rt own) (hd : decode cc pc = .ok (.dup2, 1)) : a_Sd X pc (t_dup2 (pc + 1)) := by
  obtain ⟨p, l, e, R, s, m, args, below, meth, c, Q, D, G, N0, nL, q0, σ0⟩ := X
  obtain ⟨hx, hb, -⟩ := C
  intro k L st σ kc ks h hk q H locs ls hR hl hL hst hS hq
  unfold t_dup2 at h
  split at h
  · exact lv_dup2_11 hx hb hd (a_cat _ _) (a_cat _ _) (hk _ _ _ _ _ _ h q H locs ls hR hl hL (a_okC (hst _ List.mem_cons_self) (a_okC (hst _ (List.mem_cons_of_mem _ List.mem_cons_self)) hst)) hS hq)
  · exact h.elim
theorem s_goto (C : a_C X cc rt own) {off : Int} {tgt : Nat} (hd : decode cc pc = .ok (.goto off, 3)) (ht : (pc : Int) + off = (tgt : Int)) : a_Sd X pc (t_goto tgt) := by
  obtain ⟨p, l, e, R, s, m, args, below, meth, c, Q, D, G, N0, nL, q0, σ0⟩ := X
  obtain ⟨hx, hb, -⟩ := C
  intro k L st σ kc ks h hk q H locs ls hR hl hL hst hS hq
  exact lv_goto hx hb hd ht (hk _ _ _ _ _ _ h q H locs ls hR hl hL hst hS hq)
theorem s_null (C : a_C X cc rt own) (hd : decode cc pc = .ok (.aconst_null, 1)) : a_Sd X pc (t_null (pc + 1)) := by
  obtain ⟨p, l, e, R, s, m, args, below, meth, c, Q, D, G, N0, nL, q0, σ0⟩ := X
  obtain ⟨hx, hb, -⟩ := C
  intro k L st σ kc ks h hk q H locs ls hR hl hL hst hS hq
  exact lv_null hx hb hd (hk _ _ _ _ _ _ h q H locs ls hR hl hL (a_okC a_okN hst) hS hq)
theorem s_ifnull (C : a_C X cc rt own) {off : Int} {tgt : Nat} (hd : decode cc pc = .ok (.ifnull off, 3)) (ht : (pc : Int) + off = (tgt : Int)) : a_Sd X pc (t_ifnull tgt (pc + 3)) := by
  obtain ⟨p, l, e, R, s, m, args, below, meth, c, Q, D, G, N0, nL, q0, σ0⟩ := X
  obtain ⟨hx, hb, -⟩ := C
  intro k L st σ kc ks h hk q H locs ls hR hl hL hst hS hq
  unfold t_ifnull at h
  split at h
  · rename_i r st'
    cases r with
    | none => exact lv_ifnullN hx hb hd ht (hk _ _ _ _ _ _ (h.1 rfl) q H locs ls hR hl hL (a_okT hst) hS hq)
    | some y => exact lv_ifnull hx hb hd (hk _ _ _ _ _ _ (h.2 (fun e => by cases e)) q H locs ls hR hl hL (a_okT hst) hS hq)
  · exact h.elim
theorem s_ifnn (C : a_C X cc rt own) {off : Int} {tgt : Nat} (hd : decode cc pc = .ok (.ifnonnull off, 3)) (ht : (pc : Int) + off = (tgt : Int)) : a_Sd X pc (t_ifnn tgt (pc + 3)) := by
  obtain ⟨p, l, e, R, s, m, args, below, meth, c, Q, D, G, N0, nL, q0, σ0⟩ := X
  obtain ⟨hx, hb, -⟩ := C
  intro k L st σ kc ks h hk q H locs ls hR hl hL hst hS hq
  unfold t_ifnn at h
  split at h
  · rename_i r st'
    cases r with
    | none => exact lv_ifnonnullN hx hb hd (hk _ _ _ _ _ _ (h.2 rfl) q H locs ls hR hl hL (a_okT hst) hS hq)
    | some y => exact lv_ifnonnull hx hb hd ht (hk _ _ _ _ _ _ (h.1 (fun e => by cases e)) q H locs ls hR hl hL (a_okT hst) hS hq)
  · exact h.elim
theorem s_if_eq (C : a_C X cc rt own) {off : Int} {tgt : Nat} (hd : decode cc pc = .ok (.ifCond .eq off, 3)) (ht : (pc : Int) + off = (tgt : Int)) : a_Sd X pc (t_if (fun x => x = 0) tgt (pc + 3)) := by
  obtain ⟨p, l, e, R, s, m, args, below, meth, c, Q, D, G, N0, nL, q0, σ0⟩ := X
  obtain ⟨hx, hb, -⟩ := C
  intro k L st σ kc ks h hk q H locs ls hR hl hL hst hS hq
  unfold t_if at h
  split at h
  · exact lv_if_eq hx hb hd ht (fun w => hk _ _ _ _ _ _ (h.1 w) q H locs ls hR hl hL (a_okT hst) hS hq) (fun w => hk _ _ _ _ _ _ (h.2 w) q H locs ls hR hl hL (a_okT hst) hS hq)
  · exact h.elim
theorem s_if_ne (C : a_C X cc rt own) {off : Int} {tgt : Nat} (hd : decode cc pc = .ok (.ifCond .ne off, 3)) (ht : (pc : Int) + off = (tgt : Int)) : a_Sd X pc (t_if (fun x => x = 0) (pc + 3) tgt) := by
  obtain ⟨p, l, e, R, s, m, args, below, meth, c, Q, D, G, N0, nL, q0, σ0⟩ := X
  obtain ⟨hx, hb, -⟩ := C
  intro k L st σ kc ks h hk q H locs ls hR hl hL hst hS hq
  unfold t_if at h
  split at h
  · exact lv_if_ne hx hb hd ht (fun w => hk _ _ _ _ _ _ (h.2 w) q H locs ls hR hl hL (a_okT hst) hS hq) (fun w => hk _ _ _ _ _ _ (h.1 w) q H locs ls hR hl hL (a_okT hst) hS hq)
  · exact h.elim
theorem s_if_lt (C : a_C X cc rt own) {off : Int} {tgt : Nat} (hd : decode cc pc = .ok (.ifCond .lt off, 3)) (ht : (pc : Int) + off = (tgt : Int)) : a_Sd X pc (t_if (fun x => x < 0) tgt (pc + 3)) := by
  obtain ⟨p, l, e, R, s, m, args, below, meth, c, Q, D, G, N0, nL, q0, σ0⟩ := X
  obtain ⟨hx, hb, -⟩ := C
  intro k L st σ kc ks h hk q H locs ls hR hl hL hst hS hq
  unfold t_if at h
  split at h
  · exact lv_if_lt hx hb hd ht (fun w => hk _ _ _ _ _ _ (h.1 w) q H locs ls hR hl hL (a_okT hst) hS hq) (fun w => hk _ _ _ _ _ _ (h.2 w) q H locs ls hR hl hL (a_okT hst) hS hq)
  · exact h.elim
theorem s_if_ge (C : a_C X cc rt own) {off : Int} {tgt : Nat} (hd : decode cc pc = .ok (.ifCond .ge off, 3)) (ht : (pc : Int) + off = (tgt : Int)) : a_Sd X pc (t_if (fun x => 0 ≤ x) tgt (pc + 3)) := by
  obtain ⟨p, l, e, R, s, m, args, below, meth, c, Q, D, G, N0, nL, q0, σ0⟩ := X
  obtain ⟨hx, hb, -⟩ := C
  intro k L st σ kc ks h hk q H locs ls hR hl hL hst hS hq
  unfold t_if at h
  split at h
  · exact lv_if_ge hx hb hd ht (fun w => hk _ _ _ _ _ _ (h.1 w) q H locs ls hR hl hL (a_okT hst) hS hq) (fun w => hk _ _ _ _ _ _ (h.2 w) q H locs ls hR hl hL (a_okT hst) hS hq)
  · exact h.elim
theorem s_if_gt (C : a_C X cc rt own) {off : Int} {tgt : Nat} (hd : decode cc pc = .ok (.ifCond .gt off, 3)) (ht : (pc : Int) + off = (tgt : Int)) : a_Sd X pc (t_if (fun x => 0 < x) tgt (pc + 3)) := by
  obtain ⟨p, l, e, R, s, m, args, below, meth, c, Q, D, G, N0, nL, q0, σ0⟩ := X
  obtain ⟨hx, hb, -⟩ := C
  intro k L st σ kc ks h hk q H locs ls hR hl hL hst hS hq
  unfold t_if at h
  split at h
  · exact lv_if_gt hx hb hd ht (fun w => hk _ _ _ _ _ _ (h.1 w) q H locs ls hR hl hL (a_okT hst) hS hq) (fun w => hk _ _ _ _ _ _ (h.2 w) q H locs ls hR hl hL (a_okT hst) hS hq)
  · exact h.elim
theorem s_if_le (C : a_C X cc rt own) {off : Int} {tgt : Nat} (hd : decode cc pc = .ok (.ifCond .le off, 3)) (ht : (pc : Int) + off = (tgt : Int)) : a_Sd X pc (t_if (fun x => x ≤ 0) tgt (pc + 3)) := by
  obtain ⟨p, l, e, R, s, m, args, below, meth, c, Q, D, G, N0, nL, q0, σ0⟩ := X
  obtain ⟨hx, hb, -⟩ := C
  intro k L st σ kc ks h hk q H locs ls hR hl hL hst hS hq
  unfold t_if at h
  split at h
  · exact lv_if_le hx hb hd ht (fun w => hk _ _ _ _ _ _ (h.1 w) q H locs ls hR hl hL (a_okT hst) hS hq) (fun w => hk _ _ _ _ _ _ (h.2 w) q H locs ls hR hl hL (a_okT hst) hS hq)
  · exact h.elim
theorem s_icmp_eq (C : a_C X cc rt own) {off : Int} {tgt : Nat} (hd : decode cc pc = .ok (.if_icmp .eq off, 3)) (ht : (pc : Int) + off = (tgt : Int)) : a_Sd X pc (t_ifc (fun x y => x = y) tgt (pc + 3)) := by
  obtain ⟨p, l, e, R, s, m, args, below, meth, c, Q, D, G, N0, nL, q0, σ0⟩ := X
  obtain ⟨hx, hb, -⟩ := C
  intro k L st σ kc ks h hk q H locs ls hR hl hL hst hS hq
  unfold t_ifc at h
  split at h
  · exact lv_icmp_eq hx hb hd ht (fun w => hk _ _ _ _ _ _ (h.1 w) q H locs ls hR hl hL (a_okT (a_okT hst)) hS hq) (fun w => hk _ _ _ _ _ _ (h.2 w) q H locs ls hR hl hL (a_okT (a_okT hst)) hS hq)
  · exact h.elim
theorem s_icmp_ne (C : a_C X cc rt own) {off : Int} {tgt : Nat} (hd : decode cc pc = .ok (.if_icmp .ne off, 3)) (ht : (pc : Int) + off = (tgt : Int)) : a_Sd X pc (t_ifc (fun x y => x = y) (pc + 3) tgt) := by
  obtain ⟨p, l, e, R, s, m, args, below, meth, c, Q, D, G, N0, nL, q0, σ0⟩ := X
  obtain ⟨hx, hb, -⟩ := C
  intro k L st σ kc ks h hk q H locs ls hR hl hL hst hS hq
  unfold t_ifc at h
  split at h
  · exact lv_icmp_ne hx hb hd ht (fun w => hk _ _ _ _ _ _ (h.2 w) q H locs ls hR hl hL (a_okT (a_okT hst)) hS hq) (fun w => hk _ _ _ _ _ _ (h.1 w) q H locs ls hR hl hL (a_okT (a_okT hst)) hS hq)
  · exact h.elim
theorem s_icmp_lt (C : a_C X cc rt own) {off : Int} {tgt : Nat} (hd : decode cc pc = .ok (.if_icmp .lt off, 3)) (ht : (pc : Int) + off = (tgt : Int)) : a_Sd X pc (t_ifc (fun x y => x < y) tgt (pc + 3)) := by
  obtain ⟨p, l, e, R, s, m, args, below, meth, c, Q, D, G, N0, nL, q0, σ0⟩ := X
  obtain ⟨hx, hb, -⟩ := C
  intro k L st σ kc ks h hk q H locs ls hR hl hL hst hS hq
  unfold t_ifc at h
  split at h
  · exact lv_icmp_lt hx hb hd ht (fun w => hk _ _ _ _ _ _ (h.1 w) q H locs ls hR hl hL (a_okT (a_okT hst)) hS hq) (fun w => hk _ _ _ _ _ _ (h.2 w) q H locs ls hR hl hL (a_okT (a_okT hst)) hS hq)
  · exact h.elim
theorem s_icmp_ge (C : a_C X cc rt own) {off : Int} {tgt : Nat} (hd : decode cc pc = .ok (.if_icmp .ge off, 3)) (ht : (pc : Int) + off = (tgt : Int)) : a_Sd X pc (t_ifc (fun x y => y ≤ x) tgt (pc + 3)) := by
  obtain ⟨p, l, e, R, s, m, args, below, meth, c, Q, D, G, N0, nL, q0, σ0⟩ := X
  obtain ⟨hx, hb, -⟩ := C
  intro k L st σ kc ks h hk q H locs ls hR hl hL hst hS hq
  unfold t_ifc at h
  split at h
  · exact lv_icmp_ge hx hb hd ht (fun w => hk _ _ _ _ _ _ (h.1 w) q H locs ls hR hl hL (a_okT (a_okT hst)) hS hq) (fun w => hk _ _ _ _ _ _ (h.2 w) q H locs ls hR hl hL (a_okT (a_okT hst)) hS hq)
  · exact h.elim
theorem s_icmp_gt (C : a_C X cc rt own) {off : Int} {tgt : Nat} (hd : decode cc pc = .ok (.if_icmp .gt off, 3)) (ht : (pc : Int) + off = (tgt : Int)) : a_Sd X pc (t_ifc (fun x y => y < x) tgt (pc + 3)) := by
  obtain ⟨p, l, e, R, s, m, args, below, meth, c, Q, D, G, N0, nL, q0, σ0⟩ := X
  obtain ⟨hx, hb, -⟩ := C
  intro k L st σ kc ks h hk q H locs ls hR hl hL hst hS hq
  unfold t_ifc at h
  split at h
  · exact lv_icmp_gt hx hb hd ht (fun w => hk _ _ _ _ _ _ (h.1 w) q H locs ls hR hl hL (a_okT (a_okT hst)) hS hq) (fun w => hk _ _ _ _ _ _ (h.2 w) q H locs ls hR hl hL (a_okT (a_okT hst)) hS hq)
  · exact h.elim
theorem s_icmp_le (C : a_C X cc rt own) {off : Int} {tgt : Nat} (hd : decode cc pc = .ok (.if_icmp .le off, 3)) (ht : (pc : Int) + off = (tgt : Int)) : a_Sd X pc (t_ifc (fun x y => x ≤ y) tgt (pc + 3)) := by
  obtain ⟨p, l, e, R, s, m, args, below, meth, c, Q, D, G, N0, nL, q0, σ0⟩ := X
  obtain ⟨hx, hb, -⟩ := C
  intro k L st σ kc ks h hk q H locs ls hR hl hL hst hS hq
  unfold t_ifc at h
  split at h
  · exact lv_icmp_le hx hb hd ht (fun w => hk _ _ _ _ _ _ (h.1 w) q H locs ls hR hl hL (a_okT (a_okT hst)) hS hq) (fun w => hk _ _ _ _ _ _ (h.2 w) q H locs ls hR hl hL (a_okT (a_okT hst)) hS hq)
  · exact h.elim
/-- a tableswitch as a list of its cases: vs lists lo, lo + 1, .. with their targets -/
theorem a_sw_at {k : Nat → Prop} {x : Int32} {d : Nat} : ∀ {ts : List (Int32 × Nat)} {t : Nat}, a_sw k x ts d → ts.lookup x = some t → k t
  | [], t, h, e => by cases e
  | (v, t') :: r, t, h, e => by
    rw [List.lookup_cons] at e
    by_cases hv : x = v
    · subst hv
      simp at e
      subst e
      exact h.1 rfl
    · have e2 : (x == v) = false := by simpa using hv
      rw [e2] at e
      exact a_sw_at (h.2 hv) e
theorem a_sw_no {k : Nat → Prop} {x : Int32} {d : Nat} : ∀ {ts : List (Int32 × Nat)}, a_sw k x ts d → ts.lookup x = none → k d
  | [], h, e => h
  | (v, t') :: r, h, e => by
    rw [List.lookup_cons] at e
    by_cases hv : x = v
    · subst hv
      simp at e
    · have e2 : (x == v) = false := by simpa using hv
      rw [e2] at e
      exact a_sw_no (h.2 hv) e
/-- for each int x: which target the table has, said by a program over all cases -/
def a_tok (pc : Nat) (dflt lo hi : Int) (offs : Array Int) (ts : List (Int32 × Nat)) (d : Nat) : Prop :=
  (pc : Int) + dflt = (d : Int) ∧ (∀ x : Int32, (x.toInt < lo ∨ hi < x.toInt) → ts.lookup x = none) ∧ ∀ x : Int32, ¬ x.toInt < lo → ¬ hi < x.toInt → ∃ (off : Int) (t : Nat), offs[(x.toInt - lo).toNat]? = some off ∧ (pc : Int) + off = (t : Int) ∧ ts.lookup x = some t
theorem a_lk_none {x : Int32} {ts : List (Int32 × Nat)} (h : ∀ v ∈ ts.map Prod.fst, ¬ x = v) : ts.lookup x = none := by
  induction ts with
  | nil => rfl
  | cons a r ih =>
    obtain ⟨v, t⟩ := a
    rw [List.lookup_cons]
    have e : (x == v) = false := by simpa using h v List.mem_cons_self
    rw [e]
    exact ih (fun w hw => h w (List.mem_cons_of_mem _ hw))
/-- the table, checked by a program: lo up to hi in n steps -/
theorem a_tok_of {pc : Nat} {dflt lo hi : Int} {offs : Array Int} {ts : List (Int32 × Nat)} {d : Nat} (n : Nat) (h1 : (pc : Int) + dflt = (d : Int)) (hn : hi = lo + n) (hts : ∀ v ∈ ts.map Prod.fst, lo ≤ v.toInt ∧ v.toInt ≤ hi)
    (h2 : ∀ j, j < n + 1 → (∃ off ∈ offs[j]?, ∃ t ∈ ts.lookup (Int32.ofInt (lo + j)), (pc : Int) + off = (t : Int))) : a_tok pc dflt lo hi offs ts d := by
  refine ⟨h1, fun x hx => a_lk_none (fun v hv e => ?_), fun x h3 h4 => ?_⟩
  · have := hts v hv
    subst e
    omega
  · obtain ⟨j, hj⟩ : ∃ j : Nat, x.toInt - lo = j := ⟨(x.toInt - lo).toNat, by omega⟩
    obtain ⟨off, ho, t, ht, h5⟩ := h2 j (by omega)
    have ex : Int32.ofInt (lo + j) = x := by
      rw [← hj, show lo + (x.toInt - lo) = x.toInt by omega]
      exact Int32.ofInt_toInt x
    rw [ex] at ht
    exact ⟨off, t, by rw [hj]; exact ho, h5, ht⟩
theorem s_tsw (C : a_C X cc rt own) {dflt lo hi : Int} {offs : Array Int} {len : Nat} {ts : List (Int32 × Nat)} {d : Nat} (hd : decode cc pc = .ok (.tableswitch dflt lo hi offs, len)) (hT : a_tok pc dflt lo hi offs ts d) : a_Sd X pc (t_sw ts d) := by
  obtain ⟨p, l, e, R, s, m, args, below, meth, c, Q, D, G, N0, nL, q0, σ0⟩ := X
  obtain ⟨hx, hb, -⟩ := C
  intro k L st σ kc ks h hk q H locs ls hR hl hL hst hS hq
  unfold t_sw at h
  split at h
  · rename_i x st'
    obtain ⟨t1, t2, t3⟩ := hT
    by_cases hx1 : x.toInt < lo ∨ hi < x.toInt
    · exact lv_tableOut hx hb hd hx1 t1 (hk _ _ _ _ _ _ (a_sw_no (k := fun n => k n L st' σ kc ks) h (t2 x hx1)) q H locs ls hR hl hL (a_okT hst) hS hq)
    · have h3 : ¬ x.toInt < lo := fun e => hx1 (Or.inl e)
      have h4 : ¬ hi < x.toInt := fun e => hx1 (Or.inr e)
      obtain ⟨off, t, o1, o2, o3⟩ := t3 x h3 h4
      exact lv_tableIn hx hb hd h3 h4 o1 o2 (hk _ _ _ _ _ _ (a_sw_at (k := fun n => k n L st' σ kc ks) h o3) q H locs ls hR hl hL (a_okT hst) hS hq)
  · exact h.elim
/-- a lookupswitch: ps of the code against the cases -/
def a_lok (pc : Nat) (dflt : Int) (ps : List (Int × Int)) (ts : List (Int32 × Nat)) (d : Nat) : Prop := ∀ x : Int32, ∃ t : Nat, (pc : Int) + Op.lookupswitch.offset ps dflt x.toInt = (t : Int) ∧ ∀ k : Nat → Prop, a_sw k x ts d → k t
theorem a_lok_nil {pc : Nat} {dflt : Int} {d : Nat} (h : (pc : Int) + dflt = (d : Int)) : a_lok pc dflt [] [] d := fun x => ⟨d, h, fun k hk => hk⟩
theorem a_lok_cons {pc : Nat} {dflt a o : Int} {ps : List (Int × Int)} {ts : List (Int32 × Nat)} {d t : Nat} {v : Int32} (hv : v.toInt = a) (ht : (pc : Int) + o = (t : Int)) (h : a_lok pc dflt ps ts d) : a_lok pc dflt ((a, o) :: ps) ((v, t) :: ts) d := by
  intro x
  by_cases hx : x = v
  · subst hx
    refine ⟨t, ?_, fun k hk => hk.1 rfl⟩
    rw [Op.lookupswitch.offset_cons, if_pos hv.symm]
    exact ht
  · obtain ⟨t', h1, h2⟩ := h x
    exact ⟨t', by rw [lv_osw hx hv]; exact h1, fun k hk => h2 k (hk.2 hx)⟩
theorem s_lsw (C : a_C X cc rt own) {dflt : Int} {ps : Array (Int × Int)} {len : Nat} {ts : List (Int32 × Nat)} {d : Nat} (hd : decode cc pc = .ok (.lookupswitch dflt ps, len)) (hp : (ps.toList.zip (ps.toList.drop 1)).all (fun (a, next) => a.1 < next.1) = true) (hT : a_lok pc dflt ps.toList ts d) : a_Sd X pc (t_sw ts d) := by
  obtain ⟨p, l, e, R, s, m, args, below, meth, c, Q, D, G, N0, nL, q0, σ0⟩ := X
  obtain ⟨hx, hb, -⟩ := C
  intro k L st σ kc ks h hk q H locs ls hR hl hL hst hS hq
  unfold t_sw at h
  split at h
  · rename_i x st'
    obtain ⟨t, o1, o2⟩ := hT x
    exact lv_lookup hx hb hd hp rfl o1 (hk _ _ _ _ _ _ (o2 (fun n => k n L st' σ kc ks) h) q H locs ls hR hl hL (a_okT hst) hS hq)
  · exact h.elim
end AP
