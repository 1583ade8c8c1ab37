/-! ===== contracts, calls, returns ===== -/
abbrev aP : Type := List aV → aS → aK → Prop
def a_Pre (D : va_G) (G : aG) (N0 : Nat) (q : Nat → Nat) (σ : aS) (as : List aV) : Array Value → State → Prop := va_Pc (as.map (a_val q)) (fun U => N0 ≤ U.heap.size ∧ a_R D G N0 q σ U.heap ∧ va_K D a_cls (a_ty G) U ∧ a_XF U)
def a_Post (D : va_G) (G : aG) (N0 : Nat) (q : Nat → Nat) (σ : aS) (K : aK) : Array Value → State → Outcome → State → Prop := fun _ st o t =>
  ∃ (r : Option aV) (σ' : aS) (q' : Nat → Nat), o = .returned (r.map (a_val q')) ∧ K r σ' ∧ (∀ v, r = some v → a_ok σ' v) ∧ (∀ h, σ.2.2 h = true ∨ h = 63 → q' h = q h ∧ (σ.2.2 h = true → σ'.2.2 h = true)) ∧ a_R D G N0 q' σ' t.heap ∧ va_F (fun a => N0 ≤ a) st t
def a_Con (l : Launch) (D : va_G) (G : aG) (N0 : Nat) (y : MethodName) (cc : ByteArray) (nL : Nat) (rt : Option FieldType) (rm : Room) (spec : aP) : Prop :=
  ∀ (as : List aV) (σ : aS) (K : aK) (q : Nat → Nat), spec as σ K → (∀ v ∈ as, a_ok σ v) → Met l y (Cond.code y cc nL rt :: lw_g) rm (a_Pre D G N0 q σ as) (a_Post D G N0 q σ K) rm.cells rm.slots (fun a => N0 ≤ a)
def a_Y : a_X → Launch → Room → va_G → aG → Nat → Prop := fun (p, l, e, R, s, m, args, below, meth, c, Q, D, G, N0, nL, q0, σ0) l' R' D' G' N0' => l = l' ∧ R = R' ∧ D = D' ∧ G = G' ∧ N0 = N0'
def a_mq : a_X → aK → Nat → Nat → Prop := fun (p, l, e, R, s, m, args, below, meth, c, Q, D, G, N0, nL, q0, σ0) K mc ms => Q = MQ below (a_Post D G N0 q0 σ0 K) args s mc ms (fun a => N0 ≤ a)
theorem a_gin {w : Cond} (hc : w ∈ lw_g) : GoodIn lw_g (w :: lw_g) := fun x hx => by
  have hm : x ∈ lw_g := (List.mem_cons.mp hx).elim (fun e => e ▸ hc) id
  exact ⟨hm, good_of_word (List.mem_filter.mp hm).2⟩
theorem a_valq {σ : aS} {q q' : Nat → Nat} {v : aV} (h : a_ok σ v) (hq : ∀ h, σ.2.2 h = true ∨ h = 63 → q' h = q h) : a_val q' v = a_val q v := by
  cases v with
  | inl x => rfl
  | inr r => cases r with
    | none => rfl
    | some y => exact congrArg (fun z => va_rf (some z)) (hq y (h y rfl))
theorem a_mapq {σ : aS} {q q' : Nat → Nat} {st : List aV} (h : ∀ v ∈ st, a_ok σ v) (hq : ∀ h, σ.2.2 h = true ∨ h = 63 → q' h = q h) : st.map (a_val q') = st.map (a_val q) := List.map_congr_left (fun v hv => a_valq (h v hv) hq)
theorem a_blind {D : va_G} {G : aG} {N0 : Nat} {q : Nat → Nat} {σ : aS} {as : List aV} : FrameBlind (a_Pre D G N0 q σ as) := fun a U g mk h => by
  obtain ⟨h1, h2, h3, h4, h5⟩ := h
  exact ⟨h1, h2, h3, va_K.moved (u := U) (U := U.calling g mk a) (Vm.Alike.refl U.vm) h4, a_XF.same (s := U) (U := U.calling g mk a) rfl h5⟩
section AC
variable {p : Program} {l : Launch} {e : Env} {R : Room} {s : State} {m : MethodId} {args : Array Value} {below : List Frame} {meth : Method} {c : Code} {H : Heap} {locs : List Loc} {kc ks mc ms : Nat} {Q : State → Prop}
variable {pc : Nat} {ls : Array Slot} {rest st0 : List Value} {D : va_G} {G : aG} {N0 : Nat} {q : Nat → Nat} {σ : aS} {K : aK} {a : Array Value}
theorem a_callx (hr : va_Run p l e R s m args below meth c H locs kc ks mc ms (F0 m pc ls st0) rest (a_Post D G N0 q σ K a) (fun a => N0 ≤ a)) (hS : va_S (fun a => N0 ≤ a) s.heap H locs)
    (kk : ∀ (r : Option aV) (σ' : aS) (q' : Nat → Nat) (H1 : Heap) (locs1 : List Loc), K r σ' → (∀ v, r = some v → a_ok σ' v) → (∀ h, σ.2.2 h = true ∨ h = 63 → q' h = q h ∧ (σ.2.2 h = true → σ'.2.2 h = true)) → a_R D G N0 q' σ' H1 → va_S (fun a => N0 ≤ a) s.heap H1 locs1 →
      W p l e R s m args below meth c H1 locs1 (kc + mc) (ks + ms) Q (F0 m (pc + 3) ls (r.toList.map (a_val q') ++ rest))) : W p l e R s m args below meth c H locs kc ks Q (F0 m pc ls st0) := by
  intro T hT X
  obtain ⟨v, st₀, t, T', L, h0, X', hL, e1, e2, ⟨r, σ', q', hv, hK, hok, hq, hR, hz, hkk⟩, st⟩ := hr T hT X
  have hv' : v = r.map (a_val q') := Outcome.returned.inj hv
  subst hv'
  rw [h0] at hz hkk
  have hS1 : va_S (fun a => N0 ≤ a) s.heap T'.heap (locs ++ L) := ⟨Nat.le_trans hS.1 (by rw [e1]; exact hz), fun x h1 h2 => by rw [e1, hkk x (Nat.lt_of_lt_of_le h1 hS.1) h2]; exact hS.2.1 x h1 h2, fun x hx => by
    rcases List.mem_append.mp hx with h | h
    · exact hS.2.2 x h
    · exact hL x h⟩
  obtain ⟨t2, a1, b1⟩ := kk r σ' q' T'.heap (locs ++ L) hK hok hq (by rw [e1]; exact hR) hS1 T' rfl X'
  refine ⟨t2, st t2 ?_, b1⟩
  have e9 : (r.map (a_val q')).toList = r.toList.map (a_val q') := by cases r <;> rfl
  show Steps p.tables e below (T'.setTop { (F0 m pc ls st0) with pc := pc + 3, stack := (r.map (a_val q')).toList ++ rest }) t2
  rw [e9]
  exact a1
end AC
theorem a_ls_q {σ : aS} {q q' : Nat → Nat} {nL : Nat} {L : aL} {ls : Array Slot} (hl : a_ls q nL L ls) (hL : ∀ (i : Nat) (v : aV), L[i]? = some (some v) → a_ok σ v) (hq : ∀ h, σ.2.2 h = true ∨ h = 63 → q' h = q h) : a_ls q' nL L ls := ⟨hl.1, hl.2.1, hl.2.2.1, fun i v hv => by rw [a_valq (hL i v hv) hq]; exact hl.2.2.2 i v hv⟩
theorem a_ok_up {σ σ' : aS} {v : aV} (h : a_ok σ v) (hm : ∀ h, σ.2.2 h = true → σ'.2.2 h = true) : a_ok σ' v := fun x e => (h x e).elim (fun w => Or.inl (hm x w)) Or.inr
def t_call (n mc ms bc bs : Nat) (spec : aP) (nx : Nat) : aT := fun k L st σ kc ks => a_g (decide (n ≤ st.length) && (decide (st.length ≤ n + 8) && (decide (kc + mc ≤ bc) && decide (ks + ms ≤ bs)))) (spec (st.take n).reverse σ (fun r σ' => k nx L (r.toList ++ st.drop n) σ' (kc + mc) (ks + ms)))
theorem a_cg {a b c d : Prop} {_ : Decidable a} {_ : Decidable b} {_ : Decidable c} {_ : Decidable d} {P : Prop} (h : a_g (decide a && (decide b && (decide c && decide d))) P) : a ∧ b ∧ c ∧ d ∧ P := by
  obtain ⟨h1, h2⟩ := a_ge h
  simp only [Bool.and_eq_true, decide_eq_true_eq] at h1
  exact ⟨h1.1, h1.2.1, h1.2.2.1, h1.2.2.2, h2⟩
theorem a_sum {q : Nat → Nat} : ∀ (st : List aV), ((st.map (a_val q)).map fun v => v.category).sum = st.length
  | [] => rfl
  | v :: st => by
    show (a_val q v).category + ((st.map (a_val q)).map fun v => v.category).sum = st.length + 1
    rw [a_cat, a_sum st]
    omega
section AD
variable {X : a_X} {cc bytes : ByteArray} {rt ret : Option FieldType} {own : String} {pc n index maxL bc bs : Nat} {l : Launch} {R rm : Room} {D : va_G} {G : aG} {N0 : Nat} {y : MethodName} {spec : aP}
theorem s_callS (C : a_C X cc rt own) (Y : a_Y X l R D G N0) (hM : a_Con l D G N0 y bytes maxL ret rm spec) (hcode : Cond.code y bytes maxL ret ∈ lw_g) (hlink : Cond.methodLink own index y ∈ lw_g) (hstat : Cond.static y ∈ lw_g) (hini : Cond.initialized y.cls ∈ lw_g)
    (hd : y.cls ≠ "java/lang/invoke/MethodHandle" ∧ y.cls ≠ "java/lang/invoke/VarHandle" ∧ (parseMethodDescriptor y.desc).map (fun d => d.parameters.length) = some n) (hR : rm.frames + 1 ≤ R.frames ∧ 8 + (maxL + 11) + rm.locals ≤ R.locals) (hb : bc = R.cells ∧ bs = R.slots) (hdg : decode cc pc = .ok (.invokestatic index, 3)) : a_Sd X pc (t_call n rm.cells rm.slots bc bs spec (pc + 3)) := by
  obtain ⟨p, l', e, R', s, m, args, below, meth, c, Q, D', G', N0', nL, q0, σ0⟩ := X
  obtain ⟨rfl, rfl, rfl, rfl, rfl⟩ := Y
  obtain ⟨hx, hb1, hml, hr, hlk, hown, hts, hK, hN, hXF⟩ := C
  obtain ⟨rfl, rfl⟩ := hb
  intro k L st σ kc ks h hk q H locs ls hRr hl hL hst hS hq
  obtain ⟨g1, g2, g3, g4, hsp⟩ := a_cg h
  have cb := callB_of (R := R') (Ts := lw_g) (ws := Cond.code y bytes maxL ret :: lw_g) (ws' := lw_g) (rm := rm) (own := own) (index := index) n hts (a_gin hcode) rfl rfl rfl (hts _ hini) (hts _ hlink) hd hR
  have hta : ∀ v ∈ (st.take n).reverse, a_ok σ v := fun v hv => hst v (List.mem_of_mem_take (List.mem_reverse.mp hv))
  refine a_callx (va_runS (As := ((st.take n).reverse).map (a_val q)) (rest := (st.drop n).map (a_val q)) ⟨hx, hb1, hml, hown, hts⟩ (hM _ σ _ q hsp hta) ⟨cb, hts _ hstat⟩ ⟨a_blind, fun U hU hW => ⟨rfl, ?_, ?_, ?_, hXF.warm hW⟩⟩ rfl ?_ hl.1 ?_ ?_ hdg ⟨g3, g4⟩) hS (fun r σ' q' H1 locs1 hKK hok hqq hR1 hS1 => ?_)
  · rw [hU]; exact Nat.le_trans hN hS.1
  · rw [hU]; exact hRr
  · exact va_K.moved hW.alike hK
  · rw [List.length_map, List.length_reverse, List.length_take]; omega
  · show st.map (a_val q) = _
    rw [← List.map_reverse, List.reverse_reverse, ← List.map_append, List.take_append_drop]
  · show 2 * 0 + _ ≤ 8
    rw [a_sum, List.length_drop]
    omega
  · have hd1 : ∀ v ∈ st.drop n, a_ok σ v := fun v hv => hst v (List.mem_of_mem_drop hv)
    have hq1 : ∀ h, σ.2.2 h = true ∨ h = 63 → q' h = q h := fun h w => (hqq h w).1
    have hm1 : ∀ h, σ.2.2 h = true → σ'.2.2 h = true := fun h w => (hqq h (Or.inl w)).2 w
    have := hk _ _ _ _ _ _ hKK q' H1 locs1 ls hR1 (a_ls_q hl hL hq1) (fun i v hv => a_ok_up (hL i v hv) hm1) (fun v hv => by
      rcases List.mem_append.mp hv with w | w
      · exact hok v (by cases r with | none => cases w | some z => exact congrArg some (List.mem_singleton.mp w).symm)
      · exact a_ok_up (hd1 v w) hm1) hS1 (fun h w => ⟨((hqq h (w.elim (fun z => Or.inl ((hq h w).2 z)) Or.inr)).1).trans (hq h w).1, fun z => hm1 h ((hq h w).2 z)⟩)
    rw [List.map_append, a_mapq hd1 hq1] at this
    exact this
theorem s_callV (C : a_C X cc rt own) (Y : a_Y X l R D G N0) {ci : Nat} {Cn : String} {T : u_T} {nf : Nat} (hc : a_cls[ci]? = some (Cn, T, nf)) (hM : a_Con l D G N0 y bytes maxL ret rm spec) (hrec : ∀ as σ K, spec as σ K → ∃ h As, as = .inr (some h) :: As ∧ a_is σ h ci nf = true) (hcode : Cond.code y bytes maxL ret ∈ lw_g) (hlink : Cond.methodLink own index y ∈ lw_g) (hinst : Cond.instanceMethod y ∈ lw_g) (hsel : Cond.selects Cn y y ∈ lw_g) (hini : Cond.initialized y.cls ∈ lw_g)
    (hd : y.cls ≠ "java/lang/invoke/MethodHandle" ∧ y.cls ≠ "java/lang/invoke/VarHandle" ∧ (parseMethodDescriptor y.desc).map (fun d => d.parameters.length) = some n) (hR : rm.frames + 1 ≤ R.frames ∧ 8 + (maxL + 11) + rm.locals ≤ R.locals) (hb : bc = R.cells ∧ bs = R.slots) (hdg : decode cc pc = .ok (.invokevirtual index, 3)) : a_Sd X pc (t_call (n + 1) rm.cells rm.slots bc bs spec (pc + 3)) := by
  obtain ⟨p, l', e, R', s, m, args, below, meth, c, Q, D', G', N0', nL, q0, σ0⟩ := X
  obtain ⟨rfl, rfl, rfl, rfl, rfl⟩ := Y
  obtain ⟨hx, hb1, hml, hr, hlk, hown, hts, hK, hN, hXF⟩ := C
  obtain ⟨rfl, rfl⟩ := hb
  intro k L st σ kc ks h hk q H locs ls hRr hl hL hst hS hq
  obtain ⟨g1, g2, g3, g4, hsp⟩ := a_cg h
  have cb := callB_of (R := R') (Ts := lw_g) (ws := Cond.code y bytes maxL ret :: lw_g) (ws' := lw_g) (rm := rm) (own := own) (index := index) n hts (a_gin hcode) rfl rfl rfl (hts _ hini) (hts _ hlink) hd hR
  have hta : ∀ v ∈ (st.take (n + 1)).reverse, a_ok σ v := fun v hv => hst v (List.mem_of_mem_take (List.mem_reverse.mp hv))
  obtain ⟨hh, As, hAs, his⟩ := hrec _ _ _ hsp
  obtain ⟨f1, f2, f3⟩ := a_isE his
  have hat := (hRr.1 hh f1).2
  rw [a_E_o f2 f3 (a_c4 hc)] at hat
  have hlen : As.length = n := by
    have := congrArg List.length hAs
    rw [List.length_reverse, List.length_take, List.length_cons] at this
    omega
  have hst2 : st.map (a_val q) = (As.map (a_val q)).reverse ++ .ref (q hh) :: (st.drop (n + 1)).map (a_val q) := by
    have e1 : st.take (n + 1) = As.reverse ++ [.inr (some hh)] := by
      have := congrArg List.reverse hAs
      rw [List.reverse_reverse, List.reverse_cons] at this
      exact this
    have e2 : st.map (a_val q) = (st.take (n + 1) ++ st.drop (n + 1)).map (a_val q) := by rw [List.take_append_drop]
    rw [e2, List.map_append, e1, List.map_append, ← List.map_reverse]
    simp [a_val, va_rf]
  have hM1 := hM _ σ _ q hsp hta
  rw [hAs] at hM1
  refine a_callx (va_runV (C := Cn) (b := q hh) (As := As.map (a_val q)) (rest := (st.drop (n + 1)).map (a_val q)) ⟨hx, hb1, hml, hown, hts⟩ hM1 ⟨cb, hts _ hinst, hts _ hsel⟩ ⟨a_blind, va_recv hK (a_P1 hat) (ci := ci) (q0 := 0) hc rfl, fun U hU hW => ⟨rfl, ?_, ?_, ?_, hXF.warm hW⟩⟩ rfl (by rw [List.length_map]; exact hlen) hl.1 hst2 ?_ hdg ⟨g3, g4⟩) hS (fun r σ' q' H1 locs1 hKK hok hqq hR1 hS1 => ?_)
  · rw [hU]; exact Nat.le_trans hN hS.1
  · rw [hU]; exact hRr
  · exact va_K.moved hW.alike hK
  · show 2 * 0 + _ ≤ 8
    rw [a_sum, List.length_drop]
    omega
  · have hd1 : ∀ v ∈ st.drop (n + 1), a_ok σ v := fun v hv => hst v (List.mem_of_mem_drop hv)
    have hq1 : ∀ h, σ.2.2 h = true ∨ h = 63 → q' h = q h := fun h w => (hqq h w).1
    have hm1 : ∀ h, σ.2.2 h = true → σ'.2.2 h = true := fun h w => (hqq h (Or.inl w)).2 w
    have := hk _ _ _ _ _ _ hKK q' H1 locs1 ls hR1 (a_ls_q hl hL hq1) (fun i v hv => a_ok_up (hL i v hv) hm1) (fun v hv => by
      rcases List.mem_append.mp hv with w | w
      · exact hok v (by cases r with | none => cases w | some z => exact congrArg some (List.mem_singleton.mp w).symm)
      · exact a_ok_up (hd1 v w) hm1) hS1 (fun h w => ⟨((hqq h (w.elim (fun z => Or.inl ((hq h w).2 z)) Or.inr)).1).trans (hq h w).1, fun z => hm1 h ((hq h w).2 z)⟩)
    rw [List.map_append, a_mapq hd1 hq1] at this
    exact this
end AD
/-! returns -/
def t_iret (K : aK) (mc ms : Nat) : aT := fun _ _ st σ kc ks => match st with
  | [.inl v] => a_g (decide (kc ≤ mc) && decide (ks ≤ ms)) (K (some (.inl v)) σ)
  | _ => False
def t_zret (K : aK) (mc ms : Nat) : aT := fun _ _ st σ kc ks => match st with
  | [.inl v] => a_g (decide (kc ≤ mc) && decide (ks ≤ ms)) ((v = 0 ∨ v = 1) ∧ K (some (.inl v)) σ)
  | _ => False
def t_aret (K : aK) (mc ms : Nat) : aT := fun _ _ st σ kc ks => match st with
  | [.inr r] => a_g (decide (kc ≤ mc) && decide (ks ≤ ms)) (K (some (.inr r)) σ)
  | _ => False
def t_vret (K : aK) (mc ms : Nat) : aT := fun _ _ st σ kc ks => match st with
  | [] => a_g (decide (kc ≤ mc) && decide (ks ≤ ms)) (K none σ)
  | _ => False
theorem a_cg2 {a b : Prop} {_ : Decidable a} {_ : Decidable b} {P : Prop} (h : a_g (decide a && decide b) P) : a ∧ b ∧ P := by
  obtain ⟨h1, h2⟩ := a_ge h
  simp only [Bool.and_eq_true, decide_eq_true_eq] at h1
  exact ⟨h1.1, h1.2, h2⟩
section AE
variable {X : a_X} {cc : ByteArray} {rt : Option FieldType} {own : String} {pc mc ms : Nat} {K : aK}
theorem s_iret (C : a_C X cc (some .int) own) (M : a_mq X K mc ms) (hd : decode cc pc = .ok (.ireturn, 1)) : a_Sd X pc (t_iret K mc ms) := by
  obtain ⟨p, l, e, R, s, m, args, below, meth, c, Q, D, G, N0, nL, q0, σ0⟩ := X
  obtain ⟨hx, hb, hml, hr, hlk, hown, hts, hK, hN, hXF⟩ := C
  have M : Q = _ := M
  subst M
  intro k L st σ kc ks h hk q H locs ls hR hl hL hst hS hq
  unfold t_iret at h
  split at h
  · rename_i v
    obtain ⟨g1, g2, h⟩ := a_cg2 h
    refine W.widen g1 g2 ?_
    exact W.iret (v := v) hx hb hr (fun t ht hW => ⟨some (.inl v), σ, q, rfl, h, fun w e => (by cases e; intro h' e'; cases e'), fun h' w => hq h' w, (by rw [ht]; exact hR), hS.F ht⟩) hS.2.2 hd hlk
  · exact h.elim
theorem s_zret (C : a_C X cc (some .boolean) own) (M : a_mq X K mc ms) (hd : decode cc pc = .ok (.ireturn, 1)) : a_Sd X pc (t_zret K mc ms) := by
  obtain ⟨p, l, e, R, s, m, args, below, meth, c, Q, D, G, N0, nL, q0, σ0⟩ := X
  obtain ⟨hx, hb, hml, hr, hlk, hown, hts, hK, hN, hXF⟩ := C
  have M : Q = _ := M
  subst M
  intro k L st σ kc ks h hk q H locs ls hR hl hL hst hS hq
  unfold t_zret at h
  split at h
  · rename_i v
    obtain ⟨g1, g2, h⟩ := a_cg2 h
    refine W.widen g1 g2 ?_
    exact W.zret (v := v) hx hb hr (by rcases h.1 with e | e <;> subst e <;> rfl) (fun t ht hW => ⟨some (.inl v), σ, q, rfl, h.2, fun w e => (by cases e; intro h' e'; cases e'), fun h' w => hq h' w, (by rw [ht]; exact hR), hS.F ht⟩) hS.2.2 hd hlk
  · exact h.elim
theorem s_aret {ty : FieldType} (C : a_C X cc (some ty) own) (hty : (∃ n, ty = .object n) ∨ ∃ t, ty = .array t) (M : a_mq X K mc ms) (hd : decode cc pc = .ok (.areturn, 1)) : a_Sd X pc (t_aret K mc ms) := by
  obtain ⟨p, l, e, R, s, m, args, below, meth, c, Q, D, G, N0, nL, q0, σ0⟩ := X
  obtain ⟨hx, hb, hml, hr, hlk, hown, hts, hK, hN, hXF⟩ := C
  have M : Q = _ := M
  subst M
  intro k L st σ kc ks h hk q H locs ls hR hl hL hst hS hq
  unfold t_aret at h
  split at h
  · rename_i r
    obtain ⟨g1, g2, h⟩ := a_cg2 h
    refine W.widen g1 g2 ?_
    exact W.aret (v := a_val q (.inr r)) hx hb hr hty (by cases r with | none => exact Or.inl rfl | some z => exact Or.inr ⟨_, rfl⟩) (fun t ht hW => ⟨some (.inr r), σ, q, rfl, h, fun w e => (by cases e; exact hst _ List.mem_cons_self), fun h' w => hq h' w, (by rw [ht]; exact hR), hS.F ht⟩) hS.2.2 hd hlk
  · exact h.elim
theorem s_vret (C : a_C X cc none own) (M : a_mq X K mc ms) (hd : decode cc pc = .ok (.return_, 1)) : a_Sd X pc (t_vret K mc ms) := by
  obtain ⟨p, l, e, R, s, m, args, below, meth, c, Q, D, G, N0, nL, q0, σ0⟩ := X
  obtain ⟨hx, hb, hml, hr, hlk, hown, hts, hK, hN, hXF⟩ := C
  have M : Q = _ := M
  subst M
  intro k L st σ kc ks h hk q H locs ls hR hl hL hst hS hq
  unfold t_vret at h
  split at h
  · obtain ⟨g1, g2, h⟩ := a_cg2 h
    refine W.widen g1 g2 ?_
    exact W.vret hx hb hr (fun t ht hW => ⟨none, σ, q, rfl, h, fun w e => (by cases e), fun h' w => hq h' w, (by rw [ht]; exact hR), hS.F ht⟩) hS.2.2 hd hlk
  · exact h.elim
end AE
/-- a contract out of the run of its body -/
theorem a_con {l : Launch} {D : va_G} {G : aG} {N0 : Nat} {y : MethodName} {cc : ByteArray} {nL : Nat} {rt : Option FieldType} {rm : Room} {spec : aP} (hy : plainName y.cls = true) (hlen : ∀ as σ K, spec as σ K → as.length ≤ nL)
    (body : ∀ (X : a_X) (as : List aV) (σ : aS) (K : aK), spec as σ K → a_C X cc rt y.cls → a_Y X l rm D G N0 → a_mq X K rm.cells rm.slots → X.2.2.2.2.2.2.2.2.1.name = y.name → a_J X 0 (as.map some ++ List.replicate (nL - as.length) none) [] σ 0 0) : a_Con l D G N0 y cc nL rt rm spec := by
  intro as σ K q hsp hok
  refine Met.ofW (cc := cc) (maxL := nL) (ret := rt) hy rfl ?_
  intro p e s m args below meth c s₁ B hml hv
  obtain ⟨rfl, hN, hR, hK, hXF⟩ := hv
  have hts0 := atoms_spec (ws := Cond.code y cc nL rt :: lw_g) B.pre
  have hown : s.vm.findClass y.cls = some m.cls := findClass_of_methodNamed B.named
  have hnm : meth.name = y.name := (name_of_methodNamed B.named B.method).1
  have hC : a_C (p, l, e, rm, s, m, (as.map (a_val q)).toArray, below, meth, c, MQ below (a_Post D G N0 q σ K) (as.map (a_val q)).toArray s rm.cells rm.slots (fun a => N0 ≤ a), D, G, N0, nL, q, σ) cc rt y.cls :=
    ⟨B.exec, B.bytes, hml, B.returns, B.notSynchronized, hown, fun w hw => hts0 w (List.mem_cons_of_mem _ hw), hK, hN, hXF⟩
  have hlg : lg_sl (as.map (a_val q)) = (as.map (a_val q)).map Slot.val := by
    clear hsp hok hR hK hts0 hC B hXF
    induction as with
    | nil => rfl
    | cons v as ih =>
      rw [List.map_cons]
      have e1 : lg_sl (a_val q v :: as.map (a_val q)) = Slot.val (a_val q v) :: lg_sl (as.map (a_val q)) := by
        cases v with
        | inl x => rfl
        | inr r => cases r <;> rfl
      rw [e1, ih]
      rfl
  have hle := hlen as σ K hsp
  have hln : (lg_sl (as.map (a_val q))).length ≤ nL := by rw [hlg, List.length_map, List.length_map]; exact hle
  have hl := lv_entry (as.map (a_val q)) (n := nL) hln
  rw [lg_entry_eq]
  have hl2 : a_ls q nL (as.map some ++ List.replicate (nL - as.length) none) (lg_sl (as.map (a_val q)) ++ List.replicate (nL - (lg_sl (as.map (a_val q))).length) Slot.unset).toArray := by
    refine ⟨hl.1, by simp; omega, hl.2.1, fun i v hv => ?_⟩
    rw [hlg]
    by_cases hi : i < as.length
    · rw [List.getElem?_append_left (by rw [List.length_map]; exact hi), List.getElem?_map] at hv
      have hv2 : as[i]? = some v := by
        cases hx : as[i]? with
        | none => rw [hx] at hv; cases hv
        | some z => rw [hx] at hv; exact Option.some.inj hv
      rw [List.getElem?_toArray, List.getElem?_append_left (by simp; exact hi), List.getElem?_map, List.getElem?_map, hv2]
      rfl
    · rw [List.getElem?_append_right (by rw [List.length_map]; omega)] at hv
      rw [List.getElem?_replicate] at hv
      split at hv <;> cases hv
  refine body _ as σ K hsp hC ⟨rfl, rfl, rfl, rfl, rfl⟩ rfl hnm q s.heap [] _ hR hl2 (fun i v hv => ?_) (fun v hv => by cases hv) va_S.rf (fun h w => ⟨rfl, id⟩)
  by_cases hi : i < as.length
  · rw [List.getElem?_append_left (by rw [List.length_map]; exact hi), List.getElem?_map] at hv
    have hv2 : as[i]? = some v := by
      cases hx : as[i]? with
      | none => rw [hx] at hv; cases hv
      | some z => rw [hx] at hv; exact Option.some.inj hv
    exact hok v (List.mem_of_getElem? hv2)
  · rw [List.getElem?_append_right (by rw [List.length_map]; omega)] at hv
    rw [List.getElem?_replicate] at hv
    split at hv <;> cases hv
