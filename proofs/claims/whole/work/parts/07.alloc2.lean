/-! ===== constructors' calls, clone, new int[4][8] ===== -/
section AI
variable {X : a_X} {cc bytes : ByteArray} {rt ret : Option FieldType} {own : String} {pc n index maxL bc bs : Nat} {l : Launch} {R rm : Room} {D : va_G} {G : aG} {N0 : Nat} {y : MethodName} {spec : aP}
theorem a_split {st As : List aV} {hh n : Nat} {q : Nat → Nat} (hAs : (st.take (n + 1)).reverse = .inr (some hh) :: As) : st.map (a_val q) = (As.map (a_val q)).reverse ++ .ref (q hh) :: (st.drop (n + 1)).map (a_val q) := by
  have e1 : st.take (n + 1) = As.reverse ++ [.inr (some hh)] := by
    have := congrArg List.reverse hAs
    rw [List.reverse_reverse, List.reverse_cons] at this
    exact this
  have e2 : st.map (a_val q) = (st.take (n + 1) ++ st.drop (n + 1)).map (a_val q) := by rw [List.take_append_drop]
  rw [e2, List.map_append, e1, List.map_append, ← List.map_reverse]
  simp [a_val, va_rf]
theorem s_callI (C : a_C X cc rt own) (Y : a_Y X l R D G N0) (hM : a_Con l D G N0 y bytes maxL none rm spec) (hrec : ∀ as σ K, spec as σ K → ∃ h As, as = .inr (some h) :: As) (hcode : Cond.code y bytes maxL none ∈ lw_g) (hlink : Cond.methodLink own index y ∈ lw_g) (hinst : Cond.instanceMethod y ∈ lw_g) (hini : Cond.initialized y.cls ∈ lw_g) (hnm : y.name = "<init>")
    (hd : y.cls ≠ "java/lang/invoke/MethodHandle" ∧ y.cls ≠ "java/lang/invoke/VarHandle" ∧ (parseMethodDescriptor y.desc).map (fun d => d.parameters.length) = some n) (hR : rm.frames + 1 ≤ R.frames ∧ 8 + (maxL + 11) + rm.locals ≤ R.locals) (hb : bc = R.cells ∧ bs = R.slots) (hdg : decode cc pc = .ok (.invokespecial index, 3)) : a_Sd X pc (t_call (n + 1) rm.cells rm.slots bc bs spec (pc + 3)) := by
  obtain ⟨p, l', e, R', s, m, args, below, meth, c, Q, D', G', N0', nL, q0, σ0⟩ := X
  obtain ⟨rfl, rfl, rfl, rfl, rfl⟩ := Y
  obtain ⟨hx, hb1, hml, hr, hlk, hown, hts, hK, hN, hXF⟩ := C
  obtain ⟨rfl, rfl⟩ := hb
  intro k L st σ kc ks h hk q H locs ls hRr hl hL hst hS hq
  obtain ⟨g1, g2, g3, g4, hsp⟩ := a_cg h
  have cb := callB_of (R := R') (Ts := lw_g) (ws := Cond.code y bytes maxL none :: lw_g) (ws' := lw_g) (rm := rm) (own := own) (index := index) n hts (a_gin hcode) rfl rfl rfl (hts _ hini) (hts _ hlink) hd hR
  have hta : ∀ v ∈ (st.take (n + 1)).reverse, a_ok σ v := fun v hv => hst v (List.mem_of_mem_take (List.mem_reverse.mp hv))
  obtain ⟨hh, As, hAs⟩ := hrec _ _ _ hsp
  have hlen : As.length = n := by
    have := congrArg List.length hAs
    rw [List.length_reverse, List.length_take, List.length_cons] at this
    omega
  have hst2 := a_split (q := q) hAs
  have hM1 := hM _ σ _ q hsp hta
  rw [hAs] at hM1
  refine a_callx (va_runI (b := q hh) (As := As.map (a_val q)) (rest := (st.drop (n + 1)).map (a_val q)) ⟨hx, hb1, hml, hown, hts⟩ hM1 ⟨cb, hnm, hts _ hinst⟩ ⟨a_blind, fun U hU hW => ⟨rfl, ?_, ?_, ?_, hXF.warm hW⟩⟩ rfl (by rw [List.length_map]; exact hlen) hl.1 hst2 ?_ hdg ⟨g3, g4⟩) hS (fun r σ' q' H1 locs1 hKK hok hqq hR1 hS1 => ?_)
  · rw [hU]; exact Nat.le_trans hN hS.1
  · rw [hU]; exact hRr
  · exact va_K.moved hW.alike hK
  · show 2 * 0 + _ ≤ 8
    rw [a_sum, List.length_drop]
    omega
  · have hd1 : ∀ v ∈ st.drop (n + 1), a_ok σ v := fun v hv => hst v (List.mem_of_mem_drop hv)
    have hq1 : ∀ h, σ.2.2 h = true ∨ h = 63 → q' h = q h := fun h w => (hqq h w).1
    have hm1 : ∀ h, σ.2.2 h = true → σ'.2.2 h = true := fun h w => (hqq h (Or.inl w)).2 w
    have := hk _ _ _ _ _ _ hKK q' H1 locs1 ls hR1 (a_ls_q hl hL hq1) (fun i v hv => a_ok_up (hL i v hv) hm1) (fun v hv => by
      rcases List.mem_append.mp hv with w | w
      · exact hok v (by cases r with | none => cases w | some z => exact congrArg some (List.mem_singleton.mp w).symm)
      · exact a_ok_up (hd1 v w) hm1) hS1 (fun h w => ⟨((hqq h (w.elim (fun z => Or.inl ((hq h w).2 z)) Or.inr)).1).trans (hq h w).1, fun z => hm1 h ((hq h w).2 z)⟩)
    rw [List.map_append, a_mapq hd1 hq1] at this
    exact this
/-- the nest mate's constructor -/
theorem s_callIN (C : a_C X cc rt RX2) (Y : a_Y X l R D G N0) (hM : a_Con l D G N0 yX0_init bytes maxL none rm spec) (hrec : ∀ as σ K, spec as σ K → ∃ h As, as = .inr (some h) :: As) (hcode : Cond.code yX0_init bytes maxL none ∈ lw_g) (hinst : Cond.instanceMethod yX0_init ∈ lw_g) (hini : Cond.initialized RX0 ∈ lw_g)
    (hR : rm.frames + 1 ≤ R.frames ∧ 8 + (maxL + 11) + rm.locals ≤ R.locals) (hb : bc = R.cells ∧ bs = R.slots) (hdg : decode cc pc = .ok (.invokespecial 25, 3)) : a_Sd X pc (t_call 1 rm.cells rm.slots bc bs spec (pc + 3)) := by
  obtain ⟨p, l', e, R', s, m, args, below, meth, c, Q, D', G', N0', nL, q0, σ0⟩ := X
  obtain ⟨rfl, rfl, rfl, rfl, rfl⟩ := Y
  obtain ⟨hx, hb1, hml, hr, hlk, hown, hts, hK, hN, hXF⟩ := C
  obtain ⟨rfl, rfl⟩ := hb
  intro k L st σ kc ks h hk q H locs ls hRr hl hL hst hS hq
  obtain ⟨g1, g2, g3, g4, hsp⟩ := a_cg h
  have cb := va_cnB (R := R') (Ts := lw_g) (ws := Cond.code yX0_init bytes maxL none :: lw_g) (ws' := lw_g) (rm := rm) 0 hts (a_gin hcode) rfl rfl rfl hXF.2.2.2 (hts _ hini) (by decide +kernel) hR
  have hta : ∀ v ∈ (st.take (0 + 1)).reverse, a_ok σ v := fun v hv => hst v (List.mem_of_mem_take (List.mem_reverse.mp hv))
  obtain ⟨hh, As, hAs⟩ := hrec _ _ _ hsp
  have hlen : As.length = 0 := by
    have := congrArg List.length hAs
    rw [List.length_reverse, List.length_take, List.length_cons] at this
    omega
  have hst2 := a_split (q := q) (n := 0) hAs
  have hM1 := hM _ σ _ q hsp hta
  rw [show (st.take 1).reverse = _ from hAs] at hM1
  refine a_callx (va_runIN (b := q hh) (As := As.map (a_val q)) (rest := (st.drop (0 + 1)).map (a_val q)) ⟨hx, hb1, hml, hown, hts⟩ hM1 ⟨cb, rfl, hts _ hinst⟩ ⟨a_blind, fun U hU hW => ⟨rfl, ?_, ?_, ?_, hXF.warm hW⟩⟩ rfl (by rw [List.length_map]; exact hlen) hl.1 hst2 ?_ hdg ⟨g3, g4⟩) hS (fun r σ' q' H1 locs1 hKK hok hqq hR1 hS1 => ?_)
  · rw [hU]; exact Nat.le_trans hN hS.1
  · rw [hU]; exact hRr
  · exact va_K.moved hW.alike hK
  · show 2 * 0 + _ ≤ 8
    rw [a_sum, List.length_drop]
    omega
  · have hd1 : ∀ v ∈ st.drop (0 + 1), a_ok σ v := fun v hv => hst v (List.mem_of_mem_drop hv)
    have hq1 : ∀ h, σ.2.2 h = true ∨ h = 63 → q' h = q h := fun h w => (hqq h w).1
    have hm1 : ∀ h, σ.2.2 h = true → σ'.2.2 h = true := fun h w => (hqq h (Or.inl w)).2 w
    have := hk _ _ _ _ _ _ hKK q' H1 locs1 ls hR1 (a_ls_q hl hL hq1) (fun i v hv => a_ok_up (hL i v hv) hm1) (fun v hv => by
      rcases List.mem_append.mp hv with w | w
      · exact hok v (by cases r with | none => cases w | some z => exact congrArg some (List.mem_singleton.mp w).symm)
      · exact a_ok_up (hd1 v w) hm1) hS1 (fun h w => ⟨((hqq h (w.elim (fun z => Or.inl ((hq h w).2 z)) Or.inr)).1).trans (hq h w).1, fun z => hm1 h ((hq h w).2 z)⟩)
    rw [List.map_append, a_mapq hd1 hq1] at this
    exact this
end AI
/-! the world as a list, for clone -/
def a_wl (G : aG) (q : Nat → Nat) (σ : aS) : va_W := ((List.range 256).filter (fun h => σ.2.2 h)).map (fun h => (q h, a_E G q σ h))
theorem a_wl_in {D : va_G} {G : aG} {N0 : Nat} {q : Nat → Nat} {σ : aS} {H : Heap} (hR : a_R D G N0 q σ H) {h : Nat} (hh : σ.2.2 h = true) : ∃ j : Nat, (a_wl G q σ)[j]? = some (q h, a_E G q σ h) :=
  List.getElem?_of_mem (List.mem_map.mpr ⟨h, List.mem_filter.mpr ⟨List.mem_range.mpr (hR.1 h hh).1.2.1, hh⟩, rfl⟩)
theorem a_wl_P {D : va_G} {G : aG} {N0 : Nat} {q : Nat → Nat} {σ : aS} {H : Heap} (hR : a_R D G N0 q σ H) : va_P D a_cls (a_wl G q σ) H := by
  intro k x hx
  obtain ⟨h, hh, rfl⟩ := List.mem_map.mp (List.mem_of_getElem? hx)
  exact (hR.1 h (List.mem_filter.mp hh).2).2
theorem a_wl_D {D : va_G} {G : aG} {N0 : Nat} {q : Nat → Nat} {σ : aS} {H : Heap} (hR : a_R D G N0 q σ H) : va_D (fun a => N0 ≤ a) (a_wl G q σ) := by
  refine ⟨fun i j x y hx hy e => ?_, fun k x hx => ?_⟩
  · unfold a_wl at hx hy
    rw [List.getElem?_map] at hx hy
    cases h1 : ((List.range 256).filter (fun h => σ.2.2 h))[i]? with
    | none => rw [h1] at hx; cases hx
    | some a =>
      cases h2 : ((List.range 256).filter (fun h => σ.2.2 h))[j]? with
      | none => rw [h2] at hy; cases hy
      | some b =>
        rw [h1] at hx
        rw [h2] at hy
        cases hx
        cases hy
        have ha := (List.mem_filter.mp (List.mem_of_getElem? h1)).2
        have hb := (List.mem_filter.mp (List.mem_of_getElem? h2)).2
        have hab : a = b := hR.2.1 a b ha hb e
        have hnd : ((List.range 256).filter (fun h => σ.2.2 h)).Nodup := List.Pairwise.filter _ List.nodup_range
        exact (List.getElem?_inj (List.getElem?_eq_some_iff.mp h1).1 hnd).mp (by rw [h1, h2, hab])
  · obtain ⟨h, hh, rfl⟩ := List.mem_map.mp (List.mem_of_getElem? hx)
    exact (hR.1 h (List.mem_filter.mp hh).2).1.1
def t_clone (bc bs nx : Nat) : aT := fun k L st σ kc ks => match st with
  | .inr (some h) :: st' => a_g (a_is σ h 4 8) (a_g (decide (st'.length ≤ 8)) (a_gb kc ks 1 8 bc bs (∃ h0, σ.2.2 h0 = false ∧ kd h0 = (4, 8) ∧ (h0 < 256 ∧ h0 ≠ 63) ∧ k nx L (.inr (some h0) :: st') (a_new σ h0 (σ.1 h)) (kc + 1) (ks + 8))))
  | _ => False
def t_cast (nx : Nat) : aT := fun k L st σ kc ks => match st with
  | .inr (some h) :: st' => a_g (a_isA σ h 4) (k nx L (.inr (some h) :: st') σ kc ks)
  | _ => False
section AQ
variable {X : a_X} {cc bytes : ByteArray} {rt ret : Option FieldType} {own : String} {pc n index maxL bc bs : Nat} {l : Launch} {R rm : Room} {D : va_G} {G : aG} {N0 : Nat}
theorem s_cast (C : a_C X cc rt own) (hlink : Cond.classLink own index "[I" ∈ lw_g) (hd : decode cc pc = .ok (.checkcast index, 3)) : a_Sd X pc (t_cast (pc + 3)) := by
  obtain ⟨p, l', e, R', s, m, args, below, meth, c, Q, D', G', N0', nL, q0, σ0⟩ := X
  obtain ⟨hx, hb1, hml, hr, hlk, hown, hts, hK, hN, hXF⟩ := C
  intro k L st σ kc ks h hk q H locs ls hRr hl hL hst hS hq
  unfold t_cast at h
  split at h
  · rename_i hh st'
    obtain ⟨ea, h⟩ := a_ge h
    obtain ⟨e1, e2⟩ := a_isAE ea
    have hat := (hRr.1 hh e1).2
    rw [a_E_4 e2] at hat
    have hnm : s.vm.findClass "[I" = some G'.1 := (hK.2 0 _ rfl).2
    exact va_castA (D := D') hx hb1 hown (hts _ hlink) (a_P1 hat) 0 rfl hnm hd (hk _ _ _ _ _ _ h q H locs ls hRr hl hL hst hS hq)
  · exact h.elim
theorem s_clone (C : a_C X cc rt own) (Y : a_Y X l R D G N0) (hlink : Cond.methodLink own index ⟨"[I", "clone", "()Ljava/lang/Object;"⟩ ∈ lw_g) (hsame : Cond.sameMethod "[I" "java/lang/Object" "clone" "()Ljava/lang/Object;" ∈ lw_g) (hnat : Cond.native ⟨"java/lang/Object", "clone", "()Ljava/lang/Object;"⟩ ∈ lw_g) (hinst : Cond.instanceMethod ⟨"java/lang/Object", "clone", "()Ljava/lang/Object;"⟩ ∈ lw_g) (hsel : Cond.selects "[I" ⟨"[I", "clone", "()Ljava/lang/Object;"⟩ ⟨"java/lang/Object", "clone", "()Ljava/lang/Object;"⟩ ∈ lw_g)
    (hR : 1 ≤ R.frames ∧ 22 ≤ R.locals) (hb : bc = R.cells ∧ bs = R.slots) (hd : decode cc pc = .ok (.invokevirtual index, 3)) : a_Sd X pc (t_clone bc bs (pc + 3)) := by
  obtain ⟨p, l', e, R', s, m, args, below, meth, c, Q, D', G', N0', nL, q0, σ0⟩ := X
  obtain ⟨rfl, rfl, rfl, rfl, rfl⟩ := Y
  obtain ⟨hx, hb1, hml, hr, hlk, hown, hts, hK, hN, hXF⟩ := C
  obtain ⟨rfl, rfl⟩ := hb
  intro k L st σ kc ks h hk q H locs ls hRr hl hL hst hS hq
  unfold t_clone at h
  split at h
  · rename_i hh st'
    obtain ⟨ea, h⟩ := a_ge h
    obtain ⟨eb, h⟩ := a_ge h
    have eb := of_decide_eq_true eb
    obtain ⟨g1, g2, h0, f1, f2, f3, h⟩ := a_cg2 h
    obtain ⟨e1, e2, e3⟩ := a_isE ea
    obtain ⟨j, hj⟩ := a_wl_in hRr e1
    rw [a_E_4 e2, e3] at hj
    have hnm : s.vm.findClass "[I" = some G'.1 := (hK.2 0 _ rfl).2
    refine va_clone (D := D') (A := fun a => N0' ≤ a) (H0 := s.heap) (ty := .int) hx hb1 (by rw [hml]; exact hl.1.symm) hown (hts _ hlink) (hts _ hsame) (hts _ hnat) (hts _ hinst) (hts _ hsel) hXF.2.2.1 hK (a_wl_P hRr) (a_wl_D hRr) hS (fun a ha => Nat.le_trans hN ha) j 0 hj rfl hnm ?_ hR.1 ?_ g1 g2 hd (fun qn H1 hK1 hP1 hD1 hS1 => ?_)
    · intro i v hv
      have hlt : i < 8 := by
        have := (Array.getElem?_eq_some_iff.mp hv).1
        rw [vp_cell_i, arrV_size] at this
        exact this
      rw [vp_cell_i, arrV_read _ _ hlt] at hv
      cases hv
      rfl
    · rw [a_sum]
      have := hR.2
      omega
    · have hP2 : ∀ h', σ.2.2 h' = true → ∃ i : Nat, ((a_wl G' q σ) ++ [(qn, .inl (G'.1, 8, .inl (σ.1 hh)))])[i]? = some (q h', a_E G' q σ h') ∧ i < (a_wl G' q σ).length := fun h' w => by
        obtain ⟨i, hi⟩ := a_wl_in hRr w
        have hil := (List.getElem?_eq_some_iff.mp hi).1
        exact ⟨i, by rw [List.getElem?_append_left hil]; exact hi, hil⟩
      have hlast : ((a_wl G' q σ) ++ [(qn, .inl (G'.1, 8, .inl (σ.1 hh)))])[(a_wl G' q σ).length]? = some (qn, (.inl (G'.1, 8, .inl (σ.1 hh)) : va_E)) := by simp
      refine a_nwJ hRr hl hL (a_okT hst) hS1 hq f1 f3 (hD1.2 _ _ hlast) (fun h' w e' => ?_) (fun h' w => ?_) ?_ (hk _ _ _ _ _ _ h)
      · obtain ⟨i, hi, hil⟩ := hP2 h' w
        have := hD1.1 _ _ _ _ hi hlast e'
        omega
      · obtain ⟨i, hi, -⟩ := hP2 h' w
        exact hP1 i _ hi
      · rw [a_E_4 (by rw [f2]), f2, a_new_1]
        exact hP1 _ _ hlast
  · exact h.elim
end AQ
/-! new int[4][8]: handles 1 and 6 .. 9 -/
def a_mnh (h : Nat) : Bool := decide (h = 1) || (decide (6 ≤ h) && decide (h ≤ 9))
def a_mn (σ : aS) : aS := (fun h k => if a_mnh h = true then 0 else σ.1 h k, fun h k => if h = 1 then (if k < 4 then some (6 + k) else none) else if a_mnh h = true then none else σ.2.1 h k, fun h => if a_mnh h = true then true else σ.2.2 h)
def t_mna (bc bs nx : Nat) : aT := fun k L st σ kc ks => match st with
  | .inl x :: .inl y :: st' => (x = 8 ∧ y = 4) ∧ a_gb kc ks 5 36 bc bs ((∀ h, a_mnh h = true → σ.2.2 h = false) ∧ k nx L (.inr (some 1) :: st') (a_mn σ) (kc + 5) (ks + 36))
  | _ => False
theorem a_outer (c : ClassId) (N h0 : Nat) : ∀ i : Nat, Jvm.Free.Multi.outerC c N h0 i = arrV c N (fun j => va_rf (if j < i then some (h0 + 1 + j) else none))
  | 0 => by
    show ({ cls := c, slots := Array.replicate N .null, vm := .none } : Cell) = _
    rw [arrV_new]
    refine congrArg (arrV c N) (funext fun j => ?_)
    simp [va_rf]
  | i + 1 => by
    show (Jvm.Free.Multi.outerC c N h0 i).setSlot i (.ref (h0 + 1 + i)) = _
    rw [a_outer c N h0 i, arrV_store]
    refine congrArg (arrV c N) (funext fun j => ?_)
    by_cases e : j = i
    · subst e
      simp [updV, va_rf]
    · by_cases h : j < i
      · simp [updV, e, h, Nat.lt_succ_of_lt h]
      · simp [updV, e, h, show ¬ j < i + 1 by omega]
theorem s_mna {X : a_X} {cc : ByteArray} {rt : Option FieldType} {own : String} {pc index bc bs : Nat} {l : Launch} {R : Room} {D : va_G} {G : aG} {N0 : Nat} (C : a_C X cc rt own) (Y : a_Y X l R D G N0) (hlink : Cond.classLink own index "[[I" ∈ lw_g) (harr : Cond.arrayClass .int ∈ lw_g) (hb : bc = R.cells ∧ bs = R.slots) (hd : decode cc pc = .ok (.multianewarray index 2, 4)) : a_Sd X pc (t_mna bc bs (pc + 4)) := by
  obtain ⟨p, l', e, R', s, m, args, below, meth, c, Q, D', G', N0', nL, q0, σ0⟩ := X
  obtain ⟨rfl, rfl, rfl, rfl, rfl⟩ := Y
  obtain ⟨hx, hb1, hml, hr, hlk, hown, hts, hK, hN, hXF⟩ := C
  obtain ⟨rfl, rfl⟩ := hb
  intro k L st σ kc ks h hk q H locs ls hRr hl hL hst hS hq
  unfold t_mna at h
  split at h
  · rename_i x y st'
    obtain ⟨⟨rfl, rfl⟩, h⟩ := h
    obtain ⟨g1, g2, f1, h⟩ := a_cg2 h
    intro T hT Xs
    obtain ⟨vm₁, cA, comp, -, fA, fC, hO, -, X', step⟩ := Xs.multianewarray2F (ty := .int) hx hown (hts _ hlink) (show (Cond.arrayOver (.array .int)).before args s = true from hXF.2.1) (hts _ harr) (g := F0 m pc ls ((Sum.inl 8 :: Sum.inl 4 :: st' : List aV).map (a_val q))) rfl (by rw [hb1]; exact hd) (n := 4) (k := 8) (rest := st'.map (a_val q)) rfl (by decide) (by decide) (by decide) (by decide) (by decide) rfl rfl (by show kc + (1 + 4) ≤ _; omega) (by show ks + (4 + 4 * 8) ≤ _; omega)
    have hcA : cA = G'.2.2 := Option.some.inj (fA.symm.trans (hK.2 2 _ rfl).2)
    have hcC : comp = G'.1 := Option.some.inj (fC.symm.trans (hK.2 0 _ rfl).2)
    subst hcA
    subst hcC
    have n4 : (4 : Int32).toNatClampNeg = 4 := by decide
    have n8 : (8 : Int32).toNatClampNeg = 8 := by decide
    rw [n4, n8] at X' step
    generalize hF : Jvm.Free.Multi.fill (T.setVm vm₁) G'.2.2 G'.1 4 8 (defaultValue .int) 4 = F at X' step
    have hTh : (T.setVm vm₁).heap = H := hT
    obtain ⟨k1, k2, -, -⟩ := Jvm.Free.Multi.fill_facts (T.setVm vm₁) G'.2.2 G'.1 4 8 (defaultValue .int) 4
    rw [hF, hTh] at k1 k2
    have hold : ∀ x : Nat, x < H.size → F.heap[x]? = H[x]? := fun x hx => by
      have := Jvm.Free.Multi.fill_old (T.setVm vm₁) G'.2.2 G'.1 4 8 (defaultValue .int) (a := x) (by rw [hTh]; exact hx) 4
      rw [hF, hTh] at this
      exact this
    have hrow : ∀ j : Nat, j < 4 → F.heap[H.size + 1 + j]? = some (vp_cell G'.1 (8, .inl (fun _ => 0))) := fun j hj => by
      have := Jvm.Free.Multi.fill_inner (T.setVm vm₁) G'.2.2 G'.1 4 8 (defaultValue .int) 4 j hj
      rw [hF, hTh] at this
      rw [this]
      show some (Jvm.Free.Multi.innerC G'.1 8 (.int 0)) = some (arrV G'.1 8 (fun _ => .int 0))
      rw [← arrV_new]
      rfl
    rw [a_outer] at k2
    have hlt : ∀ h, σ.2.2 h = true → q h < H.size := fun h w => (hRr.1 h w).2.lt
    have hnm : ∀ h, σ.2.2 h = true → a_mnh h = false := fun h w => by
      cases hz : a_mnh h with
      | false => rfl
      | true => rw [f1 h hz] at w; cases w
    have hlv : ∀ h, (a_mn σ).2.2 h = true → a_mnh h = false → σ.2.2 h = true := fun h w z => by
      have w : (if a_mnh h = true then true else σ.2.2 h) = true := w
      rw [z] at w
      exact w
    have hm1 : ∀ h, σ.2.2 h = true → (a_mn σ).2.2 h = true := fun h w => by
      show (if a_mnh h = true then true else σ.2.2 h) = true
      rw [hnm h w]
      exact w
    have ht1 : ∀ h, a_mnh h = true → h = 1 ∨ h = 6 ∨ h = 7 ∨ h = 8 ∨ h = 9 := fun h w => by
      unfold a_mnh at w
      simp only [Bool.or_eq_true, Bool.and_eq_true, decide_eq_true_eq] at w
      omega
    obtain ⟨qn, hqn⟩ : ∃ qn : Nat → Nat, ∀ h, qn h = if a_mnh h = true then (if h = 1 then H.size else H.size + 1 + (h - 6)) else q h := ⟨fun h => _, fun h => rfl⟩
    have hq1 : ∀ h, σ.2.2 h = true ∨ h = 63 → qn h = q h := fun h w => by
      rw [hqn h]
      rcases w with w | w
      · rw [hnm h w]; rfl
      · rw [w]; rfl
    have hEo : ∀ h, σ.2.2 h = true → a_E G' qn (a_mn σ) h = a_E G' q σ h := fun h w => a_E_q (by
        funext k'
        show (if a_mnh h = true then 0 else σ.1 h k') = _
        rw [hnm h w]; rfl) (by
        funext k'
        show (if h = 1 then _ else if a_mnh h = true then none else σ.2.1 h k') = _
        have : h ≠ 1 := fun z => by rw [z] at w; have := hnm 1 w; cases this
        rw [if_neg this, hnm h w]; rfl) (fun k' h' z => hq1 h' (Or.inl (hRr.2.2 h k' h' w z)))
    have hR1 : a_R D' G' N0' qn (a_mn σ) F.heap := by
      refine ⟨fun h w => ?_, fun h h' w w' z => ?_, fun h k' h' w z => ?_⟩
      · by_cases em : a_mnh h = true
        · have hsz : N0' ≤ H.size := Nat.le_trans hN hS.1
          rcases ht1 h em with rfl | rfl | rfl | rfl | rfl
          · refine ⟨⟨by rw [hqn]; exact hsz, by decide, by decide⟩, ?_⟩
            rw [a_E_6 (by rfl)]
            show F.heap[qn 1]? = some (vp_cell _ _)
            rw [hqn 1, vp_cell_q]
            refine k2.trans (congrArg some (congrArg (arrV G'.2.2 4) (funext fun j => ?_)))
            show va_rf (if j < 4 then some (H.size + 1 + j) else none) = va_rf ((if j < 4 then some (6 + j) else none).map qn)
            by_cases hj : j < 4
            · rw [if_pos hj, if_pos hj]
              have e9 : qn (6 + j) = H.size + 1 + j := by
                rw [hqn]
                have : a_mnh (6 + j) = true := by
                  unfold a_mnh
                  simp only [Bool.or_eq_true, Bool.and_eq_true, decide_eq_true_eq]
                  omega
                rw [this, if_pos rfl, if_neg (by omega)]
                omega
              show va_rf (some (H.size + 1 + j)) = va_rf (some (qn (6 + j)))
              rw [e9]
            · rw [if_neg hj, if_neg hj]; rfl
          all_goals
            refine ⟨⟨by rw [hqn]; exact Nat.le_trans hsz (by show H.size ≤ H.size + 1 + _; omega), by decide, by decide⟩, ?_⟩
            rw [a_E_4 (by rfl)]
            show F.heap[qn _]? = some (vp_cell _ _)
            rw [hqn]
            exact hrow _ (by decide)
        · have em : a_mnh h = false := by simpa using em
          have w2 := hlv h w em
          rw [hEo h w2, hq1 h (Or.inl w2)]
          exact ⟨(hRr.1 h w2).1, (hRr.1 h w2).2.kept (hold _ (hlt h w2))⟩
      · rw [hqn h, hqn h'] at z
        by_cases em : a_mnh h = true <;> by_cases em' : a_mnh h' = true
        · rw [em, em', if_pos rfl, if_pos rfl] at z
          have t1 := ht1 h em
          have t2 := ht1 h' em'
          split at z <;> split at z <;> omega
        · have em' : a_mnh h' = false := by simpa using em'
          have := hlt h' (hlv h' w' em')
          rw [em, em', if_pos (rfl : true = true), if_neg (show ¬ (false = true) by decide)] at z
          split at z <;> omega
        · have em : a_mnh h = false := by simpa using em
          have := hlt h (hlv h w em)
          rw [em, em', if_pos (rfl : true = true), if_neg (show ¬ (false = true) by decide)] at z
          split at z <;> omega
        · have em : a_mnh h = false := by simpa using em
          have em' : a_mnh h' = false := by simpa using em'
          rw [em, em', if_neg (show ¬ (false = true) by decide), if_neg (show ¬ (false = true) by decide)] at z
          exact hRr.2.1 h h' (hlv h w em) (hlv h' w' em') z
      · have z : (if h = 1 then (if k' < 4 then some (6 + k') else none) else if a_mnh h = true then none else σ.2.1 h k') = some h' := z
        by_cases e1 : h = 1
        · rw [if_pos e1] at z
          split at z
          · cases z
            show (if a_mnh (6 + k') = true then true else _) = true
            rw [show a_mnh (6 + k') = true by
              unfold a_mnh
              simp only [Bool.or_eq_true, Bool.and_eq_true, decide_eq_true_eq]
              omega]
            rfl
          · cases z
        · rw [if_neg e1] at z
          by_cases em : a_mnh h = true
          · rw [if_pos em] at z; cases z
          · rw [if_neg em] at z
            have em : a_mnh h = false := by simpa using em
            exact hm1 h' (hRr.2.2 h k' h' (hlv h w em) z)
    have hS1 : va_S (fun a => N0' ≤ a) s.heap F.heap locs := ⟨by rw [k1]; have := hS.1; omega, fun x h1 h2 => (hold x (Nat.lt_of_lt_of_le h1 hS.1)).trans (hS.2.1 x h1 h2), hS.2.2⟩
    have := hk _ _ _ _ _ _ h qn F.heap locs ls hR1 (a_ls_q hl hL hq1) (fun i v hv => a_ok_up (hL i v hv) hm1) (a_okC (fun h' e' => by cases e'; exact Or.inl rfl) (fun v hv => a_ok_up (a_okT (a_okT hst) v hv) hm1)) hS1 (fun h w => ⟨(hq1 h (w.elim (fun z => Or.inl ((hq h w).2 z)) Or.inr)).trans (hq h w).1, fun z => hm1 h ((hq h w).2 z)⟩)
    rw [List.map_cons, a_mapq (a_okT (a_okT hst)) hq1] at this
    have e9 : a_val qn (.inr (some 1)) = .ref H.size := congrArg (fun z => va_rf (some z)) (hqn 1)
    rw [e9] at this
    obtain ⟨t, a1, b1⟩ := this F rfl X'
    refine ⟨t, step t ?_, b1⟩
    have e : T.heap.size = H.size := by rw [hT]
    rw [e]
    exact a1
  · exact h.elim
