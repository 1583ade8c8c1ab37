/-! ===== making cells; constructors' calls ===== -/
def a_new (σ : aS) (h : Nat) (f : Nat → Int32) : aS := (fun h' k' => if h' = h then f k' else σ.1 h' k', fun h' k' => if h' = h then none else σ.2.1 h' k', fun h' => if h' = h then true else σ.2.2 h')
theorem a_new_1 {σ : aS} {h : Nat} {f : Nat → Int32} : (a_new σ h f).1 h = f := by funext k; exact if_pos rfl
theorem a_new_1n {σ : aS} {h h' : Nat} {f : Nat → Int32} (hn : h' ≠ h) : (a_new σ h f).1 h' = σ.1 h' := by funext k; exact if_neg hn
theorem a_new_2 {σ : aS} {h : Nat} {f : Nat → Int32} {k : Nat} : (a_new σ h f).2.1 h k = none := if_pos rfl
theorem a_new_2n {σ : aS} {h h' : Nat} {f : Nat → Int32} (hn : h' ≠ h) : (a_new σ h f).2.1 h' = σ.2.1 h' := by funext k; exact if_neg hn
theorem a_new_3 {σ : aS} {h : Nat} {f : Nat → Int32} : (a_new σ h f).2.2 h = true := if_pos rfl
theorem a_new_3n {σ : aS} {h h' : Nat} {f : Nat → Int32} (hn : h' ≠ h) : (a_new σ h f).2.2 h' = σ.2.2 h' := if_neg hn
theorem a_E_q {G : aG} {q q' : Nat → Nat} {σ σ' : aS} {h : Nat} (h1 : σ'.1 h = σ.1 h) (h2 : σ'.2.1 h = σ.2.1 h) (hq : ∀ k h', σ.2.1 h k = some h' → q' h' = q h') : a_E G q' σ' h = a_E G q σ h := by
  have e : ∀ k, (σ.2.1 h k).map q' = (σ.2.1 h k).map q := fun k => by
    cases hx : σ.2.1 h k with
    | none => rfl
    | some y => exact congrArg some (hq k y hx)
  unfold a_E a_fv
  rw [h1, h2]
  simp only [e]
def a_up (q : Nat → Nat) (h a : Nat) : Nat → Nat := fun h' => if h' = h then a else q h'
theorem a_up_s {q : Nat → Nat} {h a : Nat} : a_up q h a h = a := if_pos rfl
theorem a_up_n {q : Nat → Nat} {h a h' : Nat} (hn : h' ≠ h) : a_up q h a h' = q h' := if_neg hn
theorem a_R_nw {D : va_G} {G : aG} {N0 : Nat} {q : Nat → Nat} {σ : aS} {H H1 : Heap} {h0 a : Nat} {f : Nat → Int32} (hR : a_R D G N0 q σ H) (hl : σ.2.2 h0 = false) (hb : h0 < 256 ∧ h0 ≠ 63) (ha : N0 ≤ a) (hna : ∀ h, σ.2.2 h = true → q h ≠ a) (hold : ∀ h, σ.2.2 h = true → va_at D a_cls (q h, a_E G q σ h) H1)
    (hat : va_at D a_cls (a, a_E G (a_up q h0 a) (a_new σ h0 f) h0) H1) : a_R D G N0 (a_up q h0 a) (a_new σ h0 f) H1 := by
  obtain ⟨r1, r2, r3⟩ := hR
  have hne : ∀ h, σ.2.2 h = true → h ≠ h0 := fun h w e => by rw [e, hl] at w; cases w
  have hlv : ∀ h, (a_new σ h0 f).2.2 h = true → h ≠ h0 → σ.2.2 h = true := fun h w e => by rw [a_new_3n e] at w; exact w
  refine ⟨fun h hh => ?_, fun h h' e1 e2 e3 => ?_, fun h k h' e1 e2 => ?_⟩
  · by_cases e : h = h0
    · subst e
      rw [a_up_s]
      exact ⟨⟨ha, hb⟩, hat⟩
    · have w := hlv h hh e
      rw [a_up_n e, a_E_q (q := q) (σ := σ) (a_new_1n e) (a_new_2n e) (fun k h' z => a_up_n (hne h' (r3 h k h' w z)))]
      exact ⟨(r1 h w).1, hold h w⟩
  · by_cases f1 : h = h0 <;> by_cases f2 : h' = h0
    · rw [f1, f2]
    · rw [f1, a_up_s, a_up_n f2] at e3
      exact absurd e3.symm (hna h' (hlv h' e2 f2))
    · rw [f2, a_up_s, a_up_n f1] at e3
      exact absurd e3 (hna h (hlv h e1 f1))
    · rw [a_up_n f1, a_up_n f2] at e3
      exact r2 h h' (hlv h e1 f1) (hlv h' e2 f2) e3
  · by_cases e : h = h0
    · subst e
      rw [a_new_2] at e2
      cases e2
    · rw [a_new_2n e] at e2
      have w := r3 h k h' (hlv h e1 e) e2
      rw [a_new_3n (hne h' w)]
      exact w
section AN
variable {p : Program} {l : Launch} {e : Env} {R : Room} {s : State} {m : MethodId} {args : Array Value} {below : List Frame} {meth : Method} {c : Code} {H H1 : Heap} {locs : List Loc} {kc ks : Nat} {Q : State → Prop}
variable {pc : Nat} {ls : Array Slot} {D : va_G} {G : aG} {N0 nL : Nat} {q q0 : Nat → Nat} {σ σ0 : aS} {L : aL} {st : List aV} {h0 a : Nat} {f : Nat → Int32}
/-- behind a making: the run goes on in the larger world -/
theorem a_nwJ (hR : a_R D G N0 q σ H) (hl : a_ls q nL L ls) (hL : ∀ (i : Nat) (v : aV), L[i]? = some (some v) → a_ok σ v) (hst : ∀ v ∈ st, a_ok σ v) (hS1 : va_S (fun a => N0 ≤ a) s.heap H1 locs) (hq : ∀ h, σ0.2.2 h = true ∨ h = 63 → q h = q0 h ∧ (σ0.2.2 h = true → σ.2.2 h = true))
    (hlv : σ.2.2 h0 = false) (hb : h0 < 256 ∧ h0 ≠ 63) (ha : N0 ≤ a) (hna : ∀ h, σ.2.2 h = true → q h ≠ a) (hold : ∀ h, σ.2.2 h = true → va_at D a_cls (q h, a_E G q σ h) H1) (hat : va_at D a_cls (a, a_E G (a_up q h0 a) (a_new σ h0 f) h0) H1)
    (J : a_J (p, l, e, R, s, m, args, below, meth, c, Q, D, G, N0, nL, q0, σ0) pc L (.inr (some h0) :: st) (a_new σ h0 f) kc ks) : W p l e R s m args below meth c H1 locs kc ks Q (F0 m pc ls (.ref a :: st.map (a_val q))) := by
  have hq1 : ∀ h, σ.2.2 h = true ∨ h = 63 → a_up q h0 a h = q h := fun h w => a_up_n (w.elim (fun z e => by rw [e, hlv] at z; cases z) (fun z e => hb.2 (by rw [← e]; exact z)))
  have hm1 : ∀ h, σ.2.2 h = true → (a_new σ h0 f).2.2 h = true := fun h w => by
    rw [a_new_3n (fun e => by rw [e, hlv] at w; cases w)]
    exact w
  have := J (a_up q h0 a) H1 locs ls (a_R_nw hR hlv hb ha hna hold hat) (a_ls_q hl hL hq1) (fun i v hv => a_ok_up (hL i v hv) hm1) (a_okC (fun h' e' => by cases e'; exact Or.inl a_new_3) (fun v hv => a_ok_up (hst v hv) hm1)) hS1 (fun h w => ⟨(hq1 h (w.elim (fun z => Or.inl ((hq h w).2 z)) Or.inr)).trans (hq h w).1, fun z => hm1 h ((hq h w).2 z)⟩)
  rw [List.map_cons, a_mapq hst hq1] at this
  have e9 : a_val (a_up q h0 a) (.inr (some h0)) = .ref a := congrArg (fun z => va_rf (some z)) a_up_s
  rw [e9] at this
  exact this
end AN
def a_gb (kc ks nc ns bc bs : Nat) (P : Prop) : Prop := a_g (decide (kc + nc ≤ bc) && decide (ks + ns ≤ bs)) P
def t_new (ci n bc bs nx : Nat) : aT := fun k L st σ kc ks => a_gb kc ks 1 n bc bs (∃ h, σ.2.2 h = false ∧ kd h = (ci, n) ∧ (h < 256 ∧ h ≠ 63) ∧ k nx L (.inr (some h) :: st) (a_new σ h (fun _ => 0)) (kc + 1) (ks + n))
def t_newi (n bc bs nx : Nat) : aT := fun k L st σ kc ks => match st with
  | .inl x :: st' => x = Int32.ofNat n ∧ a_gb kc ks 1 n bc bs (∃ h, σ.2.2 h = false ∧ kd h = (4, n) ∧ (h < 256 ∧ h ≠ 63) ∧ k nx L (.inr (some h) :: st') (a_new σ h (fun _ => 0)) (kc + 1) (ks + n))
  | _ => False
def t_newq (n bc bs nx : Nat) : aT := fun k L st σ kc ks => match st with
  | .inl x :: st' => x = Int32.ofNat n ∧ a_gb kc ks 1 n bc bs (∃ h, σ.2.2 h = false ∧ kd h = (5, n) ∧ (h < 256 ∧ h ≠ 63) ∧ k nx L (.inr (some h) :: st') (a_new σ h (fun _ => 0)) (kc + 1) (ks + n))
  | _ => False
def t_obi (nx : Nat) : aT := fun k L st σ kc ks => match st with
  | .inr (some _) :: st' => a_g (decide (st'.length ≤ 8)) (k nx L st' σ kc ks)
  | _ => False
section AO
variable {X : a_X} {cc bytes : ByteArray} {rt ret : Option FieldType} {own : String} {pc n index maxL bc bs : Nat} {l : Launch} {R rm : Room} {D : va_G} {G : aG} {N0 : Nat} {y : MethodName} {spec : aP}
theorem s_obi (C : a_C X cc rt own) (Y : a_Y X l R D G N0) (hlink : Cond.methodLink own index objectInit ∈ lw_g) (hinst : Cond.instanceMethod objectInit ∈ lw_g) (hcode : Cond.code objectInit ⟨#[0xb1]⟩ 1 none ∈ lw_g) (hR : 1 ≤ R.frames ∧ 20 ≤ R.locals) (hd : decode cc pc = .ok (.invokespecial index, 3)) : a_Sd X pc (t_obi (pc + 3)) := by
  obtain ⟨p, l', e, R', s, m, args, below, meth, c, Q, D', G', N0', nL, q0, σ0⟩ := X
  obtain ⟨rfl, rfl, rfl, rfl, rfl⟩ := Y
  obtain ⟨hx, hb, hml, hr, hlk, hown, hts, hK, hN, hXF⟩ := C
  intro k L st σ kc ks h hk q H locs ls hRr hl hL hst hS hq
  unfold t_obi at h
  split at h
  · rename_i h9 st'
    obtain ⟨ea, h⟩ := a_ge h
    have ea := of_decide_eq_true ea
    refine W.objInit hx hb hown (hts _ hlink) (hts _ hinst) (hts _ hcode) rfl (by rw [hml]; exact hl.1) (rest := st'.map (a_val q)) rfl hd hR.1 ?_ (hk _ _ _ _ _ _ h q H locs ls hRr hl hL (a_okT hst) hS hq)
    show 2 * 0 + _ + 12 ≤ _
    rw [a_sum]
    have := hR.2
    omega
  · exact h.elim
theorem s_new (C : a_C X cc rt own) (Y : a_Y X l R D G N0) {ci : Nat} {Cn : String} {T : u_T} (ty0 : Nat → FieldType) (hty : ∀ k, k < n → parseFieldDescriptor (T k).2.2.1 = some (ty0 k)) (hdf : ∀ k, k < n → defaultValue (ty0 k) = if a_int ci k = true then .int 0 else .null) (hc : a_cls[ci]? = some (Cn, T, n)) (hin : ∀ w ∈ u_ws Cn T n, w ∈ lw_g) (hlink : Cond.classLink own index Cn ∈ lw_g) (hinst : Cond.instantiable Cn n ∈ lw_g) (hini : Cond.initialized Cn ∈ lw_g) (hb : bc = R.cells ∧ bs = R.slots) (hd : decode cc pc = .ok (.new index, 3)) : a_Sd X pc (t_new ci n bc bs (pc + 3)) := by
  obtain ⟨p, l', e, R', s, m, args, below, meth, c, Q, D', G', N0', nL, q0, σ0⟩ := X
  obtain ⟨rfl, rfl, rfl, rfl, rfl⟩ := Y
  obtain ⟨hx, hb1, hml, hr, hlk, hown, hts, hK, hN, hXF⟩ := C
  obtain ⟨rfl, rfl⟩ := hb
  intro k L st σ kc ks h hk q H locs ls hRr hl hL hst hS hq
  obtain ⟨g1, g2, hh, f1, f2, f3, h⟩ := a_cg2 h
  have hKn := hK.1 ci _ hc
  refine W.newcK hx hb1 hown (hts _ hlink) (hts _ hinst) (hts _ hini) rfl hd g1 g2 hKn.2.1 rfl fun H1 kC hkC e1 z1 o1 => ?_
  refine a_nwJ hRr hl hL hst ⟨Nat.le_trans hS.1 (by omega), fun x h1 h2 => (o1 x (Nat.lt_of_lt_of_le h1 hS.1)).trans (hS.2.1 x h1 h2), hS.2.2⟩ hq f1 f3 (Nat.le_trans hN hS.1) (fun h' w e' => ?_) (fun h' w => (hRr.1 h' w).2.kept (o1 _ (hRr.1 h' w).2.lt)) ?_ (hk _ _ _ _ _ _ h)
  · have := (hRr.1 h' w).2.lt
    have e'' : q h' = H.size := e'
    dsimp only at this
    omega
  · rw [a_E_o (ci := ci) (n := n) (by rw [f2]) (by rw [f2]) (a_c4 hc)]
    refine ⟨_, hc, (u_born ty0 hts hin hKn hkC e1 hty).to (fun j hj => ?_)⟩
    rw [a_vpV hj, hdf j hj]
    unfold a_fv
    rw [a_new_1, a_new_2]
    rfl
theorem s_newi (C : a_C X cc rt own) (Y : a_Y X l R D G N0) (hn : n ≤ 1000) (harr : Cond.arrayClass .int ∈ lw_g) (hb : bc = R.cells ∧ bs = R.slots) (hd : decode cc pc = .ok (.newarray .int, 2)) : a_Sd X pc (t_newi n bc bs (pc + 2)) := by
  obtain ⟨p, l', e, R', s, m, args, below, meth, c, Q, D', G', N0', nL, q0, σ0⟩ := X
  obtain ⟨rfl, rfl, rfl, rfl, rfl⟩ := Y
  obtain ⟨hx, hb1, hml, hr, hlk, hown, hts, hK, hN, hXF⟩ := C
  obtain ⟨rfl, rfl⟩ := hb
  intro k L st σ kc ks h hk q H locs ls hRr hl hL hst hS hq
  unfold t_newi at h
  split at h
  · rename_i x st'
    obtain ⟨rfl, h⟩ := h
    obtain ⟨g1, g2, hh, f1, f2, f3, h⟩ := a_cg2 h
    have hn2 : (Int32.ofNat n).toNatClampNeg = n := nI_clamp (by omega)
    refine va_newaK hx hb1 (atype := .int) (hts _ harr) rfl hd rfl (nI_pos (by omega)) hn2 ?_ g1 g2 rfl fun H1 cA e1 z1 o1 hAr hNm => ?_
    · show n * 4 ≤ 536870912
      omega
    have hcA : cA = G'.1 := by
      have h9 : s.vm.findClass ("[" ++ FieldType.int.toString) = some G'.1 := (hK.2 0 _ rfl).2
      exact Option.some.inj (hNm.symm.trans h9)
    subst hcA
    refine a_nwJ hRr hl hL (a_okT hst) ⟨Nat.le_trans hS.1 (by omega), fun x h1 h2 => (o1 x (Nat.lt_of_lt_of_le h1 hS.1)).trans (hS.2.1 x h1 h2), hS.2.2⟩ hq f1 f3 (Nat.le_trans hN hS.1) (fun h' w e' => ?_) (fun h' w => (hRr.1 h' w).2.kept (o1 _ (hRr.1 h' w).2.lt)) ?_ (hk _ _ _ _ _ _ h)
    · have := (hRr.1 h' w).2.lt
      have e'' : q h' = H.size := e'
      dsimp only at this
      omega
    · rw [a_E_4 (by rw [f2])]
      show H1[H.size]? = some (vp_cell _ _)
      rw [e1, vp_cell_i, f2, a_new_1]
      rfl
  · exact h.elim
theorem s_newq (C : a_C X cc rt own) (Y : a_Y X l R D G N0) (hn : n ≤ 1000) (hlink : Cond.classLink own index RX1 ∈ lw_g) (hb : bc = R.cells ∧ bs = R.slots) (hd : decode cc pc = .ok (.anewarray index, 3)) : a_Sd X pc (t_newq n bc bs (pc + 3)) := by
  obtain ⟨p, l', e, R', s, m, args, below, meth, c, Q, D', G', N0', nL, q0, σ0⟩ := X
  obtain ⟨rfl, rfl, rfl, rfl, rfl⟩ := Y
  obtain ⟨hx, hb1, hml, hr, hlk, hown, hts, hK, hN, hXF⟩ := C
  obtain ⟨rfl, rfl⟩ := hb
  intro k L st σ kc ks h hk q H locs ls hRr hl hL hst hS hq
  unfold t_newq at h
  split at h
  · rename_i x st'
    obtain ⟨rfl, h⟩ := h
    obtain ⟨g1, g2, hh, f1, f2, f3, h⟩ := a_cg2 h
    have hn2 : (Int32.ofNat n).toNatClampNeg = n := nI_clamp (by omega)
    refine W.anew hx hb1 hown (hts _ hlink) (va_AO.use hXF.1) rfl hd rfl (nI_pos (by omega)) (by rw [hn2]; omega) g1 (by rw [hn2]; exact g2) fun cA kA comp k1 k2 k3 k4 => ?_
    rw [hn2]
    have hcA : cA = G'.2.1 := by
      obtain ⟨kA', comp', j1, j2, j3, j4⟩ := (hK.2 1 _ rfl).2
      exact Option.some.inj (k1.symm.trans j4)
    subst hcA
    generalize hH1 : H.push ({ cls := G'.2.1, slots := Array.replicate n .null, vm := .none } : Cell) = H1
    have z1 : H1.size = H.size + 1 := by rw [← hH1, Array.size_push]
    have e1 : H1[H.size]? = some (arrV G'.2.1 n (fun _ => .null)) := by rw [← hH1, Array.getElem?_push_size, ← arrV_new]
    have o1 : ∀ q : Nat, q < H.size → H1[q]? = H[q]? := fun q hq => by rw [← hH1, Array.getElem?_push, if_neg (Nat.ne_of_lt hq)]
    refine a_nwJ hRr hl hL (a_okT hst) ⟨Nat.le_trans hS.1 (by omega), fun x h1 h2 => (o1 x (Nat.lt_of_lt_of_le h1 hS.1)).trans (hS.2.1 x h1 h2), hS.2.2⟩ hq f1 f3 (Nat.le_trans hN hS.1) (fun h' w e' => ?_) (fun h' w => (hRr.1 h' w).2.kept (o1 _ (hRr.1 h' w).2.lt)) ?_ (hk _ _ _ _ _ _ h)
    · have := (hRr.1 h' w).2.lt
      have e'' : q h' = H.size := e'
      dsimp only at this
      omega
    · rw [a_E_5 (by rw [f2])]
      show H1[H.size]? = some (vp_cell _ _)
      rw [e1, vp_cell_q, f2]
      simp only [a_new_2]
      rfl
  · exact h.elim
end AO
