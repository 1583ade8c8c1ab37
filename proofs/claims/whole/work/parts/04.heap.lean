/-! ===== the transformers' soundness: fields and arrays ===== -/
theorem a_P1 {D : va_G} {cl : List vw_C} {x : Nat × va_E} {H : Heap} (h : va_at D cl x H) : va_P D cl [x] H := by
  intro k y hy
  have hz : k < 1 := (List.getElem?_eq_some_iff.mp hy).1
  rw [show k = 0 by omega] at hy
  cases hy
  exact h
theorem a_isE {σ : aS} {h ci n : Nat} (e : a_is σ h ci n = true) : σ.2.2 h = true ∧ (kd h).1 = ci ∧ (kd h).2 = n := by
  unfold a_is at e
  simp only [Bool.and_eq_true, beq_iff_eq] at e
  exact ⟨e.1, e.2.1, e.2.2⟩
theorem a_isAE {σ : aS} {h ci : Nat} (e : a_isA σ h ci = true) : σ.2.2 h = true ∧ (kd h).1 = ci := by
  unfold a_isA at e
  simp only [Bool.and_eq_true, beq_iff_eq] at e
  exact ⟨e.1, e.2⟩
theorem a_E_o {G : aG} {q : Nat → Nat} {σ : aS} {h ci n : Nat} (h1 : (kd h).1 = ci) (h2 : (kd h).2 = n) (hc : ci < 4) : a_E G q σ h = .inr (ci, (List.range n).map (a_fv q σ ci h)) := by
  unfold a_E
  rw [h1, h2, if_neg (by omega), if_neg (by omega), if_neg (by omega)]
theorem a_E_4 {G : aG} {q : Nat → Nat} {σ : aS} {h : Nat} (h1 : (kd h).1 = 4) : a_E G q σ h = .inl (G.1, (kd h).2, .inl (σ.1 h)) := by
  unfold a_E
  rw [if_pos h1]
theorem a_E_5 {G : aG} {q : Nat → Nat} {σ : aS} {h : Nat} (h1 : (kd h).1 = 5) : a_E G q σ h = .inl (G.2.1, (kd h).2, .inr (.inr (.inr (.inr (fun i => (σ.2.1 h i).map q))))) := by
  unfold a_E
  rw [if_neg (by omega), if_pos h1]
theorem a_E_6 {G : aG} {q : Nat → Nat} {σ : aS} {h : Nat} (h1 : (kd h).1 = 6) : a_E G q σ h = .inl (G.2.2, (kd h).2, .inr (.inr (.inr (.inr (fun i => (σ.2.1 h i).map q))))) := by
  unfold a_E
  rw [if_neg (by omega), if_neg (by omega), if_pos h1]
theorem a_vpV {n j : Nat} {f : Nat → Value} (hj : j < n) : vp_V ((List.range n).map f) j = f j := by
  unfold vp_V
  rw [List.getD_eq_getElem?_getD, List.getElem?_map, List.getElem?_range hj]
  rfl
theorem a_get? {n j : Nat} {f : Nat → Value} (hj : j < n) : ((List.range n).map f)[j]? = some (f j) := by
  rw [List.getElem?_map, List.getElem?_range hj]
  rfl
theorem a_c4 {ci : Nat} {r : vw_C} (h : a_cls[ci]? = some r) : ci < 4 := (List.getElem?_eq_some_iff.mp h).1
theorem a_E_congr {G : aG} {q : Nat → Nat} {σ σ' : aS} {h : Nat} (h1 : σ'.1 h = σ.1 h) (h2 : σ'.2.1 h = σ.2.1 h) : a_E G q σ' h = a_E G q σ h := by
  unfold a_E a_fv
  rw [h1, h2]
theorem a_uI_1 {σ : aS} {h k : Nat} {x : Int32} {h' : Nat} (hn : h' ≠ h) : (a_uI σ h k x).1 h' = σ.1 h' := by
  funext k'
  exact if_neg (fun e => hn e.1)
theorem a_uF_1 {σ : aS} {h k : Nat} {r : Option Nat} {h' : Nat} (hn : h' ≠ h) : (a_uF σ h k r).2.1 h' = σ.2.1 h' := by
  funext k'
  exact if_neg (fun e => hn e.1)
theorem a_R_wr {D : va_G} {G : aG} {N0 : Nat} {q : Nat → Nat} {σ σ' : aS} {H H1 : Heap} {h0 : Nat} (hR : a_R D G N0 q σ H) (hl : σ.2.2 h0 = true) (hlv : σ'.2.2 = σ.2.2) (h1 : ∀ h, h ≠ h0 → σ'.1 h = σ.1 h) (h2 : ∀ h, h ≠ h0 → σ'.2.1 h = σ.2.1 h)
    (hat : va_at D a_cls (q h0, a_E G q σ' h0) H1) (oq : ∀ a, a ≠ q h0 → H1[a]? = H[a]?) (hwf : ∀ k h', σ'.2.1 h0 k = some h' → σ.2.2 h' = true) : a_R D G N0 q σ' H1 := by
  obtain ⟨r1, r2, r3⟩ := hR
  refine ⟨fun h hh => ?_, fun h h' e1 e2 => ?_, fun h k h' e1 e2 => ?_⟩
  · rw [hlv] at hh
    refine ⟨(r1 h hh).1, ?_⟩
    by_cases e : h = h0
    · subst e; exact hat
    · rw [a_E_congr (h1 h e) (h2 h e)]
      exact (r1 h hh).2.kept (oq _ (fun z => e (r2 h h0 hh hl z)))
  · rw [hlv] at e1 e2
    exact r2 h h' e1 e2
  · rw [hlv] at e1 ⊢
    by_cases e : h = h0
    · subst e; exact hwf k h' e2
    · rw [h2 h e] at e2
      exact r3 h k h' e1 e2
theorem a_okM {σ σ' : aS} (hlv : σ'.2.2 = σ.2.2) {st : List aV} (h : ∀ v ∈ st, a_ok σ v) : ∀ v ∈ st, a_ok σ' v := fun v hv h' e => by rw [hlv]; exact h v hv h' e
theorem a_okML {σ σ' : aS} (hlv : σ'.2.2 = σ.2.2) {L : aL} (h : ∀ (i : Nat) (v : aV), L[i]? = some (some v) → a_ok σ v) : ∀ (i : Nat) (v : aV), L[i]? = some (some v) → a_ok σ' v := fun i v hv h' e => by rw [hlv]; exact h i v hv h' e
section AH
variable {p : Program} {l : Launch} {e : Env} {R : Room} {s : State} {m : MethodId} {args : Array Value} {below : List Frame} {meth : Method} {c : Code} {H : Heap} {locs : List Loc} {cells slots : Nat} {Q : State → Prop}
variable {cc : ByteArray} {pc : Nat} {ls : Array Slot} {rest : List Value} {D : va_G} {a : Nat} {tys : List (ClassId × FieldType)}
/-- a field is put, the cell told by its values; all other cells stay -/
theorem a_put1 (hexec : p.tables.exec = Jvm.exec) (hb : c.code = cc) {own C : String} {T : u_T} {N ci index : Nat} (hts : ∀ w ∈ lw_g, w.before args s = true) (hin : ∀ w ∈ u_ws C T N, w ∈ lw_g) (ty0 : Nat → FieldType) (hty : ∀ k, k < N → parseFieldDescriptor (T k).2.2.1 = some (ty0 k)) (hnm : ∀ a, a < N → ∀ b, b < N → a ≠ b → (T a).2.1 ≠ (T b).2.1) (hown : s.vm.findClass own = some m.cls) (hK : va_K D a_cls tys s) {fs : List Value} (he : va_at D a_cls (a, .inr (ci, fs)) H) (hc : a_cls[ci]? = some (C, T, N)) (k : Nat) (hk : k < N) (hlink : (Cond.fieldLink own index (T k).1 (T k).2.1 (T k).2.2.1).before args s = true) (hfin : (T k).2.2.2 = false ∨ ((T k).2.2.2 = true ∧ meth.name = "<init>" ∧ (T k).1 = own)) {v : Value} (hn : narrow (ty0 k) v = v) (hfit : fits (ty0 k) v = true)
    (hdg : decode cc pc = .ok (.putfield index, 3)) (kk : ∀ (H1 : Heap) (j : Nat), t_OB a (D.1 ci) N (D.2 ci) H1 (updV (vp_V fs) k v) → H1.size = H.size → (∀ q, q ≠ a → H1[q]? = H[q]?) → W p l e R s m args below meth c H1 (locs ++ [⟨a, j⟩]) cells slots Q (F0 m (pc + 3) ls rest)) : W p l e R s m args below meth c H locs cells slots Q (F0 m pc ls (v :: .ref a :: rest)) := by
  have hap := va_apart (own := own) hts hin ty0 hty hnm hK hc
  obtain ⟨r, h1, cell, q1, q2, q3, q4⟩ := he
  have hr : r = (C, T, N) := Option.some.inj (h1.symm.trans hc)
  subst hr
  obtain ⟨hS, hfc, kC, hkC, hkind⟩ := hK.1 ci _ hc
  obtain ⟨cf, kf, fi, f, hi, hsl⟩ := hS k hk
  have hlay := hts _ (hin _ (u_in_lay hk))
  unfold u_lay at hlay
  have hst := (u_facts hfc hkC (u_lays hts hin hk) hi).1
  rcases hfin with hfin | ⟨hfin, hin2, hdecl⟩
  · rw [if_neg (by rw [hfin]; decide)] at hlay
    have h6 := u_store hfc hkC hkind hlay hi (hty k hk) hn hfit
    refine W.putK hexec hb (f := f) ⟨hown, hlink, ⟨_, _, _, hi⟩, hst⟩ (by rw [q2]; exact h6) q1 q3 (by rw [hsl]; exact k2_hasslot (q4 k hk)) rfl rfl hdg fun H' e1 e2 e3 => ?_
    rw [hsl] at e1 ⊢
    exact kk H' _ ⟨_, e1, q2, q3, t_set q4 hap hk v⟩ e2 e3
  · rw [if_pos hfin] at hlay
    have hcf : m.cls = cf := by
      obtain ⟨_, _, c', _, _, _, -, -, hf', -, -, -, hown2, -⟩ := Cond.laysFinal_spec hlay
      have e1 : c' = cf := by have := hi.symm.trans hf'; simp at this; exact this.1.symm
      rw [hdecl] at hown2
      rw [← e1]; exact Option.some.inj (hown.symm.trans hown2)
    have h6 := u_fits hfc hkC hkind (Or.inr hlay) hi (hty k hk) hn hfit
    refine W.putFinK hexec hb hown hlink hi hst hcf hin2 (by rw [q2]; exact h6) q1 q3 (by rw [hsl]; exact k2_hasslot (q4 k hk)) rfl rfl hdg fun H' e1 e2 e3 => ?_
    rw [hsl] at e1 ⊢
    exact kk H' _ ⟨_, e1, q2, q3, t_set q4 hap hk v⟩ e2 e3
end AH
section AF
variable {X : a_X} {cc : ByteArray} {rt : Option FieldType} {own : String} {pc : Nat} {ci n j index : Nat} {Cn : String} {T : u_T}
theorem s_geti (C : a_C X cc rt own) (hc : a_cls[ci]? = some (Cn, T, n)) (hin : ∀ w ∈ u_ws Cn T n, w ∈ lw_g) (hj : j < n) (hlink : Cond.fieldLink own index (T j).1 (T j).2.1 (T j).2.2.1 ∈ lw_g) (hi : a_int ci j = true) (hd : decode cc pc = .ok (.getfield index, 3)) : a_Sd X pc (t_geti ci n j (pc + 3)) := by
  obtain ⟨p, l, e, R, s, m, args, below, meth, c, Q, D, G, N0, nL, q0, σ0⟩ := X
  obtain ⟨hx, hb, hml, hr, hlk, hown, hts, hK, hN, hXF⟩ := C
  intro k L st σ kc ks h hk q H locs ls hR hl hL hst hS hq
  unfold t_geti at h
  split at h
  · rename_i hh st'
    obtain ⟨e, h⟩ := a_ge h
    obtain ⟨e1, e2, e3⟩ := a_isE e
    have hat := (hR.1 hh e1).2
    rw [a_E_o e2 e3 (a_c4 hc)] at hat
    refine va_get (D := D) (v := .int (σ.1 hh j)) hx hb hts hin hown hK (a_P1 hat) 0 rfl hc j hj (hts _ hlink) (fun _ h9 => h9) ?_ hd (hk _ _ _ _ _ _ h q H locs ls hR hl hL (a_okI _ (a_okT hst)) hS hq)
    rw [a_get? hj]
    unfold a_fv
    rw [if_pos hi]
  · exact h.elim
theorem s_getr (C : a_C X cc rt own) (hc : a_cls[ci]? = some (Cn, T, n)) (hin : ∀ w ∈ u_ws Cn T n, w ∈ lw_g) (hj : j < n) (hlink : Cond.fieldLink own index (T j).1 (T j).2.1 (T j).2.2.1 ∈ lw_g) (hi : a_int ci j = false) (hd : decode cc pc = .ok (.getfield index, 3)) : a_Sd X pc (t_getr ci n j (pc + 3)) := by
  obtain ⟨p, l, e, R, s, m, args, below, meth, c, Q, D, G, N0, nL, q0, σ0⟩ := X
  obtain ⟨hx, hb, hml, hr, hlk, hown, hts, hK, hN, hXF⟩ := C
  intro k L st σ kc ks h hk q H locs ls hR hl hL hst hS hq
  unfold t_getr at h
  split at h
  · rename_i hh st'
    obtain ⟨e, h⟩ := a_ge h
    obtain ⟨e1, e2, e3⟩ := a_isE e
    have hat := (hR.1 hh e1).2
    rw [a_E_o e2 e3 (a_c4 hc)] at hat
    refine va_get (D := D) (v := va_rf ((σ.2.1 hh j).map q)) hx hb hts hin hown hK (a_P1 hat) 0 rfl hc j hj (hts _ hlink) (fun _ h9 => h9) ?_ hd (hk _ _ _ _ _ _ h q H locs ls hR hl hL (a_okC (fun h' e' => Or.inl (hR.2.2 hh j h' e1 (Sum.inr.inj e'))) (a_okT hst)) hS hq)
    rw [a_get? hj]
    unfold a_fv
    rw [if_neg (by rw [hi]; decide)]
  · exact h.elim
theorem s_puti (C : a_C X cc rt own) (ty0 : Nat → FieldType) (hty : ∀ k, k < n → parseFieldDescriptor (T k).2.2.1 = some (ty0 k)) (hnm : ∀ a, a < n → ∀ b, b < n → a ≠ b → (T a).2.1 ≠ (T b).2.1) (hc : a_cls[ci]? = some (Cn, T, n)) (hin : ∀ w ∈ u_ws Cn T n, w ∈ lw_g) (hj : j < n) (hlink : Cond.fieldLink own index (T j).1 (T j).2.1 (T j).2.2.1 ∈ lw_g) (hi : a_int ci j = true) (hfin : (T j).2.2.2 = false ∨ ((T j).2.2.2 = true ∧ X.2.2.2.2.2.2.2.2.1.name = "<init>" ∧ (T j).1 = own)) (ht : ty0 j = .int) (hd : decode cc pc = .ok (.putfield index, 3)) : a_Sd X pc (t_puti ci n j (pc + 3)) := by
  obtain ⟨p, l, e, R, s, m, args, below, meth, c, Q, D, G, N0, nL, q0, σ0⟩ := X
  obtain ⟨hx, hb, hml, hr, hlk, hown, hts, hK, hN, hXF⟩ := C
  intro k L st σ kc ks h hk q H locs ls hR hl hL hst hS hq
  unfold t_puti at h
  split at h
  · rename_i x hh st'
    obtain ⟨e, h⟩ := a_ge h
    obtain ⟨e1, e2, e3⟩ := a_isE e
    have hat := (hR.1 hh e1).2
    have hA := (hR.1 hh e1).1.1
    rw [a_E_o e2 e3 (a_c4 hc)] at hat
    refine a_put1 hx hb hts hin ty0 hty hnm hown hK hat hc j hj (hts _ hlink) hfin (by rw [ht]; rfl) (by rw [ht]; rfl) hd (fun H1 jj ho z oq => ?_)
    have hlv : (a_uI σ hh j x).2.2 = σ.2.2 := rfl
    refine hk _ _ _ _ _ _ h q H1 _ ls (a_R_wr hR e1 hlv (fun h' hn => a_uI_1 hn) (fun _ _ => rfl) ?_ oq (fun k' h' e' => hR.2.2 hh k' h' e1 e')) hl (a_okML hlv hL) (a_okM hlv (a_okT (a_okT hst))) (hS.put z oq hA) (fun h' w => ⟨(hq h' w).1, (hq h' w).2⟩)
    rw [a_E_o e2 e3 (a_c4 hc)]
    refine ⟨_, hc, ho.to (fun k' hk' => ?_)⟩
    rw [a_vpV hk']
    unfold updV a_fv
    by_cases ek : k' = j
    · subst ek
      rw [if_pos rfl, if_pos hi]
      show Value.int x = Value.int (if _ then _ else _)
      rw [if_pos ⟨rfl, rfl⟩]
    · rw [if_neg ek, a_vpV hk']
      have e9 : (a_uI σ hh j x).1 hh k' = σ.1 hh k' := if_neg (fun e' => ek e'.2)
      rw [e9]
      rfl
  · exact h.elim
theorem s_putr (C : a_C X cc rt own) (ty0 : Nat → FieldType) (hty : ∀ k, k < n → parseFieldDescriptor (T k).2.2.1 = some (ty0 k)) (hnm : ∀ a, a < n → ∀ b, b < n → a ≠ b → (T a).2.1 ≠ (T b).2.1) (hc : a_cls[ci]? = some (Cn, T, n)) (hin : ∀ w ∈ u_ws Cn T n, w ∈ lw_g) (hj : j < n) (hlink : Cond.fieldLink own index (T j).1 (T j).2.1 (T j).2.2.1 ∈ lw_g) (hi : a_int ci j = false) (hfin : (T j).2.2.2 = false ∨ ((T j).2.2.2 = true ∧ X.2.2.2.2.2.2.2.2.1.name = "<init>" ∧ (T j).1 = own)) (ht : (∃ t, ty0 j = .array t) ∨ ∃ t, ty0 j = .object t) (hd : decode cc pc = .ok (.putfield index, 3)) : a_Sd X pc (t_putr ci n j (pc + 3)) := by
  obtain ⟨p, l, e, R, s, m, args, below, meth, c, Q, D, G, N0, nL, q0, σ0⟩ := X
  obtain ⟨hx, hb, hml, hr, hlk, hown, hts, hK, hN, hXF⟩ := C
  intro k L st σ kc ks h hk q H locs ls hR hl hL hst hS hq
  unfold t_putr at h
  split at h
  · rename_i x hh st'
    obtain ⟨e, h⟩ := a_ge h
    obtain ⟨e1, e2, e3⟩ := a_isE e
    have hat := (hR.1 hh e1).2
    have hA := (hR.1 hh e1).1.1
    rw [a_E_o e2 e3 (a_c4 hc)] at hat
    have hv : a_ok σ (.inr x) := hst _ List.mem_cons_self
    refine a_put1 (v := va_rf (x.map q)) hx hb hts hin ty0 hty hnm hown hK hat hc j hj (hts _ hlink) hfin (by rcases ht with ⟨t, ht⟩ | ⟨t, ht⟩ <;> (rw [ht]; cases x <;> rfl)) (by rcases ht with ⟨t, ht⟩ | ⟨t, ht⟩ <;> (rw [ht]; cases x <;> rfl)) hd (fun H1 jj ho z oq => ?_)
    have hlv : (a_uF σ hh j x).2.2 = σ.2.2 := rfl
    refine hk _ _ _ _ _ _ h.2 q H1 _ ls (a_R_wr hR e1 hlv (fun _ _ => rfl) (fun h' hn => a_uF_1 hn) ?_ oq (fun k' h' e' => ?_)) hl (a_okML hlv hL) (a_okM hlv (a_okT (a_okT hst))) (hS.put z oq hA) (fun h' w => ⟨(hq h' w).1, (hq h' w).2⟩)
    · rw [a_E_o e2 e3 (a_c4 hc)]
      refine ⟨_, hc, ho.to (fun k' hk' => ?_)⟩
      rw [a_vpV hk']
      unfold updV a_fv
      by_cases ek : k' = j
      · subst ek
        rw [if_pos rfl, if_neg (by rw [hi]; decide)]
        have e9 : (a_uF σ hh k' x).2.1 hh k' = x := if_pos ⟨rfl, rfl⟩
        rw [e9]
      · rw [if_neg ek, a_vpV hk']
        have e9 : (a_uF σ hh j x).2.1 hh k' = σ.2.1 hh k' := if_neg (fun e' => ek e'.2)
        rw [e9]
        rfl
    · by_cases ek : k' = j
      · have e9 : (a_uF σ hh j x).2.1 hh k' = x := if_pos ⟨rfl, ek⟩
        rw [e9] at e'
        rcases hv h' (by rw [e']) with w | w
        · exact w
        · exact absurd (by rw [e', w]) h.1
      · have e9 : (a_uF σ hh j x).2.1 hh k' = σ.2.1 hh k' := if_neg (fun e' => ek e'.2)
        rw [e9] at e'
        exact hR.2.2 hh k' h' e1 e'
  · exact h.elim
end AF
section AA
variable {X : a_X} {cc : ByteArray} {rt : Option FieldType} {own : String} {pc : Nat}
theorem s_iald (C : a_C X cc rt own) (hd : decode cc pc = .ok (.iaload, 1)) : a_Sd X pc (t_iald (pc + 1)) := by
  obtain ⟨p, l, e, R, s, m, args, below, meth, c, Q, D, G, N0, nL, q0, σ0⟩ := X
  obtain ⟨hx, hb, hml, hr, hlk, hown, hts, hK, hN, hXF⟩ := C
  intro k L st σ kc ks h hk q H locs ls hR hl hL hst hS hq
  unfold t_iald at h
  split at h
  · rename_i i hh st'
    obtain ⟨e, h⟩ := a_ge h
    obtain ⟨e1, e2⟩ := a_isAE e
    have hat := (hR.1 hh e1).2
    rw [a_E_4 e2] at hat
    exact va_iald (D := D) hx hb hK (a_P1 hat) 0 0 rfl rfl h.1 hd (hk _ _ _ _ _ _ h.2 q H locs ls hR hl hL (a_okI _ (a_okT (a_okT hst))) hS hq)
  · exact h.elim
theorem s_alen (C : a_C X cc rt own) (hd : decode cc pc = .ok (.arraylength, 1)) : a_Sd X pc (t_alen (pc + 1)) := by
  obtain ⟨p, l, e, R, s, m, args, below, meth, c, Q, D, G, N0, nL, q0, σ0⟩ := X
  obtain ⟨hx, hb, hml, hr, hlk, hown, hts, hK, hN, hXF⟩ := C
  intro k L st σ kc ks h hk q H locs ls hR hl hL hst hS hq
  unfold t_alen at h
  split at h
  · rename_i hh st'
    obtain ⟨e, h⟩ := a_ge h
    obtain ⟨e1, e2⟩ := a_isAE e
    have hat := (hR.1 hh e1).2
    rw [a_E_4 e2] at hat
    exact va_alen (D := D) hx hb hK (a_P1 hat) 0 0 rfl rfl rfl hd (hk _ _ _ _ _ _ h q H locs ls hR hl hL (a_okI _ (a_okT hst)) hS hq)
  · exact h.elim
theorem s_iast (C : a_C X cc rt own) (hd : decode cc pc = .ok (.iastore, 1)) : a_Sd X pc (t_iast (pc + 1)) := by
  obtain ⟨p, l, e, R, s, m, args, below, meth, c, Q, D, G, N0, nL, q0, σ0⟩ := X
  obtain ⟨hx, hb, hml, hr, hlk, hown, hts, hK, hN, hXF⟩ := C
  intro k L st σ kc ks h hk q H locs ls hR hl hL hst hS hq
  unfold t_iast at h
  split at h
  · rename_i x i hh st'
    obtain ⟨e, h⟩ := a_ge h
    obtain ⟨e1, e2⟩ := a_isAE e
    have hat := (hR.1 hh e1).2
    have hA := (hR.1 hh e1).1.1
    rw [a_E_4 e2] at hat
    refine W.iast hx hb hat ((hK.2 0 _ rfl).1 _ (fun j => .int (σ.1 hh j))) (fun q => by cases q) (by show ¬ (i < 0 ∨ (arrV _ _ _).slots.size ≤ _); rw [arrV_size]; exact h.1) rfl rfl hd fun H1 e9 z oq => ?_
    have hlv : (a_uI σ hh i.toNatClampNeg x).2.2 = σ.2.2 := rfl
    refine hk _ _ _ _ _ _ h.2 q H1 _ ls (a_R_wr hR e1 hlv (fun h' hn => a_uI_1 hn) (fun _ _ => rfl) ?_ oq (fun k' h' e' => hR.2.2 hh k' h' e1 e')) hl (a_okML hlv hL) (a_okM hlv (a_okT (a_okT (a_okT hst)))) (hS.put z oq hA) (fun h' w => ⟨(hq h' w).1, (hq h' w).2⟩)
    rw [a_E_4 e2]
    show H1[q hh]? = some (vp_cell _ _)
    rw [e9, vp_cell_i, vp_cell_i, arrV_store]
    congr 2
    funext y
    unfold updV
    by_cases hy : y = i.toNatClampNeg
    · subst hy
      rw [if_pos rfl]
      exact congrArg Value.int (if_pos ⟨rfl, rfl⟩).symm
    · rw [if_neg hy]
      exact congrArg Value.int (if_neg (fun e' => hy e'.2)).symm
  · exact h.elim
theorem s_aald (C : a_C X cc rt own) (hd : decode cc pc = .ok (.aaload, 1)) : a_Sd X pc (t_aald (pc + 1)) := by
  obtain ⟨p, l, e, R, s, m, args, below, meth, c, Q, D, G, N0, nL, q0, σ0⟩ := X
  obtain ⟨hx, hb, hml, hr, hlk, hown, hts, hK, hN, hXF⟩ := C
  intro k L st σ kc ks h hk q H locs ls hR hl hL hst hS hq
  unfold t_aald at h
  split at h
  · rename_i i hh st'
    obtain ⟨e, h⟩ := a_ge h
    have hlt : i.toNatClampNeg < (kd hh).2 := Nat.not_le.mp fun q => h.1 (Or.inr q)
    rcases Bool.or_eq_true_iff.mp e with e | e
    · obtain ⟨e1, e2⟩ := a_isAE e
      have hat := (hR.1 hh e1).2
      rw [a_E_5 e2] at hat
      exact W.aald (v := va_rf ((σ.2.1 hh i.toNatClampNeg).map q)) (ty := .object RX1) hx hb hat ((hK.2 1 _ rfl).1 _ (fun j => va_rf ((σ.2.1 hh j).map q))) rfl (fun q => by cases q) (by show ¬ (i < 0 ∨ (arrV _ _ _).slots.size ≤ _); rw [arrV_size]; exact h.1) (by show (arrV _ _ _).slots[_]? = _; rw [arrV_read _ _ hlt]) rfl rfl hd (hk _ _ _ _ _ _ h.2 q H locs ls hR hl hL (a_okC (fun h' e' => Or.inl (hR.2.2 hh _ h' e1 (Sum.inr.inj e'))) (a_okT (a_okT hst))) hS hq)
    · obtain ⟨e1, e2⟩ := a_isAE e
      have hat := (hR.1 hh e1).2
      rw [a_E_6 e2] at hat
      exact W.aald (v := va_rf ((σ.2.1 hh i.toNatClampNeg).map q)) (ty := .array .int) hx hb hat ((hK.2 2 _ rfl).1 _ (fun j => va_rf ((σ.2.1 hh j).map q))) rfl (fun q => by cases q) (by show ¬ (i < 0 ∨ (arrV _ _ _).slots.size ≤ _); rw [arrV_size]; exact h.1) (by show (arrV _ _ _).slots[_]? = _; rw [arrV_read _ _ hlt]) rfl rfl hd (hk _ _ _ _ _ _ h.2 q H locs ls hR hl hL (a_okC (fun h' e' => Or.inl (hR.2.2 hh _ h' e1 (Sum.inr.inj e'))) (a_okT (a_okT hst))) hS hq)
  · exact h.elim
theorem s_aast (C : a_C X cc rt own) (hd : decode cc pc = .ok (.aastore, 1)) : a_Sd X pc (t_aast (pc + 1)) := by
  obtain ⟨p, l, e, R, s, m, args, below, meth, c, Q, D, G, N0, nL, q0, σ0⟩ := X
  obtain ⟨hx, hb, hml, hr, hlk, hown, hts, hK, hN, hXF⟩ := C
  intro k L st σ kc ks h hk q H locs ls hR hl hL hst hS hq
  unfold t_aast at h
  split at h
  · rename_i r i hh st'
    obtain ⟨ea, h⟩ := a_ge h
    obtain ⟨e1, e2⟩ := a_isAE ea
    have hlt : i.toNatClampNeg < (kd hh).2 := Nat.not_le.mp fun q => h.1 (Or.inr q)
    have h0 : ¬ i < 0 := fun q => h.1 (Or.inl q)
    have hat := (hR.1 hh e1).2
    have hA := (hR.1 hh e1).1.1
    rw [a_E_5 e2] at hat
    have hlv : (a_uF σ hh i.toNatClampNeg r).2.2 = σ.2.2 := rfl
    have key : ∀ (H1 : Heap) (jj : Nat), H1[q hh]? = some ((vp_cell G.2.1 ((kd hh).2, .inr (.inr (.inr (.inr (fun i => (σ.2.1 hh i).map q)))))).setSlot i.toNatClampNeg (va_rf (r.map q))) → H1.size = H.size → (∀ a, a ≠ q hh → H1[a]? = H[a]?) → W p l e R s m args below meth c H1 (locs ++ [⟨q hh, jj⟩]) kc ks Q (F0 m (pc + 1) ls (st'.map (a_val q))) := by
      intro H1 jj e9 z oq
      refine hk _ _ _ _ _ _ h.2.2 q H1 _ ls (a_R_wr hR e1 hlv (fun _ _ => rfl) (fun h' hn => a_uF_1 hn) ?_ oq (fun k' h' e' => ?_)) hl (a_okML hlv hL) (a_okM hlv (a_okT (a_okT (a_okT hst)))) (hS.put z oq hA) (fun h' w => ⟨(hq h' w).1, (hq h' w).2⟩)
      · rw [a_E_5 e2]
        show H1[q hh]? = some (vp_cell _ _)
        rw [e9, vp_cell_q, vp_cell_q, arrV_store]
        congr 2
        funext y
        unfold updV
        by_cases hy : y = i.toNatClampNeg
        · subst hy
          rw [if_pos rfl]
          have e10 : (a_uF σ hh i.toNatClampNeg r).2.1 hh i.toNatClampNeg = r := if_pos ⟨rfl, rfl⟩
          rw [e10]
        · rw [if_neg hy]
          have e10 : (a_uF σ hh i.toNatClampNeg r).2.1 hh y = σ.2.1 hh y := if_neg (fun e' => hy e'.2)
          rw [e10]
      · by_cases ek : k' = i.toNatClampNeg
        · have e10 : (a_uF σ hh i.toNatClampNeg r).2.1 hh k' = r := if_pos ⟨rfl, ek⟩
          rw [e10] at e'
          exact (a_isE (h.2.1 h' e')).1
        · have e10 : (a_uF σ hh i.toNatClampNeg r).2.1 hh k' = σ.2.1 hh k' := if_neg (fun e' => ek e'.2)
          rw [e10] at e'
          exact hR.2.2 hh k' h' e1 e'
    cases r with
    | none =>
      exact va_WaastN (C := RX1) hx hb hat ((hK.2 1 _ rfl).1 _ (fun j => va_rf ((σ.2.1 hh j).map q))) (fun h => by cases h) (by show ¬ (i < 0 ∨ (arrV _ _ _).slots.size ≤ _); rw [arrV_size]; exact h.1) rfl rfl hd fun H1 e9 z oq => key H1 _ e9 z oq
    | some v =>
      obtain ⟨f1, f2, f3⟩ := a_isE (h.2.1 v rfl)
      have hav := (hR.1 v f1).2
      rw [a_E_o f2 f3 (by omega)] at hav
      obtain ⟨r', hr', cellV, g1, g2, g3, -⟩ := hav
      have hcls := (hK.1 1 _ rfl).2
      obtain ⟨kA, comp, k1, k2, k3, -⟩ := (hK.2 1 _ rfl).2
      have hcomp : comp = D.1 1 := Option.some.inj (k3.symm.trans hcls.1)
      subst hcomp
      have hcls9 := hcls
      obtain ⟨kC, hkC, -⟩ := hcls.2
      exact W.aast hx hb hat (fun q h => by cases h) (fun h => by cases h) k1 k2 rfl hkC ⟨h0, by show _ < (arrV _ _ _).slots.size; rw [arrV_size]; exact hlt⟩ g1 (fun q h => by rw [g3] at h; cases h) (by rw [g2]; exact hkC) (by rw [g2]; exact va_assign hcls9) rfl rfl hd fun H1 e9 z oq => key H1 _ e9 z oq
  · exact h.elim
end AA
