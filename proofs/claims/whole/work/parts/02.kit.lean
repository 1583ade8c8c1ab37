/-! ===== a small abstract machine over handles: values, worlds, rules (own work) ===== -/
/-- the words that hold in every later state too -/
def lw_g : List Cond := lw_tbl.filter goodWord
theorem a_in {i : Nat} {w : Cond} (h : lw_tbl[i]? = some w) (g : goodWord w = true) : w ∈ lw_g := List.mem_filter.mpr ⟨List.mem_of_getElem? h, g⟩
/-- the other words: array classes, a cast, a nest mate's constructor -/
def a_XF (U : State) : Prop := va_AO RX1 U ∧ (Cond.arrayOver (.array .int)).before #[] U = true ∧ va_Nw (.castable "[I" "java/lang/Cloneable") U ∧ va_Nw (.methodLinkNest RX2 25 yX0_init RX2) U
theorem a_over {u U : State} (hvm : u.vm.Alike U.vm) (h : (Cond.arrayOver (.array .int)).before #[] u = true) : (Cond.arrayOver (.array .int)).before #[] U = true := by
  have e1 : (Cond.arrayOver (.array .int)).before #[] (u.setVm U.vm) = (Cond.arrayOver (.array .int)).before #[] u := Cond.arrayOver_setVmC hvm _
  have e2 : (Cond.arrayOver (.array .int)).before #[] (u.setVm U.vm) = (Cond.arrayOver (.array .int)).before #[] U := rfl
  rw [← e2, e1]
  exact h
theorem a_XF.warm {s U : State} (hW : s.WarmedH U.vm) (h : a_XF s) : a_XF U := ⟨h.1.moved hW.alike, a_over hW.alike h.2.1, h.2.2.1.warmC hW, h.2.2.2.warmM hW⟩
theorem a_XF.same {s U : State} (e : s.vm = U.vm) (h : a_XF s) : a_XF U := ⟨h.1.moved (by rw [e]; exact Vm.Alike.refl _), a_over (by rw [e]; exact Vm.Alike.refl _) h.2.1, h.2.2.1.same rfl e, h.2.2.2.same rfl e⟩
abbrev aV : Type := Int32 ⊕ Option Nat
abbrev aS : Type := (Nat → Nat → Int32) × (Nat → Nat → Option Nat) × (Nat → Bool)
abbrev aL : Type := List (Option aV)
abbrev aG : Type := ClassId × ClassId × ClassId
abbrev aC : Type := Nat → aL → List aV → aS → Nat → Nat → Prop
abbrev aT : Type := aC → aL → List aV → aS → Nat → Nat → Prop
abbrev aK : Type := Option aV → aS → Prop
/-- what the static handles are: kind (0..3 an object of that class, 4 ints, 5 Pattern[], 6 int[][]) and size -/
def a_kt : List (Nat × Nat) := [(2, 10), (6, 4), (5, 6), (5, 60), (0, 3), (4, 144), (4, 8), (4, 8), (4, 8), (4, 8), (4, 0), (4, 0), (4, 0), (4, 0), (4, 0), (4, 0), (3, 25), (4, 60), (4, 60), (4, 60), (4, 60), (4, 480), (4, 60), (4, 60), (4, 32), (4, 6), (4, 0), (4, 0), (4, 0), (4, 0), (4, 104), (4, 104), (4, 104), (4, 104), (4, 104), (4, 0), (4, 0), (4, 0), (4, 144)]
def kd (h : Nat) : Nat × Nat := if h < 64 then a_kt.getD h (4, 0) else if h < 128 then (1, 7) else (4, 8)
def a_it : List (List Bool) := [[false, true, true], [true, true, true, true, false, false, true], [false, false, false, false, true, true, true, true, true, true], [true, false, false, false, false, false, false, false, false, false, true, true, true, true, false, false, false, false, false, true, true, true, false, true, true]]
def a_int (ci k : Nat) : Bool := (a_it.getD ci []).getD k true
def a_val (q : Nat → Nat) : aV → Value := fun v => match v with
  | .inl x => .int x
  | .inr r => va_rf (r.map q)
def a_fv (q : Nat → Nat) (σ : aS) (ci h k : Nat) : Value := if a_int ci k = true then .int (σ.1 h k) else va_rf ((σ.2.1 h k).map q)
def a_E (G : aG) (q : Nat → Nat) (σ : aS) (h : Nat) : va_E :=
  if (kd h).1 = 4 then .inl (G.1, (kd h).2, .inl (σ.1 h))
  else if (kd h).1 = 5 then .inl (G.2.1, (kd h).2, .inr (.inr (.inr (.inr (fun i => (σ.2.1 h i).map q)))))
  else if (kd h).1 = 6 then .inl (G.2.2, (kd h).2, .inr (.inr (.inr (.inr (fun i => (σ.2.1 h i).map q)))))
  else .inr ((kd h).1, (List.range (kd h).2).map (a_fv q σ (kd h).1 h))
abbrev a_ty (G : aG) : List (ClassId × FieldType) := [(G.1, .int), (G.2.1, .object RX1), (G.2.2, .array .int)]
def a_R (D : va_G) (G : aG) (N0 : Nat) (q : Nat → Nat) (σ : aS) (H : Heap) : Prop :=
  (∀ h, σ.2.2 h = true → (N0 ≤ q h ∧ h < 256 ∧ h ≠ 63) ∧ va_at D a_cls (q h, a_E G q σ h) H) ∧
  (∀ h h', σ.2.2 h = true → σ.2.2 h' = true → q h = q h' → h = h') ∧
  (∀ h k h', σ.2.2 h = true → σ.2.1 h k = some h' → σ.2.2 h' = true)
def a_ok (σ : aS) (v : aV) : Prop := ∀ h, v = .inr (some h) → (σ.2.2 h = true ∨ h = 63)
def a_ls (q : Nat → Nat) (nL : Nat) (L : aL) (ls : Array Slot) : Prop := ls.size = nL ∧ L.length = nL ∧ lv_wf ls ∧ ∀ (i : Nat) (v : aV), L[i]? = some (some v) → ls[i]? = some (Slot.val (a_val q v))
abbrev a_X : Type := Program × Launch × Env × Room × State × MethodId × Array Value × List Frame × Method × Code × (State → Prop) × va_G × aG × Nat × Nat × (Nat → Nat) × aS
/-- the machine, at pc with locals L, stack st and world σ, comes to its end -/
def a_J : a_X → aC := fun (p, l, e, R, s, m, args, below, meth, c, Q, D, G, N0, nL, q0, σ0) pc L st σ kc ks =>
  ∀ (q : Nat → Nat) (H : Heap) (locs : List Loc) (ls : Array Slot), a_R D G N0 q σ H → a_ls q nL L ls → (∀ (i : Nat) (v : aV), L[i]? = some (some v) → a_ok σ v) → (∀ v ∈ st, a_ok σ v) → va_S (fun a => N0 ≤ a) s.heap H locs → (∀ h, σ0.2.2 h = true ∨ h = 63 → q h = q0 h ∧ (σ0.2.2 h = true → σ.2.2 h = true)) →
    W p l e R s m args below meth c H locs kc ks Q (F0 m pc ls (st.map (a_val q)))
def a_C : a_X → ByteArray → Option FieldType → String → Prop := fun (p, l, e, R, s, m, args, below, meth, c, Q, D, G, N0, nL, q0, σ0) cc rt own =>
  p.tables.exec = Jvm.exec ∧ c.code = cc ∧ c.maxLocals = nL ∧ meth.sig.returnType = rt ∧ meth.locks = false ∧ s.vm.findClass own = some m.cls ∧ (∀ w ∈ lw_g, w.before args s = true) ∧ va_K D a_cls (a_ty G) s ∧ N0 ≤ s.heap.size ∧ a_XF s
def a_Sd (X : a_X) (pc : Nat) (T : aT) : Prop := ∀ (k : aC) (L : aL) (st : List aV) (σ : aS) (kc ks : Nat), T k L st σ kc ks → (∀ pc' L' st' σ' kc' ks', k pc' L' st' σ' kc' ks' → a_J X pc' L' st' σ' kc' ks') → a_J X pc L st σ kc ks
def a_g (b : Bool) (P : Prop) : Prop := match b with
  | true => P
  | false => False
theorem a_gi {b : Bool} {P : Prop} (h : b = true) (p : P) : a_g b P := by subst h; exact p
theorem a_ge {b : Bool} {P : Prop} (h : a_g b P) : b = true ∧ P := by
  cases b
  · exact h.elim
  · exact ⟨rfl, h⟩
def a_wp (P : List (Nat × aT)) (inv : Nat → Option (aL → List aV → aS → Nat → Nat → Prop)) : Nat → aC
  | 0 => fun _ _ _ _ _ _ => False
  | n + 1 => fun pc L st σ kc ks => match inv pc with
    | some I => I L st σ kc ks
    | none => match P.lookup pc with
      | some T => T (a_wp P inv n) L st σ kc ks
      | none => False
theorem a_lk {P : List (Nat × aT)} {pc : Nat} {T : aT} (h : P.lookup pc = some T) : (pc, T) ∈ P := by
  induction P with
  | nil => cases h
  | cons x P ih =>
    obtain ⟨a, b⟩ := x
    rw [List.lookup_cons] at h
    split at h
    · rename_i he
      have : pc = a := by simpa using he
      subst this
      cases h
      exact List.mem_cons_self
    · exact List.mem_cons_of_mem _ (ih h)
theorem a_wps {X : a_X} {P : List (Nat × aT)} {inv : Nat → Option (aL → List aV → aS → Nat → Nat → Prop)} (hS : ∀ x ∈ P, a_Sd X x.1 x.2) (hI : ∀ pc I, inv pc = some I → ∀ L st σ kc ks, I L st σ kc ks → a_J X pc L st σ kc ks) :
    ∀ n pc L st σ kc ks, a_wp P inv n pc L st σ kc ks → a_J X pc L st σ kc ks := by
  intro n
  induction n with
  | zero => intro pc L st σ kc ks h; exact h.elim
  | succ n ih =>
    intro pc L st σ kc ks h
    unfold a_wp at h
    split at h
    · rename_i I hi
      exact hI pc I hi L st σ kc ks h
    · split at h
      · rename_i T hT
        exact hS _ (a_lk hT) _ L st σ kc ks h (fun pc' L' st' σ' kc' ks' h' => ih pc' L' st' σ' kc' ks' h')
      · exact h.elim
/-- the first step from a loop's head, which the list of invariants names -/
theorem a_wp1 {X : a_X} {P : List (Nat × aT)} {inv : Nat → Option (aL → List aV → aS → Nat → Nat → Prop)} (hS : ∀ x ∈ P, a_Sd X x.1 x.2) (hI : ∀ pc I, inv pc = some I → ∀ L st σ kc ks, I L st σ kc ks → a_J X pc L st σ kc ks)
    (n pc : Nat) (T : aT) (hT : P.lookup pc = some T) {L : aL} {st : List aV} {σ : aS} {kc ks : Nat} (h : T (a_wp P inv n) L st σ kc ks) : a_J X pc L st σ kc ks :=
  hS _ (a_lk hT) _ L st σ kc ks h (fun pc' L' st' σ' kc' ks' h' => a_wps hS hI n pc' L' st' σ' kc' ks' h')
/-! the transformers -/
def a_uI (σ : aS) (h k : Nat) (x : Int32) : aS := (fun h' k' => if h' = h ∧ k' = k then x else σ.1 h' k', σ.2)
def a_uF (σ : aS) (h k : Nat) (r : Option Nat) : aS := (σ.1, fun h' k' => if h' = h ∧ k' = k then r else σ.2.1 h' k', σ.2.2)
def t_ic (v : Int32) (n : Nat) : aT := fun k L st σ kc ks => k n L (.inl v :: st) σ kc ks
def t_ild (i n : Nat) : aT := fun k L st σ kc ks => match L.getD i none with
  | some (.inl x) => k n L (.inl x :: st) σ kc ks
  | _ => False
def t_ald (i n : Nat) : aT := fun k L st σ kc ks => match L.getD i none with
  | some (.inr r) => k n L (.inr r :: st) σ kc ks
  | _ => False
def t_ist (i n : Nat) : aT := fun k L st σ kc ks => match st with
  | .inl x :: st' => a_g (decide (i < L.length)) (k n (L.set i (some (.inl x))) st' σ kc ks)
  | _ => False
def t_ast (i n : Nat) : aT := fun k L st σ kc ks => match st with
  | .inr r :: st' => a_g (decide (i < L.length)) (k n (L.set i (some (.inr r))) st' σ kc ks)
  | _ => False
def t_iinc (i : Nat) (d : Int32) (n : Nat) : aT := fun k L st σ kc ks => match L.getD i none with
  | some (.inl x) => k n (L.set i (some (.inl (x + d)))) st σ kc ks
  | _ => False
def t_add (n : Nat) : aT := fun k L st σ kc ks => match st with
  | .inl y :: .inl x :: st' => k n L (.inl (x + y) :: st') σ kc ks
  | _ => False
def t_sub (n : Nat) : aT := fun k L st σ kc ks => match st with
  | .inl y :: .inl x :: st' => k n L (.inl (x - y) :: st') σ kc ks
  | _ => False
def t_mul (n : Nat) : aT := fun k L st σ kc ks => match st with
  | .inl y :: .inl x :: st' => k n L (.inl (x * y) :: st') σ kc ks
  | _ => False
def t_and (n : Nat) : aT := fun k L st σ kc ks => match st with
  | .inl y :: .inl x :: st' => k n L (.inl (x &&& y) :: st') σ kc ks
  | _ => False
def t_neg (n : Nat) : aT := fun k L st σ kc ks => match st with
  | .inl x :: st' => k n L (.inl (-x) :: st') σ kc ks
  | _ => False
def a_rem (x y : Int32) : Int32 := x - x / y * y
def t_div (n : Nat) : aT := fun k L st σ kc ks => match st with
  | .inl y :: .inl x :: st' => ¬ y = 0 ∧ k n L (.inl (x / y) :: st') σ kc ks
  | _ => False
def t_rem (n : Nat) : aT := fun k L st σ kc ks => match st with
  | .inl y :: .inl x :: st' => ¬ y = 0 ∧ k n L (.inl (a_rem x y) :: st') σ kc ks
  | _ => False
def t_dup (n : Nat) : aT := fun k L st σ kc ks => match st with
  | v :: st' => k n L (v :: v :: st') σ kc ks
  | _ => False
def t_dup2 (n : Nat) : aT := fun k L st σ kc ks => match st with
  | v :: w :: st' => k n L (v :: w :: v :: w :: st') σ kc ks
  | _ => False
def t_if (f : Int32 → Prop) (tgt n : Nat) : aT := fun k L st σ kc ks => match st with
  | .inl x :: st' => (f x → k tgt L st' σ kc ks) ∧ (¬ f x → k n L st' σ kc ks)
  | _ => False
def t_ifc (f : Int32 → Int32 → Prop) (tgt n : Nat) : aT := fun k L st σ kc ks => match st with
  | .inl y :: .inl x :: st' => (f x y → k tgt L st' σ kc ks) ∧ (¬ f x y → k n L st' σ kc ks)
  | _ => False
def t_goto (tgt : Nat) : aT := fun k L st σ kc ks => k tgt L st σ kc ks
def t_null (n : Nat) : aT := fun k L st σ kc ks => k n L (.inr none :: st) σ kc ks
def t_ifnull (tgt n : Nat) : aT := fun k L st σ kc ks => match st with
  | .inr r :: st' => (r = none → k tgt L st' σ kc ks) ∧ (¬ r = none → k n L st' σ kc ks)
  | _ => False
def t_ifnn (tgt n : Nat) : aT := fun k L st σ kc ks => match st with
  | .inr r :: st' => (¬ r = none → k tgt L st' σ kc ks) ∧ (r = none → k n L st' σ kc ks)
  | _ => False
def a_sw (k : Nat → Prop) (x : Int32) : List (Int32 × Nat) → Nat → Prop
  | [], d => k d
  | (v, t) :: r, d => (x = v → k t) ∧ (¬ x = v → a_sw k x r d)
def t_sw (ts : List (Int32 × Nat)) (d : Nat) : aT := fun k L st σ kc ks => match st with
  | .inl x :: st' => a_sw (fun n => k n L st' σ kc ks) x ts d
  | _ => False
def a_is (σ : aS) (h ci n : Nat) : Bool := σ.2.2 h && ((kd h).1 == ci && (kd h).2 == n)
def t_geti (ci n j nx : Nat) : aT := fun k L st σ kc ks => match st with
  | .inr (some h) :: st' => a_g (a_is σ h ci n) (k nx L (.inl (σ.1 h j) :: st') σ kc ks)
  | _ => False
def t_getr (ci n j nx : Nat) : aT := fun k L st σ kc ks => match st with
  | .inr (some h) :: st' => a_g (a_is σ h ci n) (k nx L (.inr (σ.2.1 h j) :: st') σ kc ks)
  | _ => False
def t_puti (ci n j nx : Nat) : aT := fun k L st σ kc ks => match st with
  | .inl x :: .inr (some h) :: st' => a_g (a_is σ h ci n) (k nx L st' (a_uI σ h j x) kc ks)
  | _ => False
def t_putr (ci n j nx : Nat) : aT := fun k L st σ kc ks => match st with
  | .inr r :: .inr (some h) :: st' => a_g (a_is σ h ci n) (¬ r = some 63 ∧ k nx L st' (a_uF σ h j r) kc ks)
  | _ => False
def a_isA (σ : aS) (h ci : Nat) : Bool := σ.2.2 h && (kd h).1 == ci
def t_iald (nx : Nat) : aT := fun k L st σ kc ks => match st with
  | .inl i :: .inr (some h) :: st' => a_g (a_isA σ h 4) (vp_in i (kd h).2 ∧ k nx L (.inl (σ.1 h i.toNatClampNeg) :: st') σ kc ks)
  | _ => False
def t_iast (nx : Nat) : aT := fun k L st σ kc ks => match st with
  | .inl x :: .inl i :: .inr (some h) :: st' => a_g (a_isA σ h 4) (vp_in i (kd h).2 ∧ k nx L st' (a_uI σ h i.toNatClampNeg x) kc ks)
  | _ => False
def t_alen (nx : Nat) : aT := fun k L st σ kc ks => match st with
  | .inr (some h) :: st' => a_g (a_isA σ h 4) (k nx L (.inl (Int32.ofNat (kd h).2) :: st') σ kc ks)
  | _ => False
def t_aald (nx : Nat) : aT := fun k L st σ kc ks => match st with
  | .inl i :: .inr (some h) :: st' => a_g (a_isA σ h 5 || a_isA σ h 6) (vp_in i (kd h).2 ∧ k nx L (.inr (σ.2.1 h i.toNatClampNeg) :: st') σ kc ks)
  | _ => False
def t_aast (nx : Nat) : aT := fun k L st σ kc ks => match st with
  | .inr r :: .inl i :: .inr (some h) :: st' => a_g (a_isA σ h 5) (vp_in i (kd h).2 ∧ (∀ h', r = some h' → a_is σ h' 1 7 = true) ∧ k nx L st' (a_uF σ h i.toNatClampNeg r) kc ks)
  | _ => False
