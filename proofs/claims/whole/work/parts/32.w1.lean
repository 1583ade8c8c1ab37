/-! ===== the law's own steps ===== -/
def lw_P (b : Addr) (xs : List Int32) (args : Array Value) (s : State) : Prop := args = #[.ref b] ∧ s.IntsAt b xs ∧ xs.length ≤ 3072 ∧ (Jvm.Cond.and given_1 narrow_1).before args s = true
def lw_Q (_ : Array Value) (s : State) (o : Outcome) (t : State) : Prop := o = .returned (some (.int 1)) ∧ Framed s o t [] 914936 6357439
def lw_Z (below : List Frame) (a : Array Value) (s : State) : State → Prop := fun t => ∃ o, t.status = .running ∧ Ended t below o ∧ lw_Q a s o t
/-- the law's own end, with 1 on the stack, nothing written that was there before, its room as the claim has it -/
theorem lw_ret {p : Program} {l : Launch} {e : Env} {s : State} {m : MethodId} {below : List Frame} {meth : Method} {c : Code} {b : Nat} (hx : p.tables.exec = Jvm.exec) (hb : c.code = code) (hr : meth.sig.returnType = ret) (hlocks : meth.locks = false) {pc : Nat} {H : Heap} {ls : Array Slot} (hdg : decode code pc = .ok (.ireturn, 1)) : W p l e room_1 s m #[Value.ref b] below meth c H [] 914936 6357439 (lw_Z below #[Value.ref b] s) (F0 m pc ls [.int 1]) := by
  intro T hT X
  obtain ⟨fs, hret, hrun, hended, hW, hframe⟩ := X.leave (v := some (.int 1)) (hlocks := hlocks) (fun h => by rw [hr] at h; cases h)
  have hmeth' : T.vm.method? m = some meth := X.method'
  refine ⟨T.setFrames fs, ?_, .returned (some (.int 1)), hrun, hended, rfl, ⟨_, rfl⟩, hW, hframe⟩
  jvm_step X.here [X.here.top, hx, hb, hdg, hmeth', hr, ret, narrow_b1]
  (try refine ⟨rfl, ?_⟩); (try refine ⟨rfl, ?_⟩)
  first | (intro acts; rw [hret _ acts rfl rfl rfl]) | rw [hret _ _ rfl rfl rfl]
  exact Steps.refl _
def a_Scr : a_X → Nat → (Nat → Int32) → Prop := fun (p, l, e, R, s, m, args, below, meth, c, Q, D, G, N0, nL, q0, σ0) Ls xs => va_X (q0 63) Ls xs s s.heap ∧ q0 63 < s.heap.size ∧ q0 63 < N0
def a_lq : a_X → Prop := fun (p, l, e, R, s, m, args, below, meth, c, Q, D, G, N0, nL, q0, σ0) => R = room_1 ∧ N0 = s.heap.size ∧ ∃ b : Nat, args = #[Value.ref b] ∧ Q = lw_Z below #[Value.ref b] s
def t_sld (Ls : Nat) (xs : Nat → Int32) (nx : Nat) : aT := fun k L st σ kc ks => match st with
  | .inl i :: .inr (some h) :: st' => a_g (decide (h = 63)) (vp_in i Ls ∧ k nx L (.inl (xs i.toNatClampNeg) :: st') σ kc ks)
  | _ => False
def t_slen (Ls : Nat) (nx : Nat) : aT := fun k L st σ kc ks => match st with
  | .inr (some h) :: st' => a_g (decide (h = 63)) (k nx L (.inl (Int32.ofNat Ls) :: st') σ kc ks)
  | _ => False
def t_lret : aT := fun _ _ st _ kc ks => match st with
  | [.inl v] => (kc ≤ 914936 ∧ ks ≤ 6357439) ∧ v = 1
  | _ => False
section AS
variable {X : a_X} {cc : ByteArray} {rt : Option FieldType} {own : String} {pc Ls : Nat} {xs : Nat → Int32}
theorem s_sld (C : a_C X cc rt own) (Hs : a_Scr X Ls xs) (hd : decode cc pc = .ok (.iaload, 1)) : a_Sd X pc (t_sld Ls xs (pc + 1)) := by
  obtain ⟨p, l, e, R, s, m, args, below, meth, c, Q, D, G, N0, nL, q0, σ0⟩ := X
  obtain ⟨hx, hb, hml, hr, hlk, hown, hts, hK, hN, hXF⟩ := C
  obtain ⟨g1, g2, g3⟩ := Hs
  intro k L st σ kc ks h hk q H locs ls hR hl hL hst hS hq
  unfold t_sld at h
  split at h
  · rename_i i hh st'
    obtain ⟨e9, h⟩ := a_ge h
    have e9 := of_decide_eq_true e9
    subst e9
    have hq63 : q 63 = q0 63 := (hq 63 (Or.inr rfl)).1
    have J := hk _ _ _ _ _ _ h.2 q H locs ls hR hl hL (a_okI _ (a_okT (a_okT hst))) hS hq
    show W p l e R s m args below meth c H locs kc ks Q (F0 m pc ls (.int i :: .ref (q 63) :: st'.map (a_val q)))
    rw [hq63]
    exact va_sld hx hb g1 g2 (fun w => absurd g3 (Nat.not_lt.mpr w)) hS h.1 hd J
  · exact h.elim
theorem s_slen (C : a_C X cc rt own) (Hs : a_Scr X Ls xs) (hd : decode cc pc = .ok (.arraylength, 1)) : a_Sd X pc (t_slen Ls (pc + 1)) := by
  obtain ⟨p, l, e, R, s, m, args, below, meth, c, Q, D, G, N0, nL, q0, σ0⟩ := X
  obtain ⟨hx, hb, hml, hr, hlk, hown, hts, hK, hN, hXF⟩ := C
  obtain ⟨g1, g2, g3⟩ := Hs
  intro k L st σ kc ks h hk q H locs ls hR hl hL hst hS hq
  unfold t_slen at h
  split at h
  · rename_i hh st'
    obtain ⟨e9, h⟩ := a_ge h
    have e9 := of_decide_eq_true e9
    subst e9
    have hq63 : q 63 = q0 63 := (hq 63 (Or.inr rfl)).1
    have J := hk _ _ _ _ _ _ h q H locs ls hR hl hL (a_okI _ (a_okT hst)) hS hq
    show W p l e R s m args below meth c H locs kc ks Q (F0 m pc ls (.ref (q 63) :: st'.map (a_val q)))
    rw [hq63]
    exact va_slen hx hb g1 g2 (fun w => absurd g3 (Nat.not_lt.mpr w)) hS hd J
  · exact h.elim
theorem s_lret (C : a_C X code (some .boolean) own) (Hq : a_lq X) (hd : decode code pc = .ok (.ireturn, 1)) : a_Sd X pc t_lret := by
  obtain ⟨p, l, e, R, s, m, args, below, meth, c, Q, D, G, N0, nL, q0, σ0⟩ := X
  obtain ⟨hx, hb, hml, hr, hlk, hown, hts, hK, hN, hXF⟩ := C
  obtain ⟨rfl, hN0, b, rfl, rfl⟩ := Hq
  intro k L st σ kc ks h hk q H locs ls hR hl hL hst hS hq
  unfold t_lret at h
  split at h
  · obtain ⟨⟨g1, g2⟩, rfl⟩ := h
    refine va_forget (fun x hx => by have := hS.2.2 x hx; rw [hN0] at this; exact this) (W.widen g1 g2 ?_)
    exact lw_ret hx hb hr hlk hd
  · exact h.elim
end AS
theorem a_cgi {a b c d : Prop} {_ : Decidable a} {_ : Decidable b} {_ : Decidable c} {_ : Decidable d} {P : Prop} (ha : a) (hb : b) (hc : c) (hd : d) (p : P) : a_g (decide a && (decide b && (decide c && decide d))) P := by
  rw [decide_eq_true ha, decide_eq_true hb, decide_eq_true hc, decide_eq_true hd]
  exact p
def P_L_law (Ls : Nat) (xs : Nat → Int32) (bc bs : Nat) : List (Nat × aT) := [(0, t_new 2 10 bc bs 3),
  (3, t_dup 4),
  (4, t_call 1 11 263 bc bs sp_X2_init 7),
  (7, t_ast 1 8),
  (8, t_new 3 25 bc bs 11),
  (11, t_dup 12),
  (12, t_call 1 15 1542 bc bs sp_X3_init 15),
  (15, t_ast 2 16),
  (16, t_ic 0 17),
  (17, t_ist 3 18),
  (18, t_ild 3 19),
  (19, t_ald 0 20),
  (20, t_slen Ls 21),
  (21, t_ic 6 23),
  (23, t_sub 24),
  (24, t_ifc (fun x y => y < x) 414 27),
  (27, t_ald 0 28),
  (28, t_ild 3 29),
  (29, t_sld Ls xs 30),
  (30, t_ic 15 32),
  (32, t_and 33),
  (33, t_sw [(0, 88), (1, 131), (2, 184), (3, 217), (4, 260), (5, 323), (6, 346), (7, 359), (8, 372), (9, 385)] 408),
  (88, t_ald 1 89),
  (89, t_ald 0 90),
  (90, t_ild 3 91),
  (91, t_ic 1 92),
  (92, t_add 93),
  (93, t_sld Ls xs 94),
  (94, t_ald 0 95),
  (95, t_ild 3 96),
  (96, t_ic 2 97),
  (97, t_add 98),
  (98, t_sld Ls xs 99),
  (99, t_ald 0 100),
  (100, t_ild 3 101),
  (101, t_ic 3 102),
  (102, t_add 103),
  (103, t_sld Ls xs 104),
  (104, t_call 4 0 0 bc bs sp_X2_dye 107),
  (107, t_ald 2 108),
  (108, t_ald 0 109),
  (109, t_ild 3 110),
  (110, t_ic 1 111),
  (111, t_add 112),
  (112, t_sld Ls xs 113),
  (113, t_ald 0 114),
  (114, t_ild 3 115),
  (115, t_ic 2 116),
  (116, t_add 117),
  (117, t_sld Ls xs 118),
  (118, t_ald 0 119),
  (119, t_ild 3 120),
  (120, t_ic 3 121),
  (121, t_add 122),
  (122, t_sld Ls xs 123),
  (123, t_call 4 0 0 bc bs sp_X3_dye 126),
  (126, t_ifc (fun x y => x = y) 408 129),
  (129, t_ic 0 130),
  (130, t_lret),
  (131, t_ald 1 132),
  (132, t_ald 0 133),
  (133, t_ild 3 134),
  (134, t_ic 1 135),
  (135, t_add 136),
  (136, t_sld Ls xs 137),
  (137, t_ald 0 138),
  (138, t_ild 3 139),
  (139, t_ic 2 140),
  (140, t_add 141),
  (141, t_sld Ls xs 142),
  (142, t_ald 0 143),
  (143, t_ild 3 144),
  (144, t_ic 3 145),
  (145, t_add 146),
  (146, t_sld Ls xs 147),
  (147, t_ald 0 148),
  (148, t_ild 3 149),
  (149, t_ic 4 150),
  (150, t_add 151),
  (151, t_sld Ls xs 152),
  (152, t_call 5 2 15 bc bs sp_X2_pattern 155),
  (155, t_ald 2 156),
  (156, t_ald 0 157),
  (157, t_ild 3 158),
  (158, t_ic 1 159),
  (159, t_add 160),
  (160, t_sld Ls xs 161),
  (161, t_ald 0 162),
  (162, t_ild 3 163),
  (163, t_ic 2 164),
  (164, t_add 165),
  (165, t_sld Ls xs 166),
  (166, t_ald 0 167),
  (167, t_ild 3 168),
  (168, t_ic 3 169),
  (169, t_add 170),
  (170, t_sld Ls xs 171),
  (171, t_ald 0 172),
  (172, t_ild 3 173),
  (173, t_ic 4 174),
  (174, t_add 175),
  (175, t_sld Ls xs 176),
  (176, t_call 5 0 0 bc bs sp_X3_pattern 179),
  (179, t_ifc (fun x y => x = y) 408 182),
  (182, t_ic 0 183),
  (183, t_lret),
  (184, t_ald 1 185),
  (185, t_ald 0 186),
  (186, t_ild 3 187),
  (187, t_ic 1 188),
  (188, t_add 189),
  (189, t_sld Ls xs 190),
  (190, t_ald 0 191),
  (191, t_ild 3 192),
  (192, t_ic 2 193),
  (193, t_add 194),
  (194, t_sld Ls xs 195),
  (195, t_call 3 0 0 bc bs sp_X2_name 198),
  (198, t_ald 2 199),
  (199, t_ald 0 200),
  (200, t_ild 3 201),
  (201, t_ic 1 202),
  (202, t_add 203),
  (203, t_sld Ls xs 204),
  (204, t_ald 0 205),
  (205, t_ild 3 206),
  (206, t_ic 2 207),
  (207, t_add 208),
  (208, t_sld Ls xs 209),
  (209, t_call 3 0 0 bc bs sp_X3_name 212),
  (212, t_ifc (fun x y => x = y) 408 215),
  (215, t_ic 0 216),
  (216, t_lret),
  (217, t_ald 1 218),
  (218, t_ald 0 219),
  (219, t_ild 3 220),
  (220, t_ic 1 221),
  (221, t_add 222),
  (222, t_sld Ls xs 223),
  (223, t_ald 0 224),
  (224, t_ild 3 225),
  (225, t_ic 2 226),
  (226, t_add 227),
  (227, t_sld Ls xs 228),
  (228, t_ald 0 229),
  (229, t_ild 3 230),
  (230, t_ic 3 231),
  (231, t_add 232),
  (232, t_sld Ls xs 233),
  (233, t_call 4 0 0 bc bs sp_X2_ask 236),
  (236, t_ald 2 237),
  (237, t_ald 0 238),
  (238, t_ild 3 239),
  (239, t_ic 1 240),
  (240, t_add 241),
  (241, t_sld Ls xs 242),
  (242, t_ald 0 243),
  (243, t_ild 3 244),
  (244, t_ic 2 245),
  (245, t_add 246),
  (246, t_sld Ls xs 247),
  (247, t_ald 0 248),
  (248, t_ild 3 249),
  (249, t_ic 3 250),
  (250, t_add 251),
  (251, t_sld Ls xs 252),
  (252, t_call 4 0 0 bc bs sp_X3_ask 255),
  (255, t_ifc (fun x y => x = y) 408 258),
  (258, t_ic 0 259),
  (259, t_lret),
  (260, t_ald 1 261),
  (261, t_ald 0 262),
  (262, t_ild 3 263),
  (263, t_ic 1 264),
  (264, t_add 265),
  (265, t_sld Ls xs 266),
  (266, t_ald 0 267),
  (267, t_ild 3 268),
  (268, t_ic 2 269),
  (269, t_add 270),
  (270, t_sld Ls xs 271),
  (271, t_ald 0 272),
  (272, t_ild 3 273),
  (273, t_ic 3 274),
  (274, t_add 275),
  (275, t_sld Ls xs 276),
  (276, t_ald 0 277),
  (277, t_ild 3 278),
  (278, t_ic 4 279),
  (279, t_add 280),
  (280, t_sld Ls xs 281),
  (281, t_ald 0 282),
  (282, t_ild 3 283),
  (283, t_ic 5 284),
  (284, t_add 285),
  (285, t_sld Ls xs 286),
  (286, t_call 6 0 0 bc bs sp_X2_weave 289),
  (289, t_ald 2 290),
  (290, t_ald 0 291),
  (291, t_ild 3 292),
  (292, t_ic 1 293),
  (293, t_add 294),
  (294, t_sld Ls xs 295),
  (295, t_ald 0 296),
  (296, t_ild 3 297),
  (297, t_ic 2 298),
  (298, t_add 299),
  (299, t_sld Ls xs 300),
  (300, t_ald 0 301),
  (301, t_ild 3 302),
  (302, t_ic 3 303),
  (303, t_add 304),
  (304, t_sld Ls xs 305),
  (305, t_ald 0 306),
  (306, t_ild 3 307),
  (307, t_ic 4 308),
  (308, t_add 309),
  (309, t_sld Ls xs 310),
  (310, t_ald 0 311),
  (311, t_ild 3 312),
  (312, t_ic 5 313),
  (313, t_add 314),
  (314, t_sld Ls xs 315),
  (315, t_call 6 0 0 bc bs sp_X3_weave 318),
  (318, t_ifc (fun x y => x = y) 408 321),
  (321, t_ic 0 322),
  (322, t_lret),
  (323, t_ald 1 324),
  (324, t_ald 0 325),
  (325, t_ild 3 326),
  (326, t_ic 1 327),
  (327, t_add 328),
  (328, t_sld Ls xs 329),
  (329, t_call 2 0 0 bc bs sp_X2_cloth 332),
  (332, t_ald 2 333),
  (333, t_ald 0 334),
  (334, t_ild 3 335),
  (335, t_ic 1 336),
  (336, t_add 337),
  (337, t_sld Ls xs 338),
  (338, t_call 2 0 0 bc bs sp_X3_cloth 341),
  (341, t_ifc (fun x y => x = y) 408 344),
  (344, t_ic 0 345),
  (345, t_lret),
  (346, t_ald 1 347),
  (347, t_call 1 0 0 bc bs sp_X2_changes 350),
  (350, t_ald 2 351),
  (351, t_call 1 0 0 bc bs sp_X3_changes 354),
  (354, t_ifc (fun x y => x = y) 408 357),
  (357, t_ic 0 358),
  (358, t_lret),
  (359, t_ald 1 360),
  (360, t_call 1 0 0 bc bs sp_X2_most 363),
  (363, t_ald 2 364),
  (364, t_call 1 0 0 bc bs sp_X3_most 367),
  (367, t_ifc (fun x y => x = y) 408 370),
  (370, t_ic 0 371),
  (371, t_lret),
  (372, t_ald 1 373),
  (373, t_call 1 0 0 bc bs sp_X2_why 376),
  (376, t_ald 2 377),
  (377, t_call 1 0 0 bc bs sp_X3_why 380),
  (380, t_ifc (fun x y => x = y) 408 383),
  (383, t_ic 0 384),
  (384, t_lret),
  (385, t_ald 1 386),
  (386, t_ald 0 387),
  (387, t_ild 3 388),
  (388, t_ic 1 389),
  (389, t_add 390),
  (390, t_sld Ls xs 391),
  (391, t_call 2 0 0 bc bs sp_X2_count 394),
  (394, t_ald 2 395),
  (395, t_ald 0 396),
  (396, t_ild 3 397),
  (397, t_ic 1 398),
  (398, t_add 399),
  (399, t_sld Ls xs 400),
  (400, t_call 2 0 0 bc bs sp_X3_count 403),
  (403, t_ifc (fun x y => x = y) 408 406),
  (406, t_ic 0 407),
  (407, t_lret),
  (408, t_iinc 3 6 411),
  (411, t_goto 18),
  (414, t_ic 1 415),
  (415, t_lret)]
set_option maxRecDepth 100000 in
theorem S_L_law {X : a_X} {l : Launch} {D : va_G} {G : aG} {N0 Ls : Nat} {xs : Nat → Int32} (C : a_C X cL_law (some .boolean) RL) (Y : a_Y X l room_1 D G N0) (hs : a_Scr X Ls xs) (hq : a_lq X) : ∀ x ∈ P_L_law Ls xs 914936 6357439, a_Sd X x.1 x.2 := by
  unfold P_L_law
  refine List.forall_mem_cons.mpr ⟨s_new C Y tyX2 tyX2_ok df_X2 rfl in_X2 cl_L_7 ia_X2 ii_X2 ⟨rfl, rfl⟩ dL_law_0, ?_⟩
  refine List.forall_mem_cons.mpr ⟨s_dup C dL_law_3, ?_⟩
  refine List.forall_mem_cons.mpr ⟨s_callI (rm := (a_rm 2 11 263)) (n := 0) C Y con_X2_init rc_X2_init co_X2_init ml_L_9 im_X2_init ii_X2 rfl (by decide +kernel) ⟨by decide, by decide⟩ ⟨rfl, rfl⟩ dL_law_4, ?_⟩
  refine List.forall_mem_cons.mpr ⟨s_astn C dL_law_7 rfl, ?_⟩
  refine List.forall_mem_cons.mpr ⟨s_new C Y tyX3 tyX3_ok df_X3 rfl in_X3 cl_L_10 ia_X3 ii_X3 ⟨rfl, rfl⟩ dL_law_8, ?_⟩
  refine List.forall_mem_cons.mpr ⟨s_dup C dL_law_11, ?_⟩
  refine List.forall_mem_cons.mpr ⟨s_callI (rm := (a_rm 1 15 1542)) (n := 0) C Y con_X3_init rc_X3_init co_X3_init ml_L_12 im_X3_init ii_X3 rfl (by decide +kernel) ⟨by decide, by decide⟩ ⟨rfl, rfl⟩ dL_law_12, ?_⟩
  refine List.forall_mem_cons.mpr ⟨s_astn C dL_law_15 rfl, ?_⟩
  refine List.forall_mem_cons.mpr ⟨s_ic C dL_law_16 (by decide), ?_⟩
  refine List.forall_mem_cons.mpr ⟨s_istn C dL_law_17 rfl, ?_⟩
  refine List.forall_mem_cons.mpr ⟨s_ildn C dL_law_18 rfl, ?_⟩
  refine List.forall_mem_cons.mpr ⟨s_aldn C dL_law_19 rfl, ?_⟩
  refine List.forall_mem_cons.mpr ⟨s_slen C hs dL_law_20, ?_⟩
  refine List.forall_mem_cons.mpr ⟨s_bi C dL_law_21 (by decide), ?_⟩
  refine List.forall_mem_cons.mpr ⟨s_sub C dL_law_23, ?_⟩
  refine List.forall_mem_cons.mpr ⟨s_icmp_gt C dL_law_24 (by decide), ?_⟩
  refine List.forall_mem_cons.mpr ⟨s_aldn C dL_law_27 rfl, ?_⟩
  refine List.forall_mem_cons.mpr ⟨s_ildn C dL_law_28 rfl, ?_⟩
  refine List.forall_mem_cons.mpr ⟨s_sld C hs dL_law_29, ?_⟩
  refine List.forall_mem_cons.mpr ⟨s_bi C dL_law_30 (by decide), ?_⟩
  refine List.forall_mem_cons.mpr ⟨s_and C dL_law_32, ?_⟩
  refine List.forall_mem_cons.mpr ⟨s_tsw C dL_law_33 (a_tok_of2 9 (by decide) (by decide) (by decide) (by decide)), ?_⟩
  refine List.forall_mem_cons.mpr ⟨s_aldn C dL_law_88 rfl, ?_⟩
  refine List.forall_mem_cons.mpr ⟨s_aldn C dL_law_89 rfl, ?_⟩
  refine List.forall_mem_cons.mpr ⟨s_ildn C dL_law_90 rfl, ?_⟩
  refine List.forall_mem_cons.mpr ⟨s_ic C dL_law_91 (by decide), ?_⟩
  refine List.forall_mem_cons.mpr ⟨s_add C dL_law_92, ?_⟩
  refine List.forall_mem_cons.mpr ⟨s_sld C hs dL_law_93, ?_⟩
  refine List.forall_mem_cons.mpr ⟨s_aldn C dL_law_94 rfl, ?_⟩
  refine List.forall_mem_cons.mpr ⟨s_ildn C dL_law_95 rfl, ?_⟩
  refine List.forall_mem_cons.mpr ⟨s_ic C dL_law_96 (by decide), ?_⟩
  refine List.forall_mem_cons.mpr ⟨s_add C dL_law_97, ?_⟩
  refine List.forall_mem_cons.mpr ⟨s_sld C hs dL_law_98, ?_⟩
  refine List.forall_mem_cons.mpr ⟨s_aldn C dL_law_99 rfl, ?_⟩
  refine List.forall_mem_cons.mpr ⟨s_ildn C dL_law_100 rfl, ?_⟩
  refine List.forall_mem_cons.mpr ⟨s_ic C dL_law_101 (by decide), ?_⟩
  refine List.forall_mem_cons.mpr ⟨s_add C dL_law_102, ?_⟩
  refine List.forall_mem_cons.mpr ⟨s_sld C hs dL_law_103, ?_⟩
  refine List.forall_mem_cons.mpr ⟨s_callV (rm := (a_rm 2 0 0)) (n := 3) C Y (ci := 2) rfl con_X2_dye rc_X2_dye co_X2_dye ml_L_13 im_X2_dye se_X2_dye ii_X2 (by decide +kernel) ⟨by decide, by decide⟩ ⟨rfl, rfl⟩ dL_law_104, ?_⟩
  refine List.forall_mem_cons.mpr ⟨s_aldn C dL_law_107 rfl, ?_⟩
  refine List.forall_mem_cons.mpr ⟨s_aldn C dL_law_108 rfl, ?_⟩
  refine List.forall_mem_cons.mpr ⟨s_ildn C dL_law_109 rfl, ?_⟩
  refine List.forall_mem_cons.mpr ⟨s_ic C dL_law_110 (by decide), ?_⟩
  refine List.forall_mem_cons.mpr ⟨s_add C dL_law_111, ?_⟩
  refine List.forall_mem_cons.mpr ⟨s_sld C hs dL_law_112, ?_⟩
  refine List.forall_mem_cons.mpr ⟨s_aldn C dL_law_113 rfl, ?_⟩
  refine List.forall_mem_cons.mpr ⟨s_ildn C dL_law_114 rfl, ?_⟩
  refine List.forall_mem_cons.mpr ⟨s_ic C dL_law_115 (by decide), ?_⟩
  refine List.forall_mem_cons.mpr ⟨s_add C dL_law_116, ?_⟩
  refine List.forall_mem_cons.mpr ⟨s_sld C hs dL_law_117, ?_⟩
  refine List.forall_mem_cons.mpr ⟨s_aldn C dL_law_118 rfl, ?_⟩
  refine List.forall_mem_cons.mpr ⟨s_ildn C dL_law_119 rfl, ?_⟩
  refine List.forall_mem_cons.mpr ⟨s_ic C dL_law_120 (by decide), ?_⟩
  refine List.forall_mem_cons.mpr ⟨s_add C dL_law_121, ?_⟩
  refine List.forall_mem_cons.mpr ⟨s_sld C hs dL_law_122, ?_⟩
  refine List.forall_mem_cons.mpr ⟨s_callV (rm := (a_rm 2 0 0)) (n := 3) C Y (ci := 3) rfl con_X3_dye rc_X3_dye co_X3_dye ml_L_17 im_X3_dye se_X3_dye ii_X3 (by decide +kernel) ⟨by decide, by decide⟩ ⟨rfl, rfl⟩ dL_law_123, ?_⟩
  refine List.forall_mem_cons.mpr ⟨s_icmp_eq C dL_law_126 (by decide), ?_⟩
  refine List.forall_mem_cons.mpr ⟨s_ic C dL_law_129 (by decide), ?_⟩
  refine List.forall_mem_cons.mpr ⟨s_lret C hq dL_law_130, ?_⟩
  refine List.forall_mem_cons.mpr ⟨s_aldn C dL_law_131 rfl, ?_⟩
  refine List.forall_mem_cons.mpr ⟨s_aldn C dL_law_132 rfl, ?_⟩
  refine List.forall_mem_cons.mpr ⟨s_ildn C dL_law_133 rfl, ?_⟩
  refine List.forall_mem_cons.mpr ⟨s_ic C dL_law_134 (by decide), ?_⟩
  refine List.forall_mem_cons.mpr ⟨s_add C dL_law_135, ?_⟩
  refine List.forall_mem_cons.mpr ⟨s_sld C hs dL_law_136, ?_⟩
  refine List.forall_mem_cons.mpr ⟨s_aldn C dL_law_137 rfl, ?_⟩
  refine List.forall_mem_cons.mpr ⟨s_ildn C dL_law_138 rfl, ?_⟩
  refine List.forall_mem_cons.mpr ⟨s_ic C dL_law_139 (by decide), ?_⟩
  refine List.forall_mem_cons.mpr ⟨s_add C dL_law_140, ?_⟩
  refine List.forall_mem_cons.mpr ⟨s_sld C hs dL_law_141, ?_⟩
  refine List.forall_mem_cons.mpr ⟨s_aldn C dL_law_142 rfl, ?_⟩
  refine List.forall_mem_cons.mpr ⟨s_ildn C dL_law_143 rfl, ?_⟩
  refine List.forall_mem_cons.mpr ⟨s_ic C dL_law_144 (by decide), ?_⟩
  refine List.forall_mem_cons.mpr ⟨s_add C dL_law_145, ?_⟩
  refine List.forall_mem_cons.mpr ⟨s_sld C hs dL_law_146, ?_⟩
  refine List.forall_mem_cons.mpr ⟨s_aldn C dL_law_147 rfl, ?_⟩
  refine List.forall_mem_cons.mpr ⟨s_ildn C dL_law_148 rfl, ?_⟩
  refine List.forall_mem_cons.mpr ⟨s_ic C dL_law_149 (by decide), ?_⟩
  refine List.forall_mem_cons.mpr ⟨s_add C dL_law_150, ?_⟩
  refine List.forall_mem_cons.mpr ⟨s_sld C hs dL_law_151, ?_⟩
  refine List.forall_mem_cons.mpr ⟨s_callV (rm := (a_rm 3 2 15)) (n := 4) C Y (ci := 2) rfl con_X2_pattern rc_X2_pattern co_X2_pattern ml_L_18 im_X2_pattern se_X2_pattern ii_X2 (by decide +kernel) ⟨by decide, by decide⟩ ⟨rfl, rfl⟩ dL_law_152, ?_⟩
  refine List.forall_mem_cons.mpr ⟨s_aldn C dL_law_155 rfl, ?_⟩
  refine List.forall_mem_cons.mpr ⟨s_aldn C dL_law_156 rfl, ?_⟩
  refine List.forall_mem_cons.mpr ⟨s_ildn C dL_law_157 rfl, ?_⟩
  refine List.forall_mem_cons.mpr ⟨s_ic C dL_law_158 (by decide), ?_⟩
  refine List.forall_mem_cons.mpr ⟨s_add C dL_law_159, ?_⟩
  refine List.forall_mem_cons.mpr ⟨s_sld C hs dL_law_160, ?_⟩
  refine List.forall_mem_cons.mpr ⟨s_aldn C dL_law_161 rfl, ?_⟩
  refine List.forall_mem_cons.mpr ⟨s_ildn C dL_law_162 rfl, ?_⟩
  refine List.forall_mem_cons.mpr ⟨s_ic C dL_law_163 (by decide), ?_⟩
  refine List.forall_mem_cons.mpr ⟨s_add C dL_law_164, ?_⟩
  refine List.forall_mem_cons.mpr ⟨s_sld C hs dL_law_165, ?_⟩
  refine List.forall_mem_cons.mpr ⟨s_aldn C dL_law_166 rfl, ?_⟩
  refine List.forall_mem_cons.mpr ⟨s_ildn C dL_law_167 rfl, ?_⟩
  refine List.forall_mem_cons.mpr ⟨s_ic C dL_law_168 (by decide), ?_⟩
  refine List.forall_mem_cons.mpr ⟨s_add C dL_law_169, ?_⟩
  refine List.forall_mem_cons.mpr ⟨s_sld C hs dL_law_170, ?_⟩
  refine List.forall_mem_cons.mpr ⟨s_aldn C dL_law_171 rfl, ?_⟩
  refine List.forall_mem_cons.mpr ⟨s_ildn C dL_law_172 rfl, ?_⟩
  refine List.forall_mem_cons.mpr ⟨s_ic C dL_law_173 (by decide), ?_⟩
  refine List.forall_mem_cons.mpr ⟨s_add C dL_law_174, ?_⟩
  refine List.forall_mem_cons.mpr ⟨s_sld C hs dL_law_175, ?_⟩
  refine List.forall_mem_cons.mpr ⟨s_callV (rm := (a_rm 4 0 0)) (n := 4) C Y (ci := 3) rfl con_X3_pattern rc_X3_pattern co_X3_pattern ml_L_22 im_X3_pattern se_X3_pattern ii_X3 (by decide +kernel) ⟨by decide, by decide⟩ ⟨rfl, rfl⟩ dL_law_176, ?_⟩
  refine List.forall_mem_cons.mpr ⟨s_icmp_eq C dL_law_179 (by decide), ?_⟩
  refine List.forall_mem_cons.mpr ⟨s_ic C dL_law_182 (by decide), ?_⟩
  refine List.forall_mem_cons.mpr ⟨s_lret C hq dL_law_183, ?_⟩
  refine List.forall_mem_cons.mpr ⟨s_aldn C dL_law_184 rfl, ?_⟩
  refine List.forall_mem_cons.mpr ⟨s_aldn C dL_law_185 rfl, ?_⟩
  refine List.forall_mem_cons.mpr ⟨s_ildn C dL_law_186 rfl, ?_⟩
  refine List.forall_mem_cons.mpr ⟨s_ic C dL_law_187 (by decide), ?_⟩
  refine List.forall_mem_cons.mpr ⟨s_add C dL_law_188, ?_⟩
  refine List.forall_mem_cons.mpr ⟨s_sld C hs dL_law_189, ?_⟩
  refine List.forall_mem_cons.mpr ⟨s_aldn C dL_law_190 rfl, ?_⟩
  refine List.forall_mem_cons.mpr ⟨s_ildn C dL_law_191 rfl, ?_⟩
  refine List.forall_mem_cons.mpr ⟨s_ic C dL_law_192 (by decide), ?_⟩
  refine List.forall_mem_cons.mpr ⟨s_add C dL_law_193, ?_⟩
  refine List.forall_mem_cons.mpr ⟨s_sld C hs dL_law_194, ?_⟩
  refine List.forall_mem_cons.mpr ⟨s_callV (rm := (a_rm 3 0 0)) (n := 2) C Y (ci := 2) rfl con_X2_name rc_X2_name co_X2_name ml_L_23 im_X2_name se_X2_name ii_X2 (by decide +kernel) ⟨by decide, by decide⟩ ⟨rfl, rfl⟩ dL_law_195, ?_⟩
  refine List.forall_mem_cons.mpr ⟨s_aldn C dL_law_198 rfl, ?_⟩
  refine List.forall_mem_cons.mpr ⟨s_aldn C dL_law_199 rfl, ?_⟩
  refine List.forall_mem_cons.mpr ⟨s_ildn C dL_law_200 rfl, ?_⟩
  refine List.forall_mem_cons.mpr ⟨s_ic C dL_law_201 (by decide), ?_⟩
  refine List.forall_mem_cons.mpr ⟨s_add C dL_law_202, ?_⟩
  refine List.forall_mem_cons.mpr ⟨s_sld C hs dL_law_203, ?_⟩
  refine List.forall_mem_cons.mpr ⟨s_aldn C dL_law_204 rfl, ?_⟩
  refine List.forall_mem_cons.mpr ⟨s_ildn C dL_law_205 rfl, ?_⟩
  refine List.forall_mem_cons.mpr ⟨s_ic C dL_law_206 (by decide), ?_⟩
  refine List.forall_mem_cons.mpr ⟨s_add C dL_law_207, ?_⟩
  refine List.forall_mem_cons.mpr ⟨s_sld C hs dL_law_208, ?_⟩
  refine List.forall_mem_cons.mpr ⟨s_callV (rm := (a_rm 3 0 0)) (n := 2) C Y (ci := 3) rfl con_X3_name rc_X3_name co_X3_name ml_L_27 im_X3_name se_X3_name ii_X3 (by decide +kernel) ⟨by decide, by decide⟩ ⟨rfl, rfl⟩ dL_law_209, ?_⟩
  refine List.forall_mem_cons.mpr ⟨s_icmp_eq C dL_law_212 (by decide), ?_⟩
  refine List.forall_mem_cons.mpr ⟨s_ic C dL_law_215 (by decide), ?_⟩
  refine List.forall_mem_cons.mpr ⟨s_lret C hq dL_law_216, ?_⟩
  refine List.forall_mem_cons.mpr ⟨s_aldn C dL_law_217 rfl, ?_⟩
  refine List.forall_mem_cons.mpr ⟨s_aldn C dL_law_218 rfl, ?_⟩
  refine List.forall_mem_cons.mpr ⟨s_ildn C dL_law_219 rfl, ?_⟩
  refine List.forall_mem_cons.mpr ⟨s_ic C dL_law_220 (by decide), ?_⟩
  refine List.forall_mem_cons.mpr ⟨s_add C dL_law_221, ?_⟩
  refine List.forall_mem_cons.mpr ⟨s_sld C hs dL_law_222, ?_⟩
  refine List.forall_mem_cons.mpr ⟨s_aldn C dL_law_223 rfl, ?_⟩
  refine List.forall_mem_cons.mpr ⟨s_ildn C dL_law_224 rfl, ?_⟩
  refine List.forall_mem_cons.mpr ⟨s_ic C dL_law_225 (by decide), ?_⟩
  refine List.forall_mem_cons.mpr ⟨s_add C dL_law_226, ?_⟩
  refine List.forall_mem_cons.mpr ⟨s_sld C hs dL_law_227, ?_⟩
  refine List.forall_mem_cons.mpr ⟨s_aldn C dL_law_228 rfl, ?_⟩
  refine List.forall_mem_cons.mpr ⟨s_ildn C dL_law_229 rfl, ?_⟩
  refine List.forall_mem_cons.mpr ⟨s_ic C dL_law_230 (by decide), ?_⟩
  refine List.forall_mem_cons.mpr ⟨s_add C dL_law_231, ?_⟩
  refine List.forall_mem_cons.mpr ⟨s_sld C hs dL_law_232, ?_⟩
  refine List.forall_mem_cons.mpr ⟨s_callV (rm := (a_rm 252 0 0)) (n := 3) C Y (ci := 2) rfl con_X2_ask rc_X2_ask co_X2_ask ml_L_28 im_X2_ask se_X2_ask ii_X2 (by decide +kernel) ⟨by decide, by decide⟩ ⟨rfl, rfl⟩ dL_law_233, ?_⟩
  refine List.forall_mem_cons.mpr ⟨s_aldn C dL_law_236 rfl, ?_⟩
  refine List.forall_mem_cons.mpr ⟨s_aldn C dL_law_237 rfl, ?_⟩
  refine List.forall_mem_cons.mpr ⟨s_ildn C dL_law_238 rfl, ?_⟩
  refine List.forall_mem_cons.mpr ⟨s_ic C dL_law_239 (by decide), ?_⟩
  refine List.forall_mem_cons.mpr ⟨s_add C dL_law_240, ?_⟩
  refine List.forall_mem_cons.mpr ⟨s_sld C hs dL_law_241, ?_⟩
  refine List.forall_mem_cons.mpr ⟨s_aldn C dL_law_242 rfl, ?_⟩
  refine List.forall_mem_cons.mpr ⟨s_ildn C dL_law_243 rfl, ?_⟩
  refine List.forall_mem_cons.mpr ⟨s_ic C dL_law_244 (by decide), ?_⟩
  refine List.forall_mem_cons.mpr ⟨s_add C dL_law_245, ?_⟩
  refine List.forall_mem_cons.mpr ⟨s_sld C hs dL_law_246, ?_⟩
  refine List.forall_mem_cons.mpr ⟨s_aldn C dL_law_247 rfl, ?_⟩
  refine List.forall_mem_cons.mpr ⟨s_ildn C dL_law_248 rfl, ?_⟩
  refine List.forall_mem_cons.mpr ⟨s_ic C dL_law_249 (by decide), ?_⟩
  refine List.forall_mem_cons.mpr ⟨s_add C dL_law_250, ?_⟩
  refine List.forall_mem_cons.mpr ⟨s_sld C hs dL_law_251, ?_⟩
  refine List.forall_mem_cons.mpr ⟨s_callV (rm := (a_rm 5 0 0)) (n := 3) C Y (ci := 3) rfl con_X3_ask rc_X3_ask co_X3_ask ml_L_31 im_X3_ask se_X3_ask ii_X3 (by decide +kernel) ⟨by decide, by decide⟩ ⟨rfl, rfl⟩ dL_law_252, ?_⟩
  refine List.forall_mem_cons.mpr ⟨s_icmp_eq C dL_law_255 (by decide), ?_⟩
  refine List.forall_mem_cons.mpr ⟨s_ic C dL_law_258 (by decide), ?_⟩
  refine List.forall_mem_cons.mpr ⟨s_lret C hq dL_law_259, ?_⟩
  refine List.forall_mem_cons.mpr ⟨s_aldn C dL_law_260 rfl, ?_⟩
  refine List.forall_mem_cons.mpr ⟨s_aldn C dL_law_261 rfl, ?_⟩
  refine List.forall_mem_cons.mpr ⟨s_ildn C dL_law_262 rfl, ?_⟩
  refine List.forall_mem_cons.mpr ⟨s_ic C dL_law_263 (by decide), ?_⟩
  refine List.forall_mem_cons.mpr ⟨s_add C dL_law_264, ?_⟩
  refine List.forall_mem_cons.mpr ⟨s_sld C hs dL_law_265, ?_⟩
  refine List.forall_mem_cons.mpr ⟨s_aldn C dL_law_266 rfl, ?_⟩
  refine List.forall_mem_cons.mpr ⟨s_ildn C dL_law_267 rfl, ?_⟩
  refine List.forall_mem_cons.mpr ⟨s_ic C dL_law_268 (by decide), ?_⟩
  refine List.forall_mem_cons.mpr ⟨s_add C dL_law_269, ?_⟩
  refine List.forall_mem_cons.mpr ⟨s_sld C hs dL_law_270, ?_⟩
  refine List.forall_mem_cons.mpr ⟨s_aldn C dL_law_271 rfl, ?_⟩
  refine List.forall_mem_cons.mpr ⟨s_ildn C dL_law_272 rfl, ?_⟩
  refine List.forall_mem_cons.mpr ⟨s_ic C dL_law_273 (by decide), ?_⟩
  refine List.forall_mem_cons.mpr ⟨s_add C dL_law_274, ?_⟩
  refine List.forall_mem_cons.mpr ⟨s_sld C hs dL_law_275, ?_⟩
  refine List.forall_mem_cons.mpr ⟨s_aldn C dL_law_276 rfl, ?_⟩
  refine List.forall_mem_cons.mpr ⟨s_ildn C dL_law_277 rfl, ?_⟩
  refine List.forall_mem_cons.mpr ⟨s_ic C dL_law_278 (by decide), ?_⟩
  refine List.forall_mem_cons.mpr ⟨s_add C dL_law_279, ?_⟩
  refine List.forall_mem_cons.mpr ⟨s_sld C hs dL_law_280, ?_⟩
  refine List.forall_mem_cons.mpr ⟨s_aldn C dL_law_281 rfl, ?_⟩
  refine List.forall_mem_cons.mpr ⟨s_ildn C dL_law_282 rfl, ?_⟩
  refine List.forall_mem_cons.mpr ⟨s_ic C dL_law_283 (by decide), ?_⟩
  refine List.forall_mem_cons.mpr ⟨s_add C dL_law_284, ?_⟩
  refine List.forall_mem_cons.mpr ⟨s_sld C hs dL_law_285, ?_⟩
  refine List.forall_mem_cons.mpr ⟨s_callV (rm := (a_rm 252 0 0)) (n := 5) C Y (ci := 2) rfl con_X2_weave rc_X2_weave co_X2_weave ml_L_32 im_X2_weave se_X2_weave ii_X2 (by decide +kernel) ⟨by decide, by decide⟩ ⟨rfl, rfl⟩ dL_law_286, ?_⟩
  refine List.forall_mem_cons.mpr ⟨s_aldn C dL_law_289 rfl, ?_⟩
  refine List.forall_mem_cons.mpr ⟨s_aldn C dL_law_290 rfl, ?_⟩
  refine List.forall_mem_cons.mpr ⟨s_ildn C dL_law_291 rfl, ?_⟩
  refine List.forall_mem_cons.mpr ⟨s_ic C dL_law_292 (by decide), ?_⟩
  refine List.forall_mem_cons.mpr ⟨s_add C dL_law_293, ?_⟩
  refine List.forall_mem_cons.mpr ⟨s_sld C hs dL_law_294, ?_⟩
  refine List.forall_mem_cons.mpr ⟨s_aldn C dL_law_295 rfl, ?_⟩
  refine List.forall_mem_cons.mpr ⟨s_ildn C dL_law_296 rfl, ?_⟩
  refine List.forall_mem_cons.mpr ⟨s_ic C dL_law_297 (by decide), ?_⟩
  refine List.forall_mem_cons.mpr ⟨s_add C dL_law_298, ?_⟩
  refine List.forall_mem_cons.mpr ⟨s_sld C hs dL_law_299, ?_⟩
  refine List.forall_mem_cons.mpr ⟨s_aldn C dL_law_300 rfl, ?_⟩
  refine List.forall_mem_cons.mpr ⟨s_ildn C dL_law_301 rfl, ?_⟩
  refine List.forall_mem_cons.mpr ⟨s_ic C dL_law_302 (by decide), ?_⟩
  refine List.forall_mem_cons.mpr ⟨s_add C dL_law_303, ?_⟩
  refine List.forall_mem_cons.mpr ⟨s_sld C hs dL_law_304, ?_⟩
  refine List.forall_mem_cons.mpr ⟨s_aldn C dL_law_305 rfl, ?_⟩
  refine List.forall_mem_cons.mpr ⟨s_ildn C dL_law_306 rfl, ?_⟩
  refine List.forall_mem_cons.mpr ⟨s_ic C dL_law_307 (by decide), ?_⟩
  refine List.forall_mem_cons.mpr ⟨s_add C dL_law_308, ?_⟩
  refine List.forall_mem_cons.mpr ⟨s_sld C hs dL_law_309, ?_⟩
  refine List.forall_mem_cons.mpr ⟨s_aldn C dL_law_310 rfl, ?_⟩
  refine List.forall_mem_cons.mpr ⟨s_ildn C dL_law_311 rfl, ?_⟩
  refine List.forall_mem_cons.mpr ⟨s_ic C dL_law_312 (by decide), ?_⟩
  refine List.forall_mem_cons.mpr ⟨s_add C dL_law_313, ?_⟩
  refine List.forall_mem_cons.mpr ⟨s_sld C hs dL_law_314, ?_⟩
  refine List.forall_mem_cons.mpr ⟨s_callV (rm := (a_rm 5 0 0)) (n := 5) C Y (ci := 3) rfl con_X3_weave rc_X3_weave co_X3_weave ml_L_36 im_X3_weave se_X3_weave ii_X3 (by decide +kernel) ⟨by decide, by decide⟩ ⟨rfl, rfl⟩ dL_law_315, ?_⟩
  refine List.forall_mem_cons.mpr ⟨s_icmp_eq C dL_law_318 (by decide), ?_⟩
  refine List.forall_mem_cons.mpr ⟨s_ic C dL_law_321 (by decide), ?_⟩
  refine List.forall_mem_cons.mpr ⟨s_lret C hq dL_law_322, ?_⟩
  refine List.forall_mem_cons.mpr ⟨s_aldn C dL_law_323 rfl, ?_⟩
  refine List.forall_mem_cons.mpr ⟨s_aldn C dL_law_324 rfl, ?_⟩
  refine List.forall_mem_cons.mpr ⟨s_ildn C dL_law_325 rfl, ?_⟩
  refine List.forall_mem_cons.mpr ⟨s_ic C dL_law_326 (by decide), ?_⟩
  refine List.forall_mem_cons.mpr ⟨s_add C dL_law_327, ?_⟩
  refine List.forall_mem_cons.mpr ⟨s_sld C hs dL_law_328, ?_⟩
  refine List.forall_mem_cons.mpr ⟨s_callV (rm := (a_rm 2 0 0)) (n := 1) C Y (ci := 2) rfl con_X2_cloth rc_X2_cloth co_X2_cloth ml_L_37 im_X2_cloth se_X2_cloth ii_X2 (by decide +kernel) ⟨by decide, by decide⟩ ⟨rfl, rfl⟩ dL_law_329, ?_⟩
  refine List.forall_mem_cons.mpr ⟨s_aldn C dL_law_332 rfl, ?_⟩
  refine List.forall_mem_cons.mpr ⟨s_aldn C dL_law_333 rfl, ?_⟩
  refine List.forall_mem_cons.mpr ⟨s_ildn C dL_law_334 rfl, ?_⟩
  refine List.forall_mem_cons.mpr ⟨s_ic C dL_law_335 (by decide), ?_⟩
  refine List.forall_mem_cons.mpr ⟨s_add C dL_law_336, ?_⟩
  refine List.forall_mem_cons.mpr ⟨s_sld C hs dL_law_337, ?_⟩
  refine List.forall_mem_cons.mpr ⟨s_callV (rm := (a_rm 2 0 0)) (n := 1) C Y (ci := 3) rfl con_X3_cloth rc_X3_cloth co_X3_cloth ml_L_41 im_X3_cloth se_X3_cloth ii_X3 (by decide +kernel) ⟨by decide, by decide⟩ ⟨rfl, rfl⟩ dL_law_338, ?_⟩
  refine List.forall_mem_cons.mpr ⟨s_icmp_eq C dL_law_341 (by decide), ?_⟩
  refine List.forall_mem_cons.mpr ⟨s_ic C dL_law_344 (by decide), ?_⟩
  refine List.forall_mem_cons.mpr ⟨s_lret C hq dL_law_345, ?_⟩
  refine List.forall_mem_cons.mpr ⟨s_aldn C dL_law_346 rfl, ?_⟩
  refine List.forall_mem_cons.mpr ⟨s_callV (rm := (a_rm 2 0 0)) (n := 0) C Y (ci := 2) rfl con_X2_changes rc_X2_changes co_X2_changes ml_L_42 im_X2_changes se_X2_changes ii_X2 (by decide +kernel) ⟨by decide, by decide⟩ ⟨rfl, rfl⟩ dL_law_347, ?_⟩
  refine List.forall_mem_cons.mpr ⟨s_aldn C dL_law_350 rfl, ?_⟩
  refine List.forall_mem_cons.mpr ⟨s_callV (rm := (a_rm 1 0 0)) (n := 0) C Y (ci := 3) rfl con_X3_changes rc_X3_changes co_X3_changes ml_L_46 im_X3_changes se_X3_changes ii_X3 (by decide +kernel) ⟨by decide, by decide⟩ ⟨rfl, rfl⟩ dL_law_351, ?_⟩
  refine List.forall_mem_cons.mpr ⟨s_icmp_eq C dL_law_354 (by decide), ?_⟩
  refine List.forall_mem_cons.mpr ⟨s_ic C dL_law_357 (by decide), ?_⟩
  refine List.forall_mem_cons.mpr ⟨s_lret C hq dL_law_358, ?_⟩
  refine List.forall_mem_cons.mpr ⟨s_aldn C dL_law_359 rfl, ?_⟩
  refine List.forall_mem_cons.mpr ⟨s_callV (rm := (a_rm 3 0 0)) (n := 0) C Y (ci := 2) rfl con_X2_most rc_X2_most co_X2_most ml_L_47 im_X2_most se_X2_most ii_X2 (by decide +kernel) ⟨by decide, by decide⟩ ⟨rfl, rfl⟩ dL_law_360, ?_⟩
  refine List.forall_mem_cons.mpr ⟨s_aldn C dL_law_363 rfl, ?_⟩
  refine List.forall_mem_cons.mpr ⟨s_callV (rm := (a_rm 2 0 0)) (n := 0) C Y (ci := 3) rfl con_X3_most rc_X3_most co_X3_most ml_L_50 im_X3_most se_X3_most ii_X3 (by decide +kernel) ⟨by decide, by decide⟩ ⟨rfl, rfl⟩ dL_law_364, ?_⟩
  refine List.forall_mem_cons.mpr ⟨s_icmp_eq C dL_law_367 (by decide), ?_⟩
  refine List.forall_mem_cons.mpr ⟨s_ic C dL_law_370 (by decide), ?_⟩
  refine List.forall_mem_cons.mpr ⟨s_lret C hq dL_law_371, ?_⟩
  refine List.forall_mem_cons.mpr ⟨s_aldn C dL_law_372 rfl, ?_⟩
  refine List.forall_mem_cons.mpr ⟨s_callV (rm := (a_rm 1 0 0)) (n := 0) C Y (ci := 2) rfl con_X2_why rc_X2_why co_X2_why ml_L_51 im_X2_why se_X2_why ii_X2 (by decide +kernel) ⟨by decide, by decide⟩ ⟨rfl, rfl⟩ dL_law_373, ?_⟩
  refine List.forall_mem_cons.mpr ⟨s_aldn C dL_law_376 rfl, ?_⟩
  refine List.forall_mem_cons.mpr ⟨s_callV (rm := (a_rm 1 0 0)) (n := 0) C Y (ci := 3) rfl con_X3_why rc_X3_why co_X3_why ml_L_54 im_X3_why se_X3_why ii_X3 (by decide +kernel) ⟨by decide, by decide⟩ ⟨rfl, rfl⟩ dL_law_377, ?_⟩
  refine List.forall_mem_cons.mpr ⟨s_icmp_eq C dL_law_380 (by decide), ?_⟩
  refine List.forall_mem_cons.mpr ⟨s_ic C dL_law_383 (by decide), ?_⟩
  refine List.forall_mem_cons.mpr ⟨s_lret C hq dL_law_384, ?_⟩
  refine List.forall_mem_cons.mpr ⟨s_aldn C dL_law_385 rfl, ?_⟩
  refine List.forall_mem_cons.mpr ⟨s_aldn C dL_law_386 rfl, ?_⟩
  refine List.forall_mem_cons.mpr ⟨s_ildn C dL_law_387 rfl, ?_⟩
  refine List.forall_mem_cons.mpr ⟨s_ic C dL_law_388 (by decide), ?_⟩
  refine List.forall_mem_cons.mpr ⟨s_add C dL_law_389, ?_⟩
  refine List.forall_mem_cons.mpr ⟨s_sld C hs dL_law_390, ?_⟩
  refine List.forall_mem_cons.mpr ⟨s_callV (rm := (a_rm 1 0 0)) (n := 1) C Y (ci := 2) rfl con_X2_count rc_X2_count co_X2_count ml_L_55 im_X2_count se_X2_count ii_X2 (by decide +kernel) ⟨by decide, by decide⟩ ⟨rfl, rfl⟩ dL_law_391, ?_⟩
  refine List.forall_mem_cons.mpr ⟨s_aldn C dL_law_394 rfl, ?_⟩
  refine List.forall_mem_cons.mpr ⟨s_aldn C dL_law_395 rfl, ?_⟩
  refine List.forall_mem_cons.mpr ⟨s_ildn C dL_law_396 rfl, ?_⟩
  refine List.forall_mem_cons.mpr ⟨s_ic C dL_law_397 (by decide), ?_⟩
  refine List.forall_mem_cons.mpr ⟨s_add C dL_law_398, ?_⟩
  refine List.forall_mem_cons.mpr ⟨s_sld C hs dL_law_399, ?_⟩
  refine List.forall_mem_cons.mpr ⟨s_callV (rm := (a_rm 1 0 0)) (n := 1) C Y (ci := 3) rfl con_X3_count rc_X3_count co_X3_count ml_L_58 im_X3_count se_X3_count ii_X3 (by decide +kernel) ⟨by decide, by decide⟩ ⟨rfl, rfl⟩ dL_law_400, ?_⟩
  refine List.forall_mem_cons.mpr ⟨s_icmp_eq C dL_law_403 (by decide), ?_⟩
  refine List.forall_mem_cons.mpr ⟨s_ic C dL_law_406 (by decide), ?_⟩
  refine List.forall_mem_cons.mpr ⟨s_lret C hq dL_law_407, ?_⟩
  refine List.forall_mem_cons.mpr ⟨s_iinc C dL_law_408 (by decide), ?_⟩
  refine List.forall_mem_cons.mpr ⟨s_goto C dL_law_411 (by decide), ?_⟩
  refine List.forall_mem_cons.mpr ⟨s_ic C dL_law_414 (by decide), ?_⟩
  refine List.forall_mem_cons.mpr ⟨s_lret C hq dL_law_415, ?_⟩
  exact fun _ h => absurd h List.not_mem_nil

