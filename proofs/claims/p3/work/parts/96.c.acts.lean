/-! saved states of the class: what holds of the last of them, remember, takeBack; written by wip/p3/gen_acts.py -/
noncomputable def jc_envD (E E' : jc_E) : Bool := ja_ch2 (fun a (d' : jc_Dd) => match ja_n2 E.1 a with
  | some d => decide (d.1 = d'.1) && (List.range d.1.2.2).all (fun i => match jc_sg d'.2 i with
    | some T' => (match jc_sg d.2 i with
      | some T => decide (T.1 = T'.1)
      | none => false)
    | none => true)
  | none => false) E'.1
/-- the same heap by other tables -/
theorem jc_g.env {E E' : jc_E} {X X' : J_H → Prop} {r : jc_R} {t t' : jc_T} {A : jc_A} {h : J_H} {O' : List Nat} (hD : jc_envD E E' = true) (hg : jc_g E X r t A h) (hF : ∀ f m, ja_n2 E'.2.1 f = some m → jc_off O' m.1 = false → t' f ∈ m.2.2.1 ∧ jc_in h m.2.1 (t' f)) (hP : ∀ p, ja_n2 E'.2.2.1 p = none) (hX : X' h) : jc_g E' X' r t' (A.1, A.2.1, A.2.2.1, [], [], O') h := by
  refine ⟨hg.1, fun a d' hd' => ?_, fun f m hm ho => ?_, fun p m hm ho => (by rw [hP p] at hm; cases hm), hX⟩
  · have hc := ja_ch2_ok (p := fun a (d' : jc_Dd) => match ja_n2 E.1 a with
      | some d => decide (d.1 = d'.1) && (List.range d.1.2.2).all (fun i => match jc_sg d'.2 i with
        | some T' => (match jc_sg d.2 i with
          | some T => decide (T.1 = T'.1)
          | none => false)
        | none => true)
      | none => false) hD hd'
    split at hc
    · rename_i d hd
      obtain ⟨k1, k2⟩ := Bool.and_eq_true_iff.mp hc
      obtain ⟨c, c1, c2, c3⟩ := hg.2.1 a d hd
      refine ⟨c, c1, c2.trans (of_decide_eq_true k1), fun i v hv => ?_⟩
      have h1 := c3 i v hv
      unfold jc_cl at h1 ⊢
      dsimp only
      split at h1
      · exact h1
      · intro T' hT'
        have hi : i < d.1.2.2 := by
          have := jc_get_lt hv
          rw [c2] at this
          exact this
        have k3 := List.all_eq_true.mp k2 i (List.mem_range.mpr hi)
        rw [hT'] at k3
        dsimp only at k3
        split at k3
        · rename_i T hT
          rw [← of_decide_eq_true k3]
          exact h1 T hT
        · cases k3
    · cases hc
  · have := hF f m hm ho
    unfold jc_fm
    exact this
set_option maxRecDepth 1000000 in
theorem jxs_D1 : jc_envD jxa jxs = true := by decide +kernel
set_option maxRecDepth 1000000 in
theorem jxs_D2 : jc_envD jxs jxa = true := by decide +kernel
theorem jxs_sub1 : ja_ch2 (fun f (m' : jc_Fa) => !(Nat.ble m'.1 7) || (match ja_n2 jxa.2.1 f with
  | some m => decide (m = m')
  | none => false)) jxs.2.1 = true := by decide +kernel
theorem jxs_sub2 : ja_ch2 (fun f (m' : jc_Fa) => Nat.ble m'.1 7 && (match ja_n2 jxs.2.1 f with
  | some m => decide (m = m')
  | none => false)) jxa.2.1 = true := by decide +kernel
theorem jxs_f1 {f : Nat} {m : jc_Fa} (hm : ja_n2 jxs.2.1 f = some m) (h7 : m.1 ≤ 7) : ja_n2 jxa.2.1 f = some m := by
  have := ja_ch2_ok (p := fun f (m' : jc_Fa) => !(Nat.ble m'.1 7) || (match ja_n2 jxa.2.1 f with
    | some m => decide (m = m')
    | none => false)) jxs_sub1 hm
  rw [Nat.ble_eq_true_of_le h7] at this
  split at this
  · rename_i m2 hm2
    rw [hm2, of_decide_eq_true this]
  · cases this
theorem jxs_f2 {f : Nat} {m : jc_Fa} (hm : ja_n2 jxa.2.1 f = some m) : ja_n2 jxs.2.1 f = some m ∧ m.1 ≤ 7 := by
  have := ja_ch2_ok (p := fun f (m' : jc_Fa) => Nat.ble m'.1 7 && (match ja_n2 jxs.2.1 f with
    | some m => decide (m = m')
    | none => false)) jxs_sub2 hm
  obtain ⟨h1, h2⟩ := Bool.and_eq_true_iff.mp this
  refine ⟨?_, Nat.le_of_ble_eq_true h1⟩
  split at h2
  · rename_i m2 hm2
    rw [hm2, of_decide_eq_true h2]
  · cases h2
theorem jxa_noP (p : Nat) : ja_n2 jxa.2.2.1 p = none := rfl
theorem jxs_Xo : jc_Xo jxs (fun _ => True) := fun _ _ _ _ => trivial
noncomputable def jxs_len (a : Nat) : Nat := match ja_n2 jxs.1 a with
  | some d => d.1.2.2
  | none => 0
theorem jxs_len_ok {a i : Nat} (h : Nat.ble (i + 1) (jxs_len a) = true) : ∃ d, ja_n2 jxs.1 a = some d ∧ i < d.1.2.2 := by
  have h := Nat.le_of_ble_eq_true h
  unfold jxs_len at h
  split at h
  · rename_i d hd
    exact ⟨d, hd, h⟩
  · exact absurd h (Nat.not_succ_le_zero _)
def jxs_all : List Nat := [0, 1, 2, 3, 4, 5, 6, 7, 30, 31, 32, 33, 34, 35, 36, 37, 38, 39, 40, 41, 42, 43, 44, 45, 46, 47, 48, 49]
theorem jxs_tags : ja_ch2 (fun _ (m : jc_Fa) => jc_inl m.1 jxs_all) jxs.2.1 = true := by decide +kernel
theorem jxs_atA {X : J_H → Prop} {r : jc_R} {t : jc_T} {A : jc_A} {h : J_H} {s : jc_v} (hg : jc_g jxa X r t A h) (hs : jc_lk A.2.2.1 (jc_key 29 2) = some s) : ∃ v, jc_at h 29 2 = some v ∧ jc_val r A.1 s v := by
  have hb : (match ja_n2 jxa.1 29 with
    | some d => Nat.ble 3 d.1.2.2
    | none => false) = true := by decide +kernel
  split at hb
  · rename_i d hd
    exact hg.atO hd (Nat.le_of_ble_eq_true hb) hs
  · cases hb
theorem jxs_noP (p : Nat) : ja_n2 jxs.2.2.1 p = none := rfl
/-- the saved states that count: c of them, the next to be written is n -/
def jxs_S (n c : Nat) : List Nat := (List.range c).map fun k => (n + 9 - k) % 10
/-- states: what cells hold, which tags are off (the one of now is on) -/
abbrev jxs_Tb : Type := jc_t2 (List (Nat × jc_v) × List Nat)
abbrev jxs_st (O : List (Nat × jc_v)) (F : List Nat) : jc_A := (1, [], O, [], [], F)
def jxs_W0 : jc_W := [(31, 0, 19), (32, 0, 5), (33, 0, 5), (34, 0, 5), (35, 0, 5), (36, 0, 5), (37, 0, 5), (38, 0, 5), (39, 0, 6), (40, 0, 6), (41, 0, 35), (42, 0, 35), (43, 0, 12), (45, 0, 5), (46, 0, 5), (48, 0, 25), (49, 0, 25), (50, 0, 25), (51, 0, 7), (52, 0, 5), (53, 0, 6), (54, 0, 30), (55, 0, 260), (44, 0, 3), (47, 0, 10), (56, 0, 19), (57, 0, 5), (58, 0, 5), (59, 0, 5), (60, 0, 5), (61, 0, 5), (62, 0, 5), (63, 0, 5), (64, 0, 6), (65, 0, 6), (66, 0, 35), (67, 0, 35), (68, 0, 12), (70, 0, 5), (71, 0, 5), (73, 0, 25), (74, 0, 25), (75, 0, 25), (76, 0, 7), (77, 0, 5), (78, 0, 6), (79, 0, 30), (80, 0, 260), (69, 0, 3), (72, 0, 10), (81, 0, 19), (82, 0, 5), (83, 0, 5), (84, 0, 5), (85, 0, 5), (86, 0, 5), (87, 0, 5), (88, 0, 5), (89, 0, 6), (90, 0, 6), (91, 0, 35), (92, 0, 35), (93, 0, 12), (95, 0, 5), (96, 0, 5), (98, 0, 25), (99, 0, 25), (100, 0, 25), (101, 0, 7), (102, 0, 5), (103, 0, 6), (104, 0, 30), (105, 0, 260), (94, 0, 3), (97, 0, 10), (106, 0, 19), (107, 0, 5), (108, 0, 5), (109, 0, 5), (110, 0, 5), (111, 0, 5), (112, 0, 5), (113, 0, 5), (114, 0, 6), (115, 0, 6), (116, 0, 35), (117, 0, 35), (118, 0, 12), (120, 0, 5), (121, 0, 5), (123, 0, 25), (124, 0, 25), (125, 0, 25), (126, 0, 7), (127, 0, 5), (128, 0, 6), (129, 0, 30), (130, 0, 260), (119, 0, 3), (122, 0, 10), (131, 0, 19), (132, 0, 5), (133, 0, 5), (134, 0, 5), (135, 0, 5), (136, 0, 5), (137, 0, 5), (138, 0, 5), (139, 0, 6), (140, 0, 6), (141, 0, 35), (142, 0, 35), (143, 0, 12), (145, 0, 5), (146, 0, 5), (148, 0, 25), (149, 0, 25), (150, 0, 25), (151, 0, 7), (152, 0, 5), (153, 0, 6), (154, 0, 30), (155, 0, 260), (144, 0, 3), (147, 0, 10), (156, 0, 19), (157, 0, 5), (158, 0, 5), (159, 0, 5), (160, 0, 5), (161, 0, 5), (162, 0, 5), (163, 0, 5), (164, 0, 6), (165, 0, 6), (166, 0, 35), (167, 0, 35), (168, 0, 12), (170, 0, 5), (171, 0, 5), (173, 0, 25), (174, 0, 25), (175, 0, 25), (176, 0, 7), (177, 0, 5), (178, 0, 6), (179, 0, 30), (180, 0, 260), (169, 0, 3), (172, 0, 10), (181, 0, 19), (182, 0, 5), (183, 0, 5), (184, 0, 5), (185, 0, 5), (186, 0, 5), (187, 0, 5), (188, 0, 5), (189, 0, 6), (190, 0, 6), (191, 0, 35), (192, 0, 35), (193, 0, 12), (195, 0, 5), (196, 0, 5), (198, 0, 25), (199, 0, 25), (200, 0, 25), (201, 0, 7), (202, 0, 5), (203, 0, 6), (204, 0, 30), (205, 0, 260), (194, 0, 3), (197, 0, 10), (206, 0, 19), (207, 0, 5), (208, 0, 5), (209, 0, 5), (210, 0, 5), (211, 0, 5), (212, 0, 5), (213, 0, 5), (214, 0, 6), (215, 0, 6), (216, 0, 35), (217, 0, 35), (218, 0, 12), (220, 0, 5), (221, 0, 5), (223, 0, 25), (224, 0, 25), (225, 0, 25), (226, 0, 7), (227, 0, 5), (228, 0, 6), (229, 0, 30), (230, 0, 260), (219, 0, 3), (222, 0, 10), (231, 0, 19), (232, 0, 5), (233, 0, 5), (234, 0, 5), (235, 0, 5), (236, 0, 5), (237, 0, 5), (238, 0, 5), (239, 0, 6), (240, 0, 6), (241, 0, 35), (242, 0, 35), (243, 0, 12), (245, 0, 5), (246, 0, 5), (248, 0, 25), (249, 0, 25), (250, 0, 25), (251, 0, 7), (252, 0, 5), (253, 0, 6), (254, 0, 30), (255, 0, 260), (244, 0, 3), (247, 0, 10), (256, 0, 19), (257, 0, 5), (258, 0, 5), (259, 0, 5), (260, 0, 5), (261, 0, 5), (262, 0, 5), (263, 0, 5), (264, 0, 6), (265, 0, 6), (266, 0, 35), (267, 0, 35), (268, 0, 12), (270, 0, 5), (271, 0, 5), (273, 0, 25), (274, 0, 25), (275, 0, 25), (276, 0, 7), (277, 0, 5), (278, 0, 6), (279, 0, 30), (280, 0, 260), (269, 0, 3), (272, 0, 10), (29, 1, 3)]
def jxs_W1 : jc_W := [(29, 1, 3), (4, 1, 4), (5, 0, 5), (6, 0, 5), (7, 0, 5), (8, 0, 5), (9, 0, 5), (10, 0, 5), (11, 0, 5), (12, 0, 6), (13, 0, 6), (14, 0, 35), (15, 0, 35), (16, 0, 12), (4, 15, 16), (17, 1, 2), (18, 0, 5), (19, 0, 5), (21, 0, 25), (22, 0, 25), (23, 0, 25), (24, 0, 7), (25, 0, 5), (26, 0, 6), (27, 0, 30), (28, 0, 260), (20, 8, 9), (4, 0, 1)]
def jxs_l (x n c : Nat) : List ((Nat × Nat) × jc_v) := (jxs_S n c).map (fun i => ((31 + 25 * i, 0), .inr (some (some x)))) ++ [((29, 1), .inl (0, (n : Int))), ((29, 2), .inl (0, (c : Int)))]
def jxs_X (tg x : Nat) (h : J_H) : Prop := ∃ n c : Nat, n < 10 ∧ c < 11 ∧ (∃ y : Int32, jc_at h 29 1 = some (.int y) ∧ y.toInt = (n : Int)) ∧ (∃ y : Int32, jc_at h 29 2 = some (.int y) ∧ y.toInt = (c : Int)) ∧ (∀ i ∈ jxs_S n c, jc_at h (31 + 25 * i) 0 = some (.ref x)) ∧ ∃ t : jc_T, ∀ f m, ja_n2 jxs.2.1 f = some m → (∃ i ∈ jxs_S n c, m.1 = tg + i) → t f ∈ m.2.2.1 ∧ jc_in h m.2.1 (t f)
theorem jxs_S_lt {n c i : Nat} (h : i ∈ jxs_S n c) : i < 10 := by
  obtain ⟨k, -, rfl⟩ := List.mem_map.mp h
  exact Nat.mod_lt _ (by decide)
theorem jxs_lay : (List.range 10).all (fun i => Nat.ble 1 (jxs_len (31 + 25 * i))) = true := by decide +kernel
theorem jxs_lay_ok {n c i : Nat} (h : i ∈ jxs_S n c) : ∃ d, ja_n2 jxs.1 (31 + 25 * i) = some d ∧ 0 < d.1.2.2 := jxs_len_ok (List.all_eq_true.mp jxs_lay i (List.mem_range.mpr (jxs_S_lt h)))
def jxs_rm (O O' : List (Nat × jc_v)) (F F' : List Nat) : jc_Cn := (2, 2, [.inr (some (some 29)), .inr (some (some 4))], jxs_st O F, jxs_W0, [(jxs_st O' F', none)])
def jxs_tk (O O' : List (Nat × jc_v)) (F F' : List Nat) : jc_Cn := (3, 2, [.inr (some (some 29)), .inr (some (some 4))], jxs_st O F, jxs_W1, [(jxs_st O' F', none)])
noncomputable def jxs_rmb (T : jxs_Tb) (n c : Nat) : Bool := match ja_n2 T (11 * n + c), ja_n2 T (11 * ((n + 1) % 10) + min (c + 1) 10) with
  | some (O, F), some (O', F') => jc_mth (jxs, [], jT, [], jxa_SP, [], 0) 100000 (jxs_rm O O' F F')
  | _, _ => false
noncomputable def jxs_tkb (w : Nat) (T : jxs_Tb) (n c : Nat) : Bool := match ja_n2 T (11 * n + c), ja_n2 T (11 * ((n + 9) % 10) + (c - 1)) with
  | some (O, F), some (O', F') => jc_mth (jxs, [], jT, [], jxa_SP, [], 0) 100000 (jxs_tk O O' (w :: F) F')
  | _, _ => false
theorem jxs_rmb_ok {T : jxs_Tb} {n c : Nat} (h : jxs_rmb T n c = true) : ∃ O F O' F', ja_n2 T (11 * n + c) = some (O, F) ∧ ja_n2 T (11 * ((n + 1) % 10) + min (c + 1) 10) = some (O', F') ∧ jc_Con jP jxs (fun _ => True) (jxs_rm O O' F F') := by
  unfold jxs_rmb at h
  split at h
  · rename_i O F O' F' h1 h2
    exact ⟨O, F, O', F', h1, h2, jc_mth_ok (Z := (jxs, [], jT, [], jxa_SP, [], 0)) (f := 100000) jxs_ok jxs_Xo jT_ok jc_c0 h⟩
  · cases h
theorem jxs_tkb_ok {w : Nat} {T : jxs_Tb} {n c : Nat} (h : jxs_tkb w T n c = true) : ∃ O F O' F', ja_n2 T (11 * n + c) = some (O, F) ∧ ja_n2 T (11 * ((n + 9) % 10) + (c - 1)) = some (O', F') ∧ jc_Con jP jxs (fun _ => True) (jxs_tk O O' (w :: F) F') := by
  unfold jxs_tkb at h
  split at h
  · rename_i O F O' F' h1 h2
    exact ⟨O, F, O', F', h1, h2, jc_mth_ok (Z := (jxs, [], jT, [], jxa_SP, [], 0)) (f := 100000) jxs_ok jxs_Xo jT_ok jc_c0 h⟩
  · cases h
/-- for all pairs -/
def jxs_pr (p : Nat → Nat → Bool) : Bool := (List.range 10).all fun n => (List.range 11).all fun c => p n c
theorem jxs_pr_ok {p : Nat → Nat → Bool} (h : jxs_pr p = true) {n c : Nat} (hn : n < 10) (hc : c < 11) : p n c = true := List.all_eq_true.mp (List.all_eq_true.mp h n (List.mem_range.mpr hn)) c (List.mem_range.mpr hc)
theorem jxs_refs {r r' : jc_R} {n n' a b : Nat} {As : List Value} (h : jc_st r n [.inr (some (some a)), .inr (some (some b))] As) : jc_st r' n' [.inr (some (some a)), .inr (some (some b))] As := by
  obtain ⟨v, st, rfl, h1, h2⟩ := jc_st_cons h
  obtain ⟨v2, st2, rfl, h3, h4⟩ := jc_st_cons h2
  exact ⟨h1, h3, h4⟩
theorem jxs_an {r r' : jc_R} {n n' : Nat} {rv : Option Value} (h : jc_an r n none rv) : jc_an r' n' none rv := by
  cases rv with
  | none => trivial
  | some v => exact h.elim

-- ---- world A
def jxsA_T : jxs_Tb := [some [some (([(6, .inr (some (some 327))), (7, .inr (some (some 343))), (32768, .inr (some (some 327))), (237569, .inl (0, .ofNat 0)), (237570, .inl (0, .ofNat 0))], [2, 3, 4, 5, 6, 7, 30, 31, 32, 33, 34, 35, 36, 37, 38, 39, 40, 41, 42, 43, 44, 45, 46, 47, 48, 49])), some (([(6, .inr (some (some 327))), (7, .inr (some (some 343))), (32768, .inr (some (some 327))), (237569, .inl (0, .ofNat 0)), (237570, .inl (0, .ofNat 1)), (2097152, .inr (some (some 327)))], [2, 3, 4, 5, 6, 7, 30, 31, 32, 33, 34, 35, 36, 37, 38, 40, 41, 42, 43, 44, 45, 46, 47, 48, 49])), some (([(6, .inr (some (some 327))), (7, .inr (some (some 343))), (32768, .inr (some (some 327))), (237569, .inl (0, .ofNat 0)), (237570, .inl (0, .ofNat 2)), (1892352, .inr (some (some 327))), (2097152, .inr (some (some 327)))], [2, 3, 4, 5, 6, 7, 30, 31, 32, 33, 34, 35, 36, 37, 40, 41, 42, 43, 44, 45, 46, 47, 48, 49])), some (([(6, .inr (some (some 327))), (7, .inr (some (some 343))), (32768, .inr (some (some 327))), (237569, .inl (0, .ofNat 0)), (237570, .inl (0, .ofNat 3)), (1687552, .inr (some (some 327))), (1892352, .inr (some (some 327))), (2097152, .inr (some (some 327)))], [2, 3, 4, 5, 6, 7, 30, 31, 32, 33, 34, 35, 36, 40, 41, 42, 43, 44, 45, 46, 47, 48, 49])), some (([(6, .inr (some (some 327))), (7, .inr (some (some 343))), (32768, .inr (some (some 327))), (237569, .inl (0, .ofNat 0)), (237570, .inl (0, .ofNat 4)), (1482752, .inr (some (some 327))), (1687552, .inr (some (some 327))), (1892352, .inr (some (some 327))), (2097152, .inr (some (some 327)))], [2, 3, 4, 5, 6, 7, 30, 31, 32, 33, 34, 35, 40, 41, 42, 43, 44, 45, 46, 47, 48, 49])), some (([(6, .inr (some (some 327))), (7, .inr (some (some 343))), (32768, .inr (some (some 327))), (237569, .inl (0, .ofNat 0)), (237570, .inl (0, .ofNat 5)), (1277952, .inr (some (some 327))), (1482752, .inr (some (some 327))), (1687552, .inr (some (some 327))), (1892352, .inr (some (some 327))), (2097152, .inr (some (some 327)))], [2, 3, 4, 5, 6, 7, 30, 31, 32, 33, 34, 40, 41, 42, 43, 44, 45, 46, 47, 48, 49])), some (([(6, .inr (some (some 327))), (7, .inr (some (some 343))), (32768, .inr (some (some 327))), (237569, .inl (0, .ofNat 0)), (237570, .inl (0, .ofNat 6)), (1073152, .inr (some (some 327))), (1277952, .inr (some (some 327))), (1482752, .inr (some (some 327))), (1687552, .inr (some (some 327))), (1892352, .inr (some (some 327))), (2097152, .inr (some (some 327)))], [2, 3, 4, 5, 6, 7, 30, 31, 32, 33, 40, 41, 42, 43, 44, 45, 46, 47, 48, 49])), some (([(6, .inr (some (some 327))), (7, .inr (some (some 343))), (32768, .inr (some (some 327))), (237569, .inl (0, .ofNat 0)), (237570, .inl (0, .ofNat 7)), (868352, .inr (some (some 327))), (1073152, .inr (some (some 327))), (1277952, .inr (some (some 327))), (1482752, .inr (some (some 327))), (1687552, .inr (some (some 327))), (1892352, .inr (some (some 327))), (2097152, .inr (some (some 327)))], [2, 3, 4, 5, 6, 7, 30, 31, 32, 40, 41, 42, 43, 44, 45, 46, 47, 48, 49])), some (([(6, .inr (some (some 327))), (7, .inr (some (some 343))), (32768, .inr (some (some 327))), (237569, .inl (0, .ofNat 0)), (237570, .inl (0, .ofNat 8)), (663552, .inr (some (some 327))), (868352, .inr (some (some 327))), (1073152, .inr (some (some 327))), (1277952, .inr (some (some 327))), (1482752, .inr (some (some 327))), (1687552, .inr (some (some 327))), (1892352, .inr (some (some 327))), (2097152, .inr (some (some 327)))], [2, 3, 4, 5, 6, 7, 30, 31, 40, 41, 42, 43, 44, 45, 46, 47, 48, 49])), some (([(6, .inr (some (some 327))), (7, .inr (some (some 343))), (32768, .inr (some (some 327))), (237569, .inl (0, .ofNat 0)), (237570, .inl (0, .ofNat 9)), (458752, .inr (some (some 327))), (663552, .inr (some (some 327))), (868352, .inr (some (some 327))), (1073152, .inr (some (some 327))), (1277952, .inr (some (some 327))), (1482752, .inr (some (some 327))), (1687552, .inr (some (some 327))), (1892352, .inr (some (some 327))), (2097152, .inr (some (some 327)))], [2, 3, 4, 5, 6, 7, 30, 40, 41, 42, 43, 44, 45, 46, 47, 48, 49])), some (([(6, .inr (some (some 327))), (7, .inr (some (some 343))), (32768, .inr (some (some 327))), (237569, .inl (0, .ofNat 0)), (237570, .inl (0, .ofNat 10)), (253952, .inr (some (some 327))), (458752, .inr (some (some 327))), (663552, .inr (some (some 327))), (868352, .inr (some (some 327))), (1073152, .inr (some (some 327))), (1277952, .inr (some (some 327))), (1482752, .inr (some (some 327))), (1687552, .inr (some (some 327))), (1892352, .inr (some (some 327))), (2097152, .inr (some (some 327)))], [2, 3, 4, 5, 6, 7, 40, 41, 42, 43, 44, 45, 46, 47, 48, 49])), some (([(6, .inr (some (some 327))), (7, .inr (some (some 343))), (32768, .inr (some (some 327))), (237569, .inl (0, .ofNat 1)), (237570, .inl (0, .ofNat 0))], [2, 3, 4, 5, 6, 7, 30, 31, 32, 33, 34, 35, 36, 37, 38, 39, 40, 41, 42, 43, 44, 45, 46, 47, 48, 49])), some (([(6, .inr (some (some 327))), (7, .inr (some (some 343))), (32768, .inr (some (some 327))), (237569, .inl (0, .ofNat 1)), (237570, .inl (0, .ofNat 1)), (253952, .inr (some (some 327)))], [2, 3, 4, 5, 6, 7, 31, 32, 33, 34, 35, 36, 37, 38, 39, 40, 41, 42, 43, 44, 45, 46, 47, 48, 49])), some (([(6, .inr (some (some 327))), (7, .inr (some (some 343))), (32768, .inr (some (some 327))), (237569, .inl (0, .ofNat 1)), (237570, .inl (0, .ofNat 2)), (253952, .inr (some (some 327))), (2097152, .inr (some (some 327)))], [2, 3, 4, 5, 6, 7, 31, 32, 33, 34, 35, 36, 37, 38, 40, 41, 42, 43, 44, 45, 46, 47, 48, 49])), some (([(6, .inr (some (some 327))), (7, .inr (some (some 343))), (32768, .inr (some (some 327))), (237569, .inl (0, .ofNat 1)), (237570, .inl (0, .ofNat 3)), (253952, .inr (some (some 327))), (1892352, .inr (some (some 327))), (2097152, .inr (some (some 327)))], [2, 3, 4, 5, 6, 7, 31, 32, 33, 34, 35, 36, 37, 40, 41, 42, 43, 44, 45, 46, 47, 48, 49])), some (([(6, .inr (some (some 327))), (7, .inr (some (some 343))), (32768, .inr (some (some 327))), (237569, .inl (0, .ofNat 1)), (237570, .inl (0, .ofNat 4)), (253952, .inr (some (some 327))), (1687552, .inr (some (some 327))), (1892352, .inr (some (some 327))), (2097152, .inr (some (some 327)))], [2, 3, 4, 5, 6, 7, 31, 32, 33, 34, 35, 36, 40, 41, 42, 43, 44, 45, 46, 47, 48, 49]))],
  some [some (([(6, .inr (some (some 327))), (7, .inr (some (some 343))), (32768, .inr (some (some 327))), (237569, .inl (0, .ofNat 1)), (237570, .inl (0, .ofNat 5)), (253952, .inr (some (some 327))), (1482752, .inr (some (some 327))), (1687552, .inr (some (some 327))), (1892352, .inr (some (some 327))), (2097152, .inr (some (some 327)))], [2, 3, 4, 5, 6, 7, 31, 32, 33, 34, 35, 40, 41, 42, 43, 44, 45, 46, 47, 48, 49])), some (([(6, .inr (some (some 327))), (7, .inr (some (some 343))), (32768, .inr (some (some 327))), (237569, .inl (0, .ofNat 1)), (237570, .inl (0, .ofNat 6)), (253952, .inr (some (some 327))), (1277952, .inr (some (some 327))), (1482752, .inr (some (some 327))), (1687552, .inr (some (some 327))), (1892352, .inr (some (some 327))), (2097152, .inr (some (some 327)))], [2, 3, 4, 5, 6, 7, 31, 32, 33, 34, 40, 41, 42, 43, 44, 45, 46, 47, 48, 49])), some (([(6, .inr (some (some 327))), (7, .inr (some (some 343))), (32768, .inr (some (some 327))), (237569, .inl (0, .ofNat 1)), (237570, .inl (0, .ofNat 7)), (253952, .inr (some (some 327))), (1073152, .inr (some (some 327))), (1277952, .inr (some (some 327))), (1482752, .inr (some (some 327))), (1687552, .inr (some (some 327))), (1892352, .inr (some (some 327))), (2097152, .inr (some (some 327)))], [2, 3, 4, 5, 6, 7, 31, 32, 33, 40, 41, 42, 43, 44, 45, 46, 47, 48, 49])), some (([(6, .inr (some (some 327))), (7, .inr (some (some 343))), (32768, .inr (some (some 327))), (237569, .inl (0, .ofNat 1)), (237570, .inl (0, .ofNat 8)), (253952, .inr (some (some 327))), (868352, .inr (some (some 327))), (1073152, .inr (some (some 327))), (1277952, .inr (some (some 327))), (1482752, .inr (some (some 327))), (1687552, .inr (some (some 327))), (1892352, .inr (some (some 327))), (2097152, .inr (some (some 327)))], [2, 3, 4, 5, 6, 7, 31, 32, 40, 41, 42, 43, 44, 45, 46, 47, 48, 49])), some (([(6, .inr (some (some 327))), (7, .inr (some (some 343))), (32768, .inr (some (some 327))), (237569, .inl (0, .ofNat 1)), (237570, .inl (0, .ofNat 9)), (253952, .inr (some (some 327))), (663552, .inr (some (some 327))), (868352, .inr (some (some 327))), (1073152, .inr (some (some 327))), (1277952, .inr (some (some 327))), (1482752, .inr (some (some 327))), (1687552, .inr (some (some 327))), (1892352, .inr (some (some 327))), (2097152, .inr (some (some 327)))], [2, 3, 4, 5, 6, 7, 31, 40, 41, 42, 43, 44, 45, 46, 47, 48, 49])), some (([(6, .inr (some (some 327))), (7, .inr (some (some 343))), (32768, .inr (some (some 327))), (237569, .inl (0, .ofNat 1)), (237570, .inl (0, .ofNat 10)), (253952, .inr (some (some 327))), (458752, .inr (some (some 327))), (663552, .inr (some (some 327))), (868352, .inr (some (some 327))), (1073152, .inr (some (some 327))), (1277952, .inr (some (some 327))), (1482752, .inr (some (some 327))), (1687552, .inr (some (some 327))), (1892352, .inr (some (some 327))), (2097152, .inr (some (some 327)))], [2, 3, 4, 5, 6, 7, 40, 41, 42, 43, 44, 45, 46, 47, 48, 49])), some (([(6, .inr (some (some 327))), (7, .inr (some (some 343))), (32768, .inr (some (some 327))), (237569, .inl (0, .ofNat 2)), (237570, .inl (0, .ofNat 0))], [2, 3, 4, 5, 6, 7, 30, 31, 32, 33, 34, 35, 36, 37, 38, 39, 40, 41, 42, 43, 44, 45, 46, 47, 48, 49])), some (([(6, .inr (some (some 327))), (7, .inr (some (some 343))), (32768, .inr (some (some 327))), (237569, .inl (0, .ofNat 2)), (237570, .inl (0, .ofNat 1)), (458752, .inr (some (some 327)))], [2, 3, 4, 5, 6, 7, 30, 32, 33, 34, 35, 36, 37, 38, 39, 40, 41, 42, 43, 44, 45, 46, 47, 48, 49])), some (([(6, .inr (some (some 327))), (7, .inr (some (some 343))), (32768, .inr (some (some 327))), (237569, .inl (0, .ofNat 2)), (237570, .inl (0, .ofNat 2)), (253952, .inr (some (some 327))), (458752, .inr (some (some 327)))], [2, 3, 4, 5, 6, 7, 32, 33, 34, 35, 36, 37, 38, 39, 40, 41, 42, 43, 44, 45, 46, 47, 48, 49])), some (([(6, .inr (some (some 327))), (7, .inr (some (some 343))), (32768, .inr (some (some 327))), (237569, .inl (0, .ofNat 2)), (237570, .inl (0, .ofNat 3)), (253952, .inr (some (some 327))), (458752, .inr (some (some 327))), (2097152, .inr (some (some 327)))], [2, 3, 4, 5, 6, 7, 32, 33, 34, 35, 36, 37, 38, 40, 41, 42, 43, 44, 45, 46, 47, 48, 49])), some (([(6, .inr (some (some 327))), (7, .inr (some (some 343))), (32768, .inr (some (some 327))), (237569, .inl (0, .ofNat 2)), (237570, .inl (0, .ofNat 4)), (253952, .inr (some (some 327))), (458752, .inr (some (some 327))), (1892352, .inr (some (some 327))), (2097152, .inr (some (some 327)))], [2, 3, 4, 5, 6, 7, 32, 33, 34, 35, 36, 37, 40, 41, 42, 43, 44, 45, 46, 47, 48, 49])), some (([(6, .inr (some (some 327))), (7, .inr (some (some 343))), (32768, .inr (some (some 327))), (237569, .inl (0, .ofNat 2)), (237570, .inl (0, .ofNat 5)), (253952, .inr (some (some 327))), (458752, .inr (some (some 327))), (1687552, .inr (some (some 327))), (1892352, .inr (some (some 327))), (2097152, .inr (some (some 327)))], [2, 3, 4, 5, 6, 7, 32, 33, 34, 35, 36, 40, 41, 42, 43, 44, 45, 46, 47, 48, 49])), some (([(6, .inr (some (some 327))), (7, .inr (some (some 343))), (32768, .inr (some (some 327))), (237569, .inl (0, .ofNat 2)), (237570, .inl (0, .ofNat 6)), (253952, .inr (some (some 327))), (458752, .inr (some (some 327))), (1482752, .inr (some (some 327))), (1687552, .inr (some (some 327))), (1892352, .inr (some (some 327))), (2097152, .inr (some (some 327)))], [2, 3, 4, 5, 6, 7, 32, 33, 34, 35, 40, 41, 42, 43, 44, 45, 46, 47, 48, 49])), some (([(6, .inr (some (some 327))), (7, .inr (some (some 343))), (32768, .inr (some (some 327))), (237569, .inl (0, .ofNat 2)), (237570, .inl (0, .ofNat 7)), (253952, .inr (some (some 327))), (458752, .inr (some (some 327))), (1277952, .inr (some (some 327))), (1482752, .inr (some (some 327))), (1687552, .inr (some (some 327))), (1892352, .inr (some (some 327))), (2097152, .inr (some (some 327)))], [2, 3, 4, 5, 6, 7, 32, 33, 34, 40, 41, 42, 43, 44, 45, 46, 47, 48, 49])), some (([(6, .inr (some (some 327))), (7, .inr (some (some 343))), (32768, .inr (some (some 327))), (237569, .inl (0, .ofNat 2)), (237570, .inl (0, .ofNat 8)), (253952, .inr (some (some 327))), (458752, .inr (some (some 327))), (1073152, .inr (some (some 327))), (1277952, .inr (some (some 327))), (1482752, .inr (some (some 327))), (1687552, .inr (some (some 327))), (1892352, .inr (some (some 327))), (2097152, .inr (some (some 327)))], [2, 3, 4, 5, 6, 7, 32, 33, 40, 41, 42, 43, 44, 45, 46, 47, 48, 49])), some (([(6, .inr (some (some 327))), (7, .inr (some (some 343))), (32768, .inr (some (some 327))), (237569, .inl (0, .ofNat 2)), (237570, .inl (0, .ofNat 9)), (253952, .inr (some (some 327))), (458752, .inr (some (some 327))), (868352, .inr (some (some 327))), (1073152, .inr (some (some 327))), (1277952, .inr (some (some 327))), (1482752, .inr (some (some 327))), (1687552, .inr (some (some 327))), (1892352, .inr (some (some 327))), (2097152, .inr (some (some 327)))], [2, 3, 4, 5, 6, 7, 32, 40, 41, 42, 43, 44, 45, 46, 47, 48, 49]))],
  some [some (([(6, .inr (some (some 327))), (7, .inr (some (some 343))), (32768, .inr (some (some 327))), (237569, .inl (0, .ofNat 2)), (237570, .inl (0, .ofNat 10)), (253952, .inr (some (some 327))), (458752, .inr (some (some 327))), (663552, .inr (some (some 327))), (868352, .inr (some (some 327))), (1073152, .inr (some (some 327))), (1277952, .inr (some (some 327))), (1482752, .inr (some (some 327))), (1687552, .inr (some (some 327))), (1892352, .inr (some (some 327))), (2097152, .inr (some (some 327)))], [2, 3, 4, 5, 6, 7, 40, 41, 42, 43, 44, 45, 46, 47, 48, 49])), some (([(6, .inr (some (some 327))), (7, .inr (some (some 343))), (32768, .inr (some (some 327))), (237569, .inl (0, .ofNat 3)), (237570, .inl (0, .ofNat 0))], [2, 3, 4, 5, 6, 7, 30, 31, 32, 33, 34, 35, 36, 37, 38, 39, 40, 41, 42, 43, 44, 45, 46, 47, 48, 49])), some (([(6, .inr (some (some 327))), (7, .inr (some (some 343))), (32768, .inr (some (some 327))), (237569, .inl (0, .ofNat 3)), (237570, .inl (0, .ofNat 1)), (663552, .inr (some (some 327)))], [2, 3, 4, 5, 6, 7, 30, 31, 33, 34, 35, 36, 37, 38, 39, 40, 41, 42, 43, 44, 45, 46, 47, 48, 49])), some (([(6, .inr (some (some 327))), (7, .inr (some (some 343))), (32768, .inr (some (some 327))), (237569, .inl (0, .ofNat 3)), (237570, .inl (0, .ofNat 2)), (458752, .inr (some (some 327))), (663552, .inr (some (some 327)))], [2, 3, 4, 5, 6, 7, 30, 33, 34, 35, 36, 37, 38, 39, 40, 41, 42, 43, 44, 45, 46, 47, 48, 49])), some (([(6, .inr (some (some 327))), (7, .inr (some (some 343))), (32768, .inr (some (some 327))), (237569, .inl (0, .ofNat 3)), (237570, .inl (0, .ofNat 3)), (253952, .inr (some (some 327))), (458752, .inr (some (some 327))), (663552, .inr (some (some 327)))], [2, 3, 4, 5, 6, 7, 33, 34, 35, 36, 37, 38, 39, 40, 41, 42, 43, 44, 45, 46, 47, 48, 49])), some (([(6, .inr (some (some 327))), (7, .inr (some (some 343))), (32768, .inr (some (some 327))), (237569, .inl (0, .ofNat 3)), (237570, .inl (0, .ofNat 4)), (253952, .inr (some (some 327))), (458752, .inr (some (some 327))), (663552, .inr (some (some 327))), (2097152, .inr (some (some 327)))], [2, 3, 4, 5, 6, 7, 33, 34, 35, 36, 37, 38, 40, 41, 42, 43, 44, 45, 46, 47, 48, 49])), some (([(6, .inr (some (some 327))), (7, .inr (some (some 343))), (32768, .inr (some (some 327))), (237569, .inl (0, .ofNat 3)), (237570, .inl (0, .ofNat 5)), (253952, .inr (some (some 327))), (458752, .inr (some (some 327))), (663552, .inr (some (some 327))), (1892352, .inr (some (some 327))), (2097152, .inr (some (some 327)))], [2, 3, 4, 5, 6, 7, 33, 34, 35, 36, 37, 40, 41, 42, 43, 44, 45, 46, 47, 48, 49])), some (([(6, .inr (some (some 327))), (7, .inr (some (some 343))), (32768, .inr (some (some 327))), (237569, .inl (0, .ofNat 3)), (237570, .inl (0, .ofNat 6)), (253952, .inr (some (some 327))), (458752, .inr (some (some 327))), (663552, .inr (some (some 327))), (1687552, .inr (some (some 327))), (1892352, .inr (some (some 327))), (2097152, .inr (some (some 327)))], [2, 3, 4, 5, 6, 7, 33, 34, 35, 36, 40, 41, 42, 43, 44, 45, 46, 47, 48, 49])), some (([(6, .inr (some (some 327))), (7, .inr (some (some 343))), (32768, .inr (some (some 327))), (237569, .inl (0, .ofNat 3)), (237570, .inl (0, .ofNat 7)), (253952, .inr (some (some 327))), (458752, .inr (some (some 327))), (663552, .inr (some (some 327))), (1482752, .inr (some (some 327))), (1687552, .inr (some (some 327))), (1892352, .inr (some (some 327))), (2097152, .inr (some (some 327)))], [2, 3, 4, 5, 6, 7, 33, 34, 35, 40, 41, 42, 43, 44, 45, 46, 47, 48, 49])), some (([(6, .inr (some (some 327))), (7, .inr (some (some 343))), (32768, .inr (some (some 327))), (237569, .inl (0, .ofNat 3)), (237570, .inl (0, .ofNat 8)), (253952, .inr (some (some 327))), (458752, .inr (some (some 327))), (663552, .inr (some (some 327))), (1277952, .inr (some (some 327))), (1482752, .inr (some (some 327))), (1687552, .inr (some (some 327))), (1892352, .inr (some (some 327))), (2097152, .inr (some (some 327)))], [2, 3, 4, 5, 6, 7, 33, 34, 40, 41, 42, 43, 44, 45, 46, 47, 48, 49])), some (([(6, .inr (some (some 327))), (7, .inr (some (some 343))), (32768, .inr (some (some 327))), (237569, .inl (0, .ofNat 3)), (237570, .inl (0, .ofNat 9)), (253952, .inr (some (some 327))), (458752, .inr (some (some 327))), (663552, .inr (some (some 327))), (1073152, .inr (some (some 327))), (1277952, .inr (some (some 327))), (1482752, .inr (some (some 327))), (1687552, .inr (some (some 327))), (1892352, .inr (some (some 327))), (2097152, .inr (some (some 327)))], [2, 3, 4, 5, 6, 7, 33, 40, 41, 42, 43, 44, 45, 46, 47, 48, 49])), some (([(6, .inr (some (some 327))), (7, .inr (some (some 343))), (32768, .inr (some (some 327))), (237569, .inl (0, .ofNat 3)), (237570, .inl (0, .ofNat 10)), (253952, .inr (some (some 327))), (458752, .inr (some (some 327))), (663552, .inr (some (some 327))), (868352, .inr (some (some 327))), (1073152, .inr (some (some 327))), (1277952, .inr (some (some 327))), (1482752, .inr (some (some 327))), (1687552, .inr (some (some 327))), (1892352, .inr (some (some 327))), (2097152, .inr (some (some 327)))], [2, 3, 4, 5, 6, 7, 40, 41, 42, 43, 44, 45, 46, 47, 48, 49])), some (([(6, .inr (some (some 327))), (7, .inr (some (some 343))), (32768, .inr (some (some 327))), (237569, .inl (0, .ofNat 4)), (237570, .inl (0, .ofNat 0))], [2, 3, 4, 5, 6, 7, 30, 31, 32, 33, 34, 35, 36, 37, 38, 39, 40, 41, 42, 43, 44, 45, 46, 47, 48, 49])), some (([(6, .inr (some (some 327))), (7, .inr (some (some 343))), (32768, .inr (some (some 327))), (237569, .inl (0, .ofNat 4)), (237570, .inl (0, .ofNat 1)), (868352, .inr (some (some 327)))], [2, 3, 4, 5, 6, 7, 30, 31, 32, 34, 35, 36, 37, 38, 39, 40, 41, 42, 43, 44, 45, 46, 47, 48, 49])), some (([(6, .inr (some (some 327))), (7, .inr (some (some 343))), (32768, .inr (some (some 327))), (237569, .inl (0, .ofNat 4)), (237570, .inl (0, .ofNat 2)), (663552, .inr (some (some 327))), (868352, .inr (some (some 327)))], [2, 3, 4, 5, 6, 7, 30, 31, 34, 35, 36, 37, 38, 39, 40, 41, 42, 43, 44, 45, 46, 47, 48, 49])), some (([(6, .inr (some (some 327))), (7, .inr (some (some 343))), (32768, .inr (some (some 327))), (237569, .inl (0, .ofNat 4)), (237570, .inl (0, .ofNat 3)), (458752, .inr (some (some 327))), (663552, .inr (some (some 327))), (868352, .inr (some (some 327)))], [2, 3, 4, 5, 6, 7, 30, 34, 35, 36, 37, 38, 39, 40, 41, 42, 43, 44, 45, 46, 47, 48, 49]))],
  some [some (([(6, .inr (some (some 327))), (7, .inr (some (some 343))), (32768, .inr (some (some 327))), (237569, .inl (0, .ofNat 4)), (237570, .inl (0, .ofNat 4)), (253952, .inr (some (some 327))), (458752, .inr (some (some 327))), (663552, .inr (some (some 327))), (868352, .inr (some (some 327)))], [2, 3, 4, 5, 6, 7, 34, 35, 36, 37, 38, 39, 40, 41, 42, 43, 44, 45, 46, 47, 48, 49])), some (([(6, .inr (some (some 327))), (7, .inr (some (some 343))), (32768, .inr (some (some 327))), (237569, .inl (0, .ofNat 4)), (237570, .inl (0, .ofNat 5)), (253952, .inr (some (some 327))), (458752, .inr (some (some 327))), (663552, .inr (some (some 327))), (868352, .inr (some (some 327))), (2097152, .inr (some (some 327)))], [2, 3, 4, 5, 6, 7, 34, 35, 36, 37, 38, 40, 41, 42, 43, 44, 45, 46, 47, 48, 49])), some (([(6, .inr (some (some 327))), (7, .inr (some (some 343))), (32768, .inr (some (some 327))), (237569, .inl (0, .ofNat 4)), (237570, .inl (0, .ofNat 6)), (253952, .inr (some (some 327))), (458752, .inr (some (some 327))), (663552, .inr (some (some 327))), (868352, .inr (some (some 327))), (1892352, .inr (some (some 327))), (2097152, .inr (some (some 327)))], [2, 3, 4, 5, 6, 7, 34, 35, 36, 37, 40, 41, 42, 43, 44, 45, 46, 47, 48, 49])), some (([(6, .inr (some (some 327))), (7, .inr (some (some 343))), (32768, .inr (some (some 327))), (237569, .inl (0, .ofNat 4)), (237570, .inl (0, .ofNat 7)), (253952, .inr (some (some 327))), (458752, .inr (some (some 327))), (663552, .inr (some (some 327))), (868352, .inr (some (some 327))), (1687552, .inr (some (some 327))), (1892352, .inr (some (some 327))), (2097152, .inr (some (some 327)))], [2, 3, 4, 5, 6, 7, 34, 35, 36, 40, 41, 42, 43, 44, 45, 46, 47, 48, 49])), some (([(6, .inr (some (some 327))), (7, .inr (some (some 343))), (32768, .inr (some (some 327))), (237569, .inl (0, .ofNat 4)), (237570, .inl (0, .ofNat 8)), (253952, .inr (some (some 327))), (458752, .inr (some (some 327))), (663552, .inr (some (some 327))), (868352, .inr (some (some 327))), (1482752, .inr (some (some 327))), (1687552, .inr (some (some 327))), (1892352, .inr (some (some 327))), (2097152, .inr (some (some 327)))], [2, 3, 4, 5, 6, 7, 34, 35, 40, 41, 42, 43, 44, 45, 46, 47, 48, 49])), some (([(6, .inr (some (some 327))), (7, .inr (some (some 343))), (32768, .inr (some (some 327))), (237569, .inl (0, .ofNat 4)), (237570, .inl (0, .ofNat 9)), (253952, .inr (some (some 327))), (458752, .inr (some (some 327))), (663552, .inr (some (some 327))), (868352, .inr (some (some 327))), (1277952, .inr (some (some 327))), (1482752, .inr (some (some 327))), (1687552, .inr (some (some 327))), (1892352, .inr (some (some 327))), (2097152, .inr (some (some 327)))], [2, 3, 4, 5, 6, 7, 34, 40, 41, 42, 43, 44, 45, 46, 47, 48, 49])), some (([(6, .inr (some (some 327))), (7, .inr (some (some 343))), (32768, .inr (some (some 327))), (237569, .inl (0, .ofNat 4)), (237570, .inl (0, .ofNat 10)), (253952, .inr (some (some 327))), (458752, .inr (some (some 327))), (663552, .inr (some (some 327))), (868352, .inr (some (some 327))), (1073152, .inr (some (some 327))), (1277952, .inr (some (some 327))), (1482752, .inr (some (some 327))), (1687552, .inr (some (some 327))), (1892352, .inr (some (some 327))), (2097152, .inr (some (some 327)))], [2, 3, 4, 5, 6, 7, 40, 41, 42, 43, 44, 45, 46, 47, 48, 49])), some (([(6, .inr (some (some 327))), (7, .inr (some (some 343))), (32768, .inr (some (some 327))), (237569, .inl (0, .ofNat 5)), (237570, .inl (0, .ofNat 0))], [2, 3, 4, 5, 6, 7, 30, 31, 32, 33, 34, 35, 36, 37, 38, 39, 40, 41, 42, 43, 44, 45, 46, 47, 48, 49])), some (([(6, .inr (some (some 327))), (7, .inr (some (some 343))), (32768, .inr (some (some 327))), (237569, .inl (0, .ofNat 5)), (237570, .inl (0, .ofNat 1)), (1073152, .inr (some (some 327)))], [2, 3, 4, 5, 6, 7, 30, 31, 32, 33, 35, 36, 37, 38, 39, 40, 41, 42, 43, 44, 45, 46, 47, 48, 49])), some (([(6, .inr (some (some 327))), (7, .inr (some (some 343))), (32768, .inr (some (some 327))), (237569, .inl (0, .ofNat 5)), (237570, .inl (0, .ofNat 2)), (868352, .inr (some (some 327))), (1073152, .inr (some (some 327)))], [2, 3, 4, 5, 6, 7, 30, 31, 32, 35, 36, 37, 38, 39, 40, 41, 42, 43, 44, 45, 46, 47, 48, 49])), some (([(6, .inr (some (some 327))), (7, .inr (some (some 343))), (32768, .inr (some (some 327))), (237569, .inl (0, .ofNat 5)), (237570, .inl (0, .ofNat 3)), (663552, .inr (some (some 327))), (868352, .inr (some (some 327))), (1073152, .inr (some (some 327)))], [2, 3, 4, 5, 6, 7, 30, 31, 35, 36, 37, 38, 39, 40, 41, 42, 43, 44, 45, 46, 47, 48, 49])), some (([(6, .inr (some (some 327))), (7, .inr (some (some 343))), (32768, .inr (some (some 327))), (237569, .inl (0, .ofNat 5)), (237570, .inl (0, .ofNat 4)), (458752, .inr (some (some 327))), (663552, .inr (some (some 327))), (868352, .inr (some (some 327))), (1073152, .inr (some (some 327)))], [2, 3, 4, 5, 6, 7, 30, 35, 36, 37, 38, 39, 40, 41, 42, 43, 44, 45, 46, 47, 48, 49])), some (([(6, .inr (some (some 327))), (7, .inr (some (some 343))), (32768, .inr (some (some 327))), (237569, .inl (0, .ofNat 5)), (237570, .inl (0, .ofNat 5)), (253952, .inr (some (some 327))), (458752, .inr (some (some 327))), (663552, .inr (some (some 327))), (868352, .inr (some (some 327))), (1073152, .inr (some (some 327)))], [2, 3, 4, 5, 6, 7, 35, 36, 37, 38, 39, 40, 41, 42, 43, 44, 45, 46, 47, 48, 49])), some (([(6, .inr (some (some 327))), (7, .inr (some (some 343))), (32768, .inr (some (some 327))), (237569, .inl (0, .ofNat 5)), (237570, .inl (0, .ofNat 6)), (253952, .inr (some (some 327))), (458752, .inr (some (some 327))), (663552, .inr (some (some 327))), (868352, .inr (some (some 327))), (1073152, .inr (some (some 327))), (2097152, .inr (some (some 327)))], [2, 3, 4, 5, 6, 7, 35, 36, 37, 38, 40, 41, 42, 43, 44, 45, 46, 47, 48, 49])), some (([(6, .inr (some (some 327))), (7, .inr (some (some 343))), (32768, .inr (some (some 327))), (237569, .inl (0, .ofNat 5)), (237570, .inl (0, .ofNat 7)), (253952, .inr (some (some 327))), (458752, .inr (some (some 327))), (663552, .inr (some (some 327))), (868352, .inr (some (some 327))), (1073152, .inr (some (some 327))), (1892352, .inr (some (some 327))), (2097152, .inr (some (some 327)))], [2, 3, 4, 5, 6, 7, 35, 36, 37, 40, 41, 42, 43, 44, 45, 46, 47, 48, 49])), some (([(6, .inr (some (some 327))), (7, .inr (some (some 343))), (32768, .inr (some (some 327))), (237569, .inl (0, .ofNat 5)), (237570, .inl (0, .ofNat 8)), (253952, .inr (some (some 327))), (458752, .inr (some (some 327))), (663552, .inr (some (some 327))), (868352, .inr (some (some 327))), (1073152, .inr (some (some 327))), (1687552, .inr (some (some 327))), (1892352, .inr (some (some 327))), (2097152, .inr (some (some 327)))], [2, 3, 4, 5, 6, 7, 35, 36, 40, 41, 42, 43, 44, 45, 46, 47, 48, 49]))],
  some [some (([(6, .inr (some (some 327))), (7, .inr (some (some 343))), (32768, .inr (some (some 327))), (237569, .inl (0, .ofNat 5)), (237570, .inl (0, .ofNat 9)), (253952, .inr (some (some 327))), (458752, .inr (some (some 327))), (663552, .inr (some (some 327))), (868352, .inr (some (some 327))), (1073152, .inr (some (some 327))), (1482752, .inr (some (some 327))), (1687552, .inr (some (some 327))), (1892352, .inr (some (some 327))), (2097152, .inr (some (some 327)))], [2, 3, 4, 5, 6, 7, 35, 40, 41, 42, 43, 44, 45, 46, 47, 48, 49])), some (([(6, .inr (some (some 327))), (7, .inr (some (some 343))), (32768, .inr (some (some 327))), (237569, .inl (0, .ofNat 5)), (237570, .inl (0, .ofNat 10)), (253952, .inr (some (some 327))), (458752, .inr (some (some 327))), (663552, .inr (some (some 327))), (868352, .inr (some (some 327))), (1073152, .inr (some (some 327))), (1277952, .inr (some (some 327))), (1482752, .inr (some (some 327))), (1687552, .inr (some (some 327))), (1892352, .inr (some (some 327))), (2097152, .inr (some (some 327)))], [2, 3, 4, 5, 6, 7, 40, 41, 42, 43, 44, 45, 46, 47, 48, 49])), some (([(6, .inr (some (some 327))), (7, .inr (some (some 343))), (32768, .inr (some (some 327))), (237569, .inl (0, .ofNat 6)), (237570, .inl (0, .ofNat 0))], [2, 3, 4, 5, 6, 7, 30, 31, 32, 33, 34, 35, 36, 37, 38, 39, 40, 41, 42, 43, 44, 45, 46, 47, 48, 49])), some (([(6, .inr (some (some 327))), (7, .inr (some (some 343))), (32768, .inr (some (some 327))), (237569, .inl (0, .ofNat 6)), (237570, .inl (0, .ofNat 1)), (1277952, .inr (some (some 327)))], [2, 3, 4, 5, 6, 7, 30, 31, 32, 33, 34, 36, 37, 38, 39, 40, 41, 42, 43, 44, 45, 46, 47, 48, 49])), some (([(6, .inr (some (some 327))), (7, .inr (some (some 343))), (32768, .inr (some (some 327))), (237569, .inl (0, .ofNat 6)), (237570, .inl (0, .ofNat 2)), (1073152, .inr (some (some 327))), (1277952, .inr (some (some 327)))], [2, 3, 4, 5, 6, 7, 30, 31, 32, 33, 36, 37, 38, 39, 40, 41, 42, 43, 44, 45, 46, 47, 48, 49])), some (([(6, .inr (some (some 327))), (7, .inr (some (some 343))), (32768, .inr (some (some 327))), (237569, .inl (0, .ofNat 6)), (237570, .inl (0, .ofNat 3)), (868352, .inr (some (some 327))), (1073152, .inr (some (some 327))), (1277952, .inr (some (some 327)))], [2, 3, 4, 5, 6, 7, 30, 31, 32, 36, 37, 38, 39, 40, 41, 42, 43, 44, 45, 46, 47, 48, 49])), some (([(6, .inr (some (some 327))), (7, .inr (some (some 343))), (32768, .inr (some (some 327))), (237569, .inl (0, .ofNat 6)), (237570, .inl (0, .ofNat 4)), (663552, .inr (some (some 327))), (868352, .inr (some (some 327))), (1073152, .inr (some (some 327))), (1277952, .inr (some (some 327)))], [2, 3, 4, 5, 6, 7, 30, 31, 36, 37, 38, 39, 40, 41, 42, 43, 44, 45, 46, 47, 48, 49])), some (([(6, .inr (some (some 327))), (7, .inr (some (some 343))), (32768, .inr (some (some 327))), (237569, .inl (0, .ofNat 6)), (237570, .inl (0, .ofNat 5)), (458752, .inr (some (some 327))), (663552, .inr (some (some 327))), (868352, .inr (some (some 327))), (1073152, .inr (some (some 327))), (1277952, .inr (some (some 327)))], [2, 3, 4, 5, 6, 7, 30, 36, 37, 38, 39, 40, 41, 42, 43, 44, 45, 46, 47, 48, 49])), some (([(6, .inr (some (some 327))), (7, .inr (some (some 343))), (32768, .inr (some (some 327))), (237569, .inl (0, .ofNat 6)), (237570, .inl (0, .ofNat 6)), (253952, .inr (some (some 327))), (458752, .inr (some (some 327))), (663552, .inr (some (some 327))), (868352, .inr (some (some 327))), (1073152, .inr (some (some 327))), (1277952, .inr (some (some 327)))], [2, 3, 4, 5, 6, 7, 36, 37, 38, 39, 40, 41, 42, 43, 44, 45, 46, 47, 48, 49])), some (([(6, .inr (some (some 327))), (7, .inr (some (some 343))), (32768, .inr (some (some 327))), (237569, .inl (0, .ofNat 6)), (237570, .inl (0, .ofNat 7)), (253952, .inr (some (some 327))), (458752, .inr (some (some 327))), (663552, .inr (some (some 327))), (868352, .inr (some (some 327))), (1073152, .inr (some (some 327))), (1277952, .inr (some (some 327))), (2097152, .inr (some (some 327)))], [2, 3, 4, 5, 6, 7, 36, 37, 38, 40, 41, 42, 43, 44, 45, 46, 47, 48, 49])), some (([(6, .inr (some (some 327))), (7, .inr (some (some 343))), (32768, .inr (some (some 327))), (237569, .inl (0, .ofNat 6)), (237570, .inl (0, .ofNat 8)), (253952, .inr (some (some 327))), (458752, .inr (some (some 327))), (663552, .inr (some (some 327))), (868352, .inr (some (some 327))), (1073152, .inr (some (some 327))), (1277952, .inr (some (some 327))), (1892352, .inr (some (some 327))), (2097152, .inr (some (some 327)))], [2, 3, 4, 5, 6, 7, 36, 37, 40, 41, 42, 43, 44, 45, 46, 47, 48, 49])), some (([(6, .inr (some (some 327))), (7, .inr (some (some 343))), (32768, .inr (some (some 327))), (237569, .inl (0, .ofNat 6)), (237570, .inl (0, .ofNat 9)), (253952, .inr (some (some 327))), (458752, .inr (some (some 327))), (663552, .inr (some (some 327))), (868352, .inr (some (some 327))), (1073152, .inr (some (some 327))), (1277952, .inr (some (some 327))), (1687552, .inr (some (some 327))), (1892352, .inr (some (some 327))), (2097152, .inr (some (some 327)))], [2, 3, 4, 5, 6, 7, 36, 40, 41, 42, 43, 44, 45, 46, 47, 48, 49])), some (([(6, .inr (some (some 327))), (7, .inr (some (some 343))), (32768, .inr (some (some 327))), (237569, .inl (0, .ofNat 6)), (237570, .inl (0, .ofNat 10)), (253952, .inr (some (some 327))), (458752, .inr (some (some 327))), (663552, .inr (some (some 327))), (868352, .inr (some (some 327))), (1073152, .inr (some (some 327))), (1277952, .inr (some (some 327))), (1482752, .inr (some (some 327))), (1687552, .inr (some (some 327))), (1892352, .inr (some (some 327))), (2097152, .inr (some (some 327)))], [2, 3, 4, 5, 6, 7, 40, 41, 42, 43, 44, 45, 46, 47, 48, 49])), some (([(6, .inr (some (some 327))), (7, .inr (some (some 343))), (32768, .inr (some (some 327))), (237569, .inl (0, .ofNat 7)), (237570, .inl (0, .ofNat 0))], [2, 3, 4, 5, 6, 7, 30, 31, 32, 33, 34, 35, 36, 37, 38, 39, 40, 41, 42, 43, 44, 45, 46, 47, 48, 49])), some (([(6, .inr (some (some 327))), (7, .inr (some (some 343))), (32768, .inr (some (some 327))), (237569, .inl (0, .ofNat 7)), (237570, .inl (0, .ofNat 1)), (1482752, .inr (some (some 327)))], [2, 3, 4, 5, 6, 7, 30, 31, 32, 33, 34, 35, 37, 38, 39, 40, 41, 42, 43, 44, 45, 46, 47, 48, 49])), some (([(6, .inr (some (some 327))), (7, .inr (some (some 343))), (32768, .inr (some (some 327))), (237569, .inl (0, .ofNat 7)), (237570, .inl (0, .ofNat 2)), (1277952, .inr (some (some 327))), (1482752, .inr (some (some 327)))], [2, 3, 4, 5, 6, 7, 30, 31, 32, 33, 34, 37, 38, 39, 40, 41, 42, 43, 44, 45, 46, 47, 48, 49]))],
  some [some (([(6, .inr (some (some 327))), (7, .inr (some (some 343))), (32768, .inr (some (some 327))), (237569, .inl (0, .ofNat 7)), (237570, .inl (0, .ofNat 3)), (1073152, .inr (some (some 327))), (1277952, .inr (some (some 327))), (1482752, .inr (some (some 327)))], [2, 3, 4, 5, 6, 7, 30, 31, 32, 33, 37, 38, 39, 40, 41, 42, 43, 44, 45, 46, 47, 48, 49])), some (([(6, .inr (some (some 327))), (7, .inr (some (some 343))), (32768, .inr (some (some 327))), (237569, .inl (0, .ofNat 7)), (237570, .inl (0, .ofNat 4)), (868352, .inr (some (some 327))), (1073152, .inr (some (some 327))), (1277952, .inr (some (some 327))), (1482752, .inr (some (some 327)))], [2, 3, 4, 5, 6, 7, 30, 31, 32, 37, 38, 39, 40, 41, 42, 43, 44, 45, 46, 47, 48, 49])), some (([(6, .inr (some (some 327))), (7, .inr (some (some 343))), (32768, .inr (some (some 327))), (237569, .inl (0, .ofNat 7)), (237570, .inl (0, .ofNat 5)), (663552, .inr (some (some 327))), (868352, .inr (some (some 327))), (1073152, .inr (some (some 327))), (1277952, .inr (some (some 327))), (1482752, .inr (some (some 327)))], [2, 3, 4, 5, 6, 7, 30, 31, 37, 38, 39, 40, 41, 42, 43, 44, 45, 46, 47, 48, 49])), some (([(6, .inr (some (some 327))), (7, .inr (some (some 343))), (32768, .inr (some (some 327))), (237569, .inl (0, .ofNat 7)), (237570, .inl (0, .ofNat 6)), (458752, .inr (some (some 327))), (663552, .inr (some (some 327))), (868352, .inr (some (some 327))), (1073152, .inr (some (some 327))), (1277952, .inr (some (some 327))), (1482752, .inr (some (some 327)))], [2, 3, 4, 5, 6, 7, 30, 37, 38, 39, 40, 41, 42, 43, 44, 45, 46, 47, 48, 49])), some (([(6, .inr (some (some 327))), (7, .inr (some (some 343))), (32768, .inr (some (some 327))), (237569, .inl (0, .ofNat 7)), (237570, .inl (0, .ofNat 7)), (253952, .inr (some (some 327))), (458752, .inr (some (some 327))), (663552, .inr (some (some 327))), (868352, .inr (some (some 327))), (1073152, .inr (some (some 327))), (1277952, .inr (some (some 327))), (1482752, .inr (some (some 327)))], [2, 3, 4, 5, 6, 7, 37, 38, 39, 40, 41, 42, 43, 44, 45, 46, 47, 48, 49])), some (([(6, .inr (some (some 327))), (7, .inr (some (some 343))), (32768, .inr (some (some 327))), (237569, .inl (0, .ofNat 7)), (237570, .inl (0, .ofNat 8)), (253952, .inr (some (some 327))), (458752, .inr (some (some 327))), (663552, .inr (some (some 327))), (868352, .inr (some (some 327))), (1073152, .inr (some (some 327))), (1277952, .inr (some (some 327))), (1482752, .inr (some (some 327))), (2097152, .inr (some (some 327)))], [2, 3, 4, 5, 6, 7, 37, 38, 40, 41, 42, 43, 44, 45, 46, 47, 48, 49])), some (([(6, .inr (some (some 327))), (7, .inr (some (some 343))), (32768, .inr (some (some 327))), (237569, .inl (0, .ofNat 7)), (237570, .inl (0, .ofNat 9)), (253952, .inr (some (some 327))), (458752, .inr (some (some 327))), (663552, .inr (some (some 327))), (868352, .inr (some (some 327))), (1073152, .inr (some (some 327))), (1277952, .inr (some (some 327))), (1482752, .inr (some (some 327))), (1892352, .inr (some (some 327))), (2097152, .inr (some (some 327)))], [2, 3, 4, 5, 6, 7, 37, 40, 41, 42, 43, 44, 45, 46, 47, 48, 49])), some (([(6, .inr (some (some 327))), (7, .inr (some (some 343))), (32768, .inr (some (some 327))), (237569, .inl (0, .ofNat 7)), (237570, .inl (0, .ofNat 10)), (253952, .inr (some (some 327))), (458752, .inr (some (some 327))), (663552, .inr (some (some 327))), (868352, .inr (some (some 327))), (1073152, .inr (some (some 327))), (1277952, .inr (some (some 327))), (1482752, .inr (some (some 327))), (1687552, .inr (some (some 327))), (1892352, .inr (some (some 327))), (2097152, .inr (some (some 327)))], [2, 3, 4, 5, 6, 7, 40, 41, 42, 43, 44, 45, 46, 47, 48, 49])), some (([(6, .inr (some (some 327))), (7, .inr (some (some 343))), (32768, .inr (some (some 327))), (237569, .inl (0, .ofNat 8)), (237570, .inl (0, .ofNat 0))], [2, 3, 4, 5, 6, 7, 30, 31, 32, 33, 34, 35, 36, 37, 38, 39, 40, 41, 42, 43, 44, 45, 46, 47, 48, 49])), some (([(6, .inr (some (some 327))), (7, .inr (some (some 343))), (32768, .inr (some (some 327))), (237569, .inl (0, .ofNat 8)), (237570, .inl (0, .ofNat 1)), (1687552, .inr (some (some 327)))], [2, 3, 4, 5, 6, 7, 30, 31, 32, 33, 34, 35, 36, 38, 39, 40, 41, 42, 43, 44, 45, 46, 47, 48, 49])), some (([(6, .inr (some (some 327))), (7, .inr (some (some 343))), (32768, .inr (some (some 327))), (237569, .inl (0, .ofNat 8)), (237570, .inl (0, .ofNat 2)), (1482752, .inr (some (some 327))), (1687552, .inr (some (some 327)))], [2, 3, 4, 5, 6, 7, 30, 31, 32, 33, 34, 35, 38, 39, 40, 41, 42, 43, 44, 45, 46, 47, 48, 49])), some (([(6, .inr (some (some 327))), (7, .inr (some (some 343))), (32768, .inr (some (some 327))), (237569, .inl (0, .ofNat 8)), (237570, .inl (0, .ofNat 3)), (1277952, .inr (some (some 327))), (1482752, .inr (some (some 327))), (1687552, .inr (some (some 327)))], [2, 3, 4, 5, 6, 7, 30, 31, 32, 33, 34, 38, 39, 40, 41, 42, 43, 44, 45, 46, 47, 48, 49])), some (([(6, .inr (some (some 327))), (7, .inr (some (some 343))), (32768, .inr (some (some 327))), (237569, .inl (0, .ofNat 8)), (237570, .inl (0, .ofNat 4)), (1073152, .inr (some (some 327))), (1277952, .inr (some (some 327))), (1482752, .inr (some (some 327))), (1687552, .inr (some (some 327)))], [2, 3, 4, 5, 6, 7, 30, 31, 32, 33, 38, 39, 40, 41, 42, 43, 44, 45, 46, 47, 48, 49])), some (([(6, .inr (some (some 327))), (7, .inr (some (some 343))), (32768, .inr (some (some 327))), (237569, .inl (0, .ofNat 8)), (237570, .inl (0, .ofNat 5)), (868352, .inr (some (some 327))), (1073152, .inr (some (some 327))), (1277952, .inr (some (some 327))), (1482752, .inr (some (some 327))), (1687552, .inr (some (some 327)))], [2, 3, 4, 5, 6, 7, 30, 31, 32, 38, 39, 40, 41, 42, 43, 44, 45, 46, 47, 48, 49])), some (([(6, .inr (some (some 327))), (7, .inr (some (some 343))), (32768, .inr (some (some 327))), (237569, .inl (0, .ofNat 8)), (237570, .inl (0, .ofNat 6)), (663552, .inr (some (some 327))), (868352, .inr (some (some 327))), (1073152, .inr (some (some 327))), (1277952, .inr (some (some 327))), (1482752, .inr (some (some 327))), (1687552, .inr (some (some 327)))], [2, 3, 4, 5, 6, 7, 30, 31, 38, 39, 40, 41, 42, 43, 44, 45, 46, 47, 48, 49])), some (([(6, .inr (some (some 327))), (7, .inr (some (some 343))), (32768, .inr (some (some 327))), (237569, .inl (0, .ofNat 8)), (237570, .inl (0, .ofNat 7)), (458752, .inr (some (some 327))), (663552, .inr (some (some 327))), (868352, .inr (some (some 327))), (1073152, .inr (some (some 327))), (1277952, .inr (some (some 327))), (1482752, .inr (some (some 327))), (1687552, .inr (some (some 327)))], [2, 3, 4, 5, 6, 7, 30, 38, 39, 40, 41, 42, 43, 44, 45, 46, 47, 48, 49]))],
  some [some (([(6, .inr (some (some 327))), (7, .inr (some (some 343))), (32768, .inr (some (some 327))), (237569, .inl (0, .ofNat 8)), (237570, .inl (0, .ofNat 8)), (253952, .inr (some (some 327))), (458752, .inr (some (some 327))), (663552, .inr (some (some 327))), (868352, .inr (some (some 327))), (1073152, .inr (some (some 327))), (1277952, .inr (some (some 327))), (1482752, .inr (some (some 327))), (1687552, .inr (some (some 327)))], [2, 3, 4, 5, 6, 7, 38, 39, 40, 41, 42, 43, 44, 45, 46, 47, 48, 49])), some (([(6, .inr (some (some 327))), (7, .inr (some (some 343))), (32768, .inr (some (some 327))), (237569, .inl (0, .ofNat 8)), (237570, .inl (0, .ofNat 9)), (253952, .inr (some (some 327))), (458752, .inr (some (some 327))), (663552, .inr (some (some 327))), (868352, .inr (some (some 327))), (1073152, .inr (some (some 327))), (1277952, .inr (some (some 327))), (1482752, .inr (some (some 327))), (1687552, .inr (some (some 327))), (2097152, .inr (some (some 327)))], [2, 3, 4, 5, 6, 7, 38, 40, 41, 42, 43, 44, 45, 46, 47, 48, 49])), some (([(6, .inr (some (some 327))), (7, .inr (some (some 343))), (32768, .inr (some (some 327))), (237569, .inl (0, .ofNat 8)), (237570, .inl (0, .ofNat 10)), (253952, .inr (some (some 327))), (458752, .inr (some (some 327))), (663552, .inr (some (some 327))), (868352, .inr (some (some 327))), (1073152, .inr (some (some 327))), (1277952, .inr (some (some 327))), (1482752, .inr (some (some 327))), (1687552, .inr (some (some 327))), (1892352, .inr (some (some 327))), (2097152, .inr (some (some 327)))], [2, 3, 4, 5, 6, 7, 40, 41, 42, 43, 44, 45, 46, 47, 48, 49])), some (([(6, .inr (some (some 327))), (7, .inr (some (some 343))), (32768, .inr (some (some 327))), (237569, .inl (0, .ofNat 9)), (237570, .inl (0, .ofNat 0))], [2, 3, 4, 5, 6, 7, 30, 31, 32, 33, 34, 35, 36, 37, 38, 39, 40, 41, 42, 43, 44, 45, 46, 47, 48, 49])), some (([(6, .inr (some (some 327))), (7, .inr (some (some 343))), (32768, .inr (some (some 327))), (237569, .inl (0, .ofNat 9)), (237570, .inl (0, .ofNat 1)), (1892352, .inr (some (some 327)))], [2, 3, 4, 5, 6, 7, 30, 31, 32, 33, 34, 35, 36, 37, 39, 40, 41, 42, 43, 44, 45, 46, 47, 48, 49])), some (([(6, .inr (some (some 327))), (7, .inr (some (some 343))), (32768, .inr (some (some 327))), (237569, .inl (0, .ofNat 9)), (237570, .inl (0, .ofNat 2)), (1687552, .inr (some (some 327))), (1892352, .inr (some (some 327)))], [2, 3, 4, 5, 6, 7, 30, 31, 32, 33, 34, 35, 36, 39, 40, 41, 42, 43, 44, 45, 46, 47, 48, 49])), some (([(6, .inr (some (some 327))), (7, .inr (some (some 343))), (32768, .inr (some (some 327))), (237569, .inl (0, .ofNat 9)), (237570, .inl (0, .ofNat 3)), (1482752, .inr (some (some 327))), (1687552, .inr (some (some 327))), (1892352, .inr (some (some 327)))], [2, 3, 4, 5, 6, 7, 30, 31, 32, 33, 34, 35, 39, 40, 41, 42, 43, 44, 45, 46, 47, 48, 49])), some (([(6, .inr (some (some 327))), (7, .inr (some (some 343))), (32768, .inr (some (some 327))), (237569, .inl (0, .ofNat 9)), (237570, .inl (0, .ofNat 4)), (1277952, .inr (some (some 327))), (1482752, .inr (some (some 327))), (1687552, .inr (some (some 327))), (1892352, .inr (some (some 327)))], [2, 3, 4, 5, 6, 7, 30, 31, 32, 33, 34, 39, 40, 41, 42, 43, 44, 45, 46, 47, 48, 49])), some (([(6, .inr (some (some 327))), (7, .inr (some (some 343))), (32768, .inr (some (some 327))), (237569, .inl (0, .ofNat 9)), (237570, .inl (0, .ofNat 5)), (1073152, .inr (some (some 327))), (1277952, .inr (some (some 327))), (1482752, .inr (some (some 327))), (1687552, .inr (some (some 327))), (1892352, .inr (some (some 327)))], [2, 3, 4, 5, 6, 7, 30, 31, 32, 33, 39, 40, 41, 42, 43, 44, 45, 46, 47, 48, 49])), some (([(6, .inr (some (some 327))), (7, .inr (some (some 343))), (32768, .inr (some (some 327))), (237569, .inl (0, .ofNat 9)), (237570, .inl (0, .ofNat 6)), (868352, .inr (some (some 327))), (1073152, .inr (some (some 327))), (1277952, .inr (some (some 327))), (1482752, .inr (some (some 327))), (1687552, .inr (some (some 327))), (1892352, .inr (some (some 327)))], [2, 3, 4, 5, 6, 7, 30, 31, 32, 39, 40, 41, 42, 43, 44, 45, 46, 47, 48, 49])), some (([(6, .inr (some (some 327))), (7, .inr (some (some 343))), (32768, .inr (some (some 327))), (237569, .inl (0, .ofNat 9)), (237570, .inl (0, .ofNat 7)), (663552, .inr (some (some 327))), (868352, .inr (some (some 327))), (1073152, .inr (some (some 327))), (1277952, .inr (some (some 327))), (1482752, .inr (some (some 327))), (1687552, .inr (some (some 327))), (1892352, .inr (some (some 327)))], [2, 3, 4, 5, 6, 7, 30, 31, 39, 40, 41, 42, 43, 44, 45, 46, 47, 48, 49])), some (([(6, .inr (some (some 327))), (7, .inr (some (some 343))), (32768, .inr (some (some 327))), (237569, .inl (0, .ofNat 9)), (237570, .inl (0, .ofNat 8)), (458752, .inr (some (some 327))), (663552, .inr (some (some 327))), (868352, .inr (some (some 327))), (1073152, .inr (some (some 327))), (1277952, .inr (some (some 327))), (1482752, .inr (some (some 327))), (1687552, .inr (some (some 327))), (1892352, .inr (some (some 327)))], [2, 3, 4, 5, 6, 7, 30, 39, 40, 41, 42, 43, 44, 45, 46, 47, 48, 49])), some (([(6, .inr (some (some 327))), (7, .inr (some (some 343))), (32768, .inr (some (some 327))), (237569, .inl (0, .ofNat 9)), (237570, .inl (0, .ofNat 9)), (253952, .inr (some (some 327))), (458752, .inr (some (some 327))), (663552, .inr (some (some 327))), (868352, .inr (some (some 327))), (1073152, .inr (some (some 327))), (1277952, .inr (some (some 327))), (1482752, .inr (some (some 327))), (1687552, .inr (some (some 327))), (1892352, .inr (some (some 327)))], [2, 3, 4, 5, 6, 7, 39, 40, 41, 42, 43, 44, 45, 46, 47, 48, 49])), some (([(6, .inr (some (some 327))), (7, .inr (some (some 343))), (32768, .inr (some (some 327))), (237569, .inl (0, .ofNat 9)), (237570, .inl (0, .ofNat 10)), (253952, .inr (some (some 327))), (458752, .inr (some (some 327))), (663552, .inr (some (some 327))), (868352, .inr (some (some 327))), (1073152, .inr (some (some 327))), (1277952, .inr (some (some 327))), (1482752, .inr (some (some 327))), (1687552, .inr (some (some 327))), (1892352, .inr (some (some 327))), (2097152, .inr (some (some 327)))], [2, 3, 4, 5, 6, 7, 40, 41, 42, 43, 44, 45, 46, 47, 48, 49])), none, none]]
set_option maxRecDepth 1000000 in
theorem jxsA_rm1_0 : (List.range 11).all (fun c => jxs_rmb jxsA_T 0 c) = true := by decide +kernel
set_option maxRecDepth 1000000 in
theorem jxsA_rm1_1 : (List.range 11).all (fun c => jxs_rmb jxsA_T 1 c) = true := by decide +kernel
set_option maxRecDepth 1000000 in
theorem jxsA_rm1_2 : (List.range 11).all (fun c => jxs_rmb jxsA_T 2 c) = true := by decide +kernel
set_option maxRecDepth 1000000 in
theorem jxsA_rm1_3 : (List.range 11).all (fun c => jxs_rmb jxsA_T 3 c) = true := by decide +kernel
set_option maxRecDepth 1000000 in
theorem jxsA_rm1_4 : (List.range 11).all (fun c => jxs_rmb jxsA_T 4 c) = true := by decide +kernel
set_option maxRecDepth 1000000 in
theorem jxsA_rm1_5 : (List.range 11).all (fun c => jxs_rmb jxsA_T 5 c) = true := by decide +kernel
set_option maxRecDepth 1000000 in
theorem jxsA_rm1_6 : (List.range 11).all (fun c => jxs_rmb jxsA_T 6 c) = true := by decide +kernel
set_option maxRecDepth 1000000 in
theorem jxsA_rm1_7 : (List.range 11).all (fun c => jxs_rmb jxsA_T 7 c) = true := by decide +kernel
set_option maxRecDepth 1000000 in
theorem jxsA_rm1_8 : (List.range 11).all (fun c => jxs_rmb jxsA_T 8 c) = true := by decide +kernel
set_option maxRecDepth 1000000 in
theorem jxsA_rm1_9 : (List.range 11).all (fun c => jxs_rmb jxsA_T 9 c) = true := by decide +kernel
theorem jxsA_rm1 {n c : Nat} (hn : n < 10) (hc : c < 11) : jxs_rmb jxsA_T n c = true := by
  have hc := List.mem_range.mpr hc
  match n, hn with
  | 0, _ => exact List.all_eq_true.mp jxsA_rm1_0 c hc
  | 1, _ => exact List.all_eq_true.mp jxsA_rm1_1 c hc
  | 2, _ => exact List.all_eq_true.mp jxsA_rm1_2 c hc
  | 3, _ => exact List.all_eq_true.mp jxsA_rm1_3 c hc
  | 4, _ => exact List.all_eq_true.mp jxsA_rm1_4 c hc
  | 5, _ => exact List.all_eq_true.mp jxsA_rm1_5 c hc
  | 6, _ => exact List.all_eq_true.mp jxsA_rm1_6 c hc
  | 7, _ => exact List.all_eq_true.mp jxsA_rm1_7 c hc
  | 8, _ => exact List.all_eq_true.mp jxsA_rm1_8 c hc
  | 9, _ => exact List.all_eq_true.mp jxsA_rm1_9 c hc
  | n + 10, h => exact absurd h (by omega)
set_option maxRecDepth 1000000 in
theorem jxsA_tk1_0 : (List.range 11).all (fun c => (Nat.beq c 0 || jxs_tkb 1 jxsA_T 0 c)) = true := by decide +kernel
set_option maxRecDepth 1000000 in
theorem jxsA_tk1_1 : (List.range 11).all (fun c => (Nat.beq c 0 || jxs_tkb 1 jxsA_T 1 c)) = true := by decide +kernel
set_option maxRecDepth 1000000 in
theorem jxsA_tk1_2 : (List.range 11).all (fun c => (Nat.beq c 0 || jxs_tkb 1 jxsA_T 2 c)) = true := by decide +kernel
set_option maxRecDepth 1000000 in
theorem jxsA_tk1_3 : (List.range 11).all (fun c => (Nat.beq c 0 || jxs_tkb 1 jxsA_T 3 c)) = true := by decide +kernel
set_option maxRecDepth 1000000 in
theorem jxsA_tk1_4 : (List.range 11).all (fun c => (Nat.beq c 0 || jxs_tkb 1 jxsA_T 4 c)) = true := by decide +kernel
set_option maxRecDepth 1000000 in
theorem jxsA_tk1_5 : (List.range 11).all (fun c => (Nat.beq c 0 || jxs_tkb 1 jxsA_T 5 c)) = true := by decide +kernel
set_option maxRecDepth 1000000 in
theorem jxsA_tk1_6 : (List.range 11).all (fun c => (Nat.beq c 0 || jxs_tkb 1 jxsA_T 6 c)) = true := by decide +kernel
set_option maxRecDepth 1000000 in
theorem jxsA_tk1_7 : (List.range 11).all (fun c => (Nat.beq c 0 || jxs_tkb 1 jxsA_T 7 c)) = true := by decide +kernel
set_option maxRecDepth 1000000 in
theorem jxsA_tk1_8 : (List.range 11).all (fun c => (Nat.beq c 0 || jxs_tkb 1 jxsA_T 8 c)) = true := by decide +kernel
set_option maxRecDepth 1000000 in
theorem jxsA_tk1_9 : (List.range 11).all (fun c => (Nat.beq c 0 || jxs_tkb 1 jxsA_T 9 c)) = true := by decide +kernel
theorem jxsA_tk1 {n c : Nat} (hn : n < 10) (hc : c < 11) : (Nat.beq c 0 || jxs_tkb 1 jxsA_T n c) = true := by
  have hc := List.mem_range.mpr hc
  match n, hn with
  | 0, _ => exact List.all_eq_true.mp jxsA_tk1_0 c hc
  | 1, _ => exact List.all_eq_true.mp jxsA_tk1_1 c hc
  | 2, _ => exact List.all_eq_true.mp jxsA_tk1_2 c hc
  | 3, _ => exact List.all_eq_true.mp jxsA_tk1_3 c hc
  | 4, _ => exact List.all_eq_true.mp jxsA_tk1_4 c hc
  | 5, _ => exact List.all_eq_true.mp jxsA_tk1_5 c hc
  | 6, _ => exact List.all_eq_true.mp jxsA_tk1_6 c hc
  | 7, _ => exact List.all_eq_true.mp jxsA_tk1_7 c hc
  | 8, _ => exact List.all_eq_true.mp jxsA_tk1_8 c hc
  | 9, _ => exact List.all_eq_true.mp jxsA_tk1_9 c hc
  | n + 10, h => exact absurd h (by omega)
noncomputable def jxsA_q (n c : Nat) : Bool := match ja_n2 jxsA_T (11 * n + c) with
  | some (O, F) => (match jc_lk O 237569, jc_lk O 237570 with
    | some (.inl (0, .ofNat a)), some (.inl (0, .ofNat b)) => Nat.beq a n && Nat.beq b c
    | _, _ => false) && (jxs_S n c).all fun i => (match jc_lk O (jc_key (31 + 25 * i) 0) with
    | some (.inr (some (some b))) => Nat.beq b 327
    | _ => false) && !jc_off F (30 + i)
  | none => false
theorem jxsA_q1 : jxs_pr jxsA_q = true := by decide +kernel
theorem jxsA_Xof {r : jc_R} {t : jc_T} {h : J_H} {X : J_H → Prop} {n c : Nat} {O : List (Nat × jc_v)} {F : List Nat} (hT : ja_n2 jxsA_T (11 * n + c) = some (O, F)) (hg : jc_g jxs X r t (jxs_st O F) h) (hn : n < 10) (hc : c < 11) : jxs_X 30 327 h := by
  have q0 := jxs_pr_ok jxsA_q1 hn hc
  unfold jxsA_q at q0
  rw [hT] at q0
  obtain ⟨q1, q2⟩ := Bool.and_eq_true_iff.mp q0
  obtain ⟨d1, e1, e2⟩ := jxs_len_ok (a := 29) (i := 1) (by decide +kernel)
  obtain ⟨d2, e3, e4⟩ := jxs_len_ok (a := 29) (i := 2) (by decide +kernel)
  have k1 : ∃ y : Int32, jc_at h 29 1 = some (.int y) ∧ y.toInt = (n : Int) := by
    split at q1
    · rename_i a b ha hb
      have qa := Nat.eq_of_beq_eq_true (Bool.and_eq_true_iff.mp q1).1
      subst qa
      obtain ⟨v, v1, v2⟩ := hg.atO (a := 29) (i := 1) e1 e2 ha
      obtain ⟨y, rfl, -, y2⟩ := v2.int
      exact ⟨y, v1, by rw [y2, hg.1.1]; exact Int.zero_add _⟩
    · cases q1
  have k2 : ∃ y : Int32, jc_at h 29 2 = some (.int y) ∧ y.toInt = (c : Int) := by
    split at q1
    · rename_i a b ha hb
      have qa := Nat.eq_of_beq_eq_true (Bool.and_eq_true_iff.mp q1).2
      subst qa
      obtain ⟨v, v1, v2⟩ := hg.atO (a := 29) (i := 2) e3 e4 hb
      obtain ⟨y, rfl, -, y2⟩ := v2.int
      exact ⟨y, v1, by rw [y2, hg.1.1]; exact Int.zero_add _⟩
    · cases q1
  refine ⟨n, c, hn, hc, k1, k2, fun i hi => ?_, t, fun f m hm ⟨i, hi, e⟩ => ?_⟩
  · have q3 := (Bool.and_eq_true_iff.mp (List.all_eq_true.mp q2 i hi)).1
    obtain ⟨d, d1, d2⟩ := jxs_lay_ok hi
    split at q3
    · rename_i b hb
      have qb := Nat.eq_of_beq_eq_true q3
      subst qb
      obtain ⟨v, v1, v2⟩ := hg.atO d1 d2 hb
      rw [v1, v2.ref]
    · cases q3
  · have o1 := (Bool.and_eq_true_iff.mp (List.all_eq_true.mp q2 i hi)).2
    refine hg.fam rfl hm ?_
    rw [e]
    simpa using o1
theorem jxsA_in : ja_ch2 (fun _ (m : jc_Fa) => !(Nat.ble 30 m.1 && Nat.ble (m.1 + 1) (30 + 10)) || jc_all (fun c => jc_inW jxa.2.2.2.2 c.1 c.2) m.2.1) jxs.2.1 = true := by decide +kernel
theorem jxsA_in2 : (List.range 10).all (fun i => jc_inW jxa.2.2.2.2 (31 + 25 * i) 0) = true := by decide +kernel
theorem jxsA_Xo : jc_Xo jxa (jxs_X 30 327) := by
  rintro h h' hh ⟨n, c, hn, hc, ⟨y1, a1, a2⟩, ⟨y2, b1, b2⟩, hl, t, ht⟩
  refine ⟨n, c, hn, hc, ⟨y1, ?_, a2⟩, ⟨y2, ?_, b2⟩, fun i hi => ?_, t, fun f m hm hi => ?_⟩
  · rw [hh 29 1 (by decide +kernel)]; exact a1
  · rw [hh 29 2 (by decide +kernel)]; exact b1
  · rw [hh _ 0 (List.all_eq_true.mp jxsA_in2 i (List.mem_range.mpr (jxs_S_lt hi)))]; exact hl i hi
  · obtain ⟨z1, z2⟩ := ht f m hm hi
    refine ⟨z1, jc_in_eq (fun q hq => hh q.1 q.2 ?_) z2⟩
    obtain ⟨i, hi, e⟩ := hi
    have hi := jxs_S_lt hi
    have hck := ja_ch2_ok (p := fun _ (m : jc_Fa) => !(Nat.ble 30 m.1 && Nat.ble (m.1 + 1) (30 + 10)) || jc_all (fun c => jc_inW jxa.2.2.2.2 c.1 c.2) m.2.1) jxsA_in hm
    rw [show Nat.ble 30 m.1 = true from Nat.ble_eq_true_of_le (by omega), show Nat.ble (m.1 + 1) (30 + 10) = true from Nat.ble_eq_true_of_le (by omega)] at hck
    exact jc_all_ok hck q hq
def jxsA_o : jc_A := (1, [], jxa_g0.2.2.2.1.2.2.1, [], [], [2, 3, 4, 5, 6, 7, 30, 31, 32, 33, 34, 35, 36, 37, 38, 39, 40, 41, 42, 43, 44, 45, 46, 47, 48, 49])
noncomputable def jxsA_b (n c : Nat) : Bool := match ja_n2 jxsA_T (11 * n + c) with
  | some (O, F) => ((jxs_all.all fun g => (jc_off F g || (Nat.beq g 0 || (Nat.beq g 1 || (jxs_S n c).any fun i => Nat.beq g (30 + i)))))) && ((jc_arr jxs [] (1, [], (jxs_l 327 n c).foldr (fun e O => (jc_key e.1.1 e.1.2, e.2) :: O) jxa_g0.2.2.2.1.2.2.1, [], [], F) [] (jxs_st O F)).isSome && ((jc_arr jxs [] (2, [(1, 1, 10)], (jxs_l 327 n c).foldr (fun e O => (jc_key e.1.1 e.1.2, e.2) :: O) jxa_g1.2.2.2.1.2.2.1, [], [], 1 :: F) [] (jxs_st O (1 :: F))).isSome && (jc_arr jxs [] (jxs_st O F) [] jxsA_o).isSome))
  | none => false
theorem jxsA_b1 : jxs_pr jxsA_b = true := by decide +kernel
theorem jxsA_lk {r : jc_R} {m n c : Nat} {h : J_H} (h0 : r 0 = 0) (hm : 0 < m) (k1 : ∃ y : Int32, jc_at h 29 1 = some (.int y) ∧ y.toInt = (n : Int)) (k2 : ∃ y : Int32, jc_at h 29 2 = some (.int y) ∧ y.toInt = (c : Int)) (hl : ∀ i ∈ jxs_S n c, jc_at h (31 + 25 * i) 0 = some (.ref 327)) : ∀ e ∈ jxs_l 327 n c, ∃ d v, ja_n2 jxs.1 e.1.1 = some d ∧ e.1.2 < d.1.2.2 ∧ jc_at h e.1.1 e.1.2 = some v ∧ jc_val r m e.2 v := by
  intro e he
  rcases List.mem_append.mp he with he | he
  · obtain ⟨i, hi, rfl⟩ := List.mem_map.mp he
    obtain ⟨d, d1, d2⟩ := jxs_lay_ok hi
    exact ⟨d, _, d1, d2, hl i hi, rfl⟩
  · rcases List.mem_cons.mp he with rfl | he
    · obtain ⟨d1, e1, e2⟩ := jxs_len_ok (a := 29) (i := 1) (by decide +kernel)
      obtain ⟨y, y1, y2⟩ := k1
      exact ⟨d1, _, e1, e2, y1, hm, by rw [y2, h0]; exact (Int.zero_add _).symm⟩
    · rcases List.mem_cons.mp he with rfl | he
      · obtain ⟨d1, e1, e2⟩ := jxs_len_ok (a := 29) (i := 2) (by decide +kernel)
        obtain ⟨y, y1, y2⟩ := k2
        exact ⟨d1, _, e1, e2, y1, hm, by rw [y2, h0]; exact (Int.zero_add _).symm⟩
      · cases he
theorem jxsA_off0 : jc_off jxa_g0.2.2.2.1.2.2.2.2.2 0 = false ∧ jc_off jxa_g0.2.2.2.1.2.2.2.2.2 1 = false := by decide +kernel
theorem jxsA_oo : ∀ g, g ≤ 7 → jc_off jxa_g0.2.2.2.1.2.2.2.2.2 g = false → jc_off jxsA_o.2.2.2.2.2 g = false := by
  intro g hg
  have : ∀ g : Fin 8, jc_off jxa_g0.2.2.2.1.2.2.2.2.2 g.val = false → jc_off jxsA_o.2.2.2.2.2 g.val = false := by decide +kernel
  exact this ⟨g, by omega⟩
theorem jxa_g0_ok : jc_Con jP jxa (jxs_X 30 327) jxa_g0 := by
  intro d hd r t h As hg hA
  obtain ⟨n, c, hn, hc, k1, k2, hl, tX, hf⟩ := id hg.2.2.2.2
  have hg' : jc_g jxa (jxs_X 30 327) r t jxa_g0.2.2.2.1 h := hg
  obtain ⟨O, F, O', F', hT, hT', hCon⟩ := jxs_rmb_ok (jxsA_rm1 hn hc)
  have hb0 := jxs_pr_ok jxsA_b1 hn hc
  unfold jxsA_b at hb0
  rw [hT] at hb0
  obtain ⟨b1, hb⟩ := Bool.and_eq_true_iff.mp hb0
  obtain ⟨b2, hb⟩ := Bool.and_eq_true_iff.mp hb
  have g1 := jc_g.env jxs_D1 hg' (X' := fun _ => True) (t' := fun f => match ja_n2 jxs.2.1 f with
    | some m => if m.1 = 0 ∨ m.1 = 1 then t f else tX f
    | none => tX f) (O' := F) (fun f m hm ho => by
      rw [hm]
      dsimp only
      by_cases h0 : m.1 = 0 ∨ m.1 = 1
      · rw [if_pos h0]
        refine hg'.fam rfl (jxs_f1 hm (by omega)) ?_
        rcases h0 with h0 | h0 <;> rw [h0]
        · exact jxsA_off0.1
        · exact jxsA_off0.2
      · rw [if_neg h0]
        refine hf f m hm ?_
        have hi := jc_inl_ok (ja_ch2_ok (p := fun _ (m : jc_Fa) => jc_inl m.1 jxs_all) jxs_tags hm)
        have := List.all_eq_true.mp b1 m.1 hi
        rw [ho, Bool.false_or] at this
        rcases Bool.or_eq_true_iff.mp this with z | z
        · exact absurd (Or.inl (Nat.eq_of_beq_eq_true z)) h0
        · rcases Bool.or_eq_true_iff.mp z with z | z
          · exact absurd (Or.inr (Nat.eq_of_beq_eq_true z)) h0
          · obtain ⟨i, i1, i2⟩ := List.any_eq_true.mp z
            exact ⟨i, i1, Nat.eq_of_beq_eq_true i2⟩) jxs_noP trivial
  have g2 := g1.adds jxs_ok (jxs_l 327 n c) (jxsA_lk hg.1.1 hg.1.2.1 k1 k2 hl)
  obtain ⟨r3, t3, g3⟩ := g2.to jxs_ok (T := jxs_st O F) b2
  refine (hCon d hd r3 t3 h As g3 (jxs_refs hA)).mono ?_
  rintro rv h' ⟨f1, o, o1, r4, t4, g4, an⟩
  obtain rfl := List.mem_singleton.mp o1
  have hn' : (n + 1) % 10 < 10 := Nat.mod_lt _ (by decide)
  have hc' : min (c + 1) 10 < 11 := by omega
  have hb' := jxs_pr_ok jxsA_b1 hn' hc'
  unfold jxsA_b at hb'
  rw [hT'] at hb'
  have b5 := (Bool.and_eq_true_iff.mp (Bool.and_eq_true_iff.mp (Bool.and_eq_true_iff.mp hb').2).2).2
  obtain ⟨r5, t5, g5⟩ := g4.to jxs_ok b5
  exact ⟨f1, _, List.mem_cons_self, r5, t5, jc_g.env jxs_D2 g5 (O' := jxa_g0.2.2.2.1.2.2.2.2.2) (fun f m hm ho => by
    obtain ⟨m1, m2⟩ := jxs_f2 hm
    refine g5.fam rfl m1 ?_
    exact jxsA_oo m.1 m2 ho) jxa_noP (jxsA_Xof hT' g4 hn' hc'), jxs_an an⟩
theorem jxa_g1_ok : jc_Con jP jxa (jxs_X 30 327) jxa_g1 := by
  intro d hd r t h As hg hA
  obtain ⟨n, c, hn, hc, k1, k2, hl, tX, hf⟩ := id hg.2.2.2.2
  have hg' : jc_g jxa (jxs_X 30 327) r t jxa_g1.2.2.2.1 h := hg
  have h0c : 0 < c := by
    obtain ⟨d1, e1, e2⟩ := jxs_len_ok (a := 29) (i := 2) (by decide +kernel)
    obtain ⟨v, v1, v2⟩ := jxs_atA hg' (by decide +kernel)
    obtain ⟨y, y1, y2⟩ := k2
    rw [y1] at v1
    cases v1
    have hB := hg'.1.2.2 (1, 1, 10) (by decide)
    obtain ⟨-, y3⟩ := v2
    rw [y2] at y3
    dsimp only at hB y3
    omega
  have htk : jxs_tkb 1 jxsA_T n c = true := (Bool.or_eq_true_iff.mp (jxsA_tk1 hn hc)).resolve_left (fun z => by have := Nat.eq_of_beq_eq_true z; omega)
  obtain ⟨O, F, O', F', hT, hT', hCon⟩ := jxs_tkb_ok htk
  have hb0 := jxs_pr_ok jxsA_b1 hn hc
  unfold jxsA_b at hb0
  rw [hT] at hb0
  obtain ⟨b1, hb⟩ := Bool.and_eq_true_iff.mp hb0
  obtain ⟨-, hb⟩ := Bool.and_eq_true_iff.mp hb
  obtain ⟨b2, -⟩ := Bool.and_eq_true_iff.mp hb
  have g1 := jc_g.env jxs_D1 hg' (X' := fun _ => True) (t' := fun f => match ja_n2 jxs.2.1 f with
    | some m => if m.1 = 0 then t f else tX f
    | none => tX f) (O' := 1 :: F) (fun f m hm ho => by
      rw [hm]
      dsimp only
      by_cases h0 : m.1 = 0
      · rw [if_pos h0]
        refine hg'.fam rfl (jxs_f1 hm (by omega)) ?_
        rw [h0]
        decide +kernel
      · rw [if_neg h0]
        refine hf f m hm ?_
        have hi := jc_inl_ok (ja_ch2_ok (p := fun _ (m : jc_Fa) => jc_inl m.1 jxs_all) jxs_tags hm)
        have := List.all_eq_true.mp b1 m.1 hi
        obtain ⟨ho1, ho2⟩ := Bool.or_eq_false_iff.mp (show (Nat.beq m.1 1 || jc_off F m.1) = false from ho)
        rw [ho2, Bool.false_or, ho1, Bool.false_or] at this
        rcases Bool.or_eq_true_iff.mp this with z | z
        · exact absurd (Nat.eq_of_beq_eq_true z) h0
        · obtain ⟨i, i1, i2⟩ := List.any_eq_true.mp z
          exact ⟨i, i1, Nat.eq_of_beq_eq_true i2⟩) jxs_noP trivial
  have g2 := g1.adds jxs_ok (jxs_l 327 n c) (jxsA_lk hg.1.1 hg.1.2.1 k1 k2 hl)
  obtain ⟨r3, t3, g3⟩ := g2.to jxs_ok (T := jxs_st O (1 :: F)) b2
  refine (hCon d hd r3 t3 h As g3 (jxs_refs hA)).mono ?_
  rintro rv h' ⟨f1, o, o1, r4, t4, g4, an⟩
  obtain rfl := List.mem_singleton.mp o1
  have hn' : (n + 9) % 10 < 10 := Nat.mod_lt _ (by decide)
  have hc' : c - 1 < 11 := by omega
  have hb' := jxs_pr_ok jxsA_b1 hn' hc'
  unfold jxsA_b at hb'
  rw [hT'] at hb'
  have b5 := (Bool.and_eq_true_iff.mp (Bool.and_eq_true_iff.mp (Bool.and_eq_true_iff.mp hb').2).2).2
  obtain ⟨r5, t5, g5⟩ := g4.to jxs_ok b5
  exact ⟨f1, _, List.mem_cons_self, r5, t5, jc_g.env jxs_D2 g5 (O' := jxa_g0.2.2.2.1.2.2.2.2.2) (fun f m hm ho => by
    obtain ⟨m1, m2⟩ := jxs_f2 hm
    refine g5.fam rfl m1 ?_
    exact jxsA_oo m.1 m2 ho) jxa_noP (jxsA_Xof hT' g4 hn' hc'), jxs_an an⟩

-- ---- world B
def jxsB_T : jxs_Tb := [some [some (([(6, .inr (some (some 343))), (7, .inr (some (some 327))), (32768, .inr (some (some 343))), (237569, .inl (0, .ofNat 0)), (237570, .inl (0, .ofNat 0))], [1, 3, 4, 5, 6, 7, 30, 31, 32, 33, 34, 35, 36, 37, 38, 39, 40, 41, 42, 43, 44, 45, 46, 47, 48, 49])), some (([(6, .inr (some (some 343))), (7, .inr (some (some 327))), (32768, .inr (some (some 343))), (237569, .inl (0, .ofNat 0)), (237570, .inl (0, .ofNat 1)), (2097152, .inr (some (some 343)))], [1, 3, 4, 5, 6, 7, 30, 31, 32, 33, 34, 35, 36, 37, 38, 39, 40, 41, 42, 43, 44, 45, 46, 47, 48])), some (([(6, .inr (some (some 343))), (7, .inr (some (some 327))), (32768, .inr (some (some 343))), (237569, .inl (0, .ofNat 0)), (237570, .inl (0, .ofNat 2)), (1892352, .inr (some (some 343))), (2097152, .inr (some (some 343)))], [1, 3, 4, 5, 6, 7, 30, 31, 32, 33, 34, 35, 36, 37, 38, 39, 40, 41, 42, 43, 44, 45, 46, 47])), some (([(6, .inr (some (some 343))), (7, .inr (some (some 327))), (32768, .inr (some (some 343))), (237569, .inl (0, .ofNat 0)), (237570, .inl (0, .ofNat 3)), (1687552, .inr (some (some 343))), (1892352, .inr (some (some 343))), (2097152, .inr (some (some 343)))], [1, 3, 4, 5, 6, 7, 30, 31, 32, 33, 34, 35, 36, 37, 38, 39, 40, 41, 42, 43, 44, 45, 46])), some (([(6, .inr (some (some 343))), (7, .inr (some (some 327))), (32768, .inr (some (some 343))), (237569, .inl (0, .ofNat 0)), (237570, .inl (0, .ofNat 4)), (1482752, .inr (some (some 343))), (1687552, .inr (some (some 343))), (1892352, .inr (some (some 343))), (2097152, .inr (some (some 343)))], [1, 3, 4, 5, 6, 7, 30, 31, 32, 33, 34, 35, 36, 37, 38, 39, 40, 41, 42, 43, 44, 45])), some (([(6, .inr (some (some 343))), (7, .inr (some (some 327))), (32768, .inr (some (some 343))), (237569, .inl (0, .ofNat 0)), (237570, .inl (0, .ofNat 5)), (1277952, .inr (some (some 343))), (1482752, .inr (some (some 343))), (1687552, .inr (some (some 343))), (1892352, .inr (some (some 343))), (2097152, .inr (some (some 343)))], [1, 3, 4, 5, 6, 7, 30, 31, 32, 33, 34, 35, 36, 37, 38, 39, 40, 41, 42, 43, 44])), some (([(6, .inr (some (some 343))), (7, .inr (some (some 327))), (32768, .inr (some (some 343))), (237569, .inl (0, .ofNat 0)), (237570, .inl (0, .ofNat 6)), (1073152, .inr (some (some 343))), (1277952, .inr (some (some 343))), (1482752, .inr (some (some 343))), (1687552, .inr (some (some 343))), (1892352, .inr (some (some 343))), (2097152, .inr (some (some 343)))], [1, 3, 4, 5, 6, 7, 30, 31, 32, 33, 34, 35, 36, 37, 38, 39, 40, 41, 42, 43])), some (([(6, .inr (some (some 343))), (7, .inr (some (some 327))), (32768, .inr (some (some 343))), (237569, .inl (0, .ofNat 0)), (237570, .inl (0, .ofNat 7)), (868352, .inr (some (some 343))), (1073152, .inr (some (some 343))), (1277952, .inr (some (some 343))), (1482752, .inr (some (some 343))), (1687552, .inr (some (some 343))), (1892352, .inr (some (some 343))), (2097152, .inr (some (some 343)))], [1, 3, 4, 5, 6, 7, 30, 31, 32, 33, 34, 35, 36, 37, 38, 39, 40, 41, 42])), some (([(6, .inr (some (some 343))), (7, .inr (some (some 327))), (32768, .inr (some (some 343))), (237569, .inl (0, .ofNat 0)), (237570, .inl (0, .ofNat 8)), (663552, .inr (some (some 343))), (868352, .inr (some (some 343))), (1073152, .inr (some (some 343))), (1277952, .inr (some (some 343))), (1482752, .inr (some (some 343))), (1687552, .inr (some (some 343))), (1892352, .inr (some (some 343))), (2097152, .inr (some (some 343)))], [1, 3, 4, 5, 6, 7, 30, 31, 32, 33, 34, 35, 36, 37, 38, 39, 40, 41])), some (([(6, .inr (some (some 343))), (7, .inr (some (some 327))), (32768, .inr (some (some 343))), (237569, .inl (0, .ofNat 0)), (237570, .inl (0, .ofNat 9)), (458752, .inr (some (some 343))), (663552, .inr (some (some 343))), (868352, .inr (some (some 343))), (1073152, .inr (some (some 343))), (1277952, .inr (some (some 343))), (1482752, .inr (some (some 343))), (1687552, .inr (some (some 343))), (1892352, .inr (some (some 343))), (2097152, .inr (some (some 343)))], [1, 3, 4, 5, 6, 7, 30, 31, 32, 33, 34, 35, 36, 37, 38, 39, 40])), some (([(6, .inr (some (some 343))), (7, .inr (some (some 327))), (32768, .inr (some (some 343))), (237569, .inl (0, .ofNat 0)), (237570, .inl (0, .ofNat 10)), (253952, .inr (some (some 343))), (458752, .inr (some (some 343))), (663552, .inr (some (some 343))), (868352, .inr (some (some 343))), (1073152, .inr (some (some 343))), (1277952, .inr (some (some 343))), (1482752, .inr (some (some 343))), (1687552, .inr (some (some 343))), (1892352, .inr (some (some 343))), (2097152, .inr (some (some 343)))], [1, 3, 4, 5, 6, 7, 30, 31, 32, 33, 34, 35, 36, 37, 38, 39])), some (([(6, .inr (some (some 343))), (7, .inr (some (some 327))), (32768, .inr (some (some 343))), (237569, .inl (0, .ofNat 1)), (237570, .inl (0, .ofNat 0))], [1, 3, 4, 5, 6, 7, 30, 31, 32, 33, 34, 35, 36, 37, 38, 39, 40, 41, 42, 43, 44, 45, 46, 47, 48, 49])), some (([(6, .inr (some (some 343))), (7, .inr (some (some 327))), (32768, .inr (some (some 343))), (237569, .inl (0, .ofNat 1)), (237570, .inl (0, .ofNat 1)), (253952, .inr (some (some 343)))], [1, 3, 4, 5, 6, 7, 30, 31, 32, 33, 34, 35, 36, 37, 38, 39, 41, 42, 43, 44, 45, 46, 47, 48, 49])), some (([(6, .inr (some (some 343))), (7, .inr (some (some 327))), (32768, .inr (some (some 343))), (237569, .inl (0, .ofNat 1)), (237570, .inl (0, .ofNat 2)), (253952, .inr (some (some 343))), (2097152, .inr (some (some 343)))], [1, 3, 4, 5, 6, 7, 30, 31, 32, 33, 34, 35, 36, 37, 38, 39, 41, 42, 43, 44, 45, 46, 47, 48])), some (([(6, .inr (some (some 343))), (7, .inr (some (some 327))), (32768, .inr (some (some 343))), (237569, .inl (0, .ofNat 1)), (237570, .inl (0, .ofNat 3)), (253952, .inr (some (some 343))), (1892352, .inr (some (some 343))), (2097152, .inr (some (some 343)))], [1, 3, 4, 5, 6, 7, 30, 31, 32, 33, 34, 35, 36, 37, 38, 39, 41, 42, 43, 44, 45, 46, 47])), some (([(6, .inr (some (some 343))), (7, .inr (some (some 327))), (32768, .inr (some (some 343))), (237569, .inl (0, .ofNat 1)), (237570, .inl (0, .ofNat 4)), (253952, .inr (some (some 343))), (1687552, .inr (some (some 343))), (1892352, .inr (some (some 343))), (2097152, .inr (some (some 343)))], [1, 3, 4, 5, 6, 7, 30, 31, 32, 33, 34, 35, 36, 37, 38, 39, 41, 42, 43, 44, 45, 46]))],
  some [some (([(6, .inr (some (some 343))), (7, .inr (some (some 327))), (32768, .inr (some (some 343))), (237569, .inl (0, .ofNat 1)), (237570, .inl (0, .ofNat 5)), (253952, .inr (some (some 343))), (1482752, .inr (some (some 343))), (1687552, .inr (some (some 343))), (1892352, .inr (some (some 343))), (2097152, .inr (some (some 343)))], [1, 3, 4, 5, 6, 7, 30, 31, 32, 33, 34, 35, 36, 37, 38, 39, 41, 42, 43, 44, 45])), some (([(6, .inr (some (some 343))), (7, .inr (some (some 327))), (32768, .inr (some (some 343))), (237569, .inl (0, .ofNat 1)), (237570, .inl (0, .ofNat 6)), (253952, .inr (some (some 343))), (1277952, .inr (some (some 343))), (1482752, .inr (some (some 343))), (1687552, .inr (some (some 343))), (1892352, .inr (some (some 343))), (2097152, .inr (some (some 343)))], [1, 3, 4, 5, 6, 7, 30, 31, 32, 33, 34, 35, 36, 37, 38, 39, 41, 42, 43, 44])), some (([(6, .inr (some (some 343))), (7, .inr (some (some 327))), (32768, .inr (some (some 343))), (237569, .inl (0, .ofNat 1)), (237570, .inl (0, .ofNat 7)), (253952, .inr (some (some 343))), (1073152, .inr (some (some 343))), (1277952, .inr (some (some 343))), (1482752, .inr (some (some 343))), (1687552, .inr (some (some 343))), (1892352, .inr (some (some 343))), (2097152, .inr (some (some 343)))], [1, 3, 4, 5, 6, 7, 30, 31, 32, 33, 34, 35, 36, 37, 38, 39, 41, 42, 43])), some (([(6, .inr (some (some 343))), (7, .inr (some (some 327))), (32768, .inr (some (some 343))), (237569, .inl (0, .ofNat 1)), (237570, .inl (0, .ofNat 8)), (253952, .inr (some (some 343))), (868352, .inr (some (some 343))), (1073152, .inr (some (some 343))), (1277952, .inr (some (some 343))), (1482752, .inr (some (some 343))), (1687552, .inr (some (some 343))), (1892352, .inr (some (some 343))), (2097152, .inr (some (some 343)))], [1, 3, 4, 5, 6, 7, 30, 31, 32, 33, 34, 35, 36, 37, 38, 39, 41, 42])), some (([(6, .inr (some (some 343))), (7, .inr (some (some 327))), (32768, .inr (some (some 343))), (237569, .inl (0, .ofNat 1)), (237570, .inl (0, .ofNat 9)), (253952, .inr (some (some 343))), (663552, .inr (some (some 343))), (868352, .inr (some (some 343))), (1073152, .inr (some (some 343))), (1277952, .inr (some (some 343))), (1482752, .inr (some (some 343))), (1687552, .inr (some (some 343))), (1892352, .inr (some (some 343))), (2097152, .inr (some (some 343)))], [1, 3, 4, 5, 6, 7, 30, 31, 32, 33, 34, 35, 36, 37, 38, 39, 41])), some (([(6, .inr (some (some 343))), (7, .inr (some (some 327))), (32768, .inr (some (some 343))), (237569, .inl (0, .ofNat 1)), (237570, .inl (0, .ofNat 10)), (253952, .inr (some (some 343))), (458752, .inr (some (some 343))), (663552, .inr (some (some 343))), (868352, .inr (some (some 343))), (1073152, .inr (some (some 343))), (1277952, .inr (some (some 343))), (1482752, .inr (some (some 343))), (1687552, .inr (some (some 343))), (1892352, .inr (some (some 343))), (2097152, .inr (some (some 343)))], [1, 3, 4, 5, 6, 7, 30, 31, 32, 33, 34, 35, 36, 37, 38, 39])), some (([(6, .inr (some (some 343))), (7, .inr (some (some 327))), (32768, .inr (some (some 343))), (237569, .inl (0, .ofNat 2)), (237570, .inl (0, .ofNat 0))], [1, 3, 4, 5, 6, 7, 30, 31, 32, 33, 34, 35, 36, 37, 38, 39, 40, 41, 42, 43, 44, 45, 46, 47, 48, 49])), some (([(6, .inr (some (some 343))), (7, .inr (some (some 327))), (32768, .inr (some (some 343))), (237569, .inl (0, .ofNat 2)), (237570, .inl (0, .ofNat 1)), (458752, .inr (some (some 343)))], [1, 3, 4, 5, 6, 7, 30, 31, 32, 33, 34, 35, 36, 37, 38, 39, 40, 42, 43, 44, 45, 46, 47, 48, 49])), some (([(6, .inr (some (some 343))), (7, .inr (some (some 327))), (32768, .inr (some (some 343))), (237569, .inl (0, .ofNat 2)), (237570, .inl (0, .ofNat 2)), (253952, .inr (some (some 343))), (458752, .inr (some (some 343)))], [1, 3, 4, 5, 6, 7, 30, 31, 32, 33, 34, 35, 36, 37, 38, 39, 42, 43, 44, 45, 46, 47, 48, 49])), some (([(6, .inr (some (some 343))), (7, .inr (some (some 327))), (32768, .inr (some (some 343))), (237569, .inl (0, .ofNat 2)), (237570, .inl (0, .ofNat 3)), (253952, .inr (some (some 343))), (458752, .inr (some (some 343))), (2097152, .inr (some (some 343)))], [1, 3, 4, 5, 6, 7, 30, 31, 32, 33, 34, 35, 36, 37, 38, 39, 42, 43, 44, 45, 46, 47, 48])), some (([(6, .inr (some (some 343))), (7, .inr (some (some 327))), (32768, .inr (some (some 343))), (237569, .inl (0, .ofNat 2)), (237570, .inl (0, .ofNat 4)), (253952, .inr (some (some 343))), (458752, .inr (some (some 343))), (1892352, .inr (some (some 343))), (2097152, .inr (some (some 343)))], [1, 3, 4, 5, 6, 7, 30, 31, 32, 33, 34, 35, 36, 37, 38, 39, 42, 43, 44, 45, 46, 47])), some (([(6, .inr (some (some 343))), (7, .inr (some (some 327))), (32768, .inr (some (some 343))), (237569, .inl (0, .ofNat 2)), (237570, .inl (0, .ofNat 5)), (253952, .inr (some (some 343))), (458752, .inr (some (some 343))), (1687552, .inr (some (some 343))), (1892352, .inr (some (some 343))), (2097152, .inr (some (some 343)))], [1, 3, 4, 5, 6, 7, 30, 31, 32, 33, 34, 35, 36, 37, 38, 39, 42, 43, 44, 45, 46])), some (([(6, .inr (some (some 343))), (7, .inr (some (some 327))), (32768, .inr (some (some 343))), (237569, .inl (0, .ofNat 2)), (237570, .inl (0, .ofNat 6)), (253952, .inr (some (some 343))), (458752, .inr (some (some 343))), (1482752, .inr (some (some 343))), (1687552, .inr (some (some 343))), (1892352, .inr (some (some 343))), (2097152, .inr (some (some 343)))], [1, 3, 4, 5, 6, 7, 30, 31, 32, 33, 34, 35, 36, 37, 38, 39, 42, 43, 44, 45])), some (([(6, .inr (some (some 343))), (7, .inr (some (some 327))), (32768, .inr (some (some 343))), (237569, .inl (0, .ofNat 2)), (237570, .inl (0, .ofNat 7)), (253952, .inr (some (some 343))), (458752, .inr (some (some 343))), (1277952, .inr (some (some 343))), (1482752, .inr (some (some 343))), (1687552, .inr (some (some 343))), (1892352, .inr (some (some 343))), (2097152, .inr (some (some 343)))], [1, 3, 4, 5, 6, 7, 30, 31, 32, 33, 34, 35, 36, 37, 38, 39, 42, 43, 44])), some (([(6, .inr (some (some 343))), (7, .inr (some (some 327))), (32768, .inr (some (some 343))), (237569, .inl (0, .ofNat 2)), (237570, .inl (0, .ofNat 8)), (253952, .inr (some (some 343))), (458752, .inr (some (some 343))), (1073152, .inr (some (some 343))), (1277952, .inr (some (some 343))), (1482752, .inr (some (some 343))), (1687552, .inr (some (some 343))), (1892352, .inr (some (some 343))), (2097152, .inr (some (some 343)))], [1, 3, 4, 5, 6, 7, 30, 31, 32, 33, 34, 35, 36, 37, 38, 39, 42, 43])), some (([(6, .inr (some (some 343))), (7, .inr (some (some 327))), (32768, .inr (some (some 343))), (237569, .inl (0, .ofNat 2)), (237570, .inl (0, .ofNat 9)), (253952, .inr (some (some 343))), (458752, .inr (some (some 343))), (868352, .inr (some (some 343))), (1073152, .inr (some (some 343))), (1277952, .inr (some (some 343))), (1482752, .inr (some (some 343))), (1687552, .inr (some (some 343))), (1892352, .inr (some (some 343))), (2097152, .inr (some (some 343)))], [1, 3, 4, 5, 6, 7, 30, 31, 32, 33, 34, 35, 36, 37, 38, 39, 42]))],
  some [some (([(6, .inr (some (some 343))), (7, .inr (some (some 327))), (32768, .inr (some (some 343))), (237569, .inl (0, .ofNat 2)), (237570, .inl (0, .ofNat 10)), (253952, .inr (some (some 343))), (458752, .inr (some (some 343))), (663552, .inr (some (some 343))), (868352, .inr (some (some 343))), (1073152, .inr (some (some 343))), (1277952, .inr (some (some 343))), (1482752, .inr (some (some 343))), (1687552, .inr (some (some 343))), (1892352, .inr (some (some 343))), (2097152, .inr (some (some 343)))], [1, 3, 4, 5, 6, 7, 30, 31, 32, 33, 34, 35, 36, 37, 38, 39])), some (([(6, .inr (some (some 343))), (7, .inr (some (some 327))), (32768, .inr (some (some 343))), (237569, .inl (0, .ofNat 3)), (237570, .inl (0, .ofNat 0))], [1, 3, 4, 5, 6, 7, 30, 31, 32, 33, 34, 35, 36, 37, 38, 39, 40, 41, 42, 43, 44, 45, 46, 47, 48, 49])), some (([(6, .inr (some (some 343))), (7, .inr (some (some 327))), (32768, .inr (some (some 343))), (237569, .inl (0, .ofNat 3)), (237570, .inl (0, .ofNat 1)), (663552, .inr (some (some 343)))], [1, 3, 4, 5, 6, 7, 30, 31, 32, 33, 34, 35, 36, 37, 38, 39, 40, 41, 43, 44, 45, 46, 47, 48, 49])), some (([(6, .inr (some (some 343))), (7, .inr (some (some 327))), (32768, .inr (some (some 343))), (237569, .inl (0, .ofNat 3)), (237570, .inl (0, .ofNat 2)), (458752, .inr (some (some 343))), (663552, .inr (some (some 343)))], [1, 3, 4, 5, 6, 7, 30, 31, 32, 33, 34, 35, 36, 37, 38, 39, 40, 43, 44, 45, 46, 47, 48, 49])), some (([(6, .inr (some (some 343))), (7, .inr (some (some 327))), (32768, .inr (some (some 343))), (237569, .inl (0, .ofNat 3)), (237570, .inl (0, .ofNat 3)), (253952, .inr (some (some 343))), (458752, .inr (some (some 343))), (663552, .inr (some (some 343)))], [1, 3, 4, 5, 6, 7, 30, 31, 32, 33, 34, 35, 36, 37, 38, 39, 43, 44, 45, 46, 47, 48, 49])), some (([(6, .inr (some (some 343))), (7, .inr (some (some 327))), (32768, .inr (some (some 343))), (237569, .inl (0, .ofNat 3)), (237570, .inl (0, .ofNat 4)), (253952, .inr (some (some 343))), (458752, .inr (some (some 343))), (663552, .inr (some (some 343))), (2097152, .inr (some (some 343)))], [1, 3, 4, 5, 6, 7, 30, 31, 32, 33, 34, 35, 36, 37, 38, 39, 43, 44, 45, 46, 47, 48])), some (([(6, .inr (some (some 343))), (7, .inr (some (some 327))), (32768, .inr (some (some 343))), (237569, .inl (0, .ofNat 3)), (237570, .inl (0, .ofNat 5)), (253952, .inr (some (some 343))), (458752, .inr (some (some 343))), (663552, .inr (some (some 343))), (1892352, .inr (some (some 343))), (2097152, .inr (some (some 343)))], [1, 3, 4, 5, 6, 7, 30, 31, 32, 33, 34, 35, 36, 37, 38, 39, 43, 44, 45, 46, 47])), some (([(6, .inr (some (some 343))), (7, .inr (some (some 327))), (32768, .inr (some (some 343))), (237569, .inl (0, .ofNat 3)), (237570, .inl (0, .ofNat 6)), (253952, .inr (some (some 343))), (458752, .inr (some (some 343))), (663552, .inr (some (some 343))), (1687552, .inr (some (some 343))), (1892352, .inr (some (some 343))), (2097152, .inr (some (some 343)))], [1, 3, 4, 5, 6, 7, 30, 31, 32, 33, 34, 35, 36, 37, 38, 39, 43, 44, 45, 46])), some (([(6, .inr (some (some 343))), (7, .inr (some (some 327))), (32768, .inr (some (some 343))), (237569, .inl (0, .ofNat 3)), (237570, .inl (0, .ofNat 7)), (253952, .inr (some (some 343))), (458752, .inr (some (some 343))), (663552, .inr (some (some 343))), (1482752, .inr (some (some 343))), (1687552, .inr (some (some 343))), (1892352, .inr (some (some 343))), (2097152, .inr (some (some 343)))], [1, 3, 4, 5, 6, 7, 30, 31, 32, 33, 34, 35, 36, 37, 38, 39, 43, 44, 45])), some (([(6, .inr (some (some 343))), (7, .inr (some (some 327))), (32768, .inr (some (some 343))), (237569, .inl (0, .ofNat 3)), (237570, .inl (0, .ofNat 8)), (253952, .inr (some (some 343))), (458752, .inr (some (some 343))), (663552, .inr (some (some 343))), (1277952, .inr (some (some 343))), (1482752, .inr (some (some 343))), (1687552, .inr (some (some 343))), (1892352, .inr (some (some 343))), (2097152, .inr (some (some 343)))], [1, 3, 4, 5, 6, 7, 30, 31, 32, 33, 34, 35, 36, 37, 38, 39, 43, 44])), some (([(6, .inr (some (some 343))), (7, .inr (some (some 327))), (32768, .inr (some (some 343))), (237569, .inl (0, .ofNat 3)), (237570, .inl (0, .ofNat 9)), (253952, .inr (some (some 343))), (458752, .inr (some (some 343))), (663552, .inr (some (some 343))), (1073152, .inr (some (some 343))), (1277952, .inr (some (some 343))), (1482752, .inr (some (some 343))), (1687552, .inr (some (some 343))), (1892352, .inr (some (some 343))), (2097152, .inr (some (some 343)))], [1, 3, 4, 5, 6, 7, 30, 31, 32, 33, 34, 35, 36, 37, 38, 39, 43])), some (([(6, .inr (some (some 343))), (7, .inr (some (some 327))), (32768, .inr (some (some 343))), (237569, .inl (0, .ofNat 3)), (237570, .inl (0, .ofNat 10)), (253952, .inr (some (some 343))), (458752, .inr (some (some 343))), (663552, .inr (some (some 343))), (868352, .inr (some (some 343))), (1073152, .inr (some (some 343))), (1277952, .inr (some (some 343))), (1482752, .inr (some (some 343))), (1687552, .inr (some (some 343))), (1892352, .inr (some (some 343))), (2097152, .inr (some (some 343)))], [1, 3, 4, 5, 6, 7, 30, 31, 32, 33, 34, 35, 36, 37, 38, 39])), some (([(6, .inr (some (some 343))), (7, .inr (some (some 327))), (32768, .inr (some (some 343))), (237569, .inl (0, .ofNat 4)), (237570, .inl (0, .ofNat 0))], [1, 3, 4, 5, 6, 7, 30, 31, 32, 33, 34, 35, 36, 37, 38, 39, 40, 41, 42, 43, 44, 45, 46, 47, 48, 49])), some (([(6, .inr (some (some 343))), (7, .inr (some (some 327))), (32768, .inr (some (some 343))), (237569, .inl (0, .ofNat 4)), (237570, .inl (0, .ofNat 1)), (868352, .inr (some (some 343)))], [1, 3, 4, 5, 6, 7, 30, 31, 32, 33, 34, 35, 36, 37, 38, 39, 40, 41, 42, 44, 45, 46, 47, 48, 49])), some (([(6, .inr (some (some 343))), (7, .inr (some (some 327))), (32768, .inr (some (some 343))), (237569, .inl (0, .ofNat 4)), (237570, .inl (0, .ofNat 2)), (663552, .inr (some (some 343))), (868352, .inr (some (some 343)))], [1, 3, 4, 5, 6, 7, 30, 31, 32, 33, 34, 35, 36, 37, 38, 39, 40, 41, 44, 45, 46, 47, 48, 49])), some (([(6, .inr (some (some 343))), (7, .inr (some (some 327))), (32768, .inr (some (some 343))), (237569, .inl (0, .ofNat 4)), (237570, .inl (0, .ofNat 3)), (458752, .inr (some (some 343))), (663552, .inr (some (some 343))), (868352, .inr (some (some 343)))], [1, 3, 4, 5, 6, 7, 30, 31, 32, 33, 34, 35, 36, 37, 38, 39, 40, 44, 45, 46, 47, 48, 49]))],
  some [some (([(6, .inr (some (some 343))), (7, .inr (some (some 327))), (32768, .inr (some (some 343))), (237569, .inl (0, .ofNat 4)), (237570, .inl (0, .ofNat 4)), (253952, .inr (some (some 343))), (458752, .inr (some (some 343))), (663552, .inr (some (some 343))), (868352, .inr (some (some 343)))], [1, 3, 4, 5, 6, 7, 30, 31, 32, 33, 34, 35, 36, 37, 38, 39, 44, 45, 46, 47, 48, 49])), some (([(6, .inr (some (some 343))), (7, .inr (some (some 327))), (32768, .inr (some (some 343))), (237569, .inl (0, .ofNat 4)), (237570, .inl (0, .ofNat 5)), (253952, .inr (some (some 343))), (458752, .inr (some (some 343))), (663552, .inr (some (some 343))), (868352, .inr (some (some 343))), (2097152, .inr (some (some 343)))], [1, 3, 4, 5, 6, 7, 30, 31, 32, 33, 34, 35, 36, 37, 38, 39, 44, 45, 46, 47, 48])), some (([(6, .inr (some (some 343))), (7, .inr (some (some 327))), (32768, .inr (some (some 343))), (237569, .inl (0, .ofNat 4)), (237570, .inl (0, .ofNat 6)), (253952, .inr (some (some 343))), (458752, .inr (some (some 343))), (663552, .inr (some (some 343))), (868352, .inr (some (some 343))), (1892352, .inr (some (some 343))), (2097152, .inr (some (some 343)))], [1, 3, 4, 5, 6, 7, 30, 31, 32, 33, 34, 35, 36, 37, 38, 39, 44, 45, 46, 47])), some (([(6, .inr (some (some 343))), (7, .inr (some (some 327))), (32768, .inr (some (some 343))), (237569, .inl (0, .ofNat 4)), (237570, .inl (0, .ofNat 7)), (253952, .inr (some (some 343))), (458752, .inr (some (some 343))), (663552, .inr (some (some 343))), (868352, .inr (some (some 343))), (1687552, .inr (some (some 343))), (1892352, .inr (some (some 343))), (2097152, .inr (some (some 343)))], [1, 3, 4, 5, 6, 7, 30, 31, 32, 33, 34, 35, 36, 37, 38, 39, 44, 45, 46])), some (([(6, .inr (some (some 343))), (7, .inr (some (some 327))), (32768, .inr (some (some 343))), (237569, .inl (0, .ofNat 4)), (237570, .inl (0, .ofNat 8)), (253952, .inr (some (some 343))), (458752, .inr (some (some 343))), (663552, .inr (some (some 343))), (868352, .inr (some (some 343))), (1482752, .inr (some (some 343))), (1687552, .inr (some (some 343))), (1892352, .inr (some (some 343))), (2097152, .inr (some (some 343)))], [1, 3, 4, 5, 6, 7, 30, 31, 32, 33, 34, 35, 36, 37, 38, 39, 44, 45])), some (([(6, .inr (some (some 343))), (7, .inr (some (some 327))), (32768, .inr (some (some 343))), (237569, .inl (0, .ofNat 4)), (237570, .inl (0, .ofNat 9)), (253952, .inr (some (some 343))), (458752, .inr (some (some 343))), (663552, .inr (some (some 343))), (868352, .inr (some (some 343))), (1277952, .inr (some (some 343))), (1482752, .inr (some (some 343))), (1687552, .inr (some (some 343))), (1892352, .inr (some (some 343))), (2097152, .inr (some (some 343)))], [1, 3, 4, 5, 6, 7, 30, 31, 32, 33, 34, 35, 36, 37, 38, 39, 44])), some (([(6, .inr (some (some 343))), (7, .inr (some (some 327))), (32768, .inr (some (some 343))), (237569, .inl (0, .ofNat 4)), (237570, .inl (0, .ofNat 10)), (253952, .inr (some (some 343))), (458752, .inr (some (some 343))), (663552, .inr (some (some 343))), (868352, .inr (some (some 343))), (1073152, .inr (some (some 343))), (1277952, .inr (some (some 343))), (1482752, .inr (some (some 343))), (1687552, .inr (some (some 343))), (1892352, .inr (some (some 343))), (2097152, .inr (some (some 343)))], [1, 3, 4, 5, 6, 7, 30, 31, 32, 33, 34, 35, 36, 37, 38, 39])), some (([(6, .inr (some (some 343))), (7, .inr (some (some 327))), (32768, .inr (some (some 343))), (237569, .inl (0, .ofNat 5)), (237570, .inl (0, .ofNat 0))], [1, 3, 4, 5, 6, 7, 30, 31, 32, 33, 34, 35, 36, 37, 38, 39, 40, 41, 42, 43, 44, 45, 46, 47, 48, 49])), some (([(6, .inr (some (some 343))), (7, .inr (some (some 327))), (32768, .inr (some (some 343))), (237569, .inl (0, .ofNat 5)), (237570, .inl (0, .ofNat 1)), (1073152, .inr (some (some 343)))], [1, 3, 4, 5, 6, 7, 30, 31, 32, 33, 34, 35, 36, 37, 38, 39, 40, 41, 42, 43, 45, 46, 47, 48, 49])), some (([(6, .inr (some (some 343))), (7, .inr (some (some 327))), (32768, .inr (some (some 343))), (237569, .inl (0, .ofNat 5)), (237570, .inl (0, .ofNat 2)), (868352, .inr (some (some 343))), (1073152, .inr (some (some 343)))], [1, 3, 4, 5, 6, 7, 30, 31, 32, 33, 34, 35, 36, 37, 38, 39, 40, 41, 42, 45, 46, 47, 48, 49])), some (([(6, .inr (some (some 343))), (7, .inr (some (some 327))), (32768, .inr (some (some 343))), (237569, .inl (0, .ofNat 5)), (237570, .inl (0, .ofNat 3)), (663552, .inr (some (some 343))), (868352, .inr (some (some 343))), (1073152, .inr (some (some 343)))], [1, 3, 4, 5, 6, 7, 30, 31, 32, 33, 34, 35, 36, 37, 38, 39, 40, 41, 45, 46, 47, 48, 49])), some (([(6, .inr (some (some 343))), (7, .inr (some (some 327))), (32768, .inr (some (some 343))), (237569, .inl (0, .ofNat 5)), (237570, .inl (0, .ofNat 4)), (458752, .inr (some (some 343))), (663552, .inr (some (some 343))), (868352, .inr (some (some 343))), (1073152, .inr (some (some 343)))], [1, 3, 4, 5, 6, 7, 30, 31, 32, 33, 34, 35, 36, 37, 38, 39, 40, 45, 46, 47, 48, 49])), some (([(6, .inr (some (some 343))), (7, .inr (some (some 327))), (32768, .inr (some (some 343))), (237569, .inl (0, .ofNat 5)), (237570, .inl (0, .ofNat 5)), (253952, .inr (some (some 343))), (458752, .inr (some (some 343))), (663552, .inr (some (some 343))), (868352, .inr (some (some 343))), (1073152, .inr (some (some 343)))], [1, 3, 4, 5, 6, 7, 30, 31, 32, 33, 34, 35, 36, 37, 38, 39, 45, 46, 47, 48, 49])), some (([(6, .inr (some (some 343))), (7, .inr (some (some 327))), (32768, .inr (some (some 343))), (237569, .inl (0, .ofNat 5)), (237570, .inl (0, .ofNat 6)), (253952, .inr (some (some 343))), (458752, .inr (some (some 343))), (663552, .inr (some (some 343))), (868352, .inr (some (some 343))), (1073152, .inr (some (some 343))), (2097152, .inr (some (some 343)))], [1, 3, 4, 5, 6, 7, 30, 31, 32, 33, 34, 35, 36, 37, 38, 39, 45, 46, 47, 48])), some (([(6, .inr (some (some 343))), (7, .inr (some (some 327))), (32768, .inr (some (some 343))), (237569, .inl (0, .ofNat 5)), (237570, .inl (0, .ofNat 7)), (253952, .inr (some (some 343))), (458752, .inr (some (some 343))), (663552, .inr (some (some 343))), (868352, .inr (some (some 343))), (1073152, .inr (some (some 343))), (1892352, .inr (some (some 343))), (2097152, .inr (some (some 343)))], [1, 3, 4, 5, 6, 7, 30, 31, 32, 33, 34, 35, 36, 37, 38, 39, 45, 46, 47])), some (([(6, .inr (some (some 343))), (7, .inr (some (some 327))), (32768, .inr (some (some 343))), (237569, .inl (0, .ofNat 5)), (237570, .inl (0, .ofNat 8)), (253952, .inr (some (some 343))), (458752, .inr (some (some 343))), (663552, .inr (some (some 343))), (868352, .inr (some (some 343))), (1073152, .inr (some (some 343))), (1687552, .inr (some (some 343))), (1892352, .inr (some (some 343))), (2097152, .inr (some (some 343)))], [1, 3, 4, 5, 6, 7, 30, 31, 32, 33, 34, 35, 36, 37, 38, 39, 45, 46]))],
  some [some (([(6, .inr (some (some 343))), (7, .inr (some (some 327))), (32768, .inr (some (some 343))), (237569, .inl (0, .ofNat 5)), (237570, .inl (0, .ofNat 9)), (253952, .inr (some (some 343))), (458752, .inr (some (some 343))), (663552, .inr (some (some 343))), (868352, .inr (some (some 343))), (1073152, .inr (some (some 343))), (1482752, .inr (some (some 343))), (1687552, .inr (some (some 343))), (1892352, .inr (some (some 343))), (2097152, .inr (some (some 343)))], [1, 3, 4, 5, 6, 7, 30, 31, 32, 33, 34, 35, 36, 37, 38, 39, 45])), some (([(6, .inr (some (some 343))), (7, .inr (some (some 327))), (32768, .inr (some (some 343))), (237569, .inl (0, .ofNat 5)), (237570, .inl (0, .ofNat 10)), (253952, .inr (some (some 343))), (458752, .inr (some (some 343))), (663552, .inr (some (some 343))), (868352, .inr (some (some 343))), (1073152, .inr (some (some 343))), (1277952, .inr (some (some 343))), (1482752, .inr (some (some 343))), (1687552, .inr (some (some 343))), (1892352, .inr (some (some 343))), (2097152, .inr (some (some 343)))], [1, 3, 4, 5, 6, 7, 30, 31, 32, 33, 34, 35, 36, 37, 38, 39])), some (([(6, .inr (some (some 343))), (7, .inr (some (some 327))), (32768, .inr (some (some 343))), (237569, .inl (0, .ofNat 6)), (237570, .inl (0, .ofNat 0))], [1, 3, 4, 5, 6, 7, 30, 31, 32, 33, 34, 35, 36, 37, 38, 39, 40, 41, 42, 43, 44, 45, 46, 47, 48, 49])), some (([(6, .inr (some (some 343))), (7, .inr (some (some 327))), (32768, .inr (some (some 343))), (237569, .inl (0, .ofNat 6)), (237570, .inl (0, .ofNat 1)), (1277952, .inr (some (some 343)))], [1, 3, 4, 5, 6, 7, 30, 31, 32, 33, 34, 35, 36, 37, 38, 39, 40, 41, 42, 43, 44, 46, 47, 48, 49])), some (([(6, .inr (some (some 343))), (7, .inr (some (some 327))), (32768, .inr (some (some 343))), (237569, .inl (0, .ofNat 6)), (237570, .inl (0, .ofNat 2)), (1073152, .inr (some (some 343))), (1277952, .inr (some (some 343)))], [1, 3, 4, 5, 6, 7, 30, 31, 32, 33, 34, 35, 36, 37, 38, 39, 40, 41, 42, 43, 46, 47, 48, 49])), some (([(6, .inr (some (some 343))), (7, .inr (some (some 327))), (32768, .inr (some (some 343))), (237569, .inl (0, .ofNat 6)), (237570, .inl (0, .ofNat 3)), (868352, .inr (some (some 343))), (1073152, .inr (some (some 343))), (1277952, .inr (some (some 343)))], [1, 3, 4, 5, 6, 7, 30, 31, 32, 33, 34, 35, 36, 37, 38, 39, 40, 41, 42, 46, 47, 48, 49])), some (([(6, .inr (some (some 343))), (7, .inr (some (some 327))), (32768, .inr (some (some 343))), (237569, .inl (0, .ofNat 6)), (237570, .inl (0, .ofNat 4)), (663552, .inr (some (some 343))), (868352, .inr (some (some 343))), (1073152, .inr (some (some 343))), (1277952, .inr (some (some 343)))], [1, 3, 4, 5, 6, 7, 30, 31, 32, 33, 34, 35, 36, 37, 38, 39, 40, 41, 46, 47, 48, 49])), some (([(6, .inr (some (some 343))), (7, .inr (some (some 327))), (32768, .inr (some (some 343))), (237569, .inl (0, .ofNat 6)), (237570, .inl (0, .ofNat 5)), (458752, .inr (some (some 343))), (663552, .inr (some (some 343))), (868352, .inr (some (some 343))), (1073152, .inr (some (some 343))), (1277952, .inr (some (some 343)))], [1, 3, 4, 5, 6, 7, 30, 31, 32, 33, 34, 35, 36, 37, 38, 39, 40, 46, 47, 48, 49])), some (([(6, .inr (some (some 343))), (7, .inr (some (some 327))), (32768, .inr (some (some 343))), (237569, .inl (0, .ofNat 6)), (237570, .inl (0, .ofNat 6)), (253952, .inr (some (some 343))), (458752, .inr (some (some 343))), (663552, .inr (some (some 343))), (868352, .inr (some (some 343))), (1073152, .inr (some (some 343))), (1277952, .inr (some (some 343)))], [1, 3, 4, 5, 6, 7, 30, 31, 32, 33, 34, 35, 36, 37, 38, 39, 46, 47, 48, 49])), some (([(6, .inr (some (some 343))), (7, .inr (some (some 327))), (32768, .inr (some (some 343))), (237569, .inl (0, .ofNat 6)), (237570, .inl (0, .ofNat 7)), (253952, .inr (some (some 343))), (458752, .inr (some (some 343))), (663552, .inr (some (some 343))), (868352, .inr (some (some 343))), (1073152, .inr (some (some 343))), (1277952, .inr (some (some 343))), (2097152, .inr (some (some 343)))], [1, 3, 4, 5, 6, 7, 30, 31, 32, 33, 34, 35, 36, 37, 38, 39, 46, 47, 48])), some (([(6, .inr (some (some 343))), (7, .inr (some (some 327))), (32768, .inr (some (some 343))), (237569, .inl (0, .ofNat 6)), (237570, .inl (0, .ofNat 8)), (253952, .inr (some (some 343))), (458752, .inr (some (some 343))), (663552, .inr (some (some 343))), (868352, .inr (some (some 343))), (1073152, .inr (some (some 343))), (1277952, .inr (some (some 343))), (1892352, .inr (some (some 343))), (2097152, .inr (some (some 343)))], [1, 3, 4, 5, 6, 7, 30, 31, 32, 33, 34, 35, 36, 37, 38, 39, 46, 47])), some (([(6, .inr (some (some 343))), (7, .inr (some (some 327))), (32768, .inr (some (some 343))), (237569, .inl (0, .ofNat 6)), (237570, .inl (0, .ofNat 9)), (253952, .inr (some (some 343))), (458752, .inr (some (some 343))), (663552, .inr (some (some 343))), (868352, .inr (some (some 343))), (1073152, .inr (some (some 343))), (1277952, .inr (some (some 343))), (1687552, .inr (some (some 343))), (1892352, .inr (some (some 343))), (2097152, .inr (some (some 343)))], [1, 3, 4, 5, 6, 7, 30, 31, 32, 33, 34, 35, 36, 37, 38, 39, 46])), some (([(6, .inr (some (some 343))), (7, .inr (some (some 327))), (32768, .inr (some (some 343))), (237569, .inl (0, .ofNat 6)), (237570, .inl (0, .ofNat 10)), (253952, .inr (some (some 343))), (458752, .inr (some (some 343))), (663552, .inr (some (some 343))), (868352, .inr (some (some 343))), (1073152, .inr (some (some 343))), (1277952, .inr (some (some 343))), (1482752, .inr (some (some 343))), (1687552, .inr (some (some 343))), (1892352, .inr (some (some 343))), (2097152, .inr (some (some 343)))], [1, 3, 4, 5, 6, 7, 30, 31, 32, 33, 34, 35, 36, 37, 38, 39])), some (([(6, .inr (some (some 343))), (7, .inr (some (some 327))), (32768, .inr (some (some 343))), (237569, .inl (0, .ofNat 7)), (237570, .inl (0, .ofNat 0))], [1, 3, 4, 5, 6, 7, 30, 31, 32, 33, 34, 35, 36, 37, 38, 39, 40, 41, 42, 43, 44, 45, 46, 47, 48, 49])), some (([(6, .inr (some (some 343))), (7, .inr (some (some 327))), (32768, .inr (some (some 343))), (237569, .inl (0, .ofNat 7)), (237570, .inl (0, .ofNat 1)), (1482752, .inr (some (some 343)))], [1, 3, 4, 5, 6, 7, 30, 31, 32, 33, 34, 35, 36, 37, 38, 39, 40, 41, 42, 43, 44, 45, 47, 48, 49])), some (([(6, .inr (some (some 343))), (7, .inr (some (some 327))), (32768, .inr (some (some 343))), (237569, .inl (0, .ofNat 7)), (237570, .inl (0, .ofNat 2)), (1277952, .inr (some (some 343))), (1482752, .inr (some (some 343)))], [1, 3, 4, 5, 6, 7, 30, 31, 32, 33, 34, 35, 36, 37, 38, 39, 40, 41, 42, 43, 44, 47, 48, 49]))],
  some [some (([(6, .inr (some (some 343))), (7, .inr (some (some 327))), (32768, .inr (some (some 343))), (237569, .inl (0, .ofNat 7)), (237570, .inl (0, .ofNat 3)), (1073152, .inr (some (some 343))), (1277952, .inr (some (some 343))), (1482752, .inr (some (some 343)))], [1, 3, 4, 5, 6, 7, 30, 31, 32, 33, 34, 35, 36, 37, 38, 39, 40, 41, 42, 43, 47, 48, 49])), some (([(6, .inr (some (some 343))), (7, .inr (some (some 327))), (32768, .inr (some (some 343))), (237569, .inl (0, .ofNat 7)), (237570, .inl (0, .ofNat 4)), (868352, .inr (some (some 343))), (1073152, .inr (some (some 343))), (1277952, .inr (some (some 343))), (1482752, .inr (some (some 343)))], [1, 3, 4, 5, 6, 7, 30, 31, 32, 33, 34, 35, 36, 37, 38, 39, 40, 41, 42, 47, 48, 49])), some (([(6, .inr (some (some 343))), (7, .inr (some (some 327))), (32768, .inr (some (some 343))), (237569, .inl (0, .ofNat 7)), (237570, .inl (0, .ofNat 5)), (663552, .inr (some (some 343))), (868352, .inr (some (some 343))), (1073152, .inr (some (some 343))), (1277952, .inr (some (some 343))), (1482752, .inr (some (some 343)))], [1, 3, 4, 5, 6, 7, 30, 31, 32, 33, 34, 35, 36, 37, 38, 39, 40, 41, 47, 48, 49])), some (([(6, .inr (some (some 343))), (7, .inr (some (some 327))), (32768, .inr (some (some 343))), (237569, .inl (0, .ofNat 7)), (237570, .inl (0, .ofNat 6)), (458752, .inr (some (some 343))), (663552, .inr (some (some 343))), (868352, .inr (some (some 343))), (1073152, .inr (some (some 343))), (1277952, .inr (some (some 343))), (1482752, .inr (some (some 343)))], [1, 3, 4, 5, 6, 7, 30, 31, 32, 33, 34, 35, 36, 37, 38, 39, 40, 47, 48, 49])), some (([(6, .inr (some (some 343))), (7, .inr (some (some 327))), (32768, .inr (some (some 343))), (237569, .inl (0, .ofNat 7)), (237570, .inl (0, .ofNat 7)), (253952, .inr (some (some 343))), (458752, .inr (some (some 343))), (663552, .inr (some (some 343))), (868352, .inr (some (some 343))), (1073152, .inr (some (some 343))), (1277952, .inr (some (some 343))), (1482752, .inr (some (some 343)))], [1, 3, 4, 5, 6, 7, 30, 31, 32, 33, 34, 35, 36, 37, 38, 39, 47, 48, 49])), some (([(6, .inr (some (some 343))), (7, .inr (some (some 327))), (32768, .inr (some (some 343))), (237569, .inl (0, .ofNat 7)), (237570, .inl (0, .ofNat 8)), (253952, .inr (some (some 343))), (458752, .inr (some (some 343))), (663552, .inr (some (some 343))), (868352, .inr (some (some 343))), (1073152, .inr (some (some 343))), (1277952, .inr (some (some 343))), (1482752, .inr (some (some 343))), (2097152, .inr (some (some 343)))], [1, 3, 4, 5, 6, 7, 30, 31, 32, 33, 34, 35, 36, 37, 38, 39, 47, 48])), some (([(6, .inr (some (some 343))), (7, .inr (some (some 327))), (32768, .inr (some (some 343))), (237569, .inl (0, .ofNat 7)), (237570, .inl (0, .ofNat 9)), (253952, .inr (some (some 343))), (458752, .inr (some (some 343))), (663552, .inr (some (some 343))), (868352, .inr (some (some 343))), (1073152, .inr (some (some 343))), (1277952, .inr (some (some 343))), (1482752, .inr (some (some 343))), (1892352, .inr (some (some 343))), (2097152, .inr (some (some 343)))], [1, 3, 4, 5, 6, 7, 30, 31, 32, 33, 34, 35, 36, 37, 38, 39, 47])), some (([(6, .inr (some (some 343))), (7, .inr (some (some 327))), (32768, .inr (some (some 343))), (237569, .inl (0, .ofNat 7)), (237570, .inl (0, .ofNat 10)), (253952, .inr (some (some 343))), (458752, .inr (some (some 343))), (663552, .inr (some (some 343))), (868352, .inr (some (some 343))), (1073152, .inr (some (some 343))), (1277952, .inr (some (some 343))), (1482752, .inr (some (some 343))), (1687552, .inr (some (some 343))), (1892352, .inr (some (some 343))), (2097152, .inr (some (some 343)))], [1, 3, 4, 5, 6, 7, 30, 31, 32, 33, 34, 35, 36, 37, 38, 39])), some (([(6, .inr (some (some 343))), (7, .inr (some (some 327))), (32768, .inr (some (some 343))), (237569, .inl (0, .ofNat 8)), (237570, .inl (0, .ofNat 0))], [1, 3, 4, 5, 6, 7, 30, 31, 32, 33, 34, 35, 36, 37, 38, 39, 40, 41, 42, 43, 44, 45, 46, 47, 48, 49])), some (([(6, .inr (some (some 343))), (7, .inr (some (some 327))), (32768, .inr (some (some 343))), (237569, .inl (0, .ofNat 8)), (237570, .inl (0, .ofNat 1)), (1687552, .inr (some (some 343)))], [1, 3, 4, 5, 6, 7, 30, 31, 32, 33, 34, 35, 36, 37, 38, 39, 40, 41, 42, 43, 44, 45, 46, 48, 49])), some (([(6, .inr (some (some 343))), (7, .inr (some (some 327))), (32768, .inr (some (some 343))), (237569, .inl (0, .ofNat 8)), (237570, .inl (0, .ofNat 2)), (1482752, .inr (some (some 343))), (1687552, .inr (some (some 343)))], [1, 3, 4, 5, 6, 7, 30, 31, 32, 33, 34, 35, 36, 37, 38, 39, 40, 41, 42, 43, 44, 45, 48, 49])), some (([(6, .inr (some (some 343))), (7, .inr (some (some 327))), (32768, .inr (some (some 343))), (237569, .inl (0, .ofNat 8)), (237570, .inl (0, .ofNat 3)), (1277952, .inr (some (some 343))), (1482752, .inr (some (some 343))), (1687552, .inr (some (some 343)))], [1, 3, 4, 5, 6, 7, 30, 31, 32, 33, 34, 35, 36, 37, 38, 39, 40, 41, 42, 43, 44, 48, 49])), some (([(6, .inr (some (some 343))), (7, .inr (some (some 327))), (32768, .inr (some (some 343))), (237569, .inl (0, .ofNat 8)), (237570, .inl (0, .ofNat 4)), (1073152, .inr (some (some 343))), (1277952, .inr (some (some 343))), (1482752, .inr (some (some 343))), (1687552, .inr (some (some 343)))], [1, 3, 4, 5, 6, 7, 30, 31, 32, 33, 34, 35, 36, 37, 38, 39, 40, 41, 42, 43, 48, 49])), some (([(6, .inr (some (some 343))), (7, .inr (some (some 327))), (32768, .inr (some (some 343))), (237569, .inl (0, .ofNat 8)), (237570, .inl (0, .ofNat 5)), (868352, .inr (some (some 343))), (1073152, .inr (some (some 343))), (1277952, .inr (some (some 343))), (1482752, .inr (some (some 343))), (1687552, .inr (some (some 343)))], [1, 3, 4, 5, 6, 7, 30, 31, 32, 33, 34, 35, 36, 37, 38, 39, 40, 41, 42, 48, 49])), some (([(6, .inr (some (some 343))), (7, .inr (some (some 327))), (32768, .inr (some (some 343))), (237569, .inl (0, .ofNat 8)), (237570, .inl (0, .ofNat 6)), (663552, .inr (some (some 343))), (868352, .inr (some (some 343))), (1073152, .inr (some (some 343))), (1277952, .inr (some (some 343))), (1482752, .inr (some (some 343))), (1687552, .inr (some (some 343)))], [1, 3, 4, 5, 6, 7, 30, 31, 32, 33, 34, 35, 36, 37, 38, 39, 40, 41, 48, 49])), some (([(6, .inr (some (some 343))), (7, .inr (some (some 327))), (32768, .inr (some (some 343))), (237569, .inl (0, .ofNat 8)), (237570, .inl (0, .ofNat 7)), (458752, .inr (some (some 343))), (663552, .inr (some (some 343))), (868352, .inr (some (some 343))), (1073152, .inr (some (some 343))), (1277952, .inr (some (some 343))), (1482752, .inr (some (some 343))), (1687552, .inr (some (some 343)))], [1, 3, 4, 5, 6, 7, 30, 31, 32, 33, 34, 35, 36, 37, 38, 39, 40, 48, 49]))],
  some [some (([(6, .inr (some (some 343))), (7, .inr (some (some 327))), (32768, .inr (some (some 343))), (237569, .inl (0, .ofNat 8)), (237570, .inl (0, .ofNat 8)), (253952, .inr (some (some 343))), (458752, .inr (some (some 343))), (663552, .inr (some (some 343))), (868352, .inr (some (some 343))), (1073152, .inr (some (some 343))), (1277952, .inr (some (some 343))), (1482752, .inr (some (some 343))), (1687552, .inr (some (some 343)))], [1, 3, 4, 5, 6, 7, 30, 31, 32, 33, 34, 35, 36, 37, 38, 39, 48, 49])), some (([(6, .inr (some (some 343))), (7, .inr (some (some 327))), (32768, .inr (some (some 343))), (237569, .inl (0, .ofNat 8)), (237570, .inl (0, .ofNat 9)), (253952, .inr (some (some 343))), (458752, .inr (some (some 343))), (663552, .inr (some (some 343))), (868352, .inr (some (some 343))), (1073152, .inr (some (some 343))), (1277952, .inr (some (some 343))), (1482752, .inr (some (some 343))), (1687552, .inr (some (some 343))), (2097152, .inr (some (some 343)))], [1, 3, 4, 5, 6, 7, 30, 31, 32, 33, 34, 35, 36, 37, 38, 39, 48])), some (([(6, .inr (some (some 343))), (7, .inr (some (some 327))), (32768, .inr (some (some 343))), (237569, .inl (0, .ofNat 8)), (237570, .inl (0, .ofNat 10)), (253952, .inr (some (some 343))), (458752, .inr (some (some 343))), (663552, .inr (some (some 343))), (868352, .inr (some (some 343))), (1073152, .inr (some (some 343))), (1277952, .inr (some (some 343))), (1482752, .inr (some (some 343))), (1687552, .inr (some (some 343))), (1892352, .inr (some (some 343))), (2097152, .inr (some (some 343)))], [1, 3, 4, 5, 6, 7, 30, 31, 32, 33, 34, 35, 36, 37, 38, 39])), some (([(6, .inr (some (some 343))), (7, .inr (some (some 327))), (32768, .inr (some (some 343))), (237569, .inl (0, .ofNat 9)), (237570, .inl (0, .ofNat 0))], [1, 3, 4, 5, 6, 7, 30, 31, 32, 33, 34, 35, 36, 37, 38, 39, 40, 41, 42, 43, 44, 45, 46, 47, 48, 49])), some (([(6, .inr (some (some 343))), (7, .inr (some (some 327))), (32768, .inr (some (some 343))), (237569, .inl (0, .ofNat 9)), (237570, .inl (0, .ofNat 1)), (1892352, .inr (some (some 343)))], [1, 3, 4, 5, 6, 7, 30, 31, 32, 33, 34, 35, 36, 37, 38, 39, 40, 41, 42, 43, 44, 45, 46, 47, 49])), some (([(6, .inr (some (some 343))), (7, .inr (some (some 327))), (32768, .inr (some (some 343))), (237569, .inl (0, .ofNat 9)), (237570, .inl (0, .ofNat 2)), (1687552, .inr (some (some 343))), (1892352, .inr (some (some 343)))], [1, 3, 4, 5, 6, 7, 30, 31, 32, 33, 34, 35, 36, 37, 38, 39, 40, 41, 42, 43, 44, 45, 46, 49])), some (([(6, .inr (some (some 343))), (7, .inr (some (some 327))), (32768, .inr (some (some 343))), (237569, .inl (0, .ofNat 9)), (237570, .inl (0, .ofNat 3)), (1482752, .inr (some (some 343))), (1687552, .inr (some (some 343))), (1892352, .inr (some (some 343)))], [1, 3, 4, 5, 6, 7, 30, 31, 32, 33, 34, 35, 36, 37, 38, 39, 40, 41, 42, 43, 44, 45, 49])), some (([(6, .inr (some (some 343))), (7, .inr (some (some 327))), (32768, .inr (some (some 343))), (237569, .inl (0, .ofNat 9)), (237570, .inl (0, .ofNat 4)), (1277952, .inr (some (some 343))), (1482752, .inr (some (some 343))), (1687552, .inr (some (some 343))), (1892352, .inr (some (some 343)))], [1, 3, 4, 5, 6, 7, 30, 31, 32, 33, 34, 35, 36, 37, 38, 39, 40, 41, 42, 43, 44, 49])), some (([(6, .inr (some (some 343))), (7, .inr (some (some 327))), (32768, .inr (some (some 343))), (237569, .inl (0, .ofNat 9)), (237570, .inl (0, .ofNat 5)), (1073152, .inr (some (some 343))), (1277952, .inr (some (some 343))), (1482752, .inr (some (some 343))), (1687552, .inr (some (some 343))), (1892352, .inr (some (some 343)))], [1, 3, 4, 5, 6, 7, 30, 31, 32, 33, 34, 35, 36, 37, 38, 39, 40, 41, 42, 43, 49])), some (([(6, .inr (some (some 343))), (7, .inr (some (some 327))), (32768, .inr (some (some 343))), (237569, .inl (0, .ofNat 9)), (237570, .inl (0, .ofNat 6)), (868352, .inr (some (some 343))), (1073152, .inr (some (some 343))), (1277952, .inr (some (some 343))), (1482752, .inr (some (some 343))), (1687552, .inr (some (some 343))), (1892352, .inr (some (some 343)))], [1, 3, 4, 5, 6, 7, 30, 31, 32, 33, 34, 35, 36, 37, 38, 39, 40, 41, 42, 49])), some (([(6, .inr (some (some 343))), (7, .inr (some (some 327))), (32768, .inr (some (some 343))), (237569, .inl (0, .ofNat 9)), (237570, .inl (0, .ofNat 7)), (663552, .inr (some (some 343))), (868352, .inr (some (some 343))), (1073152, .inr (some (some 343))), (1277952, .inr (some (some 343))), (1482752, .inr (some (some 343))), (1687552, .inr (some (some 343))), (1892352, .inr (some (some 343)))], [1, 3, 4, 5, 6, 7, 30, 31, 32, 33, 34, 35, 36, 37, 38, 39, 40, 41, 49])), some (([(6, .inr (some (some 343))), (7, .inr (some (some 327))), (32768, .inr (some (some 343))), (237569, .inl (0, .ofNat 9)), (237570, .inl (0, .ofNat 8)), (458752, .inr (some (some 343))), (663552, .inr (some (some 343))), (868352, .inr (some (some 343))), (1073152, .inr (some (some 343))), (1277952, .inr (some (some 343))), (1482752, .inr (some (some 343))), (1687552, .inr (some (some 343))), (1892352, .inr (some (some 343)))], [1, 3, 4, 5, 6, 7, 30, 31, 32, 33, 34, 35, 36, 37, 38, 39, 40, 49])), some (([(6, .inr (some (some 343))), (7, .inr (some (some 327))), (32768, .inr (some (some 343))), (237569, .inl (0, .ofNat 9)), (237570, .inl (0, .ofNat 9)), (253952, .inr (some (some 343))), (458752, .inr (some (some 343))), (663552, .inr (some (some 343))), (868352, .inr (some (some 343))), (1073152, .inr (some (some 343))), (1277952, .inr (some (some 343))), (1482752, .inr (some (some 343))), (1687552, .inr (some (some 343))), (1892352, .inr (some (some 343)))], [1, 3, 4, 5, 6, 7, 30, 31, 32, 33, 34, 35, 36, 37, 38, 39, 49])), some (([(6, .inr (some (some 343))), (7, .inr (some (some 327))), (32768, .inr (some (some 343))), (237569, .inl (0, .ofNat 9)), (237570, .inl (0, .ofNat 10)), (253952, .inr (some (some 343))), (458752, .inr (some (some 343))), (663552, .inr (some (some 343))), (868352, .inr (some (some 343))), (1073152, .inr (some (some 343))), (1277952, .inr (some (some 343))), (1482752, .inr (some (some 343))), (1687552, .inr (some (some 343))), (1892352, .inr (some (some 343))), (2097152, .inr (some (some 343)))], [1, 3, 4, 5, 6, 7, 30, 31, 32, 33, 34, 35, 36, 37, 38, 39])), none, none]]
set_option maxRecDepth 1000000 in
theorem jxsB_rm1_0 : (List.range 11).all (fun c => jxs_rmb jxsB_T 0 c) = true := by decide +kernel
set_option maxRecDepth 1000000 in
theorem jxsB_rm1_1 : (List.range 11).all (fun c => jxs_rmb jxsB_T 1 c) = true := by decide +kernel
set_option maxRecDepth 1000000 in
theorem jxsB_rm1_2 : (List.range 11).all (fun c => jxs_rmb jxsB_T 2 c) = true := by decide +kernel
set_option maxRecDepth 1000000 in
theorem jxsB_rm1_3 : (List.range 11).all (fun c => jxs_rmb jxsB_T 3 c) = true := by decide +kernel
set_option maxRecDepth 1000000 in
theorem jxsB_rm1_4 : (List.range 11).all (fun c => jxs_rmb jxsB_T 4 c) = true := by decide +kernel
set_option maxRecDepth 1000000 in
theorem jxsB_rm1_5 : (List.range 11).all (fun c => jxs_rmb jxsB_T 5 c) = true := by decide +kernel
set_option maxRecDepth 1000000 in
theorem jxsB_rm1_6 : (List.range 11).all (fun c => jxs_rmb jxsB_T 6 c) = true := by decide +kernel
set_option maxRecDepth 1000000 in
theorem jxsB_rm1_7 : (List.range 11).all (fun c => jxs_rmb jxsB_T 7 c) = true := by decide +kernel
set_option maxRecDepth 1000000 in
theorem jxsB_rm1_8 : (List.range 11).all (fun c => jxs_rmb jxsB_T 8 c) = true := by decide +kernel
set_option maxRecDepth 1000000 in
theorem jxsB_rm1_9 : (List.range 11).all (fun c => jxs_rmb jxsB_T 9 c) = true := by decide +kernel
theorem jxsB_rm1 {n c : Nat} (hn : n < 10) (hc : c < 11) : jxs_rmb jxsB_T n c = true := by
  have hc := List.mem_range.mpr hc
  match n, hn with
  | 0, _ => exact List.all_eq_true.mp jxsB_rm1_0 c hc
  | 1, _ => exact List.all_eq_true.mp jxsB_rm1_1 c hc
  | 2, _ => exact List.all_eq_true.mp jxsB_rm1_2 c hc
  | 3, _ => exact List.all_eq_true.mp jxsB_rm1_3 c hc
  | 4, _ => exact List.all_eq_true.mp jxsB_rm1_4 c hc
  | 5, _ => exact List.all_eq_true.mp jxsB_rm1_5 c hc
  | 6, _ => exact List.all_eq_true.mp jxsB_rm1_6 c hc
  | 7, _ => exact List.all_eq_true.mp jxsB_rm1_7 c hc
  | 8, _ => exact List.all_eq_true.mp jxsB_rm1_8 c hc
  | 9, _ => exact List.all_eq_true.mp jxsB_rm1_9 c hc
  | n + 10, h => exact absurd h (by omega)
set_option maxRecDepth 1000000 in
theorem jxsB_tk1_0 : (List.range 11).all (fun c => (Nat.beq c 0 || jxs_tkb 2 jxsB_T 0 c)) = true := by decide +kernel
set_option maxRecDepth 1000000 in
theorem jxsB_tk1_1 : (List.range 11).all (fun c => (Nat.beq c 0 || jxs_tkb 2 jxsB_T 1 c)) = true := by decide +kernel
set_option maxRecDepth 1000000 in
theorem jxsB_tk1_2 : (List.range 11).all (fun c => (Nat.beq c 0 || jxs_tkb 2 jxsB_T 2 c)) = true := by decide +kernel
set_option maxRecDepth 1000000 in
theorem jxsB_tk1_3 : (List.range 11).all (fun c => (Nat.beq c 0 || jxs_tkb 2 jxsB_T 3 c)) = true := by decide +kernel
set_option maxRecDepth 1000000 in
theorem jxsB_tk1_4 : (List.range 11).all (fun c => (Nat.beq c 0 || jxs_tkb 2 jxsB_T 4 c)) = true := by decide +kernel
set_option maxRecDepth 1000000 in
theorem jxsB_tk1_5 : (List.range 11).all (fun c => (Nat.beq c 0 || jxs_tkb 2 jxsB_T 5 c)) = true := by decide +kernel
set_option maxRecDepth 1000000 in
theorem jxsB_tk1_6 : (List.range 11).all (fun c => (Nat.beq c 0 || jxs_tkb 2 jxsB_T 6 c)) = true := by decide +kernel
set_option maxRecDepth 1000000 in
theorem jxsB_tk1_7 : (List.range 11).all (fun c => (Nat.beq c 0 || jxs_tkb 2 jxsB_T 7 c)) = true := by decide +kernel
set_option maxRecDepth 1000000 in
theorem jxsB_tk1_8 : (List.range 11).all (fun c => (Nat.beq c 0 || jxs_tkb 2 jxsB_T 8 c)) = true := by decide +kernel
set_option maxRecDepth 1000000 in
theorem jxsB_tk1_9 : (List.range 11).all (fun c => (Nat.beq c 0 || jxs_tkb 2 jxsB_T 9 c)) = true := by decide +kernel
theorem jxsB_tk1 {n c : Nat} (hn : n < 10) (hc : c < 11) : (Nat.beq c 0 || jxs_tkb 2 jxsB_T n c) = true := by
  have hc := List.mem_range.mpr hc
  match n, hn with
  | 0, _ => exact List.all_eq_true.mp jxsB_tk1_0 c hc
  | 1, _ => exact List.all_eq_true.mp jxsB_tk1_1 c hc
  | 2, _ => exact List.all_eq_true.mp jxsB_tk1_2 c hc
  | 3, _ => exact List.all_eq_true.mp jxsB_tk1_3 c hc
  | 4, _ => exact List.all_eq_true.mp jxsB_tk1_4 c hc
  | 5, _ => exact List.all_eq_true.mp jxsB_tk1_5 c hc
  | 6, _ => exact List.all_eq_true.mp jxsB_tk1_6 c hc
  | 7, _ => exact List.all_eq_true.mp jxsB_tk1_7 c hc
  | 8, _ => exact List.all_eq_true.mp jxsB_tk1_8 c hc
  | 9, _ => exact List.all_eq_true.mp jxsB_tk1_9 c hc
  | n + 10, h => exact absurd h (by omega)
noncomputable def jxsB_q (n c : Nat) : Bool := match ja_n2 jxsB_T (11 * n + c) with
  | some (O, F) => (match jc_lk O 237569, jc_lk O 237570 with
    | some (.inl (0, .ofNat a)), some (.inl (0, .ofNat b)) => Nat.beq a n && Nat.beq b c
    | _, _ => false) && (jxs_S n c).all fun i => (match jc_lk O (jc_key (31 + 25 * i) 0) with
    | some (.inr (some (some b))) => Nat.beq b 343
    | _ => false) && !jc_off F (40 + i)
  | none => false
theorem jxsB_q1 : jxs_pr jxsB_q = true := by decide +kernel
theorem jxsB_Xof {r : jc_R} {t : jc_T} {h : J_H} {X : J_H → Prop} {n c : Nat} {O : List (Nat × jc_v)} {F : List Nat} (hT : ja_n2 jxsB_T (11 * n + c) = some (O, F)) (hg : jc_g jxs X r t (jxs_st O F) h) (hn : n < 10) (hc : c < 11) : jxs_X 40 343 h := by
  have q0 := jxs_pr_ok jxsB_q1 hn hc
  unfold jxsB_q at q0
  rw [hT] at q0
  obtain ⟨q1, q2⟩ := Bool.and_eq_true_iff.mp q0
  obtain ⟨d1, e1, e2⟩ := jxs_len_ok (a := 29) (i := 1) (by decide +kernel)
  obtain ⟨d2, e3, e4⟩ := jxs_len_ok (a := 29) (i := 2) (by decide +kernel)
  have k1 : ∃ y : Int32, jc_at h 29 1 = some (.int y) ∧ y.toInt = (n : Int) := by
    split at q1
    · rename_i a b ha hb
      have qa := Nat.eq_of_beq_eq_true (Bool.and_eq_true_iff.mp q1).1
      subst qa
      obtain ⟨v, v1, v2⟩ := hg.atO (a := 29) (i := 1) e1 e2 ha
      obtain ⟨y, rfl, -, y2⟩ := v2.int
      exact ⟨y, v1, by rw [y2, hg.1.1]; exact Int.zero_add _⟩
    · cases q1
  have k2 : ∃ y : Int32, jc_at h 29 2 = some (.int y) ∧ y.toInt = (c : Int) := by
    split at q1
    · rename_i a b ha hb
      have qa := Nat.eq_of_beq_eq_true (Bool.and_eq_true_iff.mp q1).2
      subst qa
      obtain ⟨v, v1, v2⟩ := hg.atO (a := 29) (i := 2) e3 e4 hb
      obtain ⟨y, rfl, -, y2⟩ := v2.int
      exact ⟨y, v1, by rw [y2, hg.1.1]; exact Int.zero_add _⟩
    · cases q1
  refine ⟨n, c, hn, hc, k1, k2, fun i hi => ?_, t, fun f m hm ⟨i, hi, e⟩ => ?_⟩
  · have q3 := (Bool.and_eq_true_iff.mp (List.all_eq_true.mp q2 i hi)).1
    obtain ⟨d, d1, d2⟩ := jxs_lay_ok hi
    split at q3
    · rename_i b hb
      have qb := Nat.eq_of_beq_eq_true q3
      subst qb
      obtain ⟨v, v1, v2⟩ := hg.atO d1 d2 hb
      rw [v1, v2.ref]
    · cases q3
  · have o1 := (Bool.and_eq_true_iff.mp (List.all_eq_true.mp q2 i hi)).2
    refine hg.fam rfl hm ?_
    rw [e]
    simpa using o1
theorem jxsB_in : ja_ch2 (fun _ (m : jc_Fa) => !(Nat.ble 40 m.1 && Nat.ble (m.1 + 1) (40 + 10)) || jc_all (fun c => jc_inW jxb.2.2.2.2 c.1 c.2) m.2.1) jxs.2.1 = true := by decide +kernel
theorem jxsB_in2 : (List.range 10).all (fun i => jc_inW jxb.2.2.2.2 (31 + 25 * i) 0) = true := by decide +kernel
theorem jxsB_Xo : jc_Xo jxb (jxs_X 40 343) := by
  rintro h h' hh ⟨n, c, hn, hc, ⟨y1, a1, a2⟩, ⟨y2, b1, b2⟩, hl, t, ht⟩
  refine ⟨n, c, hn, hc, ⟨y1, ?_, a2⟩, ⟨y2, ?_, b2⟩, fun i hi => ?_, t, fun f m hm hi => ?_⟩
  · rw [hh 29 1 (by decide +kernel)]; exact a1
  · rw [hh 29 2 (by decide +kernel)]; exact b1
  · rw [hh _ 0 (List.all_eq_true.mp jxsB_in2 i (List.mem_range.mpr (jxs_S_lt hi)))]; exact hl i hi
  · obtain ⟨z1, z2⟩ := ht f m hm hi
    refine ⟨z1, jc_in_eq (fun q hq => hh q.1 q.2 ?_) z2⟩
    obtain ⟨i, hi, e⟩ := hi
    have hi := jxs_S_lt hi
    have hck := ja_ch2_ok (p := fun _ (m : jc_Fa) => !(Nat.ble 40 m.1 && Nat.ble (m.1 + 1) (40 + 10)) || jc_all (fun c => jc_inW jxb.2.2.2.2 c.1 c.2) m.2.1) jxsB_in hm
    rw [show Nat.ble 40 m.1 = true from Nat.ble_eq_true_of_le (by omega), show Nat.ble (m.1 + 1) (40 + 10) = true from Nat.ble_eq_true_of_le (by omega)] at hck
    exact jc_all_ok hck q hq
def jxsB_o : jc_A := (1, [], jxb_g0.2.2.2.1.2.2.1, [], [], [1, 3, 4, 5, 6, 7, 30, 31, 32, 33, 34, 35, 36, 37, 38, 39, 40, 41, 42, 43, 44, 45, 46, 47, 48, 49])
noncomputable def jxsB_b (n c : Nat) : Bool := match ja_n2 jxsB_T (11 * n + c) with
  | some (O, F) => ((jxs_all.all fun g => (jc_off F g || (Nat.beq g 0 || (Nat.beq g 2 || (jxs_S n c).any fun i => Nat.beq g (40 + i)))))) && ((jc_arr jxs [] (1, [], (jxs_l 343 n c).foldr (fun e O => (jc_key e.1.1 e.1.2, e.2) :: O) jxb_g0.2.2.2.1.2.2.1, [], [], F) [] (jxs_st O F)).isSome && ((jc_arr jxs [] (2, [(1, 1, 10)], (jxs_l 343 n c).foldr (fun e O => (jc_key e.1.1 e.1.2, e.2) :: O) jxb_g1.2.2.2.1.2.2.1, [], [], 2 :: F) [] (jxs_st O (2 :: F))).isSome && (jc_arr jxs [] (jxs_st O F) [] jxsB_o).isSome))
  | none => false
theorem jxsB_b1 : jxs_pr jxsB_b = true := by decide +kernel
theorem jxsB_lk {r : jc_R} {m n c : Nat} {h : J_H} (h0 : r 0 = 0) (hm : 0 < m) (k1 : ∃ y : Int32, jc_at h 29 1 = some (.int y) ∧ y.toInt = (n : Int)) (k2 : ∃ y : Int32, jc_at h 29 2 = some (.int y) ∧ y.toInt = (c : Int)) (hl : ∀ i ∈ jxs_S n c, jc_at h (31 + 25 * i) 0 = some (.ref 343)) : ∀ e ∈ jxs_l 343 n c, ∃ d v, ja_n2 jxs.1 e.1.1 = some d ∧ e.1.2 < d.1.2.2 ∧ jc_at h e.1.1 e.1.2 = some v ∧ jc_val r m e.2 v := by
  intro e he
  rcases List.mem_append.mp he with he | he
  · obtain ⟨i, hi, rfl⟩ := List.mem_map.mp he
    obtain ⟨d, d1, d2⟩ := jxs_lay_ok hi
    exact ⟨d, _, d1, d2, hl i hi, rfl⟩
  · rcases List.mem_cons.mp he with rfl | he
    · obtain ⟨d1, e1, e2⟩ := jxs_len_ok (a := 29) (i := 1) (by decide +kernel)
      obtain ⟨y, y1, y2⟩ := k1
      exact ⟨d1, _, e1, e2, y1, hm, by rw [y2, h0]; exact (Int.zero_add _).symm⟩
    · rcases List.mem_cons.mp he with rfl | he
      · obtain ⟨d1, e1, e2⟩ := jxs_len_ok (a := 29) (i := 2) (by decide +kernel)
        obtain ⟨y, y1, y2⟩ := k2
        exact ⟨d1, _, e1, e2, y1, hm, by rw [y2, h0]; exact (Int.zero_add _).symm⟩
      · cases he
theorem jxsB_off0 : jc_off jxb_g0.2.2.2.1.2.2.2.2.2 0 = false ∧ jc_off jxb_g0.2.2.2.1.2.2.2.2.2 2 = false := by decide +kernel
theorem jxsB_oo : ∀ g, g ≤ 7 → jc_off jxb_g0.2.2.2.1.2.2.2.2.2 g = false → jc_off jxsB_o.2.2.2.2.2 g = false := by
  intro g hg
  have : ∀ g : Fin 8, jc_off jxb_g0.2.2.2.1.2.2.2.2.2 g.val = false → jc_off jxsB_o.2.2.2.2.2 g.val = false := by decide +kernel
  exact this ⟨g, by omega⟩
theorem jxb_g0_ok : jc_Con jP jxb (jxs_X 40 343) jxb_g0 := by
  intro d hd r t h As hg hA
  obtain ⟨n, c, hn, hc, k1, k2, hl, tX, hf⟩ := id hg.2.2.2.2
  have hg' : jc_g jxa (jxs_X 40 343) r t jxb_g0.2.2.2.1 h := hg
  obtain ⟨O, F, O', F', hT, hT', hCon⟩ := jxs_rmb_ok (jxsB_rm1 hn hc)
  have hb0 := jxs_pr_ok jxsB_b1 hn hc
  unfold jxsB_b at hb0
  rw [hT] at hb0
  obtain ⟨b1, hb⟩ := Bool.and_eq_true_iff.mp hb0
  obtain ⟨b2, hb⟩ := Bool.and_eq_true_iff.mp hb
  have g1 := jc_g.env jxs_D1 hg' (X' := fun _ => True) (t' := fun f => match ja_n2 jxs.2.1 f with
    | some m => if m.1 = 0 ∨ m.1 = 2 then t f else tX f
    | none => tX f) (O' := F) (fun f m hm ho => by
      rw [hm]
      dsimp only
      by_cases h0 : m.1 = 0 ∨ m.1 = 2
      · rw [if_pos h0]
        refine hg'.fam rfl (jxs_f1 hm (by omega)) ?_
        rcases h0 with h0 | h0 <;> rw [h0]
        · exact jxsB_off0.1
        · exact jxsB_off0.2
      · rw [if_neg h0]
        refine hf f m hm ?_
        have hi := jc_inl_ok (ja_ch2_ok (p := fun _ (m : jc_Fa) => jc_inl m.1 jxs_all) jxs_tags hm)
        have := List.all_eq_true.mp b1 m.1 hi
        rw [ho, Bool.false_or] at this
        rcases Bool.or_eq_true_iff.mp this with z | z
        · exact absurd (Or.inl (Nat.eq_of_beq_eq_true z)) h0
        · rcases Bool.or_eq_true_iff.mp z with z | z
          · exact absurd (Or.inr (Nat.eq_of_beq_eq_true z)) h0
          · obtain ⟨i, i1, i2⟩ := List.any_eq_true.mp z
            exact ⟨i, i1, Nat.eq_of_beq_eq_true i2⟩) jxs_noP trivial
  have g2 := g1.adds jxs_ok (jxs_l 343 n c) (jxsB_lk hg.1.1 hg.1.2.1 k1 k2 hl)
  obtain ⟨r3, t3, g3⟩ := g2.to jxs_ok (T := jxs_st O F) b2
  refine (hCon d hd r3 t3 h As g3 (jxs_refs hA)).mono ?_
  rintro rv h' ⟨f1, o, o1, r4, t4, g4, an⟩
  obtain rfl := List.mem_singleton.mp o1
  have hn' : (n + 1) % 10 < 10 := Nat.mod_lt _ (by decide)
  have hc' : min (c + 1) 10 < 11 := by omega
  have hb' := jxs_pr_ok jxsB_b1 hn' hc'
  unfold jxsB_b at hb'
  rw [hT'] at hb'
  have b5 := (Bool.and_eq_true_iff.mp (Bool.and_eq_true_iff.mp (Bool.and_eq_true_iff.mp hb').2).2).2
  obtain ⟨r5, t5, g5⟩ := g4.to jxs_ok b5
  exact ⟨f1, _, List.mem_cons_self, r5, t5, jc_g.env jxs_D2 g5 (O' := jxb_g0.2.2.2.1.2.2.2.2.2) (fun f m hm ho => by
    obtain ⟨m1, m2⟩ := jxs_f2 hm
    refine g5.fam rfl m1 ?_
    exact jxsB_oo m.1 m2 ho) jxa_noP (jxsB_Xof hT' g4 hn' hc'), jxs_an an⟩
theorem jxb_g1_ok : jc_Con jP jxb (jxs_X 40 343) jxb_g1 := by
  intro d hd r t h As hg hA
  obtain ⟨n, c, hn, hc, k1, k2, hl, tX, hf⟩ := id hg.2.2.2.2
  have hg' : jc_g jxa (jxs_X 40 343) r t jxb_g1.2.2.2.1 h := hg
  have h0c : 0 < c := by
    obtain ⟨d1, e1, e2⟩ := jxs_len_ok (a := 29) (i := 2) (by decide +kernel)
    obtain ⟨v, v1, v2⟩ := jxs_atA hg' (by decide +kernel)
    obtain ⟨y, y1, y2⟩ := k2
    rw [y1] at v1
    cases v1
    have hB := hg'.1.2.2 (1, 1, 10) (by decide)
    obtain ⟨-, y3⟩ := v2
    rw [y2] at y3
    dsimp only at hB y3
    omega
  have htk : jxs_tkb 2 jxsB_T n c = true := (Bool.or_eq_true_iff.mp (jxsB_tk1 hn hc)).resolve_left (fun z => by have := Nat.eq_of_beq_eq_true z; omega)
  obtain ⟨O, F, O', F', hT, hT', hCon⟩ := jxs_tkb_ok htk
  have hb0 := jxs_pr_ok jxsB_b1 hn hc
  unfold jxsB_b at hb0
  rw [hT] at hb0
  obtain ⟨b1, hb⟩ := Bool.and_eq_true_iff.mp hb0
  obtain ⟨-, hb⟩ := Bool.and_eq_true_iff.mp hb
  obtain ⟨b2, -⟩ := Bool.and_eq_true_iff.mp hb
  have g1 := jc_g.env jxs_D1 hg' (X' := fun _ => True) (t' := fun f => match ja_n2 jxs.2.1 f with
    | some m => if m.1 = 0 then t f else tX f
    | none => tX f) (O' := 2 :: F) (fun f m hm ho => by
      rw [hm]
      dsimp only
      by_cases h0 : m.1 = 0
      · rw [if_pos h0]
        refine hg'.fam rfl (jxs_f1 hm (by omega)) ?_
        rw [h0]
        decide +kernel
      · rw [if_neg h0]
        refine hf f m hm ?_
        have hi := jc_inl_ok (ja_ch2_ok (p := fun _ (m : jc_Fa) => jc_inl m.1 jxs_all) jxs_tags hm)
        have := List.all_eq_true.mp b1 m.1 hi
        obtain ⟨ho1, ho2⟩ := Bool.or_eq_false_iff.mp (show (Nat.beq m.1 2 || jc_off F m.1) = false from ho)
        rw [ho2, Bool.false_or, ho1, Bool.false_or] at this
        rcases Bool.or_eq_true_iff.mp this with z | z
        · exact absurd (Nat.eq_of_beq_eq_true z) h0
        · obtain ⟨i, i1, i2⟩ := List.any_eq_true.mp z
          exact ⟨i, i1, Nat.eq_of_beq_eq_true i2⟩) jxs_noP trivial
  have g2 := g1.adds jxs_ok (jxs_l 343 n c) (jxsB_lk hg.1.1 hg.1.2.1 k1 k2 hl)
  obtain ⟨r3, t3, g3⟩ := g2.to jxs_ok (T := jxs_st O (2 :: F)) b2
  refine (hCon d hd r3 t3 h As g3 (jxs_refs hA)).mono ?_
  rintro rv h' ⟨f1, o, o1, r4, t4, g4, an⟩
  obtain rfl := List.mem_singleton.mp o1
  have hn' : (n + 9) % 10 < 10 := Nat.mod_lt _ (by decide)
  have hc' : c - 1 < 11 := by omega
  have hb' := jxs_pr_ok jxsB_b1 hn' hc'
  unfold jxsB_b at hb'
  rw [hT'] at hb'
  have b5 := (Bool.and_eq_true_iff.mp (Bool.and_eq_true_iff.mp (Bool.and_eq_true_iff.mp hb').2).2).2
  obtain ⟨r5, t5, g5⟩ := g4.to jxs_ok b5
  exact ⟨f1, _, List.mem_cons_self, r5, t5, jc_g.env jxs_D2 g5 (O' := jxb_g0.2.2.2.1.2.2.2.2.2) (fun f m hm ho => by
    obtain ⟨m1, m2⟩ := jxs_f2 hm
    refine g5.fam rfl m1 ?_
    exact jxsB_oo m.1 m2 ho) jxa_noP (jxsB_Xof hT' g4 hn' hc'), jxs_an an⟩

