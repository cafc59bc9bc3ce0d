/-! saved states of the class: what holds of the last of them, remember, takeBack; written by wip/p3/gen_acts.py -/
noncomputable def jc_envD (E E' : jc_E) : Bool := ja_ch2 (fun a (d' : jc_Dd) => match ja_n2 E.1 a with
  | some d => decide (d.1 = d'.1) && (List.range d.1.2.2).all (fun i => match jc_sg d'.2 i with
    | some T' => (match jc_sg d.2 i with
      | some T => decide (T.1 = T'.1)
      | none => false)
    | none => true)
  | none => false) E'.1
/-- the same heap by other tables -/
theorem jc_g.env {E E' : jc_E} {X X' : J_H → Prop} {r : jc_R} {t t' : jc_T} {A : jc_A} {h : J_H} {O' : List Nat} (hD : jc_envD E E' = true) (hg : jc_g E X r t A h) (hF : ∀ f m, ja_n2 E'.2.1 f = some m → jc_off O' m.1 = false → t' f ∈ m.2.2.1 ∧ jc_in h m.2.1 (t' f)) (hP : ∀ p, ja_n2 E'.2.2.1 p = none) (hX : X' h) : jc_g E' X' r t' (A.1, A.2.1, A.2.2.1, [], [], O') h := by
  refine ⟨hg.1, fun a d' hd' => ?_, fun f m hm ho => ?_, fun p m hm ho => (by rw [hP p] at hm; cases hm), hX⟩
  · have hc := ja_ch2_ok (p := fun a (d' : jc_Dd) => match ja_n2 E.1 a with
      | some d => decide (d.1 = d'.1) && (List.range d.1.2.2).all (fun i => match jc_sg d'.2 i with
        | some T' => (match jc_sg d.2 i with
          | some T => decide (T.1 = T'.1)
          | none => false)
        | none => true)
      | none => false) hD hd'
    split at hc
    · rename_i d hd
      obtain ⟨k1, k2⟩ := Bool.and_eq_true_iff.mp hc
      obtain ⟨c, c1, c2, c3⟩ := hg.2.1 a d hd
      refine ⟨c, c1, c2.trans (of_decide_eq_true k1), fun i v hv => ?_⟩
      have h1 := c3 i v hv
      unfold jc_cl at h1 ⊢
      dsimp only
      split at h1
      · exact h1
      · intro T' hT'
        have hi : i < d.1.2.2 := by
          have := jc_get_lt hv
          rw [c2] at this
          exact this
        have k3 := List.all_eq_true.mp k2 i (List.mem_range.mpr hi)
        rw [hT'] at k3
        dsimp only at k3
        split at k3
        · rename_i T hT
          rw [← of_decide_eq_true k3]
          exact h1 T hT
        · cases k3
    · cases hc
  · have := hF f m hm ho
    unfold jc_fm
    exact this
set_option maxRecDepth 1000000 in
theorem jxs_D1 : jc_envD jxa jxs = true := by decide +kernel
set_option maxRecDepth 1000000 in
theorem jxs_D2 : jc_envD jxs jxa = true := by decide +kernel
theorem jxs_sub1 : ja_ch2 (fun f (m' : jc_Fa) => !(Nat.ble m'.1 7) || (match ja_n2 jxa.2.1 f with
  | some m => decide (m = m')
  | none => false)) jxs.2.1 = true := by decide +kernel
theorem jxs_sub2 : ja_ch2 (fun f (m' : jc_Fa) => Nat.ble m'.1 7 && (match ja_n2 jxs.2.1 f with
  | some m => decide (m = m')
  | none => false)) jxa.2.1 = true := by decide +kernel
theorem jxs_f1 {f : Nat} {m : jc_Fa} (hm : ja_n2 jxs.2.1 f = some m) (h7 : m.1 ≤ 7) : ja_n2 jxa.2.1 f = some m := by
  have := ja_ch2_ok (p := fun f (m' : jc_Fa) => !(Nat.ble m'.1 7) || (match ja_n2 jxa.2.1 f with
    | some m => decide (m = m')
    | none => false)) jxs_sub1 hm
  rw [Nat.ble_eq_true_of_le h7] at this
  split at this
  · rename_i m2 hm2
    rw [hm2, of_decide_eq_true this]
  · cases this
theorem jxs_f2 {f : Nat} {m : jc_Fa} (hm : ja_n2 jxa.2.1 f = some m) : ja_n2 jxs.2.1 f = some m ∧ m.1 ≤ 7 := by
  have := ja_ch2_ok (p := fun f (m' : jc_Fa) => Nat.ble m'.1 7 && (match ja_n2 jxs.2.1 f with
    | some m => decide (m = m')
    | none => false)) jxs_sub2 hm
  obtain ⟨h1, h2⟩ := Bool.and_eq_true_iff.mp this
  refine ⟨?_, Nat.le_of_ble_eq_true h1⟩
  split at h2
  · rename_i m2 hm2
    rw [hm2, of_decide_eq_true h2]
  · cases h2
theorem jxa_noP (p : Nat) : ja_n2 jxa.2.2.1 p = none := rfl
theorem jxs_Xo : jc_Xo jxs (fun _ => True) := fun _ _ _ _ => trivial
noncomputable def jxs_len (a : Nat) : Nat := match ja_n2 jxs.1 a with
  | some d => d.1.2.2
  | none => 0
theorem jxs_len_ok {a i : Nat} (h : Nat.ble (i + 1) (jxs_len a) = true) : ∃ d, ja_n2 jxs.1 a = some d ∧ i < d.1.2.2 := by
  have h := Nat.le_of_ble_eq_true h
  unfold jxs_len at h
  split at h
  · rename_i d hd
    exact ⟨d, hd, h⟩
  · exact absurd h (Nat.not_succ_le_zero _)
def jxs_all : List Nat := [0, 1, 2, 3, 4, 5, 6, 7, 30, 31, 32, 33, 34, 35, 36, 37, 38, 39, 40, 41, 42, 43, 44, 45, 46, 47, 48, 49]
theorem jxs_tags : ja_ch2 (fun _ (m : jc_Fa) => jc_inl m.1 jxs_all) jxs.2.1 = true := by decide +kernel
theorem jxs_atA {X : J_H → Prop} {r : jc_R} {t : jc_T} {A : jc_A} {h : J_H} {s : jc_v} (hg : jc_g jxa X r t A h) (hs : jc_lk A.2.2.1 (jc_key 29 2) = some s) : ∃ v, jc_at h 29 2 = some v ∧ jc_val r A.1 s v := by
  have hb : (match ja_n2 jxa.1 29 with
    | some d => Nat.ble 3 d.1.2.2
    | none => false) = true := by decide +kernel
  split at hb
  · rename_i d hd
    exact hg.atO hd (Nat.le_of_ble_eq_true hb) hs
  · cases hb
theorem jxs_noP (p : Nat) : ja_n2 jxs.2.2.1 p = none := rfl
/-- the saved states that count: c of them, the next to be written is n -/
def jxs_S (n c : Nat) : List Nat := (List.range c).map fun k => (n + 9 - k) % 10
/-- states: what cells hold, which tags are off (the one of now is on) -/
abbrev jxs_Tb : Type := jc_t2 (List (Nat × jc_v) × List Nat)
abbrev jxs_st (O : List (Nat × jc_v)) (F : List Nat) : jc_A := (1, [], O, [], [], F)
def jxs_W0 : jc_W := [(31, 0, 19), (32, 0, 5), (33, 0, 5), (34, 0, 5), (35, 0, 5), (36, 0, 5), (37, 0, 5), (38, 0, 5), (39, 0, 6), (40, 0, 6), (41, 0, 35), (42, 0, 35), (43, 0, 12), (45, 0, 5), (46, 0, 5), (48, 0, 25), (49, 0, 25), (50, 0, 25), (51, 0, 7), (52, 0, 5), (53, 0, 6), (54, 0, 30), (55, 0, 260), (44, 0, 3), (47, 0, 10), (56, 0, 19), (57, 0, 5), (58, 0, 5), (59, 0, 5), (60, 0, 5), (61, 0, 5), (62, 0, 5), (63, 0, 5), (64, 0, 6), (65, 0, 6), (66, 0, 35), (67, 0, 35), (68, 0, 12), (70, 0, 5), (71, 0, 5), (73, 0, 25), (74, 0, 25), (75, 0, 25), (76, 0, 7), (77, 0, 5), (78, 0, 6), (79, 0, 30), (80, 0, 260), (69, 0, 3), (72, 0, 10), (81, 0, 19), (82, 0, 5), (83, 0, 5), (84, 0, 5), (85, 0, 5), (86, 0, 5), (87, 0, 5), (88, 0, 5), (89, 0, 6), (90, 0, 6), (91, 0, 35), (92, 0, 35), (93, 0, 12), (95, 0, 5), (96, 0, 5), (98, 0, 25), (99, 0, 25), (100, 0, 25), (101, 0, 7), (102, 0, 5), (103, 0, 6), (104, 0, 30), (105, 0, 260), (94, 0, 3), (97, 0, 10), (106, 0, 19), (107, 0, 5), (108, 0, 5), (109, 0, 5), (110, 0, 5), (111, 0, 5), (112, 0, 5), (113, 0, 5), (114, 0, 6), (115, 0, 6), (116, 0, 35), (117, 0, 35), (118, 0, 12), (120, 0, 5), (121, 0, 5), (123, 0, 25), (124, 0, 25), (125, 0, 25), (126, 0, 7), (127, 0, 5), (128, 0, 6), (129, 0, 30), (130, 0, 260), (119, 0, 3), (122, 0, 10), (131, 0, 19), (132, 0, 5), (133, 0, 5), (134, 0, 5), (135, 0, 5), (136, 0, 5), (137, 0, 5), (138, 0, 5), (139, 0, 6), (140, 0, 6), (141, 0, 35), (142, 0, 35), (143, 0, 12), (145, 0, 5), (146, 0, 5), (148, 0, 25), (149, 0, 25), (150, 0, 25), (151, 0, 7), (152, 0, 5), (153, 0, 6), (154, 0, 30), (155, 0, 260), (144, 0, 3), (147, 0, 10), (156, 0, 19), (157, 0, 5), (158, 0, 5), (159, 0, 5), (160, 0, 5), (161, 0, 5), (162, 0, 5), (163, 0, 5), (164, 0, 6), (165, 0, 6), (166, 0, 35), (167, 0, 35), (168, 0, 12), (170, 0, 5), (171, 0, 5), (173, 0, 25), (174, 0, 25), (175, 0, 25), (176, 0, 7), (177, 0, 5), (178, 0, 6), (179, 0, 30), (180, 0, 260), (169, 0, 3), (172, 0, 10), (181, 0, 19), (182, 0, 5), (183, 0, 5), (184, 0, 5), (185, 0, 5), (186, 0, 5), (187, 0, 5), (188, 0, 5), (189, 0, 6), (190, 0, 6), (191, 0, 35), (192, 0, 35), (193, 0, 12), (195, 0, 5), (196, 0, 5), (198, 0, 25), (199, 0, 25), (200, 0, 25), (201, 0, 7), (202, 0, 5), (203, 0, 6), (204, 0, 30), (205, 0, 260), (194, 0, 3), (197, 0, 10), (206, 0, 19), (207, 0, 5), (208, 0, 5), (209, 0, 5), (210, 0, 5), (211, 0, 5), (212, 0, 5), (213, 0, 5), (214, 0, 6), (215, 0, 6), (216, 0, 35), (217, 0, 35), (218, 0, 12), (220, 0, 5), (221, 0, 5), (223, 0, 25), (224, 0, 25), (225, 0, 25), (226, 0, 7), (227, 0, 5), (228, 0, 6), (229, 0, 30), (230, 0, 260), (219, 0, 3), (222, 0, 10), (231, 0, 19), (232, 0, 5), (233, 0, 5), (234, 0, 5), (235, 0, 5), (236, 0, 5), (237, 0, 5), (238, 0, 5), (239, 0, 6), (240, 0, 6), (241, 0, 35), (242, 0, 35), (243, 0, 12), (245, 0, 5), (246, 0, 5), (248, 0, 25), (249, 0, 25), (250, 0, 25), (251, 0, 7), (252, 0, 5), (253, 0, 6), (254, 0, 30), (255, 0, 260), (244, 0, 3), (247, 0, 10), (256, 0, 19), (257, 0, 5), (258, 0, 5), (259, 0, 5), (260, 0, 5), (261, 0, 5), (262, 0, 5), (263, 0, 5), (264, 0, 6), (265, 0, 6), (266, 0, 35), (267, 0, 35), (268, 0, 12), (270, 0, 5), (271, 0, 5), (273, 0, 25), (274, 0, 25), (275, 0, 25), (276, 0, 7), (277, 0, 5), (278, 0, 6), (279, 0, 30), (280, 0, 260), (269, 0, 3), (272, 0, 10), (29, 1, 3)]
def jxs_W1 : jc_W := [(29, 1, 3), (4, 1, 4), (5, 0, 5), (6, 0, 5), (7, 0, 5), (8, 0, 5), (9, 0, 5), (10, 0, 5), (11, 0, 5), (12, 0, 6), (13, 0, 6), (14, 0, 35), (15, 0, 35), (16, 0, 12), (4, 15, 16), (17, 1, 2), (18, 0, 5), (19, 0, 5), (21, 0, 25), (22, 0, 25), (23, 0, 25), (24, 0, 7), (25, 0, 5), (26, 0, 6), (27, 0, 30), (28, 0, 260), (20, 8, 9), (4, 0, 1)]
def jxs_l (x n c : Nat) : List ((Nat × Nat) × jc_v) := (jxs_S n c).map (fun i => ((31 + 25 * i, 0), .inr (some (some x)))) ++ [((29, 1), .inl (0, (n : Int))), ((29, 2), .inl (0, (c : Int)))]
def jxs_X (tg x : Nat) (h : J_H) : Prop := ∃ n c : Nat, n < 10 ∧ c < 11 ∧ (∃ y : Int32, jc_at h 29 1 = some (.int y) ∧ y.toInt = (n : Int)) ∧ (∃ y : Int32, jc_at h 29 2 = some (.int y) ∧ y.toInt = (c : Int)) ∧ (∀ i ∈ jxs_S n c, jc_at h (31 + 25 * i) 0 = some (.ref x)) ∧ ∃ t : jc_T, ∀ f m, ja_n2 jxs.2.1 f = some m → (∃ i ∈ jxs_S n c, m.1 = tg + i) → t f ∈ m.2.2.1 ∧ jc_in h m.2.1 (t f)
theorem jxs_S_lt {n c i : Nat} (h : i ∈ jxs_S n c) : i < 10 := by
  obtain ⟨k, -, rfl⟩ := List.mem_map.mp h
  exact Nat.mod_lt _ (by decide)
theorem jxs_lay : (List.range 10).all (fun i => Nat.ble 1 (jxs_len (31 + 25 * i))) = true := by decide +kernel
theorem jxs_lay_ok {n c i : Nat} (h : i ∈ jxs_S n c) : ∃ d, ja_n2 jxs.1 (31 + 25 * i) = some d ∧ 0 < d.1.2.2 := jxs_len_ok (List.all_eq_true.mp jxs_lay i (List.mem_range.mpr (jxs_S_lt h)))
def jxs_rm (O O' : List (Nat × jc_v)) (F F' : List Nat) : jc_Cn := (2, 2, [.inr (some (some 29)), .inr (some (some 4))], jxs_st O F, jxs_W0, [(jxs_st O' F', none)])
def jxs_tk (O O' : List (Nat × jc_v)) (F F' : List Nat) : jc_Cn := (3, 2, [.inr (some (some 29)), .inr (some (some 4))], jxs_st O F, jxs_W1, [(jxs_st O' F', none)])
noncomputable def jxs_rmb (T : jxs_Tb) (n c : Nat) : Bool := match ja_n2 T (11 * n + c), ja_n2 T (11 * ((n + 1) % 10) + min (c + 1) 10) with
  | some (O, F), some (O', F') => jc_mth (jxs, [], jT, [], jxa_SP, [], 0) 100000 (jxs_rm O O' F F')
  | _, _ => false
noncomputable def jxs_tkb (w : Nat) (T : jxs_Tb) (n c : Nat) : Bool := match ja_n2 T (11 * n + c), ja_n2 T (11 * ((n + 9) % 10) + (c - 1)) with
  | some (O, F), some (O', F') => jc_mth (jxs, [], jT, [], jxa_SP, [], 0) 100000 (jxs_tk O O' (w :: F) F')
  | _, _ => false
theorem jxs_rmb_ok {T : jxs_Tb} {n c : Nat} (h : jxs_rmb T n c = true) : ∃ O F O' F', ja_n2 T (11 * n + c) = some (O, F) ∧ ja_n2 T (11 * ((n + 1) % 10) + min (c + 1) 10) = some (O', F') ∧ jc_Con jP jxs (fun _ => True) (jxs_rm O O' F F') := by
  unfold jxs_rmb at h
  split at h
  · rename_i O F O' F' h1 h2
    exact ⟨O, F, O', F', h1, h2, jc_mth_ok (Z := (jxs, [], jT, [], jxa_SP, [], 0)) (f := 100000) jxs_ok jxs_Xo jT_ok jc_c0 h⟩
  · cases h
theorem jxs_tkb_ok {w : Nat} {T : jxs_Tb} {n c : Nat} (h : jxs_tkb w T n c = true) : ∃ O F O' F', ja_n2 T (11 * n + c) = some (O, F) ∧ ja_n2 T (11 * ((n + 9) % 10) + (c - 1)) = some (O', F') ∧ jc_Con jP jxs (fun _ => True) (jxs_tk O O' (w :: F) F') := by
  unfold jxs_tkb at h
  split at h
  · rename_i O F O' F' h1 h2
    exact ⟨O, F, O', F', h1, h2, jc_mth_ok (Z := (jxs, [], jT, [], jxa_SP, [], 0)) (f := 100000) jxs_ok jxs_Xo jT_ok jc_c0 h⟩
  · cases h
/-- for all pairs -/
def jxs_pr (p : Nat → Nat → Bool) : Bool := (List.range 10).all fun n => (List.range 11).all fun c => p n c
theorem jxs_pr_ok {p : Nat → Nat → Bool} (h : jxs_pr p = true) {n c : Nat} (hn : n < 10) (hc : c < 11) : p n c = true := List.all_eq_true.mp (List.all_eq_true.mp h n (List.mem_range.mpr hn)) c (List.mem_range.mpr hc)
theorem jxs_refs {r r' : jc_R} {n n' a b : Nat} {As : List Value} (h : jc_st r n [.inr (some (some a)), .inr (some (some b))] As) : jc_st r' n' [.inr (some (some a)), .inr (some (some b))] As := by
  obtain ⟨v, st, rfl, h1, h2⟩ := jc_st_cons h
  obtain ⟨v2, st2, rfl, h3, h4⟩ := jc_st_cons h2
  obtain rfl := h1.ref
  obtain rfl := h3.ref
  cases st2 with
  | nil => exact ⟨rfl, rfl, trivial⟩
  | cons _ _ => exact h4.elim
theorem jxs_an {r r' : jc_R} {n n' : Nat} {rv : Option Value} (h : jc_an r n none rv) : jc_an r' n' none rv := by
  cases rv with
  | none => trivial
  | some v => exact h.elim

