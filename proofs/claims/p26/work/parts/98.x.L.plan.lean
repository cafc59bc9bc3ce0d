/-! the class's findPlan over the heap: written by wip/px/gen_hB.py -/
set_option maxRecDepth 100000 in
theorem fp7_M : j_meth jP 13 = some (yX1_findPlan, cX1_findPlan, 7, (some .int), 1, false, 1) := rfl
set_option maxRecDepth 100000 in
theorem fp7_0 : j_code jP 13 0 = some (.aload_n 1) := rfl
set_option maxRecDepth 100000 in
theorem fp7_1 : j_code jP 13 1 = some (.getfield 63) := rfl
set_option maxRecDepth 100000 in
theorem fp7_4 : j_code jP 13 4 = some (.getfield 70) := rfl
set_option maxRecDepth 100000 in
theorem fp7_7 : j_code jP 13 7 = some (.istore_n 2) := rfl
set_option maxRecDepth 100000 in
theorem fp7_8 : j_code jP 13 8 = some (.iconst 0) := rfl
set_option maxRecDepth 100000 in
theorem fp7_9 : j_code jP 13 9 = some (.istore_n 3) := rfl
set_option maxRecDepth 100000 in
theorem fp7_10 : j_code jP 13 10 = some (.iload_n 3) := rfl
set_option maxRecDepth 100000 in
theorem fp7_11 : j_code jP 13 11 = some (.iconst 5) := rfl
set_option maxRecDepth 100000 in
theorem fp7_12 : j_code jP 13 12 = some (.if_icmp .ge 16) := rfl
set_option maxRecDepth 100000 in
theorem fp7_15 : j_code jP 13 15 = some (.aload_n 0) := rfl
set_option maxRecDepth 100000 in
theorem fp7_16 : j_code jP 13 16 = some (.getfield 27) := rfl
set_option maxRecDepth 100000 in
theorem fp7_19 : j_code jP 13 19 = some (.iload_n 3) := rfl
set_option maxRecDepth 100000 in
theorem fp7_20 : j_code jP 13 20 = some (.iload_n 3) := rfl
set_option maxRecDepth 100000 in
theorem fp7_21 : j_code jP 13 21 = some (.iastore) := rfl
set_option maxRecDepth 100000 in
theorem fp7_22 : j_code jP 13 22 = some (.iinc 3 1) := rfl
set_option maxRecDepth 100000 in
theorem fp7_25 : j_code jP 13 25 = some (.goto (-15)) := rfl
set_option maxRecDepth 100000 in
theorem fp7_28 : j_code jP 13 28 = some (.iconst (-1)) := rfl
set_option maxRecDepth 100000 in
theorem fp7_29 : j_code jP 13 29 = some (.istore_n 3) := rfl
set_option maxRecDepth 100000 in
theorem fp7_30 : j_code jP 13 30 = some (.iconst 1) := rfl
set_option maxRecDepth 100000 in
theorem fp7_31 : j_code jP 13 31 = some (.istore 4) := rfl
set_option maxRecDepth 100000 in
theorem fp7_33 : j_code jP 13 33 = some (.iconst 0) := rfl
set_option maxRecDepth 100000 in
theorem fp7_34 : j_code jP 13 34 = some (.istore 5) := rfl
set_option maxRecDepth 100000 in
theorem fp7_36 : j_code jP 13 36 = some (.iload 5) := rfl
set_option maxRecDepth 100000 in
theorem fp7_38 : j_code jP 13 38 = some (.bipush 120) := rfl
set_option maxRecDepth 100000 in
theorem fp7_40 : j_code jP 13 40 = some (.if_icmp .ge 88) := rfl
set_option maxRecDepth 100000 in
theorem fp7_43 : j_code jP 13 43 = some (.iload 4) := rfl
set_option maxRecDepth 100000 in
theorem fp7_45 : j_code jP 13 45 = some (.ifCond .eq 83) := rfl
set_option maxRecDepth 100000 in
theorem fp7_48 : j_code jP 13 48 = some (.aload_n 0) := rfl
set_option maxRecDepth 100000 in
theorem fp7_49 : j_code jP 13 49 = some (.getfield 14) := rfl
set_option maxRecDepth 100000 in
theorem fp7_52 : j_code jP 13 52 = some (.aload_n 1) := rfl
set_option maxRecDepth 100000 in
theorem fp7_53 : j_code jP 13 53 = some (.invokevirtual 34) := rfl
set_option maxRecDepth 100000 in
theorem fp7_56 : j_code jP 13 56 = some (.aload_n 0) := rfl
set_option maxRecDepth 100000 in
theorem fp7_57 : j_code jP 13 57 = some (.getfield 27) := rfl
set_option maxRecDepth 100000 in
theorem fp7_60 : j_code jP 13 60 = some (.iconst 0) := rfl
set_option maxRecDepth 100000 in
theorem fp7_61 : j_code jP 13 61 = some (.aload_n 0) := rfl
set_option maxRecDepth 100000 in
theorem fp7_62 : j_code jP 13 62 = some (.getfield 14) := rfl
set_option maxRecDepth 100000 in
theorem fp7_65 : j_code jP 13 65 = some (.getfield 52) := rfl
set_option maxRecDepth 100000 in
theorem fp7_68 : j_code jP 13 68 = some (.iconst 0) := rfl
set_option maxRecDepth 100000 in
theorem fp7_69 : j_code jP 13 69 = some (.iload_n 2) := rfl
set_option maxRecDepth 100000 in
theorem fp7_70 : j_code jP 13 70 = some (.invokestatic 73) := rfl
set_option maxRecDepth 100000 in
theorem fp7_73 : j_code jP 13 73 = some (.aload_n 0) := rfl
set_option maxRecDepth 100000 in
theorem fp7_74 : j_code jP 13 74 = some (.getfield 14) := rfl
set_option maxRecDepth 100000 in
theorem fp7_77 : j_code jP 13 77 = some (.sipush 300) := rfl
set_option maxRecDepth 100000 in
theorem fp7_80 : j_code jP 13 80 = some (.iconst 1) := rfl
set_option maxRecDepth 100000 in
theorem fp7_81 : j_code jP 13 81 = some (.iconst 1) := rfl
set_option maxRecDepth 100000 in
theorem fp7_82 : j_code jP 13 82 = some (.invokevirtual 38) := rfl
set_option maxRecDepth 100000 in
theorem fp7_85 : j_code jP 13 85 = some (.istore 6) := rfl
set_option maxRecDepth 100000 in
theorem fp7_87 : j_code jP 13 87 = some (.iload_n 3) := rfl
set_option maxRecDepth 100000 in
theorem fp7_88 : j_code jP 13 88 = some (.iconst (-1)) := rfl
set_option maxRecDepth 100000 in
theorem fp7_89 : j_code jP 13 89 = some (.if_icmp .eq 9) := rfl
set_option maxRecDepth 100000 in
theorem fp7_92 : j_code jP 13 92 = some (.iload 6) := rfl
set_option maxRecDepth 100000 in
theorem fp7_94 : j_code jP 13 94 = some (.iload_n 3) := rfl
set_option maxRecDepth 100000 in
theorem fp7_95 : j_code jP 13 95 = some (.if_icmp .ge 20) := rfl
set_option maxRecDepth 100000 in
theorem fp7_98 : j_code jP 13 98 = some (.iload 6) := rfl
set_option maxRecDepth 100000 in
theorem fp7_100 : j_code jP 13 100 = some (.istore_n 3) := rfl
set_option maxRecDepth 100000 in
theorem fp7_101 : j_code jP 13 101 = some (.aload_n 0) := rfl
set_option maxRecDepth 100000 in
theorem fp7_102 : j_code jP 13 102 = some (.getfield 27) := rfl
set_option maxRecDepth 100000 in
theorem fp7_105 : j_code jP 13 105 = some (.iconst 0) := rfl
set_option maxRecDepth 100000 in
theorem fp7_106 : j_code jP 13 106 = some (.aload_n 0) := rfl
set_option maxRecDepth 100000 in
theorem fp7_107 : j_code jP 13 107 = some (.getfield 31) := rfl
set_option maxRecDepth 100000 in
theorem fp7_110 : j_code jP 13 110 = some (.iconst 0) := rfl
set_option maxRecDepth 100000 in
theorem fp7_111 : j_code jP 13 111 = some (.iconst 5) := rfl
set_option maxRecDepth 100000 in
theorem fp7_112 : j_code jP 13 112 = some (.invokestatic 73) := rfl
set_option maxRecDepth 100000 in
theorem fp7_115 : j_code jP 13 115 = some (.aload_n 0) := rfl
set_option maxRecDepth 100000 in
theorem fp7_116 : j_code jP 13 116 = some (.iload_n 2) := rfl
set_option maxRecDepth 100000 in
theorem fp7_117 : j_code jP 13 117 = some (.invokevirtual 79) := rfl
set_option maxRecDepth 100000 in
theorem fp7_120 : j_code jP 13 120 = some (.istore 4) := rfl
set_option maxRecDepth 100000 in
theorem fp7_122 : j_code jP 13 122 = some (.iinc 5 1) := rfl
set_option maxRecDepth 100000 in
theorem fp7_125 : j_code jP 13 125 = some (.goto (-89)) := rfl
set_option maxRecDepth 100000 in
theorem fp7_128 : j_code jP 13 128 = some (.iload_n 3) := rfl
set_option maxRecDepth 100000 in
theorem fp7_129 : j_code jP 13 129 = some (.ireturn) := rfl
set_option maxRecDepth 1000000 in
theorem hl_po {d : Nat} {gb : J_H} {x2 : Int32} {Q : Option Value → J_H → Prop} : ∀ (f i : Nat) (od : List Int32) {lv : J_L} {h : J_H}, i + f = 5 → LK lv [(0, .ref 281), (1, .ref 4), (2, .int x2), (3, .int (nI i))] → KN h [(281, .inl (1, [.ref 282, .ref 307, .ref 323, .ref 324])), (323, .inr (.inl (0, od)))] gb → (∀ lv h, LK lv [(0, .ref 281), (1, .ref 4), (2, .int x2)] → KN h [(281, .inl (1, [.ref 282, .ref 307, .ref 323, .ref 324])), (323, .inr (.inl (0, (m_poI f i od))))] gb → j_V jP d 13 28 lv [] h Q) → j_V jP d 13 10 lv [] h Q := by
  intro f
  induction f with
  | zero =>
    intro i od lv h e L K kk
    refine j_V.ldL fp7_M fp7_10 rfl (i := 3) (kd := 0) (v := .int (nI i)) (pcJ := 11) rfl L rfl rfl rfl ?_
    refine j_V.one fp7_M fp7_11 (by decide) (pcJ := 12) (stJ := [.int 5, .int (nI i)]) rfl ?_
    refine j_V.icmp fp7_M fp7_12 (t := 28) rfl (fun c12_0 => ?_) (fun c12_0 => ?_)
    · replace c12_0 : ¬ ((nI i) < 5) := jd_ge c12_0
      exact kk _ _ (L.sub ⟨rfl, rfl, rfl, trivial⟩) K
    · replace c12_0 : (nI i) < 5 := jd_gen c12_0
      exact absurd c12_0 (by rw [show i = 5 by omega]; decide)
  | succ f ih =>
    intro i od lv h e L K kk
    refine j_V.ldL fp7_M fp7_10 rfl (i := 3) (kd := 0) (v := .int (nI i)) (pcJ := 11) rfl L rfl rfl rfl ?_
    refine j_V.one fp7_M fp7_11 (by decide) (pcJ := 12) (stJ := [.int 5, .int (nI i)]) rfl ?_
    refine j_V.icmp fp7_M fp7_12 (t := 28) rfl (fun c12_0 => ?_) (fun c12_0 => ?_)
    · replace c12_0 : ¬ ((nI i) < 5) := jd_ge c12_0
      exact absurd (show nI i < 5 by rw [show (5 : Int32) = nI 5 from rfl, nI_ltI (by omega) (by omega)]; omega) c12_0
    · replace c12_0 : (nI i) < 5 := jd_gen c12_0
      refine j_V.ldL fp7_M fp7_15 rfl (i := 0) (kd := 2) (v := .ref 281) (pcJ := 16) rfl L rfl rfl rfl ?_
      refine j_V.getK fp7_M fp7_16 (ci := 1) (j := 2) rfl K rfl rfl ?_
      refine j_V.ldL fp7_M fp7_19 rfl (i := 3) (kd := 0) (v := .int (nI i)) (pcJ := 20) rfl L rfl rfl rfl ?_
      refine j_V.ldL fp7_M fp7_20 rfl (i := 3) (kd := 0) (v := .int (nI i)) (pcJ := 21) rfl L rfl rfl rfl ?_
      refine j_V.isA fp7_M fp7_21 (k' := [(281, .inl (1, [.ref 282, .ref 307, .ref 323, .ref 324])), (323, .inr (.inl (0, (sA od (nI i) (nI i)))))]) K rfl rfl (fun h K => ?_)
      refine j_V.inL fp7_M fp7_22 (i := 3) (kl' := [(0, .ref 281), (1, .ref 4), (2, .int x2), (3, .int ((nI i) + 1))]) (pcJ := 25) L rfl rfl rfl rfl (fun lv L => ?_)
      refine j_V.gto fp7_M fp7_25 (t := 10) rfl ?_
      rw [nI_1] at L
      exact ih (i + 1) _ (by omega) L K kk
theorem aC_gN9 {k j : Nat} {l0 l1 : List Int32} (hk : k < 2 ^ 31) (h1 : k ≤ l1.length) (hj : j < k) : gN (aC (nI k) l0 l1) j = gN l0 j := by
  unfold gN aC j_cpy
  rw [nI_clamp hk, List.getD_eq_getElem?_getD, List.getElem?_mapIdx, List.getElem?_eq_getElem (by omega)]
  show (if 0 ≤ j ∧ j < 0 + k then l0.getD (0 + (j - 0)) 0 else _) = _
  rw [if_pos ⟨Nat.zero_le j, by omega⟩, show 0 + (j - 0) = j by omega]
/-- findPlan's outcome -/
def fpQ (R : Int32 × List Int32) (g0 : J_H) (rv : Option Value) (h' : J_H) : Prop := rv = some (.int R.1) ∧ hT9 282 0 h' ∧ h'[324]? = some (.inr (.inl (0, R.2))) ∧ (∃ o, h'[323]? = some (.inr (.inl (0, o))) ∧ o.length = 5) ∧ ∀ x, (x < 282 ∨ (307 ≤ x ∧ x ≠ 323 ∧ x ≠ 324)) → h'[x]? = g0[x]?
theorem noC_len : ∀ (f : Nat) (a b : Int32) (l : List Int32), (m_noC f a b l).length = l.length
  | 0, _, _, _ => rfl
  | f + 1, a, b, l => by
    unfold m_noC
    split
    · rw [noC_len f]; show ((l.set _ _).set _ _).length = _; rw [List.length_set, List.length_set]
    · rfl
theorem nxo_len {n : Nat} {o : List Int32} (_h5 : n ≤ 5) (lo : o.length = 5) : (x_nxo o (nI n)).2.length = 5 := by
  unfold x_nxo
  split
  · exact lo
  · show (m_noC _ _ _ _).length = 5
    rw [noC_len]; show ((o.set _ _).set _ _).length = _; rw [List.length_set, List.length_set]; exact lo
theorem n2_5 {n : Nat} (h5 : n ≤ 5) : (nI n - 2).toInt < 5 := by
  have key : ∀ n : Fin 6, (nI n.val - 2).toInt < 5 := by decide +kernel
  exact key ⟨n, by omega⟩
theorem poI5 {l : List Int32} (h : l.length = 5) : m_poI 5 0 l = [0, 1, 2, 3, 4] := by
  match l, h with
  | [a, b, c, e, f], _ => rfl
theorem hS9.n5 {s L n S : Nat} {pk : Int32} {w : List Int32} {h : J_H} (R : hS9 s L pk n S w h) : n ≤ 5 := hS9.opn R (fun _ _ _ _ _ _ _ _ _ _ _ _ _ _ _ _ _ _ _ _ _ _ _ _ _ _ _ _ _ _ V => V.1.n5)
set_option maxRecDepth 1000000 in
theorem hp_plan_327 {g0 : J_H} {n S m d : Nat} {w o9 b9 : List Int32} (P : hF 327 n S w g0) (hm : gN w 201 = nI m) (hb : m + 300 < 2 ^ 30) (C3 : g0[323]? = some (.inr (.inl (0, o9)))) (C4 : g0[324]? = some (.inr (.inl (0, b9)))) (lo9 : o9.length = 5) (lb9 : b9.length = 5) {r : List (List Int32)} (hx : och (fun a => x_nxo a (nI n)) ([0, 1, 2, 3, 4] :: r)) (hA : ∀ a, a ∈ [0, 1, 2, 3, 4] :: r → a.length = 5 ∧ prm n a) (hr : r.length < 120) (hp1 : ∀ o, prm n o → ¬ m_pp n w o = -1) : j_V jP d 13 0 (lv_args 0 [.ref 281, .ref 4]) [] g0 (fun rv h' => fpQ (plS (fun a => m_pp n w a) (m_pp n w [0, 1, 2, 3, 4]) [0, 1, 2, 3, 4] r) g0 rv h') := by
  have h5 : n ≤ 5 := P.1.n5
  have hn2 := n2_5 h5
  have hl : ∀ (r : List (List Int32)) (o b : List Int32) (v : Int32) (i : Nat) (lv : J_L) (hc : J_H), i + r.length < 120 → och (fun a => x_nxo a (nI n)) (o :: r) → (∀ a, a ∈ o :: r → a.length = 5 ∧ prm n a) → LK lv [(0, .ref 281), (1, .ref 4), (2, .int (nI n)), (3, .int v), (4, .int 1), (5, .int (nI i))] → hF 327 n S w hc → hc[323]? = some (.inr (.inl (0, o))) → hc[324]? = some (.inr (.inl (0, b))) → b.length = 5 → (∀ x, (x < 282 ∨ (307 ≤ x ∧ x ≠ 323 ∧ x ≠ 324)) → hc[x]? = g0[x]?) → j_V jP d 13 36 lv [] hc (fun rv h' => fpQ (if v = -1 then plS (fun a => m_pp n w a) (m_pp n w o) o r else plS (fun a => m_pp n w a) v b (o :: r)) g0 rv h') := by
    intro r
    induction r with
    | nil =>
      intro o b v i lv hc hi C A L P C3 C4 lb FA
      have C : (x_nxo o (nI n)).1 = 0 := C
      rw [List.length_nil] at hi
      obtain ⟨lo, po⟩ := A o (List.mem_cons_self ..)
      have hpo := hp1 o po
      obtain ⟨R4, Y4, Q, C281⟩ := P
      have e0 : nI i < 120 := nI_lt (a := i) (b := 120) (by omega) (by omega)
      refine hT9.opn Q (fun ly miz shuz busz lksz rlz pevz rkz staz phz spz cez duz hez riz usz cmz lfz lkdz rowz seaz pmsz pmmz pmtz pstz pwaz prsz prrz pfaz CT _ _ => ?_)
      have K9 : kA hc [(281, .inl (1, [.ref 282, .ref 307, .ref 323, .ref 324])), (282, .inl (7, [ly, .int miz, .int shuz, .int busz, .ref 283, .ref 284, .ref 285, .ref 286, .ref 287, .ref 288, .ref 289, .ref 290, .ref 291, .ref 292, .ref 293, .int lksz, .ref 294, .ref 295, .ref 298])), (323, .inr (.inl (0, o))), (324, .inr (.inl (0, b)))] := ⟨C281, CT.1, C3, C4, trivial⟩
      have K : KN hc [(281, .inl (1, [.ref 282, .ref 307, .ref 323, .ref 324])), (282, .inl (7, [ly, .int miz, .int shuz, .int busz, .ref 283, .ref 284, .ref 285, .ref 286, .ref 287, .ref 288, .ref 289, .ref 290, .ref 291, .ref 292, .ref 293, .int lksz, .ref 294, .ref 295, .ref 298])), (323, .inr (.inl (0, o))), (324, .inr (.inl (0, b)))] hc := K9.K
      have hn2 := hn2
      refine j_V.ldL fp7_M fp7_36 rfl (i := 5) (kd := 0) (v := .int (nI i)) (pcJ := 38) rfl L rfl rfl rfl ?_
      refine j_V.one fp7_M fp7_38 (by decide) (pcJ := 40) (stJ := [.int 120, .int (nI i)]) rfl ?_
      refine j_V.icmp fp7_M fp7_40 (t := 128) rfl (fun c40_0 => ?_) (fun c40_0 => ?_)
      · replace c40_0 : ¬ ((nI i) < 120) := jd_ge c40_0
        exact absurd e0 c40_0
      · replace c40_0 : (nI i) < 120 := jd_gen c40_0
        refine j_V.ldL fp7_M fp7_43 rfl (i := 4) (kd := 0) (v := .int 1) (pcJ := 45) rfl L rfl rfl rfl ?_
        refine j_V.ifc fp7_M fp7_45 (t := 128) rfl (fun c45_0 => ?_) (fun c45_0 => ?_)
        · replace c45_0 : (1 : Int32) = 0 := jd_eq c45_0
          exact absurd c45_0 (by decide)
        · replace c45_0 : ¬ ((1 : Int32) = 0) := jd_eqn c45_0
          refine j_V.ldL fp7_M fp7_48 rfl (i := 0) (kd := 2) (v := .ref 281) (pcJ := 49) rfl L rfl rfl rfl ?_
          refine j_V.getK fp7_M fp7_49 (ci := 1) (j := 0) rfl K rfl rfl ?_
          refine j_V.ldL fp7_M fp7_52 rfl (i := 1) (kd := 2) (v := .ref 4) (pcJ := 53) rfl L rfl rfl rfl ?_
          refine j_V.cl fp7_M fp7_53 rfl (md := 3) (mj := 61) rfl (by decide) yts_M (As := [.ref 282, .ref 4]) (rest := []) (jk_spl3 (K.at rfl) rfl rfl rfl (Nat.le_of_ble_eq_true rfl) (Nat.le_of_ble_eq_true rfl)) (fun d => ht_cp R4 Q) ?_
          rintro r h9 ⟨rfl, T9, F9⟩
          refine hS9.opn T9 (fun mi shu bus lks rl pev rk sta ph sp ce du he ri us cm lf lkd row sea pms pmm pmt pst pwa prs prr pfa CS hl4 V => ?_)
          have K9 : kA h9 [(281, .inl (1, [.ref 282, .ref 307, .ref 323, .ref 324])), (282, .inl (7, [.ref 327, .int mi, .int shu, .int bus, .ref 283, .ref 284, .ref 285, .ref 286, .ref 287, .ref 288, .ref 289, .ref 290, .ref 291, .ref 292, .ref 293, .int lks, .ref 294, .ref 295, .ref 298])), (283, .inr (.inl (0, rk))), (323, .inr (.inl (0, o))), (324, .inr (.inl (0, b)))] := ⟨(F9 281 (by decide)).trans C281, CS.1, CS.2.1, (F9 323 (by decide)).trans C3, (F9 324 (by decide)).trans C4, trivial⟩
          have K : KN h9 [(281, .inl (1, [.ref 282, .ref 307, .ref 323, .ref 324])), (282, .inl (7, [.ref 327, .int mi, .int shu, .int bus, .ref 283, .ref 284, .ref 285, .ref 286, .ref 287, .ref 288, .ref 289, .ref 290, .ref 291, .ref 292, .ref 293, .int lks, .ref 294, .ref 295, .ref 298])), (283, .inr (.inl (0, rk))), (323, .inr (.inl (0, o))), (324, .inr (.inl (0, b)))] h9 := K9.K
          show j_V jP _ 13 56 lv [] h9 _
          refine j_V.ldL fp7_M fp7_56 rfl (i := 0) (kd := 2) (v := .ref 281) (pcJ := 57) rfl L rfl rfl rfl ?_
          refine j_V.getK fp7_M fp7_57 (ci := 1) (j := 2) rfl K rfl rfl ?_
          refine j_V.one fp7_M fp7_60 (by decide) (pcJ := 61) (stJ := [.int 0, .ref 323]) rfl ?_
          refine j_V.ldL fp7_M fp7_61 rfl (i := 0) (kd := 2) (v := .ref 281) (pcJ := 62) rfl L rfl rfl rfl ?_
          refine j_V.getK fp7_M fp7_62 (ci := 1) (j := 0) rfl K rfl rfl ?_
          refine j_V.getK fp7_M fp7_65 (ci := 7) (j := 4) rfl K rfl rfl ?_
          refine j_V.one fp7_M fp7_68 (by decide) (pcJ := 69) (stJ := [.int 0, .ref 283, .int 0, .ref 323]) rfl ?_
          refine j_V.ldL fp7_M fp7_69 rfl (i := 2) (kd := 0) (v := .int (nI n)) (pcJ := 70) rfl L rfl rfl rfl ?_
          refine j_V.acp fp7_M fp7_70 rfl rfl K rfl rfl rfl (fun h K => ?_)
          refine j_V.ldL fp7_M fp7_73 rfl (i := 0) (kd := 2) (v := .ref 281) (pcJ := 74) rfl L rfl rfl rfl ?_
          refine j_V.getK fp7_M fp7_74 (ci := 1) (j := 0) rfl K rfl rfl ?_
          refine j_V.one fp7_M fp7_77 (by decide) (pcJ := 80) (stJ := [.int 300, .ref 282]) rfl ?_
          refine j_V.one fp7_M fp7_80 (by decide) (pcJ := 81) (stJ := [.int 1, .int 300, .ref 282]) rfl ?_
          refine j_V.one fp7_M fp7_81 (by decide) (pcJ := 82) (stJ := [.int 1, .int 1, .int 300, .ref 282]) rfl ?_
          have h5 := V.1.n5
          obtain ⟨pl1, pl2⟩ := pw_n (od := o) n 0 w (by omega) V.1.len
          have V9 := V.pw (rk' := aC (nI n) o rk) po (fun k hk => aC_gN9 (by omega) (by rw [hl4.1]; omega) hk)
          have VW := V.1
          have es : ∀ j, ¬ (196 ≤ j ∧ j < 201) → gN (m_pw o n 0 w) j = gN w j := fun j hj => by rw [pl2 j, if_neg (by omega)]
          have st : (∀ s j, s < 7 → j < 5 → fs (m_pw o n 0 w) s j = fs w s j) ∧ ∀ u j, u < n → j < 6 → j ≠ 3 → ft (m_pw o n 0 w) u j = ft w u j := ⟨fun s j _ _ => es _ (by omega), fun u j _ _ _ => es _ (by omega)⟩
          have C281x : h[281]? = some (.inl (1, [.ref 282, .ref 307, .ref 323, .ref 324])) := (K.at rfl)
          have C3x : h[323]? = some (.inr (.inl (0, o))) := (K.at rfl)
          have C4x : h[324]? = some (.inr (.inl (0, b))) := (K.at rfl)
          have F7 : ∀ x, x ≠ 283 → h[x]? = h9[x]? := fun x g => KN.off K9 K (lke (lke (lkn (fun z => g z.symm) (lke (lke rfl)))))
          have T2 : hS9 282 327 0 n S (m_pw o n 0 w) h := ⟨mi, shu, bus, lks, rl, pev, _, sta, ph, sp, ce, du, he, ri, us, cm, lf, lkd, row, sea, pms, pmm, pmt, pst, pwa, prs, prr, pfa, ⟨K.at rfl, K.at rfl, (K.2.1 284 rfl).trans CS.2.2.1, (K.2.1 285 rfl).trans CS.2.2.2.1, (K.2.1 286 rfl).trans CS.2.2.2.2.1, (K.2.1 287 rfl).trans CS.2.2.2.2.2.1, (K.2.1 288 rfl).trans CS.2.2.2.2.2.2.1, (K.2.1 289 rfl).trans CS.2.2.2.2.2.2.2.1, (K.2.1 290 rfl).trans CS.2.2.2.2.2.2.2.2.1, (K.2.1 291 rfl).trans CS.2.2.2.2.2.2.2.2.2.1, (K.2.1 292 rfl).trans CS.2.2.2.2.2.2.2.2.2.2.1, (K.2.1 293 rfl).trans CS.2.2.2.2.2.2.2.2.2.2.2.1, (K.2.1 294 rfl).trans CS.2.2.2.2.2.2.2.2.2.2.2.2.1, (K.2.1 295 rfl).trans CS.2.2.2.2.2.2.2.2.2.2.2.2.2.1, (K.2.1 296 rfl).trans CS.2.2.2.2.2.2.2.2.2.2.2.2.2.2.1, (K.2.1 297 rfl).trans CS.2.2.2.2.2.2.2.2.2.2.2.2.2.2.2.1, (K.2.1 298 rfl).trans CS.2.2.2.2.2.2.2.2.2.2.2.2.2.2.2.2.1, (K.2.1 299 rfl).trans CS.2.2.2.2.2.2.2.2.2.2.2.2.2.2.2.2.2.1, (K.2.1 300 rfl).trans CS.2.2.2.2.2.2.2.2.2.2.2.2.2.2.2.2.2.2.1, (K.2.1 301 rfl).trans CS.2.2.2.2.2.2.2.2.2.2.2.2.2.2.2.2.2.2.2.1, (K.2.1 302 rfl).trans CS.2.2.2.2.2.2.2.2.2.2.2.2.2.2.2.2.2.2.2.2.1, (K.2.1 303 rfl).trans CS.2.2.2.2.2.2.2.2.2.2.2.2.2.2.2.2.2.2.2.2.2.1, (K.2.1 304 rfl).trans CS.2.2.2.2.2.2.2.2.2.2.2.2.2.2.2.2.2.2.2.2.2.2.1, (K.2.1 305 rfl).trans CS.2.2.2.2.2.2.2.2.2.2.2.2.2.2.2.2.2.2.2.2.2.2.2.1, (K.2.1 306 rfl).trans CS.2.2.2.2.2.2.2.2.2.2.2.2.2.2.2.2.2.2.2.2.2.2.2.2⟩, ⟨(aC_len ..).trans hl4.1, hl4.2⟩, V9⟩
          have Y2 : hY9 327 n S (m_pw o n 0 w) h := (Y4.to VW.g V9.1.g st.1 st.2).fr (fun x _ _ => (F7 x (by omega)).trans (F9 x (by omega)))
          have hm2 : gN (m_pw o n 0 w) 201 = nI m := (es 201 (by omega)).trans hm
          refine j_V.cl fp7_M fp7_82 rfl (md := 3) (mj := 92) rfl (by decide) xc45_M (As := [.ref 282, .int 300, .int 1, .int 1]) (rest := []) (jk_spl3 (K.at rfl) rfl rfl rfl (Nat.le_of_ble_eq_true rfl) (Nat.le_of_ble_eq_true rfl)) (fun d => hv_xc (k := 300) (e := true) T2 Y2 hm2 hb 1 _ rfl) ?_
          rintro r h8 ⟨rfl, T8, Y8, -, F8⟩
          have K9 : kA h8 [(281, .inl (1, [.ref 282, .ref 307, .ref 323, .ref 324])), (323, .inr (.inl (0, o))), (324, .inr (.inl (0, b)))] := ⟨(F8 281 (by decide)).trans C281x, (F8 323 (by decide)).trans C3x, (F8 324 (by decide)).trans C4x, trivial⟩
          have K : KN h8 [(281, .inl (1, [.ref 282, .ref 307, .ref 323, .ref 324])), (323, .inr (.inl (0, o))), (324, .inr (.inl (0, b)))] h8 := K9.K
          rw [show m_price (m_adv n 1 true 300 (m_pw o n 0 w)) = m_pp n w o from pE_adv n _]
          show j_V jP _ 13 85 lv [.int (m_pp n w o)] h8 _
          refine j_V.stL fp7_M fp7_85 rfl (i := 6) (kd := 0) (kl' := [(0, .ref 281), (1, .ref 4), (2, .int (nI n)), (3, .int v), (4, .int 1), (5, .int (nI i)), (6, .int (m_pp n w o))]) (pcJ := 87) rfl L rfl (by decide) rfl rfl rfl (fun lv L => ?_)
          refine j_V.ldL fp7_M fp7_87 rfl (i := 3) (kd := 0) (v := .int v) (pcJ := 88) rfl L rfl rfl rfl ?_
          refine j_V.one fp7_M fp7_88 (by decide) (pcJ := 89) (stJ := [.int (-1), .int v]) rfl ?_
          refine j_V.icmp fp7_M fp7_89 (t := 98) rfl (fun c89_0 => ?_) (fun c89_0 => ?_)
          · replace c89_0 : v = (-1) := jd_eq c89_0
            refine j_V.ldL fp7_M fp7_98 rfl (i := 6) (kd := 0) (v := .int (m_pp n w o)) (pcJ := 100) rfl L rfl rfl rfl ?_
            refine j_V.stL fp7_M fp7_100 rfl (i := 3) (kd := 0) (kl' := [(0, .ref 281), (1, .ref 4), (2, .int (nI n)), (3, .int (m_pp n w o)), (4, .int 1), (5, .int (nI i)), (6, .int (m_pp n w o))]) (pcJ := 101) rfl L rfl (by decide) rfl rfl rfl (fun lv L => ?_)
            refine j_V.ldL fp7_M fp7_101 rfl (i := 0) (kd := 2) (v := .ref 281) (pcJ := 102) rfl L rfl rfl rfl ?_
            refine j_V.getK fp7_M fp7_102 (ci := 1) (j := 2) rfl K rfl rfl ?_
            refine j_V.one fp7_M fp7_105 (by decide) (pcJ := 106) (stJ := [.int 0, .ref 323]) rfl ?_
            refine j_V.ldL fp7_M fp7_106 rfl (i := 0) (kd := 2) (v := .ref 281) (pcJ := 107) rfl L rfl rfl rfl ?_
            refine j_V.getK fp7_M fp7_107 (ci := 1) (j := 3) rfl K rfl rfl ?_
            refine j_V.one fp7_M fp7_110 (by decide) (pcJ := 111) (stJ := [.int 0, .ref 324, .int 0, .ref 323]) rfl ?_
            refine j_V.one fp7_M fp7_111 (by decide) (pcJ := 112) (stJ := [.int 5, .int 0, .ref 324, .int 0, .ref 323]) rfl ?_
            refine j_V.acp fp7_M fp7_112 rfl rfl K rfl rfl rfl (fun h K => ?_)
            refine j_V.ldL fp7_M fp7_115 rfl (i := 0) (kd := 2) (v := .ref 281) (pcJ := 116) rfl L rfl rfl rfl ?_
            refine j_V.ldL fp7_M fp7_116 rfl (i := 2) (kd := 0) (v := .int (nI n)) (pcJ := 117) rfl L rfl rfl rfl ?_
            have FP : ∀ x, x ≠ 324 → h[x]? = h8[x]? := fun x g => KN.off K9 K (lke (lke (lkn (fun z => g z.symm) rfl)))
            have C4p : h[324]? = some (.inr (.inl (0, (aC 5 o b)))) := K.at rfl
            rw [show (aC 5 o b) = o from aC_eq (k := 5) (by decide) lo lb] at C4p
            have K9 : kA h [(281, .inl (1, [.ref 282, .ref 307, .ref 323, .ref 324])), (323, .inr (.inl (0, o)))] := ⟨K.at rfl, K.at rfl, trivial⟩
            refine j_V.cl fp7_M fp7_117 rfl (md := 3) (mj := 14) rfl (by decide) fo1_M (As := [.ref 281, .int (nI n)]) (rest := []) (jk_spl3 (K.at rfl) rfl rfl rfl (Nat.le_of_ble_eq_true rfl) (Nat.le_of_ble_eq_true rfl)) (fun d => fo1_ok hn2 K9.K) ?_
            rintro r h7 ⟨rfl, K⟩
            rw [C] at ⊢
            have FQ : ∀ x, x ≠ 323 → h7[x]? = h[x]? := fun x g => KN.off K9 K (lke (lkn (fun z => g z.symm) rfl))
            have C4 : h7[324]? = some (.inr (.inl (0, o))) := (FQ 324 (by decide)).trans C4p
            have C3 : h7[323]? = some (.inr (.inl (0, (x_nxo o (nI n)).2))) := K.at rfl
            have FB : ∀ x, (x < 282 ∨ (307 ≤ x ∧ x ≠ 323 ∧ x ≠ 324)) → h7[x]? = hc[x]? := fun x g => (FQ x (by omega)).trans ((FP x (by omega)).trans ((F8 x (by omega)).trans ((F7 x (by omega)).trans (F9 x (by omega)))))
            have T7 : hT9 282 0 h7 := T8.sh.fr (fun x _ _ => (FQ x (by omega)).trans (FP x (by omega)))
            have K9 : kA h7 [(281, .inl (1, [.ref 282, .ref 307, .ref 323, .ref 324])), (323, .inr (.inl (0, (x_nxo o (nI n)).2))), (324, .inr (.inl (0, o)))] := ⟨K.at rfl, C3, C4, trivial⟩
            have K : KN h7 [(281, .inl (1, [.ref 282, .ref 307, .ref 323, .ref 324])), (323, .inr (.inl (0, (x_nxo o (nI n)).2))), (324, .inr (.inl (0, o)))] h7 := K9.K
            show j_V jP _ 13 120 lv [.int 0] h7 _
            refine j_V.stL fp7_M fp7_120 rfl (i := 4) (kd := 0) (kl' := [(0, .ref 281), (1, .ref 4), (2, .int (nI n)), (3, .int (m_pp n w o)), (4, .int 0), (5, .int (nI i)), (6, .int (m_pp n w o))]) (pcJ := 122) rfl L rfl (by decide) rfl rfl rfl (fun lv L => ?_)
            refine j_V.inL fp7_M fp7_122 (i := 5) (kl' := [(0, .ref 281), (1, .ref 4), (2, .int (nI n)), (3, .int (m_pp n w o)), (4, .int 0), (5, .int ((nI i) + 1)), (6, .int (m_pp n w o))]) (pcJ := 125) L rfl rfl rfl rfl (fun lv L => ?_)
            refine j_V.gto fp7_M fp7_125 (t := 36) rfl ?_
            refine j_V.ldL fp7_M fp7_36 rfl (i := 5) (kd := 0) (v := .int ((nI i) + 1)) (pcJ := 38) rfl L rfl rfl rfl ?_
            refine j_V.one fp7_M fp7_38 (by decide) (pcJ := 40) (stJ := [.int 120, .int ((nI i) + 1)]) rfl ?_
            refine j_V.icmp fp7_M fp7_40 (t := 128) rfl (fun c40_1 => ?_) (fun c40_1 => ?_)
            · replace c40_1 : ¬ (((nI i) + 1) < 120) := jd_ge c40_1
              refine j_V.ldL fp7_M fp7_128 rfl (i := 3) (kd := 0) (v := .int (m_pp n w o)) (pcJ := 129) rfl L rfl rfl rfl ?_
              rw [if_pos c89_0]
              refine j_V.ri fp7_M fp7_129 ?_
              exact ⟨rfl, T7, C4, ⟨_, C3, by rw [nxo_len V.1.n5 lo]⟩, fun x g => (FB x g).trans (FA x g)⟩
            · replace c40_1 : ((nI i) + 1) < 120 := jd_gen c40_1
              refine j_V.ldL fp7_M fp7_43 rfl (i := 4) (kd := 0) (v := .int 0) (pcJ := 45) rfl L rfl rfl rfl ?_
              refine j_V.ifc fp7_M fp7_45 (t := 128) rfl (fun c45_2 => ?_) (fun c45_2 => ?_)
              · replace c45_2 : (0 : Int32) = 0 := jd_eq c45_2
                refine j_V.ldL fp7_M fp7_128 rfl (i := 3) (kd := 0) (v := .int (m_pp n w o)) (pcJ := 129) rfl L rfl rfl rfl ?_
                rw [if_pos c89_0]
                refine j_V.ri fp7_M fp7_129 ?_
                exact ⟨rfl, T7, C4, ⟨_, C3, by rw [nxo_len V.1.n5 lo]⟩, fun x g => (FB x g).trans (FA x g)⟩
              · replace c45_2 : ¬ ((0 : Int32) = 0) := jd_eqn c45_2
                exact absurd (by decide) c45_2
          · replace c89_0 : ¬ (v = (-1)) := jd_eqn c89_0
            refine j_V.ldL fp7_M fp7_92 rfl (i := 6) (kd := 0) (v := .int (m_pp n w o)) (pcJ := 94) rfl L rfl rfl rfl ?_
            refine j_V.ldL fp7_M fp7_94 rfl (i := 3) (kd := 0) (v := .int v) (pcJ := 95) rfl L rfl rfl rfl ?_
            refine j_V.icmp fp7_M fp7_95 (t := 115) rfl (fun c95_1 => ?_) (fun c95_1 => ?_)
            · replace c95_1 : ¬ ((m_pp n w o) < v) := jd_ge c95_1
              refine j_V.ldL fp7_M fp7_115 rfl (i := 0) (kd := 2) (v := .ref 281) (pcJ := 116) rfl L rfl rfl rfl ?_
              refine j_V.ldL fp7_M fp7_116 rfl (i := 2) (kd := 0) (v := .int (nI n)) (pcJ := 117) rfl L rfl rfl rfl ?_
              have FP : ∀ x, x ≠ 324 → h8[x]? = h8[x]? := fun x g => KN.off K9 K (lke (lke (lkn (fun z => g z.symm) rfl)))
              have C4p : h8[324]? = some (.inr (.inl (0, b))) := K.at rfl
              have K9 : kA h8 [(281, .inl (1, [.ref 282, .ref 307, .ref 323, .ref 324])), (323, .inr (.inl (0, o)))] := ⟨K.at rfl, K.at rfl, trivial⟩
              refine j_V.cl fp7_M fp7_117 rfl (md := 3) (mj := 14) rfl (by decide) fo1_M (As := [.ref 281, .int (nI n)]) (rest := []) (jk_spl3 (K.at rfl) rfl rfl rfl (Nat.le_of_ble_eq_true rfl) (Nat.le_of_ble_eq_true rfl)) (fun d => fo1_ok hn2 K9.K) ?_
              rintro r h7 ⟨rfl, K⟩
              rw [C] at ⊢
              have FQ : ∀ x, x ≠ 323 → h7[x]? = h8[x]? := fun x g => KN.off K9 K (lke (lkn (fun z => g z.symm) rfl))
              have C4 : h7[324]? = some (.inr (.inl (0, b))) := (FQ 324 (by decide)).trans C4p
              have C3 : h7[323]? = some (.inr (.inl (0, (x_nxo o (nI n)).2))) := K.at rfl
              have FB : ∀ x, (x < 282 ∨ (307 ≤ x ∧ x ≠ 323 ∧ x ≠ 324)) → h7[x]? = hc[x]? := fun x g => (FQ x (by omega)).trans ((FP x (by omega)).trans ((F8 x (by omega)).trans ((F7 x (by omega)).trans (F9 x (by omega)))))
              have T7 : hT9 282 0 h7 := T8.sh.fr (fun x _ _ => (FQ x (by omega)).trans (FP x (by omega)))
              have K9 : kA h7 [(281, .inl (1, [.ref 282, .ref 307, .ref 323, .ref 324])), (323, .inr (.inl (0, (x_nxo o (nI n)).2))), (324, .inr (.inl (0, b)))] := ⟨K.at rfl, C3, C4, trivial⟩
              have K : KN h7 [(281, .inl (1, [.ref 282, .ref 307, .ref 323, .ref 324])), (323, .inr (.inl (0, (x_nxo o (nI n)).2))), (324, .inr (.inl (0, b)))] h7 := K9.K
              show j_V jP _ 13 120 lv [.int 0] h7 _
              refine j_V.stL fp7_M fp7_120 rfl (i := 4) (kd := 0) (kl' := [(0, .ref 281), (1, .ref 4), (2, .int (nI n)), (3, .int v), (4, .int 0), (5, .int (nI i)), (6, .int (m_pp n w o))]) (pcJ := 122) rfl L rfl (by decide) rfl rfl rfl (fun lv L => ?_)
              refine j_V.inL fp7_M fp7_122 (i := 5) (kl' := [(0, .ref 281), (1, .ref 4), (2, .int (nI n)), (3, .int v), (4, .int 0), (5, .int ((nI i) + 1)), (6, .int (m_pp n w o))]) (pcJ := 125) L rfl rfl rfl rfl (fun lv L => ?_)
              refine j_V.gto fp7_M fp7_125 (t := 36) rfl ?_
              refine j_V.ldL fp7_M fp7_36 rfl (i := 5) (kd := 0) (v := .int ((nI i) + 1)) (pcJ := 38) rfl L rfl rfl rfl ?_
              refine j_V.one fp7_M fp7_38 (by decide) (pcJ := 40) (stJ := [.int 120, .int ((nI i) + 1)]) rfl ?_
              refine j_V.icmp fp7_M fp7_40 (t := 128) rfl (fun c40_2 => ?_) (fun c40_2 => ?_)
              · replace c40_2 : ¬ (((nI i) + 1) < 120) := jd_ge c40_2
                refine j_V.ldL fp7_M fp7_128 rfl (i := 3) (kd := 0) (v := .int v) (pcJ := 129) rfl L rfl rfl rfl ?_
                rw [if_neg c89_0, show plS (fun a => m_pp n w a) v b (o :: []) = (if m_pp n w o < v then plS (fun a => m_pp n w a) (m_pp n w o) o [] else plS (fun a => m_pp n w a) v b []) from rfl, if_neg c95_1]
                refine j_V.ri fp7_M fp7_129 ?_
                exact ⟨rfl, T7, C4, ⟨_, C3, by rw [nxo_len V.1.n5 lo]⟩, fun x g => (FB x g).trans (FA x g)⟩
              · replace c40_2 : ((nI i) + 1) < 120 := jd_gen c40_2
                refine j_V.ldL fp7_M fp7_43 rfl (i := 4) (kd := 0) (v := .int 0) (pcJ := 45) rfl L rfl rfl rfl ?_
                refine j_V.ifc fp7_M fp7_45 (t := 128) rfl (fun c45_3 => ?_) (fun c45_3 => ?_)
                · replace c45_3 : (0 : Int32) = 0 := jd_eq c45_3
                  refine j_V.ldL fp7_M fp7_128 rfl (i := 3) (kd := 0) (v := .int v) (pcJ := 129) rfl L rfl rfl rfl ?_
                  rw [if_neg c89_0, show plS (fun a => m_pp n w a) v b (o :: []) = (if m_pp n w o < v then plS (fun a => m_pp n w a) (m_pp n w o) o [] else plS (fun a => m_pp n w a) v b []) from rfl, if_neg c95_1]
                  refine j_V.ri fp7_M fp7_129 ?_
                  exact ⟨rfl, T7, C4, ⟨_, C3, by rw [nxo_len V.1.n5 lo]⟩, fun x g => (FB x g).trans (FA x g)⟩
                · replace c45_3 : ¬ ((0 : Int32) = 0) := jd_eqn c45_3
                  exact absurd (by decide) c45_3
            · replace c95_1 : (m_pp n w o) < v := jd_gen c95_1
              refine j_V.ldL fp7_M fp7_98 rfl (i := 6) (kd := 0) (v := .int (m_pp n w o)) (pcJ := 100) rfl L rfl rfl rfl ?_
              refine j_V.stL fp7_M fp7_100 rfl (i := 3) (kd := 0) (kl' := [(0, .ref 281), (1, .ref 4), (2, .int (nI n)), (3, .int (m_pp n w o)), (4, .int 1), (5, .int (nI i)), (6, .int (m_pp n w o))]) (pcJ := 101) rfl L rfl (by decide) rfl rfl rfl (fun lv L => ?_)
              refine j_V.ldL fp7_M fp7_101 rfl (i := 0) (kd := 2) (v := .ref 281) (pcJ := 102) rfl L rfl rfl rfl ?_
              refine j_V.getK fp7_M fp7_102 (ci := 1) (j := 2) rfl K rfl rfl ?_
              refine j_V.one fp7_M fp7_105 (by decide) (pcJ := 106) (stJ := [.int 0, .ref 323]) rfl ?_
              refine j_V.ldL fp7_M fp7_106 rfl (i := 0) (kd := 2) (v := .ref 281) (pcJ := 107) rfl L rfl rfl rfl ?_
              refine j_V.getK fp7_M fp7_107 (ci := 1) (j := 3) rfl K rfl rfl ?_
              refine j_V.one fp7_M fp7_110 (by decide) (pcJ := 111) (stJ := [.int 0, .ref 324, .int 0, .ref 323]) rfl ?_
              refine j_V.one fp7_M fp7_111 (by decide) (pcJ := 112) (stJ := [.int 5, .int 0, .ref 324, .int 0, .ref 323]) rfl ?_
              refine j_V.acp fp7_M fp7_112 rfl rfl K rfl rfl rfl (fun h K => ?_)
              refine j_V.ldL fp7_M fp7_115 rfl (i := 0) (kd := 2) (v := .ref 281) (pcJ := 116) rfl L rfl rfl rfl ?_
              refine j_V.ldL fp7_M fp7_116 rfl (i := 2) (kd := 0) (v := .int (nI n)) (pcJ := 117) rfl L rfl rfl rfl ?_
              have FP : ∀ x, x ≠ 324 → h[x]? = h8[x]? := fun x g => KN.off K9 K (lke (lke (lkn (fun z => g z.symm) rfl)))
              have C4p : h[324]? = some (.inr (.inl (0, (aC 5 o b)))) := K.at rfl
              rw [show (aC 5 o b) = o from aC_eq (k := 5) (by decide) lo lb] at C4p
              have K9 : kA h [(281, .inl (1, [.ref 282, .ref 307, .ref 323, .ref 324])), (323, .inr (.inl (0, o)))] := ⟨K.at rfl, K.at rfl, trivial⟩
              refine j_V.cl fp7_M fp7_117 rfl (md := 3) (mj := 14) rfl (by decide) fo1_M (As := [.ref 281, .int (nI n)]) (rest := []) (jk_spl3 (K.at rfl) rfl rfl rfl (Nat.le_of_ble_eq_true rfl) (Nat.le_of_ble_eq_true rfl)) (fun d => fo1_ok hn2 K9.K) ?_
              rintro r h7 ⟨rfl, K⟩
              rw [C] at ⊢
              have FQ : ∀ x, x ≠ 323 → h7[x]? = h[x]? := fun x g => KN.off K9 K (lke (lkn (fun z => g z.symm) rfl))
              have C4 : h7[324]? = some (.inr (.inl (0, o))) := (FQ 324 (by decide)).trans C4p
              have C3 : h7[323]? = some (.inr (.inl (0, (x_nxo o (nI n)).2))) := K.at rfl
              have FB : ∀ x, (x < 282 ∨ (307 ≤ x ∧ x ≠ 323 ∧ x ≠ 324)) → h7[x]? = hc[x]? := fun x g => (FQ x (by omega)).trans ((FP x (by omega)).trans ((F8 x (by omega)).trans ((F7 x (by omega)).trans (F9 x (by omega)))))
              have T7 : hT9 282 0 h7 := T8.sh.fr (fun x _ _ => (FQ x (by omega)).trans (FP x (by omega)))
              have K9 : kA h7 [(281, .inl (1, [.ref 282, .ref 307, .ref 323, .ref 324])), (323, .inr (.inl (0, (x_nxo o (nI n)).2))), (324, .inr (.inl (0, o)))] := ⟨K.at rfl, C3, C4, trivial⟩
              have K : KN h7 [(281, .inl (1, [.ref 282, .ref 307, .ref 323, .ref 324])), (323, .inr (.inl (0, (x_nxo o (nI n)).2))), (324, .inr (.inl (0, o)))] h7 := K9.K
              show j_V jP _ 13 120 lv [.int 0] h7 _
              refine j_V.stL fp7_M fp7_120 rfl (i := 4) (kd := 0) (kl' := [(0, .ref 281), (1, .ref 4), (2, .int (nI n)), (3, .int (m_pp n w o)), (4, .int 0), (5, .int (nI i)), (6, .int (m_pp n w o))]) (pcJ := 122) rfl L rfl (by decide) rfl rfl rfl (fun lv L => ?_)
              refine j_V.inL fp7_M fp7_122 (i := 5) (kl' := [(0, .ref 281), (1, .ref 4), (2, .int (nI n)), (3, .int (m_pp n w o)), (4, .int 0), (5, .int ((nI i) + 1)), (6, .int (m_pp n w o))]) (pcJ := 125) L rfl rfl rfl rfl (fun lv L => ?_)
              refine j_V.gto fp7_M fp7_125 (t := 36) rfl ?_
              refine j_V.ldL fp7_M fp7_36 rfl (i := 5) (kd := 0) (v := .int ((nI i) + 1)) (pcJ := 38) rfl L rfl rfl rfl ?_
              refine j_V.one fp7_M fp7_38 (by decide) (pcJ := 40) (stJ := [.int 120, .int ((nI i) + 1)]) rfl ?_
              refine j_V.icmp fp7_M fp7_40 (t := 128) rfl (fun c40_2 => ?_) (fun c40_2 => ?_)
              · replace c40_2 : ¬ (((nI i) + 1) < 120) := jd_ge c40_2
                refine j_V.ldL fp7_M fp7_128 rfl (i := 3) (kd := 0) (v := .int (m_pp n w o)) (pcJ := 129) rfl L rfl rfl rfl ?_
                rw [if_neg c89_0, show plS (fun a => m_pp n w a) v b (o :: []) = (if m_pp n w o < v then plS (fun a => m_pp n w a) (m_pp n w o) o [] else plS (fun a => m_pp n w a) v b []) from rfl, if_pos c95_1]
                refine j_V.ri fp7_M fp7_129 ?_
                exact ⟨rfl, T7, C4, ⟨_, C3, by rw [nxo_len V.1.n5 lo]⟩, fun x g => (FB x g).trans (FA x g)⟩
              · replace c40_2 : ((nI i) + 1) < 120 := jd_gen c40_2
                refine j_V.ldL fp7_M fp7_43 rfl (i := 4) (kd := 0) (v := .int 0) (pcJ := 45) rfl L rfl rfl rfl ?_
                refine j_V.ifc fp7_M fp7_45 (t := 128) rfl (fun c45_3 => ?_) (fun c45_3 => ?_)
                · replace c45_3 : (0 : Int32) = 0 := jd_eq c45_3
                  refine j_V.ldL fp7_M fp7_128 rfl (i := 3) (kd := 0) (v := .int (m_pp n w o)) (pcJ := 129) rfl L rfl rfl rfl ?_
                  rw [if_neg c89_0, show plS (fun a => m_pp n w a) v b (o :: []) = (if m_pp n w o < v then plS (fun a => m_pp n w a) (m_pp n w o) o [] else plS (fun a => m_pp n w a) v b []) from rfl, if_pos c95_1]
                  refine j_V.ri fp7_M fp7_129 ?_
                  exact ⟨rfl, T7, C4, ⟨_, C3, by rw [nxo_len V.1.n5 lo]⟩, fun x g => (FB x g).trans (FA x g)⟩
                · replace c45_3 : ¬ ((0 : Int32) = 0) := jd_eqn c45_3
                  exact absurd (by decide) c45_3
    | cons p r ih =>
      intro o b v i lv hc hi C A L P C3 C4 lb FA
      obtain ⟨C1, C2⟩ : x_nxo o (nI n) = (1, p) ∧ och (fun a => x_nxo a (nI n)) (p :: r) := C
      rw [List.length_cons] at hi
      obtain ⟨lo, po⟩ := A o (List.mem_cons_self ..)
      have hpo := hp1 o po
      obtain ⟨R4, Y4, Q, C281⟩ := P
      have e0 : nI i < 120 := nI_lt (a := i) (b := 120) (by omega) (by omega)
      refine hT9.opn Q (fun ly miz shuz busz lksz rlz pevz rkz staz phz spz cez duz hez riz usz cmz lfz lkdz rowz seaz pmsz pmmz pmtz pstz pwaz prsz prrz pfaz CT _ _ => ?_)
      have K9 : kA hc [(281, .inl (1, [.ref 282, .ref 307, .ref 323, .ref 324])), (282, .inl (7, [ly, .int miz, .int shuz, .int busz, .ref 283, .ref 284, .ref 285, .ref 286, .ref 287, .ref 288, .ref 289, .ref 290, .ref 291, .ref 292, .ref 293, .int lksz, .ref 294, .ref 295, .ref 298])), (323, .inr (.inl (0, o))), (324, .inr (.inl (0, b)))] := ⟨C281, CT.1, C3, C4, trivial⟩
      have K : KN hc [(281, .inl (1, [.ref 282, .ref 307, .ref 323, .ref 324])), (282, .inl (7, [ly, .int miz, .int shuz, .int busz, .ref 283, .ref 284, .ref 285, .ref 286, .ref 287, .ref 288, .ref 289, .ref 290, .ref 291, .ref 292, .ref 293, .int lksz, .ref 294, .ref 295, .ref 298])), (323, .inr (.inl (0, o))), (324, .inr (.inl (0, b)))] hc := K9.K
      have hn2 := hn2
      refine j_V.ldL fp7_M fp7_36 rfl (i := 5) (kd := 0) (v := .int (nI i)) (pcJ := 38) rfl L rfl rfl rfl ?_
      refine j_V.one fp7_M fp7_38 (by decide) (pcJ := 40) (stJ := [.int 120, .int (nI i)]) rfl ?_
      refine j_V.icmp fp7_M fp7_40 (t := 128) rfl (fun c40_0 => ?_) (fun c40_0 => ?_)
      · replace c40_0 : ¬ ((nI i) < 120) := jd_ge c40_0
        exact absurd e0 c40_0
      · replace c40_0 : (nI i) < 120 := jd_gen c40_0
        refine j_V.ldL fp7_M fp7_43 rfl (i := 4) (kd := 0) (v := .int 1) (pcJ := 45) rfl L rfl rfl rfl ?_
        refine j_V.ifc fp7_M fp7_45 (t := 128) rfl (fun c45_0 => ?_) (fun c45_0 => ?_)
        · replace c45_0 : (1 : Int32) = 0 := jd_eq c45_0
          exact absurd c45_0 (by decide)
        · replace c45_0 : ¬ ((1 : Int32) = 0) := jd_eqn c45_0
          refine j_V.ldL fp7_M fp7_48 rfl (i := 0) (kd := 2) (v := .ref 281) (pcJ := 49) rfl L rfl rfl rfl ?_
          refine j_V.getK fp7_M fp7_49 (ci := 1) (j := 0) rfl K rfl rfl ?_
          refine j_V.ldL fp7_M fp7_52 rfl (i := 1) (kd := 2) (v := .ref 4) (pcJ := 53) rfl L rfl rfl rfl ?_
          refine j_V.cl fp7_M fp7_53 rfl (md := 3) (mj := 61) rfl (by decide) yts_M (As := [.ref 282, .ref 4]) (rest := []) (jk_spl3 (K.at rfl) rfl rfl rfl (Nat.le_of_ble_eq_true rfl) (Nat.le_of_ble_eq_true rfl)) (fun d => ht_cp R4 Q) ?_
          rintro r h9 ⟨rfl, T9, F9⟩
          refine hS9.opn T9 (fun mi shu bus lks rl pev rk sta ph sp ce du he ri us cm lf lkd row sea pms pmm pmt pst pwa prs prr pfa CS hl4 V => ?_)
          have K9 : kA h9 [(281, .inl (1, [.ref 282, .ref 307, .ref 323, .ref 324])), (282, .inl (7, [.ref 327, .int mi, .int shu, .int bus, .ref 283, .ref 284, .ref 285, .ref 286, .ref 287, .ref 288, .ref 289, .ref 290, .ref 291, .ref 292, .ref 293, .int lks, .ref 294, .ref 295, .ref 298])), (283, .inr (.inl (0, rk))), (323, .inr (.inl (0, o))), (324, .inr (.inl (0, b)))] := ⟨(F9 281 (by decide)).trans C281, CS.1, CS.2.1, (F9 323 (by decide)).trans C3, (F9 324 (by decide)).trans C4, trivial⟩
          have K : KN h9 [(281, .inl (1, [.ref 282, .ref 307, .ref 323, .ref 324])), (282, .inl (7, [.ref 327, .int mi, .int shu, .int bus, .ref 283, .ref 284, .ref 285, .ref 286, .ref 287, .ref 288, .ref 289, .ref 290, .ref 291, .ref 292, .ref 293, .int lks, .ref 294, .ref 295, .ref 298])), (283, .inr (.inl (0, rk))), (323, .inr (.inl (0, o))), (324, .inr (.inl (0, b)))] h9 := K9.K
          show j_V jP _ 13 56 lv [] h9 _
          refine j_V.ldL fp7_M fp7_56 rfl (i := 0) (kd := 2) (v := .ref 281) (pcJ := 57) rfl L rfl rfl rfl ?_
          refine j_V.getK fp7_M fp7_57 (ci := 1) (j := 2) rfl K rfl rfl ?_
          refine j_V.one fp7_M fp7_60 (by decide) (pcJ := 61) (stJ := [.int 0, .ref 323]) rfl ?_
          refine j_V.ldL fp7_M fp7_61 rfl (i := 0) (kd := 2) (v := .ref 281) (pcJ := 62) rfl L rfl rfl rfl ?_
          refine j_V.getK fp7_M fp7_62 (ci := 1) (j := 0) rfl K rfl rfl ?_
          refine j_V.getK fp7_M fp7_65 (ci := 7) (j := 4) rfl K rfl rfl ?_
          refine j_V.one fp7_M fp7_68 (by decide) (pcJ := 69) (stJ := [.int 0, .ref 283, .int 0, .ref 323]) rfl ?_
          refine j_V.ldL fp7_M fp7_69 rfl (i := 2) (kd := 0) (v := .int (nI n)) (pcJ := 70) rfl L rfl rfl rfl ?_
          refine j_V.acp fp7_M fp7_70 rfl rfl K rfl rfl rfl (fun h K => ?_)
          refine j_V.ldL fp7_M fp7_73 rfl (i := 0) (kd := 2) (v := .ref 281) (pcJ := 74) rfl L rfl rfl rfl ?_
          refine j_V.getK fp7_M fp7_74 (ci := 1) (j := 0) rfl K rfl rfl ?_
          refine j_V.one fp7_M fp7_77 (by decide) (pcJ := 80) (stJ := [.int 300, .ref 282]) rfl ?_
          refine j_V.one fp7_M fp7_80 (by decide) (pcJ := 81) (stJ := [.int 1, .int 300, .ref 282]) rfl ?_
          refine j_V.one fp7_M fp7_81 (by decide) (pcJ := 82) (stJ := [.int 1, .int 1, .int 300, .ref 282]) rfl ?_
          have h5 := V.1.n5
          obtain ⟨pl1, pl2⟩ := pw_n (od := o) n 0 w (by omega) V.1.len
          have V9 := V.pw (rk' := aC (nI n) o rk) po (fun k hk => aC_gN9 (by omega) (by rw [hl4.1]; omega) hk)
          have VW := V.1
          have es : ∀ j, ¬ (196 ≤ j ∧ j < 201) → gN (m_pw o n 0 w) j = gN w j := fun j hj => by rw [pl2 j, if_neg (by omega)]
          have st : (∀ s j, s < 7 → j < 5 → fs (m_pw o n 0 w) s j = fs w s j) ∧ ∀ u j, u < n → j < 6 → j ≠ 3 → ft (m_pw o n 0 w) u j = ft w u j := ⟨fun s j _ _ => es _ (by omega), fun u j _ _ _ => es _ (by omega)⟩
          have C281x : h[281]? = some (.inl (1, [.ref 282, .ref 307, .ref 323, .ref 324])) := (K.at rfl)
          have C3x : h[323]? = some (.inr (.inl (0, o))) := (K.at rfl)
          have C4x : h[324]? = some (.inr (.inl (0, b))) := (K.at rfl)
          have F7 : ∀ x, x ≠ 283 → h[x]? = h9[x]? := fun x g => KN.off K9 K (lke (lke (lkn (fun z => g z.symm) (lke (lke rfl)))))
          have T2 : hS9 282 327 0 n S (m_pw o n 0 w) h := ⟨mi, shu, bus, lks, rl, pev, _, sta, ph, sp, ce, du, he, ri, us, cm, lf, lkd, row, sea, pms, pmm, pmt, pst, pwa, prs, prr, pfa, ⟨K.at rfl, K.at rfl, (K.2.1 284 rfl).trans CS.2.2.1, (K.2.1 285 rfl).trans CS.2.2.2.1, (K.2.1 286 rfl).trans CS.2.2.2.2.1, (K.2.1 287 rfl).trans CS.2.2.2.2.2.1, (K.2.1 288 rfl).trans CS.2.2.2.2.2.2.1, (K.2.1 289 rfl).trans CS.2.2.2.2.2.2.2.1, (K.2.1 290 rfl).trans CS.2.2.2.2.2.2.2.2.1, (K.2.1 291 rfl).trans CS.2.2.2.2.2.2.2.2.2.1, (K.2.1 292 rfl).trans CS.2.2.2.2.2.2.2.2.2.2.1, (K.2.1 293 rfl).trans CS.2.2.2.2.2.2.2.2.2.2.2.1, (K.2.1 294 rfl).trans CS.2.2.2.2.2.2.2.2.2.2.2.2.1, (K.2.1 295 rfl).trans CS.2.2.2.2.2.2.2.2.2.2.2.2.2.1, (K.2.1 296 rfl).trans CS.2.2.2.2.2.2.2.2.2.2.2.2.2.2.1, (K.2.1 297 rfl).trans CS.2.2.2.2.2.2.2.2.2.2.2.2.2.2.2.1, (K.2.1 298 rfl).trans CS.2.2.2.2.2.2.2.2.2.2.2.2.2.2.2.2.1, (K.2.1 299 rfl).trans CS.2.2.2.2.2.2.2.2.2.2.2.2.2.2.2.2.2.1, (K.2.1 300 rfl).trans CS.2.2.2.2.2.2.2.2.2.2.2.2.2.2.2.2.2.2.1, (K.2.1 301 rfl).trans CS.2.2.2.2.2.2.2.2.2.2.2.2.2.2.2.2.2.2.2.1, (K.2.1 302 rfl).trans CS.2.2.2.2.2.2.2.2.2.2.2.2.2.2.2.2.2.2.2.2.1, (K.2.1 303 rfl).trans CS.2.2.2.2.2.2.2.2.2.2.2.2.2.2.2.2.2.2.2.2.2.1, (K.2.1 304 rfl).trans CS.2.2.2.2.2.2.2.2.2.2.2.2.2.2.2.2.2.2.2.2.2.2.1, (K.2.1 305 rfl).trans CS.2.2.2.2.2.2.2.2.2.2.2.2.2.2.2.2.2.2.2.2.2.2.2.1, (K.2.1 306 rfl).trans CS.2.2.2.2.2.2.2.2.2.2.2.2.2.2.2.2.2.2.2.2.2.2.2.2⟩, ⟨(aC_len ..).trans hl4.1, hl4.2⟩, V9⟩
          have Y2 : hY9 327 n S (m_pw o n 0 w) h := (Y4.to VW.g V9.1.g st.1 st.2).fr (fun x _ _ => (F7 x (by omega)).trans (F9 x (by omega)))
          have hm2 : gN (m_pw o n 0 w) 201 = nI m := (es 201 (by omega)).trans hm
          refine j_V.cl fp7_M fp7_82 rfl (md := 3) (mj := 92) rfl (by decide) xc45_M (As := [.ref 282, .int 300, .int 1, .int 1]) (rest := []) (jk_spl3 (K.at rfl) rfl rfl rfl (Nat.le_of_ble_eq_true rfl) (Nat.le_of_ble_eq_true rfl)) (fun d => hv_xc (k := 300) (e := true) T2 Y2 hm2 hb 1 _ rfl) ?_
          rintro r h8 ⟨rfl, T8, Y8, -, F8⟩
          have K9 : kA h8 [(281, .inl (1, [.ref 282, .ref 307, .ref 323, .ref 324])), (323, .inr (.inl (0, o))), (324, .inr (.inl (0, b)))] := ⟨(F8 281 (by decide)).trans C281x, (F8 323 (by decide)).trans C3x, (F8 324 (by decide)).trans C4x, trivial⟩
          have K : KN h8 [(281, .inl (1, [.ref 282, .ref 307, .ref 323, .ref 324])), (323, .inr (.inl (0, o))), (324, .inr (.inl (0, b)))] h8 := K9.K
          rw [show m_price (m_adv n 1 true 300 (m_pw o n 0 w)) = m_pp n w o from pE_adv n _]
          show j_V jP _ 13 85 lv [.int (m_pp n w o)] h8 _
          refine j_V.stL fp7_M fp7_85 rfl (i := 6) (kd := 0) (kl' := [(0, .ref 281), (1, .ref 4), (2, .int (nI n)), (3, .int v), (4, .int 1), (5, .int (nI i)), (6, .int (m_pp n w o))]) (pcJ := 87) rfl L rfl (by decide) rfl rfl rfl (fun lv L => ?_)
          refine j_V.ldL fp7_M fp7_87 rfl (i := 3) (kd := 0) (v := .int v) (pcJ := 88) rfl L rfl rfl rfl ?_
          refine j_V.one fp7_M fp7_88 (by decide) (pcJ := 89) (stJ := [.int (-1), .int v]) rfl ?_
          refine j_V.icmp fp7_M fp7_89 (t := 98) rfl (fun c89_0 => ?_) (fun c89_0 => ?_)
          · replace c89_0 : v = (-1) := jd_eq c89_0
            refine j_V.ldL fp7_M fp7_98 rfl (i := 6) (kd := 0) (v := .int (m_pp n w o)) (pcJ := 100) rfl L rfl rfl rfl ?_
            refine j_V.stL fp7_M fp7_100 rfl (i := 3) (kd := 0) (kl' := [(0, .ref 281), (1, .ref 4), (2, .int (nI n)), (3, .int (m_pp n w o)), (4, .int 1), (5, .int (nI i)), (6, .int (m_pp n w o))]) (pcJ := 101) rfl L rfl (by decide) rfl rfl rfl (fun lv L => ?_)
            refine j_V.ldL fp7_M fp7_101 rfl (i := 0) (kd := 2) (v := .ref 281) (pcJ := 102) rfl L rfl rfl rfl ?_
            refine j_V.getK fp7_M fp7_102 (ci := 1) (j := 2) rfl K rfl rfl ?_
            refine j_V.one fp7_M fp7_105 (by decide) (pcJ := 106) (stJ := [.int 0, .ref 323]) rfl ?_
            refine j_V.ldL fp7_M fp7_106 rfl (i := 0) (kd := 2) (v := .ref 281) (pcJ := 107) rfl L rfl rfl rfl ?_
            refine j_V.getK fp7_M fp7_107 (ci := 1) (j := 3) rfl K rfl rfl ?_
            refine j_V.one fp7_M fp7_110 (by decide) (pcJ := 111) (stJ := [.int 0, .ref 324, .int 0, .ref 323]) rfl ?_
            refine j_V.one fp7_M fp7_111 (by decide) (pcJ := 112) (stJ := [.int 5, .int 0, .ref 324, .int 0, .ref 323]) rfl ?_
            refine j_V.acp fp7_M fp7_112 rfl rfl K rfl rfl rfl (fun h K => ?_)
            refine j_V.ldL fp7_M fp7_115 rfl (i := 0) (kd := 2) (v := .ref 281) (pcJ := 116) rfl L rfl rfl rfl ?_
            refine j_V.ldL fp7_M fp7_116 rfl (i := 2) (kd := 0) (v := .int (nI n)) (pcJ := 117) rfl L rfl rfl rfl ?_
            have FP : ∀ x, x ≠ 324 → h[x]? = h8[x]? := fun x g => KN.off K9 K (lke (lke (lkn (fun z => g z.symm) rfl)))
            have C4p : h[324]? = some (.inr (.inl (0, (aC 5 o b)))) := K.at rfl
            rw [show (aC 5 o b) = o from aC_eq (k := 5) (by decide) lo lb] at C4p
            have K9 : kA h [(281, .inl (1, [.ref 282, .ref 307, .ref 323, .ref 324])), (323, .inr (.inl (0, o)))] := ⟨K.at rfl, K.at rfl, trivial⟩
            refine j_V.cl fp7_M fp7_117 rfl (md := 3) (mj := 14) rfl (by decide) fo1_M (As := [.ref 281, .int (nI n)]) (rest := []) (jk_spl3 (K.at rfl) rfl rfl rfl (Nat.le_of_ble_eq_true rfl) (Nat.le_of_ble_eq_true rfl)) (fun d => fo1_ok hn2 K9.K) ?_
            rintro r h7 ⟨rfl, K⟩
            rw [C1] at K ⊢
            have FQ : ∀ x, x ≠ 323 → h7[x]? = h[x]? := fun x g => KN.off K9 K (lke (lkn (fun z => g z.symm) rfl))
            have C4 : h7[324]? = some (.inr (.inl (0, o))) := (FQ 324 (by decide)).trans C4p
            have C3 : h7[323]? = some (.inr (.inl (0, p))) := K.at rfl
            have FB : ∀ x, (x < 282 ∨ (307 ≤ x ∧ x ≠ 323 ∧ x ≠ 324)) → h7[x]? = hc[x]? := fun x g => (FQ x (by omega)).trans ((FP x (by omega)).trans ((F8 x (by omega)).trans ((F7 x (by omega)).trans (F9 x (by omega)))))
            have T7 : hT9 282 0 h7 := T8.sh.fr (fun x _ _ => (FQ x (by omega)).trans (FP x (by omega)))
            have K9 : kA h7 [(281, .inl (1, [.ref 282, .ref 307, .ref 323, .ref 324])), (323, .inr (.inl (0, p))), (324, .inr (.inl (0, o)))] := ⟨K.at rfl, C3, C4, trivial⟩
            have K : KN h7 [(281, .inl (1, [.ref 282, .ref 307, .ref 323, .ref 324])), (323, .inr (.inl (0, p))), (324, .inr (.inl (0, o)))] h7 := K9.K
            show j_V jP _ 13 120 lv [.int 1] h7 _
            refine j_V.stL fp7_M fp7_120 rfl (i := 4) (kd := 0) (kl' := [(0, .ref 281), (1, .ref 4), (2, .int (nI n)), (3, .int (m_pp n w o)), (4, .int 1), (5, .int (nI i)), (6, .int (m_pp n w o))]) (pcJ := 122) rfl L rfl (by decide) rfl rfl rfl (fun lv L => ?_)
            refine j_V.inL fp7_M fp7_122 (i := 5) (kl' := [(0, .ref 281), (1, .ref 4), (2, .int (nI n)), (3, .int (m_pp n w o)), (4, .int 1), (5, .int ((nI i) + 1)), (6, .int (m_pp n w o))]) (pcJ := 125) L rfl rfl rfl rfl (fun lv L => ?_)
            refine j_V.gto fp7_M fp7_125 (t := 36) rfl ?_
            rw [if_pos c89_0]
            rw [nI_1] at L
            have P7 : hF 327 n S w h7 := ⟨R4.fr (fun x _ _ => FB x (by omega)), Y4.fr (fun x _ _ => FB x (by omega)), T7, (FB 281 (by decide)).trans C281⟩
            have g := fun lv L => ih p o (m_pp n w o) (i + 1) lv h7 (by omega) C2 (fun a ha => A a (List.mem_cons_of_mem _ ha)) L P7 C3 C4 lo (fun x g => (FB x g).trans (FA x g))
            rw [if_neg hpo] at g
            exact g _ (L.sub ⟨rfl, rfl, rfl, rfl, rfl, rfl, trivial⟩)
          · replace c89_0 : ¬ (v = (-1)) := jd_eqn c89_0
            refine j_V.ldL fp7_M fp7_92 rfl (i := 6) (kd := 0) (v := .int (m_pp n w o)) (pcJ := 94) rfl L rfl rfl rfl ?_
            refine j_V.ldL fp7_M fp7_94 rfl (i := 3) (kd := 0) (v := .int v) (pcJ := 95) rfl L rfl rfl rfl ?_
            refine j_V.icmp fp7_M fp7_95 (t := 115) rfl (fun c95_1 => ?_) (fun c95_1 => ?_)
            · replace c95_1 : ¬ ((m_pp n w o) < v) := jd_ge c95_1
              refine j_V.ldL fp7_M fp7_115 rfl (i := 0) (kd := 2) (v := .ref 281) (pcJ := 116) rfl L rfl rfl rfl ?_
              refine j_V.ldL fp7_M fp7_116 rfl (i := 2) (kd := 0) (v := .int (nI n)) (pcJ := 117) rfl L rfl rfl rfl ?_
              have FP : ∀ x, x ≠ 324 → h8[x]? = h8[x]? := fun x g => KN.off K9 K (lke (lke (lkn (fun z => g z.symm) rfl)))
              have C4p : h8[324]? = some (.inr (.inl (0, b))) := K.at rfl
              have K9 : kA h8 [(281, .inl (1, [.ref 282, .ref 307, .ref 323, .ref 324])), (323, .inr (.inl (0, o)))] := ⟨K.at rfl, K.at rfl, trivial⟩
              refine j_V.cl fp7_M fp7_117 rfl (md := 3) (mj := 14) rfl (by decide) fo1_M (As := [.ref 281, .int (nI n)]) (rest := []) (jk_spl3 (K.at rfl) rfl rfl rfl (Nat.le_of_ble_eq_true rfl) (Nat.le_of_ble_eq_true rfl)) (fun d => fo1_ok hn2 K9.K) ?_
              rintro r h7 ⟨rfl, K⟩
              rw [C1] at K ⊢
              have FQ : ∀ x, x ≠ 323 → h7[x]? = h8[x]? := fun x g => KN.off K9 K (lke (lkn (fun z => g z.symm) rfl))
              have C4 : h7[324]? = some (.inr (.inl (0, b))) := (FQ 324 (by decide)).trans C4p
              have C3 : h7[323]? = some (.inr (.inl (0, p))) := K.at rfl
              have FB : ∀ x, (x < 282 ∨ (307 ≤ x ∧ x ≠ 323 ∧ x ≠ 324)) → h7[x]? = hc[x]? := fun x g => (FQ x (by omega)).trans ((FP x (by omega)).trans ((F8 x (by omega)).trans ((F7 x (by omega)).trans (F9 x (by omega)))))
              have T7 : hT9 282 0 h7 := T8.sh.fr (fun x _ _ => (FQ x (by omega)).trans (FP x (by omega)))
              have K9 : kA h7 [(281, .inl (1, [.ref 282, .ref 307, .ref 323, .ref 324])), (323, .inr (.inl (0, p))), (324, .inr (.inl (0, b)))] := ⟨K.at rfl, C3, C4, trivial⟩
              have K : KN h7 [(281, .inl (1, [.ref 282, .ref 307, .ref 323, .ref 324])), (323, .inr (.inl (0, p))), (324, .inr (.inl (0, b)))] h7 := K9.K
              show j_V jP _ 13 120 lv [.int 1] h7 _
              refine j_V.stL fp7_M fp7_120 rfl (i := 4) (kd := 0) (kl' := [(0, .ref 281), (1, .ref 4), (2, .int (nI n)), (3, .int v), (4, .int 1), (5, .int (nI i)), (6, .int (m_pp n w o))]) (pcJ := 122) rfl L rfl (by decide) rfl rfl rfl (fun lv L => ?_)
              refine j_V.inL fp7_M fp7_122 (i := 5) (kl' := [(0, .ref 281), (1, .ref 4), (2, .int (nI n)), (3, .int v), (4, .int 1), (5, .int ((nI i) + 1)), (6, .int (m_pp n w o))]) (pcJ := 125) L rfl rfl rfl rfl (fun lv L => ?_)
              refine j_V.gto fp7_M fp7_125 (t := 36) rfl ?_
              rw [if_neg c89_0, show plS (fun a => m_pp n w a) v b (o :: (p :: r)) = (if m_pp n w o < v then plS (fun a => m_pp n w a) (m_pp n w o) o (p :: r) else plS (fun a => m_pp n w a) v b (p :: r)) from rfl, if_neg c95_1]
              rw [nI_1] at L
              have P7 : hF 327 n S w h7 := ⟨R4.fr (fun x _ _ => FB x (by omega)), Y4.fr (fun x _ _ => FB x (by omega)), T7, (FB 281 (by decide)).trans C281⟩
              have g := fun lv L => ih p b v (i + 1) lv h7 (by omega) C2 (fun a ha => A a (List.mem_cons_of_mem _ ha)) L P7 C3 C4 lb (fun x g => (FB x g).trans (FA x g))
              rw [if_neg c89_0] at g
              exact g _ (L.sub ⟨rfl, rfl, rfl, rfl, rfl, rfl, trivial⟩)
            · replace c95_1 : (m_pp n w o) < v := jd_gen c95_1
              refine j_V.ldL fp7_M fp7_98 rfl (i := 6) (kd := 0) (v := .int (m_pp n w o)) (pcJ := 100) rfl L rfl rfl rfl ?_
              refine j_V.stL fp7_M fp7_100 rfl (i := 3) (kd := 0) (kl' := [(0, .ref 281), (1, .ref 4), (2, .int (nI n)), (3, .int (m_pp n w o)), (4, .int 1), (5, .int (nI i)), (6, .int (m_pp n w o))]) (pcJ := 101) rfl L rfl (by decide) rfl rfl rfl (fun lv L => ?_)
              refine j_V.ldL fp7_M fp7_101 rfl (i := 0) (kd := 2) (v := .ref 281) (pcJ := 102) rfl L rfl rfl rfl ?_
              refine j_V.getK fp7_M fp7_102 (ci := 1) (j := 2) rfl K rfl rfl ?_
              refine j_V.one fp7_M fp7_105 (by decide) (pcJ := 106) (stJ := [.int 0, .ref 323]) rfl ?_
              refine j_V.ldL fp7_M fp7_106 rfl (i := 0) (kd := 2) (v := .ref 281) (pcJ := 107) rfl L rfl rfl rfl ?_
              refine j_V.getK fp7_M fp7_107 (ci := 1) (j := 3) rfl K rfl rfl ?_
              refine j_V.one fp7_M fp7_110 (by decide) (pcJ := 111) (stJ := [.int 0, .ref 324, .int 0, .ref 323]) rfl ?_
              refine j_V.one fp7_M fp7_111 (by decide) (pcJ := 112) (stJ := [.int 5, .int 0, .ref 324, .int 0, .ref 323]) rfl ?_
              refine j_V.acp fp7_M fp7_112 rfl rfl K rfl rfl rfl (fun h K => ?_)
              refine j_V.ldL fp7_M fp7_115 rfl (i := 0) (kd := 2) (v := .ref 281) (pcJ := 116) rfl L rfl rfl rfl ?_
              refine j_V.ldL fp7_M fp7_116 rfl (i := 2) (kd := 0) (v := .int (nI n)) (pcJ := 117) rfl L rfl rfl rfl ?_
              have FP : ∀ x, x ≠ 324 → h[x]? = h8[x]? := fun x g => KN.off K9 K (lke (lke (lkn (fun z => g z.symm) rfl)))
              have C4p : h[324]? = some (.inr (.inl (0, (aC 5 o b)))) := K.at rfl
              rw [show (aC 5 o b) = o from aC_eq (k := 5) (by decide) lo lb] at C4p
              have K9 : kA h [(281, .inl (1, [.ref 282, .ref 307, .ref 323, .ref 324])), (323, .inr (.inl (0, o)))] := ⟨K.at rfl, K.at rfl, trivial⟩
              refine j_V.cl fp7_M fp7_117 rfl (md := 3) (mj := 14) rfl (by decide) fo1_M (As := [.ref 281, .int (nI n)]) (rest := []) (jk_spl3 (K.at rfl) rfl rfl rfl (Nat.le_of_ble_eq_true rfl) (Nat.le_of_ble_eq_true rfl)) (fun d => fo1_ok hn2 K9.K) ?_
              rintro r h7 ⟨rfl, K⟩
              rw [C1] at K ⊢
              have FQ : ∀ x, x ≠ 323 → h7[x]? = h[x]? := fun x g => KN.off K9 K (lke (lkn (fun z => g z.symm) rfl))
              have C4 : h7[324]? = some (.inr (.inl (0, o))) := (FQ 324 (by decide)).trans C4p
              have C3 : h7[323]? = some (.inr (.inl (0, p))) := K.at rfl
              have FB : ∀ x, (x < 282 ∨ (307 ≤ x ∧ x ≠ 323 ∧ x ≠ 324)) → h7[x]? = hc[x]? := fun x g => (FQ x (by omega)).trans ((FP x (by omega)).trans ((F8 x (by omega)).trans ((F7 x (by omega)).trans (F9 x (by omega)))))
              have T7 : hT9 282 0 h7 := T8.sh.fr (fun x _ _ => (FQ x (by omega)).trans (FP x (by omega)))
              have K9 : kA h7 [(281, .inl (1, [.ref 282, .ref 307, .ref 323, .ref 324])), (323, .inr (.inl (0, p))), (324, .inr (.inl (0, o)))] := ⟨K.at rfl, C3, C4, trivial⟩
              have K : KN h7 [(281, .inl (1, [.ref 282, .ref 307, .ref 323, .ref 324])), (323, .inr (.inl (0, p))), (324, .inr (.inl (0, o)))] h7 := K9.K
              show j_V jP _ 13 120 lv [.int 1] h7 _
              refine j_V.stL fp7_M fp7_120 rfl (i := 4) (kd := 0) (kl' := [(0, .ref 281), (1, .ref 4), (2, .int (nI n)), (3, .int (m_pp n w o)), (4, .int 1), (5, .int (nI i)), (6, .int (m_pp n w o))]) (pcJ := 122) rfl L rfl (by decide) rfl rfl rfl (fun lv L => ?_)
              refine j_V.inL fp7_M fp7_122 (i := 5) (kl' := [(0, .ref 281), (1, .ref 4), (2, .int (nI n)), (3, .int (m_pp n w o)), (4, .int 1), (5, .int ((nI i) + 1)), (6, .int (m_pp n w o))]) (pcJ := 125) L rfl rfl rfl rfl (fun lv L => ?_)
              refine j_V.gto fp7_M fp7_125 (t := 36) rfl ?_
              rw [if_neg c89_0, show plS (fun a => m_pp n w a) v b (o :: (p :: r)) = (if m_pp n w o < v then plS (fun a => m_pp n w a) (m_pp n w o) o (p :: r) else plS (fun a => m_pp n w a) v b (p :: r)) from rfl, if_pos c95_1]
              rw [nI_1] at L
              have P7 : hF 327 n S w h7 := ⟨R4.fr (fun x _ _ => FB x (by omega)), Y4.fr (fun x _ _ => FB x (by omega)), T7, (FB 281 (by decide)).trans C281⟩
              have g := fun lv L => ih p o (m_pp n w o) (i + 1) lv h7 (by omega) C2 (fun a ha => A a (List.mem_cons_of_mem _ ha)) L P7 C3 C4 lo (fun x g => (FB x g).trans (FA x g))
              rw [if_neg hpo] at g
              exact g _ (L.sub ⟨rfl, rfl, rfl, rfl, rfl, rfl, trivial⟩)
  have Y4 := P.2.1
  have R4 := P.1
  refine hY9.opn Y4 (fun celz runz traz lenz sizz frmz ttoz lstz sloz weiz fitz wayz ridz lonz CY _ _ _ => ?_)
  refine hS9.opn R4 (fun miN shuN busN lksN rlN pevN rkN staN phN spN ceN duN heN riN usN cmN lfN lkdN rowN seaN pmsN pmmN pmtN pstN pwaN prsN prrN pfaN CN _ _ => ?_)
  have K9 : kA g0 [(4, .inl (7, [.ref 327, .int miN, .int shuN, .int busN, .ref 5, .ref 6, .ref 7, .ref 8, .ref 9, .ref 10, .ref 11, .ref 12, .ref 13, .ref 14, .ref 15, .int lksN, .ref 16, .ref 17, .ref 20])), (281, .inl (1, [.ref 282, .ref 307, .ref 323, .ref 324])), (323, .inr (.inl (0, o9))), (324, .inr (.inl (0, b9))), (327, .inl (2, [.int (nI S), .ref 328, .ref 329, .ref 330, .ref 331, .int (nI n), .ref 332, .ref 333, .ref 334, .ref 335, .ref 336, .ref 337, .ref 338, .int celz, .ref 339, .ref 340, .ref 341, .ref 342]))] := ⟨CN.1, P.2.2.2, C3, C4, CY.1, trivial⟩
  have K : KN g0 [(4, .inl (7, [.ref 327, .int miN, .int shuN, .int busN, .ref 5, .ref 6, .ref 7, .ref 8, .ref 9, .ref 10, .ref 11, .ref 12, .ref 13, .ref 14, .ref 15, .int lksN, .ref 16, .ref 17, .ref 20])), (281, .inl (1, [.ref 282, .ref 307, .ref 323, .ref 324])), (323, .inr (.inl (0, o9))), (324, .inr (.inl (0, b9))), (327, .inl (2, [.int (nI S), .ref 328, .ref 329, .ref 330, .ref 331, .int (nI n), .ref 332, .ref 333, .ref 334, .ref 335, .ref 336, .ref 337, .ref 338, .int celz, .ref 339, .ref 340, .ref 341, .ref 342]))] g0 := K9.K
  show j_V jP d 13 0 [(0, .ref 281), (1, .ref 4)] [] g0 _
  obtain ⟨lv, elv, L9⟩ : ∃ lv, lv = [(0, .ref 281), (1, .ref 4)] ∧ LK lv [(0, .ref 281), (1, .ref 4)] := ⟨_, rfl, LK.rf⟩
  rw [← elv]
  clear elv
  have L := L9
  refine j_V.ldL fp7_M fp7_0 rfl (i := 1) (kd := 2) (v := .ref 4) (pcJ := 1) rfl L rfl rfl rfl ?_
  refine j_V.getK fp7_M fp7_1 (ci := 7) (j := 0) rfl K rfl rfl ?_
  refine j_V.getK fp7_M fp7_4 (ci := 2) (j := 5) rfl K rfl rfl ?_
  refine j_V.stL fp7_M fp7_7 rfl (i := 2) (kd := 0) (kl' := [(0, .ref 281), (1, .ref 4), (2, .int (nI n))]) (pcJ := 8) rfl L rfl (by decide) rfl rfl rfl (fun lv L => ?_)
  refine j_V.one fp7_M fp7_8 (by decide) (pcJ := 9) (stJ := [.int 0]) rfl ?_
  refine j_V.stL fp7_M fp7_9 rfl (i := 3) (kd := 0) (kl' := [(0, .ref 281), (1, .ref 4), (2, .int (nI n)), (3, .int 0)]) (pcJ := 10) rfl L rfl (by decide) rfl rfl rfl (fun lv L => ?_)
  have KA : KN g0 [(281, .inl (1, [.ref 282, .ref 307, .ref 323, .ref 324])), (323, .inr (.inl (0, o9)))] g0 := K.fi [281, 323] rfl rfl
  refine hl_po 5 0 o9 rfl L KA (fun lv h L K => ?_)
  have K0 : kA g0 [(281, .inl (1, [.ref 282, .ref 307, .ref 323, .ref 324])), (323, .inr (.inl (0, o9)))] := ⟨P.2.2.2, C3, trivial⟩
  refine j_V.one fp7_M fp7_28 (by decide) (pcJ := 29) (stJ := [.int (-1)]) rfl ?_
  refine j_V.stL fp7_M fp7_29 rfl (i := 3) (kd := 0) (kl' := [(0, .ref 281), (1, .ref 4), (2, .int (nI n)), (3, .int (-1))]) (pcJ := 30) rfl L rfl (by decide) rfl rfl rfl (fun lv L => ?_)
  refine j_V.one fp7_M fp7_30 (by decide) (pcJ := 31) (stJ := [.int 1]) rfl ?_
  refine j_V.stL fp7_M fp7_31 rfl (i := 4) (kd := 0) (kl' := [(0, .ref 281), (1, .ref 4), (2, .int (nI n)), (3, .int (-1)), (4, .int 1)]) (pcJ := 33) rfl L rfl (by decide) rfl rfl rfl (fun lv L => ?_)
  refine j_V.one fp7_M fp7_33 (by decide) (pcJ := 34) (stJ := [.int 0]) rfl ?_
  refine j_V.stL fp7_M fp7_34 rfl (i := 5) (kd := 0) (kl' := [(0, .ref 281), (1, .ref 4), (2, .int (nI n)), (3, .int (-1)), (4, .int 1), (5, .int 0)]) (pcJ := 36) rfl L rfl (by decide) rfl rfl rfl (fun lv L => ?_)
  have F0 : ∀ x, x ≠ 323 → h[x]? = g0[x]? := fun x g => KN.off K0 K (lke (lkn (fun z => g z.symm) rfl))
  have C3h : h[323]? = some (.inr (.inl (0, (m_poI 5 0 o9)))) := K.at rfl
  rw [poI5 lo9] at C3h
  have P0 : hF 327 n S w h := ⟨R4.fr (fun x _ _ => F0 x (by omega)), Y4.fr (fun x _ _ => F0 x (by omega)), P.2.2.1.fr (fun x _ _ => F0 x (by omega)), (F0 281 (by decide)).trans P.2.2.2⟩
  have g := fun lv L => hl r [0, 1, 2, 3, 4] b9 (-1) 0 lv h (by omega) hx hA L P0 C3h ((F0 324 (by decide)).trans C4) lb9 (fun x g => F0 x (by omega))
  rw [if_pos rfl] at g
  exact g _ L
set_option maxRecDepth 1000000 in
theorem hp_plan_343 {g0 : J_H} {n S m d : Nat} {w o9 b9 : List Int32} (P : hF 343 n S w g0) (hm : gN w 201 = nI m) (hb : m + 300 < 2 ^ 30) (C3 : g0[323]? = some (.inr (.inl (0, o9)))) (C4 : g0[324]? = some (.inr (.inl (0, b9)))) (lo9 : o9.length = 5) (lb9 : b9.length = 5) {r : List (List Int32)} (hx : och (fun a => x_nxo a (nI n)) ([0, 1, 2, 3, 4] :: r)) (hA : ∀ a, a ∈ [0, 1, 2, 3, 4] :: r → a.length = 5 ∧ prm n a) (hr : r.length < 120) (hp1 : ∀ o, prm n o → ¬ m_pp n w o = -1) : j_V jP d 13 0 (lv_args 0 [.ref 281, .ref 4]) [] g0 (fun rv h' => fpQ (plS (fun a => m_pp n w a) (m_pp n w [0, 1, 2, 3, 4]) [0, 1, 2, 3, 4] r) g0 rv h') := by
  have h5 : n ≤ 5 := P.1.n5
  have hn2 := n2_5 h5
  have hl : ∀ (r : List (List Int32)) (o b : List Int32) (v : Int32) (i : Nat) (lv : J_L) (hc : J_H), i + r.length < 120 → och (fun a => x_nxo a (nI n)) (o :: r) → (∀ a, a ∈ o :: r → a.length = 5 ∧ prm n a) → LK lv [(0, .ref 281), (1, .ref 4), (2, .int (nI n)), (3, .int v), (4, .int 1), (5, .int (nI i))] → hF 343 n S w hc → hc[323]? = some (.inr (.inl (0, o))) → hc[324]? = some (.inr (.inl (0, b))) → b.length = 5 → (∀ x, (x < 282 ∨ (307 ≤ x ∧ x ≠ 323 ∧ x ≠ 324)) → hc[x]? = g0[x]?) → j_V jP d 13 36 lv [] hc (fun rv h' => fpQ (if v = -1 then plS (fun a => m_pp n w a) (m_pp n w o) o r else plS (fun a => m_pp n w a) v b (o :: r)) g0 rv h') := by
    intro r
    induction r with
    | nil =>
      intro o b v i lv hc hi C A L P C3 C4 lb FA
      have C : (x_nxo o (nI n)).1 = 0 := C
      rw [List.length_nil] at hi
      obtain ⟨lo, po⟩ := A o (List.mem_cons_self ..)
      have hpo := hp1 o po
      obtain ⟨R4, Y4, Q, C281⟩ := P
      have e0 : nI i < 120 := nI_lt (a := i) (b := 120) (by omega) (by omega)
      refine hT9.opn Q (fun ly miz shuz busz lksz rlz pevz rkz staz phz spz cez duz hez riz usz cmz lfz lkdz rowz seaz pmsz pmmz pmtz pstz pwaz prsz prrz pfaz CT _ _ => ?_)
      have K9 : kA hc [(281, .inl (1, [.ref 282, .ref 307, .ref 323, .ref 324])), (282, .inl (7, [ly, .int miz, .int shuz, .int busz, .ref 283, .ref 284, .ref 285, .ref 286, .ref 287, .ref 288, .ref 289, .ref 290, .ref 291, .ref 292, .ref 293, .int lksz, .ref 294, .ref 295, .ref 298])), (323, .inr (.inl (0, o))), (324, .inr (.inl (0, b)))] := ⟨C281, CT.1, C3, C4, trivial⟩
      have K : KN hc [(281, .inl (1, [.ref 282, .ref 307, .ref 323, .ref 324])), (282, .inl (7, [ly, .int miz, .int shuz, .int busz, .ref 283, .ref 284, .ref 285, .ref 286, .ref 287, .ref 288, .ref 289, .ref 290, .ref 291, .ref 292, .ref 293, .int lksz, .ref 294, .ref 295, .ref 298])), (323, .inr (.inl (0, o))), (324, .inr (.inl (0, b)))] hc := K9.K
      have hn2 := hn2
      refine j_V.ldL fp7_M fp7_36 rfl (i := 5) (kd := 0) (v := .int (nI i)) (pcJ := 38) rfl L rfl rfl rfl ?_
      refine j_V.one fp7_M fp7_38 (by decide) (pcJ := 40) (stJ := [.int 120, .int (nI i)]) rfl ?_
      refine j_V.icmp fp7_M fp7_40 (t := 128) rfl (fun c40_0 => ?_) (fun c40_0 => ?_)
      · replace c40_0 : ¬ ((nI i) < 120) := jd_ge c40_0
        exact absurd e0 c40_0
      · replace c40_0 : (nI i) < 120 := jd_gen c40_0
        refine j_V.ldL fp7_M fp7_43 rfl (i := 4) (kd := 0) (v := .int 1) (pcJ := 45) rfl L rfl rfl rfl ?_
        refine j_V.ifc fp7_M fp7_45 (t := 128) rfl (fun c45_0 => ?_) (fun c45_0 => ?_)
        · replace c45_0 : (1 : Int32) = 0 := jd_eq c45_0
          exact absurd c45_0 (by decide)
        · replace c45_0 : ¬ ((1 : Int32) = 0) := jd_eqn c45_0
          refine j_V.ldL fp7_M fp7_48 rfl (i := 0) (kd := 2) (v := .ref 281) (pcJ := 49) rfl L rfl rfl rfl ?_
          refine j_V.getK fp7_M fp7_49 (ci := 1) (j := 0) rfl K rfl rfl ?_
          refine j_V.ldL fp7_M fp7_52 rfl (i := 1) (kd := 2) (v := .ref 4) (pcJ := 53) rfl L rfl rfl rfl ?_
          refine j_V.cl fp7_M fp7_53 rfl (md := 3) (mj := 61) rfl (by decide) yts_M (As := [.ref 282, .ref 4]) (rest := []) (jk_spl3 (K.at rfl) rfl rfl rfl (Nat.le_of_ble_eq_true rfl) (Nat.le_of_ble_eq_true rfl)) (fun d => ht_cp R4 Q) ?_
          rintro r h9 ⟨rfl, T9, F9⟩
          refine hS9.opn T9 (fun mi shu bus lks rl pev rk sta ph sp ce du he ri us cm lf lkd row sea pms pmm pmt pst pwa prs prr pfa CS hl4 V => ?_)
          have K9 : kA h9 [(281, .inl (1, [.ref 282, .ref 307, .ref 323, .ref 324])), (282, .inl (7, [.ref 343, .int mi, .int shu, .int bus, .ref 283, .ref 284, .ref 285, .ref 286, .ref 287, .ref 288, .ref 289, .ref 290, .ref 291, .ref 292, .ref 293, .int lks, .ref 294, .ref 295, .ref 298])), (283, .inr (.inl (0, rk))), (323, .inr (.inl (0, o))), (324, .inr (.inl (0, b)))] := ⟨(F9 281 (by decide)).trans C281, CS.1, CS.2.1, (F9 323 (by decide)).trans C3, (F9 324 (by decide)).trans C4, trivial⟩
          have K : KN h9 [(281, .inl (1, [.ref 282, .ref 307, .ref 323, .ref 324])), (282, .inl (7, [.ref 343, .int mi, .int shu, .int bus, .ref 283, .ref 284, .ref 285, .ref 286, .ref 287, .ref 288, .ref 289, .ref 290, .ref 291, .ref 292, .ref 293, .int lks, .ref 294, .ref 295, .ref 298])), (283, .inr (.inl (0, rk))), (323, .inr (.inl (0, o))), (324, .inr (.inl (0, b)))] h9 := K9.K
          show j_V jP _ 13 56 lv [] h9 _
          refine j_V.ldL fp7_M fp7_56 rfl (i := 0) (kd := 2) (v := .ref 281) (pcJ := 57) rfl L rfl rfl rfl ?_
          refine j_V.getK fp7_M fp7_57 (ci := 1) (j := 2) rfl K rfl rfl ?_
          refine j_V.one fp7_M fp7_60 (by decide) (pcJ := 61) (stJ := [.int 0, .ref 323]) rfl ?_
          refine j_V.ldL fp7_M fp7_61 rfl (i := 0) (kd := 2) (v := .ref 281) (pcJ := 62) rfl L rfl rfl rfl ?_
          refine j_V.getK fp7_M fp7_62 (ci := 1) (j := 0) rfl K rfl rfl ?_
          refine j_V.getK fp7_M fp7_65 (ci := 7) (j := 4) rfl K rfl rfl ?_
          refine j_V.one fp7_M fp7_68 (by decide) (pcJ := 69) (stJ := [.int 0, .ref 283, .int 0, .ref 323]) rfl ?_
          refine j_V.ldL fp7_M fp7_69 rfl (i := 2) (kd := 0) (v := .int (nI n)) (pcJ := 70) rfl L rfl rfl rfl ?_
          refine j_V.acp fp7_M fp7_70 rfl rfl K rfl rfl rfl (fun h K => ?_)
          refine j_V.ldL fp7_M fp7_73 rfl (i := 0) (kd := 2) (v := .ref 281) (pcJ := 74) rfl L rfl rfl rfl ?_
          refine j_V.getK fp7_M fp7_74 (ci := 1) (j := 0) rfl K rfl rfl ?_
          refine j_V.one fp7_M fp7_77 (by decide) (pcJ := 80) (stJ := [.int 300, .ref 282]) rfl ?_
          refine j_V.one fp7_M fp7_80 (by decide) (pcJ := 81) (stJ := [.int 1, .int 300, .ref 282]) rfl ?_
          refine j_V.one fp7_M fp7_81 (by decide) (pcJ := 82) (stJ := [.int 1, .int 1, .int 300, .ref 282]) rfl ?_
          have h5 := V.1.n5
          obtain ⟨pl1, pl2⟩ := pw_n (od := o) n 0 w (by omega) V.1.len
          have V9 := V.pw (rk' := aC (nI n) o rk) po (fun k hk => aC_gN9 (by omega) (by rw [hl4.1]; omega) hk)
          have VW := V.1
          have es : ∀ j, ¬ (196 ≤ j ∧ j < 201) → gN (m_pw o n 0 w) j = gN w j := fun j hj => by rw [pl2 j, if_neg (by omega)]
          have st : (∀ s j, s < 7 → j < 5 → fs (m_pw o n 0 w) s j = fs w s j) ∧ ∀ u j, u < n → j < 6 → j ≠ 3 → ft (m_pw o n 0 w) u j = ft w u j := ⟨fun s j _ _ => es _ (by omega), fun u j _ _ _ => es _ (by omega)⟩
          have C281x : h[281]? = some (.inl (1, [.ref 282, .ref 307, .ref 323, .ref 324])) := (K.at rfl)
          have C3x : h[323]? = some (.inr (.inl (0, o))) := (K.at rfl)
          have C4x : h[324]? = some (.inr (.inl (0, b))) := (K.at rfl)
          have F7 : ∀ x, x ≠ 283 → h[x]? = h9[x]? := fun x g => KN.off K9 K (lke (lke (lkn (fun z => g z.symm) (lke (lke rfl)))))
          have T2 : hS9 282 343 0 n S (m_pw o n 0 w) h := ⟨mi, shu, bus, lks, rl, pev, _, sta, ph, sp, ce, du, he, ri, us, cm, lf, lkd, row, sea, pms, pmm, pmt, pst, pwa, prs, prr, pfa, ⟨K.at rfl, K.at rfl, (K.2.1 284 rfl).trans CS.2.2.1, (K.2.1 285 rfl).trans CS.2.2.2.1, (K.2.1 286 rfl).trans CS.2.2.2.2.1, (K.2.1 287 rfl).trans CS.2.2.2.2.2.1, (K.2.1 288 rfl).trans CS.2.2.2.2.2.2.1, (K.2.1 289 rfl).trans CS.2.2.2.2.2.2.2.1, (K.2.1 290 rfl).trans CS.2.2.2.2.2.2.2.2.1, (K.2.1 291 rfl).trans CS.2.2.2.2.2.2.2.2.2.1, (K.2.1 292 rfl).trans CS.2.2.2.2.2.2.2.2.2.2.1, (K.2.1 293 rfl).trans CS.2.2.2.2.2.2.2.2.2.2.2.1, (K.2.1 294 rfl).trans CS.2.2.2.2.2.2.2.2.2.2.2.2.1, (K.2.1 295 rfl).trans CS.2.2.2.2.2.2.2.2.2.2.2.2.2.1, (K.2.1 296 rfl).trans CS.2.2.2.2.2.2.2.2.2.2.2.2.2.2.1, (K.2.1 297 rfl).trans CS.2.2.2.2.2.2.2.2.2.2.2.2.2.2.2.1, (K.2.1 298 rfl).trans CS.2.2.2.2.2.2.2.2.2.2.2.2.2.2.2.2.1, (K.2.1 299 rfl).trans CS.2.2.2.2.2.2.2.2.2.2.2.2.2.2.2.2.2.1, (K.2.1 300 rfl).trans CS.2.2.2.2.2.2.2.2.2.2.2.2.2.2.2.2.2.2.1, (K.2.1 301 rfl).trans CS.2.2.2.2.2.2.2.2.2.2.2.2.2.2.2.2.2.2.2.1, (K.2.1 302 rfl).trans CS.2.2.2.2.2.2.2.2.2.2.2.2.2.2.2.2.2.2.2.2.1, (K.2.1 303 rfl).trans CS.2.2.2.2.2.2.2.2.2.2.2.2.2.2.2.2.2.2.2.2.2.1, (K.2.1 304 rfl).trans CS.2.2.2.2.2.2.2.2.2.2.2.2.2.2.2.2.2.2.2.2.2.2.1, (K.2.1 305 rfl).trans CS.2.2.2.2.2.2.2.2.2.2.2.2.2.2.2.2.2.2.2.2.2.2.2.1, (K.2.1 306 rfl).trans CS.2.2.2.2.2.2.2.2.2.2.2.2.2.2.2.2.2.2.2.2.2.2.2.2⟩, ⟨(aC_len ..).trans hl4.1, hl4.2⟩, V9⟩
          have Y2 : hY9 343 n S (m_pw o n 0 w) h := (Y4.to VW.g V9.1.g st.1 st.2).fr (fun x _ _ => (F7 x (by omega)).trans (F9 x (by omega)))
          have hm2 : gN (m_pw o n 0 w) 201 = nI m := (es 201 (by omega)).trans hm
          refine j_V.cl fp7_M fp7_82 rfl (md := 3) (mj := 92) rfl (by decide) xd45_M (As := [.ref 282, .int 300, .int 1, .int 1]) (rest := []) (jk_spl3 (K.at rfl) rfl rfl rfl (Nat.le_of_ble_eq_true rfl) (Nat.le_of_ble_eq_true rfl)) (fun d => hv_xd (k := 300) (e := true) T2 Y2 hm2 hb 1 _ rfl) ?_
          rintro r h8 ⟨rfl, T8, Y8, -, F8⟩
          have K9 : kA h8 [(281, .inl (1, [.ref 282, .ref 307, .ref 323, .ref 324])), (323, .inr (.inl (0, o))), (324, .inr (.inl (0, b)))] := ⟨(F8 281 (by decide)).trans C281x, (F8 323 (by decide)).trans C3x, (F8 324 (by decide)).trans C4x, trivial⟩
          have K : KN h8 [(281, .inl (1, [.ref 282, .ref 307, .ref 323, .ref 324])), (323, .inr (.inl (0, o))), (324, .inr (.inl (0, b)))] h8 := K9.K
          rw [show m_price (m_adv n 1 true 300 (m_pw o n 0 w)) = m_pp n w o from pE_adv n _]
          show j_V jP _ 13 85 lv [.int (m_pp n w o)] h8 _
          refine j_V.stL fp7_M fp7_85 rfl (i := 6) (kd := 0) (kl' := [(0, .ref 281), (1, .ref 4), (2, .int (nI n)), (3, .int v), (4, .int 1), (5, .int (nI i)), (6, .int (m_pp n w o))]) (pcJ := 87) rfl L rfl (by decide) rfl rfl rfl (fun lv L => ?_)
          refine j_V.ldL fp7_M fp7_87 rfl (i := 3) (kd := 0) (v := .int v) (pcJ := 88) rfl L rfl rfl rfl ?_
          refine j_V.one fp7_M fp7_88 (by decide) (pcJ := 89) (stJ := [.int (-1), .int v]) rfl ?_
          refine j_V.icmp fp7_M fp7_89 (t := 98) rfl (fun c89_0 => ?_) (fun c89_0 => ?_)
          · replace c89_0 : v = (-1) := jd_eq c89_0
            refine j_V.ldL fp7_M fp7_98 rfl (i := 6) (kd := 0) (v := .int (m_pp n w o)) (pcJ := 100) rfl L rfl rfl rfl ?_
            refine j_V.stL fp7_M fp7_100 rfl (i := 3) (kd := 0) (kl' := [(0, .ref 281), (1, .ref 4), (2, .int (nI n)), (3, .int (m_pp n w o)), (4, .int 1), (5, .int (nI i)), (6, .int (m_pp n w o))]) (pcJ := 101) rfl L rfl (by decide) rfl rfl rfl (fun lv L => ?_)
            refine j_V.ldL fp7_M fp7_101 rfl (i := 0) (kd := 2) (v := .ref 281) (pcJ := 102) rfl L rfl rfl rfl ?_
            refine j_V.getK fp7_M fp7_102 (ci := 1) (j := 2) rfl K rfl rfl ?_
            refine j_V.one fp7_M fp7_105 (by decide) (pcJ := 106) (stJ := [.int 0, .ref 323]) rfl ?_
            refine j_V.ldL fp7_M fp7_106 rfl (i := 0) (kd := 2) (v := .ref 281) (pcJ := 107) rfl L rfl rfl rfl ?_
            refine j_V.getK fp7_M fp7_107 (ci := 1) (j := 3) rfl K rfl rfl ?_
            refine j_V.one fp7_M fp7_110 (by decide) (pcJ := 111) (stJ := [.int 0, .ref 324, .int 0, .ref 323]) rfl ?_
            refine j_V.one fp7_M fp7_111 (by decide) (pcJ := 112) (stJ := [.int 5, .int 0, .ref 324, .int 0, .ref 323]) rfl ?_
            refine j_V.acp fp7_M fp7_112 rfl rfl K rfl rfl rfl (fun h K => ?_)
            refine j_V.ldL fp7_M fp7_115 rfl (i := 0) (kd := 2) (v := .ref 281) (pcJ := 116) rfl L rfl rfl rfl ?_
            refine j_V.ldL fp7_M fp7_116 rfl (i := 2) (kd := 0) (v := .int (nI n)) (pcJ := 117) rfl L rfl rfl rfl ?_
            have FP : ∀ x, x ≠ 324 → h[x]? = h8[x]? := fun x g => KN.off K9 K (lke (lke (lkn (fun z => g z.symm) rfl)))
            have C4p : h[324]? = some (.inr (.inl (0, (aC 5 o b)))) := K.at rfl
            rw [show (aC 5 o b) = o from aC_eq (k := 5) (by decide) lo lb] at C4p
            have K9 : kA h [(281, .inl (1, [.ref 282, .ref 307, .ref 323, .ref 324])), (323, .inr (.inl (0, o)))] := ⟨K.at rfl, K.at rfl, trivial⟩
            refine j_V.cl fp7_M fp7_117 rfl (md := 3) (mj := 14) rfl (by decide) fo1_M (As := [.ref 281, .int (nI n)]) (rest := []) (jk_spl3 (K.at rfl) rfl rfl rfl (Nat.le_of_ble_eq_true rfl) (Nat.le_of_ble_eq_true rfl)) (fun d => fo1_ok hn2 K9.K) ?_
            rintro r h7 ⟨rfl, K⟩
            rw [C] at ⊢
            have FQ : ∀ x, x ≠ 323 → h7[x]? = h[x]? := fun x g => KN.off K9 K (lke (lkn (fun z => g z.symm) rfl))
            have C4 : h7[324]? = some (.inr (.inl (0, o))) := (FQ 324 (by decide)).trans C4p
            have C3 : h7[323]? = some (.inr (.inl (0, (x_nxo o (nI n)).2))) := K.at rfl
            have FB : ∀ x, (x < 282 ∨ (307 ≤ x ∧ x ≠ 323 ∧ x ≠ 324)) → h7[x]? = hc[x]? := fun x g => (FQ x (by omega)).trans ((FP x (by omega)).trans ((F8 x (by omega)).trans ((F7 x (by omega)).trans (F9 x (by omega)))))
            have T7 : hT9 282 0 h7 := T8.sh.fr (fun x _ _ => (FQ x (by omega)).trans (FP x (by omega)))
            have K9 : kA h7 [(281, .inl (1, [.ref 282, .ref 307, .ref 323, .ref 324])), (323, .inr (.inl (0, (x_nxo o (nI n)).2))), (324, .inr (.inl (0, o)))] := ⟨K.at rfl, C3, C4, trivial⟩
            have K : KN h7 [(281, .inl (1, [.ref 282, .ref 307, .ref 323, .ref 324])), (323, .inr (.inl (0, (x_nxo o (nI n)).2))), (324, .inr (.inl (0, o)))] h7 := K9.K
            show j_V jP _ 13 120 lv [.int 0] h7 _
            refine j_V.stL fp7_M fp7_120 rfl (i := 4) (kd := 0) (kl' := [(0, .ref 281), (1, .ref 4), (2, .int (nI n)), (3, .int (m_pp n w o)), (4, .int 0), (5, .int (nI i)), (6, .int (m_pp n w o))]) (pcJ := 122) rfl L rfl (by decide) rfl rfl rfl (fun lv L => ?_)
            refine j_V.inL fp7_M fp7_122 (i := 5) (kl' := [(0, .ref 281), (1, .ref 4), (2, .int (nI n)), (3, .int (m_pp n w o)), (4, .int 0), (5, .int ((nI i) + 1)), (6, .int (m_pp n w o))]) (pcJ := 125) L rfl rfl rfl rfl (fun lv L => ?_)
            refine j_V.gto fp7_M fp7_125 (t := 36) rfl ?_
            refine j_V.ldL fp7_M fp7_36 rfl (i := 5) (kd := 0) (v := .int ((nI i) + 1)) (pcJ := 38) rfl L rfl rfl rfl ?_
            refine j_V.one fp7_M fp7_38 (by decide) (pcJ := 40) (stJ := [.int 120, .int ((nI i) + 1)]) rfl ?_
            refine j_V.icmp fp7_M fp7_40 (t := 128) rfl (fun c40_1 => ?_) (fun c40_1 => ?_)
            · replace c40_1 : ¬ (((nI i) + 1) < 120) := jd_ge c40_1
              refine j_V.ldL fp7_M fp7_128 rfl (i := 3) (kd := 0) (v := .int (m_pp n w o)) (pcJ := 129) rfl L rfl rfl rfl ?_
              rw [if_pos c89_0]
              refine j_V.ri fp7_M fp7_129 ?_
              exact ⟨rfl, T7, C4, ⟨_, C3, by rw [nxo_len V.1.n5 lo]⟩, fun x g => (FB x g).trans (FA x g)⟩
            · replace c40_1 : ((nI i) + 1) < 120 := jd_gen c40_1
              refine j_V.ldL fp7_M fp7_43 rfl (i := 4) (kd := 0) (v := .int 0) (pcJ := 45) rfl L rfl rfl rfl ?_
              refine j_V.ifc fp7_M fp7_45 (t := 128) rfl (fun c45_2 => ?_) (fun c45_2 => ?_)
              · replace c45_2 : (0 : Int32) = 0 := jd_eq c45_2
                refine j_V.ldL fp7_M fp7_128 rfl (i := 3) (kd := 0) (v := .int (m_pp n w o)) (pcJ := 129) rfl L rfl rfl rfl ?_
                rw [if_pos c89_0]
                refine j_V.ri fp7_M fp7_129 ?_
                exact ⟨rfl, T7, C4, ⟨_, C3, by rw [nxo_len V.1.n5 lo]⟩, fun x g => (FB x g).trans (FA x g)⟩
              · replace c45_2 : ¬ ((0 : Int32) = 0) := jd_eqn c45_2
                exact absurd (by decide) c45_2
          · replace c89_0 : ¬ (v = (-1)) := jd_eqn c89_0
            refine j_V.ldL fp7_M fp7_92 rfl (i := 6) (kd := 0) (v := .int (m_pp n w o)) (pcJ := 94) rfl L rfl rfl rfl ?_
            refine j_V.ldL fp7_M fp7_94 rfl (i := 3) (kd := 0) (v := .int v) (pcJ := 95) rfl L rfl rfl rfl ?_
            refine j_V.icmp fp7_M fp7_95 (t := 115) rfl (fun c95_1 => ?_) (fun c95_1 => ?_)
            · replace c95_1 : ¬ ((m_pp n w o) < v) := jd_ge c95_1
              refine j_V.ldL fp7_M fp7_115 rfl (i := 0) (kd := 2) (v := .ref 281) (pcJ := 116) rfl L rfl rfl rfl ?_
              refine j_V.ldL fp7_M fp7_116 rfl (i := 2) (kd := 0) (v := .int (nI n)) (pcJ := 117) rfl L rfl rfl rfl ?_
              have FP : ∀ x, x ≠ 324 → h8[x]? = h8[x]? := fun x g => KN.off K9 K (lke (lke (lkn (fun z => g z.symm) rfl)))
              have C4p : h8[324]? = some (.inr (.inl (0, b))) := K.at rfl
              have K9 : kA h8 [(281, .inl (1, [.ref 282, .ref 307, .ref 323, .ref 324])), (323, .inr (.inl (0, o)))] := ⟨K.at rfl, K.at rfl, trivial⟩
              refine j_V.cl fp7_M fp7_117 rfl (md := 3) (mj := 14) rfl (by decide) fo1_M (As := [.ref 281, .int (nI n)]) (rest := []) (jk_spl3 (K.at rfl) rfl rfl rfl (Nat.le_of_ble_eq_true rfl) (Nat.le_of_ble_eq_true rfl)) (fun d => fo1_ok hn2 K9.K) ?_
              rintro r h7 ⟨rfl, K⟩
              rw [C] at ⊢
              have FQ : ∀ x, x ≠ 323 → h7[x]? = h8[x]? := fun x g => KN.off K9 K (lke (lkn (fun z => g z.symm) rfl))
              have C4 : h7[324]? = some (.inr (.inl (0, b))) := (FQ 324 (by decide)).trans C4p
              have C3 : h7[323]? = some (.inr (.inl (0, (x_nxo o (nI n)).2))) := K.at rfl
              have FB : ∀ x, (x < 282 ∨ (307 ≤ x ∧ x ≠ 323 ∧ x ≠ 324)) → h7[x]? = hc[x]? := fun x g => (FQ x (by omega)).trans ((FP x (by omega)).trans ((F8 x (by omega)).trans ((F7 x (by omega)).trans (F9 x (by omega)))))
              have T7 : hT9 282 0 h7 := T8.sh.fr (fun x _ _ => (FQ x (by omega)).trans (FP x (by omega)))
              have K9 : kA h7 [(281, .inl (1, [.ref 282, .ref 307, .ref 323, .ref 324])), (323, .inr (.inl (0, (x_nxo o (nI n)).2))), (324, .inr (.inl (0, b)))] := ⟨K.at rfl, C3, C4, trivial⟩
              have K : KN h7 [(281, .inl (1, [.ref 282, .ref 307, .ref 323, .ref 324])), (323, .inr (.inl (0, (x_nxo o (nI n)).2))), (324, .inr (.inl (0, b)))] h7 := K9.K
              show j_V jP _ 13 120 lv [.int 0] h7 _
              refine j_V.stL fp7_M fp7_120 rfl (i := 4) (kd := 0) (kl' := [(0, .ref 281), (1, .ref 4), (2, .int (nI n)), (3, .int v), (4, .int 0), (5, .int (nI i)), (6, .int (m_pp n w o))]) (pcJ := 122) rfl L rfl (by decide) rfl rfl rfl (fun lv L => ?_)
              refine j_V.inL fp7_M fp7_122 (i := 5) (kl' := [(0, .ref 281), (1, .ref 4), (2, .int (nI n)), (3, .int v), (4, .int 0), (5, .int ((nI i) + 1)), (6, .int (m_pp n w o))]) (pcJ := 125) L rfl rfl rfl rfl (fun lv L => ?_)
              refine j_V.gto fp7_M fp7_125 (t := 36) rfl ?_
              refine j_V.ldL fp7_M fp7_36 rfl (i := 5) (kd := 0) (v := .int ((nI i) + 1)) (pcJ := 38) rfl L rfl rfl rfl ?_
              refine j_V.one fp7_M fp7_38 (by decide) (pcJ := 40) (stJ := [.int 120, .int ((nI i) + 1)]) rfl ?_
              refine j_V.icmp fp7_M fp7_40 (t := 128) rfl (fun c40_2 => ?_) (fun c40_2 => ?_)
              · replace c40_2 : ¬ (((nI i) + 1) < 120) := jd_ge c40_2
                refine j_V.ldL fp7_M fp7_128 rfl (i := 3) (kd := 0) (v := .int v) (pcJ := 129) rfl L rfl rfl rfl ?_
                rw [if_neg c89_0, show plS (fun a => m_pp n w a) v b (o :: []) = (if m_pp n w o < v then plS (fun a => m_pp n w a) (m_pp n w o) o [] else plS (fun a => m_pp n w a) v b []) from rfl, if_neg c95_1]
                refine j_V.ri fp7_M fp7_129 ?_
                exact ⟨rfl, T7, C4, ⟨_, C3, by rw [nxo_len V.1.n5 lo]⟩, fun x g => (FB x g).trans (FA x g)⟩
              · replace c40_2 : ((nI i) + 1) < 120 := jd_gen c40_2
                refine j_V.ldL fp7_M fp7_43 rfl (i := 4) (kd := 0) (v := .int 0) (pcJ := 45) rfl L rfl rfl rfl ?_
                refine j_V.ifc fp7_M fp7_45 (t := 128) rfl (fun c45_3 => ?_) (fun c45_3 => ?_)
                · replace c45_3 : (0 : Int32) = 0 := jd_eq c45_3
                  refine j_V.ldL fp7_M fp7_128 rfl (i := 3) (kd := 0) (v := .int v) (pcJ := 129) rfl L rfl rfl rfl ?_
                  rw [if_neg c89_0, show plS (fun a => m_pp n w a) v b (o :: []) = (if m_pp n w o < v then plS (fun a => m_pp n w a) (m_pp n w o) o [] else plS (fun a => m_pp n w a) v b []) from rfl, if_neg c95_1]
                  refine j_V.ri fp7_M fp7_129 ?_
                  exact ⟨rfl, T7, C4, ⟨_, C3, by rw [nxo_len V.1.n5 lo]⟩, fun x g => (FB x g).trans (FA x g)⟩
                · replace c45_3 : ¬ ((0 : Int32) = 0) := jd_eqn c45_3
                  exact absurd (by decide) c45_3
            · replace c95_1 : (m_pp n w o) < v := jd_gen c95_1
              refine j_V.ldL fp7_M fp7_98 rfl (i := 6) (kd := 0) (v := .int (m_pp n w o)) (pcJ := 100) rfl L rfl rfl rfl ?_
              refine j_V.stL fp7_M fp7_100 rfl (i := 3) (kd := 0) (kl' := [(0, .ref 281), (1, .ref 4), (2, .int (nI n)), (3, .int (m_pp n w o)), (4, .int 1), (5, .int (nI i)), (6, .int (m_pp n w o))]) (pcJ := 101) rfl L rfl (by decide) rfl rfl rfl (fun lv L => ?_)
              refine j_V.ldL fp7_M fp7_101 rfl (i := 0) (kd := 2) (v := .ref 281) (pcJ := 102) rfl L rfl rfl rfl ?_
              refine j_V.getK fp7_M fp7_102 (ci := 1) (j := 2) rfl K rfl rfl ?_
              refine j_V.one fp7_M fp7_105 (by decide) (pcJ := 106) (stJ := [.int 0, .ref 323]) rfl ?_
              refine j_V.ldL fp7_M fp7_106 rfl (i := 0) (kd := 2) (v := .ref 281) (pcJ := 107) rfl L rfl rfl rfl ?_
              refine j_V.getK fp7_M fp7_107 (ci := 1) (j := 3) rfl K rfl rfl ?_
              refine j_V.one fp7_M fp7_110 (by decide) (pcJ := 111) (stJ := [.int 0, .ref 324, .int 0, .ref 323]) rfl ?_
              refine j_V.one fp7_M fp7_111 (by decide) (pcJ := 112) (stJ := [.int 5, .int 0, .ref 324, .int 0, .ref 323]) rfl ?_
              refine j_V.acp fp7_M fp7_112 rfl rfl K rfl rfl rfl (fun h K => ?_)
              refine j_V.ldL fp7_M fp7_115 rfl (i := 0) (kd := 2) (v := .ref 281) (pcJ := 116) rfl L rfl rfl rfl ?_
              refine j_V.ldL fp7_M fp7_116 rfl (i := 2) (kd := 0) (v := .int (nI n)) (pcJ := 117) rfl L rfl rfl rfl ?_
              have FP : ∀ x, x ≠ 324 → h[x]? = h8[x]? := fun x g => KN.off K9 K (lke (lke (lkn (fun z => g z.symm) rfl)))
              have C4p : h[324]? = some (.inr (.inl (0, (aC 5 o b)))) := K.at rfl
              rw [show (aC 5 o b) = o from aC_eq (k := 5) (by decide) lo lb] at C4p
              have K9 : kA h [(281, .inl (1, [.ref 282, .ref 307, .ref 323, .ref 324])), (323, .inr (.inl (0, o)))] := ⟨K.at rfl, K.at rfl, trivial⟩
              refine j_V.cl fp7_M fp7_117 rfl (md := 3) (mj := 14) rfl (by decide) fo1_M (As := [.ref 281, .int (nI n)]) (rest := []) (jk_spl3 (K.at rfl) rfl rfl rfl (Nat.le_of_ble_eq_true rfl) (Nat.le_of_ble_eq_true rfl)) (fun d => fo1_ok hn2 K9.K) ?_
              rintro r h7 ⟨rfl, K⟩
              rw [C] at ⊢
              have FQ : ∀ x, x ≠ 323 → h7[x]? = h[x]? := fun x g => KN.off K9 K (lke (lkn (fun z => g z.symm) rfl))
              have C4 : h7[324]? = some (.inr (.inl (0, o))) := (FQ 324 (by decide)).trans C4p
              have C3 : h7[323]? = some (.inr (.inl (0, (x_nxo o (nI n)).2))) := K.at rfl
              have FB : ∀ x, (x < 282 ∨ (307 ≤ x ∧ x ≠ 323 ∧ x ≠ 324)) → h7[x]? = hc[x]? := fun x g => (FQ x (by omega)).trans ((FP x (by omega)).trans ((F8 x (by omega)).trans ((F7 x (by omega)).trans (F9 x (by omega)))))
              have T7 : hT9 282 0 h7 := T8.sh.fr (fun x _ _ => (FQ x (by omega)).trans (FP x (by omega)))
              have K9 : kA h7 [(281, .inl (1, [.ref 282, .ref 307, .ref 323, .ref 324])), (323, .inr (.inl (0, (x_nxo o (nI n)).2))), (324, .inr (.inl (0, o)))] := ⟨K.at rfl, C3, C4, trivial⟩
              have K : KN h7 [(281, .inl (1, [.ref 282, .ref 307, .ref 323, .ref 324])), (323, .inr (.inl (0, (x_nxo o (nI n)).2))), (324, .inr (.inl (0, o)))] h7 := K9.K
              show j_V jP _ 13 120 lv [.int 0] h7 _
              refine j_V.stL fp7_M fp7_120 rfl (i := 4) (kd := 0) (kl' := [(0, .ref 281), (1, .ref 4), (2, .int (nI n)), (3, .int (m_pp n w o)), (4, .int 0), (5, .int (nI i)), (6, .int (m_pp n w o))]) (pcJ := 122) rfl L rfl (by decide) rfl rfl rfl (fun lv L => ?_)
              refine j_V.inL fp7_M fp7_122 (i := 5) (kl' := [(0, .ref 281), (1, .ref 4), (2, .int (nI n)), (3, .int (m_pp n w o)), (4, .int 0), (5, .int ((nI i) + 1)), (6, .int (m_pp n w o))]) (pcJ := 125) L rfl rfl rfl rfl (fun lv L => ?_)
              refine j_V.gto fp7_M fp7_125 (t := 36) rfl ?_
              refine j_V.ldL fp7_M fp7_36 rfl (i := 5) (kd := 0) (v := .int ((nI i) + 1)) (pcJ := 38) rfl L rfl rfl rfl ?_
              refine j_V.one fp7_M fp7_38 (by decide) (pcJ := 40) (stJ := [.int 120, .int ((nI i) + 1)]) rfl ?_
              refine j_V.icmp fp7_M fp7_40 (t := 128) rfl (fun c40_2 => ?_) (fun c40_2 => ?_)
              · replace c40_2 : ¬ (((nI i) + 1) < 120) := jd_ge c40_2
                refine j_V.ldL fp7_M fp7_128 rfl (i := 3) (kd := 0) (v := .int (m_pp n w o)) (pcJ := 129) rfl L rfl rfl rfl ?_
                rw [if_neg c89_0, show plS (fun a => m_pp n w a) v b (o :: []) = (if m_pp n w o < v then plS (fun a => m_pp n w a) (m_pp n w o) o [] else plS (fun a => m_pp n w a) v b []) from rfl, if_pos c95_1]
                refine j_V.ri fp7_M fp7_129 ?_
                exact ⟨rfl, T7, C4, ⟨_, C3, by rw [nxo_len V.1.n5 lo]⟩, fun x g => (FB x g).trans (FA x g)⟩
              · replace c40_2 : ((nI i) + 1) < 120 := jd_gen c40_2
                refine j_V.ldL fp7_M fp7_43 rfl (i := 4) (kd := 0) (v := .int 0) (pcJ := 45) rfl L rfl rfl rfl ?_
                refine j_V.ifc fp7_M fp7_45 (t := 128) rfl (fun c45_3 => ?_) (fun c45_3 => ?_)
                · replace c45_3 : (0 : Int32) = 0 := jd_eq c45_3
                  refine j_V.ldL fp7_M fp7_128 rfl (i := 3) (kd := 0) (v := .int (m_pp n w o)) (pcJ := 129) rfl L rfl rfl rfl ?_
                  rw [if_neg c89_0, show plS (fun a => m_pp n w a) v b (o :: []) = (if m_pp n w o < v then plS (fun a => m_pp n w a) (m_pp n w o) o [] else plS (fun a => m_pp n w a) v b []) from rfl, if_pos c95_1]
                  refine j_V.ri fp7_M fp7_129 ?_
                  exact ⟨rfl, T7, C4, ⟨_, C3, by rw [nxo_len V.1.n5 lo]⟩, fun x g => (FB x g).trans (FA x g)⟩
                · replace c45_3 : ¬ ((0 : Int32) = 0) := jd_eqn c45_3
                  exact absurd (by decide) c45_3
    | cons p r ih =>
      intro o b v i lv hc hi C A L P C3 C4 lb FA
      obtain ⟨C1, C2⟩ : x_nxo o (nI n) = (1, p) ∧ och (fun a => x_nxo a (nI n)) (p :: r) := C
      rw [List.length_cons] at hi
      obtain ⟨lo, po⟩ := A o (List.mem_cons_self ..)
      have hpo := hp1 o po
      obtain ⟨R4, Y4, Q, C281⟩ := P
      have e0 : nI i < 120 := nI_lt (a := i) (b := 120) (by omega) (by omega)
      refine hT9.opn Q (fun ly miz shuz busz lksz rlz pevz rkz staz phz spz cez duz hez riz usz cmz lfz lkdz rowz seaz pmsz pmmz pmtz pstz pwaz prsz prrz pfaz CT _ _ => ?_)
      have K9 : kA hc [(281, .inl (1, [.ref 282, .ref 307, .ref 323, .ref 324])), (282, .inl (7, [ly, .int miz, .int shuz, .int busz, .ref 283, .ref 284, .ref 285, .ref 286, .ref 287, .ref 288, .ref 289, .ref 290, .ref 291, .ref 292, .ref 293, .int lksz, .ref 294, .ref 295, .ref 298])), (323, .inr (.inl (0, o))), (324, .inr (.inl (0, b)))] := ⟨C281, CT.1, C3, C4, trivial⟩
      have K : KN hc [(281, .inl (1, [.ref 282, .ref 307, .ref 323, .ref 324])), (282, .inl (7, [ly, .int miz, .int shuz, .int busz, .ref 283, .ref 284, .ref 285, .ref 286, .ref 287, .ref 288, .ref 289, .ref 290, .ref 291, .ref 292, .ref 293, .int lksz, .ref 294, .ref 295, .ref 298])), (323, .inr (.inl (0, o))), (324, .inr (.inl (0, b)))] hc := K9.K
      have hn2 := hn2
      refine j_V.ldL fp7_M fp7_36 rfl (i := 5) (kd := 0) (v := .int (nI i)) (pcJ := 38) rfl L rfl rfl rfl ?_
      refine j_V.one fp7_M fp7_38 (by decide) (pcJ := 40) (stJ := [.int 120, .int (nI i)]) rfl ?_
      refine j_V.icmp fp7_M fp7_40 (t := 128) rfl (fun c40_0 => ?_) (fun c40_0 => ?_)
      · replace c40_0 : ¬ ((nI i) < 120) := jd_ge c40_0
        exact absurd e0 c40_0
      · replace c40_0 : (nI i) < 120 := jd_gen c40_0
        refine j_V.ldL fp7_M fp7_43 rfl (i := 4) (kd := 0) (v := .int 1) (pcJ := 45) rfl L rfl rfl rfl ?_
        refine j_V.ifc fp7_M fp7_45 (t := 128) rfl (fun c45_0 => ?_) (fun c45_0 => ?_)
        · replace c45_0 : (1 : Int32) = 0 := jd_eq c45_0
          exact absurd c45_0 (by decide)
        · replace c45_0 : ¬ ((1 : Int32) = 0) := jd_eqn c45_0
          refine j_V.ldL fp7_M fp7_48 rfl (i := 0) (kd := 2) (v := .ref 281) (pcJ := 49) rfl L rfl rfl rfl ?_
          refine j_V.getK fp7_M fp7_49 (ci := 1) (j := 0) rfl K rfl rfl ?_
          refine j_V.ldL fp7_M fp7_52 rfl (i := 1) (kd := 2) (v := .ref 4) (pcJ := 53) rfl L rfl rfl rfl ?_
          refine j_V.cl fp7_M fp7_53 rfl (md := 3) (mj := 61) rfl (by decide) yts_M (As := [.ref 282, .ref 4]) (rest := []) (jk_spl3 (K.at rfl) rfl rfl rfl (Nat.le_of_ble_eq_true rfl) (Nat.le_of_ble_eq_true rfl)) (fun d => ht_cp R4 Q) ?_
          rintro r h9 ⟨rfl, T9, F9⟩
          refine hS9.opn T9 (fun mi shu bus lks rl pev rk sta ph sp ce du he ri us cm lf lkd row sea pms pmm pmt pst pwa prs prr pfa CS hl4 V => ?_)
          have K9 : kA h9 [(281, .inl (1, [.ref 282, .ref 307, .ref 323, .ref 324])), (282, .inl (7, [.ref 343, .int mi, .int shu, .int bus, .ref 283, .ref 284, .ref 285, .ref 286, .ref 287, .ref 288, .ref 289, .ref 290, .ref 291, .ref 292, .ref 293, .int lks, .ref 294, .ref 295, .ref 298])), (283, .inr (.inl (0, rk))), (323, .inr (.inl (0, o))), (324, .inr (.inl (0, b)))] := ⟨(F9 281 (by decide)).trans C281, CS.1, CS.2.1, (F9 323 (by decide)).trans C3, (F9 324 (by decide)).trans C4, trivial⟩
          have K : KN h9 [(281, .inl (1, [.ref 282, .ref 307, .ref 323, .ref 324])), (282, .inl (7, [.ref 343, .int mi, .int shu, .int bus, .ref 283, .ref 284, .ref 285, .ref 286, .ref 287, .ref 288, .ref 289, .ref 290, .ref 291, .ref 292, .ref 293, .int lks, .ref 294, .ref 295, .ref 298])), (283, .inr (.inl (0, rk))), (323, .inr (.inl (0, o))), (324, .inr (.inl (0, b)))] h9 := K9.K
          show j_V jP _ 13 56 lv [] h9 _
          refine j_V.ldL fp7_M fp7_56 rfl (i := 0) (kd := 2) (v := .ref 281) (pcJ := 57) rfl L rfl rfl rfl ?_
          refine j_V.getK fp7_M fp7_57 (ci := 1) (j := 2) rfl K rfl rfl ?_
          refine j_V.one fp7_M fp7_60 (by decide) (pcJ := 61) (stJ := [.int 0, .ref 323]) rfl ?_
          refine j_V.ldL fp7_M fp7_61 rfl (i := 0) (kd := 2) (v := .ref 281) (pcJ := 62) rfl L rfl rfl rfl ?_
          refine j_V.getK fp7_M fp7_62 (ci := 1) (j := 0) rfl K rfl rfl ?_
          refine j_V.getK fp7_M fp7_65 (ci := 7) (j := 4) rfl K rfl rfl ?_
          refine j_V.one fp7_M fp7_68 (by decide) (pcJ := 69) (stJ := [.int 0, .ref 283, .int 0, .ref 323]) rfl ?_
          refine j_V.ldL fp7_M fp7_69 rfl (i := 2) (kd := 0) (v := .int (nI n)) (pcJ := 70) rfl L rfl rfl rfl ?_
          refine j_V.acp fp7_M fp7_70 rfl rfl K rfl rfl rfl (fun h K => ?_)
          refine j_V.ldL fp7_M fp7_73 rfl (i := 0) (kd := 2) (v := .ref 281) (pcJ := 74) rfl L rfl rfl rfl ?_
          refine j_V.getK fp7_M fp7_74 (ci := 1) (j := 0) rfl K rfl rfl ?_
          refine j_V.one fp7_M fp7_77 (by decide) (pcJ := 80) (stJ := [.int 300, .ref 282]) rfl ?_
          refine j_V.one fp7_M fp7_80 (by decide) (pcJ := 81) (stJ := [.int 1, .int 300, .ref 282]) rfl ?_
          refine j_V.one fp7_M fp7_81 (by decide) (pcJ := 82) (stJ := [.int 1, .int 1, .int 300, .ref 282]) rfl ?_
          have h5 := V.1.n5
          obtain ⟨pl1, pl2⟩ := pw_n (od := o) n 0 w (by omega) V.1.len
          have V9 := V.pw (rk' := aC (nI n) o rk) po (fun k hk => aC_gN9 (by omega) (by rw [hl4.1]; omega) hk)
          have VW := V.1
          have es : ∀ j, ¬ (196 ≤ j ∧ j < 201) → gN (m_pw o n 0 w) j = gN w j := fun j hj => by rw [pl2 j, if_neg (by omega)]
          have st : (∀ s j, s < 7 → j < 5 → fs (m_pw o n 0 w) s j = fs w s j) ∧ ∀ u j, u < n → j < 6 → j ≠ 3 → ft (m_pw o n 0 w) u j = ft w u j := ⟨fun s j _ _ => es _ (by omega), fun u j _ _ _ => es _ (by omega)⟩
          have C281x : h[281]? = some (.inl (1, [.ref 282, .ref 307, .ref 323, .ref 324])) := (K.at rfl)
          have C3x : h[323]? = some (.inr (.inl (0, o))) := (K.at rfl)
          have C4x : h[324]? = some (.inr (.inl (0, b))) := (K.at rfl)
          have F7 : ∀ x, x ≠ 283 → h[x]? = h9[x]? := fun x g => KN.off K9 K (lke (lke (lkn (fun z => g z.symm) (lke (lke rfl)))))
          have T2 : hS9 282 343 0 n S (m_pw o n 0 w) h := ⟨mi, shu, bus, lks, rl, pev, _, sta, ph, sp, ce, du, he, ri, us, cm, lf, lkd, row, sea, pms, pmm, pmt, pst, pwa, prs, prr, pfa, ⟨K.at rfl, K.at rfl, (K.2.1 284 rfl).trans CS.2.2.1, (K.2.1 285 rfl).trans CS.2.2.2.1, (K.2.1 286 rfl).trans CS.2.2.2.2.1, (K.2.1 287 rfl).trans CS.2.2.2.2.2.1, (K.2.1 288 rfl).trans CS.2.2.2.2.2.2.1, (K.2.1 289 rfl).trans CS.2.2.2.2.2.2.2.1, (K.2.1 290 rfl).trans CS.2.2.2.2.2.2.2.2.1, (K.2.1 291 rfl).trans CS.2.2.2.2.2.2.2.2.2.1, (K.2.1 292 rfl).trans CS.2.2.2.2.2.2.2.2.2.2.1, (K.2.1 293 rfl).trans CS.2.2.2.2.2.2.2.2.2.2.2.1, (K.2.1 294 rfl).trans CS.2.2.2.2.2.2.2.2.2.2.2.2.1, (K.2.1 295 rfl).trans CS.2.2.2.2.2.2.2.2.2.2.2.2.2.1, (K.2.1 296 rfl).trans CS.2.2.2.2.2.2.2.2.2.2.2.2.2.2.1, (K.2.1 297 rfl).trans CS.2.2.2.2.2.2.2.2.2.2.2.2.2.2.2.1, (K.2.1 298 rfl).trans CS.2.2.2.2.2.2.2.2.2.2.2.2.2.2.2.2.1, (K.2.1 299 rfl).trans CS.2.2.2.2.2.2.2.2.2.2.2.2.2.2.2.2.2.1, (K.2.1 300 rfl).trans CS.2.2.2.2.2.2.2.2.2.2.2.2.2.2.2.2.2.2.1, (K.2.1 301 rfl).trans CS.2.2.2.2.2.2.2.2.2.2.2.2.2.2.2.2.2.2.2.1, (K.2.1 302 rfl).trans CS.2.2.2.2.2.2.2.2.2.2.2.2.2.2.2.2.2.2.2.2.1, (K.2.1 303 rfl).trans CS.2.2.2.2.2.2.2.2.2.2.2.2.2.2.2.2.2.2.2.2.2.1, (K.2.1 304 rfl).trans CS.2.2.2.2.2.2.2.2.2.2.2.2.2.2.2.2.2.2.2.2.2.2.1, (K.2.1 305 rfl).trans CS.2.2.2.2.2.2.2.2.2.2.2.2.2.2.2.2.2.2.2.2.2.2.2.1, (K.2.1 306 rfl).trans CS.2.2.2.2.2.2.2.2.2.2.2.2.2.2.2.2.2.2.2.2.2.2.2.2⟩, ⟨(aC_len ..).trans hl4.1, hl4.2⟩, V9⟩
          have Y2 : hY9 343 n S (m_pw o n 0 w) h := (Y4.to VW.g V9.1.g st.1 st.2).fr (fun x _ _ => (F7 x (by omega)).trans (F9 x (by omega)))
          have hm2 : gN (m_pw o n 0 w) 201 = nI m := (es 201 (by omega)).trans hm
          refine j_V.cl fp7_M fp7_82 rfl (md := 3) (mj := 92) rfl (by decide) xd45_M (As := [.ref 282, .int 300, .int 1, .int 1]) (rest := []) (jk_spl3 (K.at rfl) rfl rfl rfl (Nat.le_of_ble_eq_true rfl) (Nat.le_of_ble_eq_true rfl)) (fun d => hv_xd (k := 300) (e := true) T2 Y2 hm2 hb 1 _ rfl) ?_
          rintro r h8 ⟨rfl, T8, Y8, -, F8⟩
          have K9 : kA h8 [(281, .inl (1, [.ref 282, .ref 307, .ref 323, .ref 324])), (323, .inr (.inl (0, o))), (324, .inr (.inl (0, b)))] := ⟨(F8 281 (by decide)).trans C281x, (F8 323 (by decide)).trans C3x, (F8 324 (by decide)).trans C4x, trivial⟩
          have K : KN h8 [(281, .inl (1, [.ref 282, .ref 307, .ref 323, .ref 324])), (323, .inr (.inl (0, o))), (324, .inr (.inl (0, b)))] h8 := K9.K
          rw [show m_price (m_adv n 1 true 300 (m_pw o n 0 w)) = m_pp n w o from pE_adv n _]
          show j_V jP _ 13 85 lv [.int (m_pp n w o)] h8 _
          refine j_V.stL fp7_M fp7_85 rfl (i := 6) (kd := 0) (kl' := [(0, .ref 281), (1, .ref 4), (2, .int (nI n)), (3, .int v), (4, .int 1), (5, .int (nI i)), (6, .int (m_pp n w o))]) (pcJ := 87) rfl L rfl (by decide) rfl rfl rfl (fun lv L => ?_)
          refine j_V.ldL fp7_M fp7_87 rfl (i := 3) (kd := 0) (v := .int v) (pcJ := 88) rfl L rfl rfl rfl ?_
          refine j_V.one fp7_M fp7_88 (by decide) (pcJ := 89) (stJ := [.int (-1), .int v]) rfl ?_
          refine j_V.icmp fp7_M fp7_89 (t := 98) rfl (fun c89_0 => ?_) (fun c89_0 => ?_)
          · replace c89_0 : v = (-1) := jd_eq c89_0
            refine j_V.ldL fp7_M fp7_98 rfl (i := 6) (kd := 0) (v := .int (m_pp n w o)) (pcJ := 100) rfl L rfl rfl rfl ?_
            refine j_V.stL fp7_M fp7_100 rfl (i := 3) (kd := 0) (kl' := [(0, .ref 281), (1, .ref 4), (2, .int (nI n)), (3, .int (m_pp n w o)), (4, .int 1), (5, .int (nI i)), (6, .int (m_pp n w o))]) (pcJ := 101) rfl L rfl (by decide) rfl rfl rfl (fun lv L => ?_)
            refine j_V.ldL fp7_M fp7_101 rfl (i := 0) (kd := 2) (v := .ref 281) (pcJ := 102) rfl L rfl rfl rfl ?_
            refine j_V.getK fp7_M fp7_102 (ci := 1) (j := 2) rfl K rfl rfl ?_
            refine j_V.one fp7_M fp7_105 (by decide) (pcJ := 106) (stJ := [.int 0, .ref 323]) rfl ?_
            refine j_V.ldL fp7_M fp7_106 rfl (i := 0) (kd := 2) (v := .ref 281) (pcJ := 107) rfl L rfl rfl rfl ?_
            refine j_V.getK fp7_M fp7_107 (ci := 1) (j := 3) rfl K rfl rfl ?_
            refine j_V.one fp7_M fp7_110 (by decide) (pcJ := 111) (stJ := [.int 0, .ref 324, .int 0, .ref 323]) rfl ?_
            refine j_V.one fp7_M fp7_111 (by decide) (pcJ := 112) (stJ := [.int 5, .int 0, .ref 324, .int 0, .ref 323]) rfl ?_
            refine j_V.acp fp7_M fp7_112 rfl rfl K rfl rfl rfl (fun h K => ?_)
            refine j_V.ldL fp7_M fp7_115 rfl (i := 0) (kd := 2) (v := .ref 281) (pcJ := 116) rfl L rfl rfl rfl ?_
            refine j_V.ldL fp7_M fp7_116 rfl (i := 2) (kd := 0) (v := .int (nI n)) (pcJ := 117) rfl L rfl rfl rfl ?_
            have FP : ∀ x, x ≠ 324 → h[x]? = h8[x]? := fun x g => KN.off K9 K (lke (lke (lkn (fun z => g z.symm) rfl)))
            have C4p : h[324]? = some (.inr (.inl (0, (aC 5 o b)))) := K.at rfl
            rw [show (aC 5 o b) = o from aC_eq (k := 5) (by decide) lo lb] at C4p
            have K9 : kA h [(281, .inl (1, [.ref 282, .ref 307, .ref 323, .ref 324])), (323, .inr (.inl (0, o)))] := ⟨K.at rfl, K.at rfl, trivial⟩
            refine j_V.cl fp7_M fp7_117 rfl (md := 3) (mj := 14) rfl (by decide) fo1_M (As := [.ref 281, .int (nI n)]) (rest := []) (jk_spl3 (K.at rfl) rfl rfl rfl (Nat.le_of_ble_eq_true rfl) (Nat.le_of_ble_eq_true rfl)) (fun d => fo1_ok hn2 K9.K) ?_
            rintro r h7 ⟨rfl, K⟩
            rw [C1] at K ⊢
            have FQ : ∀ x, x ≠ 323 → h7[x]? = h[x]? := fun x g => KN.off K9 K (lke (lkn (fun z => g z.symm) rfl))
            have C4 : h7[324]? = some (.inr (.inl (0, o))) := (FQ 324 (by decide)).trans C4p
            have C3 : h7[323]? = some (.inr (.inl (0, p))) := K.at rfl
            have FB : ∀ x, (x < 282 ∨ (307 ≤ x ∧ x ≠ 323 ∧ x ≠ 324)) → h7[x]? = hc[x]? := fun x g => (FQ x (by omega)).trans ((FP x (by omega)).trans ((F8 x (by omega)).trans ((F7 x (by omega)).trans (F9 x (by omega)))))
            have T7 : hT9 282 0 h7 := T8.sh.fr (fun x _ _ => (FQ x (by omega)).trans (FP x (by omega)))
            have K9 : kA h7 [(281, .inl (1, [.ref 282, .ref 307, .ref 323, .ref 324])), (323, .inr (.inl (0, p))), (324, .inr (.inl (0, o)))] := ⟨K.at rfl, C3, C4, trivial⟩
            have K : KN h7 [(281, .inl (1, [.ref 282, .ref 307, .ref 323, .ref 324])), (323, .inr (.inl (0, p))), (324, .inr (.inl (0, o)))] h7 := K9.K
            show j_V jP _ 13 120 lv [.int 1] h7 _
            refine j_V.stL fp7_M fp7_120 rfl (i := 4) (kd := 0) (kl' := [(0, .ref 281), (1, .ref 4), (2, .int (nI n)), (3, .int (m_pp n w o)), (4, .int 1), (5, .int (nI i)), (6, .int (m_pp n w o))]) (pcJ := 122) rfl L rfl (by decide) rfl rfl rfl (fun lv L => ?_)
            refine j_V.inL fp7_M fp7_122 (i := 5) (kl' := [(0, .ref 281), (1, .ref 4), (2, .int (nI n)), (3, .int (m_pp n w o)), (4, .int 1), (5, .int ((nI i) + 1)), (6, .int (m_pp n w o))]) (pcJ := 125) L rfl rfl rfl rfl (fun lv L => ?_)
            refine j_V.gto fp7_M fp7_125 (t := 36) rfl ?_
            rw [if_pos c89_0]
            rw [nI_1] at L
            have P7 : hF 343 n S w h7 := ⟨R4.fr (fun x _ _ => FB x (by omega)), Y4.fr (fun x _ _ => FB x (by omega)), T7, (FB 281 (by decide)).trans C281⟩
            have g := fun lv L => ih p o (m_pp n w o) (i + 1) lv h7 (by omega) C2 (fun a ha => A a (List.mem_cons_of_mem _ ha)) L P7 C3 C4 lo (fun x g => (FB x g).trans (FA x g))
            rw [if_neg hpo] at g
            exact g _ (L.sub ⟨rfl, rfl, rfl, rfl, rfl, rfl, trivial⟩)
          · replace c89_0 : ¬ (v = (-1)) := jd_eqn c89_0
            refine j_V.ldL fp7_M fp7_92 rfl (i := 6) (kd := 0) (v := .int (m_pp n w o)) (pcJ := 94) rfl L rfl rfl rfl ?_
            refine j_V.ldL fp7_M fp7_94 rfl (i := 3) (kd := 0) (v := .int v) (pcJ := 95) rfl L rfl rfl rfl ?_
            refine j_V.icmp fp7_M fp7_95 (t := 115) rfl (fun c95_1 => ?_) (fun c95_1 => ?_)
            · replace c95_1 : ¬ ((m_pp n w o) < v) := jd_ge c95_1
              refine j_V.ldL fp7_M fp7_115 rfl (i := 0) (kd := 2) (v := .ref 281) (pcJ := 116) rfl L rfl rfl rfl ?_
              refine j_V.ldL fp7_M fp7_116 rfl (i := 2) (kd := 0) (v := .int (nI n)) (pcJ := 117) rfl L rfl rfl rfl ?_
              have FP : ∀ x, x ≠ 324 → h8[x]? = h8[x]? := fun x g => KN.off K9 K (lke (lke (lkn (fun z => g z.symm) rfl)))
              have C4p : h8[324]? = some (.inr (.inl (0, b))) := K.at rfl
              have K9 : kA h8 [(281, .inl (1, [.ref 282, .ref 307, .ref 323, .ref 324])), (323, .inr (.inl (0, o)))] := ⟨K.at rfl, K.at rfl, trivial⟩
              refine j_V.cl fp7_M fp7_117 rfl (md := 3) (mj := 14) rfl (by decide) fo1_M (As := [.ref 281, .int (nI n)]) (rest := []) (jk_spl3 (K.at rfl) rfl rfl rfl (Nat.le_of_ble_eq_true rfl) (Nat.le_of_ble_eq_true rfl)) (fun d => fo1_ok hn2 K9.K) ?_
              rintro r h7 ⟨rfl, K⟩
              rw [C1] at K ⊢
              have FQ : ∀ x, x ≠ 323 → h7[x]? = h8[x]? := fun x g => KN.off K9 K (lke (lkn (fun z => g z.symm) rfl))
              have C4 : h7[324]? = some (.inr (.inl (0, b))) := (FQ 324 (by decide)).trans C4p
              have C3 : h7[323]? = some (.inr (.inl (0, p))) := K.at rfl
              have FB : ∀ x, (x < 282 ∨ (307 ≤ x ∧ x ≠ 323 ∧ x ≠ 324)) → h7[x]? = hc[x]? := fun x g => (FQ x (by omega)).trans ((FP x (by omega)).trans ((F8 x (by omega)).trans ((F7 x (by omega)).trans (F9 x (by omega)))))
              have T7 : hT9 282 0 h7 := T8.sh.fr (fun x _ _ => (FQ x (by omega)).trans (FP x (by omega)))
              have K9 : kA h7 [(281, .inl (1, [.ref 282, .ref 307, .ref 323, .ref 324])), (323, .inr (.inl (0, p))), (324, .inr (.inl (0, b)))] := ⟨K.at rfl, C3, C4, trivial⟩
              have K : KN h7 [(281, .inl (1, [.ref 282, .ref 307, .ref 323, .ref 324])), (323, .inr (.inl (0, p))), (324, .inr (.inl (0, b)))] h7 := K9.K
              show j_V jP _ 13 120 lv [.int 1] h7 _
              refine j_V.stL fp7_M fp7_120 rfl (i := 4) (kd := 0) (kl' := [(0, .ref 281), (1, .ref 4), (2, .int (nI n)), (3, .int v), (4, .int 1), (5, .int (nI i)), (6, .int (m_pp n w o))]) (pcJ := 122) rfl L rfl (by decide) rfl rfl rfl (fun lv L => ?_)
              refine j_V.inL fp7_M fp7_122 (i := 5) (kl' := [(0, .ref 281), (1, .ref 4), (2, .int (nI n)), (3, .int v), (4, .int 1), (5, .int ((nI i) + 1)), (6, .int (m_pp n w o))]) (pcJ := 125) L rfl rfl rfl rfl (fun lv L => ?_)
              refine j_V.gto fp7_M fp7_125 (t := 36) rfl ?_
              rw [if_neg c89_0, show plS (fun a => m_pp n w a) v b (o :: (p :: r)) = (if m_pp n w o < v then plS (fun a => m_pp n w a) (m_pp n w o) o (p :: r) else plS (fun a => m_pp n w a) v b (p :: r)) from rfl, if_neg c95_1]
              rw [nI_1] at L
              have P7 : hF 343 n S w h7 := ⟨R4.fr (fun x _ _ => FB x (by omega)), Y4.fr (fun x _ _ => FB x (by omega)), T7, (FB 281 (by decide)).trans C281⟩
              have g := fun lv L => ih p b v (i + 1) lv h7 (by omega) C2 (fun a ha => A a (List.mem_cons_of_mem _ ha)) L P7 C3 C4 lb (fun x g => (FB x g).trans (FA x g))
              rw [if_neg c89_0] at g
              exact g _ (L.sub ⟨rfl, rfl, rfl, rfl, rfl, rfl, trivial⟩)
            · replace c95_1 : (m_pp n w o) < v := jd_gen c95_1
              refine j_V.ldL fp7_M fp7_98 rfl (i := 6) (kd := 0) (v := .int (m_pp n w o)) (pcJ := 100) rfl L rfl rfl rfl ?_
              refine j_V.stL fp7_M fp7_100 rfl (i := 3) (kd := 0) (kl' := [(0, .ref 281), (1, .ref 4), (2, .int (nI n)), (3, .int (m_pp n w o)), (4, .int 1), (5, .int (nI i)), (6, .int (m_pp n w o))]) (pcJ := 101) rfl L rfl (by decide) rfl rfl rfl (fun lv L => ?_)
              refine j_V.ldL fp7_M fp7_101 rfl (i := 0) (kd := 2) (v := .ref 281) (pcJ := 102) rfl L rfl rfl rfl ?_
              refine j_V.getK fp7_M fp7_102 (ci := 1) (j := 2) rfl K rfl rfl ?_
              refine j_V.one fp7_M fp7_105 (by decide) (pcJ := 106) (stJ := [.int 0, .ref 323]) rfl ?_
              refine j_V.ldL fp7_M fp7_106 rfl (i := 0) (kd := 2) (v := .ref 281) (pcJ := 107) rfl L rfl rfl rfl ?_
              refine j_V.getK fp7_M fp7_107 (ci := 1) (j := 3) rfl K rfl rfl ?_
              refine j_V.one fp7_M fp7_110 (by decide) (pcJ := 111) (stJ := [.int 0, .ref 324, .int 0, .ref 323]) rfl ?_
              refine j_V.one fp7_M fp7_111 (by decide) (pcJ := 112) (stJ := [.int 5, .int 0, .ref 324, .int 0, .ref 323]) rfl ?_
              refine j_V.acp fp7_M fp7_112 rfl rfl K rfl rfl rfl (fun h K => ?_)
              refine j_V.ldL fp7_M fp7_115 rfl (i := 0) (kd := 2) (v := .ref 281) (pcJ := 116) rfl L rfl rfl rfl ?_
              refine j_V.ldL fp7_M fp7_116 rfl (i := 2) (kd := 0) (v := .int (nI n)) (pcJ := 117) rfl L rfl rfl rfl ?_
              have FP : ∀ x, x ≠ 324 → h[x]? = h8[x]? := fun x g => KN.off K9 K (lke (lke (lkn (fun z => g z.symm) rfl)))
              have C4p : h[324]? = some (.inr (.inl (0, (aC 5 o b)))) := K.at rfl
              rw [show (aC 5 o b) = o from aC_eq (k := 5) (by decide) lo lb] at C4p
              have K9 : kA h [(281, .inl (1, [.ref 282, .ref 307, .ref 323, .ref 324])), (323, .inr (.inl (0, o)))] := ⟨K.at rfl, K.at rfl, trivial⟩
              refine j_V.cl fp7_M fp7_117 rfl (md := 3) (mj := 14) rfl (by decide) fo1_M (As := [.ref 281, .int (nI n)]) (rest := []) (jk_spl3 (K.at rfl) rfl rfl rfl (Nat.le_of_ble_eq_true rfl) (Nat.le_of_ble_eq_true rfl)) (fun d => fo1_ok hn2 K9.K) ?_
              rintro r h7 ⟨rfl, K⟩
              rw [C1] at K ⊢
              have FQ : ∀ x, x ≠ 323 → h7[x]? = h[x]? := fun x g => KN.off K9 K (lke (lkn (fun z => g z.symm) rfl))
              have C4 : h7[324]? = some (.inr (.inl (0, o))) := (FQ 324 (by decide)).trans C4p
              have C3 : h7[323]? = some (.inr (.inl (0, p))) := K.at rfl
              have FB : ∀ x, (x < 282 ∨ (307 ≤ x ∧ x ≠ 323 ∧ x ≠ 324)) → h7[x]? = hc[x]? := fun x g => (FQ x (by omega)).trans ((FP x (by omega)).trans ((F8 x (by omega)).trans ((F7 x (by omega)).trans (F9 x (by omega)))))
              have T7 : hT9 282 0 h7 := T8.sh.fr (fun x _ _ => (FQ x (by omega)).trans (FP x (by omega)))
              have K9 : kA h7 [(281, .inl (1, [.ref 282, .ref 307, .ref 323, .ref 324])), (323, .inr (.inl (0, p))), (324, .inr (.inl (0, o)))] := ⟨K.at rfl, C3, C4, trivial⟩
              have K : KN h7 [(281, .inl (1, [.ref 282, .ref 307, .ref 323, .ref 324])), (323, .inr (.inl (0, p))), (324, .inr (.inl (0, o)))] h7 := K9.K
              show j_V jP _ 13 120 lv [.int 1] h7 _
              refine j_V.stL fp7_M fp7_120 rfl (i := 4) (kd := 0) (kl' := [(0, .ref 281), (1, .ref 4), (2, .int (nI n)), (3, .int (m_pp n w o)), (4, .int 1), (5, .int (nI i)), (6, .int (m_pp n w o))]) (pcJ := 122) rfl L rfl (by decide) rfl rfl rfl (fun lv L => ?_)
              refine j_V.inL fp7_M fp7_122 (i := 5) (kl' := [(0, .ref 281), (1, .ref 4), (2, .int (nI n)), (3, .int (m_pp n w o)), (4, .int 1), (5, .int ((nI i) + 1)), (6, .int (m_pp n w o))]) (pcJ := 125) L rfl rfl rfl rfl (fun lv L => ?_)
              refine j_V.gto fp7_M fp7_125 (t := 36) rfl ?_
              rw [if_neg c89_0, show plS (fun a => m_pp n w a) v b (o :: (p :: r)) = (if m_pp n w o < v then plS (fun a => m_pp n w a) (m_pp n w o) o (p :: r) else plS (fun a => m_pp n w a) v b (p :: r)) from rfl, if_pos c95_1]
              rw [nI_1] at L
              have P7 : hF 343 n S w h7 := ⟨R4.fr (fun x _ _ => FB x (by omega)), Y4.fr (fun x _ _ => FB x (by omega)), T7, (FB 281 (by decide)).trans C281⟩
              have g := fun lv L => ih p o (m_pp n w o) (i + 1) lv h7 (by omega) C2 (fun a ha => A a (List.mem_cons_of_mem _ ha)) L P7 C3 C4 lo (fun x g => (FB x g).trans (FA x g))
              rw [if_neg hpo] at g
              exact g _ (L.sub ⟨rfl, rfl, rfl, rfl, rfl, rfl, trivial⟩)
  have Y4 := P.2.1
  have R4 := P.1
  refine hY9.opn Y4 (fun celz runz traz lenz sizz frmz ttoz lstz sloz weiz fitz wayz ridz lonz CY _ _ _ => ?_)
  refine hS9.opn R4 (fun miN shuN busN lksN rlN pevN rkN staN phN spN ceN duN heN riN usN cmN lfN lkdN rowN seaN pmsN pmmN pmtN pstN pwaN prsN prrN pfaN CN _ _ => ?_)
  have K9 : kA g0 [(4, .inl (7, [.ref 343, .int miN, .int shuN, .int busN, .ref 5, .ref 6, .ref 7, .ref 8, .ref 9, .ref 10, .ref 11, .ref 12, .ref 13, .ref 14, .ref 15, .int lksN, .ref 16, .ref 17, .ref 20])), (281, .inl (1, [.ref 282, .ref 307, .ref 323, .ref 324])), (323, .inr (.inl (0, o9))), (324, .inr (.inl (0, b9))), (343, .inl (2, [.int (nI S), .ref 344, .ref 345, .ref 346, .ref 347, .int (nI n), .ref 348, .ref 349, .ref 350, .ref 351, .ref 352, .ref 353, .ref 354, .int celz, .ref 355, .ref 356, .ref 357, .ref 358]))] := ⟨CN.1, P.2.2.2, C3, C4, CY.1, trivial⟩
  have K : KN g0 [(4, .inl (7, [.ref 343, .int miN, .int shuN, .int busN, .ref 5, .ref 6, .ref 7, .ref 8, .ref 9, .ref 10, .ref 11, .ref 12, .ref 13, .ref 14, .ref 15, .int lksN, .ref 16, .ref 17, .ref 20])), (281, .inl (1, [.ref 282, .ref 307, .ref 323, .ref 324])), (323, .inr (.inl (0, o9))), (324, .inr (.inl (0, b9))), (343, .inl (2, [.int (nI S), .ref 344, .ref 345, .ref 346, .ref 347, .int (nI n), .ref 348, .ref 349, .ref 350, .ref 351, .ref 352, .ref 353, .ref 354, .int celz, .ref 355, .ref 356, .ref 357, .ref 358]))] g0 := K9.K
  show j_V jP d 13 0 [(0, .ref 281), (1, .ref 4)] [] g0 _
  obtain ⟨lv, elv, L9⟩ : ∃ lv, lv = [(0, .ref 281), (1, .ref 4)] ∧ LK lv [(0, .ref 281), (1, .ref 4)] := ⟨_, rfl, LK.rf⟩
  rw [← elv]
  clear elv
  have L := L9
  refine j_V.ldL fp7_M fp7_0 rfl (i := 1) (kd := 2) (v := .ref 4) (pcJ := 1) rfl L rfl rfl rfl ?_
  refine j_V.getK fp7_M fp7_1 (ci := 7) (j := 0) rfl K rfl rfl ?_
  refine j_V.getK fp7_M fp7_4 (ci := 2) (j := 5) rfl K rfl rfl ?_
  refine j_V.stL fp7_M fp7_7 rfl (i := 2) (kd := 0) (kl' := [(0, .ref 281), (1, .ref 4), (2, .int (nI n))]) (pcJ := 8) rfl L rfl (by decide) rfl rfl rfl (fun lv L => ?_)
  refine j_V.one fp7_M fp7_8 (by decide) (pcJ := 9) (stJ := [.int 0]) rfl ?_
  refine j_V.stL fp7_M fp7_9 rfl (i := 3) (kd := 0) (kl' := [(0, .ref 281), (1, .ref 4), (2, .int (nI n)), (3, .int 0)]) (pcJ := 10) rfl L rfl (by decide) rfl rfl rfl (fun lv L => ?_)
  have KA : KN g0 [(281, .inl (1, [.ref 282, .ref 307, .ref 323, .ref 324])), (323, .inr (.inl (0, o9)))] g0 := K.fi [281, 323] rfl rfl
  refine hl_po 5 0 o9 rfl L KA (fun lv h L K => ?_)
  have K0 : kA g0 [(281, .inl (1, [.ref 282, .ref 307, .ref 323, .ref 324])), (323, .inr (.inl (0, o9)))] := ⟨P.2.2.2, C3, trivial⟩
  refine j_V.one fp7_M fp7_28 (by decide) (pcJ := 29) (stJ := [.int (-1)]) rfl ?_
  refine j_V.stL fp7_M fp7_29 rfl (i := 3) (kd := 0) (kl' := [(0, .ref 281), (1, .ref 4), (2, .int (nI n)), (3, .int (-1))]) (pcJ := 30) rfl L rfl (by decide) rfl rfl rfl (fun lv L => ?_)
  refine j_V.one fp7_M fp7_30 (by decide) (pcJ := 31) (stJ := [.int 1]) rfl ?_
  refine j_V.stL fp7_M fp7_31 rfl (i := 4) (kd := 0) (kl' := [(0, .ref 281), (1, .ref 4), (2, .int (nI n)), (3, .int (-1)), (4, .int 1)]) (pcJ := 33) rfl L rfl (by decide) rfl rfl rfl (fun lv L => ?_)
  refine j_V.one fp7_M fp7_33 (by decide) (pcJ := 34) (stJ := [.int 0]) rfl ?_
  refine j_V.stL fp7_M fp7_34 rfl (i := 5) (kd := 0) (kl' := [(0, .ref 281), (1, .ref 4), (2, .int (nI n)), (3, .int (-1)), (4, .int 1), (5, .int 0)]) (pcJ := 36) rfl L rfl (by decide) rfl rfl rfl (fun lv L => ?_)
  have F0 : ∀ x, x ≠ 323 → h[x]? = g0[x]? := fun x g => KN.off K0 K (lke (lkn (fun z => g z.symm) rfl))
  have C3h : h[323]? = some (.inr (.inl (0, (m_poI 5 0 o9)))) := K.at rfl
  rw [poI5 lo9] at C3h
  have P0 : hF 343 n S w h := ⟨R4.fr (fun x _ _ => F0 x (by omega)), Y4.fr (fun x _ _ => F0 x (by omega)), P.2.2.1.fr (fun x _ _ => F0 x (by omega)), (F0 281 (by decide)).trans P.2.2.2⟩
  have g := fun lv L => hl r [0, 1, 2, 3, 4] b9 (-1) 0 lv h (by omega) hx hA L P0 C3h ((F0 324 (by decide)).trans C4) lb9 (fun x g => F0 x (by omega))
  rw [if_pos rfl] at g
  exact g _ L
