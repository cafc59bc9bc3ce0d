/-! the reference's methods that play on: by wip/px/gen_m9.py -/
/-- a train's rank, found by going through the ranks -/
def m_rk (w : List Int32) (t : Int32) : Nat → Int32 → Prop
  | 0, i => gA w (196 + i) = t
  | f + 1, i => gA w (196 + i) = t ∨ m_rk w t f (i + 1)
def m_rkl (w : List Int32) (t : Int32) : Nat → Int32 → Int32
  | 0, i => i
  | f + 1, i => if (gA w (196 + i)) = t then i else m_rkl w t f (i + 1)
def m_rankOf (w : List Int32) (t : Int32) : Int32 := m_rkl w t 4 0
/-- what one minute keeps: I between minutes, J while its end is told -/
def m_Inv (n : Nat) (I J : List Int32 → Prop) : Prop :=
  (n ≤ 5) ∧
  (∀ w, I w → w.length = 602 ∧ gA w 203 = nI n) ∧
  (∀ w t, t < n → I w → I (m_mA1 w (nI t))) ∧
  (∀ w k care, k < n → I w → I (m_mM1 w n care (nI k))) ∧
  (∀ w k, k < n → I w → ¬ m_isTrain w (gA w (196 + nI k)) = 0) ∧
  (∀ w, I w → m_sfok w n) ∧
  (∀ w t, I w → ¬ m_isTrain w t = 0 → m_whyNot w t = 0 → m_sfok (m_sets w t) n) ∧
  (∀ w, J w → w.length = 602 ∧ gA w 203 = nI n) ∧
  (∀ w, I w → J w) ∧
  (∀ w t q, t < n → q < n → J w → J (m_meets w (nI t) (nI q))) ∧
  (∀ w t, t < n → J w → J (m_mE0 w (nI t))) ∧
  (∀ w t, t < n → J w → (m_of w (nI t) 6) = 1 → J (m_mS w (nI t))) ∧
  (∀ w, J w → I (m_mT w)) ∧
  (∀ w t, I w → ¬ m_isTrain w t = 0 → m_rk w t 4 0)
theorem m_Inv.n5 {n : Nat} {I J : List Int32 → Prop} (h : m_Inv n I J) : n ≤ 5 := h.1
theorem m_Inv.I1 {n : Nat} {I J : List Int32 → Prop} (h : m_Inv n I J) : ∀ w, I w → w.length = 602 ∧ gA w 203 = nI n := h.2.1
theorem m_Inv.A {n : Nat} {I J : List Int32 → Prop} (h : m_Inv n I J) : ∀ w t, t < n → I w → I (m_mA1 w (nI t)) := h.2.2.1
theorem m_Inv.M {n : Nat} {I J : List Int32 → Prop} (h : m_Inv n I J) : ∀ w k care, k < n → I w → I (m_mM1 w n care (nI k)) := h.2.2.2.1
theorem m_Inv.R {n : Nat} {I J : List Int32 → Prop} (h : m_Inv n I J) : ∀ w k, k < n → I w → ¬ m_isTrain w (gA w (196 + nI k)) = 0 := h.2.2.2.2.1
theorem m_Inv.F {n : Nat} {I J : List Int32 → Prop} (h : m_Inv n I J) : ∀ w, I w → m_sfok w n := h.2.2.2.2.2.1
theorem m_Inv.S2 {n : Nat} {I J : List Int32 → Prop} (h : m_Inv n I J) : ∀ w t, I w → ¬ m_isTrain w t = 0 → m_whyNot w t = 0 → m_sfok (m_sets w t) n := h.2.2.2.2.2.2.1
theorem m_Inv.J1 {n : Nat} {I J : List Int32 → Prop} (h : m_Inv n I J) : ∀ w, J w → w.length = 602 ∧ gA w 203 = nI n := h.2.2.2.2.2.2.2.1
theorem m_Inv.IJ {n : Nat} {I J : List Int32 → Prop} (h : m_Inv n I J) : ∀ w, I w → J w := h.2.2.2.2.2.2.2.2.1
theorem m_Inv.Q {n : Nat} {I J : List Int32 → Prop} (h : m_Inv n I J) : ∀ w t q, t < n → q < n → J w → J (m_meets w (nI t) (nI q)) := h.2.2.2.2.2.2.2.2.2.1
theorem m_Inv.U {n : Nat} {I J : List Int32 → Prop} (h : m_Inv n I J) : ∀ w t, t < n → J w → J (m_mE0 w (nI t)) := h.2.2.2.2.2.2.2.2.2.2.1
theorem m_Inv.S {n : Nat} {I J : List Int32 → Prop} (h : m_Inv n I J) : ∀ w t, t < n → J w → (m_of w (nI t) 6) = 1 → J (m_mS w (nI t)) := h.2.2.2.2.2.2.2.2.2.2.2.1
theorem m_Inv.T {n : Nat} {I J : List Int32 → Prop} (h : m_Inv n I J) : ∀ w, J w → I (m_mT w) := h.2.2.2.2.2.2.2.2.2.2.2.2.1
theorem m_Inv.RK {n : Nat} {I J : List Int32 → Prop} (h : m_Inv n I J) : ∀ w t, I w → ¬ m_isTrain w t = 0 → m_rk w t 4 0 := h.2.2.2.2.2.2.2.2.2.2.2.2.2
theorem m_Inv.mA {n : Nat} {I J : List Int32 → Prop} (H : m_Inv n I J) : ∀ (f t : Nat) (w : List Int32), t + f = n → I w → I (m_mA f t w)
  | 0, _, _, _, h => h
  | f + 1, t, w, e, h => H.mA f (t + 1) _ (by omega) (H.A w t (by omega) h)
theorem m_Inv.mM {n : Nat} {care : Int32} {I J : List Int32 → Prop} (H : m_Inv n I J) : ∀ (f k : Nat) (w : List Int32), k + f = n → I w → I (m_mM n care f k w)
  | 0, _, _, _, h => h
  | f + 1, k, w, e, h => H.mM f (k + 1) _ (by omega) (H.M w k care (by omega) h)
theorem m_Inv.mQ {n : Nat} {t : Nat} {I J : List Int32 → Prop} (H : m_Inv n I J) (ht : t < n) : ∀ (f q : Nat) (w : List Int32), q + f = n → J w → J (m_mQ (nI t) f q w)
  | 0, _, _, _, h => h
  | f + 1, q, w, e, h => H.mQ ht f (q + 1) _ (by omega) (H.Q w t q ht (by omega) h)
theorem m_Inv.mE {n : Nat} {I J : List Int32 → Prop} (H : m_Inv n I J) : ∀ (f t : Nat) (w : List Int32), t + f = n → J w → J (m_mE n f t w)
  | 0, _, _, _, h => h
  | f + 1, t, w, e, h => by
    refine H.mE f (t + 1) _ (by omega) ?_
    have h1 := H.U w t (by omega) h
    unfold m_mE1
    split
    · rename_i c
      exact H.mQ (by omega) n 0 _ (by omega) (H.S _ t (by omega) h1 c)
    · exact h1
theorem m_Inv.min {n : Nat} {I J : List Int32 → Prop} (H : m_Inv n I J) {w : List Int32} {care : Int32} (h : I w) : I (m_minute n w care) :=
  H.T _ (H.mE n 0 _ (by omega) (H.IJ _ (H.mM n 0 _ (by omega) (H.mA n 0 w (by omega) h))))
theorem mj09_ok {u : Nat → Value} {n d : Nat} {h h0 : J_H} {w ot tk : List Int32} {tm x1 : Int32} {I J : List Int32 → Prop} (H : m_Inv n I J) (hI : I w) (ho : ot.length = 602) (K : KN h [(359, .inl (10, [(u 0), .ref 360, .ref 361, .ref 362, .ref 363, .ref 364, .ref 365, .ref 366, .ref 367, (u 9), (u 10), (u 11), (u 12), (u 13), (u 14), (u 15), (u 16), (u 17), (u 18), (u 19), (u 20), (u 21), .ref 368, .int tm, .ref 369, .ref 370, .ref 371, (u 27)])), (360, .inr (.inl (0, w))), (363, .inr (.inl (0, ot))), (368, .inr (.inl (0, tk)))] h0) : j_V jP d 227 0 (lv_args 0 [.ref 359, .int x1]) [] h (fun rv h' => rv = none ∧ I (m_minute n w x1) ∧ ∃ (ot' tk' : List Int32) (tm' : Int32), ot'.length = 602 ∧ KN h' [(359, .inl (10, [(u 0), .ref 360, .ref 361, .ref 362, .ref 363, .ref 364, .ref 365, .ref 366, .ref 367, (u 9), (u 10), (u 11), (u 12), (u 13), (u 14), (u 15), (u 16), (u 17), (u 18), (u 19), (u 20), (u 21), .ref 368, .int tm', .ref 369, .ref 370, .ref 371, (u 27)])), (360, .inr (.inl (0, (m_minute n w x1)))), (363, .inr (.inl (0, ot'))), (368, .inr (.inl (0, tk')))] h0) :=
  j_V.mono (mj0_ok H.n5 H.I1 H.A (fun w k hk hI => ⟨H.M w k x1 hk hI, fun _ _ _ z => H.S2 w _ hI (H.R w k hk hI) z⟩) H.J1 H.IJ H.Q H.U H.S hI ho K) (fun rv h' z => ⟨z.1, H.min hI, z.2⟩)
set_option maxRecDepth 100000 in
theorem mr5_M : j_meth jP 239 = some (yX10_orNone, cX10_orNone, 3, (some .int), 2, false, 10) := rfl
set_option maxRecDepth 100000 in
theorem mr5_0 : j_code jP 239 0 = some (.iload_n 1) := rfl
set_option maxRecDepth 100000 in
theorem mr5_1 : j_code jP 239 1 = some (.ifCond .eq 11) := rfl
set_option maxRecDepth 100000 in
theorem mr5_4 : j_code jP 239 4 = some (.aload_n 0) := rfl
set_option maxRecDepth 100000 in
theorem mr5_5 : j_code jP 239 5 = some (.iload_n 2) := rfl
set_option maxRecDepth 100000 in
theorem mr5_6 : j_code jP 239 6 = some (.invokevirtual 195) := rfl
set_option maxRecDepth 100000 in
theorem mr5_9 : j_code jP 239 9 = some (.goto 8) := rfl
set_option maxRecDepth 100000 in
theorem mr5_12 : j_code jP 239 12 = some (.aload_n 0) := rfl
set_option maxRecDepth 100000 in
theorem mr5_13 : j_code jP 239 13 = some (.iconst 5) := rfl
set_option maxRecDepth 100000 in
theorem mr5_14 : j_code jP 239 14 = some (.invokevirtual 179) := rfl
set_option maxRecDepth 100000 in
theorem mr5_17 : j_code jP 239 17 = some (.ireturn) := rfl
def m_orNone (th : Int32) (sst : Int32) (x1 : Int32) (x2 : Int32) : Int32 × Int32 × Int32 := (if x1 = 0 then let z3 := (m_refuse th sst 5); ((z3.1), (z3.2.1), (z3.2.2)) else let z4 := (m_gives th sst x2); ((z4.1), (z4.2.1), (z4.2.2)))
set_option maxRecDepth 1000000 in
theorem mr5_ok {u : Nat → Value} {th : Int32} {sst : Int32} {acs : Int32} {x1 x2 : Int32} {d : Nat} {h h0 : J_H} (K : KN h [(359, .inl (10, [.int th, .ref 360, .ref 361, .ref 362, .ref 363, .ref 364, .ref 365, .ref 366, .ref 367, (u 9), .int sst, (u 11), (u 12), .int acs, (u 14), (u 15), (u 16), (u 17), (u 18), (u 19), (u 20), (u 21), .ref 368, (u 23), .ref 369, .ref 370, .ref 371, (u 27)]))] h0) : j_V jP d 239 0 (lv_args 0 [.ref 359, .int x1, .int x2]) [] h (fun rv h' => rv = some (.int (m_orNone th sst x1 x2).1) ∧ KN h' [(359, .inl (10, [.int (m_orNone th sst x1 x2).2.1, .ref 360, .ref 361, .ref 362, .ref 363, .ref 364, .ref 365, .ref 366, .ref 367, (u 9), .int (m_orNone th sst x1 x2).2.2, (u 11), (u 12), .int acs, (u 14), (u 15), (u 16), (u 17), (u 18), (u 19), (u 20), (u 21), .ref 368, (u 23), .ref 369, .ref 370, .ref 371, (u 27)]))] h0) := by
  show j_V jP d 239 0 [(0, .ref 359), (1, .int x1), (2, .int x2)] [] h _
  obtain ⟨lv, elv, L⟩ : ∃ lv, lv = [(0, .ref 359), (1, .int x1), (2, .int x2)] ∧ LK lv [(0, .ref 359), (1, .int x1), (2, .int x2)] := ⟨_, rfl, LK.rf⟩
  rw [← elv]
  clear elv
  refine j_V.ldL mr5_M mr5_0 rfl (i := 1) (kd := 0) (v := .int x1) (pcJ := 1) rfl L rfl rfl rfl ?_
  refine j_V.ifc mr5_M mr5_1 (t := 12) rfl (fun c1_0 => ?_) (fun c1_0 => ?_)
  · replace c1_0 : x1 = 0 := jd_eq c1_0
    refine j_V.ldL mr5_M mr5_12 rfl (i := 0) (kd := 2) (v := .ref 359) (pcJ := 13) rfl L rfl rfl rfl ?_
    refine j_V.one mr5_M mr5_13 (by decide) (pcJ := 14) (stJ := [.int 5, .ref 359]) rfl ?_
    refine j_V.cl mr5_M mr5_14 rfl (md := 3) (mj := 169) rfl (by decide) mo0_M (As := [.ref 359, .int 5]) (rest := []) (jk_spl3 (K.at rfl) rfl rfl rfl (Nat.le_of_ble_eq_true rfl) (Nat.le_of_ble_eq_true rfl)) (fun d => mo0_ok (K.fi [359] rfl rfl)) ?_
    rintro r h9 ⟨rfl, K9⟩
    generalize ez3 : (m_refuse th sst 5) = z3 at K9 ⊢
    have K : KN h9 [(359, .inl (10, [.int (z3.2.1), .ref 360, .ref 361, .ref 362, .ref 363, .ref 364, .ref 365, .ref 366, .ref 367, (u 9), .int (z3.2.2), (u 11), (u 12), .int acs, (u 14), (u 15), (u 16), (u 17), (u 18), (u 19), (u 20), (u 21), .ref 368, (u 23), .ref 369, .ref 370, .ref 371, (u 27)]))] h0 := K.mg K9 rfl rfl
    clear K9
    show j_V jP _ 239 17 lv [.int (z3.1)] h9 _
    subst ez3
    refine j_V.ri mr5_M mr5_17 ?_
    rw [show (m_orNone th sst x1 x2) = _ from ((if_pos c1_0).trans (rfl))]
    exact ⟨rfl, K⟩
  · replace c1_0 : ¬ (x1 = 0) := jd_eqn c1_0
    refine j_V.ldL mr5_M mr5_4 rfl (i := 0) (kd := 2) (v := .ref 359) (pcJ := 5) rfl L rfl rfl rfl ?_
    refine j_V.ldL mr5_M mr5_5 rfl (i := 2) (kd := 0) (v := .int x2) (pcJ := 6) rfl L rfl rfl rfl ?_
    refine j_V.cl mr5_M mr5_6 rfl (md := 3) (mj := 170) rfl (by decide) mo1_M (As := [.ref 359, .int x2]) (rest := []) (jk_spl3 (K.at rfl) rfl rfl rfl (Nat.le_of_ble_eq_true rfl) (Nat.le_of_ble_eq_true rfl)) (fun d => mo1_ok (K.fi [359] rfl rfl)) ?_
    rintro r h9 ⟨rfl, K9⟩
    generalize ez4 : (m_gives th sst x2) = z4 at K9 ⊢
    have K : KN h9 [(359, .inl (10, [.int (z4.2.1), .ref 360, .ref 361, .ref 362, .ref 363, .ref 364, .ref 365, .ref 366, .ref 367, (u 9), .int (z4.2.2), (u 11), (u 12), .int acs, (u 14), (u 15), (u 16), (u 17), (u 18), (u 19), (u 20), (u 21), .ref 368, (u 23), .ref 369, .ref 370, .ref 371, (u 27)]))] h0 := K.mg K9 rfl rfl
    clear K9
    show j_V jP _ 239 9 lv [.int (z4.1)] h9 _
    refine j_V.gto mr5_M mr5_9 (t := 17) rfl ?_
    subst ez4
    refine j_V.ri mr5_M mr5_17 ?_
    rw [show (m_orNone th sst x1 x2) = _ from ((if_neg c1_0).trans (rfl))]
    exact ⟨rfl, K⟩
set_option maxRecDepth 100000 in
theorem ms0_M : j_meth jP 231 = some (yX10_toTheEnd, cX10_toTheEnd, 3, none, 1, false, 10) := rfl
set_option maxRecDepth 100000 in
theorem ms0_0 : j_code jP 231 0 = some (.iconst 0) := rfl
set_option maxRecDepth 100000 in
theorem ms0_1 : j_code jP 231 1 = some (.istore_n 2) := rfl
set_option maxRecDepth 100000 in
theorem ms0_2 : j_code jP 231 2 = some (.iload_n 2) := rfl
set_option maxRecDepth 100000 in
theorem ms0_3 : j_code jP 231 3 = some (.sipush 300) := rfl
set_option maxRecDepth 100000 in
theorem ms0_6 : j_code jP 231 6 = some (.if_icmp .ge 37) := rfl
set_option maxRecDepth 100000 in
theorem ms0_9 : j_code jP 231 9 = some (.aload_n 0) := rfl
set_option maxRecDepth 100000 in
theorem ms0_10 : j_code jP 231 10 = some (.iconst 3) := rfl
set_option maxRecDepth 100000 in
theorem ms0_11 : j_code jP 231 11 = some (.invokevirtual 285) := rfl
set_option maxRecDepth 100000 in
theorem ms0_14 : j_code jP 231 14 = some (.aload_n 0) := rfl
set_option maxRecDepth 100000 in
theorem ms0_15 : j_code jP 231 15 = some (.getfield 7) := rfl
set_option maxRecDepth 100000 in
theorem ms0_18 : j_code jP 231 18 = some (.sipush 203) := rfl
set_option maxRecDepth 100000 in
theorem ms0_21 : j_code jP 231 21 = some (.iaload) := rfl
set_option maxRecDepth 100000 in
theorem ms0_22 : j_code jP 231 22 = some (.if_icmp .ge 21) := rfl
set_option maxRecDepth 100000 in
theorem ms0_25 : j_code jP 231 25 = some (.aload_n 0) := rfl
set_option maxRecDepth 100000 in
theorem ms0_26 : j_code jP 231 26 = some (.invokevirtual 288) := rfl
set_option maxRecDepth 100000 in
theorem ms0_29 : j_code jP 231 29 = some (.ifCond .ne 14) := rfl
set_option maxRecDepth 100000 in
theorem ms0_32 : j_code jP 231 32 = some (.aload_n 0) := rfl
set_option maxRecDepth 100000 in
theorem ms0_33 : j_code jP 231 33 = some (.iload_n 1) := rfl
set_option maxRecDepth 100000 in
theorem ms0_34 : j_code jP 231 34 = some (.invokevirtual 291) := rfl
set_option maxRecDepth 100000 in
theorem ms0_37 : j_code jP 231 37 = some (.iinc 2 1) := rfl
set_option maxRecDepth 100000 in
theorem ms0_40 : j_code jP 231 40 = some (.goto (-38)) := rfl
set_option maxRecDepth 100000 in
theorem ms0_43 : j_code jP 231 43 = some (.return_) := rfl
def m_tte (n : Nat) (care : Int32) : Nat → List Int32 → List Int32
  | 0, w => w
  | f + 1, w => if (m_howMany w 3) < (gA w 203) then (if (m_isStuck w) = 0 then m_tte n care f (m_minute n w care) else w) else w
/-- minutes, until all are OUT or none may move; 300 at most -/
def m_toTheEnd (n : Nat) (w : List Int32) (care : Int32) : List Int32 := m_tte n care 300 w
set_option maxRecDepth 1000000 in
theorem ms0_ok_l2 {u : Nat → Value} {n d : Nat} {h0 : J_H} {x1 : Int32} {I J : List Int32 → Prop} (H : m_Inv n I J) : ∀ (f i : Nat) (w : List Int32) {ot tk : List Int32} {tm : Int32} {lv : J_L} {h : J_H}, i + f = 300 → I w → ot.length = 602 → LK lv [(0, .ref 359), (1, .int x1), (2, .int (nI i))] → KN h [(359, .inl (10, [(u 0), .ref 360, .ref 361, .ref 362, .ref 363, .ref 364, .ref 365, .ref 366, .ref 367, (u 9), (u 10), (u 11), (u 12), (u 13), (u 14), (u 15), (u 16), (u 17), (u 18), (u 19), (u 20), (u 21), .ref 368, .int tm, .ref 369, .ref 370, .ref 371, (u 27)])), (360, .inr (.inl (0, w))), (363, .inr (.inl (0, ot))), (368, .inr (.inl (0, tk)))] h0 → j_V jP d 231 2 lv [] h (fun rv h' => rv = none ∧ I (m_tte n x1 f w) ∧ ∃ (ot' tk' : List Int32) (tm' : Int32), ot'.length = 602 ∧ KN h' [(359, .inl (10, [(u 0), .ref 360, .ref 361, .ref 362, .ref 363, .ref 364, .ref 365, .ref 366, .ref 367, (u 9), (u 10), (u 11), (u 12), (u 13), (u 14), (u 15), (u 16), (u 17), (u 18), (u 19), (u 20), (u 21), .ref 368, .int tm', .ref 369, .ref 370, .ref 371, (u 27)])), (360, .inr (.inl (0, (m_tte n x1 f w)))), (363, .inr (.inl (0, ot'))), (368, .inr (.inl (0, tk')))] h0) := by
  intro f
  induction f with
  | zero =>
    intro i w ot tk tm lv h e hI ho L K
    refine j_V.ldL ms0_M ms0_2 rfl (i := 2) (kd := 0) (v := .int (nI i)) (pcJ := 3) rfl L rfl rfl rfl ?_
    refine j_V.one ms0_M ms0_3 (by decide) (pcJ := 6) (stJ := [.int 300, .int (nI i)]) rfl ?_
    refine j_V.icmp ms0_M ms0_6 (t := 43) rfl (fun c6_0 => ?_) (fun c6_0 => ?_)
    · replace c6_0 : ¬ ((nI i) < 300) := jd_ge c6_0
      refine j_V.ret ms0_M ms0_43 rfl rfl ?_
      rw [show (m_tte n x1 0 w) = w from rfl]
      exact ⟨rfl, hI, ot, tk, tm, ho, K⟩
    · replace c6_0 : (nI i) < 300 := jd_gen c6_0
      exact absurd c6_0 (by rw [show i = 300 by omega]; decide)
  | succ f ih =>
    intro i w ot tk tm lv h e hI ho L K
    refine j_V.ldL ms0_M ms0_2 rfl (i := 2) (kd := 0) (v := .int (nI i)) (pcJ := 3) rfl L rfl rfl rfl ?_
    refine j_V.one ms0_M ms0_3 (by decide) (pcJ := 6) (stJ := [.int 300, .int (nI i)]) rfl ?_
    refine j_V.icmp ms0_M ms0_6 (t := 43) rfl (fun c6_0 => ?_) (fun c6_0 => ?_)
    · replace c6_0 : ¬ ((nI i) < 300) := jd_ge c6_0
      exact absurd (show nI i < 300 by rw [show (300 : Int32) = nI 300 from rfl, nI_lt9 (by omega) (by omega)]; omega) c6_0
    · replace c6_0 : (nI i) < 300 := jd_gen c6_0
      refine j_V.ldL ms0_M ms0_9 rfl (i := 0) (kd := 2) (v := .ref 359) (pcJ := 10) rfl L rfl rfl rfl ?_
      refine j_V.one ms0_M ms0_10 (by decide) (pcJ := 11) (stJ := [.int 3, .ref 359]) rfl ?_
      refine j_V.cl ms0_M ms0_11 rfl (md := 3) (mj := 229) rfl (by decide) mc2_M (As := [.ref 359, .int 3]) (rest := []) (jk_spl3 (K.at rfl) rfl rfl rfl (Nat.le_of_ble_eq_true rfl) (Nat.le_of_ble_eq_true rfl)) (fun d => mc2_ok (u := fun j => [(u 0), .ref 360, .ref 361, .ref 362, .ref 363, .ref 364, .ref 365, .ref 366, .ref 367, (u 9), (u 10), (u 11), (u 12), (u 13), (u 14), (u 15), (u 16), (u 17), (u 18), (u 19), (u 20), (u 21), .ref 368, .int tm, .ref 369, .ref 370, .ref 371, (u 27)].getD j .null) (K.fi [359, 360] rfl rfl)) ?_
      rintro r hz ⟨rfl, ez⟩
      rw [ez]
      clear ez
      show j_V jP _ 231 14 lv [.int (m_howMany w 3)] h _
      refine j_V.ldL ms0_M ms0_14 rfl (i := 0) (kd := 2) (v := .ref 359) (pcJ := 15) rfl L rfl rfl rfl ?_
      refine j_V.getK ms0_M ms0_15 (ci := 10) (j := 1) rfl K rfl rfl ?_
      refine j_V.one ms0_M ms0_18 (by decide) (pcJ := 21) (stJ := [.int 203, .ref 360, .int (m_howMany w 3)]) rfl ?_
      refine j_V.iaA ms0_M ms0_21 K rfl ?_
      refine j_V.icmp ms0_M ms0_22 (t := 43) rfl (fun c22_0 => ?_) (fun c22_0 => ?_)
      · replace c22_0 : ¬ ((m_howMany w 3) < (gA w 203)) := jd_ge c22_0
        refine j_V.ret ms0_M ms0_43 rfl rfl ?_
        rw [show (m_tte n x1 (f + 1) w) = w from (if_neg c22_0).trans (rfl)]
        exact ⟨rfl, hI, ot, tk, tm, ho, K⟩
      · replace c22_0 : (m_howMany w 3) < (gA w 203) := jd_gen c22_0
        refine j_V.ldL ms0_M ms0_25 rfl (i := 0) (kd := 2) (v := .ref 359) (pcJ := 26) rfl L rfl rfl rfl ?_
        refine j_V.cl ms0_M ms0_26 rfl (md := 3) (mj := 220) rfl (by decide) mb7_M (As := [.ref 359]) (rest := []) (jk_spl3 (K.at rfl) rfl rfl rfl (Nat.le_of_ble_eq_true rfl) (Nat.le_of_ble_eq_true rfl)) (fun d => mb7_ok (u := fun j => [(u 0), .ref 360, .ref 361, .ref 362, .ref 363, .ref 364, .ref 365, .ref 366, .ref 367, (u 9), (u 10), (u 11), (u 12), (u 13), (u 14), (u 15), (u 16), (u 17), (u 18), (u 19), (u 20), (u 21), .ref 368, .int tm, .ref 369, .ref 370, .ref 371, (u 27)].getD j .null) (K.fi [359, 360] rfl rfl)) ?_
        rintro r hz ⟨rfl, ez⟩
        rw [ez]
        clear ez
        show j_V jP _ 231 29 lv [.int (m_isStuck w)] h _
        refine j_V.ifc ms0_M ms0_29 (t := 43) rfl (fun c29_1 => ?_) (fun c29_1 => ?_)
        · replace c29_1 : ¬ ((m_isStuck w) = 0) := jd_ne c29_1
          refine j_V.ret ms0_M ms0_43 rfl rfl ?_
          rw [show (m_tte n x1 (f + 1) w) = w from (if_pos c22_0).trans ((if_neg c29_1).trans (rfl))]
          exact ⟨rfl, hI, ot, tk, tm, ho, K⟩
        · replace c29_1 : (m_isStuck w) = 0 := jd_nen c29_1
          refine j_V.ldL ms0_M ms0_32 rfl (i := 0) (kd := 2) (v := .ref 359) (pcJ := 33) rfl L rfl rfl rfl ?_
          refine j_V.ldL ms0_M ms0_33 rfl (i := 1) (kd := 0) (v := .int x1) (pcJ := 34) rfl L rfl rfl rfl ?_
          refine j_V.cl ms0_M ms0_34 rfl (md := 3) (mj := 227) rfl (by decide) mj0_M (As := [.ref 359, .int x1]) (rest := []) (jk_spl3 (K.at rfl) rfl rfl rfl (Nat.le_of_ble_eq_true rfl) (Nat.le_of_ble_eq_true rfl)) (fun d => mj09_ok (u := fun j => [(u 0), .ref 360, .ref 361, .ref 362, .ref 363, .ref 364, .ref 365, .ref 366, .ref 367, (u 9), (u 10), (u 11), (u 12), (u 13), (u 14), (u 15), (u 16), (u 17), (u 18), (u 19), (u 20), (u 21), .ref 368, .int tm, .ref 369, .ref 370, .ref 371, (u 27)].getD j .null) H hI ho (K.fi [359, 360, 363, 368] rfl rfl)) ?_
          rintro r h9 ⟨rfl, hI1, ot1, tk1, tm1, ho1, K9⟩
          have K : KN h9 [(359, .inl (10, [(u 0), .ref 360, .ref 361, .ref 362, .ref 363, .ref 364, .ref 365, .ref 366, .ref 367, (u 9), (u 10), (u 11), (u 12), (u 13), (u 14), (u 15), (u 16), (u 17), (u 18), (u 19), (u 20), (u 21), .ref 368, .int tm1, .ref 369, .ref 370, .ref 371, (u 27)])), (360, .inr (.inl (0, (m_minute n w x1)))), (363, .inr (.inl (0, ot1))), (368, .inr (.inl (0, tk1)))] h0 := K.mg K9 rfl rfl
          clear K9
          show j_V jP _ 231 37 lv [] h9 _
          refine j_V.inL ms0_M ms0_37 (i := 2) (kl' := [(0, .ref 359), (1, .int x1), (2, .int ((nI i) + 1))]) (pcJ := 40) L rfl rfl rfl rfl (fun lv L => ?_)
          refine j_V.gto ms0_M ms0_40 (t := 2) rfl ?_
          rw [nI_one] at L
          rw [show (m_tte n x1 (f + 1) w) = (m_tte n x1 f (m_minute n w x1)) from (if_pos c22_0).trans ((if_pos c29_1).trans (rfl))]
          exact ih (i + 1) _ (by omega) hI1 ho1 L K
set_option maxRecDepth 1000000 in
theorem ms09_ok {u : Nat → Value} {n d : Nat} {h h0 : J_H} {w ot tk : List Int32} {tm x1 : Int32} {I J : List Int32 → Prop} (H : m_Inv n I J) (hI : I w) (ho : ot.length = 602) (K : KN h [(359, .inl (10, [(u 0), .ref 360, .ref 361, .ref 362, .ref 363, .ref 364, .ref 365, .ref 366, .ref 367, (u 9), (u 10), (u 11), (u 12), (u 13), (u 14), (u 15), (u 16), (u 17), (u 18), (u 19), (u 20), (u 21), .ref 368, .int tm, .ref 369, .ref 370, .ref 371, (u 27)])), (360, .inr (.inl (0, w))), (363, .inr (.inl (0, ot))), (368, .inr (.inl (0, tk)))] h0) : j_V jP d 231 0 (lv_args 0 [.ref 359, .int x1]) [] h (fun rv h' => rv = none ∧ I (m_toTheEnd n w x1) ∧ ∃ (ot' tk' : List Int32) (tm' : Int32), ot'.length = 602 ∧ KN h' [(359, .inl (10, [(u 0), .ref 360, .ref 361, .ref 362, .ref 363, .ref 364, .ref 365, .ref 366, .ref 367, (u 9), (u 10), (u 11), (u 12), (u 13), (u 14), (u 15), (u 16), (u 17), (u 18), (u 19), (u 20), (u 21), .ref 368, .int tm', .ref 369, .ref 370, .ref 371, (u 27)])), (360, .inr (.inl (0, (m_toTheEnd n w x1)))), (363, .inr (.inl (0, ot'))), (368, .inr (.inl (0, tk')))] h0) := by
  show j_V jP d 231 0 [(0, .ref 359), (1, .int x1)] [] h _
  obtain ⟨lv, elv, L⟩ : ∃ lv, lv = [(0, .ref 359), (1, .int x1)] ∧ LK lv [(0, .ref 359), (1, .int x1)] := ⟨_, rfl, LK.rf⟩
  rw [← elv]
  clear elv
  refine j_V.one ms0_M ms0_0 (by decide) (pcJ := 1) (stJ := [.int 0]) rfl ?_
  refine j_V.stL ms0_M ms0_1 rfl (i := 2) (kd := 0) (kl' := [(0, .ref 359), (1, .int x1), (2, .int 0)]) (pcJ := 2) rfl L rfl (by decide) rfl rfl rfl (fun lv L => ?_)
  exact ms0_ok_l2 H 300 0 w rfl hI ho L K
set_option maxRecDepth 100000 in
theorem mr6_M : j_meth jP 238 = some (yX10_rankOf, cX10_rankOf, 3, (some .int), 1, false, 10) := rfl
set_option maxRecDepth 100000 in
theorem mr6_0 : j_code jP 238 0 = some (.iconst 0) := rfl
set_option maxRecDepth 100000 in
theorem mr6_1 : j_code jP 238 1 = some (.istore_n 2) := rfl
set_option maxRecDepth 100000 in
theorem mr6_2 : j_code jP 238 2 = some (.aload_n 0) := rfl
set_option maxRecDepth 100000 in
theorem mr6_3 : j_code jP 238 3 = some (.getfield 7) := rfl
set_option maxRecDepth 100000 in
theorem mr6_6 : j_code jP 238 6 = some (.sipush 196) := rfl
set_option maxRecDepth 100000 in
theorem mr6_9 : j_code jP 238 9 = some (.iload_n 2) := rfl
set_option maxRecDepth 100000 in
theorem mr6_10 : j_code jP 238 10 = some (.iadd) := rfl
set_option maxRecDepth 100000 in
theorem mr6_11 : j_code jP 238 11 = some (.iaload) := rfl
set_option maxRecDepth 100000 in
theorem mr6_12 : j_code jP 238 12 = some (.iload_n 1) := rfl
set_option maxRecDepth 100000 in
theorem mr6_13 : j_code jP 238 13 = some (.if_icmp .eq 9) := rfl
set_option maxRecDepth 100000 in
theorem mr6_16 : j_code jP 238 16 = some (.iinc 2 1) := rfl
set_option maxRecDepth 100000 in
theorem mr6_19 : j_code jP 238 19 = some (.goto (-17)) := rfl
set_option maxRecDepth 100000 in
theorem mr6_22 : j_code jP 238 22 = some (.iload_n 2) := rfl
set_option maxRecDepth 100000 in
theorem mr6_23 : j_code jP 238 23 = some (.ireturn) := rfl
set_option maxRecDepth 1000000 in
theorem mr6_ok_l2 {u : Nat → Value} {w : List Int32} {x1 : Int32} {d : Nat} {h h0 : J_H} : ∀ (f : Nat) (v2 : Int32) {lv : J_L}, m_rk w x1 f v2 → LK lv [(0, .ref 359), (1, .int x1), (2, .int v2)] → KN h [(359, .inl (10, [(u 0), .ref 360, .ref 361, .ref 362, .ref 363, .ref 364, .ref 365, .ref 366, .ref 367, (u 9), (u 10), (u 11), (u 12), (u 13), (u 14), (u 15), (u 16), (u 17), (u 18), (u 19), (u 20), (u 21), .ref 368, (u 23), .ref 369, .ref 370, .ref 371, (u 27)])), (360, .inr (.inl (0, w)))] h0 → j_V jP d 238 2 lv [] h (fun rv h' => rv = some (.int (m_rkl w x1 f v2)) ∧ h' = h) := by
  intro f
  induction f with
  | zero =>
    intro v2 lv e L K
    refine j_V.ldL mr6_M mr6_2 rfl (i := 0) (kd := 2) (v := .ref 359) (pcJ := 3) rfl L rfl rfl rfl ?_
    refine j_V.getK mr6_M mr6_3 (ci := 10) (j := 1) rfl K rfl rfl ?_
    refine j_V.one mr6_M mr6_6 (by decide) (pcJ := 9) (stJ := [.int 196, .ref 360]) rfl ?_
    refine j_V.ldL mr6_M mr6_9 rfl (i := 2) (kd := 0) (v := .int v2) (pcJ := 10) rfl L rfl rfl rfl ?_
    refine j_V.one mr6_M mr6_10 (by decide) (pcJ := 11) (stJ := [.int (196 + v2), .ref 360]) rfl ?_
    refine j_V.iaA mr6_M mr6_11 K rfl ?_
    refine j_V.ldL mr6_M mr6_12 rfl (i := 1) (kd := 0) (v := .int x1) (pcJ := 13) rfl L rfl rfl rfl ?_
    refine j_V.icmp mr6_M mr6_13 (t := 22) rfl (fun c13_0 => ?_) (fun c13_0 => ?_)
    · replace c13_0 : (gA w (196 + v2)) = x1 := jd_eq c13_0
      refine j_V.ldL mr6_M mr6_22 rfl (i := 2) (kd := 0) (v := .int v2) (pcJ := 23) rfl L rfl rfl rfl ?_
      exact j_V.ri mr6_M mr6_23 ⟨congrArg (fun z => some (Value.int z)) (Eq.symm (show (m_rkl w x1 0 v2) = v2 from rfl)), rfl⟩
    · replace c13_0 : ¬ ((gA w (196 + v2)) = x1) := jd_eqn c13_0
      exact absurd e c13_0
  | succ f ih =>
    intro v2 lv e L K
    refine j_V.ldL mr6_M mr6_2 rfl (i := 0) (kd := 2) (v := .ref 359) (pcJ := 3) rfl L rfl rfl rfl ?_
    refine j_V.getK mr6_M mr6_3 (ci := 10) (j := 1) rfl K rfl rfl ?_
    refine j_V.one mr6_M mr6_6 (by decide) (pcJ := 9) (stJ := [.int 196, .ref 360]) rfl ?_
    refine j_V.ldL mr6_M mr6_9 rfl (i := 2) (kd := 0) (v := .int v2) (pcJ := 10) rfl L rfl rfl rfl ?_
    refine j_V.one mr6_M mr6_10 (by decide) (pcJ := 11) (stJ := [.int (196 + v2), .ref 360]) rfl ?_
    refine j_V.iaA mr6_M mr6_11 K rfl ?_
    refine j_V.ldL mr6_M mr6_12 rfl (i := 1) (kd := 0) (v := .int x1) (pcJ := 13) rfl L rfl rfl rfl ?_
    refine j_V.icmp mr6_M mr6_13 (t := 22) rfl (fun c13_0 => ?_) (fun c13_0 => ?_)
    · replace c13_0 : (gA w (196 + v2)) = x1 := jd_eq c13_0
      refine j_V.ldL mr6_M mr6_22 rfl (i := 2) (kd := 0) (v := .int v2) (pcJ := 23) rfl L rfl rfl rfl ?_
      exact j_V.ri mr6_M mr6_23 ⟨congrArg (fun z => some (Value.int z)) (Eq.symm (show (m_rkl w x1 (f + 1) v2) = v2 from (if_pos c13_0).trans (rfl))), rfl⟩
    · replace c13_0 : ¬ ((gA w (196 + v2)) = x1) := jd_eqn c13_0
      refine j_V.inL mr6_M mr6_16 (i := 2) (kl' := [(0, .ref 359), (1, .int x1), (2, .int (v2 + 1))]) (pcJ := 19) L rfl rfl rfl rfl (fun lv L => ?_)
      refine j_V.gto mr6_M mr6_19 (t := 2) rfl ?_
      rw [show (m_rkl w x1 (f + 1) v2) = (m_rkl w x1 f (v2 + 1)) from (if_neg c13_0).trans (rfl)]
      exact ih (v2 + 1) (e.resolve_left c13_0) L K
set_option maxRecDepth 1000000 in
theorem mr6_ok {u : Nat → Value} {w : List Int32} {x1 : Int32} {d : Nat} {h h0 : J_H} (e : m_rk w x1 4 0) (K : KN h [(359, .inl (10, [(u 0), .ref 360, .ref 361, .ref 362, .ref 363, .ref 364, .ref 365, .ref 366, .ref 367, (u 9), (u 10), (u 11), (u 12), (u 13), (u 14), (u 15), (u 16), (u 17), (u 18), (u 19), (u 20), (u 21), .ref 368, (u 23), .ref 369, .ref 370, .ref 371, (u 27)])), (360, .inr (.inl (0, w)))] h0) : j_V jP d 238 0 (lv_args 0 [.ref 359, .int x1]) [] h (fun rv h' => rv = some (.int (m_rankOf w x1)) ∧ h' = h) := by
  show j_V jP d 238 0 [(0, .ref 359), (1, .int x1)] [] h _
  obtain ⟨lv, elv, L⟩ : ∃ lv, lv = [(0, .ref 359), (1, .int x1)] ∧ LK lv [(0, .ref 359), (1, .int x1)] := ⟨_, rfl, LK.rf⟩
  rw [← elv]
  clear elv
  refine j_V.one mr6_M mr6_0 (by decide) (pcJ := 1) (stJ := [.int 0]) rfl ?_
  refine j_V.stL mr6_M mr6_1 rfl (i := 2) (kd := 0) (kl' := [(0, .ref 359), (1, .int x1), (2, .int 0)]) (pcJ := 2) rfl L rfl (by decide) rfl rfl rfl (fun lv L => ?_)
  exact mr6_ok_l2 4 0 e L K
set_option maxRecDepth 100000 in
theorem ms1_M : j_meth jP 232 = some (yX10_priceAtEnd, cX10_priceAtEnd, 1, (some .int), 0, false, 10) := rfl
set_option maxRecDepth 100000 in
theorem ms1_0 : j_code jP 232 0 = some (.aload_n 0) := rfl
set_option maxRecDepth 100000 in
theorem ms1_1 : j_code jP 232 1 = some (.iconst 1) := rfl
set_option maxRecDepth 100000 in
theorem ms1_2 : j_code jP 232 2 = some (.invokevirtual 295) := rfl
set_option maxRecDepth 100000 in
theorem ms1_5 : j_code jP 232 5 = some (.aload_n 0) := rfl
set_option maxRecDepth 100000 in
theorem ms1_6 : j_code jP 232 6 = some (.invokevirtual 298) := rfl
set_option maxRecDepth 100000 in
theorem ms1_9 : j_code jP 232 9 = some (.ireturn) := rfl
set_option maxRecDepth 1000000 in
theorem ms19_ok {u : Nat → Value} {n d : Nat} {h h0 : J_H} {w ot tk : List Int32} {tm : Int32} {I J : List Int32 → Prop} (H : m_Inv n I J) (hI : I w) (ho : ot.length = 602) (K : KN h [(359, .inl (10, [(u 0), .ref 360, .ref 361, .ref 362, .ref 363, .ref 364, .ref 365, .ref 366, .ref 367, (u 9), (u 10), (u 11), (u 12), (u 13), (u 14), (u 15), (u 16), (u 17), (u 18), (u 19), (u 20), (u 21), .ref 368, .int tm, .ref 369, .ref 370, .ref 371, (u 27)])), (360, .inr (.inl (0, w))), (363, .inr (.inl (0, ot))), (368, .inr (.inl (0, tk)))] h0) : j_V jP d 232 0 (lv_args 0 [.ref 359]) [] h (fun rv h' => rv = some (.int (m_price (m_toTheEnd n w 1))) ∧ I (m_toTheEnd n w 1) ∧ ∃ (ot' tk' : List Int32) (tm' : Int32), ot'.length = 602 ∧ KN h' [(359, .inl (10, [(u 0), .ref 360, .ref 361, .ref 362, .ref 363, .ref 364, .ref 365, .ref 366, .ref 367, (u 9), (u 10), (u 11), (u 12), (u 13), (u 14), (u 15), (u 16), (u 17), (u 18), (u 19), (u 20), (u 21), .ref 368, .int tm', .ref 369, .ref 370, .ref 371, (u 27)])), (360, .inr (.inl (0, (m_toTheEnd n w 1)))), (363, .inr (.inl (0, ot'))), (368, .inr (.inl (0, tk')))] h0) := by
  show j_V jP d 232 0 [(0, .ref 359)] [] h _
  obtain ⟨lv, elv, L⟩ : ∃ lv, lv = [(0, .ref 359)] ∧ LK lv [(0, .ref 359)] := ⟨_, rfl, LK.rf⟩
  rw [← elv]
  clear elv
  refine j_V.ldL ms1_M ms1_0 rfl (i := 0) (kd := 2) (v := .ref 359) (pcJ := 1) rfl L rfl rfl rfl ?_
  refine j_V.one ms1_M ms1_1 (by decide) (pcJ := 2) (stJ := [.int 1, .ref 359]) rfl ?_
  refine j_V.cl ms1_M ms1_2 rfl (md := 3) (mj := 231) rfl (by decide) ms0_M (As := [.ref 359, .int 1]) (rest := []) (jk_spl3 (K.at rfl) rfl rfl rfl (Nat.le_of_ble_eq_true rfl) (Nat.le_of_ble_eq_true rfl)) (fun d => ms09_ok (u := fun j => [(u 0), .ref 360, .ref 361, .ref 362, .ref 363, .ref 364, .ref 365, .ref 366, .ref 367, (u 9), (u 10), (u 11), (u 12), (u 13), (u 14), (u 15), (u 16), (u 17), (u 18), (u 19), (u 20), (u 21), .ref 368, .int tm, .ref 369, .ref 370, .ref 371, (u 27)].getD j .null) H hI ho (K.fi [359, 360, 363, 368] rfl rfl)) ?_
  rintro r h9 ⟨rfl, hI2, ot2, tk2, tm2, ho2, K9⟩
  have K : KN h9 [(359, .inl (10, [(u 0), .ref 360, .ref 361, .ref 362, .ref 363, .ref 364, .ref 365, .ref 366, .ref 367, (u 9), (u 10), (u 11), (u 12), (u 13), (u 14), (u 15), (u 16), (u 17), (u 18), (u 19), (u 20), (u 21), .ref 368, .int tm2, .ref 369, .ref 370, .ref 371, (u 27)])), (360, .inr (.inl (0, (m_toTheEnd n w 1)))), (363, .inr (.inl (0, ot2))), (368, .inr (.inl (0, tk2)))] h0 := K.mg K9 rfl rfl
  clear K9
  show j_V jP _ 232 5 lv [] h9 _
  refine j_V.ldL ms1_M ms1_5 rfl (i := 0) (kd := 2) (v := .ref 359) (pcJ := 6) rfl L rfl rfl rfl ?_
  refine j_V.cl ms1_M ms1_6 rfl (md := 3) (mj := 230) rfl (by decide) mc3_M (As := [.ref 359]) (rest := []) (jk_spl3 (K.at rfl) rfl rfl rfl (Nat.le_of_ble_eq_true rfl) (Nat.le_of_ble_eq_true rfl)) (fun d => mc3_ok (u := fun j => [(u 0), .ref 360, .ref 361, .ref 362, .ref 363, .ref 364, .ref 365, .ref 366, .ref 367, (u 9), (u 10), (u 11), (u 12), (u 13), (u 14), (u 15), (u 16), (u 17), (u 18), (u 19), (u 20), (u 21), .ref 368, .int tm2, .ref 369, .ref 370, .ref 371, (u 27)].getD j .null) (K.fi [359, 360] rfl rfl)) ?_
  rintro r hz ⟨rfl, ez⟩
  rw [ez]
  clear ez
  show j_V jP _ 232 9 lv [.int (m_price (m_toTheEnd n w 1))] h9 _
  exact j_V.ri ms1_M ms1_9 ⟨rfl, hI2, ot2, tk2, tm2, ho2, K⟩
set_option maxRecDepth 100000 in
theorem ms2_M : j_meth jP 261 = some (yX10_back, cX10_back, 2, (some .int), 1, false, 10) := rfl
set_option maxRecDepth 100000 in
theorem ms2_0 : j_code jP 261 0 = some (.aload_n 0) := rfl
set_option maxRecDepth 100000 in
theorem ms2_1 : j_code jP 261 1 = some (.getfield 16) := rfl
set_option maxRecDepth 100000 in
theorem ms2_4 : j_code jP 261 4 = some (.aload_n 0) := rfl
set_option maxRecDepth 100000 in
theorem ms2_5 : j_code jP 261 5 = some (.getfield 7) := rfl
set_option maxRecDepth 100000 in
theorem ms2_8 : j_code jP 261 8 = some (.invokestatic 188) := rfl
set_option maxRecDepth 100000 in
theorem ms2_11 : j_code jP 261 11 = some (.aload_n 0) := rfl
set_option maxRecDepth 100000 in
theorem ms2_12 : j_code jP 261 12 = some (.iload_n 1) := rfl
set_option maxRecDepth 100000 in
theorem ms2_13 : j_code jP 261 13 = some (.invokevirtual 195) := rfl
set_option maxRecDepth 100000 in
theorem ms2_16 : j_code jP 261 16 = some (.ireturn) := rfl
set_option maxRecDepth 1000000 in
theorem ms2_ok {u : Nat → Value} {d : Nat} {h h0 : J_H} {w sd : List Int32} {th sst acs tm x1 : Int32} (hw : w.length = 602) (hsd : sd.length = 602) (K : KN h [(359, .inl (10, [.int th, .ref 360, .ref 361, .ref 362, .ref 363, .ref 364, .ref 365, .ref 366, .ref 367, (u 9), .int sst, (u 11), (u 12), .int acs, (u 14), (u 15), (u 16), (u 17), (u 18), (u 19), (u 20), (u 21), .ref 368, .int tm, .ref 369, .ref 370, .ref 371, (u 27)])), (360, .inr (.inl (0, w))), (362, .inr (.inl (0, sd)))] h0) : j_V jP d 261 0 (lv_args 0 [.ref 359, .int x1]) [] h (fun rv h' => rv = some (.int (m_gives th sst x1).1) ∧ KN h' [(359, .inl (10, [.int (m_gives th sst x1).2.1, .ref 360, .ref 361, .ref 362, .ref 363, .ref 364, .ref 365, .ref 366, .ref 367, (u 9), .int (m_gives th sst x1).2.2, (u 11), (u 12), .int acs, (u 14), (u 15), (u 16), (u 17), (u 18), (u 19), (u 20), (u 21), .ref 368, .int tm, .ref 369, .ref 370, .ref 371, (u 27)])), (360, .inr (.inl (0, sd))), (362, .inr (.inl (0, sd)))] h0) := by
  show j_V jP d 261 0 [(0, .ref 359), (1, .int x1)] [] h _
  obtain ⟨lv, elv, L⟩ : ∃ lv, lv = [(0, .ref 359), (1, .int x1)] ∧ LK lv [(0, .ref 359), (1, .int x1)] := ⟨_, rfl, LK.rf⟩
  rw [← elv]
  clear elv
  refine j_V.ldL ms2_M ms2_0 rfl (i := 0) (kd := 2) (v := .ref 359) (pcJ := 1) rfl L rfl rfl rfl ?_
  refine j_V.getK ms2_M ms2_1 (ci := 10) (j := 3) rfl K rfl rfl ?_
  refine j_V.ldL ms2_M ms2_4 rfl (i := 0) (kd := 2) (v := .ref 359) (pcJ := 5) rfl L rfl rfl rfl ?_
  refine j_V.getK ms2_M ms2_5 (ci := 10) (j := 1) rfl K rfl rfl ?_
  refine j_V.cl ms2_M ms2_8 rfl (md := 2) (mj := 201) rfl (by decide) mi3_M (As := [.ref 362, .ref 360]) (rest := []) (jk_spl2 rfl rfl (Nat.le_of_ble_eq_true rfl) (Nat.le_of_ble_eq_true rfl)) (fun d => mi3_ok (K.fi [360, 362] rfl rfl)) ?_
  rintro r h9 ⟨rfl, K9⟩
  have K : KN h9 [(359, .inl (10, [.int th, .ref 360, .ref 361, .ref 362, .ref 363, .ref 364, .ref 365, .ref 366, .ref 367, (u 9), .int sst, (u 11), (u 12), .int acs, (u 14), (u 15), (u 16), (u 17), (u 18), (u 19), (u 20), (u 21), .ref 368, .int tm, .ref 369, .ref 370, .ref 371, (u 27)])), (360, .inr (.inl (0, ((m_copies sd w))))), (362, .inr (.inl (0, sd)))] h0 := K.mg K9 rfl rfl
  clear K9
  show j_V jP _ 261 11 lv [] h9 _
  rw [m_cp hsd hw] at K
  refine j_V.ldL ms2_M ms2_11 rfl (i := 0) (kd := 2) (v := .ref 359) (pcJ := 12) rfl L rfl rfl rfl ?_
  refine j_V.ldL ms2_M ms2_12 rfl (i := 1) (kd := 0) (v := .int x1) (pcJ := 13) rfl L rfl rfl rfl ?_
  refine j_V.cl ms2_M ms2_13 rfl (md := 3) (mj := 170) rfl (by decide) mo1_M (As := [.ref 359, .int x1]) (rest := []) (jk_spl3 (K.at rfl) rfl rfl rfl (Nat.le_of_ble_eq_true rfl) (Nat.le_of_ble_eq_true rfl)) (fun d => mo1_ok (u := fun j => [.int th, .ref 360, .ref 361, .ref 362, .ref 363, .ref 364, .ref 365, .ref 366, .ref 367, (u 9), .int sst, (u 11), (u 12), .int acs, (u 14), (u 15), (u 16), (u 17), (u 18), (u 19), (u 20), (u 21), .ref 368, .int tm, .ref 369, .ref 370, .ref 371, (u 27)].getD j .null) (K.fi [359] rfl rfl)) ?_
  rintro r h9 ⟨rfl, K9⟩
  have K : KN h9 [(359, .inl (10, [.int ((m_gives th sst x1).2.1), .ref 360, .ref 361, .ref 362, .ref 363, .ref 364, .ref 365, .ref 366, .ref 367, (u 9), .int ((m_gives th sst x1).2.2), (u 11), (u 12), .int acs, (u 14), (u 15), (u 16), (u 17), (u 18), (u 19), (u 20), (u 21), .ref 368, .int tm, .ref 369, .ref 370, .ref 371, (u 27)])), (360, .inr (.inl (0, sd))), (362, .inr (.inl (0, sd)))] h0 := K.mg K9 rfl rfl
  clear K9
  show j_V jP _ 261 16 lv [.int ((m_gives th sst x1).1)] h9 _
  exact j_V.ri ms2_M ms2_16 ⟨rfl, K⟩
set_option maxRecDepth 100000 in
theorem ms3_M : j_meth jP 240 = some (yX10_train, cX10_train, 4, (some .int), 2, false, 10) := rfl
set_option maxRecDepth 100000 in
theorem ms3_0 : j_code jP 240 0 = some (.iload_n 2) := rfl
set_option maxRecDepth 100000 in
theorem ms3_1 : j_code jP 240 1 = some (.iconst 0) := rfl
set_option maxRecDepth 100000 in
theorem ms3_2 : j_code jP 240 2 = some (.bipush 13) := rfl
set_option maxRecDepth 100000 in
theorem ms3_4 : j_code jP 240 4 = some (.invokestatic 61) := rfl
set_option maxRecDepth 100000 in
theorem ms3_7 : j_code jP 240 7 = some (.ifCond .ne 9) := rfl
set_option maxRecDepth 100000 in
theorem ms3_10 : j_code jP 240 10 = some (.aload_n 0) := rfl
set_option maxRecDepth 100000 in
theorem ms3_11 : j_code jP 240 11 = some (.iconst 1) := rfl
set_option maxRecDepth 100000 in
theorem ms3_12 : j_code jP 240 12 = some (.invokevirtual 179) := rfl
set_option maxRecDepth 100000 in
theorem ms3_15 : j_code jP 240 15 = some (.ireturn) := rfl
set_option maxRecDepth 100000 in
theorem ms3_16 : j_code jP 240 16 = some (.aload_n 0) := rfl
set_option maxRecDepth 100000 in
theorem ms3_17 : j_code jP 240 17 = some (.iload_n 1) := rfl
set_option maxRecDepth 100000 in
theorem ms3_18 : j_code jP 240 18 = some (.invokevirtual 310) := rfl
set_option maxRecDepth 100000 in
theorem ms3_21 : j_code jP 240 21 = some (.ifCond .ne 9) := rfl
set_option maxRecDepth 100000 in
theorem ms3_24 : j_code jP 240 24 = some (.aload_n 0) := rfl
set_option maxRecDepth 100000 in
theorem ms3_25 : j_code jP 240 25 = some (.iconst 2) := rfl
set_option maxRecDepth 100000 in
theorem ms3_26 : j_code jP 240 26 = some (.invokevirtual 179) := rfl
set_option maxRecDepth 100000 in
theorem ms3_29 : j_code jP 240 29 = some (.ireturn) := rfl
set_option maxRecDepth 100000 in
theorem ms3_30 : j_code jP 240 30 = some (.aload_n 0) := rfl
set_option maxRecDepth 100000 in
theorem ms3_31 : j_code jP 240 31 = some (.iload_n 1) := rfl
set_option maxRecDepth 100000 in
theorem ms3_32 : j_code jP 240 32 = some (.bipush 6) := rfl
set_option maxRecDepth 100000 in
theorem ms3_34 : j_code jP 240 34 = some (.invokevirtual 198) := rfl
set_option maxRecDepth 100000 in
theorem ms3_37 : j_code jP 240 37 = some (.istore_n 3) := rfl
set_option maxRecDepth 100000 in
theorem ms3_38 : j_code jP 240 38 = some (.iload_n 2) := rfl
set_option maxRecDepth 100000 in
theorem ms3_39 : j_code jP 240 39 = some (.tableswitch 185 7 13 #[41, 68, 94, 125, 135, 158, 175]) := rfl
set_option maxRecDepth 100000 in
theorem ms3_80 : j_code jP 240 80 = some (.aload_n 0) := rfl
set_option maxRecDepth 100000 in
theorem ms3_81 : j_code jP 240 81 = some (.iload_n 3) := rfl
set_option maxRecDepth 100000 in
theorem ms3_82 : j_code jP 240 82 = some (.iconst 1) := rfl
set_option maxRecDepth 100000 in
theorem ms3_83 : j_code jP 240 83 = some (.if_icmp .eq 8) := rfl
set_option maxRecDepth 100000 in
theorem ms3_86 : j_code jP 240 86 = some (.iload_n 3) := rfl
set_option maxRecDepth 100000 in
theorem ms3_87 : j_code jP 240 87 = some (.iconst 2) := rfl
set_option maxRecDepth 100000 in
theorem ms3_88 : j_code jP 240 88 = some (.if_icmp .ne 7) := rfl
set_option maxRecDepth 100000 in
theorem ms3_91 : j_code jP 240 91 = some (.iconst 1) := rfl
set_option maxRecDepth 100000 in
theorem ms3_92 : j_code jP 240 92 = some (.goto 4) := rfl
set_option maxRecDepth 100000 in
theorem ms3_95 : j_code jP 240 95 = some (.iconst 0) := rfl
set_option maxRecDepth 100000 in
theorem ms3_96 : j_code jP 240 96 = some (.aload_n 0) := rfl
set_option maxRecDepth 100000 in
theorem ms3_97 : j_code jP 240 97 = some (.iload_n 1) := rfl
set_option maxRecDepth 100000 in
theorem ms3_98 : j_code jP 240 98 = some (.bipush 7) := rfl
set_option maxRecDepth 100000 in
theorem ms3_100 : j_code jP 240 100 = some (.invokevirtual 198) := rfl
set_option maxRecDepth 100000 in
theorem ms3_103 : j_code jP 240 103 = some (.invokevirtual 313) := rfl
set_option maxRecDepth 100000 in
theorem ms3_106 : j_code jP 240 106 = some (.ireturn) := rfl
set_option maxRecDepth 100000 in
theorem ms3_107 : j_code jP 240 107 = some (.aload_n 0) := rfl
set_option maxRecDepth 100000 in
theorem ms3_108 : j_code jP 240 108 = some (.aload_n 0) := rfl
set_option maxRecDepth 100000 in
theorem ms3_109 : j_code jP 240 109 = some (.iload_n 1) := rfl
set_option maxRecDepth 100000 in
theorem ms3_110 : j_code jP 240 110 = some (.invokevirtual 207) := rfl
set_option maxRecDepth 100000 in
theorem ms3_113 : j_code jP 240 113 = some (.iconst (-1)) := rfl
set_option maxRecDepth 100000 in
theorem ms3_114 : j_code jP 240 114 = some (.if_icmp .eq 7) := rfl
set_option maxRecDepth 100000 in
theorem ms3_117 : j_code jP 240 117 = some (.iconst 1) := rfl
set_option maxRecDepth 100000 in
theorem ms3_118 : j_code jP 240 118 = some (.goto 4) := rfl
set_option maxRecDepth 100000 in
theorem ms3_121 : j_code jP 240 121 = some (.iconst 0) := rfl
set_option maxRecDepth 100000 in
theorem ms3_122 : j_code jP 240 122 = some (.aload_n 0) := rfl
set_option maxRecDepth 100000 in
theorem ms3_123 : j_code jP 240 123 = some (.iload_n 1) := rfl
set_option maxRecDepth 100000 in
theorem ms3_124 : j_code jP 240 124 = some (.bipush 8) := rfl
set_option maxRecDepth 100000 in
theorem ms3_126 : j_code jP 240 126 = some (.invokevirtual 198) := rfl
set_option maxRecDepth 100000 in
theorem ms3_129 : j_code jP 240 129 = some (.invokevirtual 313) := rfl
set_option maxRecDepth 100000 in
theorem ms3_132 : j_code jP 240 132 = some (.ireturn) := rfl
set_option maxRecDepth 100000 in
theorem ms3_133 : j_code jP 240 133 = some (.aload_n 0) := rfl
set_option maxRecDepth 100000 in
theorem ms3_134 : j_code jP 240 134 = some (.iload_n 3) := rfl
set_option maxRecDepth 100000 in
theorem ms3_135 : j_code jP 240 135 = some (.iconst 2) := rfl
set_option maxRecDepth 100000 in
theorem ms3_136 : j_code jP 240 136 = some (.if_icmp .ne 7) := rfl
set_option maxRecDepth 100000 in
theorem ms3_139 : j_code jP 240 139 = some (.iconst 1) := rfl
set_option maxRecDepth 100000 in
theorem ms3_140 : j_code jP 240 140 = some (.goto 4) := rfl
set_option maxRecDepth 100000 in
theorem ms3_143 : j_code jP 240 143 = some (.iconst 0) := rfl
set_option maxRecDepth 100000 in
theorem ms3_144 : j_code jP 240 144 = some (.aload_n 0) := rfl
set_option maxRecDepth 100000 in
theorem ms3_145 : j_code jP 240 145 = some (.iload_n 1) := rfl
set_option maxRecDepth 100000 in
theorem ms3_146 : j_code jP 240 146 = some (.bipush 9) := rfl
set_option maxRecDepth 100000 in
theorem ms3_148 : j_code jP 240 148 = some (.invokevirtual 198) := rfl
set_option maxRecDepth 100000 in
theorem ms3_151 : j_code jP 240 151 = some (.aload_n 0) := rfl
set_option maxRecDepth 100000 in
theorem ms3_152 : j_code jP 240 152 = some (.getfield 7) := rfl
set_option maxRecDepth 100000 in
theorem ms3_155 : j_code jP 240 155 = some (.sipush 201) := rfl
set_option maxRecDepth 100000 in
theorem ms3_158 : j_code jP 240 158 = some (.iaload) := rfl
set_option maxRecDepth 100000 in
theorem ms3_159 : j_code jP 240 159 = some (.isub) := rfl
set_option maxRecDepth 100000 in
theorem ms3_160 : j_code jP 240 160 = some (.invokevirtual 313) := rfl
set_option maxRecDepth 100000 in
theorem ms3_163 : j_code jP 240 163 = some (.ireturn) := rfl
set_option maxRecDepth 100000 in
theorem ms3_164 : j_code jP 240 164 = some (.aload_n 0) := rfl
set_option maxRecDepth 100000 in
theorem ms3_165 : j_code jP 240 165 = some (.aload_n 0) := rfl
set_option maxRecDepth 100000 in
theorem ms3_166 : j_code jP 240 166 = some (.iload_n 1) := rfl
set_option maxRecDepth 100000 in
theorem ms3_167 : j_code jP 240 167 = some (.invokevirtual 225) := rfl
set_option maxRecDepth 100000 in
theorem ms3_170 : j_code jP 240 170 = some (.invokevirtual 195) := rfl
set_option maxRecDepth 100000 in
theorem ms3_173 : j_code jP 240 173 = some (.ireturn) := rfl
set_option maxRecDepth 100000 in
theorem ms3_174 : j_code jP 240 174 = some (.iload_n 3) := rfl
set_option maxRecDepth 100000 in
theorem ms3_175 : j_code jP 240 175 = some (.iconst 3) := rfl
set_option maxRecDepth 100000 in
theorem ms3_176 : j_code jP 240 176 = some (.if_icmp .ne 15) := rfl
set_option maxRecDepth 100000 in
theorem ms3_179 : j_code jP 240 179 = some (.aload_n 0) := rfl
set_option maxRecDepth 100000 in
theorem ms3_180 : j_code jP 240 180 = some (.aload_n 0) := rfl
set_option maxRecDepth 100000 in
theorem ms3_181 : j_code jP 240 181 = some (.iload_n 1) := rfl
set_option maxRecDepth 100000 in
theorem ms3_182 : j_code jP 240 182 = some (.invokevirtual 282) := rfl
set_option maxRecDepth 100000 in
theorem ms3_185 : j_code jP 240 185 = some (.invokevirtual 195) := rfl
set_option maxRecDepth 100000 in
theorem ms3_188 : j_code jP 240 188 = some (.goto 8) := rfl
set_option maxRecDepth 100000 in
theorem ms3_191 : j_code jP 240 191 = some (.aload_n 0) := rfl
set_option maxRecDepth 100000 in
theorem ms3_192 : j_code jP 240 192 = some (.iconst 5) := rfl
set_option maxRecDepth 100000 in
theorem ms3_193 : j_code jP 240 193 = some (.invokevirtual 179) := rfl
set_option maxRecDepth 100000 in
theorem ms3_196 : j_code jP 240 196 = some (.ireturn) := rfl
set_option maxRecDepth 100000 in
theorem ms3_197 : j_code jP 240 197 = some (.aload_n 0) := rfl
set_option maxRecDepth 100000 in
theorem ms3_198 : j_code jP 240 198 = some (.aload_n 0) := rfl
set_option maxRecDepth 100000 in
theorem ms3_199 : j_code jP 240 199 = some (.iload_n 1) := rfl
set_option maxRecDepth 100000 in
theorem ms3_200 : j_code jP 240 200 = some (.invokevirtual 268) := rfl
set_option maxRecDepth 100000 in
theorem ms3_203 : j_code jP 240 203 = some (.aload_n 0) := rfl
set_option maxRecDepth 100000 in
theorem ms3_204 : j_code jP 240 204 = some (.iload_n 1) := rfl
set_option maxRecDepth 100000 in
theorem ms3_205 : j_code jP 240 205 = some (.bipush 10) := rfl
set_option maxRecDepth 100000 in
theorem ms3_207 : j_code jP 240 207 = some (.invokevirtual 198) := rfl
set_option maxRecDepth 100000 in
theorem ms3_210 : j_code jP 240 210 = some (.invokevirtual 313) := rfl
set_option maxRecDepth 100000 in
theorem ms3_213 : j_code jP 240 213 = some (.ireturn) := rfl
set_option maxRecDepth 100000 in
theorem ms3_214 : j_code jP 240 214 = some (.aload_n 0) := rfl
set_option maxRecDepth 100000 in
theorem ms3_215 : j_code jP 240 215 = some (.aload_n 0) := rfl
set_option maxRecDepth 100000 in
theorem ms3_216 : j_code jP 240 216 = some (.iload_n 1) := rfl
set_option maxRecDepth 100000 in
theorem ms3_217 : j_code jP 240 217 = some (.invokevirtual 317) := rfl
set_option maxRecDepth 100000 in
theorem ms3_220 : j_code jP 240 220 = some (.invokevirtual 195) := rfl
set_option maxRecDepth 100000 in
theorem ms3_223 : j_code jP 240 223 = some (.ireturn) := rfl
set_option maxRecDepth 100000 in
theorem ms3_224 : j_code jP 240 224 = some (.aload_n 0) := rfl
set_option maxRecDepth 100000 in
theorem ms3_225 : j_code jP 240 225 = some (.aload_n 0) := rfl
set_option maxRecDepth 100000 in
theorem ms3_226 : j_code jP 240 226 = some (.iload_n 1) := rfl
set_option maxRecDepth 100000 in
theorem ms3_227 : j_code jP 240 227 = some (.iload_n 2) := rfl
set_option maxRecDepth 100000 in
theorem ms3_228 : j_code jP 240 228 = some (.invokevirtual 198) := rfl
set_option maxRecDepth 100000 in
theorem ms3_231 : j_code jP 240 231 = some (.invokevirtual 195) := rfl
set_option maxRecDepth 100000 in
theorem ms3_234 : j_code jP 240 234 = some (.ireturn) := rfl
def m_qtrain (th : Int32) (sst : Int32) (w : List Int32) (x1 : Int32) (x2 : Int32) : Int32 × Int32 × Int32 := (if (m_isFrom x2 0 13) = 0 then (((m_refuse th sst 1).1), ((m_refuse th sst 1).2.1), ((m_refuse th sst 1).2.2)) else (if (m_isTrain w x1) = 0 then (((m_refuse th sst 2).1), ((m_refuse th sst 2).2.1), ((m_refuse th sst 2).2.2)) else (if x2 = 7 then (if (m_of w x1 6) = 1 then (((m_orNone th sst 1 (m_of w x1 7)).1), ((m_orNone th sst 1 (m_of w x1 7)).2.1), ((m_orNone th sst 1 (m_of w x1 7)).2.2)) else (if (m_of w x1 6) = 2 then (((m_orNone th sst 1 (m_of w x1 7)).1), ((m_orNone th sst 1 (m_of w x1 7)).2.1), ((m_orNone th sst 1 (m_of w x1 7)).2.2)) else (((m_orNone th sst 0 (m_of w x1 7)).1), ((m_orNone th sst 0 (m_of w x1 7)).2.1), ((m_orNone th sst 0 (m_of w x1 7)).2.2)))) else (if x2 = 8 then (if (m_placeOf w x1) = (-1) then (((m_orNone th sst 0 (m_of w x1 8)).1), ((m_orNone th sst 0 (m_of w x1 8)).2.1), ((m_orNone th sst 0 (m_of w x1 8)).2.2)) else (((m_orNone th sst 1 (m_of w x1 8)).1), ((m_orNone th sst 1 (m_of w x1 8)).2.1), ((m_orNone th sst 1 (m_of w x1 8)).2.2))) else (if x2 = 9 then (if (m_of w x1 6) = 2 then (((m_orNone th sst 1 ((m_of w x1 9) - (gA w 201))).1), ((m_orNone th sst 1 ((m_of w x1 9) - (gA w 201))).2.1), ((m_orNone th sst 1 ((m_of w x1 9) - (gA w 201))).2.2)) else (((m_orNone th sst 0 ((m_of w x1 9) - (gA w 201))).1), ((m_orNone th sst 0 ((m_of w x1 9) - (gA w 201))).2.1), ((m_orNone th sst 0 ((m_of w x1 9) - (gA w 201))).2.2))) else (if x2 = 10 then (((m_gives th sst (m_loneOf w x1)).1), ((m_gives th sst (m_loneOf w x1)).2.1), ((m_gives th sst (m_loneOf w x1)).2.2)) else (if x2 = 11 then (if (m_of w x1 6) = 3 then (((m_gives th sst (m_delayOf w x1)).1), ((m_gives th sst (m_delayOf w x1)).2.1), ((m_gives th sst (m_delayOf w x1)).2.2)) else (((m_refuse th sst 5).1), ((m_refuse th sst 5).2.1), ((m_refuse th sst 5).2.2))) else (if x2 = 12 then (((m_orNone th sst (m_isHeld w x1) (m_of w x1 10)).1), ((m_orNone th sst (m_isHeld w x1) (m_of w x1 10)).2.1), ((m_orNone th sst (m_isHeld w x1) (m_of w x1 10)).2.2)) else (if x2 = 13 then (((m_gives th sst (m_rankOf w x1)).1), ((m_gives th sst (m_rankOf w x1)).2.1), ((m_gives th sst (m_rankOf w x1)).2.2)) else (((m_gives th sst (m_of w x1 x2)).1), ((m_gives th sst (m_of w x1 x2)).2.1), ((m_gives th sst (m_of w x1 x2)).2.2)))))))))))
set_option maxRecDepth 1000000 in
theorem ms3_ok {u : Nat → Value} {n d : Nat} {h h0 : J_H} {th sst acs tm x1 x2 : Int32} {w sd ot kp tk od be : List Int32} {I J : List Int32 → Prop} (H : m_Inv n I J) (hI : I w) (hsd : sd.length = 602) (hot : ot.length = 602) (K : KN h [(359, .inl (10, [.int th, .ref 360, .ref 361, .ref 362, .ref 363, .ref 364, .ref 365, .ref 366, .ref 367, (u 9), .int sst, (u 11), (u 12), .int acs, (u 14), (u 15), (u 16), (u 17), (u 18), (u 19), (u 20), (u 21), .ref 368, .int tm, .ref 369, .ref 370, .ref 371, (u 27)])), (360, .inr (.inl (0, w))), (362, .inr (.inl (0, sd))), (363, .inr (.inl (0, ot))), (364, .inr (.inl (0, kp))), (368, .inr (.inl (0, tk))), (369, .inr (.inl (0, od))), (370, .inr (.inl (0, be)))] h0) : j_V jP d 240 0 (lv_args 0 [.ref 359, .int x1, .int x2]) [] h (fun rv h' => rv = some (.int (m_qtrain th sst w x1 x2).1) ∧ ∃ (sd' ot' tk' : List Int32) (tm' : Int32), sd'.length = 602 ∧ ot'.length = 602 ∧ KN h' [(359, .inl (10, [.int (m_qtrain th sst w x1 x2).2.1, .ref 360, .ref 361, .ref 362, .ref 363, .ref 364, .ref 365, .ref 366, .ref 367, (u 9), .int (m_qtrain th sst w x1 x2).2.2, (u 11), (u 12), .int acs, (u 14), (u 15), (u 16), (u 17), (u 18), (u 19), (u 20), (u 21), .ref 368, .int tm', .ref 369, .ref 370, .ref 371, (u 27)])), (360, .inr (.inl (0, w))), (362, .inr (.inl (0, sd'))), (363, .inr (.inl (0, ot'))), (364, .inr (.inl (0, kp))), (368, .inr (.inl (0, tk'))), (369, .inr (.inl (0, od))), (370, .inr (.inl (0, be)))] h0) := by
  show j_V jP d 240 0 [(0, .ref 359), (1, .int x1), (2, .int x2)] [] h _
  obtain ⟨lv, elv, L⟩ : ∃ lv, lv = [(0, .ref 359), (1, .int x1), (2, .int x2)] ∧ LK lv [(0, .ref 359), (1, .int x1), (2, .int x2)] := ⟨_, rfl, LK.rf⟩
  rw [← elv]
  clear elv
  refine j_V.ldL ms3_M ms3_0 rfl (i := 2) (kd := 0) (v := .int x2) (pcJ := 1) rfl L rfl rfl rfl ?_
  refine j_V.one ms3_M ms3_1 (by decide) (pcJ := 2) (stJ := [.int 0, .int x2]) rfl ?_
  refine j_V.one ms3_M ms3_2 (by decide) (pcJ := 4) (stJ := [.int 13, .int 0, .int x2]) rfl ?_
  refine j_V.cl ms3_M ms3_4 rfl (md := 2) (mj := 171) rfl (by decide) ma0_M (As := [.int x2, .int 0, .int 13]) (rest := []) (jk_spl2 rfl rfl (Nat.le_of_ble_eq_true rfl) (Nat.le_of_ble_eq_true rfl)) (fun d => ma0_ok (K.fi [] rfl rfl)) ?_
  rintro r hz ⟨rfl, ez⟩
  rw [ez]
  clear ez
  show j_V jP _ 240 7 lv [.int (m_isFrom x2 0 13)] h _
  refine j_V.ifc ms3_M ms3_7 (t := 16) rfl (fun c7_0 => ?_) (fun c7_0 => ?_)
  · replace c7_0 : ¬ ((m_isFrom x2 0 13) = 0) := jd_ne c7_0
    refine j_V.ldL ms3_M ms3_16 rfl (i := 0) (kd := 2) (v := .ref 359) (pcJ := 17) rfl L rfl rfl rfl ?_
    refine j_V.ldL ms3_M ms3_17 rfl (i := 1) (kd := 0) (v := .int x1) (pcJ := 18) rfl L rfl rfl rfl ?_
    refine j_V.cl ms3_M ms3_18 rfl (md := 3) (mj := 173) rfl (by decide) md0_M (As := [.ref 359, .int x1]) (rest := []) (jk_spl3 (K.at rfl) rfl rfl rfl (Nat.le_of_ble_eq_true rfl) (Nat.le_of_ble_eq_true rfl)) (fun d => md0_ok (u := fun j => [.int th, .ref 360, .ref 361, .ref 362, .ref 363, .ref 364, .ref 365, .ref 366, .ref 367, (u 9), .int sst, (u 11), (u 12), .int acs, (u 14), (u 15), (u 16), (u 17), (u 18), (u 19), (u 20), (u 21), .ref 368, .int tm, .ref 369, .ref 370, .ref 371, (u 27)].getD j .null) (K.fi [359, 360] rfl rfl)) ?_
    rintro r hz ⟨rfl, ez⟩
    rw [ez]
    clear ez
    show j_V jP _ 240 21 lv [.int (m_isTrain w x1)] h _
    refine j_V.ifc ms3_M ms3_21 (t := 30) rfl (fun c21_1 => ?_) (fun c21_1 => ?_)
    · replace c21_1 : ¬ ((m_isTrain w x1) = 0) := jd_ne c21_1
      refine j_V.ldL ms3_M ms3_30 rfl (i := 0) (kd := 2) (v := .ref 359) (pcJ := 31) rfl L rfl rfl rfl ?_
      refine j_V.ldL ms3_M ms3_31 rfl (i := 1) (kd := 0) (v := .int x1) (pcJ := 32) rfl L rfl rfl rfl ?_
      refine j_V.one ms3_M ms3_32 (by decide) (pcJ := 34) (stJ := [.int 6, .int x1, .ref 359]) rfl ?_
      refine j_V.cl ms3_M ms3_34 rfl (md := 3) (mj := 178) rfl (by decide) ma3_M (As := [.ref 359, .int x1, .int 6]) (rest := []) (jk_spl3 (K.at rfl) rfl rfl rfl (Nat.le_of_ble_eq_true rfl) (Nat.le_of_ble_eq_true rfl)) (fun d => ma3_ok (u := fun j => [.int th, .ref 360, .ref 361, .ref 362, .ref 363, .ref 364, .ref 365, .ref 366, .ref 367, (u 9), .int sst, (u 11), (u 12), .int acs, (u 14), (u 15), (u 16), (u 17), (u 18), (u 19), (u 20), (u 21), .ref 368, .int tm, .ref 369, .ref 370, .ref 371, (u 27)].getD j .null) (K.fi [359, 360] rfl rfl)) ?_
      rintro r hz ⟨rfl, ez⟩
      rw [ez]
      clear ez
      show j_V jP _ 240 37 lv [.int (m_of w x1 6)] h _
      refine j_V.stL ms3_M ms3_37 rfl (i := 3) (kd := 0) (kl' := [(0, .ref 359), (1, .int x1), (2, .int x2), (3, .int (m_of w x1 6))]) (pcJ := 38) rfl L rfl (by decide) rfl rfl rfl (fun lv L => ?_)
      refine j_V.ldL ms3_M ms3_38 rfl (i := 2) (kd := 0) (v := .int x2) (pcJ := 39) rfl L rfl rfl rfl ?_
      refine j_V.tsw ms3_M ms3_39 (fun t ht hx => ?_) (fun i off t ho ht hx => ?_)
      · obtain rfl : 224 = t := Option.some.inj (show some 224 = some t from ht)
        have s39_0 : ¬ (x2 = 7) := fun z => by rw [z] at hx; revert hx; decide
        have s39_1 : ¬ (x2 = 8) := fun z => by rw [z] at hx; revert hx; decide
        have s39_2 : ¬ (x2 = 9) := fun z => by rw [z] at hx; revert hx; decide
        have s39_3 : ¬ (x2 = 10) := fun z => by rw [z] at hx; revert hx; decide
        have s39_4 : ¬ (x2 = 11) := fun z => by rw [z] at hx; revert hx; decide
        have s39_5 : ¬ (x2 = 12) := fun z => by rw [z] at hx; revert hx; decide
        have s39_6 : ¬ (x2 = 13) := fun z => by rw [z] at hx; revert hx; decide
        refine j_V.ldL ms3_M ms3_224 rfl (i := 0) (kd := 2) (v := .ref 359) (pcJ := 225) rfl L rfl rfl rfl ?_
        refine j_V.ldL ms3_M ms3_225 rfl (i := 0) (kd := 2) (v := .ref 359) (pcJ := 226) rfl L rfl rfl rfl ?_
        refine j_V.ldL ms3_M ms3_226 rfl (i := 1) (kd := 0) (v := .int x1) (pcJ := 227) rfl L rfl rfl rfl ?_
        refine j_V.ldL ms3_M ms3_227 rfl (i := 2) (kd := 0) (v := .int x2) (pcJ := 228) rfl L rfl rfl rfl ?_
        refine j_V.cl ms3_M ms3_228 rfl (md := 3) (mj := 178) rfl (by decide) ma3_M (As := [.ref 359, .int x1, .int x2]) (rest := [.ref 359]) (jk_spl3 (K.at rfl) rfl rfl rfl (Nat.le_of_ble_eq_true rfl) (Nat.le_of_ble_eq_true rfl)) (fun d => ma3_ok (u := fun j => [.int th, .ref 360, .ref 361, .ref 362, .ref 363, .ref 364, .ref 365, .ref 366, .ref 367, (u 9), .int sst, (u 11), (u 12), .int acs, (u 14), (u 15), (u 16), (u 17), (u 18), (u 19), (u 20), (u 21), .ref 368, .int tm, .ref 369, .ref 370, .ref 371, (u 27)].getD j .null) (K.fi [359, 360] rfl rfl)) ?_
        rintro r hz ⟨rfl, ez⟩
        rw [ez]
        clear ez
        show j_V jP _ 240 231 lv [.int (m_of w x1 x2), .ref 359] h _
        refine j_V.cl ms3_M ms3_231 rfl (md := 3) (mj := 170) rfl (by decide) mo1_M (As := [.ref 359, .int (m_of w x1 x2)]) (rest := []) (jk_spl3 (K.at rfl) rfl rfl rfl (Nat.le_of_ble_eq_true rfl) (Nat.le_of_ble_eq_true rfl)) (fun d => mo1_ok (u := fun j => [.int th, .ref 360, .ref 361, .ref 362, .ref 363, .ref 364, .ref 365, .ref 366, .ref 367, (u 9), .int sst, (u 11), (u 12), .int acs, (u 14), (u 15), (u 16), (u 17), (u 18), (u 19), (u 20), (u 21), .ref 368, .int tm, .ref 369, .ref 370, .ref 371, (u 27)].getD j .null) (K.fi [359] rfl rfl)) ?_
        rintro r h9 ⟨rfl, K9⟩
        have K : KN h9 [(359, .inl (10, [.int ((m_gives th sst (m_of w x1 x2)).2.1), .ref 360, .ref 361, .ref 362, .ref 363, .ref 364, .ref 365, .ref 366, .ref 367, (u 9), .int ((m_gives th sst (m_of w x1 x2)).2.2), (u 11), (u 12), .int acs, (u 14), (u 15), (u 16), (u 17), (u 18), (u 19), (u 20), (u 21), .ref 368, .int tm, .ref 369, .ref 370, .ref 371, (u 27)])), (360, .inr (.inl (0, w))), (362, .inr (.inl (0, sd))), (363, .inr (.inl (0, ot))), (364, .inr (.inl (0, kp))), (368, .inr (.inl (0, tk))), (369, .inr (.inl (0, od))), (370, .inr (.inl (0, be)))] h0 := K.mg K9 rfl rfl
        clear K9
        show j_V jP _ 240 234 lv [.int ((m_gives th sst (m_of w x1 x2)).1)] h9 _
        refine j_V.ri ms3_M ms3_234 ?_
        rw [show (m_qtrain th sst w x1 x2) = _ from ((if_neg c7_0).trans ((if_neg c21_1).trans ((if_neg s39_0).trans ((if_neg s39_1).trans ((if_neg s39_2).trans ((if_neg s39_3).trans ((if_neg s39_4).trans ((if_neg s39_5).trans ((if_neg s39_6).trans (rfl))))))))))]
        exact ⟨rfl, sd, ot, tk, tm, hsd, hot, K⟩
      · match i, ho, hx with
        | 0, ho, hx =>
          obtain rfl := Option.some.inj (show some (41 : Int) = some off from ho)
          obtain rfl : 80 = t := Option.some.inj (show some 80 = some t from ht)
          have s39_0 : x2 = 7 := Int32.toInt_inj.mp (by rw [hx]; rfl)
          refine j_V.ldL ms3_M ms3_80 rfl (i := 0) (kd := 2) (v := .ref 359) (pcJ := 81) rfl L rfl rfl rfl ?_
          refine j_V.ldL ms3_M ms3_81 rfl (i := 3) (kd := 0) (v := .int (m_of w x1 6)) (pcJ := 82) rfl L rfl rfl rfl ?_
          refine j_V.one ms3_M ms3_82 (by decide) (pcJ := 83) (stJ := [.int 1, .int (m_of w x1 6), .ref 359]) rfl ?_
          refine j_V.icmp ms3_M ms3_83 (t := 91) rfl (fun c83_3 => ?_) (fun c83_3 => ?_)
          · replace c83_3 : (m_of w x1 6) = 1 := jd_eq c83_3
            refine j_V.one ms3_M ms3_91 (by decide) (pcJ := 92) (stJ := [.int 1, .ref 359]) rfl ?_
            refine j_V.gto ms3_M ms3_92 (t := 96) rfl ?_
            refine j_V.ldL ms3_M ms3_96 rfl (i := 0) (kd := 2) (v := .ref 359) (pcJ := 97) rfl L rfl rfl rfl ?_
            refine j_V.ldL ms3_M ms3_97 rfl (i := 1) (kd := 0) (v := .int x1) (pcJ := 98) rfl L rfl rfl rfl ?_
            refine j_V.one ms3_M ms3_98 (by decide) (pcJ := 100) (stJ := [.int 7, .int x1, .ref 359, .int 1, .ref 359]) rfl ?_
            refine j_V.cl ms3_M ms3_100 rfl (md := 3) (mj := 178) rfl (by decide) ma3_M (As := [.ref 359, .int x1, .int 7]) (rest := [.int 1, .ref 359]) (jk_spl3 (K.at rfl) rfl rfl rfl (Nat.le_of_ble_eq_true rfl) (Nat.le_of_ble_eq_true rfl)) (fun d => ma3_ok (u := fun j => [.int th, .ref 360, .ref 361, .ref 362, .ref 363, .ref 364, .ref 365, .ref 366, .ref 367, (u 9), .int sst, (u 11), (u 12), .int acs, (u 14), (u 15), (u 16), (u 17), (u 18), (u 19), (u 20), (u 21), .ref 368, .int tm, .ref 369, .ref 370, .ref 371, (u 27)].getD j .null) (K.fi [359, 360] rfl rfl)) ?_
            rintro r hz ⟨rfl, ez⟩
            rw [ez]
            clear ez
            show j_V jP _ 240 103 lv [.int (m_of w x1 7), .int 1, .ref 359] h _
            refine j_V.cl ms3_M ms3_103 rfl (md := 3) (mj := 239) rfl (by decide) mr5_M (As := [.ref 359, .int 1, .int (m_of w x1 7)]) (rest := []) (jk_spl3 (K.at rfl) rfl rfl rfl (Nat.le_of_ble_eq_true rfl) (Nat.le_of_ble_eq_true rfl)) (fun d => mr5_ok (u := fun j => [.int th, .ref 360, .ref 361, .ref 362, .ref 363, .ref 364, .ref 365, .ref 366, .ref 367, (u 9), .int sst, (u 11), (u 12), .int acs, (u 14), (u 15), (u 16), (u 17), (u 18), (u 19), (u 20), (u 21), .ref 368, .int tm, .ref 369, .ref 370, .ref 371, (u 27)].getD j .null) (K.fi [359] rfl rfl)) ?_
            rintro r h9 ⟨rfl, K9⟩
            have K : KN h9 [(359, .inl (10, [.int ((m_orNone th sst 1 (m_of w x1 7)).2.1), .ref 360, .ref 361, .ref 362, .ref 363, .ref 364, .ref 365, .ref 366, .ref 367, (u 9), .int ((m_orNone th sst 1 (m_of w x1 7)).2.2), (u 11), (u 12), .int acs, (u 14), (u 15), (u 16), (u 17), (u 18), (u 19), (u 20), (u 21), .ref 368, .int tm, .ref 369, .ref 370, .ref 371, (u 27)])), (360, .inr (.inl (0, w))), (362, .inr (.inl (0, sd))), (363, .inr (.inl (0, ot))), (364, .inr (.inl (0, kp))), (368, .inr (.inl (0, tk))), (369, .inr (.inl (0, od))), (370, .inr (.inl (0, be)))] h0 := K.mg K9 rfl rfl
            clear K9
            show j_V jP _ 240 106 lv [.int ((m_orNone th sst 1 (m_of w x1 7)).1)] h9 _
            refine j_V.ri ms3_M ms3_106 ?_
            rw [show (m_qtrain th sst w x1 x2) = _ from ((if_neg c7_0).trans ((if_neg c21_1).trans ((if_pos s39_0).trans ((if_pos c83_3).trans (rfl)))))]
            exact ⟨rfl, sd, ot, tk, tm, hsd, hot, K⟩
          · replace c83_3 : ¬ ((m_of w x1 6) = 1) := jd_eqn c83_3
            refine j_V.ldL ms3_M ms3_86 rfl (i := 3) (kd := 0) (v := .int (m_of w x1 6)) (pcJ := 87) rfl L rfl rfl rfl ?_
            refine j_V.one ms3_M ms3_87 (by decide) (pcJ := 88) (stJ := [.int 2, .int (m_of w x1 6), .ref 359]) rfl ?_
            refine j_V.icmp ms3_M ms3_88 (t := 95) rfl (fun c88_4 => ?_) (fun c88_4 => ?_)
            · replace c88_4 : ¬ ((m_of w x1 6) = 2) := jd_ne c88_4
              refine j_V.one ms3_M ms3_95 (by decide) (pcJ := 96) (stJ := [.int 0, .ref 359]) rfl ?_
              refine j_V.ldL ms3_M ms3_96 rfl (i := 0) (kd := 2) (v := .ref 359) (pcJ := 97) rfl L rfl rfl rfl ?_
              refine j_V.ldL ms3_M ms3_97 rfl (i := 1) (kd := 0) (v := .int x1) (pcJ := 98) rfl L rfl rfl rfl ?_
              refine j_V.one ms3_M ms3_98 (by decide) (pcJ := 100) (stJ := [.int 7, .int x1, .ref 359, .int 0, .ref 359]) rfl ?_
              refine j_V.cl ms3_M ms3_100 rfl (md := 3) (mj := 178) rfl (by decide) ma3_M (As := [.ref 359, .int x1, .int 7]) (rest := [.int 0, .ref 359]) (jk_spl3 (K.at rfl) rfl rfl rfl (Nat.le_of_ble_eq_true rfl) (Nat.le_of_ble_eq_true rfl)) (fun d => ma3_ok (u := fun j => [.int th, .ref 360, .ref 361, .ref 362, .ref 363, .ref 364, .ref 365, .ref 366, .ref 367, (u 9), .int sst, (u 11), (u 12), .int acs, (u 14), (u 15), (u 16), (u 17), (u 18), (u 19), (u 20), (u 21), .ref 368, .int tm, .ref 369, .ref 370, .ref 371, (u 27)].getD j .null) (K.fi [359, 360] rfl rfl)) ?_
              rintro r hz ⟨rfl, ez⟩
              rw [ez]
              clear ez
              show j_V jP _ 240 103 lv [.int (m_of w x1 7), .int 0, .ref 359] h _
              refine j_V.cl ms3_M ms3_103 rfl (md := 3) (mj := 239) rfl (by decide) mr5_M (As := [.ref 359, .int 0, .int (m_of w x1 7)]) (rest := []) (jk_spl3 (K.at rfl) rfl rfl rfl (Nat.le_of_ble_eq_true rfl) (Nat.le_of_ble_eq_true rfl)) (fun d => mr5_ok (u := fun j => [.int th, .ref 360, .ref 361, .ref 362, .ref 363, .ref 364, .ref 365, .ref 366, .ref 367, (u 9), .int sst, (u 11), (u 12), .int acs, (u 14), (u 15), (u 16), (u 17), (u 18), (u 19), (u 20), (u 21), .ref 368, .int tm, .ref 369, .ref 370, .ref 371, (u 27)].getD j .null) (K.fi [359] rfl rfl)) ?_
              rintro r h9 ⟨rfl, K9⟩
              have K : KN h9 [(359, .inl (10, [.int ((m_orNone th sst 0 (m_of w x1 7)).2.1), .ref 360, .ref 361, .ref 362, .ref 363, .ref 364, .ref 365, .ref 366, .ref 367, (u 9), .int ((m_orNone th sst 0 (m_of w x1 7)).2.2), (u 11), (u 12), .int acs, (u 14), (u 15), (u 16), (u 17), (u 18), (u 19), (u 20), (u 21), .ref 368, .int tm, .ref 369, .ref 370, .ref 371, (u 27)])), (360, .inr (.inl (0, w))), (362, .inr (.inl (0, sd))), (363, .inr (.inl (0, ot))), (364, .inr (.inl (0, kp))), (368, .inr (.inl (0, tk))), (369, .inr (.inl (0, od))), (370, .inr (.inl (0, be)))] h0 := K.mg K9 rfl rfl
              clear K9
              show j_V jP _ 240 106 lv [.int ((m_orNone th sst 0 (m_of w x1 7)).1)] h9 _
              refine j_V.ri ms3_M ms3_106 ?_
              rw [show (m_qtrain th sst w x1 x2) = _ from ((if_neg c7_0).trans ((if_neg c21_1).trans ((if_pos s39_0).trans ((if_neg c83_3).trans ((if_neg c88_4).trans (rfl))))))]
              exact ⟨rfl, sd, ot, tk, tm, hsd, hot, K⟩
            · replace c88_4 : (m_of w x1 6) = 2 := jd_nen c88_4
              refine j_V.one ms3_M ms3_91 (by decide) (pcJ := 92) (stJ := [.int 1, .ref 359]) rfl ?_
              refine j_V.gto ms3_M ms3_92 (t := 96) rfl ?_
              refine j_V.ldL ms3_M ms3_96 rfl (i := 0) (kd := 2) (v := .ref 359) (pcJ := 97) rfl L rfl rfl rfl ?_
              refine j_V.ldL ms3_M ms3_97 rfl (i := 1) (kd := 0) (v := .int x1) (pcJ := 98) rfl L rfl rfl rfl ?_
              refine j_V.one ms3_M ms3_98 (by decide) (pcJ := 100) (stJ := [.int 7, .int x1, .ref 359, .int 1, .ref 359]) rfl ?_
              refine j_V.cl ms3_M ms3_100 rfl (md := 3) (mj := 178) rfl (by decide) ma3_M (As := [.ref 359, .int x1, .int 7]) (rest := [.int 1, .ref 359]) (jk_spl3 (K.at rfl) rfl rfl rfl (Nat.le_of_ble_eq_true rfl) (Nat.le_of_ble_eq_true rfl)) (fun d => ma3_ok (u := fun j => [.int th, .ref 360, .ref 361, .ref 362, .ref 363, .ref 364, .ref 365, .ref 366, .ref 367, (u 9), .int sst, (u 11), (u 12), .int acs, (u 14), (u 15), (u 16), (u 17), (u 18), (u 19), (u 20), (u 21), .ref 368, .int tm, .ref 369, .ref 370, .ref 371, (u 27)].getD j .null) (K.fi [359, 360] rfl rfl)) ?_
              rintro r hz ⟨rfl, ez⟩
              rw [ez]
              clear ez
              show j_V jP _ 240 103 lv [.int (m_of w x1 7), .int 1, .ref 359] h _
              refine j_V.cl ms3_M ms3_103 rfl (md := 3) (mj := 239) rfl (by decide) mr5_M (As := [.ref 359, .int 1, .int (m_of w x1 7)]) (rest := []) (jk_spl3 (K.at rfl) rfl rfl rfl (Nat.le_of_ble_eq_true rfl) (Nat.le_of_ble_eq_true rfl)) (fun d => mr5_ok (u := fun j => [.int th, .ref 360, .ref 361, .ref 362, .ref 363, .ref 364, .ref 365, .ref 366, .ref 367, (u 9), .int sst, (u 11), (u 12), .int acs, (u 14), (u 15), (u 16), (u 17), (u 18), (u 19), (u 20), (u 21), .ref 368, .int tm, .ref 369, .ref 370, .ref 371, (u 27)].getD j .null) (K.fi [359] rfl rfl)) ?_
              rintro r h9 ⟨rfl, K9⟩
              have K : KN h9 [(359, .inl (10, [.int ((m_orNone th sst 1 (m_of w x1 7)).2.1), .ref 360, .ref 361, .ref 362, .ref 363, .ref 364, .ref 365, .ref 366, .ref 367, (u 9), .int ((m_orNone th sst 1 (m_of w x1 7)).2.2), (u 11), (u 12), .int acs, (u 14), (u 15), (u 16), (u 17), (u 18), (u 19), (u 20), (u 21), .ref 368, .int tm, .ref 369, .ref 370, .ref 371, (u 27)])), (360, .inr (.inl (0, w))), (362, .inr (.inl (0, sd))), (363, .inr (.inl (0, ot))), (364, .inr (.inl (0, kp))), (368, .inr (.inl (0, tk))), (369, .inr (.inl (0, od))), (370, .inr (.inl (0, be)))] h0 := K.mg K9 rfl rfl
              clear K9
              show j_V jP _ 240 106 lv [.int ((m_orNone th sst 1 (m_of w x1 7)).1)] h9 _
              refine j_V.ri ms3_M ms3_106 ?_
              rw [show (m_qtrain th sst w x1 x2) = _ from ((if_neg c7_0).trans ((if_neg c21_1).trans ((if_pos s39_0).trans ((if_neg c83_3).trans ((if_pos c88_4).trans (rfl))))))]
              exact ⟨rfl, sd, ot, tk, tm, hsd, hot, K⟩
        | 1, ho, hx =>
          obtain rfl := Option.some.inj (show some (68 : Int) = some off from ho)
          obtain rfl : 107 = t := Option.some.inj (show some 107 = some t from ht)
          have s39_1 : x2 = 8 := Int32.toInt_inj.mp (by rw [hx]; rfl)
          have s39_0 : ¬ (x2 = 7) := fun z => by rw [s39_1] at z; exact absurd z (by decide)
          refine j_V.ldL ms3_M ms3_107 rfl (i := 0) (kd := 2) (v := .ref 359) (pcJ := 108) rfl L rfl rfl rfl ?_
          refine j_V.ldL ms3_M ms3_108 rfl (i := 0) (kd := 2) (v := .ref 359) (pcJ := 109) rfl L rfl rfl rfl ?_
          refine j_V.ldL ms3_M ms3_109 rfl (i := 1) (kd := 0) (v := .int x1) (pcJ := 110) rfl L rfl rfl rfl ?_
          refine j_V.cl ms3_M ms3_110 rfl (md := 3) (mj := 205) rfl (by decide) ma6_M (As := [.ref 359, .int x1]) (rest := [.ref 359]) (jk_spl3 (K.at rfl) rfl rfl rfl (Nat.le_of_ble_eq_true rfl) (Nat.le_of_ble_eq_true rfl)) (fun d => ma6_ok (u := fun j => [.int th, .ref 360, .ref 361, .ref 362, .ref 363, .ref 364, .ref 365, .ref 366, .ref 367, (u 9), .int sst, (u 11), (u 12), .int acs, (u 14), (u 15), (u 16), (u 17), (u 18), (u 19), (u 20), (u 21), .ref 368, .int tm, .ref 369, .ref 370, .ref 371, (u 27)].getD j .null) (K.fi [359, 360] rfl rfl)) ?_
          rintro r hz ⟨rfl, ez⟩
          rw [ez]
          clear ez
          show j_V jP _ 240 113 lv [.int (m_placeOf w x1), .ref 359] h _
          refine j_V.one ms3_M ms3_113 (by decide) (pcJ := 114) (stJ := [.int (-1), .int (m_placeOf w x1), .ref 359]) rfl ?_
          refine j_V.icmp ms3_M ms3_114 (t := 121) rfl (fun c114_4 => ?_) (fun c114_4 => ?_)
          · replace c114_4 : (m_placeOf w x1) = (-1) := jd_eq c114_4
            refine j_V.one ms3_M ms3_121 (by decide) (pcJ := 122) (stJ := [.int 0, .ref 359]) rfl ?_
            refine j_V.ldL ms3_M ms3_122 rfl (i := 0) (kd := 2) (v := .ref 359) (pcJ := 123) rfl L rfl rfl rfl ?_
            refine j_V.ldL ms3_M ms3_123 rfl (i := 1) (kd := 0) (v := .int x1) (pcJ := 124) rfl L rfl rfl rfl ?_
            refine j_V.one ms3_M ms3_124 (by decide) (pcJ := 126) (stJ := [.int 8, .int x1, .ref 359, .int 0, .ref 359]) rfl ?_
            refine j_V.cl ms3_M ms3_126 rfl (md := 3) (mj := 178) rfl (by decide) ma3_M (As := [.ref 359, .int x1, .int 8]) (rest := [.int 0, .ref 359]) (jk_spl3 (K.at rfl) rfl rfl rfl (Nat.le_of_ble_eq_true rfl) (Nat.le_of_ble_eq_true rfl)) (fun d => ma3_ok (u := fun j => [.int th, .ref 360, .ref 361, .ref 362, .ref 363, .ref 364, .ref 365, .ref 366, .ref 367, (u 9), .int sst, (u 11), (u 12), .int acs, (u 14), (u 15), (u 16), (u 17), (u 18), (u 19), (u 20), (u 21), .ref 368, .int tm, .ref 369, .ref 370, .ref 371, (u 27)].getD j .null) (K.fi [359, 360] rfl rfl)) ?_
            rintro r hz ⟨rfl, ez⟩
            rw [ez]
            clear ez
            show j_V jP _ 240 129 lv [.int (m_of w x1 8), .int 0, .ref 359] h _
            refine j_V.cl ms3_M ms3_129 rfl (md := 3) (mj := 239) rfl (by decide) mr5_M (As := [.ref 359, .int 0, .int (m_of w x1 8)]) (rest := []) (jk_spl3 (K.at rfl) rfl rfl rfl (Nat.le_of_ble_eq_true rfl) (Nat.le_of_ble_eq_true rfl)) (fun d => mr5_ok (u := fun j => [.int th, .ref 360, .ref 361, .ref 362, .ref 363, .ref 364, .ref 365, .ref 366, .ref 367, (u 9), .int sst, (u 11), (u 12), .int acs, (u 14), (u 15), (u 16), (u 17), (u 18), (u 19), (u 20), (u 21), .ref 368, .int tm, .ref 369, .ref 370, .ref 371, (u 27)].getD j .null) (K.fi [359] rfl rfl)) ?_
            rintro r h9 ⟨rfl, K9⟩
            have K : KN h9 [(359, .inl (10, [.int ((m_orNone th sst 0 (m_of w x1 8)).2.1), .ref 360, .ref 361, .ref 362, .ref 363, .ref 364, .ref 365, .ref 366, .ref 367, (u 9), .int ((m_orNone th sst 0 (m_of w x1 8)).2.2), (u 11), (u 12), .int acs, (u 14), (u 15), (u 16), (u 17), (u 18), (u 19), (u 20), (u 21), .ref 368, .int tm, .ref 369, .ref 370, .ref 371, (u 27)])), (360, .inr (.inl (0, w))), (362, .inr (.inl (0, sd))), (363, .inr (.inl (0, ot))), (364, .inr (.inl (0, kp))), (368, .inr (.inl (0, tk))), (369, .inr (.inl (0, od))), (370, .inr (.inl (0, be)))] h0 := K.mg K9 rfl rfl
            clear K9
            show j_V jP _ 240 132 lv [.int ((m_orNone th sst 0 (m_of w x1 8)).1)] h9 _
            refine j_V.ri ms3_M ms3_132 ?_
            rw [show (m_qtrain th sst w x1 x2) = _ from ((if_neg c7_0).trans ((if_neg c21_1).trans ((if_neg s39_0).trans ((if_pos s39_1).trans ((if_pos c114_4).trans (rfl))))))]
            exact ⟨rfl, sd, ot, tk, tm, hsd, hot, K⟩
          · replace c114_4 : ¬ ((m_placeOf w x1) = (-1)) := jd_eqn c114_4
            refine j_V.one ms3_M ms3_117 (by decide) (pcJ := 118) (stJ := [.int 1, .ref 359]) rfl ?_
            refine j_V.gto ms3_M ms3_118 (t := 122) rfl ?_
            refine j_V.ldL ms3_M ms3_122 rfl (i := 0) (kd := 2) (v := .ref 359) (pcJ := 123) rfl L rfl rfl rfl ?_
            refine j_V.ldL ms3_M ms3_123 rfl (i := 1) (kd := 0) (v := .int x1) (pcJ := 124) rfl L rfl rfl rfl ?_
            refine j_V.one ms3_M ms3_124 (by decide) (pcJ := 126) (stJ := [.int 8, .int x1, .ref 359, .int 1, .ref 359]) rfl ?_
            refine j_V.cl ms3_M ms3_126 rfl (md := 3) (mj := 178) rfl (by decide) ma3_M (As := [.ref 359, .int x1, .int 8]) (rest := [.int 1, .ref 359]) (jk_spl3 (K.at rfl) rfl rfl rfl (Nat.le_of_ble_eq_true rfl) (Nat.le_of_ble_eq_true rfl)) (fun d => ma3_ok (u := fun j => [.int th, .ref 360, .ref 361, .ref 362, .ref 363, .ref 364, .ref 365, .ref 366, .ref 367, (u 9), .int sst, (u 11), (u 12), .int acs, (u 14), (u 15), (u 16), (u 17), (u 18), (u 19), (u 20), (u 21), .ref 368, .int tm, .ref 369, .ref 370, .ref 371, (u 27)].getD j .null) (K.fi [359, 360] rfl rfl)) ?_
            rintro r hz ⟨rfl, ez⟩
            rw [ez]
            clear ez
            show j_V jP _ 240 129 lv [.int (m_of w x1 8), .int 1, .ref 359] h _
            refine j_V.cl ms3_M ms3_129 rfl (md := 3) (mj := 239) rfl (by decide) mr5_M (As := [.ref 359, .int 1, .int (m_of w x1 8)]) (rest := []) (jk_spl3 (K.at rfl) rfl rfl rfl (Nat.le_of_ble_eq_true rfl) (Nat.le_of_ble_eq_true rfl)) (fun d => mr5_ok (u := fun j => [.int th, .ref 360, .ref 361, .ref 362, .ref 363, .ref 364, .ref 365, .ref 366, .ref 367, (u 9), .int sst, (u 11), (u 12), .int acs, (u 14), (u 15), (u 16), (u 17), (u 18), (u 19), (u 20), (u 21), .ref 368, .int tm, .ref 369, .ref 370, .ref 371, (u 27)].getD j .null) (K.fi [359] rfl rfl)) ?_
            rintro r h9 ⟨rfl, K9⟩
            have K : KN h9 [(359, .inl (10, [.int ((m_orNone th sst 1 (m_of w x1 8)).2.1), .ref 360, .ref 361, .ref 362, .ref 363, .ref 364, .ref 365, .ref 366, .ref 367, (u 9), .int ((m_orNone th sst 1 (m_of w x1 8)).2.2), (u 11), (u 12), .int acs, (u 14), (u 15), (u 16), (u 17), (u 18), (u 19), (u 20), (u 21), .ref 368, .int tm, .ref 369, .ref 370, .ref 371, (u 27)])), (360, .inr (.inl (0, w))), (362, .inr (.inl (0, sd))), (363, .inr (.inl (0, ot))), (364, .inr (.inl (0, kp))), (368, .inr (.inl (0, tk))), (369, .inr (.inl (0, od))), (370, .inr (.inl (0, be)))] h0 := K.mg K9 rfl rfl
            clear K9
            show j_V jP _ 240 132 lv [.int ((m_orNone th sst 1 (m_of w x1 8)).1)] h9 _
            refine j_V.ri ms3_M ms3_132 ?_
            rw [show (m_qtrain th sst w x1 x2) = _ from ((if_neg c7_0).trans ((if_neg c21_1).trans ((if_neg s39_0).trans ((if_pos s39_1).trans ((if_neg c114_4).trans (rfl))))))]
            exact ⟨rfl, sd, ot, tk, tm, hsd, hot, K⟩
        | 2, ho, hx =>
          obtain rfl := Option.some.inj (show some (94 : Int) = some off from ho)
          obtain rfl : 133 = t := Option.some.inj (show some 133 = some t from ht)
          have s39_2 : x2 = 9 := Int32.toInt_inj.mp (by rw [hx]; rfl)
          have s39_0 : ¬ (x2 = 7) := fun z => by rw [s39_2] at z; exact absurd z (by decide)
          have s39_1 : ¬ (x2 = 8) := fun z => by rw [s39_2] at z; exact absurd z (by decide)
          refine j_V.ldL ms3_M ms3_133 rfl (i := 0) (kd := 2) (v := .ref 359) (pcJ := 134) rfl L rfl rfl rfl ?_
          refine j_V.ldL ms3_M ms3_134 rfl (i := 3) (kd := 0) (v := .int (m_of w x1 6)) (pcJ := 135) rfl L rfl rfl rfl ?_
          refine j_V.one ms3_M ms3_135 (by decide) (pcJ := 136) (stJ := [.int 2, .int (m_of w x1 6), .ref 359]) rfl ?_
          refine j_V.icmp ms3_M ms3_136 (t := 143) rfl (fun c136_5 => ?_) (fun c136_5 => ?_)
          · replace c136_5 : ¬ ((m_of w x1 6) = 2) := jd_ne c136_5
            refine j_V.one ms3_M ms3_143 (by decide) (pcJ := 144) (stJ := [.int 0, .ref 359]) rfl ?_
            refine j_V.ldL ms3_M ms3_144 rfl (i := 0) (kd := 2) (v := .ref 359) (pcJ := 145) rfl L rfl rfl rfl ?_
            refine j_V.ldL ms3_M ms3_145 rfl (i := 1) (kd := 0) (v := .int x1) (pcJ := 146) rfl L rfl rfl rfl ?_
            refine j_V.one ms3_M ms3_146 (by decide) (pcJ := 148) (stJ := [.int 9, .int x1, .ref 359, .int 0, .ref 359]) rfl ?_
            refine j_V.cl ms3_M ms3_148 rfl (md := 3) (mj := 178) rfl (by decide) ma3_M (As := [.ref 359, .int x1, .int 9]) (rest := [.int 0, .ref 359]) (jk_spl3 (K.at rfl) rfl rfl rfl (Nat.le_of_ble_eq_true rfl) (Nat.le_of_ble_eq_true rfl)) (fun d => ma3_ok (u := fun j => [.int th, .ref 360, .ref 361, .ref 362, .ref 363, .ref 364, .ref 365, .ref 366, .ref 367, (u 9), .int sst, (u 11), (u 12), .int acs, (u 14), (u 15), (u 16), (u 17), (u 18), (u 19), (u 20), (u 21), .ref 368, .int tm, .ref 369, .ref 370, .ref 371, (u 27)].getD j .null) (K.fi [359, 360] rfl rfl)) ?_
            rintro r hz ⟨rfl, ez⟩
            rw [ez]
            clear ez
            show j_V jP _ 240 151 lv [.int (m_of w x1 9), .int 0, .ref 359] h _
            refine j_V.ldL ms3_M ms3_151 rfl (i := 0) (kd := 2) (v := .ref 359) (pcJ := 152) rfl L rfl rfl rfl ?_
            refine j_V.getK ms3_M ms3_152 (ci := 10) (j := 1) rfl K rfl rfl ?_
            refine j_V.one ms3_M ms3_155 (by decide) (pcJ := 158) (stJ := [.int 201, .ref 360, .int (m_of w x1 9), .int 0, .ref 359]) rfl ?_
            refine j_V.iaA ms3_M ms3_158 K rfl ?_
            refine j_V.one ms3_M ms3_159 (by decide) (pcJ := 160) (stJ := [.int ((m_of w x1 9) - (gA w 201)), .int 0, .ref 359]) rfl ?_
            refine j_V.cl ms3_M ms3_160 rfl (md := 3) (mj := 239) rfl (by decide) mr5_M (As := [.ref 359, .int 0, .int ((m_of w x1 9) - (gA w 201))]) (rest := []) (jk_spl3 (K.at rfl) rfl rfl rfl (Nat.le_of_ble_eq_true rfl) (Nat.le_of_ble_eq_true rfl)) (fun d => mr5_ok (u := fun j => [.int th, .ref 360, .ref 361, .ref 362, .ref 363, .ref 364, .ref 365, .ref 366, .ref 367, (u 9), .int sst, (u 11), (u 12), .int acs, (u 14), (u 15), (u 16), (u 17), (u 18), (u 19), (u 20), (u 21), .ref 368, .int tm, .ref 369, .ref 370, .ref 371, (u 27)].getD j .null) (K.fi [359] rfl rfl)) ?_
            rintro r h9 ⟨rfl, K9⟩
            have K : KN h9 [(359, .inl (10, [.int ((m_orNone th sst 0 ((m_of w x1 9) - (gA w 201))).2.1), .ref 360, .ref 361, .ref 362, .ref 363, .ref 364, .ref 365, .ref 366, .ref 367, (u 9), .int ((m_orNone th sst 0 ((m_of w x1 9) - (gA w 201))).2.2), (u 11), (u 12), .int acs, (u 14), (u 15), (u 16), (u 17), (u 18), (u 19), (u 20), (u 21), .ref 368, .int tm, .ref 369, .ref 370, .ref 371, (u 27)])), (360, .inr (.inl (0, w))), (362, .inr (.inl (0, sd))), (363, .inr (.inl (0, ot))), (364, .inr (.inl (0, kp))), (368, .inr (.inl (0, tk))), (369, .inr (.inl (0, od))), (370, .inr (.inl (0, be)))] h0 := K.mg K9 rfl rfl
            clear K9
            show j_V jP _ 240 163 lv [.int ((m_orNone th sst 0 ((m_of w x1 9) - (gA w 201))).1)] h9 _
            refine j_V.ri ms3_M ms3_163 ?_
            rw [show (m_qtrain th sst w x1 x2) = _ from ((if_neg c7_0).trans ((if_neg c21_1).trans ((if_neg s39_0).trans ((if_neg s39_1).trans ((if_pos s39_2).trans ((if_neg c136_5).trans (rfl)))))))]
            exact ⟨rfl, sd, ot, tk, tm, hsd, hot, K⟩
          · replace c136_5 : (m_of w x1 6) = 2 := jd_nen c136_5
            refine j_V.one ms3_M ms3_139 (by decide) (pcJ := 140) (stJ := [.int 1, .ref 359]) rfl ?_
            refine j_V.gto ms3_M ms3_140 (t := 144) rfl ?_
            refine j_V.ldL ms3_M ms3_144 rfl (i := 0) (kd := 2) (v := .ref 359) (pcJ := 145) rfl L rfl rfl rfl ?_
            refine j_V.ldL ms3_M ms3_145 rfl (i := 1) (kd := 0) (v := .int x1) (pcJ := 146) rfl L rfl rfl rfl ?_
            refine j_V.one ms3_M ms3_146 (by decide) (pcJ := 148) (stJ := [.int 9, .int x1, .ref 359, .int 1, .ref 359]) rfl ?_
            refine j_V.cl ms3_M ms3_148 rfl (md := 3) (mj := 178) rfl (by decide) ma3_M (As := [.ref 359, .int x1, .int 9]) (rest := [.int 1, .ref 359]) (jk_spl3 (K.at rfl) rfl rfl rfl (Nat.le_of_ble_eq_true rfl) (Nat.le_of_ble_eq_true rfl)) (fun d => ma3_ok (u := fun j => [.int th, .ref 360, .ref 361, .ref 362, .ref 363, .ref 364, .ref 365, .ref 366, .ref 367, (u 9), .int sst, (u 11), (u 12), .int acs, (u 14), (u 15), (u 16), (u 17), (u 18), (u 19), (u 20), (u 21), .ref 368, .int tm, .ref 369, .ref 370, .ref 371, (u 27)].getD j .null) (K.fi [359, 360] rfl rfl)) ?_
            rintro r hz ⟨rfl, ez⟩
            rw [ez]
            clear ez
            show j_V jP _ 240 151 lv [.int (m_of w x1 9), .int 1, .ref 359] h _
            refine j_V.ldL ms3_M ms3_151 rfl (i := 0) (kd := 2) (v := .ref 359) (pcJ := 152) rfl L rfl rfl rfl ?_
            refine j_V.getK ms3_M ms3_152 (ci := 10) (j := 1) rfl K rfl rfl ?_
            refine j_V.one ms3_M ms3_155 (by decide) (pcJ := 158) (stJ := [.int 201, .ref 360, .int (m_of w x1 9), .int 1, .ref 359]) rfl ?_
            refine j_V.iaA ms3_M ms3_158 K rfl ?_
            refine j_V.one ms3_M ms3_159 (by decide) (pcJ := 160) (stJ := [.int ((m_of w x1 9) - (gA w 201)), .int 1, .ref 359]) rfl ?_
            refine j_V.cl ms3_M ms3_160 rfl (md := 3) (mj := 239) rfl (by decide) mr5_M (As := [.ref 359, .int 1, .int ((m_of w x1 9) - (gA w 201))]) (rest := []) (jk_spl3 (K.at rfl) rfl rfl rfl (Nat.le_of_ble_eq_true rfl) (Nat.le_of_ble_eq_true rfl)) (fun d => mr5_ok (u := fun j => [.int th, .ref 360, .ref 361, .ref 362, .ref 363, .ref 364, .ref 365, .ref 366, .ref 367, (u 9), .int sst, (u 11), (u 12), .int acs, (u 14), (u 15), (u 16), (u 17), (u 18), (u 19), (u 20), (u 21), .ref 368, .int tm, .ref 369, .ref 370, .ref 371, (u 27)].getD j .null) (K.fi [359] rfl rfl)) ?_
            rintro r h9 ⟨rfl, K9⟩
            have K : KN h9 [(359, .inl (10, [.int ((m_orNone th sst 1 ((m_of w x1 9) - (gA w 201))).2.1), .ref 360, .ref 361, .ref 362, .ref 363, .ref 364, .ref 365, .ref 366, .ref 367, (u 9), .int ((m_orNone th sst 1 ((m_of w x1 9) - (gA w 201))).2.2), (u 11), (u 12), .int acs, (u 14), (u 15), (u 16), (u 17), (u 18), (u 19), (u 20), (u 21), .ref 368, .int tm, .ref 369, .ref 370, .ref 371, (u 27)])), (360, .inr (.inl (0, w))), (362, .inr (.inl (0, sd))), (363, .inr (.inl (0, ot))), (364, .inr (.inl (0, kp))), (368, .inr (.inl (0, tk))), (369, .inr (.inl (0, od))), (370, .inr (.inl (0, be)))] h0 := K.mg K9 rfl rfl
            clear K9
            show j_V jP _ 240 163 lv [.int ((m_orNone th sst 1 ((m_of w x1 9) - (gA w 201))).1)] h9 _
            refine j_V.ri ms3_M ms3_163 ?_
            rw [show (m_qtrain th sst w x1 x2) = _ from ((if_neg c7_0).trans ((if_neg c21_1).trans ((if_neg s39_0).trans ((if_neg s39_1).trans ((if_pos s39_2).trans ((if_pos c136_5).trans (rfl)))))))]
            exact ⟨rfl, sd, ot, tk, tm, hsd, hot, K⟩
        | 3, ho, hx =>
          obtain rfl := Option.some.inj (show some (125 : Int) = some off from ho)
          obtain rfl : 164 = t := Option.some.inj (show some 164 = some t from ht)
          have s39_3 : x2 = 10 := Int32.toInt_inj.mp (by rw [hx]; rfl)
          have s39_0 : ¬ (x2 = 7) := fun z => by rw [s39_3] at z; exact absurd z (by decide)
          have s39_1 : ¬ (x2 = 8) := fun z => by rw [s39_3] at z; exact absurd z (by decide)
          have s39_2 : ¬ (x2 = 9) := fun z => by rw [s39_3] at z; exact absurd z (by decide)
          refine j_V.ldL ms3_M ms3_164 rfl (i := 0) (kd := 2) (v := .ref 359) (pcJ := 165) rfl L rfl rfl rfl ?_
          refine j_V.ldL ms3_M ms3_165 rfl (i := 0) (kd := 2) (v := .ref 359) (pcJ := 166) rfl L rfl rfl rfl ?_
          refine j_V.ldL ms3_M ms3_166 rfl (i := 1) (kd := 0) (v := .int x1) (pcJ := 167) rfl L rfl rfl rfl ?_
          refine j_V.cl ms3_M ms3_167 rfl (md := 3) (mj := 212) rfl (by decide) mb3_M (As := [.ref 359, .int x1]) (rest := [.ref 359]) (jk_spl3 (K.at rfl) rfl rfl rfl (Nat.le_of_ble_eq_true rfl) (Nat.le_of_ble_eq_true rfl)) (fun d => mb3_ok (u := fun j => [.int th, .ref 360, .ref 361, .ref 362, .ref 363, .ref 364, .ref 365, .ref 366, .ref 367, (u 9), .int sst, (u 11), (u 12), .int acs, (u 14), (u 15), (u 16), (u 17), (u 18), (u 19), (u 20), (u 21), .ref 368, .int tm, .ref 369, .ref 370, .ref 371, (u 27)].getD j .null) (K.fi [359, 360] rfl rfl)) ?_
          rintro r hz ⟨rfl, ez⟩
          rw [ez]
          clear ez
          show j_V jP _ 240 170 lv [.int (m_loneOf w x1), .ref 359] h _
          refine j_V.cl ms3_M ms3_170 rfl (md := 3) (mj := 170) rfl (by decide) mo1_M (As := [.ref 359, .int (m_loneOf w x1)]) (rest := []) (jk_spl3 (K.at rfl) rfl rfl rfl (Nat.le_of_ble_eq_true rfl) (Nat.le_of_ble_eq_true rfl)) (fun d => mo1_ok (u := fun j => [.int th, .ref 360, .ref 361, .ref 362, .ref 363, .ref 364, .ref 365, .ref 366, .ref 367, (u 9), .int sst, (u 11), (u 12), .int acs, (u 14), (u 15), (u 16), (u 17), (u 18), (u 19), (u 20), (u 21), .ref 368, .int tm, .ref 369, .ref 370, .ref 371, (u 27)].getD j .null) (K.fi [359] rfl rfl)) ?_
          rintro r h9 ⟨rfl, K9⟩
          have K : KN h9 [(359, .inl (10, [.int ((m_gives th sst (m_loneOf w x1)).2.1), .ref 360, .ref 361, .ref 362, .ref 363, .ref 364, .ref 365, .ref 366, .ref 367, (u 9), .int ((m_gives th sst (m_loneOf w x1)).2.2), (u 11), (u 12), .int acs, (u 14), (u 15), (u 16), (u 17), (u 18), (u 19), (u 20), (u 21), .ref 368, .int tm, .ref 369, .ref 370, .ref 371, (u 27)])), (360, .inr (.inl (0, w))), (362, .inr (.inl (0, sd))), (363, .inr (.inl (0, ot))), (364, .inr (.inl (0, kp))), (368, .inr (.inl (0, tk))), (369, .inr (.inl (0, od))), (370, .inr (.inl (0, be)))] h0 := K.mg K9 rfl rfl
          clear K9
          show j_V jP _ 240 173 lv [.int ((m_gives th sst (m_loneOf w x1)).1)] h9 _
          refine j_V.ri ms3_M ms3_173 ?_
          rw [show (m_qtrain th sst w x1 x2) = _ from ((if_neg c7_0).trans ((if_neg c21_1).trans ((if_neg s39_0).trans ((if_neg s39_1).trans ((if_neg s39_2).trans ((if_pos s39_3).trans (rfl)))))))]
          exact ⟨rfl, sd, ot, tk, tm, hsd, hot, K⟩
        | 4, ho, hx =>
          obtain rfl := Option.some.inj (show some (135 : Int) = some off from ho)
          obtain rfl : 174 = t := Option.some.inj (show some 174 = some t from ht)
          have s39_4 : x2 = 11 := Int32.toInt_inj.mp (by rw [hx]; rfl)
          have s39_0 : ¬ (x2 = 7) := fun z => by rw [s39_4] at z; exact absurd z (by decide)
          have s39_1 : ¬ (x2 = 8) := fun z => by rw [s39_4] at z; exact absurd z (by decide)
          have s39_2 : ¬ (x2 = 9) := fun z => by rw [s39_4] at z; exact absurd z (by decide)
          have s39_3 : ¬ (x2 = 10) := fun z => by rw [s39_4] at z; exact absurd z (by decide)
          refine j_V.ldL ms3_M ms3_174 rfl (i := 3) (kd := 0) (v := .int (m_of w x1 6)) (pcJ := 175) rfl L rfl rfl rfl ?_
          refine j_V.one ms3_M ms3_175 (by decide) (pcJ := 176) (stJ := [.int 3, .int (m_of w x1 6)]) rfl ?_
          refine j_V.icmp ms3_M ms3_176 (t := 191) rfl (fun c176_7 => ?_) (fun c176_7 => ?_)
          · replace c176_7 : ¬ ((m_of w x1 6) = 3) := jd_ne c176_7
            refine j_V.ldL ms3_M ms3_191 rfl (i := 0) (kd := 2) (v := .ref 359) (pcJ := 192) rfl L rfl rfl rfl ?_
            refine j_V.one ms3_M ms3_192 (by decide) (pcJ := 193) (stJ := [.int 5, .ref 359]) rfl ?_
            refine j_V.cl ms3_M ms3_193 rfl (md := 3) (mj := 169) rfl (by decide) mo0_M (As := [.ref 359, .int 5]) (rest := []) (jk_spl3 (K.at rfl) rfl rfl rfl (Nat.le_of_ble_eq_true rfl) (Nat.le_of_ble_eq_true rfl)) (fun d => mo0_ok (u := fun j => [.int th, .ref 360, .ref 361, .ref 362, .ref 363, .ref 364, .ref 365, .ref 366, .ref 367, (u 9), .int sst, (u 11), (u 12), .int acs, (u 14), (u 15), (u 16), (u 17), (u 18), (u 19), (u 20), (u 21), .ref 368, .int tm, .ref 369, .ref 370, .ref 371, (u 27)].getD j .null) (K.fi [359] rfl rfl)) ?_
            rintro r h9 ⟨rfl, K9⟩
            have K : KN h9 [(359, .inl (10, [.int ((m_refuse th sst 5).2.1), .ref 360, .ref 361, .ref 362, .ref 363, .ref 364, .ref 365, .ref 366, .ref 367, (u 9), .int ((m_refuse th sst 5).2.2), (u 11), (u 12), .int acs, (u 14), (u 15), (u 16), (u 17), (u 18), (u 19), (u 20), (u 21), .ref 368, .int tm, .ref 369, .ref 370, .ref 371, (u 27)])), (360, .inr (.inl (0, w))), (362, .inr (.inl (0, sd))), (363, .inr (.inl (0, ot))), (364, .inr (.inl (0, kp))), (368, .inr (.inl (0, tk))), (369, .inr (.inl (0, od))), (370, .inr (.inl (0, be)))] h0 := K.mg K9 rfl rfl
            clear K9
            show j_V jP _ 240 196 lv [.int ((m_refuse th sst 5).1)] h9 _
            refine j_V.ri ms3_M ms3_196 ?_
            rw [show (m_qtrain th sst w x1 x2) = _ from ((if_neg c7_0).trans ((if_neg c21_1).trans ((if_neg s39_0).trans ((if_neg s39_1).trans ((if_neg s39_2).trans ((if_neg s39_3).trans ((if_pos s39_4).trans ((if_neg c176_7).trans (rfl)))))))))]
            exact ⟨rfl, sd, ot, tk, tm, hsd, hot, K⟩
          · replace c176_7 : (m_of w x1 6) = 3 := jd_nen c176_7
            refine j_V.ldL ms3_M ms3_179 rfl (i := 0) (kd := 2) (v := .ref 359) (pcJ := 180) rfl L rfl rfl rfl ?_
            refine j_V.ldL ms3_M ms3_180 rfl (i := 0) (kd := 2) (v := .ref 359) (pcJ := 181) rfl L rfl rfl rfl ?_
            refine j_V.ldL ms3_M ms3_181 rfl (i := 1) (kd := 0) (v := .int x1) (pcJ := 182) rfl L rfl rfl rfl ?_
            refine j_V.cl ms3_M ms3_182 rfl (md := 3) (mj := 213) rfl (by decide) mb4_M (As := [.ref 359, .int x1]) (rest := [.ref 359]) (jk_spl3 (K.at rfl) rfl rfl rfl (Nat.le_of_ble_eq_true rfl) (Nat.le_of_ble_eq_true rfl)) (fun d => mb4_ok (u := fun j => [.int th, .ref 360, .ref 361, .ref 362, .ref 363, .ref 364, .ref 365, .ref 366, .ref 367, (u 9), .int sst, (u 11), (u 12), .int acs, (u 14), (u 15), (u 16), (u 17), (u 18), (u 19), (u 20), (u 21), .ref 368, .int tm, .ref 369, .ref 370, .ref 371, (u 27)].getD j .null) (K.fi [359, 360] rfl rfl)) ?_
            rintro r hz ⟨rfl, ez⟩
            rw [ez]
            clear ez
            show j_V jP _ 240 185 lv [.int (m_delayOf w x1), .ref 359] h _
            refine j_V.cl ms3_M ms3_185 rfl (md := 3) (mj := 170) rfl (by decide) mo1_M (As := [.ref 359, .int (m_delayOf w x1)]) (rest := []) (jk_spl3 (K.at rfl) rfl rfl rfl (Nat.le_of_ble_eq_true rfl) (Nat.le_of_ble_eq_true rfl)) (fun d => mo1_ok (u := fun j => [.int th, .ref 360, .ref 361, .ref 362, .ref 363, .ref 364, .ref 365, .ref 366, .ref 367, (u 9), .int sst, (u 11), (u 12), .int acs, (u 14), (u 15), (u 16), (u 17), (u 18), (u 19), (u 20), (u 21), .ref 368, .int tm, .ref 369, .ref 370, .ref 371, (u 27)].getD j .null) (K.fi [359] rfl rfl)) ?_
            rintro r h9 ⟨rfl, K9⟩
            have K : KN h9 [(359, .inl (10, [.int ((m_gives th sst (m_delayOf w x1)).2.1), .ref 360, .ref 361, .ref 362, .ref 363, .ref 364, .ref 365, .ref 366, .ref 367, (u 9), .int ((m_gives th sst (m_delayOf w x1)).2.2), (u 11), (u 12), .int acs, (u 14), (u 15), (u 16), (u 17), (u 18), (u 19), (u 20), (u 21), .ref 368, .int tm, .ref 369, .ref 370, .ref 371, (u 27)])), (360, .inr (.inl (0, w))), (362, .inr (.inl (0, sd))), (363, .inr (.inl (0, ot))), (364, .inr (.inl (0, kp))), (368, .inr (.inl (0, tk))), (369, .inr (.inl (0, od))), (370, .inr (.inl (0, be)))] h0 := K.mg K9 rfl rfl
            clear K9
            show j_V jP _ 240 188 lv [.int ((m_gives th sst (m_delayOf w x1)).1)] h9 _
            refine j_V.gto ms3_M ms3_188 (t := 196) rfl ?_
            refine j_V.ri ms3_M ms3_196 ?_
            rw [show (m_qtrain th sst w x1 x2) = _ from ((if_neg c7_0).trans ((if_neg c21_1).trans ((if_neg s39_0).trans ((if_neg s39_1).trans ((if_neg s39_2).trans ((if_neg s39_3).trans ((if_pos s39_4).trans ((if_pos c176_7).trans (rfl)))))))))]
            exact ⟨rfl, sd, ot, tk, tm, hsd, hot, K⟩
        | 5, ho, hx =>
          obtain rfl := Option.some.inj (show some (158 : Int) = some off from ho)
          obtain rfl : 197 = t := Option.some.inj (show some 197 = some t from ht)
          have s39_5 : x2 = 12 := Int32.toInt_inj.mp (by rw [hx]; rfl)
          have s39_0 : ¬ (x2 = 7) := fun z => by rw [s39_5] at z; exact absurd z (by decide)
          have s39_1 : ¬ (x2 = 8) := fun z => by rw [s39_5] at z; exact absurd z (by decide)
          have s39_2 : ¬ (x2 = 9) := fun z => by rw [s39_5] at z; exact absurd z (by decide)
          have s39_3 : ¬ (x2 = 10) := fun z => by rw [s39_5] at z; exact absurd z (by decide)
          have s39_4 : ¬ (x2 = 11) := fun z => by rw [s39_5] at z; exact absurd z (by decide)
          refine j_V.ldL ms3_M ms3_197 rfl (i := 0) (kd := 2) (v := .ref 359) (pcJ := 198) rfl L rfl rfl rfl ?_
          refine j_V.ldL ms3_M ms3_198 rfl (i := 0) (kd := 2) (v := .ref 359) (pcJ := 199) rfl L rfl rfl rfl ?_
          refine j_V.ldL ms3_M ms3_199 rfl (i := 1) (kd := 0) (v := .int x1) (pcJ := 200) rfl L rfl rfl rfl ?_
          refine j_V.cl ms3_M ms3_200 rfl (md := 3) (mj := 221) rfl (by decide) mb8_M (As := [.ref 359, .int x1]) (rest := [.ref 359]) (jk_spl3 (K.at rfl) rfl rfl rfl (Nat.le_of_ble_eq_true rfl) (Nat.le_of_ble_eq_true rfl)) (fun d => mb8_ok (u := fun j => [.int th, .ref 360, .ref 361, .ref 362, .ref 363, .ref 364, .ref 365, .ref 366, .ref 367, (u 9), .int sst, (u 11), (u 12), .int acs, (u 14), (u 15), (u 16), (u 17), (u 18), (u 19), (u 20), (u 21), .ref 368, .int tm, .ref 369, .ref 370, .ref 371, (u 27)].getD j .null) (K.fi [359, 360] rfl rfl)) ?_
          rintro r hz ⟨rfl, ez⟩
          rw [ez]
          clear ez
          show j_V jP _ 240 203 lv [.int (m_isHeld w x1), .ref 359] h _
          refine j_V.ldL ms3_M ms3_203 rfl (i := 0) (kd := 2) (v := .ref 359) (pcJ := 204) rfl L rfl rfl rfl ?_
          refine j_V.ldL ms3_M ms3_204 rfl (i := 1) (kd := 0) (v := .int x1) (pcJ := 205) rfl L rfl rfl rfl ?_
          refine j_V.one ms3_M ms3_205 (by decide) (pcJ := 207) (stJ := [.int 10, .int x1, .ref 359, .int (m_isHeld w x1), .ref 359]) rfl ?_
          refine j_V.cl ms3_M ms3_207 rfl (md := 3) (mj := 178) rfl (by decide) ma3_M (As := [.ref 359, .int x1, .int 10]) (rest := [.int (m_isHeld w x1), .ref 359]) (jk_spl3 (K.at rfl) rfl rfl rfl (Nat.le_of_ble_eq_true rfl) (Nat.le_of_ble_eq_true rfl)) (fun d => ma3_ok (u := fun j => [.int th, .ref 360, .ref 361, .ref 362, .ref 363, .ref 364, .ref 365, .ref 366, .ref 367, (u 9), .int sst, (u 11), (u 12), .int acs, (u 14), (u 15), (u 16), (u 17), (u 18), (u 19), (u 20), (u 21), .ref 368, .int tm, .ref 369, .ref 370, .ref 371, (u 27)].getD j .null) (K.fi [359, 360] rfl rfl)) ?_
          rintro r hz ⟨rfl, ez⟩
          rw [ez]
          clear ez
          show j_V jP _ 240 210 lv [.int (m_of w x1 10), .int (m_isHeld w x1), .ref 359] h _
          refine j_V.cl ms3_M ms3_210 rfl (md := 3) (mj := 239) rfl (by decide) mr5_M (As := [.ref 359, .int (m_isHeld w x1), .int (m_of w x1 10)]) (rest := []) (jk_spl3 (K.at rfl) rfl rfl rfl (Nat.le_of_ble_eq_true rfl) (Nat.le_of_ble_eq_true rfl)) (fun d => mr5_ok (u := fun j => [.int th, .ref 360, .ref 361, .ref 362, .ref 363, .ref 364, .ref 365, .ref 366, .ref 367, (u 9), .int sst, (u 11), (u 12), .int acs, (u 14), (u 15), (u 16), (u 17), (u 18), (u 19), (u 20), (u 21), .ref 368, .int tm, .ref 369, .ref 370, .ref 371, (u 27)].getD j .null) (K.fi [359] rfl rfl)) ?_
          rintro r h9 ⟨rfl, K9⟩
          have K : KN h9 [(359, .inl (10, [.int ((m_orNone th sst (m_isHeld w x1) (m_of w x1 10)).2.1), .ref 360, .ref 361, .ref 362, .ref 363, .ref 364, .ref 365, .ref 366, .ref 367, (u 9), .int ((m_orNone th sst (m_isHeld w x1) (m_of w x1 10)).2.2), (u 11), (u 12), .int acs, (u 14), (u 15), (u 16), (u 17), (u 18), (u 19), (u 20), (u 21), .ref 368, .int tm, .ref 369, .ref 370, .ref 371, (u 27)])), (360, .inr (.inl (0, w))), (362, .inr (.inl (0, sd))), (363, .inr (.inl (0, ot))), (364, .inr (.inl (0, kp))), (368, .inr (.inl (0, tk))), (369, .inr (.inl (0, od))), (370, .inr (.inl (0, be)))] h0 := K.mg K9 rfl rfl
          clear K9
          show j_V jP _ 240 213 lv [.int ((m_orNone th sst (m_isHeld w x1) (m_of w x1 10)).1)] h9 _
          refine j_V.ri ms3_M ms3_213 ?_
          rw [show (m_qtrain th sst w x1 x2) = _ from ((if_neg c7_0).trans ((if_neg c21_1).trans ((if_neg s39_0).trans ((if_neg s39_1).trans ((if_neg s39_2).trans ((if_neg s39_3).trans ((if_neg s39_4).trans ((if_pos s39_5).trans (rfl)))))))))]
          exact ⟨rfl, sd, ot, tk, tm, hsd, hot, K⟩
        | 6, ho, hx =>
          obtain rfl := Option.some.inj (show some (175 : Int) = some off from ho)
          obtain rfl : 214 = t := Option.some.inj (show some 214 = some t from ht)
          have s39_6 : x2 = 13 := Int32.toInt_inj.mp (by rw [hx]; rfl)
          have s39_0 : ¬ (x2 = 7) := fun z => by rw [s39_6] at z; exact absurd z (by decide)
          have s39_1 : ¬ (x2 = 8) := fun z => by rw [s39_6] at z; exact absurd z (by decide)
          have s39_2 : ¬ (x2 = 9) := fun z => by rw [s39_6] at z; exact absurd z (by decide)
          have s39_3 : ¬ (x2 = 10) := fun z => by rw [s39_6] at z; exact absurd z (by decide)
          have s39_4 : ¬ (x2 = 11) := fun z => by rw [s39_6] at z; exact absurd z (by decide)
          have s39_5 : ¬ (x2 = 12) := fun z => by rw [s39_6] at z; exact absurd z (by decide)
          refine j_V.ldL ms3_M ms3_214 rfl (i := 0) (kd := 2) (v := .ref 359) (pcJ := 215) rfl L rfl rfl rfl ?_
          refine j_V.ldL ms3_M ms3_215 rfl (i := 0) (kd := 2) (v := .ref 359) (pcJ := 216) rfl L rfl rfl rfl ?_
          refine j_V.ldL ms3_M ms3_216 rfl (i := 1) (kd := 0) (v := .int x1) (pcJ := 217) rfl L rfl rfl rfl ?_
          refine j_V.cl ms3_M ms3_217 rfl (md := 3) (mj := 238) rfl (by decide) mr6_M (As := [.ref 359, .int x1]) (rest := [.ref 359]) (jk_spl3 (K.at rfl) rfl rfl rfl (Nat.le_of_ble_eq_true rfl) (Nat.le_of_ble_eq_true rfl)) (fun d => mr6_ok (u := fun j => [.int th, .ref 360, .ref 361, .ref 362, .ref 363, .ref 364, .ref 365, .ref 366, .ref 367, (u 9), .int sst, (u 11), (u 12), .int acs, (u 14), (u 15), (u 16), (u 17), (u 18), (u 19), (u 20), (u 21), .ref 368, .int tm, .ref 369, .ref 370, .ref 371, (u 27)].getD j .null) (H.RK _ _ hI c21_1) (K.fi [359, 360] rfl rfl)) ?_
          rintro r hz ⟨rfl, ez⟩
          rw [ez]
          clear ez
          show j_V jP _ 240 220 lv [.int (m_rankOf w x1), .ref 359] h _
          refine j_V.cl ms3_M ms3_220 rfl (md := 3) (mj := 170) rfl (by decide) mo1_M (As := [.ref 359, .int (m_rankOf w x1)]) (rest := []) (jk_spl3 (K.at rfl) rfl rfl rfl (Nat.le_of_ble_eq_true rfl) (Nat.le_of_ble_eq_true rfl)) (fun d => mo1_ok (u := fun j => [.int th, .ref 360, .ref 361, .ref 362, .ref 363, .ref 364, .ref 365, .ref 366, .ref 367, (u 9), .int sst, (u 11), (u 12), .int acs, (u 14), (u 15), (u 16), (u 17), (u 18), (u 19), (u 20), (u 21), .ref 368, .int tm, .ref 369, .ref 370, .ref 371, (u 27)].getD j .null) (K.fi [359] rfl rfl)) ?_
          rintro r h9 ⟨rfl, K9⟩
          have K : KN h9 [(359, .inl (10, [.int ((m_gives th sst (m_rankOf w x1)).2.1), .ref 360, .ref 361, .ref 362, .ref 363, .ref 364, .ref 365, .ref 366, .ref 367, (u 9), .int ((m_gives th sst (m_rankOf w x1)).2.2), (u 11), (u 12), .int acs, (u 14), (u 15), (u 16), (u 17), (u 18), (u 19), (u 20), (u 21), .ref 368, .int tm, .ref 369, .ref 370, .ref 371, (u 27)])), (360, .inr (.inl (0, w))), (362, .inr (.inl (0, sd))), (363, .inr (.inl (0, ot))), (364, .inr (.inl (0, kp))), (368, .inr (.inl (0, tk))), (369, .inr (.inl (0, od))), (370, .inr (.inl (0, be)))] h0 := K.mg K9 rfl rfl
          clear K9
          show j_V jP _ 240 223 lv [.int ((m_gives th sst (m_rankOf w x1)).1)] h9 _
          refine j_V.ri ms3_M ms3_223 ?_
          rw [show (m_qtrain th sst w x1 x2) = _ from ((if_neg c7_0).trans ((if_neg c21_1).trans ((if_neg s39_0).trans ((if_neg s39_1).trans ((if_neg s39_2).trans ((if_neg s39_3).trans ((if_neg s39_4).trans ((if_neg s39_5).trans ((if_pos s39_6).trans (rfl))))))))))]
          exact ⟨rfl, sd, ot, tk, tm, hsd, hot, K⟩
        | k + 7, ho, hx => cases ho
    · replace c21_1 : (m_isTrain w x1) = 0 := jd_nen c21_1
      refine j_V.ldL ms3_M ms3_24 rfl (i := 0) (kd := 2) (v := .ref 359) (pcJ := 25) rfl L rfl rfl rfl ?_
      refine j_V.one ms3_M ms3_25 (by decide) (pcJ := 26) (stJ := [.int 2, .ref 359]) rfl ?_
      refine j_V.cl ms3_M ms3_26 rfl (md := 3) (mj := 169) rfl (by decide) mo0_M (As := [.ref 359, .int 2]) (rest := []) (jk_spl3 (K.at rfl) rfl rfl rfl (Nat.le_of_ble_eq_true rfl) (Nat.le_of_ble_eq_true rfl)) (fun d => mo0_ok (u := fun j => [.int th, .ref 360, .ref 361, .ref 362, .ref 363, .ref 364, .ref 365, .ref 366, .ref 367, (u 9), .int sst, (u 11), (u 12), .int acs, (u 14), (u 15), (u 16), (u 17), (u 18), (u 19), (u 20), (u 21), .ref 368, .int tm, .ref 369, .ref 370, .ref 371, (u 27)].getD j .null) (K.fi [359] rfl rfl)) ?_
      rintro r h9 ⟨rfl, K9⟩
      have K : KN h9 [(359, .inl (10, [.int ((m_refuse th sst 2).2.1), .ref 360, .ref 361, .ref 362, .ref 363, .ref 364, .ref 365, .ref 366, .ref 367, (u 9), .int ((m_refuse th sst 2).2.2), (u 11), (u 12), .int acs, (u 14), (u 15), (u 16), (u 17), (u 18), (u 19), (u 20), (u 21), .ref 368, .int tm, .ref 369, .ref 370, .ref 371, (u 27)])), (360, .inr (.inl (0, w))), (362, .inr (.inl (0, sd))), (363, .inr (.inl (0, ot))), (364, .inr (.inl (0, kp))), (368, .inr (.inl (0, tk))), (369, .inr (.inl (0, od))), (370, .inr (.inl (0, be)))] h0 := K.mg K9 rfl rfl
      clear K9
      show j_V jP _ 240 29 lv [.int ((m_refuse th sst 2).1)] h9 _
      refine j_V.ri ms3_M ms3_29 ?_
      rw [show (m_qtrain th sst w x1 x2) = _ from ((if_neg c7_0).trans ((if_pos c21_1).trans (rfl)))]
      exact ⟨rfl, sd, ot, tk, tm, hsd, hot, K⟩
  · replace c7_0 : (m_isFrom x2 0 13) = 0 := jd_nen c7_0
    refine j_V.ldL ms3_M ms3_10 rfl (i := 0) (kd := 2) (v := .ref 359) (pcJ := 11) rfl L rfl rfl rfl ?_
    refine j_V.one ms3_M ms3_11 (by decide) (pcJ := 12) (stJ := [.int 1, .ref 359]) rfl ?_
    refine j_V.cl ms3_M ms3_12 rfl (md := 3) (mj := 169) rfl (by decide) mo0_M (As := [.ref 359, .int 1]) (rest := []) (jk_spl3 (K.at rfl) rfl rfl rfl (Nat.le_of_ble_eq_true rfl) (Nat.le_of_ble_eq_true rfl)) (fun d => mo0_ok (u := fun j => [.int th, .ref 360, .ref 361, .ref 362, .ref 363, .ref 364, .ref 365, .ref 366, .ref 367, (u 9), .int sst, (u 11), (u 12), .int acs, (u 14), (u 15), (u 16), (u 17), (u 18), (u 19), (u 20), (u 21), .ref 368, .int tm, .ref 369, .ref 370, .ref 371, (u 27)].getD j .null) (K.fi [359] rfl rfl)) ?_
    rintro r h9 ⟨rfl, K9⟩
    have K : KN h9 [(359, .inl (10, [.int ((m_refuse th sst 1).2.1), .ref 360, .ref 361, .ref 362, .ref 363, .ref 364, .ref 365, .ref 366, .ref 367, (u 9), .int ((m_refuse th sst 1).2.2), (u 11), (u 12), .int acs, (u 14), (u 15), (u 16), (u 17), (u 18), (u 19), (u 20), (u 21), .ref 368, .int tm, .ref 369, .ref 370, .ref 371, (u 27)])), (360, .inr (.inl (0, w))), (362, .inr (.inl (0, sd))), (363, .inr (.inl (0, ot))), (364, .inr (.inl (0, kp))), (368, .inr (.inl (0, tk))), (369, .inr (.inl (0, od))), (370, .inr (.inl (0, be)))] h0 := K.mg K9 rfl rfl
    clear K9
    show j_V jP _ 240 15 lv [.int ((m_refuse th sst 1).1)] h9 _
    refine j_V.ri ms3_M ms3_15 ?_
    rw [show (m_qtrain th sst w x1 x2) = _ from ((if_pos c7_0).trans (rfl))]
    exact ⟨rfl, sd, ot, tk, tm, hsd, hot, K⟩
set_option maxRecDepth 100000 in
theorem ms4_M : j_meth jP 234 = some (yX10_many, cX10_many, 2, (some .int), 1, false, 10) := rfl
set_option maxRecDepth 100000 in
theorem ms4_0 : j_code jP 234 0 = some (.iload_n 1) := rfl
set_option maxRecDepth 100000 in
theorem ms4_1 : j_code jP 234 1 = some (.tableswitch 175 0 9 #[55, 68, 81, 94, 104, 114, 123, 132, 149, 166]) := rfl
set_option maxRecDepth 100000 in
theorem ms4_56 : j_code jP 234 56 = some (.aload_n 0) := rfl
set_option maxRecDepth 100000 in
theorem ms4_57 : j_code jP 234 57 = some (.aload_n 0) := rfl
set_option maxRecDepth 100000 in
theorem ms4_58 : j_code jP 234 58 = some (.getfield 7) := rfl
set_option maxRecDepth 100000 in
theorem ms4_61 : j_code jP 234 61 = some (.sipush 202) := rfl
set_option maxRecDepth 100000 in
theorem ms4_64 : j_code jP 234 64 = some (.iaload) := rfl
set_option maxRecDepth 100000 in
theorem ms4_65 : j_code jP 234 65 = some (.invokevirtual 195) := rfl
set_option maxRecDepth 100000 in
theorem ms4_68 : j_code jP 234 68 = some (.ireturn) := rfl
set_option maxRecDepth 100000 in
theorem ms4_69 : j_code jP 234 69 = some (.aload_n 0) := rfl
set_option maxRecDepth 100000 in
theorem ms4_70 : j_code jP 234 70 = some (.aload_n 0) := rfl
set_option maxRecDepth 100000 in
theorem ms4_71 : j_code jP 234 71 = some (.getfield 7) := rfl
set_option maxRecDepth 100000 in
theorem ms4_74 : j_code jP 234 74 = some (.sipush 203) := rfl
set_option maxRecDepth 100000 in
theorem ms4_77 : j_code jP 234 77 = some (.iaload) := rfl
set_option maxRecDepth 100000 in
theorem ms4_78 : j_code jP 234 78 = some (.invokevirtual 195) := rfl
set_option maxRecDepth 100000 in
theorem ms4_81 : j_code jP 234 81 = some (.ireturn) := rfl
set_option maxRecDepth 100000 in
theorem ms4_82 : j_code jP 234 82 = some (.aload_n 0) := rfl
set_option maxRecDepth 100000 in
theorem ms4_83 : j_code jP 234 83 = some (.aload_n 0) := rfl
set_option maxRecDepth 100000 in
theorem ms4_84 : j_code jP 234 84 = some (.getfield 7) := rfl
set_option maxRecDepth 100000 in
theorem ms4_87 : j_code jP 234 87 = some (.sipush 201) := rfl
set_option maxRecDepth 100000 in
theorem ms4_90 : j_code jP 234 90 = some (.iaload) := rfl
set_option maxRecDepth 100000 in
theorem ms4_91 : j_code jP 234 91 = some (.invokevirtual 195) := rfl
set_option maxRecDepth 100000 in
theorem ms4_94 : j_code jP 234 94 = some (.ireturn) := rfl
set_option maxRecDepth 100000 in
theorem ms4_95 : j_code jP 234 95 = some (.aload_n 0) := rfl
set_option maxRecDepth 100000 in
theorem ms4_96 : j_code jP 234 96 = some (.aload_n 0) := rfl
set_option maxRecDepth 100000 in
theorem ms4_97 : j_code jP 234 97 = some (.iconst 3) := rfl
set_option maxRecDepth 100000 in
theorem ms4_98 : j_code jP 234 98 = some (.invokevirtual 285) := rfl
set_option maxRecDepth 100000 in
theorem ms4_101 : j_code jP 234 101 = some (.invokevirtual 195) := rfl
set_option maxRecDepth 100000 in
theorem ms4_104 : j_code jP 234 104 = some (.ireturn) := rfl
set_option maxRecDepth 100000 in
theorem ms4_105 : j_code jP 234 105 = some (.aload_n 0) := rfl
set_option maxRecDepth 100000 in
theorem ms4_106 : j_code jP 234 106 = some (.aload_n 0) := rfl
set_option maxRecDepth 100000 in
theorem ms4_107 : j_code jP 234 107 = some (.iconst 0) := rfl
set_option maxRecDepth 100000 in
theorem ms4_108 : j_code jP 234 108 = some (.invokevirtual 285) := rfl
set_option maxRecDepth 100000 in
theorem ms4_111 : j_code jP 234 111 = some (.invokevirtual 195) := rfl
set_option maxRecDepth 100000 in
theorem ms4_114 : j_code jP 234 114 = some (.ireturn) := rfl
set_option maxRecDepth 100000 in
theorem ms4_115 : j_code jP 234 115 = some (.aload_n 0) := rfl
set_option maxRecDepth 100000 in
theorem ms4_116 : j_code jP 234 116 = some (.aload_n 0) := rfl
set_option maxRecDepth 100000 in
theorem ms4_117 : j_code jP 234 117 = some (.invokevirtual 298) := rfl
set_option maxRecDepth 100000 in
theorem ms4_120 : j_code jP 234 120 = some (.invokevirtual 195) := rfl
set_option maxRecDepth 100000 in
theorem ms4_123 : j_code jP 234 123 = some (.ireturn) := rfl
set_option maxRecDepth 100000 in
theorem ms4_124 : j_code jP 234 124 = some (.aload_n 0) := rfl
set_option maxRecDepth 100000 in
theorem ms4_125 : j_code jP 234 125 = some (.aload_n 0) := rfl
set_option maxRecDepth 100000 in
theorem ms4_126 : j_code jP 234 126 = some (.getfield 192) := rfl
set_option maxRecDepth 100000 in
theorem ms4_129 : j_code jP 234 129 = some (.invokevirtual 195) := rfl
set_option maxRecDepth 100000 in
theorem ms4_132 : j_code jP 234 132 = some (.ireturn) := rfl
set_option maxRecDepth 100000 in
theorem ms4_133 : j_code jP 234 133 = some (.aload_n 0) := rfl
set_option maxRecDepth 100000 in
theorem ms4_134 : j_code jP 234 134 = some (.aload_n 0) := rfl
set_option maxRecDepth 100000 in
theorem ms4_135 : j_code jP 234 135 = some (.invokevirtual 256) := rfl
set_option maxRecDepth 100000 in
theorem ms4_138 : j_code jP 234 138 = some (.ifCond .eq 7) := rfl
set_option maxRecDepth 100000 in
theorem ms4_141 : j_code jP 234 141 = some (.iconst 1) := rfl
set_option maxRecDepth 100000 in
theorem ms4_142 : j_code jP 234 142 = some (.goto 4) := rfl
set_option maxRecDepth 100000 in
theorem ms4_145 : j_code jP 234 145 = some (.iconst 0) := rfl
set_option maxRecDepth 100000 in
theorem ms4_146 : j_code jP 234 146 = some (.invokevirtual 195) := rfl
set_option maxRecDepth 100000 in
theorem ms4_149 : j_code jP 234 149 = some (.ireturn) := rfl
set_option maxRecDepth 100000 in
theorem ms4_150 : j_code jP 234 150 = some (.aload_n 0) := rfl
set_option maxRecDepth 100000 in
theorem ms4_151 : j_code jP 234 151 = some (.aload_n 0) := rfl
set_option maxRecDepth 100000 in
theorem ms4_152 : j_code jP 234 152 = some (.invokevirtual 288) := rfl
set_option maxRecDepth 100000 in
theorem ms4_155 : j_code jP 234 155 = some (.ifCond .eq 7) := rfl
set_option maxRecDepth 100000 in
theorem ms4_158 : j_code jP 234 158 = some (.iconst 1) := rfl
set_option maxRecDepth 100000 in
theorem ms4_159 : j_code jP 234 159 = some (.goto 4) := rfl
set_option maxRecDepth 100000 in
theorem ms4_162 : j_code jP 234 162 = some (.iconst 0) := rfl
set_option maxRecDepth 100000 in
theorem ms4_163 : j_code jP 234 163 = some (.invokevirtual 195) := rfl
set_option maxRecDepth 100000 in
theorem ms4_166 : j_code jP 234 166 = some (.ireturn) := rfl
set_option maxRecDepth 100000 in
theorem ms4_167 : j_code jP 234 167 = some (.aload_n 0) := rfl
set_option maxRecDepth 100000 in
theorem ms4_168 : j_code jP 234 168 = some (.aload_n 0) := rfl
set_option maxRecDepth 100000 in
theorem ms4_169 : j_code jP 234 169 = some (.invokevirtual 301) := rfl
set_option maxRecDepth 100000 in
theorem ms4_172 : j_code jP 234 172 = some (.invokevirtual 195) := rfl
set_option maxRecDepth 100000 in
theorem ms4_175 : j_code jP 234 175 = some (.ireturn) := rfl
set_option maxRecDepth 100000 in
theorem ms4_176 : j_code jP 234 176 = some (.aload_n 0) := rfl
set_option maxRecDepth 100000 in
theorem ms4_177 : j_code jP 234 177 = some (.iconst 1) := rfl
set_option maxRecDepth 100000 in
theorem ms4_178 : j_code jP 234 178 = some (.invokevirtual 179) := rfl
set_option maxRecDepth 100000 in
theorem ms4_181 : j_code jP 234 181 = some (.ireturn) := rfl
def m_qmany (n : Nat) (th : Int32) (sst : Int32) (acs : Int32) (w : List Int32) (x1 : Int32) : Int32 × Int32 × Int32 := (if x1 = 0 then (((m_gives th sst (gA w 202)).1), ((m_gives th sst (gA w 202)).2.1), ((m_gives th sst (gA w 202)).2.2)) else (if x1 = 1 then (((m_gives th sst (gA w 203)).1), ((m_gives th sst (gA w 203)).2.1), ((m_gives th sst (gA w 203)).2.2)) else (if x1 = 2 then (((m_gives th sst (gA w 201)).1), ((m_gives th sst (gA w 201)).2.1), ((m_gives th sst (gA w 201)).2.2)) else (if x1 = 3 then (((m_gives th sst (m_howMany w 3)).1), ((m_gives th sst (m_howMany w 3)).2.1), ((m_gives th sst (m_howMany w 3)).2.2)) else (if x1 = 4 then (((m_gives th sst (m_howMany w 0)).1), ((m_gives th sst (m_howMany w 0)).2.1), ((m_gives th sst (m_howMany w 0)).2.2)) else (if x1 = 5 then (((m_gives th sst (m_price w)).1), ((m_gives th sst (m_price w)).2.1), ((m_gives th sst (m_price w)).2.2)) else (if x1 = 6 then (((m_gives th sst acs).1), ((m_gives th sst acs).2.1), ((m_gives th sst acs).2.2)) else (if x1 = 7 then (if (m_isSafe w n) = 0 then (((m_gives th sst 0).1), ((m_gives th sst 0).2.1), ((m_gives th sst 0).2.2)) else (((m_gives th sst 1).1), ((m_gives th sst 1).2.1), ((m_gives th sst 1).2.2))) else (if x1 = 8 then (if (m_isStuck w) = 0 then (((m_gives th sst 0).1), ((m_gives th sst 0).2.1), ((m_gives th sst 0).2.2)) else (((m_gives th sst 1).1), ((m_gives th sst 1).2.1), ((m_gives th sst 1).2.2))) else (if x1 = 9 then (((m_gives th sst (m_greatestDelay w)).1), ((m_gives th sst (m_greatestDelay w)).2.1), ((m_gives th sst (m_greatestDelay w)).2.2)) else (((m_refuse th sst 1).1), ((m_refuse th sst 1).2.1), ((m_refuse th sst 1).2.2))))))))))))
set_option maxRecDepth 1000000 in
theorem ms4_ok {u : Nat → Value} {n d : Nat} {h h0 : J_H} {th sst acs tm x1 : Int32} {w sd ot kp tk od be : List Int32} {I J : List Int32 → Prop} (H : m_Inv n I J) (hI : I w) (hsd : sd.length = 602) (hot : ot.length = 602) (K : KN h [(359, .inl (10, [.int th, .ref 360, .ref 361, .ref 362, .ref 363, .ref 364, .ref 365, .ref 366, .ref 367, (u 9), .int sst, (u 11), (u 12), .int acs, (u 14), (u 15), (u 16), (u 17), (u 18), (u 19), (u 20), (u 21), .ref 368, .int tm, .ref 369, .ref 370, .ref 371, (u 27)])), (360, .inr (.inl (0, w))), (362, .inr (.inl (0, sd))), (363, .inr (.inl (0, ot))), (364, .inr (.inl (0, kp))), (368, .inr (.inl (0, tk))), (369, .inr (.inl (0, od))), (370, .inr (.inl (0, be)))] h0) : j_V jP d 234 0 (lv_args 0 [.ref 359, .int x1]) [] h (fun rv h' => rv = some (.int (m_qmany n th sst acs w x1).1) ∧ ∃ (sd' ot' tk' : List Int32) (tm' : Int32), sd'.length = 602 ∧ ot'.length = 602 ∧ KN h' [(359, .inl (10, [.int (m_qmany n th sst acs w x1).2.1, .ref 360, .ref 361, .ref 362, .ref 363, .ref 364, .ref 365, .ref 366, .ref 367, (u 9), .int (m_qmany n th sst acs w x1).2.2, (u 11), (u 12), .int acs, (u 14), (u 15), (u 16), (u 17), (u 18), (u 19), (u 20), (u 21), .ref 368, .int tm', .ref 369, .ref 370, .ref 371, (u 27)])), (360, .inr (.inl (0, w))), (362, .inr (.inl (0, sd'))), (363, .inr (.inl (0, ot'))), (364, .inr (.inl (0, kp))), (368, .inr (.inl (0, tk'))), (369, .inr (.inl (0, od))), (370, .inr (.inl (0, be)))] h0) := by
  show j_V jP d 234 0 [(0, .ref 359), (1, .int x1)] [] h _
  obtain ⟨lv, elv, L⟩ : ∃ lv, lv = [(0, .ref 359), (1, .int x1)] ∧ LK lv [(0, .ref 359), (1, .int x1)] := ⟨_, rfl, LK.rf⟩
  rw [← elv]
  clear elv
  refine j_V.ldL ms4_M ms4_0 rfl (i := 1) (kd := 0) (v := .int x1) (pcJ := 1) rfl L rfl rfl rfl ?_
  refine j_V.tsw ms4_M ms4_1 (fun t ht hx => ?_) (fun i off t ho ht hx => ?_)
  · obtain rfl : 176 = t := Option.some.inj (show some 176 = some t from ht)
    have s1_0 : ¬ (x1 = 0) := fun z => by rw [z] at hx; revert hx; decide
    have s1_1 : ¬ (x1 = 1) := fun z => by rw [z] at hx; revert hx; decide
    have s1_2 : ¬ (x1 = 2) := fun z => by rw [z] at hx; revert hx; decide
    have s1_3 : ¬ (x1 = 3) := fun z => by rw [z] at hx; revert hx; decide
    have s1_4 : ¬ (x1 = 4) := fun z => by rw [z] at hx; revert hx; decide
    have s1_5 : ¬ (x1 = 5) := fun z => by rw [z] at hx; revert hx; decide
    have s1_6 : ¬ (x1 = 6) := fun z => by rw [z] at hx; revert hx; decide
    have s1_7 : ¬ (x1 = 7) := fun z => by rw [z] at hx; revert hx; decide
    have s1_8 : ¬ (x1 = 8) := fun z => by rw [z] at hx; revert hx; decide
    have s1_9 : ¬ (x1 = 9) := fun z => by rw [z] at hx; revert hx; decide
    refine j_V.ldL ms4_M ms4_176 rfl (i := 0) (kd := 2) (v := .ref 359) (pcJ := 177) rfl L rfl rfl rfl ?_
    refine j_V.one ms4_M ms4_177 (by decide) (pcJ := 178) (stJ := [.int 1, .ref 359]) rfl ?_
    refine j_V.cl ms4_M ms4_178 rfl (md := 3) (mj := 169) rfl (by decide) mo0_M (As := [.ref 359, .int 1]) (rest := []) (jk_spl3 (K.at rfl) rfl rfl rfl (Nat.le_of_ble_eq_true rfl) (Nat.le_of_ble_eq_true rfl)) (fun d => mo0_ok (u := fun j => [.int th, .ref 360, .ref 361, .ref 362, .ref 363, .ref 364, .ref 365, .ref 366, .ref 367, (u 9), .int sst, (u 11), (u 12), .int acs, (u 14), (u 15), (u 16), (u 17), (u 18), (u 19), (u 20), (u 21), .ref 368, .int tm, .ref 369, .ref 370, .ref 371, (u 27)].getD j .null) (K.fi [359] rfl rfl)) ?_
    rintro r h9 ⟨rfl, K9⟩
    have K : KN h9 [(359, .inl (10, [.int ((m_refuse th sst 1).2.1), .ref 360, .ref 361, .ref 362, .ref 363, .ref 364, .ref 365, .ref 366, .ref 367, (u 9), .int ((m_refuse th sst 1).2.2), (u 11), (u 12), .int acs, (u 14), (u 15), (u 16), (u 17), (u 18), (u 19), (u 20), (u 21), .ref 368, .int tm, .ref 369, .ref 370, .ref 371, (u 27)])), (360, .inr (.inl (0, w))), (362, .inr (.inl (0, sd))), (363, .inr (.inl (0, ot))), (364, .inr (.inl (0, kp))), (368, .inr (.inl (0, tk))), (369, .inr (.inl (0, od))), (370, .inr (.inl (0, be)))] h0 := K.mg K9 rfl rfl
    clear K9
    show j_V jP _ 234 181 lv [.int ((m_refuse th sst 1).1)] h9 _
    refine j_V.ri ms4_M ms4_181 ?_
    rw [show (m_qmany n th sst acs w x1) = _ from ((if_neg s1_0).trans ((if_neg s1_1).trans ((if_neg s1_2).trans ((if_neg s1_3).trans ((if_neg s1_4).trans ((if_neg s1_5).trans ((if_neg s1_6).trans ((if_neg s1_7).trans ((if_neg s1_8).trans ((if_neg s1_9).trans (rfl)))))))))))]
    exact ⟨rfl, sd, ot, tk, tm, hsd, hot, K⟩
  · match i, ho, hx with
    | 0, ho, hx =>
      obtain rfl := Option.some.inj (show some (55 : Int) = some off from ho)
      obtain rfl : 56 = t := Option.some.inj (show some 56 = some t from ht)
      have s1_0 : x1 = 0 := Int32.toInt_inj.mp (by rw [hx]; rfl)
      refine j_V.ldL ms4_M ms4_56 rfl (i := 0) (kd := 2) (v := .ref 359) (pcJ := 57) rfl L rfl rfl rfl ?_
      refine j_V.ldL ms4_M ms4_57 rfl (i := 0) (kd := 2) (v := .ref 359) (pcJ := 58) rfl L rfl rfl rfl ?_
      refine j_V.getK ms4_M ms4_58 (ci := 10) (j := 1) rfl K rfl rfl ?_
      refine j_V.one ms4_M ms4_61 (by decide) (pcJ := 64) (stJ := [.int 202, .ref 360, .ref 359]) rfl ?_
      refine j_V.iaA ms4_M ms4_64 K rfl ?_
      refine j_V.cl ms4_M ms4_65 rfl (md := 3) (mj := 170) rfl (by decide) mo1_M (As := [.ref 359, .int (gA w 202)]) (rest := []) (jk_spl3 (K.at rfl) rfl rfl rfl (Nat.le_of_ble_eq_true rfl) (Nat.le_of_ble_eq_true rfl)) (fun d => mo1_ok (u := fun j => [.int th, .ref 360, .ref 361, .ref 362, .ref 363, .ref 364, .ref 365, .ref 366, .ref 367, (u 9), .int sst, (u 11), (u 12), .int acs, (u 14), (u 15), (u 16), (u 17), (u 18), (u 19), (u 20), (u 21), .ref 368, .int tm, .ref 369, .ref 370, .ref 371, (u 27)].getD j .null) (K.fi [359] rfl rfl)) ?_
      rintro r h9 ⟨rfl, K9⟩
      have K : KN h9 [(359, .inl (10, [.int ((m_gives th sst (gA w 202)).2.1), .ref 360, .ref 361, .ref 362, .ref 363, .ref 364, .ref 365, .ref 366, .ref 367, (u 9), .int ((m_gives th sst (gA w 202)).2.2), (u 11), (u 12), .int acs, (u 14), (u 15), (u 16), (u 17), (u 18), (u 19), (u 20), (u 21), .ref 368, .int tm, .ref 369, .ref 370, .ref 371, (u 27)])), (360, .inr (.inl (0, w))), (362, .inr (.inl (0, sd))), (363, .inr (.inl (0, ot))), (364, .inr (.inl (0, kp))), (368, .inr (.inl (0, tk))), (369, .inr (.inl (0, od))), (370, .inr (.inl (0, be)))] h0 := K.mg K9 rfl rfl
      clear K9
      show j_V jP _ 234 68 lv [.int ((m_gives th sst (gA w 202)).1)] h9 _
      refine j_V.ri ms4_M ms4_68 ?_
      rw [show (m_qmany n th sst acs w x1) = _ from ((if_pos s1_0).trans (rfl))]
      exact ⟨rfl, sd, ot, tk, tm, hsd, hot, K⟩
    | 1, ho, hx =>
      obtain rfl := Option.some.inj (show some (68 : Int) = some off from ho)
      obtain rfl : 69 = t := Option.some.inj (show some 69 = some t from ht)
      have s1_1 : x1 = 1 := Int32.toInt_inj.mp (by rw [hx]; rfl)
      have s1_0 : ¬ (x1 = 0) := fun z => by rw [s1_1] at z; exact absurd z (by decide)
      refine j_V.ldL ms4_M ms4_69 rfl (i := 0) (kd := 2) (v := .ref 359) (pcJ := 70) rfl L rfl rfl rfl ?_
      refine j_V.ldL ms4_M ms4_70 rfl (i := 0) (kd := 2) (v := .ref 359) (pcJ := 71) rfl L rfl rfl rfl ?_
      refine j_V.getK ms4_M ms4_71 (ci := 10) (j := 1) rfl K rfl rfl ?_
      refine j_V.one ms4_M ms4_74 (by decide) (pcJ := 77) (stJ := [.int 203, .ref 360, .ref 359]) rfl ?_
      refine j_V.iaA ms4_M ms4_77 K rfl ?_
      refine j_V.cl ms4_M ms4_78 rfl (md := 3) (mj := 170) rfl (by decide) mo1_M (As := [.ref 359, .int (gA w 203)]) (rest := []) (jk_spl3 (K.at rfl) rfl rfl rfl (Nat.le_of_ble_eq_true rfl) (Nat.le_of_ble_eq_true rfl)) (fun d => mo1_ok (u := fun j => [.int th, .ref 360, .ref 361, .ref 362, .ref 363, .ref 364, .ref 365, .ref 366, .ref 367, (u 9), .int sst, (u 11), (u 12), .int acs, (u 14), (u 15), (u 16), (u 17), (u 18), (u 19), (u 20), (u 21), .ref 368, .int tm, .ref 369, .ref 370, .ref 371, (u 27)].getD j .null) (K.fi [359] rfl rfl)) ?_
      rintro r h9 ⟨rfl, K9⟩
      have K : KN h9 [(359, .inl (10, [.int ((m_gives th sst (gA w 203)).2.1), .ref 360, .ref 361, .ref 362, .ref 363, .ref 364, .ref 365, .ref 366, .ref 367, (u 9), .int ((m_gives th sst (gA w 203)).2.2), (u 11), (u 12), .int acs, (u 14), (u 15), (u 16), (u 17), (u 18), (u 19), (u 20), (u 21), .ref 368, .int tm, .ref 369, .ref 370, .ref 371, (u 27)])), (360, .inr (.inl (0, w))), (362, .inr (.inl (0, sd))), (363, .inr (.inl (0, ot))), (364, .inr (.inl (0, kp))), (368, .inr (.inl (0, tk))), (369, .inr (.inl (0, od))), (370, .inr (.inl (0, be)))] h0 := K.mg K9 rfl rfl
      clear K9
      show j_V jP _ 234 81 lv [.int ((m_gives th sst (gA w 203)).1)] h9 _
      refine j_V.ri ms4_M ms4_81 ?_
      rw [show (m_qmany n th sst acs w x1) = _ from ((if_neg s1_0).trans ((if_pos s1_1).trans (rfl)))]
      exact ⟨rfl, sd, ot, tk, tm, hsd, hot, K⟩
    | 2, ho, hx =>
      obtain rfl := Option.some.inj (show some (81 : Int) = some off from ho)
      obtain rfl : 82 = t := Option.some.inj (show some 82 = some t from ht)
      have s1_2 : x1 = 2 := Int32.toInt_inj.mp (by rw [hx]; rfl)
      have s1_0 : ¬ (x1 = 0) := fun z => by rw [s1_2] at z; exact absurd z (by decide)
      have s1_1 : ¬ (x1 = 1) := fun z => by rw [s1_2] at z; exact absurd z (by decide)
      refine j_V.ldL ms4_M ms4_82 rfl (i := 0) (kd := 2) (v := .ref 359) (pcJ := 83) rfl L rfl rfl rfl ?_
      refine j_V.ldL ms4_M ms4_83 rfl (i := 0) (kd := 2) (v := .ref 359) (pcJ := 84) rfl L rfl rfl rfl ?_
      refine j_V.getK ms4_M ms4_84 (ci := 10) (j := 1) rfl K rfl rfl ?_
      refine j_V.one ms4_M ms4_87 (by decide) (pcJ := 90) (stJ := [.int 201, .ref 360, .ref 359]) rfl ?_
      refine j_V.iaA ms4_M ms4_90 K rfl ?_
      refine j_V.cl ms4_M ms4_91 rfl (md := 3) (mj := 170) rfl (by decide) mo1_M (As := [.ref 359, .int (gA w 201)]) (rest := []) (jk_spl3 (K.at rfl) rfl rfl rfl (Nat.le_of_ble_eq_true rfl) (Nat.le_of_ble_eq_true rfl)) (fun d => mo1_ok (u := fun j => [.int th, .ref 360, .ref 361, .ref 362, .ref 363, .ref 364, .ref 365, .ref 366, .ref 367, (u 9), .int sst, (u 11), (u 12), .int acs, (u 14), (u 15), (u 16), (u 17), (u 18), (u 19), (u 20), (u 21), .ref 368, .int tm, .ref 369, .ref 370, .ref 371, (u 27)].getD j .null) (K.fi [359] rfl rfl)) ?_
      rintro r h9 ⟨rfl, K9⟩
      have K : KN h9 [(359, .inl (10, [.int ((m_gives th sst (gA w 201)).2.1), .ref 360, .ref 361, .ref 362, .ref 363, .ref 364, .ref 365, .ref 366, .ref 367, (u 9), .int ((m_gives th sst (gA w 201)).2.2), (u 11), (u 12), .int acs, (u 14), (u 15), (u 16), (u 17), (u 18), (u 19), (u 20), (u 21), .ref 368, .int tm, .ref 369, .ref 370, .ref 371, (u 27)])), (360, .inr (.inl (0, w))), (362, .inr (.inl (0, sd))), (363, .inr (.inl (0, ot))), (364, .inr (.inl (0, kp))), (368, .inr (.inl (0, tk))), (369, .inr (.inl (0, od))), (370, .inr (.inl (0, be)))] h0 := K.mg K9 rfl rfl
      clear K9
      show j_V jP _ 234 94 lv [.int ((m_gives th sst (gA w 201)).1)] h9 _
      refine j_V.ri ms4_M ms4_94 ?_
      rw [show (m_qmany n th sst acs w x1) = _ from ((if_neg s1_0).trans ((if_neg s1_1).trans ((if_pos s1_2).trans (rfl))))]
      exact ⟨rfl, sd, ot, tk, tm, hsd, hot, K⟩
    | 3, ho, hx =>
      obtain rfl := Option.some.inj (show some (94 : Int) = some off from ho)
      obtain rfl : 95 = t := Option.some.inj (show some 95 = some t from ht)
      have s1_3 : x1 = 3 := Int32.toInt_inj.mp (by rw [hx]; rfl)
      have s1_0 : ¬ (x1 = 0) := fun z => by rw [s1_3] at z; exact absurd z (by decide)
      have s1_1 : ¬ (x1 = 1) := fun z => by rw [s1_3] at z; exact absurd z (by decide)
      have s1_2 : ¬ (x1 = 2) := fun z => by rw [s1_3] at z; exact absurd z (by decide)
      refine j_V.ldL ms4_M ms4_95 rfl (i := 0) (kd := 2) (v := .ref 359) (pcJ := 96) rfl L rfl rfl rfl ?_
      refine j_V.ldL ms4_M ms4_96 rfl (i := 0) (kd := 2) (v := .ref 359) (pcJ := 97) rfl L rfl rfl rfl ?_
      refine j_V.one ms4_M ms4_97 (by decide) (pcJ := 98) (stJ := [.int 3, .ref 359, .ref 359]) rfl ?_
      refine j_V.cl ms4_M ms4_98 rfl (md := 3) (mj := 229) rfl (by decide) mc2_M (As := [.ref 359, .int 3]) (rest := [.ref 359]) (jk_spl3 (K.at rfl) rfl rfl rfl (Nat.le_of_ble_eq_true rfl) (Nat.le_of_ble_eq_true rfl)) (fun d => mc2_ok (u := fun j => [.int th, .ref 360, .ref 361, .ref 362, .ref 363, .ref 364, .ref 365, .ref 366, .ref 367, (u 9), .int sst, (u 11), (u 12), .int acs, (u 14), (u 15), (u 16), (u 17), (u 18), (u 19), (u 20), (u 21), .ref 368, .int tm, .ref 369, .ref 370, .ref 371, (u 27)].getD j .null) (K.fi [359, 360] rfl rfl)) ?_
      rintro r hz ⟨rfl, ez⟩
      rw [ez]
      clear ez
      show j_V jP _ 234 101 lv [.int (m_howMany w 3), .ref 359] h _
      refine j_V.cl ms4_M ms4_101 rfl (md := 3) (mj := 170) rfl (by decide) mo1_M (As := [.ref 359, .int (m_howMany w 3)]) (rest := []) (jk_spl3 (K.at rfl) rfl rfl rfl (Nat.le_of_ble_eq_true rfl) (Nat.le_of_ble_eq_true rfl)) (fun d => mo1_ok (u := fun j => [.int th, .ref 360, .ref 361, .ref 362, .ref 363, .ref 364, .ref 365, .ref 366, .ref 367, (u 9), .int sst, (u 11), (u 12), .int acs, (u 14), (u 15), (u 16), (u 17), (u 18), (u 19), (u 20), (u 21), .ref 368, .int tm, .ref 369, .ref 370, .ref 371, (u 27)].getD j .null) (K.fi [359] rfl rfl)) ?_
      rintro r h9 ⟨rfl, K9⟩
      have K : KN h9 [(359, .inl (10, [.int ((m_gives th sst (m_howMany w 3)).2.1), .ref 360, .ref 361, .ref 362, .ref 363, .ref 364, .ref 365, .ref 366, .ref 367, (u 9), .int ((m_gives th sst (m_howMany w 3)).2.2), (u 11), (u 12), .int acs, (u 14), (u 15), (u 16), (u 17), (u 18), (u 19), (u 20), (u 21), .ref 368, .int tm, .ref 369, .ref 370, .ref 371, (u 27)])), (360, .inr (.inl (0, w))), (362, .inr (.inl (0, sd))), (363, .inr (.inl (0, ot))), (364, .inr (.inl (0, kp))), (368, .inr (.inl (0, tk))), (369, .inr (.inl (0, od))), (370, .inr (.inl (0, be)))] h0 := K.mg K9 rfl rfl
      clear K9
      show j_V jP _ 234 104 lv [.int ((m_gives th sst (m_howMany w 3)).1)] h9 _
      refine j_V.ri ms4_M ms4_104 ?_
      rw [show (m_qmany n th sst acs w x1) = _ from ((if_neg s1_0).trans ((if_neg s1_1).trans ((if_neg s1_2).trans ((if_pos s1_3).trans (rfl)))))]
      exact ⟨rfl, sd, ot, tk, tm, hsd, hot, K⟩
    | 4, ho, hx =>
      obtain rfl := Option.some.inj (show some (104 : Int) = some off from ho)
      obtain rfl : 105 = t := Option.some.inj (show some 105 = some t from ht)
      have s1_4 : x1 = 4 := Int32.toInt_inj.mp (by rw [hx]; rfl)
      have s1_0 : ¬ (x1 = 0) := fun z => by rw [s1_4] at z; exact absurd z (by decide)
      have s1_1 : ¬ (x1 = 1) := fun z => by rw [s1_4] at z; exact absurd z (by decide)
      have s1_2 : ¬ (x1 = 2) := fun z => by rw [s1_4] at z; exact absurd z (by decide)
      have s1_3 : ¬ (x1 = 3) := fun z => by rw [s1_4] at z; exact absurd z (by decide)
      refine j_V.ldL ms4_M ms4_105 rfl (i := 0) (kd := 2) (v := .ref 359) (pcJ := 106) rfl L rfl rfl rfl ?_
      refine j_V.ldL ms4_M ms4_106 rfl (i := 0) (kd := 2) (v := .ref 359) (pcJ := 107) rfl L rfl rfl rfl ?_
      refine j_V.one ms4_M ms4_107 (by decide) (pcJ := 108) (stJ := [.int 0, .ref 359, .ref 359]) rfl ?_
      refine j_V.cl ms4_M ms4_108 rfl (md := 3) (mj := 229) rfl (by decide) mc2_M (As := [.ref 359, .int 0]) (rest := [.ref 359]) (jk_spl3 (K.at rfl) rfl rfl rfl (Nat.le_of_ble_eq_true rfl) (Nat.le_of_ble_eq_true rfl)) (fun d => mc2_ok (u := fun j => [.int th, .ref 360, .ref 361, .ref 362, .ref 363, .ref 364, .ref 365, .ref 366, .ref 367, (u 9), .int sst, (u 11), (u 12), .int acs, (u 14), (u 15), (u 16), (u 17), (u 18), (u 19), (u 20), (u 21), .ref 368, .int tm, .ref 369, .ref 370, .ref 371, (u 27)].getD j .null) (K.fi [359, 360] rfl rfl)) ?_
      rintro r hz ⟨rfl, ez⟩
      rw [ez]
      clear ez
      show j_V jP _ 234 111 lv [.int (m_howMany w 0), .ref 359] h _
      refine j_V.cl ms4_M ms4_111 rfl (md := 3) (mj := 170) rfl (by decide) mo1_M (As := [.ref 359, .int (m_howMany w 0)]) (rest := []) (jk_spl3 (K.at rfl) rfl rfl rfl (Nat.le_of_ble_eq_true rfl) (Nat.le_of_ble_eq_true rfl)) (fun d => mo1_ok (u := fun j => [.int th, .ref 360, .ref 361, .ref 362, .ref 363, .ref 364, .ref 365, .ref 366, .ref 367, (u 9), .int sst, (u 11), (u 12), .int acs, (u 14), (u 15), (u 16), (u 17), (u 18), (u 19), (u 20), (u 21), .ref 368, .int tm, .ref 369, .ref 370, .ref 371, (u 27)].getD j .null) (K.fi [359] rfl rfl)) ?_
      rintro r h9 ⟨rfl, K9⟩
      have K : KN h9 [(359, .inl (10, [.int ((m_gives th sst (m_howMany w 0)).2.1), .ref 360, .ref 361, .ref 362, .ref 363, .ref 364, .ref 365, .ref 366, .ref 367, (u 9), .int ((m_gives th sst (m_howMany w 0)).2.2), (u 11), (u 12), .int acs, (u 14), (u 15), (u 16), (u 17), (u 18), (u 19), (u 20), (u 21), .ref 368, .int tm, .ref 369, .ref 370, .ref 371, (u 27)])), (360, .inr (.inl (0, w))), (362, .inr (.inl (0, sd))), (363, .inr (.inl (0, ot))), (364, .inr (.inl (0, kp))), (368, .inr (.inl (0, tk))), (369, .inr (.inl (0, od))), (370, .inr (.inl (0, be)))] h0 := K.mg K9 rfl rfl
      clear K9
      show j_V jP _ 234 114 lv [.int ((m_gives th sst (m_howMany w 0)).1)] h9 _
      refine j_V.ri ms4_M ms4_114 ?_
      rw [show (m_qmany n th sst acs w x1) = _ from ((if_neg s1_0).trans ((if_neg s1_1).trans ((if_neg s1_2).trans ((if_neg s1_3).trans ((if_pos s1_4).trans (rfl))))))]
      exact ⟨rfl, sd, ot, tk, tm, hsd, hot, K⟩
    | 5, ho, hx =>
      obtain rfl := Option.some.inj (show some (114 : Int) = some off from ho)
      obtain rfl : 115 = t := Option.some.inj (show some 115 = some t from ht)
      have s1_5 : x1 = 5 := Int32.toInt_inj.mp (by rw [hx]; rfl)
      have s1_0 : ¬ (x1 = 0) := fun z => by rw [s1_5] at z; exact absurd z (by decide)
      have s1_1 : ¬ (x1 = 1) := fun z => by rw [s1_5] at z; exact absurd z (by decide)
      have s1_2 : ¬ (x1 = 2) := fun z => by rw [s1_5] at z; exact absurd z (by decide)
      have s1_3 : ¬ (x1 = 3) := fun z => by rw [s1_5] at z; exact absurd z (by decide)
      have s1_4 : ¬ (x1 = 4) := fun z => by rw [s1_5] at z; exact absurd z (by decide)
      refine j_V.ldL ms4_M ms4_115 rfl (i := 0) (kd := 2) (v := .ref 359) (pcJ := 116) rfl L rfl rfl rfl ?_
      refine j_V.ldL ms4_M ms4_116 rfl (i := 0) (kd := 2) (v := .ref 359) (pcJ := 117) rfl L rfl rfl rfl ?_
      refine j_V.cl ms4_M ms4_117 rfl (md := 3) (mj := 230) rfl (by decide) mc3_M (As := [.ref 359]) (rest := [.ref 359]) (jk_spl3 (K.at rfl) rfl rfl rfl (Nat.le_of_ble_eq_true rfl) (Nat.le_of_ble_eq_true rfl)) (fun d => mc3_ok (u := fun j => [.int th, .ref 360, .ref 361, .ref 362, .ref 363, .ref 364, .ref 365, .ref 366, .ref 367, (u 9), .int sst, (u 11), (u 12), .int acs, (u 14), (u 15), (u 16), (u 17), (u 18), (u 19), (u 20), (u 21), .ref 368, .int tm, .ref 369, .ref 370, .ref 371, (u 27)].getD j .null) (K.fi [359, 360] rfl rfl)) ?_
      rintro r hz ⟨rfl, ez⟩
      rw [ez]
      clear ez
      show j_V jP _ 234 120 lv [.int (m_price w), .ref 359] h _
      refine j_V.cl ms4_M ms4_120 rfl (md := 3) (mj := 170) rfl (by decide) mo1_M (As := [.ref 359, .int (m_price w)]) (rest := []) (jk_spl3 (K.at rfl) rfl rfl rfl (Nat.le_of_ble_eq_true rfl) (Nat.le_of_ble_eq_true rfl)) (fun d => mo1_ok (u := fun j => [.int th, .ref 360, .ref 361, .ref 362, .ref 363, .ref 364, .ref 365, .ref 366, .ref 367, (u 9), .int sst, (u 11), (u 12), .int acs, (u 14), (u 15), (u 16), (u 17), (u 18), (u 19), (u 20), (u 21), .ref 368, .int tm, .ref 369, .ref 370, .ref 371, (u 27)].getD j .null) (K.fi [359] rfl rfl)) ?_
      rintro r h9 ⟨rfl, K9⟩
      have K : KN h9 [(359, .inl (10, [.int ((m_gives th sst (m_price w)).2.1), .ref 360, .ref 361, .ref 362, .ref 363, .ref 364, .ref 365, .ref 366, .ref 367, (u 9), .int ((m_gives th sst (m_price w)).2.2), (u 11), (u 12), .int acs, (u 14), (u 15), (u 16), (u 17), (u 18), (u 19), (u 20), (u 21), .ref 368, .int tm, .ref 369, .ref 370, .ref 371, (u 27)])), (360, .inr (.inl (0, w))), (362, .inr (.inl (0, sd))), (363, .inr (.inl (0, ot))), (364, .inr (.inl (0, kp))), (368, .inr (.inl (0, tk))), (369, .inr (.inl (0, od))), (370, .inr (.inl (0, be)))] h0 := K.mg K9 rfl rfl
      clear K9
      show j_V jP _ 234 123 lv [.int ((m_gives th sst (m_price w)).1)] h9 _
      refine j_V.ri ms4_M ms4_123 ?_
      rw [show (m_qmany n th sst acs w x1) = _ from ((if_neg s1_0).trans ((if_neg s1_1).trans ((if_neg s1_2).trans ((if_neg s1_3).trans ((if_neg s1_4).trans ((if_pos s1_5).trans (rfl)))))))]
      exact ⟨rfl, sd, ot, tk, tm, hsd, hot, K⟩
    | 6, ho, hx =>
      obtain rfl := Option.some.inj (show some (123 : Int) = some off from ho)
      obtain rfl : 124 = t := Option.some.inj (show some 124 = some t from ht)
      have s1_6 : x1 = 6 := Int32.toInt_inj.mp (by rw [hx]; rfl)
      have s1_0 : ¬ (x1 = 0) := fun z => by rw [s1_6] at z; exact absurd z (by decide)
      have s1_1 : ¬ (x1 = 1) := fun z => by rw [s1_6] at z; exact absurd z (by decide)
      have s1_2 : ¬ (x1 = 2) := fun z => by rw [s1_6] at z; exact absurd z (by decide)
      have s1_3 : ¬ (x1 = 3) := fun z => by rw [s1_6] at z; exact absurd z (by decide)
      have s1_4 : ¬ (x1 = 4) := fun z => by rw [s1_6] at z; exact absurd z (by decide)
      have s1_5 : ¬ (x1 = 5) := fun z => by rw [s1_6] at z; exact absurd z (by decide)
      refine j_V.ldL ms4_M ms4_124 rfl (i := 0) (kd := 2) (v := .ref 359) (pcJ := 125) rfl L rfl rfl rfl ?_
      refine j_V.ldL ms4_M ms4_125 rfl (i := 0) (kd := 2) (v := .ref 359) (pcJ := 126) rfl L rfl rfl rfl ?_
      refine j_V.getK ms4_M ms4_126 (ci := 10) (j := 13) rfl K rfl rfl ?_
      refine j_V.cl ms4_M ms4_129 rfl (md := 3) (mj := 170) rfl (by decide) mo1_M (As := [.ref 359, .int acs]) (rest := []) (jk_spl3 (K.at rfl) rfl rfl rfl (Nat.le_of_ble_eq_true rfl) (Nat.le_of_ble_eq_true rfl)) (fun d => mo1_ok (u := fun j => [.int th, .ref 360, .ref 361, .ref 362, .ref 363, .ref 364, .ref 365, .ref 366, .ref 367, (u 9), .int sst, (u 11), (u 12), .int acs, (u 14), (u 15), (u 16), (u 17), (u 18), (u 19), (u 20), (u 21), .ref 368, .int tm, .ref 369, .ref 370, .ref 371, (u 27)].getD j .null) (K.fi [359] rfl rfl)) ?_
      rintro r h9 ⟨rfl, K9⟩
      have K : KN h9 [(359, .inl (10, [.int ((m_gives th sst acs).2.1), .ref 360, .ref 361, .ref 362, .ref 363, .ref 364, .ref 365, .ref 366, .ref 367, (u 9), .int ((m_gives th sst acs).2.2), (u 11), (u 12), .int acs, (u 14), (u 15), (u 16), (u 17), (u 18), (u 19), (u 20), (u 21), .ref 368, .int tm, .ref 369, .ref 370, .ref 371, (u 27)])), (360, .inr (.inl (0, w))), (362, .inr (.inl (0, sd))), (363, .inr (.inl (0, ot))), (364, .inr (.inl (0, kp))), (368, .inr (.inl (0, tk))), (369, .inr (.inl (0, od))), (370, .inr (.inl (0, be)))] h0 := K.mg K9 rfl rfl
      clear K9
      show j_V jP _ 234 132 lv [.int ((m_gives th sst acs).1)] h9 _
      refine j_V.ri ms4_M ms4_132 ?_
      rw [show (m_qmany n th sst acs w x1) = _ from ((if_neg s1_0).trans ((if_neg s1_1).trans ((if_neg s1_2).trans ((if_neg s1_3).trans ((if_neg s1_4).trans ((if_neg s1_5).trans ((if_pos s1_6).trans (rfl))))))))]
      exact ⟨rfl, sd, ot, tk, tm, hsd, hot, K⟩
    | 7, ho, hx =>
      obtain rfl := Option.some.inj (show some (132 : Int) = some off from ho)
      obtain rfl : 133 = t := Option.some.inj (show some 133 = some t from ht)
      have s1_7 : x1 = 7 := Int32.toInt_inj.mp (by rw [hx]; rfl)
      have s1_0 : ¬ (x1 = 0) := fun z => by rw [s1_7] at z; exact absurd z (by decide)
      have s1_1 : ¬ (x1 = 1) := fun z => by rw [s1_7] at z; exact absurd z (by decide)
      have s1_2 : ¬ (x1 = 2) := fun z => by rw [s1_7] at z; exact absurd z (by decide)
      have s1_3 : ¬ (x1 = 3) := fun z => by rw [s1_7] at z; exact absurd z (by decide)
      have s1_4 : ¬ (x1 = 4) := fun z => by rw [s1_7] at z; exact absurd z (by decide)
      have s1_5 : ¬ (x1 = 5) := fun z => by rw [s1_7] at z; exact absurd z (by decide)
      have s1_6 : ¬ (x1 = 6) := fun z => by rw [s1_7] at z; exact absurd z (by decide)
      refine j_V.ldL ms4_M ms4_133 rfl (i := 0) (kd := 2) (v := .ref 359) (pcJ := 134) rfl L rfl rfl rfl ?_
      refine j_V.ldL ms4_M ms4_134 rfl (i := 0) (kd := 2) (v := .ref 359) (pcJ := 135) rfl L rfl rfl rfl ?_
      refine j_V.cl ms4_M ms4_135 rfl (md := 3) (mj := 219) rfl (by decide) mh1_M (As := [.ref 359]) (rest := [.ref 359]) (jk_spl3 (K.at rfl) rfl rfl rfl (Nat.le_of_ble_eq_true rfl) (Nat.le_of_ble_eq_true rfl)) (fun d => mh1_ok (u := fun j => [.int th, .ref 360, .ref 361, .ref 362, .ref 363, .ref 364, .ref 365, .ref 366, .ref 367, (u 9), .int sst, (u 11), (u 12), .int acs, (u 14), (u 15), (u 16), (u 17), (u 18), (u 19), (u 20), (u 21), .ref 368, .int tm, .ref 369, .ref 370, .ref 371, (u 27)].getD j .null) (H.F _ hI) (K.fi [359, 360, 368] rfl rfl)) ?_
      rintro r h9 ⟨rfl, K9⟩
      have K : KN h9 [(359, .inl (10, [.int th, .ref 360, .ref 361, .ref 362, .ref 363, .ref 364, .ref 365, .ref 366, .ref 367, (u 9), .int sst, (u 11), (u 12), .int acs, (u 14), (u 15), (u 16), (u 17), (u 18), (u 19), (u 20), (u 21), .ref 368, .int (m_sf w n tk).2.2, .ref 369, .ref 370, .ref 371, (u 27)])), (360, .inr (.inl (0, w))), (362, .inr (.inl (0, sd))), (363, .inr (.inl (0, ot))), (364, .inr (.inl (0, kp))), (368, .inr (.inl (0, (m_sf w n tk).2.1))), (369, .inr (.inl (0, od))), (370, .inr (.inl (0, be)))] h0 := K.mg K9 rfl rfl
      clear K9
      show j_V jP _ 234 138 lv [.int (m_isSafe w n), .ref 359] h9 _
      refine j_V.ifc ms4_M ms4_138 (t := 145) rfl (fun c138_8 => ?_) (fun c138_8 => ?_)
      · replace c138_8 : (m_isSafe w n) = 0 := jd_eq c138_8
        refine j_V.one ms4_M ms4_145 (by decide) (pcJ := 146) (stJ := [.int 0, .ref 359]) rfl ?_
        refine j_V.cl ms4_M ms4_146 rfl (md := 3) (mj := 170) rfl (by decide) mo1_M (As := [.ref 359, .int 0]) (rest := []) (jk_spl3 (K.at rfl) rfl rfl rfl (Nat.le_of_ble_eq_true rfl) (Nat.le_of_ble_eq_true rfl)) (fun d => mo1_ok (u := fun j => [.int th, .ref 360, .ref 361, .ref 362, .ref 363, .ref 364, .ref 365, .ref 366, .ref 367, (u 9), .int sst, (u 11), (u 12), .int acs, (u 14), (u 15), (u 16), (u 17), (u 18), (u 19), (u 20), (u 21), .ref 368, .int (m_sf w n tk).2.2, .ref 369, .ref 370, .ref 371, (u 27)].getD j .null) (K.fi [359] rfl rfl)) ?_
        rintro r h9 ⟨rfl, K9⟩
        have K : KN h9 [(359, .inl (10, [.int ((m_gives th sst 0).2.1), .ref 360, .ref 361, .ref 362, .ref 363, .ref 364, .ref 365, .ref 366, .ref 367, (u 9), .int ((m_gives th sst 0).2.2), (u 11), (u 12), .int acs, (u 14), (u 15), (u 16), (u 17), (u 18), (u 19), (u 20), (u 21), .ref 368, .int (m_sf w n tk).2.2, .ref 369, .ref 370, .ref 371, (u 27)])), (360, .inr (.inl (0, w))), (362, .inr (.inl (0, sd))), (363, .inr (.inl (0, ot))), (364, .inr (.inl (0, kp))), (368, .inr (.inl (0, (m_sf w n tk).2.1))), (369, .inr (.inl (0, od))), (370, .inr (.inl (0, be)))] h0 := K.mg K9 rfl rfl
        clear K9
        show j_V jP _ 234 149 lv [.int ((m_gives th sst 0).1)] h9 _
        refine j_V.ri ms4_M ms4_149 ?_
        rw [show (m_qmany n th sst acs w x1) = _ from ((if_neg s1_0).trans ((if_neg s1_1).trans ((if_neg s1_2).trans ((if_neg s1_3).trans ((if_neg s1_4).trans ((if_neg s1_5).trans ((if_neg s1_6).trans ((if_pos s1_7).trans ((if_pos c138_8).trans (rfl))))))))))]
        exact ⟨rfl, sd, ot, (m_sf w n tk).2.1, (m_sf w n tk).2.2, hsd, hot, K⟩
      · replace c138_8 : ¬ ((m_isSafe w n) = 0) := jd_eqn c138_8
        refine j_V.one ms4_M ms4_141 (by decide) (pcJ := 142) (stJ := [.int 1, .ref 359]) rfl ?_
        refine j_V.gto ms4_M ms4_142 (t := 146) rfl ?_
        refine j_V.cl ms4_M ms4_146 rfl (md := 3) (mj := 170) rfl (by decide) mo1_M (As := [.ref 359, .int 1]) (rest := []) (jk_spl3 (K.at rfl) rfl rfl rfl (Nat.le_of_ble_eq_true rfl) (Nat.le_of_ble_eq_true rfl)) (fun d => mo1_ok (u := fun j => [.int th, .ref 360, .ref 361, .ref 362, .ref 363, .ref 364, .ref 365, .ref 366, .ref 367, (u 9), .int sst, (u 11), (u 12), .int acs, (u 14), (u 15), (u 16), (u 17), (u 18), (u 19), (u 20), (u 21), .ref 368, .int (m_sf w n tk).2.2, .ref 369, .ref 370, .ref 371, (u 27)].getD j .null) (K.fi [359] rfl rfl)) ?_
        rintro r h9 ⟨rfl, K9⟩
        have K : KN h9 [(359, .inl (10, [.int ((m_gives th sst 1).2.1), .ref 360, .ref 361, .ref 362, .ref 363, .ref 364, .ref 365, .ref 366, .ref 367, (u 9), .int ((m_gives th sst 1).2.2), (u 11), (u 12), .int acs, (u 14), (u 15), (u 16), (u 17), (u 18), (u 19), (u 20), (u 21), .ref 368, .int (m_sf w n tk).2.2, .ref 369, .ref 370, .ref 371, (u 27)])), (360, .inr (.inl (0, w))), (362, .inr (.inl (0, sd))), (363, .inr (.inl (0, ot))), (364, .inr (.inl (0, kp))), (368, .inr (.inl (0, (m_sf w n tk).2.1))), (369, .inr (.inl (0, od))), (370, .inr (.inl (0, be)))] h0 := K.mg K9 rfl rfl
        clear K9
        show j_V jP _ 234 149 lv [.int ((m_gives th sst 1).1)] h9 _
        refine j_V.ri ms4_M ms4_149 ?_
        rw [show (m_qmany n th sst acs w x1) = _ from ((if_neg s1_0).trans ((if_neg s1_1).trans ((if_neg s1_2).trans ((if_neg s1_3).trans ((if_neg s1_4).trans ((if_neg s1_5).trans ((if_neg s1_6).trans ((if_pos s1_7).trans ((if_neg c138_8).trans (rfl))))))))))]
        exact ⟨rfl, sd, ot, (m_sf w n tk).2.1, (m_sf w n tk).2.2, hsd, hot, K⟩
    | 8, ho, hx =>
      obtain rfl := Option.some.inj (show some (149 : Int) = some off from ho)
      obtain rfl : 150 = t := Option.some.inj (show some 150 = some t from ht)
      have s1_8 : x1 = 8 := Int32.toInt_inj.mp (by rw [hx]; rfl)
      have s1_0 : ¬ (x1 = 0) := fun z => by rw [s1_8] at z; exact absurd z (by decide)
      have s1_1 : ¬ (x1 = 1) := fun z => by rw [s1_8] at z; exact absurd z (by decide)
      have s1_2 : ¬ (x1 = 2) := fun z => by rw [s1_8] at z; exact absurd z (by decide)
      have s1_3 : ¬ (x1 = 3) := fun z => by rw [s1_8] at z; exact absurd z (by decide)
      have s1_4 : ¬ (x1 = 4) := fun z => by rw [s1_8] at z; exact absurd z (by decide)
      have s1_5 : ¬ (x1 = 5) := fun z => by rw [s1_8] at z; exact absurd z (by decide)
      have s1_6 : ¬ (x1 = 6) := fun z => by rw [s1_8] at z; exact absurd z (by decide)
      have s1_7 : ¬ (x1 = 7) := fun z => by rw [s1_8] at z; exact absurd z (by decide)
      refine j_V.ldL ms4_M ms4_150 rfl (i := 0) (kd := 2) (v := .ref 359) (pcJ := 151) rfl L rfl rfl rfl ?_
      refine j_V.ldL ms4_M ms4_151 rfl (i := 0) (kd := 2) (v := .ref 359) (pcJ := 152) rfl L rfl rfl rfl ?_
      refine j_V.cl ms4_M ms4_152 rfl (md := 3) (mj := 220) rfl (by decide) mb7_M (As := [.ref 359]) (rest := [.ref 359]) (jk_spl3 (K.at rfl) rfl rfl rfl (Nat.le_of_ble_eq_true rfl) (Nat.le_of_ble_eq_true rfl)) (fun d => mb7_ok (u := fun j => [.int th, .ref 360, .ref 361, .ref 362, .ref 363, .ref 364, .ref 365, .ref 366, .ref 367, (u 9), .int sst, (u 11), (u 12), .int acs, (u 14), (u 15), (u 16), (u 17), (u 18), (u 19), (u 20), (u 21), .ref 368, .int tm, .ref 369, .ref 370, .ref 371, (u 27)].getD j .null) (K.fi [359, 360] rfl rfl)) ?_
      rintro r hz ⟨rfl, ez⟩
      rw [ez]
      clear ez
      show j_V jP _ 234 155 lv [.int (m_isStuck w), .ref 359] h _
      refine j_V.ifc ms4_M ms4_155 (t := 162) rfl (fun c155_9 => ?_) (fun c155_9 => ?_)
      · replace c155_9 : (m_isStuck w) = 0 := jd_eq c155_9
        refine j_V.one ms4_M ms4_162 (by decide) (pcJ := 163) (stJ := [.int 0, .ref 359]) rfl ?_
        refine j_V.cl ms4_M ms4_163 rfl (md := 3) (mj := 170) rfl (by decide) mo1_M (As := [.ref 359, .int 0]) (rest := []) (jk_spl3 (K.at rfl) rfl rfl rfl (Nat.le_of_ble_eq_true rfl) (Nat.le_of_ble_eq_true rfl)) (fun d => mo1_ok (u := fun j => [.int th, .ref 360, .ref 361, .ref 362, .ref 363, .ref 364, .ref 365, .ref 366, .ref 367, (u 9), .int sst, (u 11), (u 12), .int acs, (u 14), (u 15), (u 16), (u 17), (u 18), (u 19), (u 20), (u 21), .ref 368, .int tm, .ref 369, .ref 370, .ref 371, (u 27)].getD j .null) (K.fi [359] rfl rfl)) ?_
        rintro r h9 ⟨rfl, K9⟩
        have K : KN h9 [(359, .inl (10, [.int ((m_gives th sst 0).2.1), .ref 360, .ref 361, .ref 362, .ref 363, .ref 364, .ref 365, .ref 366, .ref 367, (u 9), .int ((m_gives th sst 0).2.2), (u 11), (u 12), .int acs, (u 14), (u 15), (u 16), (u 17), (u 18), (u 19), (u 20), (u 21), .ref 368, .int tm, .ref 369, .ref 370, .ref 371, (u 27)])), (360, .inr (.inl (0, w))), (362, .inr (.inl (0, sd))), (363, .inr (.inl (0, ot))), (364, .inr (.inl (0, kp))), (368, .inr (.inl (0, tk))), (369, .inr (.inl (0, od))), (370, .inr (.inl (0, be)))] h0 := K.mg K9 rfl rfl
        clear K9
        show j_V jP _ 234 166 lv [.int ((m_gives th sst 0).1)] h9 _
        refine j_V.ri ms4_M ms4_166 ?_
        rw [show (m_qmany n th sst acs w x1) = _ from ((if_neg s1_0).trans ((if_neg s1_1).trans ((if_neg s1_2).trans ((if_neg s1_3).trans ((if_neg s1_4).trans ((if_neg s1_5).trans ((if_neg s1_6).trans ((if_neg s1_7).trans ((if_pos s1_8).trans ((if_pos c155_9).trans (rfl)))))))))))]
        exact ⟨rfl, sd, ot, tk, tm, hsd, hot, K⟩
      · replace c155_9 : ¬ ((m_isStuck w) = 0) := jd_eqn c155_9
        refine j_V.one ms4_M ms4_158 (by decide) (pcJ := 159) (stJ := [.int 1, .ref 359]) rfl ?_
        refine j_V.gto ms4_M ms4_159 (t := 163) rfl ?_
        refine j_V.cl ms4_M ms4_163 rfl (md := 3) (mj := 170) rfl (by decide) mo1_M (As := [.ref 359, .int 1]) (rest := []) (jk_spl3 (K.at rfl) rfl rfl rfl (Nat.le_of_ble_eq_true rfl) (Nat.le_of_ble_eq_true rfl)) (fun d => mo1_ok (u := fun j => [.int th, .ref 360, .ref 361, .ref 362, .ref 363, .ref 364, .ref 365, .ref 366, .ref 367, (u 9), .int sst, (u 11), (u 12), .int acs, (u 14), (u 15), (u 16), (u 17), (u 18), (u 19), (u 20), (u 21), .ref 368, .int tm, .ref 369, .ref 370, .ref 371, (u 27)].getD j .null) (K.fi [359] rfl rfl)) ?_
        rintro r h9 ⟨rfl, K9⟩
        have K : KN h9 [(359, .inl (10, [.int ((m_gives th sst 1).2.1), .ref 360, .ref 361, .ref 362, .ref 363, .ref 364, .ref 365, .ref 366, .ref 367, (u 9), .int ((m_gives th sst 1).2.2), (u 11), (u 12), .int acs, (u 14), (u 15), (u 16), (u 17), (u 18), (u 19), (u 20), (u 21), .ref 368, .int tm, .ref 369, .ref 370, .ref 371, (u 27)])), (360, .inr (.inl (0, w))), (362, .inr (.inl (0, sd))), (363, .inr (.inl (0, ot))), (364, .inr (.inl (0, kp))), (368, .inr (.inl (0, tk))), (369, .inr (.inl (0, od))), (370, .inr (.inl (0, be)))] h0 := K.mg K9 rfl rfl
        clear K9
        show j_V jP _ 234 166 lv [.int ((m_gives th sst 1).1)] h9 _
        refine j_V.ri ms4_M ms4_166 ?_
        rw [show (m_qmany n th sst acs w x1) = _ from ((if_neg s1_0).trans ((if_neg s1_1).trans ((if_neg s1_2).trans ((if_neg s1_3).trans ((if_neg s1_4).trans ((if_neg s1_5).trans ((if_neg s1_6).trans ((if_neg s1_7).trans ((if_pos s1_8).trans ((if_neg c155_9).trans (rfl)))))))))))]
        exact ⟨rfl, sd, ot, tk, tm, hsd, hot, K⟩
    | 9, ho, hx =>
      obtain rfl := Option.some.inj (show some (166 : Int) = some off from ho)
      obtain rfl : 167 = t := Option.some.inj (show some 167 = some t from ht)
      have s1_9 : x1 = 9 := Int32.toInt_inj.mp (by rw [hx]; rfl)
      have s1_0 : ¬ (x1 = 0) := fun z => by rw [s1_9] at z; exact absurd z (by decide)
      have s1_1 : ¬ (x1 = 1) := fun z => by rw [s1_9] at z; exact absurd z (by decide)
      have s1_2 : ¬ (x1 = 2) := fun z => by rw [s1_9] at z; exact absurd z (by decide)
      have s1_3 : ¬ (x1 = 3) := fun z => by rw [s1_9] at z; exact absurd z (by decide)
      have s1_4 : ¬ (x1 = 4) := fun z => by rw [s1_9] at z; exact absurd z (by decide)
      have s1_5 : ¬ (x1 = 5) := fun z => by rw [s1_9] at z; exact absurd z (by decide)
      have s1_6 : ¬ (x1 = 6) := fun z => by rw [s1_9] at z; exact absurd z (by decide)
      have s1_7 : ¬ (x1 = 7) := fun z => by rw [s1_9] at z; exact absurd z (by decide)
      have s1_8 : ¬ (x1 = 8) := fun z => by rw [s1_9] at z; exact absurd z (by decide)
      refine j_V.ldL ms4_M ms4_167 rfl (i := 0) (kd := 2) (v := .ref 359) (pcJ := 168) rfl L rfl rfl rfl ?_
      refine j_V.ldL ms4_M ms4_168 rfl (i := 0) (kd := 2) (v := .ref 359) (pcJ := 169) rfl L rfl rfl rfl ?_
      refine j_V.cl ms4_M ms4_169 rfl (md := 3) (mj := 233) rfl (by decide) mc4_M (As := [.ref 359]) (rest := [.ref 359]) (jk_spl3 (K.at rfl) rfl rfl rfl (Nat.le_of_ble_eq_true rfl) (Nat.le_of_ble_eq_true rfl)) (fun d => mc4_ok (u := fun j => [.int th, .ref 360, .ref 361, .ref 362, .ref 363, .ref 364, .ref 365, .ref 366, .ref 367, (u 9), .int sst, (u 11), (u 12), .int acs, (u 14), (u 15), (u 16), (u 17), (u 18), (u 19), (u 20), (u 21), .ref 368, .int tm, .ref 369, .ref 370, .ref 371, (u 27)].getD j .null) (K.fi [359, 360] rfl rfl)) ?_
      rintro r hz ⟨rfl, ez⟩
      rw [ez]
      clear ez
      show j_V jP _ 234 172 lv [.int (m_greatestDelay w), .ref 359] h _
      refine j_V.cl ms4_M ms4_172 rfl (md := 3) (mj := 170) rfl (by decide) mo1_M (As := [.ref 359, .int (m_greatestDelay w)]) (rest := []) (jk_spl3 (K.at rfl) rfl rfl rfl (Nat.le_of_ble_eq_true rfl) (Nat.le_of_ble_eq_true rfl)) (fun d => mo1_ok (u := fun j => [.int th, .ref 360, .ref 361, .ref 362, .ref 363, .ref 364, .ref 365, .ref 366, .ref 367, (u 9), .int sst, (u 11), (u 12), .int acs, (u 14), (u 15), (u 16), (u 17), (u 18), (u 19), (u 20), (u 21), .ref 368, .int tm, .ref 369, .ref 370, .ref 371, (u 27)].getD j .null) (K.fi [359] rfl rfl)) ?_
      rintro r h9 ⟨rfl, K9⟩
      have K : KN h9 [(359, .inl (10, [.int ((m_gives th sst (m_greatestDelay w)).2.1), .ref 360, .ref 361, .ref 362, .ref 363, .ref 364, .ref 365, .ref 366, .ref 367, (u 9), .int ((m_gives th sst (m_greatestDelay w)).2.2), (u 11), (u 12), .int acs, (u 14), (u 15), (u 16), (u 17), (u 18), (u 19), (u 20), (u 21), .ref 368, .int tm, .ref 369, .ref 370, .ref 371, (u 27)])), (360, .inr (.inl (0, w))), (362, .inr (.inl (0, sd))), (363, .inr (.inl (0, ot))), (364, .inr (.inl (0, kp))), (368, .inr (.inl (0, tk))), (369, .inr (.inl (0, od))), (370, .inr (.inl (0, be)))] h0 := K.mg K9 rfl rfl
      clear K9
      show j_V jP _ 234 175 lv [.int ((m_gives th sst (m_greatestDelay w)).1)] h9 _
      refine j_V.ri ms4_M ms4_175 ?_
      rw [show (m_qmany n th sst acs w x1) = _ from ((if_neg s1_0).trans ((if_neg s1_1).trans ((if_neg s1_2).trans ((if_neg s1_3).trans ((if_neg s1_4).trans ((if_neg s1_5).trans ((if_neg s1_6).trans ((if_neg s1_7).trans ((if_neg s1_8).trans ((if_pos s1_9).trans (rfl)))))))))))]
      exact ⟨rfl, sd, ot, tk, tm, hsd, hot, K⟩
    | k + 10, ho, hx => cases ho
set_option maxRecDepth 100000 in
theorem ms5_M : j_meth jP 243 = some (yX10_why, cX10_why, 4, (some .int), 1, false, 10) := rfl
set_option maxRecDepth 100000 in
theorem ms5_0 : j_code jP 243 0 = some (.aload_n 0) := rfl
set_option maxRecDepth 100000 in
theorem ms5_1 : j_code jP 243 1 = some (.iload_n 1) := rfl
set_option maxRecDepth 100000 in
theorem ms5_2 : j_code jP 243 2 = some (.invokevirtual 310) := rfl
set_option maxRecDepth 100000 in
theorem ms5_5 : j_code jP 243 5 = some (.ifCond .ne 9) := rfl
set_option maxRecDepth 100000 in
theorem ms5_8 : j_code jP 243 8 = some (.aload_n 0) := rfl
set_option maxRecDepth 100000 in
theorem ms5_9 : j_code jP 243 9 = some (.iconst 2) := rfl
set_option maxRecDepth 100000 in
theorem ms5_10 : j_code jP 243 10 = some (.invokevirtual 179) := rfl
set_option maxRecDepth 100000 in
theorem ms5_13 : j_code jP 243 13 = some (.ireturn) := rfl
set_option maxRecDepth 100000 in
theorem ms5_14 : j_code jP 243 14 = some (.aload_n 0) := rfl
set_option maxRecDepth 100000 in
theorem ms5_15 : j_code jP 243 15 = some (.iload_n 1) := rfl
set_option maxRecDepth 100000 in
theorem ms5_16 : j_code jP 243 16 = some (.invokevirtual 250) := rfl
set_option maxRecDepth 100000 in
theorem ms5_19 : j_code jP 243 19 = some (.istore_n 2) := rfl
set_option maxRecDepth 100000 in
theorem ms5_20 : j_code jP 243 20 = some (.iload_n 2) := rfl
set_option maxRecDepth 100000 in
theorem ms5_21 : j_code jP 243 21 = some (.ifCond .eq 9) := rfl
set_option maxRecDepth 100000 in
theorem ms5_24 : j_code jP 243 24 = some (.aload_n 0) := rfl
set_option maxRecDepth 100000 in
theorem ms5_25 : j_code jP 243 25 = some (.iload_n 2) := rfl
set_option maxRecDepth 100000 in
theorem ms5_26 : j_code jP 243 26 = some (.invokevirtual 195) := rfl
set_option maxRecDepth 100000 in
theorem ms5_29 : j_code jP 243 29 = some (.ireturn) := rfl
set_option maxRecDepth 100000 in
theorem ms5_30 : j_code jP 243 30 = some (.aload_n 0) := rfl
set_option maxRecDepth 100000 in
theorem ms5_31 : j_code jP 243 31 = some (.getfield 7) := rfl
set_option maxRecDepth 100000 in
theorem ms5_34 : j_code jP 243 34 = some (.aload_n 0) := rfl
set_option maxRecDepth 100000 in
theorem ms5_35 : j_code jP 243 35 = some (.getfield 19) := rfl
set_option maxRecDepth 100000 in
theorem ms5_38 : j_code jP 243 38 = some (.invokestatic 188) := rfl
set_option maxRecDepth 100000 in
theorem ms5_41 : j_code jP 243 41 = some (.aload_n 0) := rfl
set_option maxRecDepth 100000 in
theorem ms5_42 : j_code jP 243 42 = some (.iload_n 1) := rfl
set_option maxRecDepth 100000 in
theorem ms5_43 : j_code jP 243 43 = some (.invokevirtual 253) := rfl
set_option maxRecDepth 100000 in
theorem ms5_46 : j_code jP 243 46 = some (.aload_n 0) := rfl
set_option maxRecDepth 100000 in
theorem ms5_47 : j_code jP 243 47 = some (.invokevirtual 256) := rfl
set_option maxRecDepth 100000 in
theorem ms5_50 : j_code jP 243 50 = some (.istore_n 3) := rfl
set_option maxRecDepth 100000 in
theorem ms5_51 : j_code jP 243 51 = some (.aload_n 0) := rfl
set_option maxRecDepth 100000 in
theorem ms5_52 : j_code jP 243 52 = some (.getfield 19) := rfl
set_option maxRecDepth 100000 in
theorem ms5_55 : j_code jP 243 55 = some (.aload_n 0) := rfl
set_option maxRecDepth 100000 in
theorem ms5_56 : j_code jP 243 56 = some (.getfield 7) := rfl
set_option maxRecDepth 100000 in
theorem ms5_59 : j_code jP 243 59 = some (.invokestatic 188) := rfl
set_option maxRecDepth 100000 in
theorem ms5_62 : j_code jP 243 62 = some (.aload_n 0) := rfl
set_option maxRecDepth 100000 in
theorem ms5_63 : j_code jP 243 63 = some (.iload_n 3) := rfl
set_option maxRecDepth 100000 in
theorem ms5_64 : j_code jP 243 64 = some (.ifCond .eq 7) := rfl
set_option maxRecDepth 100000 in
theorem ms5_67 : j_code jP 243 67 = some (.iconst 0) := rfl
set_option maxRecDepth 100000 in
theorem ms5_68 : j_code jP 243 68 = some (.goto 4) := rfl
set_option maxRecDepth 100000 in
theorem ms5_71 : j_code jP 243 71 = some (.iconst 5) := rfl
set_option maxRecDepth 100000 in
theorem ms5_72 : j_code jP 243 72 = some (.invokevirtual 195) := rfl
set_option maxRecDepth 100000 in
theorem ms5_75 : j_code jP 243 75 = some (.ireturn) := rfl
def m_qwhy (n : Nat) (th : Int32) (sst : Int32) (w : List Int32) (x1 : Int32) : Int32 × Int32 × Int32 := (if (m_isTrain w x1) = 0 then (((m_refuse th sst 2).1), ((m_refuse th sst 2).2.1), ((m_refuse th sst 2).2.2)) else (if (m_whyNot w x1) = 0 then (if (m_isSafe (m_sets w x1) n) = 0 then (((m_gives th sst 5).1), ((m_gives th sst 5).2.1), ((m_gives th sst 5).2.2)) else (((m_gives th sst 0).1), ((m_gives th sst 0).2.1), ((m_gives th sst 0).2.2))) else (((m_gives th sst (m_whyNot w x1)).1), ((m_gives th sst (m_whyNot w x1)).2.1), ((m_gives th sst (m_whyNot w x1)).2.2))))
set_option maxRecDepth 1000000 in
theorem ms5_ok {u : Nat → Value} {n d : Nat} {h h0 : J_H} {th sst acs tm x1 : Int32} {w sd ot kp tk od be : List Int32} {I J : List Int32 → Prop} (H : m_Inv n I J) (hI : I w) (hsd : sd.length = 602) (hot : ot.length = 602) (K : KN h [(359, .inl (10, [.int th, .ref 360, .ref 361, .ref 362, .ref 363, .ref 364, .ref 365, .ref 366, .ref 367, (u 9), .int sst, (u 11), (u 12), .int acs, (u 14), (u 15), (u 16), (u 17), (u 18), (u 19), (u 20), (u 21), .ref 368, .int tm, .ref 369, .ref 370, .ref 371, (u 27)])), (360, .inr (.inl (0, w))), (362, .inr (.inl (0, sd))), (363, .inr (.inl (0, ot))), (364, .inr (.inl (0, kp))), (368, .inr (.inl (0, tk))), (369, .inr (.inl (0, od))), (370, .inr (.inl (0, be)))] h0) : j_V jP d 243 0 (lv_args 0 [.ref 359, .int x1]) [] h (fun rv h' => rv = some (.int (m_qwhy n th sst w x1).1) ∧ ∃ (sd' ot' tk' : List Int32) (tm' : Int32), sd'.length = 602 ∧ ot'.length = 602 ∧ KN h' [(359, .inl (10, [.int (m_qwhy n th sst w x1).2.1, .ref 360, .ref 361, .ref 362, .ref 363, .ref 364, .ref 365, .ref 366, .ref 367, (u 9), .int (m_qwhy n th sst w x1).2.2, (u 11), (u 12), .int acs, (u 14), (u 15), (u 16), (u 17), (u 18), (u 19), (u 20), (u 21), .ref 368, .int tm', .ref 369, .ref 370, .ref 371, (u 27)])), (360, .inr (.inl (0, w))), (362, .inr (.inl (0, sd'))), (363, .inr (.inl (0, ot'))), (364, .inr (.inl (0, kp))), (368, .inr (.inl (0, tk'))), (369, .inr (.inl (0, od))), (370, .inr (.inl (0, be)))] h0) := by
  show j_V jP d 243 0 [(0, .ref 359), (1, .int x1)] [] h _
  obtain ⟨lv, elv, L⟩ : ∃ lv, lv = [(0, .ref 359), (1, .int x1)] ∧ LK lv [(0, .ref 359), (1, .int x1)] := ⟨_, rfl, LK.rf⟩
  rw [← elv]
  clear elv
  refine j_V.ldL ms5_M ms5_0 rfl (i := 0) (kd := 2) (v := .ref 359) (pcJ := 1) rfl L rfl rfl rfl ?_
  refine j_V.ldL ms5_M ms5_1 rfl (i := 1) (kd := 0) (v := .int x1) (pcJ := 2) rfl L rfl rfl rfl ?_
  refine j_V.cl ms5_M ms5_2 rfl (md := 3) (mj := 173) rfl (by decide) md0_M (As := [.ref 359, .int x1]) (rest := []) (jk_spl3 (K.at rfl) rfl rfl rfl (Nat.le_of_ble_eq_true rfl) (Nat.le_of_ble_eq_true rfl)) (fun d => md0_ok (u := fun j => [.int th, .ref 360, .ref 361, .ref 362, .ref 363, .ref 364, .ref 365, .ref 366, .ref 367, (u 9), .int sst, (u 11), (u 12), .int acs, (u 14), (u 15), (u 16), (u 17), (u 18), (u 19), (u 20), (u 21), .ref 368, .int tm, .ref 369, .ref 370, .ref 371, (u 27)].getD j .null) (K.fi [359, 360] rfl rfl)) ?_
  rintro r hz ⟨rfl, ez⟩
  rw [ez]
  clear ez
  show j_V jP _ 243 5 lv [.int (m_isTrain w x1)] h _
  refine j_V.ifc ms5_M ms5_5 (t := 14) rfl (fun c5_0 => ?_) (fun c5_0 => ?_)
  · replace c5_0 : ¬ ((m_isTrain w x1) = 0) := jd_ne c5_0
    refine j_V.ldL ms5_M ms5_14 rfl (i := 0) (kd := 2) (v := .ref 359) (pcJ := 15) rfl L rfl rfl rfl ?_
    refine j_V.ldL ms5_M ms5_15 rfl (i := 1) (kd := 0) (v := .int x1) (pcJ := 16) rfl L rfl rfl rfl ?_
    refine j_V.cl ms5_M ms5_16 rfl (md := 3) (mj := 214) rfl (by decide) mb5_M (As := [.ref 359, .int x1]) (rest := []) (jk_spl3 (K.at rfl) rfl rfl rfl (Nat.le_of_ble_eq_true rfl) (Nat.le_of_ble_eq_true rfl)) (fun d => mb5_ok (u := fun j => [.int th, .ref 360, .ref 361, .ref 362, .ref 363, .ref 364, .ref 365, .ref 366, .ref 367, (u 9), .int sst, (u 11), (u 12), .int acs, (u 14), (u 15), (u 16), (u 17), (u 18), (u 19), (u 20), (u 21), .ref 368, .int tm, .ref 369, .ref 370, .ref 371, (u 27)].getD j .null) (K.fi [359, 360] rfl rfl)) ?_
    rintro r hz ⟨rfl, ez⟩
    rw [ez]
    clear ez
    show j_V jP _ 243 19 lv [.int (m_whyNot w x1)] h _
    refine j_V.stL ms5_M ms5_19 rfl (i := 2) (kd := 0) (kl' := [(0, .ref 359), (1, .int x1), (2, .int (m_whyNot w x1))]) (pcJ := 20) rfl L rfl (by decide) rfl rfl rfl (fun lv L => ?_)
    refine j_V.ldL ms5_M ms5_20 rfl (i := 2) (kd := 0) (v := .int (m_whyNot w x1)) (pcJ := 21) rfl L rfl rfl rfl ?_
    refine j_V.ifc ms5_M ms5_21 (t := 30) rfl (fun c21_1 => ?_) (fun c21_1 => ?_)
    · replace c21_1 : (m_whyNot w x1) = 0 := jd_eq c21_1
      refine j_V.ldL ms5_M ms5_30 rfl (i := 0) (kd := 2) (v := .ref 359) (pcJ := 31) rfl L rfl rfl rfl ?_
      refine j_V.getK ms5_M ms5_31 (ci := 10) (j := 1) rfl K rfl rfl ?_
      refine j_V.ldL ms5_M ms5_34 rfl (i := 0) (kd := 2) (v := .ref 359) (pcJ := 35) rfl L rfl rfl rfl ?_
      refine j_V.getK ms5_M ms5_35 (ci := 10) (j := 4) rfl K rfl rfl ?_
      refine j_V.cl ms5_M ms5_38 rfl (md := 2) (mj := 201) rfl (by decide) mi0_M (As := [.ref 360, .ref 363]) (rest := []) (jk_spl2 rfl rfl (Nat.le_of_ble_eq_true rfl) (Nat.le_of_ble_eq_true rfl)) (fun d => mi0_ok (K.fi [360, 363] rfl rfl)) ?_
      rintro r h9 ⟨rfl, K9⟩
      have K : KN h9 [(359, .inl (10, [.int th, .ref 360, .ref 361, .ref 362, .ref 363, .ref 364, .ref 365, .ref 366, .ref 367, (u 9), .int sst, (u 11), (u 12), .int acs, (u 14), (u 15), (u 16), (u 17), (u 18), (u 19), (u 20), (u 21), .ref 368, .int tm, .ref 369, .ref 370, .ref 371, (u 27)])), (360, .inr (.inl (0, w))), (362, .inr (.inl (0, sd))), (363, .inr (.inl (0, ((m_copies w ot))))), (364, .inr (.inl (0, kp))), (368, .inr (.inl (0, tk))), (369, .inr (.inl (0, od))), (370, .inr (.inl (0, be)))] h0 := K.mg K9 rfl rfl
      clear K9
      show j_V jP _ 243 41 lv [] h9 _
      rw [m_cp (H.I1 _ hI).1 hot] at K
      refine j_V.ldL ms5_M ms5_41 rfl (i := 0) (kd := 2) (v := .ref 359) (pcJ := 42) rfl L rfl rfl rfl ?_
      refine j_V.ldL ms5_M ms5_42 rfl (i := 1) (kd := 0) (v := .int x1) (pcJ := 43) rfl L rfl rfl rfl ?_
      refine j_V.cl ms5_M ms5_43 rfl (md := 3) (mj := 216) rfl (by decide) me2_M (As := [.ref 359, .int x1]) (rest := []) (jk_spl3 (K.at rfl) rfl rfl rfl (Nat.le_of_ble_eq_true rfl) (Nat.le_of_ble_eq_true rfl)) (fun d => me2_ok (u := fun j => [.int th, .ref 360, .ref 361, .ref 362, .ref 363, .ref 364, .ref 365, .ref 366, .ref 367, (u 9), .int sst, (u 11), (u 12), .int acs, (u 14), (u 15), (u 16), (u 17), (u 18), (u 19), (u 20), (u 21), .ref 368, .int tm, .ref 369, .ref 370, .ref 371, (u 27)].getD j .null) (K.fi [359, 360] rfl rfl)) ?_
      rintro r h9 ⟨rfl, K9⟩
      have K : KN h9 [(359, .inl (10, [.int th, .ref 360, .ref 361, .ref 362, .ref 363, .ref 364, .ref 365, .ref 366, .ref 367, (u 9), .int sst, (u 11), (u 12), .int acs, (u 14), (u 15), (u 16), (u 17), (u 18), (u 19), (u 20), (u 21), .ref 368, .int tm, .ref 369, .ref 370, .ref 371, (u 27)])), (360, .inr (.inl (0, (m_sets w x1)))), (362, .inr (.inl (0, sd))), (363, .inr (.inl (0, w))), (364, .inr (.inl (0, kp))), (368, .inr (.inl (0, tk))), (369, .inr (.inl (0, od))), (370, .inr (.inl (0, be)))] h0 := K.mg K9 rfl rfl
      clear K9
      show j_V jP _ 243 46 lv [] h9 _
      refine j_V.ldL ms5_M ms5_46 rfl (i := 0) (kd := 2) (v := .ref 359) (pcJ := 47) rfl L rfl rfl rfl ?_
      refine j_V.cl ms5_M ms5_47 rfl (md := 3) (mj := 219) rfl (by decide) mh1_M (As := [.ref 359]) (rest := []) (jk_spl3 (K.at rfl) rfl rfl rfl (Nat.le_of_ble_eq_true rfl) (Nat.le_of_ble_eq_true rfl)) (fun d => mh1_ok (u := fun j => [.int th, .ref 360, .ref 361, .ref 362, .ref 363, .ref 364, .ref 365, .ref 366, .ref 367, (u 9), .int sst, (u 11), (u 12), .int acs, (u 14), (u 15), (u 16), (u 17), (u 18), (u 19), (u 20), (u 21), .ref 368, .int tm, .ref 369, .ref 370, .ref 371, (u 27)].getD j .null) (H.S2 _ _ hI c5_0 c21_1) (K.fi [359, 360, 368] rfl rfl)) ?_
      rintro r h9 ⟨rfl, K9⟩
      have K : KN h9 [(359, .inl (10, [.int th, .ref 360, .ref 361, .ref 362, .ref 363, .ref 364, .ref 365, .ref 366, .ref 367, (u 9), .int sst, (u 11), (u 12), .int acs, (u 14), (u 15), (u 16), (u 17), (u 18), (u 19), (u 20), (u 21), .ref 368, .int (m_sf (m_sets w x1) n tk).2.2, .ref 369, .ref 370, .ref 371, (u 27)])), (360, .inr (.inl (0, (m_sets w x1)))), (362, .inr (.inl (0, sd))), (363, .inr (.inl (0, w))), (364, .inr (.inl (0, kp))), (368, .inr (.inl (0, (m_sf (m_sets w x1) n tk).2.1))), (369, .inr (.inl (0, od))), (370, .inr (.inl (0, be)))] h0 := K.mg K9 rfl rfl
      clear K9
      show j_V jP _ 243 50 lv [.int (m_isSafe (m_sets w x1) n)] h9 _
      refine j_V.stL ms5_M ms5_50 rfl (i := 3) (kd := 0) (kl' := [(0, .ref 359), (1, .int x1), (2, .int (m_whyNot w x1)), (3, .int (m_isSafe (m_sets w x1) n))]) (pcJ := 51) rfl L rfl (by decide) rfl rfl rfl (fun lv L => ?_)
      refine j_V.ldL ms5_M ms5_51 rfl (i := 0) (kd := 2) (v := .ref 359) (pcJ := 52) rfl L rfl rfl rfl ?_
      refine j_V.getK ms5_M ms5_52 (ci := 10) (j := 4) rfl K rfl rfl ?_
      refine j_V.ldL ms5_M ms5_55 rfl (i := 0) (kd := 2) (v := .ref 359) (pcJ := 56) rfl L rfl rfl rfl ?_
      refine j_V.getK ms5_M ms5_56 (ci := 10) (j := 1) rfl K rfl rfl ?_
      refine j_V.cl ms5_M ms5_59 rfl (md := 2) (mj := 201) rfl (by decide) mi1_M (As := [.ref 363, .ref 360]) (rest := []) (jk_spl2 rfl rfl (Nat.le_of_ble_eq_true rfl) (Nat.le_of_ble_eq_true rfl)) (fun d => mi1_ok (K.fi [360, 363] rfl rfl)) ?_
      rintro r h9 ⟨rfl, K9⟩
      have K : KN h9 [(359, .inl (10, [.int th, .ref 360, .ref 361, .ref 362, .ref 363, .ref 364, .ref 365, .ref 366, .ref 367, (u 9), .int sst, (u 11), (u 12), .int acs, (u 14), (u 15), (u 16), (u 17), (u 18), (u 19), (u 20), (u 21), .ref 368, .int (m_sf (m_sets w x1) n tk).2.2, .ref 369, .ref 370, .ref 371, (u 27)])), (360, .inr (.inl (0, ((m_copies w (m_sets w x1)))))), (362, .inr (.inl (0, sd))), (363, .inr (.inl (0, w))), (364, .inr (.inl (0, kp))), (368, .inr (.inl (0, (m_sf (m_sets w x1) n tk).2.1))), (369, .inr (.inl (0, od))), (370, .inr (.inl (0, be)))] h0 := K.mg K9 rfl rfl
      clear K9
      show j_V jP _ 243 62 lv [] h9 _
      rw [m_cp (H.I1 _ hI).1 (by rw [m_sets_len]; exact (H.I1 _ hI).1)] at K
      refine j_V.ldL ms5_M ms5_62 rfl (i := 0) (kd := 2) (v := .ref 359) (pcJ := 63) rfl L rfl rfl rfl ?_
      refine j_V.ldL ms5_M ms5_63 rfl (i := 3) (kd := 0) (v := .int (m_isSafe (m_sets w x1) n)) (pcJ := 64) rfl L rfl rfl rfl ?_
      refine j_V.ifc ms5_M ms5_64 (t := 71) rfl (fun c64_2 => ?_) (fun c64_2 => ?_)
      · replace c64_2 : (m_isSafe (m_sets w x1) n) = 0 := jd_eq c64_2
        refine j_V.one ms5_M ms5_71 (by decide) (pcJ := 72) (stJ := [.int 5, .ref 359]) rfl ?_
        refine j_V.cl ms5_M ms5_72 rfl (md := 3) (mj := 170) rfl (by decide) mo1_M (As := [.ref 359, .int 5]) (rest := []) (jk_spl3 (K.at rfl) rfl rfl rfl (Nat.le_of_ble_eq_true rfl) (Nat.le_of_ble_eq_true rfl)) (fun d => mo1_ok (u := fun j => [.int th, .ref 360, .ref 361, .ref 362, .ref 363, .ref 364, .ref 365, .ref 366, .ref 367, (u 9), .int sst, (u 11), (u 12), .int acs, (u 14), (u 15), (u 16), (u 17), (u 18), (u 19), (u 20), (u 21), .ref 368, .int (m_sf (m_sets w x1) n tk).2.2, .ref 369, .ref 370, .ref 371, (u 27)].getD j .null) (K.fi [359] rfl rfl)) ?_
        rintro r h9 ⟨rfl, K9⟩
        have K : KN h9 [(359, .inl (10, [.int ((m_gives th sst 5).2.1), .ref 360, .ref 361, .ref 362, .ref 363, .ref 364, .ref 365, .ref 366, .ref 367, (u 9), .int ((m_gives th sst 5).2.2), (u 11), (u 12), .int acs, (u 14), (u 15), (u 16), (u 17), (u 18), (u 19), (u 20), (u 21), .ref 368, .int (m_sf (m_sets w x1) n tk).2.2, .ref 369, .ref 370, .ref 371, (u 27)])), (360, .inr (.inl (0, w))), (362, .inr (.inl (0, sd))), (363, .inr (.inl (0, w))), (364, .inr (.inl (0, kp))), (368, .inr (.inl (0, (m_sf (m_sets w x1) n tk).2.1))), (369, .inr (.inl (0, od))), (370, .inr (.inl (0, be)))] h0 := K.mg K9 rfl rfl
        clear K9
        show j_V jP _ 243 75 lv [.int ((m_gives th sst 5).1)] h9 _
        refine j_V.ri ms5_M ms5_75 ?_
        rw [show (m_qwhy n th sst w x1) = _ from ((if_neg c5_0).trans ((if_pos c21_1).trans ((if_pos c64_2).trans (rfl))))]
        exact ⟨rfl, sd, w, (m_sf (m_sets w x1) n tk).2.1, (m_sf (m_sets w x1) n tk).2.2, hsd, (H.I1 _ hI).1, K⟩
      · replace c64_2 : ¬ ((m_isSafe (m_sets w x1) n) = 0) := jd_eqn c64_2
        refine j_V.one ms5_M ms5_67 (by decide) (pcJ := 68) (stJ := [.int 0, .ref 359]) rfl ?_
        refine j_V.gto ms5_M ms5_68 (t := 72) rfl ?_
        refine j_V.cl ms5_M ms5_72 rfl (md := 3) (mj := 170) rfl (by decide) mo1_M (As := [.ref 359, .int 0]) (rest := []) (jk_spl3 (K.at rfl) rfl rfl rfl (Nat.le_of_ble_eq_true rfl) (Nat.le_of_ble_eq_true rfl)) (fun d => mo1_ok (u := fun j => [.int th, .ref 360, .ref 361, .ref 362, .ref 363, .ref 364, .ref 365, .ref 366, .ref 367, (u 9), .int sst, (u 11), (u 12), .int acs, (u 14), (u 15), (u 16), (u 17), (u 18), (u 19), (u 20), (u 21), .ref 368, .int (m_sf (m_sets w x1) n tk).2.2, .ref 369, .ref 370, .ref 371, (u 27)].getD j .null) (K.fi [359] rfl rfl)) ?_
        rintro r h9 ⟨rfl, K9⟩
        have K : KN h9 [(359, .inl (10, [.int ((m_gives th sst 0).2.1), .ref 360, .ref 361, .ref 362, .ref 363, .ref 364, .ref 365, .ref 366, .ref 367, (u 9), .int ((m_gives th sst 0).2.2), (u 11), (u 12), .int acs, (u 14), (u 15), (u 16), (u 17), (u 18), (u 19), (u 20), (u 21), .ref 368, .int (m_sf (m_sets w x1) n tk).2.2, .ref 369, .ref 370, .ref 371, (u 27)])), (360, .inr (.inl (0, w))), (362, .inr (.inl (0, sd))), (363, .inr (.inl (0, w))), (364, .inr (.inl (0, kp))), (368, .inr (.inl (0, (m_sf (m_sets w x1) n tk).2.1))), (369, .inr (.inl (0, od))), (370, .inr (.inl (0, be)))] h0 := K.mg K9 rfl rfl
        clear K9
        show j_V jP _ 243 75 lv [.int ((m_gives th sst 0).1)] h9 _
        refine j_V.ri ms5_M ms5_75 ?_
        rw [show (m_qwhy n th sst w x1) = _ from ((if_neg c5_0).trans ((if_pos c21_1).trans ((if_neg c64_2).trans (rfl))))]
        exact ⟨rfl, sd, w, (m_sf (m_sets w x1) n tk).2.1, (m_sf (m_sets w x1) n tk).2.2, hsd, (H.I1 _ hI).1, K⟩
    · replace c21_1 : ¬ ((m_whyNot w x1) = 0) := jd_eqn c21_1
      refine j_V.ldL ms5_M ms5_24 rfl (i := 0) (kd := 2) (v := .ref 359) (pcJ := 25) rfl L rfl rfl rfl ?_
      refine j_V.ldL ms5_M ms5_25 rfl (i := 2) (kd := 0) (v := .int (m_whyNot w x1)) (pcJ := 26) rfl L rfl rfl rfl ?_
      refine j_V.cl ms5_M ms5_26 rfl (md := 3) (mj := 170) rfl (by decide) mo1_M (As := [.ref 359, .int (m_whyNot w x1)]) (rest := []) (jk_spl3 (K.at rfl) rfl rfl rfl (Nat.le_of_ble_eq_true rfl) (Nat.le_of_ble_eq_true rfl)) (fun d => mo1_ok (u := fun j => [.int th, .ref 360, .ref 361, .ref 362, .ref 363, .ref 364, .ref 365, .ref 366, .ref 367, (u 9), .int sst, (u 11), (u 12), .int acs, (u 14), (u 15), (u 16), (u 17), (u 18), (u 19), (u 20), (u 21), .ref 368, .int tm, .ref 369, .ref 370, .ref 371, (u 27)].getD j .null) (K.fi [359] rfl rfl)) ?_
      rintro r h9 ⟨rfl, K9⟩
      have K : KN h9 [(359, .inl (10, [.int ((m_gives th sst (m_whyNot w x1)).2.1), .ref 360, .ref 361, .ref 362, .ref 363, .ref 364, .ref 365, .ref 366, .ref 367, (u 9), .int ((m_gives th sst (m_whyNot w x1)).2.2), (u 11), (u 12), .int acs, (u 14), (u 15), (u 16), (u 17), (u 18), (u 19), (u 20), (u 21), .ref 368, .int tm, .ref 369, .ref 370, .ref 371, (u 27)])), (360, .inr (.inl (0, w))), (362, .inr (.inl (0, sd))), (363, .inr (.inl (0, ot))), (364, .inr (.inl (0, kp))), (368, .inr (.inl (0, tk))), (369, .inr (.inl (0, od))), (370, .inr (.inl (0, be)))] h0 := K.mg K9 rfl rfl
      clear K9
      show j_V jP _ 243 29 lv [.int ((m_gives th sst (m_whyNot w x1)).1)] h9 _
      refine j_V.ri ms5_M ms5_29 ?_
      rw [show (m_qwhy n th sst w x1) = _ from ((if_neg c5_0).trans ((if_neg c21_1).trans (rfl)))]
      exact ⟨rfl, sd, ot, tk, tm, hsd, hot, K⟩
  · replace c5_0 : (m_isTrain w x1) = 0 := jd_nen c5_0
    refine j_V.ldL ms5_M ms5_8 rfl (i := 0) (kd := 2) (v := .ref 359) (pcJ := 9) rfl L rfl rfl rfl ?_
    refine j_V.one ms5_M ms5_9 (by decide) (pcJ := 10) (stJ := [.int 2, .ref 359]) rfl ?_
    refine j_V.cl ms5_M ms5_10 rfl (md := 3) (mj := 169) rfl (by decide) mo0_M (As := [.ref 359, .int 2]) (rest := []) (jk_spl3 (K.at rfl) rfl rfl rfl (Nat.le_of_ble_eq_true rfl) (Nat.le_of_ble_eq_true rfl)) (fun d => mo0_ok (u := fun j => [.int th, .ref 360, .ref 361, .ref 362, .ref 363, .ref 364, .ref 365, .ref 366, .ref 367, (u 9), .int sst, (u 11), (u 12), .int acs, (u 14), (u 15), (u 16), (u 17), (u 18), (u 19), (u 20), (u 21), .ref 368, .int tm, .ref 369, .ref 370, .ref 371, (u 27)].getD j .null) (K.fi [359] rfl rfl)) ?_
    rintro r h9 ⟨rfl, K9⟩
    have K : KN h9 [(359, .inl (10, [.int ((m_refuse th sst 2).2.1), .ref 360, .ref 361, .ref 362, .ref 363, .ref 364, .ref 365, .ref 366, .ref 367, (u 9), .int ((m_refuse th sst 2).2.2), (u 11), (u 12), .int acs, (u 14), (u 15), (u 16), (u 17), (u 18), (u 19), (u 20), (u 21), .ref 368, .int tm, .ref 369, .ref 370, .ref 371, (u 27)])), (360, .inr (.inl (0, w))), (362, .inr (.inl (0, sd))), (363, .inr (.inl (0, ot))), (364, .inr (.inl (0, kp))), (368, .inr (.inl (0, tk))), (369, .inr (.inl (0, od))), (370, .inr (.inl (0, be)))] h0 := K.mg K9 rfl rfl
    clear K9
    show j_V jP _ 243 13 lv [.int ((m_refuse th sst 2).1)] h9 _
    refine j_V.ri ms5_M ms5_13 ?_
    rw [show (m_qwhy n th sst w x1) = _ from ((if_pos c5_0).trans (rfl))]
    exact ⟨rfl, sd, ot, tk, tm, hsd, hot, K⟩
set_option maxRecDepth 100000 in
theorem ms6_M : j_meth jP 248 = some (yX10_through, cX10_through, 2, (some .int), 1, false, 10) := rfl
set_option maxRecDepth 100000 in
theorem ms6_0 : j_code jP 248 0 = some (.iload_n 1) := rfl
set_option maxRecDepth 100000 in
theorem ms6_1 : j_code jP 248 1 = some (.iconst (-1)) := rfl
set_option maxRecDepth 100000 in
theorem ms6_2 : j_code jP 248 2 = some (.if_icmp .ge 9) := rfl
set_option maxRecDepth 100000 in
theorem ms6_5 : j_code jP 248 5 = some (.aload_n 0) := rfl
set_option maxRecDepth 100000 in
theorem ms6_6 : j_code jP 248 6 = some (.iconst 1) := rfl
set_option maxRecDepth 100000 in
theorem ms6_7 : j_code jP 248 7 = some (.invokevirtual 179) := rfl
set_option maxRecDepth 100000 in
theorem ms6_10 : j_code jP 248 10 = some (.ireturn) := rfl
set_option maxRecDepth 100000 in
theorem ms6_11 : j_code jP 248 11 = some (.aload_n 0) := rfl
set_option maxRecDepth 100000 in
theorem ms6_12 : j_code jP 248 12 = some (.invokevirtual 256) := rfl
set_option maxRecDepth 100000 in
theorem ms6_15 : j_code jP 248 15 = some (.pop) := rfl
set_option maxRecDepth 100000 in
theorem ms6_16 : j_code jP 248 16 = some (.iload_n 1) := rfl
set_option maxRecDepth 100000 in
theorem ms6_17 : j_code jP 248 17 = some (.iconst (-1)) := rfl
set_option maxRecDepth 100000 in
theorem ms6_18 : j_code jP 248 18 = some (.if_icmp .ne 14) := rfl
set_option maxRecDepth 100000 in
theorem ms6_21 : j_code jP 248 21 = some (.aload_n 0) := rfl
set_option maxRecDepth 100000 in
theorem ms6_22 : j_code jP 248 22 = some (.aload_n 0) := rfl
set_option maxRecDepth 100000 in
theorem ms6_23 : j_code jP 248 23 = some (.getfield 244) := rfl
set_option maxRecDepth 100000 in
theorem ms6_26 : j_code jP 248 26 = some (.invokevirtual 195) := rfl
set_option maxRecDepth 100000 in
theorem ms6_29 : j_code jP 248 29 = some (.goto 29) := rfl
set_option maxRecDepth 100000 in
theorem ms6_32 : j_code jP 248 32 = some (.iload_n 1) := rfl
set_option maxRecDepth 100000 in
theorem ms6_33 : j_code jP 248 33 = some (.aload_n 0) := rfl
set_option maxRecDepth 100000 in
theorem ms6_34 : j_code jP 248 34 = some (.getfield 244) := rfl
set_option maxRecDepth 100000 in
theorem ms6_37 : j_code jP 248 37 = some (.if_icmp .ge 16) := rfl
set_option maxRecDepth 100000 in
theorem ms6_40 : j_code jP 248 40 = some (.aload_n 0) := rfl
set_option maxRecDepth 100000 in
theorem ms6_41 : j_code jP 248 41 = some (.aload_n 0) := rfl
set_option maxRecDepth 100000 in
theorem ms6_42 : j_code jP 248 42 = some (.getfield 42) := rfl
set_option maxRecDepth 100000 in
theorem ms6_45 : j_code jP 248 45 = some (.iload_n 1) := rfl
set_option maxRecDepth 100000 in
theorem ms6_46 : j_code jP 248 46 = some (.iaload) := rfl
set_option maxRecDepth 100000 in
theorem ms6_47 : j_code jP 248 47 = some (.invokevirtual 195) := rfl
set_option maxRecDepth 100000 in
theorem ms6_50 : j_code jP 248 50 = some (.goto 8) := rfl
set_option maxRecDepth 100000 in
theorem ms6_53 : j_code jP 248 53 = some (.aload_n 0) := rfl
set_option maxRecDepth 100000 in
theorem ms6_54 : j_code jP 248 54 = some (.iconst 5) := rfl
set_option maxRecDepth 100000 in
theorem ms6_55 : j_code jP 248 55 = some (.invokevirtual 179) := rfl
set_option maxRecDepth 100000 in
theorem ms6_58 : j_code jP 248 58 = some (.ireturn) := rfl
def m_qthrough (n : Nat) (th : Int32) (sst : Int32) (w : List Int32) (tk : List Int32) (x1 : Int32) : Int32 × Int32 × Int32 := (if x1 < (-1) then (((m_refuse th sst 1).1), ((m_refuse th sst 1).2.1), ((m_refuse th sst 1).2.2)) else (if x1 = (-1) then (((m_gives th sst ((m_sf w n tk).2.2)).1), ((m_gives th sst ((m_sf w n tk).2.2)).2.1), ((m_gives th sst ((m_sf w n tk).2.2)).2.2)) else (if x1 < (m_sf w n tk).2.2 then (((m_gives th sst (gA (m_sf w n tk).2.1 x1)).1), ((m_gives th sst (gA (m_sf w n tk).2.1 x1)).2.1), ((m_gives th sst (gA (m_sf w n tk).2.1 x1)).2.2)) else (((m_refuse th sst 5).1), ((m_refuse th sst 5).2.1), ((m_refuse th sst 5).2.2)))))
set_option maxRecDepth 1000000 in
theorem ms6_ok {u : Nat → Value} {n d : Nat} {h h0 : J_H} {th sst acs tm x1 : Int32} {w sd ot kp tk od be : List Int32} {I J : List Int32 → Prop} (H : m_Inv n I J) (hI : I w) (hsd : sd.length = 602) (hot : ot.length = 602) (K : KN h [(359, .inl (10, [.int th, .ref 360, .ref 361, .ref 362, .ref 363, .ref 364, .ref 365, .ref 366, .ref 367, (u 9), .int sst, (u 11), (u 12), .int acs, (u 14), (u 15), (u 16), (u 17), (u 18), (u 19), (u 20), (u 21), .ref 368, .int tm, .ref 369, .ref 370, .ref 371, (u 27)])), (360, .inr (.inl (0, w))), (362, .inr (.inl (0, sd))), (363, .inr (.inl (0, ot))), (364, .inr (.inl (0, kp))), (368, .inr (.inl (0, tk))), (369, .inr (.inl (0, od))), (370, .inr (.inl (0, be)))] h0) : j_V jP d 248 0 (lv_args 0 [.ref 359, .int x1]) [] h (fun rv h' => rv = some (.int (m_qthrough n th sst w tk x1).1) ∧ ∃ (sd' ot' tk' : List Int32) (tm' : Int32), sd'.length = 602 ∧ ot'.length = 602 ∧ KN h' [(359, .inl (10, [.int (m_qthrough n th sst w tk x1).2.1, .ref 360, .ref 361, .ref 362, .ref 363, .ref 364, .ref 365, .ref 366, .ref 367, (u 9), .int (m_qthrough n th sst w tk x1).2.2, (u 11), (u 12), .int acs, (u 14), (u 15), (u 16), (u 17), (u 18), (u 19), (u 20), (u 21), .ref 368, .int tm', .ref 369, .ref 370, .ref 371, (u 27)])), (360, .inr (.inl (0, w))), (362, .inr (.inl (0, sd'))), (363, .inr (.inl (0, ot'))), (364, .inr (.inl (0, kp))), (368, .inr (.inl (0, tk'))), (369, .inr (.inl (0, od))), (370, .inr (.inl (0, be)))] h0) := by
  show j_V jP d 248 0 [(0, .ref 359), (1, .int x1)] [] h _
  obtain ⟨lv, elv, L⟩ : ∃ lv, lv = [(0, .ref 359), (1, .int x1)] ∧ LK lv [(0, .ref 359), (1, .int x1)] := ⟨_, rfl, LK.rf⟩
  rw [← elv]
  clear elv
  refine j_V.ldL ms6_M ms6_0 rfl (i := 1) (kd := 0) (v := .int x1) (pcJ := 1) rfl L rfl rfl rfl ?_
  refine j_V.one ms6_M ms6_1 (by decide) (pcJ := 2) (stJ := [.int (-1), .int x1]) rfl ?_
  refine j_V.icmp ms6_M ms6_2 (t := 11) rfl (fun c2_0 => ?_) (fun c2_0 => ?_)
  · replace c2_0 : ¬ (x1 < (-1)) := jd_ge c2_0
    refine j_V.ldL ms6_M ms6_11 rfl (i := 0) (kd := 2) (v := .ref 359) (pcJ := 12) rfl L rfl rfl rfl ?_
    refine j_V.cl ms6_M ms6_12 rfl (md := 3) (mj := 219) rfl (by decide) mh1_M (As := [.ref 359]) (rest := []) (jk_spl3 (K.at rfl) rfl rfl rfl (Nat.le_of_ble_eq_true rfl) (Nat.le_of_ble_eq_true rfl)) (fun d => mh1_ok (u := fun j => [.int th, .ref 360, .ref 361, .ref 362, .ref 363, .ref 364, .ref 365, .ref 366, .ref 367, (u 9), .int sst, (u 11), (u 12), .int acs, (u 14), (u 15), (u 16), (u 17), (u 18), (u 19), (u 20), (u 21), .ref 368, .int tm, .ref 369, .ref 370, .ref 371, (u 27)].getD j .null) (H.F _ hI) (K.fi [359, 360, 368] rfl rfl)) ?_
    rintro r h9 ⟨rfl, K9⟩
    have K : KN h9 [(359, .inl (10, [.int th, .ref 360, .ref 361, .ref 362, .ref 363, .ref 364, .ref 365, .ref 366, .ref 367, (u 9), .int sst, (u 11), (u 12), .int acs, (u 14), (u 15), (u 16), (u 17), (u 18), (u 19), (u 20), (u 21), .ref 368, .int (m_sf w n tk).2.2, .ref 369, .ref 370, .ref 371, (u 27)])), (360, .inr (.inl (0, w))), (362, .inr (.inl (0, sd))), (363, .inr (.inl (0, ot))), (364, .inr (.inl (0, kp))), (368, .inr (.inl (0, (m_sf w n tk).2.1))), (369, .inr (.inl (0, od))), (370, .inr (.inl (0, be)))] h0 := K.mg K9 rfl rfl
    clear K9
    show j_V jP _ 248 15 lv [.int (m_isSafe w n)] h9 _
    refine j_V.one ms6_M ms6_15 (by decide) (pcJ := 16) (stJ := []) rfl ?_
    refine j_V.ldL ms6_M ms6_16 rfl (i := 1) (kd := 0) (v := .int x1) (pcJ := 17) rfl L rfl rfl rfl ?_
    refine j_V.one ms6_M ms6_17 (by decide) (pcJ := 18) (stJ := [.int (-1), .int x1]) rfl ?_
    refine j_V.icmp ms6_M ms6_18 (t := 32) rfl (fun c18_1 => ?_) (fun c18_1 => ?_)
    · replace c18_1 : ¬ (x1 = (-1)) := jd_ne c18_1
      refine j_V.ldL ms6_M ms6_32 rfl (i := 1) (kd := 0) (v := .int x1) (pcJ := 33) rfl L rfl rfl rfl ?_
      refine j_V.ldL ms6_M ms6_33 rfl (i := 0) (kd := 2) (v := .ref 359) (pcJ := 34) rfl L rfl rfl rfl ?_
      refine j_V.getK ms6_M ms6_34 (ci := 10) (j := 23) rfl K rfl rfl ?_
      refine j_V.icmp ms6_M ms6_37 (t := 53) rfl (fun c37_2 => ?_) (fun c37_2 => ?_)
      · replace c37_2 : ¬ (x1 < (m_sf w n tk).2.2) := jd_ge c37_2
        refine j_V.ldL ms6_M ms6_53 rfl (i := 0) (kd := 2) (v := .ref 359) (pcJ := 54) rfl L rfl rfl rfl ?_
        refine j_V.one ms6_M ms6_54 (by decide) (pcJ := 55) (stJ := [.int 5, .ref 359]) rfl ?_
        refine j_V.cl ms6_M ms6_55 rfl (md := 3) (mj := 169) rfl (by decide) mo0_M (As := [.ref 359, .int 5]) (rest := []) (jk_spl3 (K.at rfl) rfl rfl rfl (Nat.le_of_ble_eq_true rfl) (Nat.le_of_ble_eq_true rfl)) (fun d => mo0_ok (u := fun j => [.int th, .ref 360, .ref 361, .ref 362, .ref 363, .ref 364, .ref 365, .ref 366, .ref 367, (u 9), .int sst, (u 11), (u 12), .int acs, (u 14), (u 15), (u 16), (u 17), (u 18), (u 19), (u 20), (u 21), .ref 368, .int (m_sf w n tk).2.2, .ref 369, .ref 370, .ref 371, (u 27)].getD j .null) (K.fi [359] rfl rfl)) ?_
        rintro r h9 ⟨rfl, K9⟩
        have K : KN h9 [(359, .inl (10, [.int ((m_refuse th sst 5).2.1), .ref 360, .ref 361, .ref 362, .ref 363, .ref 364, .ref 365, .ref 366, .ref 367, (u 9), .int ((m_refuse th sst 5).2.2), (u 11), (u 12), .int acs, (u 14), (u 15), (u 16), (u 17), (u 18), (u 19), (u 20), (u 21), .ref 368, .int (m_sf w n tk).2.2, .ref 369, .ref 370, .ref 371, (u 27)])), (360, .inr (.inl (0, w))), (362, .inr (.inl (0, sd))), (363, .inr (.inl (0, ot))), (364, .inr (.inl (0, kp))), (368, .inr (.inl (0, (m_sf w n tk).2.1))), (369, .inr (.inl (0, od))), (370, .inr (.inl (0, be)))] h0 := K.mg K9 rfl rfl
        clear K9
        show j_V jP _ 248 58 lv [.int ((m_refuse th sst 5).1)] h9 _
        refine j_V.ri ms6_M ms6_58 ?_
        rw [show (m_qthrough n th sst w tk x1) = _ from ((if_neg c2_0).trans ((if_neg c18_1).trans ((if_neg c37_2).trans (rfl))))]
        exact ⟨rfl, sd, ot, (m_sf w n tk).2.1, (m_sf w n tk).2.2, hsd, hot, K⟩
      · replace c37_2 : x1 < (m_sf w n tk).2.2 := jd_gen c37_2
        refine j_V.ldL ms6_M ms6_40 rfl (i := 0) (kd := 2) (v := .ref 359) (pcJ := 41) rfl L rfl rfl rfl ?_
        refine j_V.ldL ms6_M ms6_41 rfl (i := 0) (kd := 2) (v := .ref 359) (pcJ := 42) rfl L rfl rfl rfl ?_
        refine j_V.getK ms6_M ms6_42 (ci := 10) (j := 22) rfl K rfl rfl ?_
        refine j_V.ldL ms6_M ms6_45 rfl (i := 1) (kd := 0) (v := .int x1) (pcJ := 46) rfl L rfl rfl rfl ?_
        refine j_V.iaA ms6_M ms6_46 K rfl ?_
        refine j_V.cl ms6_M ms6_47 rfl (md := 3) (mj := 170) rfl (by decide) mo1_M (As := [.ref 359, .int (gA (m_sf w n tk).2.1 x1)]) (rest := []) (jk_spl3 (K.at rfl) rfl rfl rfl (Nat.le_of_ble_eq_true rfl) (Nat.le_of_ble_eq_true rfl)) (fun d => mo1_ok (u := fun j => [.int th, .ref 360, .ref 361, .ref 362, .ref 363, .ref 364, .ref 365, .ref 366, .ref 367, (u 9), .int sst, (u 11), (u 12), .int acs, (u 14), (u 15), (u 16), (u 17), (u 18), (u 19), (u 20), (u 21), .ref 368, .int (m_sf w n tk).2.2, .ref 369, .ref 370, .ref 371, (u 27)].getD j .null) (K.fi [359] rfl rfl)) ?_
        rintro r h9 ⟨rfl, K9⟩
        have K : KN h9 [(359, .inl (10, [.int ((m_gives th sst (gA (m_sf w n tk).2.1 x1)).2.1), .ref 360, .ref 361, .ref 362, .ref 363, .ref 364, .ref 365, .ref 366, .ref 367, (u 9), .int ((m_gives th sst (gA (m_sf w n tk).2.1 x1)).2.2), (u 11), (u 12), .int acs, (u 14), (u 15), (u 16), (u 17), (u 18), (u 19), (u 20), (u 21), .ref 368, .int (m_sf w n tk).2.2, .ref 369, .ref 370, .ref 371, (u 27)])), (360, .inr (.inl (0, w))), (362, .inr (.inl (0, sd))), (363, .inr (.inl (0, ot))), (364, .inr (.inl (0, kp))), (368, .inr (.inl (0, (m_sf w n tk).2.1))), (369, .inr (.inl (0, od))), (370, .inr (.inl (0, be)))] h0 := K.mg K9 rfl rfl
        clear K9
        show j_V jP _ 248 50 lv [.int ((m_gives th sst (gA (m_sf w n tk).2.1 x1)).1)] h9 _
        refine j_V.gto ms6_M ms6_50 (t := 58) rfl ?_
        refine j_V.ri ms6_M ms6_58 ?_
        rw [show (m_qthrough n th sst w tk x1) = _ from ((if_neg c2_0).trans ((if_neg c18_1).trans ((if_pos c37_2).trans (rfl))))]
        exact ⟨rfl, sd, ot, (m_sf w n tk).2.1, (m_sf w n tk).2.2, hsd, hot, K⟩
    · replace c18_1 : x1 = (-1) := jd_nen c18_1
      refine j_V.ldL ms6_M ms6_21 rfl (i := 0) (kd := 2) (v := .ref 359) (pcJ := 22) rfl L rfl rfl rfl ?_
      refine j_V.ldL ms6_M ms6_22 rfl (i := 0) (kd := 2) (v := .ref 359) (pcJ := 23) rfl L rfl rfl rfl ?_
      refine j_V.getK ms6_M ms6_23 (ci := 10) (j := 23) rfl K rfl rfl ?_
      refine j_V.cl ms6_M ms6_26 rfl (md := 3) (mj := 170) rfl (by decide) mo1_M (As := [.ref 359, .int (m_sf w n tk).2.2]) (rest := []) (jk_spl3 (K.at rfl) rfl rfl rfl (Nat.le_of_ble_eq_true rfl) (Nat.le_of_ble_eq_true rfl)) (fun d => mo1_ok (u := fun j => [.int th, .ref 360, .ref 361, .ref 362, .ref 363, .ref 364, .ref 365, .ref 366, .ref 367, (u 9), .int sst, (u 11), (u 12), .int acs, (u 14), (u 15), (u 16), (u 17), (u 18), (u 19), (u 20), (u 21), .ref 368, .int (m_sf w n tk).2.2, .ref 369, .ref 370, .ref 371, (u 27)].getD j .null) (K.fi [359] rfl rfl)) ?_
      rintro r h9 ⟨rfl, K9⟩
      have K : KN h9 [(359, .inl (10, [.int ((m_gives th sst ((m_sf w n tk).2.2)).2.1), .ref 360, .ref 361, .ref 362, .ref 363, .ref 364, .ref 365, .ref 366, .ref 367, (u 9), .int ((m_gives th sst ((m_sf w n tk).2.2)).2.2), (u 11), (u 12), .int acs, (u 14), (u 15), (u 16), (u 17), (u 18), (u 19), (u 20), (u 21), .ref 368, .int (m_sf w n tk).2.2, .ref 369, .ref 370, .ref 371, (u 27)])), (360, .inr (.inl (0, w))), (362, .inr (.inl (0, sd))), (363, .inr (.inl (0, ot))), (364, .inr (.inl (0, kp))), (368, .inr (.inl (0, (m_sf w n tk).2.1))), (369, .inr (.inl (0, od))), (370, .inr (.inl (0, be)))] h0 := K.mg K9 rfl rfl
      clear K9
      show j_V jP _ 248 29 lv [.int ((m_gives th sst ((m_sf w n tk).2.2)).1)] h9 _
      refine j_V.gto ms6_M ms6_29 (t := 58) rfl ?_
      refine j_V.ri ms6_M ms6_58 ?_
      rw [show (m_qthrough n th sst w tk x1) = _ from ((if_neg c2_0).trans ((if_pos c18_1).trans (rfl)))]
      exact ⟨rfl, sd, ot, (m_sf w n tk).2.1, (m_sf w n tk).2.2, hsd, hot, K⟩
  · replace c2_0 : x1 < (-1) := jd_gen c2_0
    refine j_V.ldL ms6_M ms6_5 rfl (i := 0) (kd := 2) (v := .ref 359) (pcJ := 6) rfl L rfl rfl rfl ?_
    refine j_V.one ms6_M ms6_6 (by decide) (pcJ := 7) (stJ := [.int 1, .ref 359]) rfl ?_
    refine j_V.cl ms6_M ms6_7 rfl (md := 3) (mj := 169) rfl (by decide) mo0_M (As := [.ref 359, .int 1]) (rest := []) (jk_spl3 (K.at rfl) rfl rfl rfl (Nat.le_of_ble_eq_true rfl) (Nat.le_of_ble_eq_true rfl)) (fun d => mo0_ok (u := fun j => [.int th, .ref 360, .ref 361, .ref 362, .ref 363, .ref 364, .ref 365, .ref 366, .ref 367, (u 9), .int sst, (u 11), (u 12), .int acs, (u 14), (u 15), (u 16), (u 17), (u 18), (u 19), (u 20), (u 21), .ref 368, .int tm, .ref 369, .ref 370, .ref 371, (u 27)].getD j .null) (K.fi [359] rfl rfl)) ?_
    rintro r h9 ⟨rfl, K9⟩
    have K : KN h9 [(359, .inl (10, [.int ((m_refuse th sst 1).2.1), .ref 360, .ref 361, .ref 362, .ref 363, .ref 364, .ref 365, .ref 366, .ref 367, (u 9), .int ((m_refuse th sst 1).2.2), (u 11), (u 12), .int acs, (u 14), (u 15), (u 16), (u 17), (u 18), (u 19), (u 20), (u 21), .ref 368, .int tm, .ref 369, .ref 370, .ref 371, (u 27)])), (360, .inr (.inl (0, w))), (362, .inr (.inl (0, sd))), (363, .inr (.inl (0, ot))), (364, .inr (.inl (0, kp))), (368, .inr (.inl (0, tk))), (369, .inr (.inl (0, od))), (370, .inr (.inl (0, be)))] h0 := K.mg K9 rfl rfl
    clear K9
    show j_V jP _ 248 10 lv [.int ((m_refuse th sst 1).1)] h9 _
    refine j_V.ri ms6_M ms6_10 ?_
    rw [show (m_qthrough n th sst w tk x1) = _ from ((if_pos c2_0).trans (rfl))]
    exact ⟨rfl, sd, ot, tk, tm, hsd, hot, K⟩
set_option maxRecDepth 100000 in
theorem ms7_M : j_meth jP 264 = some (yX10_ends, cX10_ends, 3, (some .int), 2, false, 10) := rfl
set_option maxRecDepth 100000 in
theorem ms7_0 : j_code jP 264 0 = some (.iload_n 2) := rfl
set_option maxRecDepth 100000 in
theorem ms7_1 : j_code jP 264 1 = some (.iconst 0) := rfl
set_option maxRecDepth 100000 in
theorem ms7_2 : j_code jP 264 2 = some (.iconst 4) := rfl
set_option maxRecDepth 100000 in
theorem ms7_3 : j_code jP 264 3 = some (.invokestatic 61) := rfl
set_option maxRecDepth 100000 in
theorem ms7_6 : j_code jP 264 6 = some (.ifCond .ne 9) := rfl
set_option maxRecDepth 100000 in
theorem ms7_9 : j_code jP 264 9 = some (.aload_n 0) := rfl
set_option maxRecDepth 100000 in
theorem ms7_10 : j_code jP 264 10 = some (.iconst 1) := rfl
set_option maxRecDepth 100000 in
theorem ms7_11 : j_code jP 264 11 = some (.invokevirtual 179) := rfl
set_option maxRecDepth 100000 in
theorem ms7_14 : j_code jP 264 14 = some (.ireturn) := rfl
set_option maxRecDepth 100000 in
theorem ms7_15 : j_code jP 264 15 = some (.aload_n 0) := rfl
set_option maxRecDepth 100000 in
theorem ms7_16 : j_code jP 264 16 = some (.getfield 7) := rfl
set_option maxRecDepth 100000 in
theorem ms7_19 : j_code jP 264 19 = some (.aload_n 0) := rfl
set_option maxRecDepth 100000 in
theorem ms7_20 : j_code jP 264 20 = some (.getfield 16) := rfl
set_option maxRecDepth 100000 in
theorem ms7_23 : j_code jP 264 23 = some (.invokestatic 188) := rfl
set_option maxRecDepth 100000 in
theorem ms7_26 : j_code jP 264 26 = some (.aload_n 0) := rfl
set_option maxRecDepth 100000 in
theorem ms7_27 : j_code jP 264 27 = some (.iload_n 1) := rfl
set_option maxRecDepth 100000 in
theorem ms7_28 : j_code jP 264 28 = some (.invokevirtual 295) := rfl
set_option maxRecDepth 100000 in
theorem ms7_31 : j_code jP 264 31 = some (.aload_n 0) := rfl
set_option maxRecDepth 100000 in
theorem ms7_32 : j_code jP 264 32 = some (.iload_n 2) := rfl
set_option maxRecDepth 100000 in
theorem ms7_33 : j_code jP 264 33 = some (.ifCond .ne 10) := rfl
set_option maxRecDepth 100000 in
theorem ms7_36 : j_code jP 264 36 = some (.aload_n 0) := rfl
set_option maxRecDepth 100000 in
theorem ms7_37 : j_code jP 264 37 = some (.invokevirtual 298) := rfl
set_option maxRecDepth 100000 in
theorem ms7_40 : j_code jP 264 40 = some (.goto 56) := rfl
set_option maxRecDepth 100000 in
theorem ms7_43 : j_code jP 264 43 = some (.iload_n 2) := rfl
set_option maxRecDepth 100000 in
theorem ms7_44 : j_code jP 264 44 = some (.iconst 1) := rfl
set_option maxRecDepth 100000 in
theorem ms7_45 : j_code jP 264 45 = some (.if_icmp .ne 14) := rfl
set_option maxRecDepth 100000 in
theorem ms7_48 : j_code jP 264 48 = some (.aload_n 0) := rfl
set_option maxRecDepth 100000 in
theorem ms7_49 : j_code jP 264 49 = some (.getfield 7) := rfl
set_option maxRecDepth 100000 in
theorem ms7_52 : j_code jP 264 52 = some (.sipush 201) := rfl
set_option maxRecDepth 100000 in
theorem ms7_55 : j_code jP 264 55 = some (.iaload) := rfl
set_option maxRecDepth 100000 in
theorem ms7_56 : j_code jP 264 56 = some (.goto 40) := rfl
set_option maxRecDepth 100000 in
theorem ms7_59 : j_code jP 264 59 = some (.iload_n 2) := rfl
set_option maxRecDepth 100000 in
theorem ms7_60 : j_code jP 264 60 = some (.iconst 2) := rfl
set_option maxRecDepth 100000 in
theorem ms7_61 : j_code jP 264 61 = some (.if_icmp .ne 11) := rfl
set_option maxRecDepth 100000 in
theorem ms7_64 : j_code jP 264 64 = some (.aload_n 0) := rfl
set_option maxRecDepth 100000 in
theorem ms7_65 : j_code jP 264 65 = some (.iconst 3) := rfl
set_option maxRecDepth 100000 in
theorem ms7_66 : j_code jP 264 66 = some (.invokevirtual 285) := rfl
set_option maxRecDepth 100000 in
theorem ms7_69 : j_code jP 264 69 = some (.goto 27) := rfl
set_option maxRecDepth 100000 in
theorem ms7_72 : j_code jP 264 72 = some (.iload_n 2) := rfl
set_option maxRecDepth 100000 in
theorem ms7_73 : j_code jP 264 73 = some (.iconst 3) := rfl
set_option maxRecDepth 100000 in
theorem ms7_74 : j_code jP 264 74 = some (.if_icmp .ne 18) := rfl
set_option maxRecDepth 100000 in
theorem ms7_77 : j_code jP 264 77 = some (.aload_n 0) := rfl
set_option maxRecDepth 100000 in
theorem ms7_78 : j_code jP 264 78 = some (.invokevirtual 288) := rfl
set_option maxRecDepth 100000 in
theorem ms7_81 : j_code jP 264 81 = some (.ifCond .eq 7) := rfl
set_option maxRecDepth 100000 in
theorem ms7_84 : j_code jP 264 84 = some (.iconst 1) := rfl
set_option maxRecDepth 100000 in
theorem ms7_85 : j_code jP 264 85 = some (.goto 11) := rfl
set_option maxRecDepth 100000 in
theorem ms7_88 : j_code jP 264 88 = some (.iconst 0) := rfl
set_option maxRecDepth 100000 in
theorem ms7_89 : j_code jP 264 89 = some (.goto 7) := rfl
set_option maxRecDepth 100000 in
theorem ms7_92 : j_code jP 264 92 = some (.aload_n 0) := rfl
set_option maxRecDepth 100000 in
theorem ms7_93 : j_code jP 264 93 = some (.invokevirtual 332) := rfl
set_option maxRecDepth 100000 in
theorem ms7_96 : j_code jP 264 96 = some (.invokevirtual 329) := rfl
set_option maxRecDepth 100000 in
theorem ms7_99 : j_code jP 264 99 = some (.ireturn) := rfl
def m_qends (n : Nat) (th : Int32) (sst : Int32) (w : List Int32) (x1 : Int32) (x2 : Int32) : Int32 × Int32 × Int32 := (if (m_isFrom x2 0 4) = 0 then (((m_refuse th sst 1).1), ((m_refuse th sst 1).2.1), ((m_refuse th sst 1).2.2)) else (if x2 = 0 then (((m_gives th sst (m_price (m_toTheEnd n w x1))).1), ((m_gives th sst (m_price (m_toTheEnd n w x1))).2.1), ((m_gives th sst (m_price (m_toTheEnd n w x1))).2.2)) else (if x2 = 1 then (((m_gives th sst (gA (m_toTheEnd n w x1) 201)).1), ((m_gives th sst (gA (m_toTheEnd n w x1) 201)).2.1), ((m_gives th sst (gA (m_toTheEnd n w x1) 201)).2.2)) else (if x2 = 2 then (((m_gives th sst (m_howMany (m_toTheEnd n w x1) 3)).1), ((m_gives th sst (m_howMany (m_toTheEnd n w x1) 3)).2.1), ((m_gives th sst (m_howMany (m_toTheEnd n w x1) 3)).2.2)) else (if x2 = 3 then (if (m_isStuck (m_toTheEnd n w x1)) = 0 then (((m_gives th sst 0).1), ((m_gives th sst 0).2.1), ((m_gives th sst 0).2.2)) else (((m_gives th sst 1).1), ((m_gives th sst 1).2.1), ((m_gives th sst 1).2.2))) else (((m_gives th sst (m_allUse (m_toTheEnd n w x1))).1), ((m_gives th sst (m_allUse (m_toTheEnd n w x1))).2.1), ((m_gives th sst (m_allUse (m_toTheEnd n w x1))).2.2)))))))
set_option maxRecDepth 1000000 in
theorem ms7_ok {u : Nat → Value} {n d : Nat} {h h0 : J_H} {th sst acs tm x1 x2 : Int32} {w sd ot kp tk od be : List Int32} {I J : List Int32 → Prop} (H : m_Inv n I J) (hI : I w) (hsd : sd.length = 602) (hot : ot.length = 602) (K : KN h [(359, .inl (10, [.int th, .ref 360, .ref 361, .ref 362, .ref 363, .ref 364, .ref 365, .ref 366, .ref 367, (u 9), .int sst, (u 11), (u 12), .int acs, (u 14), (u 15), (u 16), (u 17), (u 18), (u 19), (u 20), (u 21), .ref 368, .int tm, .ref 369, .ref 370, .ref 371, (u 27)])), (360, .inr (.inl (0, w))), (362, .inr (.inl (0, sd))), (363, .inr (.inl (0, ot))), (364, .inr (.inl (0, kp))), (368, .inr (.inl (0, tk))), (369, .inr (.inl (0, od))), (370, .inr (.inl (0, be)))] h0) : j_V jP d 264 0 (lv_args 0 [.ref 359, .int x1, .int x2]) [] h (fun rv h' => rv = some (.int (m_qends n th sst w x1 x2).1) ∧ ∃ (sd' ot' tk' : List Int32) (tm' : Int32), sd'.length = 602 ∧ ot'.length = 602 ∧ KN h' [(359, .inl (10, [.int (m_qends n th sst w x1 x2).2.1, .ref 360, .ref 361, .ref 362, .ref 363, .ref 364, .ref 365, .ref 366, .ref 367, (u 9), .int (m_qends n th sst w x1 x2).2.2, (u 11), (u 12), .int acs, (u 14), (u 15), (u 16), (u 17), (u 18), (u 19), (u 20), (u 21), .ref 368, .int tm', .ref 369, .ref 370, .ref 371, (u 27)])), (360, .inr (.inl (0, w))), (362, .inr (.inl (0, sd'))), (363, .inr (.inl (0, ot'))), (364, .inr (.inl (0, kp))), (368, .inr (.inl (0, tk'))), (369, .inr (.inl (0, od))), (370, .inr (.inl (0, be)))] h0) := by
  show j_V jP d 264 0 [(0, .ref 359), (1, .int x1), (2, .int x2)] [] h _
  obtain ⟨lv, elv, L⟩ : ∃ lv, lv = [(0, .ref 359), (1, .int x1), (2, .int x2)] ∧ LK lv [(0, .ref 359), (1, .int x1), (2, .int x2)] := ⟨_, rfl, LK.rf⟩
  rw [← elv]
  clear elv
  refine j_V.ldL ms7_M ms7_0 rfl (i := 2) (kd := 0) (v := .int x2) (pcJ := 1) rfl L rfl rfl rfl ?_
  refine j_V.one ms7_M ms7_1 (by decide) (pcJ := 2) (stJ := [.int 0, .int x2]) rfl ?_
  refine j_V.one ms7_M ms7_2 (by decide) (pcJ := 3) (stJ := [.int 4, .int 0, .int x2]) rfl ?_
  refine j_V.cl ms7_M ms7_3 rfl (md := 2) (mj := 171) rfl (by decide) ma0_M (As := [.int x2, .int 0, .int 4]) (rest := []) (jk_spl2 rfl rfl (Nat.le_of_ble_eq_true rfl) (Nat.le_of_ble_eq_true rfl)) (fun d => ma0_ok (K.fi [] rfl rfl)) ?_
  rintro r hz ⟨rfl, ez⟩
  rw [ez]
  clear ez
  show j_V jP _ 264 6 lv [.int (m_isFrom x2 0 4)] h _
  refine j_V.ifc ms7_M ms7_6 (t := 15) rfl (fun c6_0 => ?_) (fun c6_0 => ?_)
  · replace c6_0 : ¬ ((m_isFrom x2 0 4) = 0) := jd_ne c6_0
    refine j_V.ldL ms7_M ms7_15 rfl (i := 0) (kd := 2) (v := .ref 359) (pcJ := 16) rfl L rfl rfl rfl ?_
    refine j_V.getK ms7_M ms7_16 (ci := 10) (j := 1) rfl K rfl rfl ?_
    refine j_V.ldL ms7_M ms7_19 rfl (i := 0) (kd := 2) (v := .ref 359) (pcJ := 20) rfl L rfl rfl rfl ?_
    refine j_V.getK ms7_M ms7_20 (ci := 10) (j := 3) rfl K rfl rfl ?_
    refine j_V.cl ms7_M ms7_23 rfl (md := 2) (mj := 201) rfl (by decide) mi2_M (As := [.ref 360, .ref 362]) (rest := []) (jk_spl2 rfl rfl (Nat.le_of_ble_eq_true rfl) (Nat.le_of_ble_eq_true rfl)) (fun d => mi2_ok (K.fi [360, 362] rfl rfl)) ?_
    rintro r h9 ⟨rfl, K9⟩
    have K : KN h9 [(359, .inl (10, [.int th, .ref 360, .ref 361, .ref 362, .ref 363, .ref 364, .ref 365, .ref 366, .ref 367, (u 9), .int sst, (u 11), (u 12), .int acs, (u 14), (u 15), (u 16), (u 17), (u 18), (u 19), (u 20), (u 21), .ref 368, .int tm, .ref 369, .ref 370, .ref 371, (u 27)])), (360, .inr (.inl (0, w))), (362, .inr (.inl (0, ((m_copies w sd))))), (363, .inr (.inl (0, ot))), (364, .inr (.inl (0, kp))), (368, .inr (.inl (0, tk))), (369, .inr (.inl (0, od))), (370, .inr (.inl (0, be)))] h0 := K.mg K9 rfl rfl
    clear K9
    show j_V jP _ 264 26 lv [] h9 _
    rw [m_cp (H.I1 _ hI).1 hsd] at K
    refine j_V.ldL ms7_M ms7_26 rfl (i := 0) (kd := 2) (v := .ref 359) (pcJ := 27) rfl L rfl rfl rfl ?_
    refine j_V.ldL ms7_M ms7_27 rfl (i := 1) (kd := 0) (v := .int x1) (pcJ := 28) rfl L rfl rfl rfl ?_
    refine j_V.cl ms7_M ms7_28 rfl (md := 3) (mj := 231) rfl (by decide) ms0_M (As := [.ref 359, .int x1]) (rest := []) (jk_spl3 (K.at rfl) rfl rfl rfl (Nat.le_of_ble_eq_true rfl) (Nat.le_of_ble_eq_true rfl)) (fun d => ms09_ok (u := fun j => [.int th, .ref 360, .ref 361, .ref 362, .ref 363, .ref 364, .ref 365, .ref 366, .ref 367, (u 9), .int sst, (u 11), (u 12), .int acs, (u 14), (u 15), (u 16), (u 17), (u 18), (u 19), (u 20), (u 21), .ref 368, .int tm, .ref 369, .ref 370, .ref 371, (u 27)].getD j .null) H hI hot (K.fi [359, 360, 363, 368] rfl rfl)) ?_
    rintro r h9 ⟨rfl, hI3, ot3, tk3, tm3, ho3, K9⟩
    have K : KN h9 [(359, .inl (10, [.int th, .ref 360, .ref 361, .ref 362, .ref 363, .ref 364, .ref 365, .ref 366, .ref 367, (u 9), .int sst, (u 11), (u 12), .int acs, (u 14), (u 15), (u 16), (u 17), (u 18), (u 19), (u 20), (u 21), .ref 368, .int tm3, .ref 369, .ref 370, .ref 371, (u 27)])), (360, .inr (.inl (0, (m_toTheEnd n w x1)))), (362, .inr (.inl (0, w))), (363, .inr (.inl (0, ot3))), (364, .inr (.inl (0, kp))), (368, .inr (.inl (0, tk3))), (369, .inr (.inl (0, od))), (370, .inr (.inl (0, be)))] h0 := K.mg K9 rfl rfl
    clear K9
    show j_V jP _ 264 31 lv [] h9 _
    refine j_V.ldL ms7_M ms7_31 rfl (i := 0) (kd := 2) (v := .ref 359) (pcJ := 32) rfl L rfl rfl rfl ?_
    refine j_V.ldL ms7_M ms7_32 rfl (i := 2) (kd := 0) (v := .int x2) (pcJ := 33) rfl L rfl rfl rfl ?_
    refine j_V.ifc ms7_M ms7_33 (t := 43) rfl (fun c33_1 => ?_) (fun c33_1 => ?_)
    · replace c33_1 : ¬ (x2 = 0) := jd_ne c33_1
      refine j_V.ldL ms7_M ms7_43 rfl (i := 2) (kd := 0) (v := .int x2) (pcJ := 44) rfl L rfl rfl rfl ?_
      refine j_V.one ms7_M ms7_44 (by decide) (pcJ := 45) (stJ := [.int 1, .int x2, .ref 359]) rfl ?_
      refine j_V.icmp ms7_M ms7_45 (t := 59) rfl (fun c45_2 => ?_) (fun c45_2 => ?_)
      · replace c45_2 : ¬ (x2 = 1) := jd_ne c45_2
        refine j_V.ldL ms7_M ms7_59 rfl (i := 2) (kd := 0) (v := .int x2) (pcJ := 60) rfl L rfl rfl rfl ?_
        refine j_V.one ms7_M ms7_60 (by decide) (pcJ := 61) (stJ := [.int 2, .int x2, .ref 359]) rfl ?_
        refine j_V.icmp ms7_M ms7_61 (t := 72) rfl (fun c61_3 => ?_) (fun c61_3 => ?_)
        · replace c61_3 : ¬ (x2 = 2) := jd_ne c61_3
          refine j_V.ldL ms7_M ms7_72 rfl (i := 2) (kd := 0) (v := .int x2) (pcJ := 73) rfl L rfl rfl rfl ?_
          refine j_V.one ms7_M ms7_73 (by decide) (pcJ := 74) (stJ := [.int 3, .int x2, .ref 359]) rfl ?_
          refine j_V.icmp ms7_M ms7_74 (t := 92) rfl (fun c74_4 => ?_) (fun c74_4 => ?_)
          · replace c74_4 : ¬ (x2 = 3) := jd_ne c74_4
            refine j_V.ldL ms7_M ms7_92 rfl (i := 0) (kd := 2) (v := .ref 359) (pcJ := 93) rfl L rfl rfl rfl ?_
            refine j_V.cl ms7_M ms7_93 rfl (md := 3) (mj := 263) rfl (by decide) mc8_M (As := [.ref 359]) (rest := [.ref 359]) (jk_spl3 (K.at rfl) rfl rfl rfl (Nat.le_of_ble_eq_true rfl) (Nat.le_of_ble_eq_true rfl)) (fun d => mc8_ok (u := fun j => [.int th, .ref 360, .ref 361, .ref 362, .ref 363, .ref 364, .ref 365, .ref 366, .ref 367, (u 9), .int sst, (u 11), (u 12), .int acs, (u 14), (u 15), (u 16), (u 17), (u 18), (u 19), (u 20), (u 21), .ref 368, .int tm3, .ref 369, .ref 370, .ref 371, (u 27)].getD j .null) (K.fi [359, 360] rfl rfl)) ?_
            rintro r hz ⟨rfl, ez⟩
            rw [ez]
            clear ez
            show j_V jP _ 264 96 lv [.int (m_allUse (m_toTheEnd n w x1)), .ref 359] h9 _
            refine j_V.cl ms7_M ms7_96 rfl (md := 3) (mj := 261) rfl (by decide) ms2_M (As := [.ref 359, .int (m_allUse (m_toTheEnd n w x1))]) (rest := []) (jk_spl3 (K.at rfl) rfl rfl rfl (Nat.le_of_ble_eq_true rfl) (Nat.le_of_ble_eq_true rfl)) (fun d => ms2_ok (u := fun j => [.int th, .ref 360, .ref 361, .ref 362, .ref 363, .ref 364, .ref 365, .ref 366, .ref 367, (u 9), .int sst, (u 11), (u 12), .int acs, (u 14), (u 15), (u 16), (u 17), (u 18), (u 19), (u 20), (u 21), .ref 368, .int tm3, .ref 369, .ref 370, .ref 371, (u 27)].getD j .null) (H.I1 _ hI3).1 (H.I1 _ hI).1 (K.fi [359, 360, 362] rfl rfl)) ?_
            rintro r h9 ⟨rfl, K9⟩
            have K : KN h9 [(359, .inl (10, [.int ((m_gives th sst (m_allUse (m_toTheEnd n w x1))).2.1), .ref 360, .ref 361, .ref 362, .ref 363, .ref 364, .ref 365, .ref 366, .ref 367, (u 9), .int ((m_gives th sst (m_allUse (m_toTheEnd n w x1))).2.2), (u 11), (u 12), .int acs, (u 14), (u 15), (u 16), (u 17), (u 18), (u 19), (u 20), (u 21), .ref 368, .int tm3, .ref 369, .ref 370, .ref 371, (u 27)])), (360, .inr (.inl (0, w))), (362, .inr (.inl (0, w))), (363, .inr (.inl (0, ot3))), (364, .inr (.inl (0, kp))), (368, .inr (.inl (0, tk3))), (369, .inr (.inl (0, od))), (370, .inr (.inl (0, be)))] h0 := K.mg K9 rfl rfl
            clear K9
            show j_V jP _ 264 99 lv [.int ((m_gives th sst (m_allUse (m_toTheEnd n w x1))).1)] h9 _
            refine j_V.ri ms7_M ms7_99 ?_
            rw [show (m_qends n th sst w x1 x2) = _ from ((if_neg c6_0).trans ((if_neg c33_1).trans ((if_neg c45_2).trans ((if_neg c61_3).trans ((if_neg c74_4).trans (rfl))))))]
            exact ⟨rfl, w, ot3, tk3, tm3, (H.I1 _ hI).1, ho3, K⟩
          · replace c74_4 : x2 = 3 := jd_nen c74_4
            refine j_V.ldL ms7_M ms7_77 rfl (i := 0) (kd := 2) (v := .ref 359) (pcJ := 78) rfl L rfl rfl rfl ?_
            refine j_V.cl ms7_M ms7_78 rfl (md := 3) (mj := 220) rfl (by decide) mb7_M (As := [.ref 359]) (rest := [.ref 359]) (jk_spl3 (K.at rfl) rfl rfl rfl (Nat.le_of_ble_eq_true rfl) (Nat.le_of_ble_eq_true rfl)) (fun d => mb7_ok (u := fun j => [.int th, .ref 360, .ref 361, .ref 362, .ref 363, .ref 364, .ref 365, .ref 366, .ref 367, (u 9), .int sst, (u 11), (u 12), .int acs, (u 14), (u 15), (u 16), (u 17), (u 18), (u 19), (u 20), (u 21), .ref 368, .int tm3, .ref 369, .ref 370, .ref 371, (u 27)].getD j .null) (K.fi [359, 360] rfl rfl)) ?_
            rintro r hz ⟨rfl, ez⟩
            rw [ez]
            clear ez
            show j_V jP _ 264 81 lv [.int (m_isStuck (m_toTheEnd n w x1)), .ref 359] h9 _
            refine j_V.ifc ms7_M ms7_81 (t := 88) rfl (fun c81_5 => ?_) (fun c81_5 => ?_)
            · replace c81_5 : (m_isStuck (m_toTheEnd n w x1)) = 0 := jd_eq c81_5
              refine j_V.one ms7_M ms7_88 (by decide) (pcJ := 89) (stJ := [.int 0, .ref 359]) rfl ?_
              refine j_V.gto ms7_M ms7_89 (t := 96) rfl ?_
              refine j_V.cl ms7_M ms7_96 rfl (md := 3) (mj := 261) rfl (by decide) ms2_M (As := [.ref 359, .int 0]) (rest := []) (jk_spl3 (K.at rfl) rfl rfl rfl (Nat.le_of_ble_eq_true rfl) (Nat.le_of_ble_eq_true rfl)) (fun d => ms2_ok (u := fun j => [.int th, .ref 360, .ref 361, .ref 362, .ref 363, .ref 364, .ref 365, .ref 366, .ref 367, (u 9), .int sst, (u 11), (u 12), .int acs, (u 14), (u 15), (u 16), (u 17), (u 18), (u 19), (u 20), (u 21), .ref 368, .int tm3, .ref 369, .ref 370, .ref 371, (u 27)].getD j .null) (H.I1 _ hI3).1 (H.I1 _ hI).1 (K.fi [359, 360, 362] rfl rfl)) ?_
              rintro r h9 ⟨rfl, K9⟩
              have K : KN h9 [(359, .inl (10, [.int ((m_gives th sst 0).2.1), .ref 360, .ref 361, .ref 362, .ref 363, .ref 364, .ref 365, .ref 366, .ref 367, (u 9), .int ((m_gives th sst 0).2.2), (u 11), (u 12), .int acs, (u 14), (u 15), (u 16), (u 17), (u 18), (u 19), (u 20), (u 21), .ref 368, .int tm3, .ref 369, .ref 370, .ref 371, (u 27)])), (360, .inr (.inl (0, w))), (362, .inr (.inl (0, w))), (363, .inr (.inl (0, ot3))), (364, .inr (.inl (0, kp))), (368, .inr (.inl (0, tk3))), (369, .inr (.inl (0, od))), (370, .inr (.inl (0, be)))] h0 := K.mg K9 rfl rfl
              clear K9
              show j_V jP _ 264 99 lv [.int ((m_gives th sst 0).1)] h9 _
              refine j_V.ri ms7_M ms7_99 ?_
              rw [show (m_qends n th sst w x1 x2) = _ from ((if_neg c6_0).trans ((if_neg c33_1).trans ((if_neg c45_2).trans ((if_neg c61_3).trans ((if_pos c74_4).trans ((if_pos c81_5).trans (rfl)))))))]
              exact ⟨rfl, w, ot3, tk3, tm3, (H.I1 _ hI).1, ho3, K⟩
            · replace c81_5 : ¬ ((m_isStuck (m_toTheEnd n w x1)) = 0) := jd_eqn c81_5
              refine j_V.one ms7_M ms7_84 (by decide) (pcJ := 85) (stJ := [.int 1, .ref 359]) rfl ?_
              refine j_V.gto ms7_M ms7_85 (t := 96) rfl ?_
              refine j_V.cl ms7_M ms7_96 rfl (md := 3) (mj := 261) rfl (by decide) ms2_M (As := [.ref 359, .int 1]) (rest := []) (jk_spl3 (K.at rfl) rfl rfl rfl (Nat.le_of_ble_eq_true rfl) (Nat.le_of_ble_eq_true rfl)) (fun d => ms2_ok (u := fun j => [.int th, .ref 360, .ref 361, .ref 362, .ref 363, .ref 364, .ref 365, .ref 366, .ref 367, (u 9), .int sst, (u 11), (u 12), .int acs, (u 14), (u 15), (u 16), (u 17), (u 18), (u 19), (u 20), (u 21), .ref 368, .int tm3, .ref 369, .ref 370, .ref 371, (u 27)].getD j .null) (H.I1 _ hI3).1 (H.I1 _ hI).1 (K.fi [359, 360, 362] rfl rfl)) ?_
              rintro r h9 ⟨rfl, K9⟩
              have K : KN h9 [(359, .inl (10, [.int ((m_gives th sst 1).2.1), .ref 360, .ref 361, .ref 362, .ref 363, .ref 364, .ref 365, .ref 366, .ref 367, (u 9), .int ((m_gives th sst 1).2.2), (u 11), (u 12), .int acs, (u 14), (u 15), (u 16), (u 17), (u 18), (u 19), (u 20), (u 21), .ref 368, .int tm3, .ref 369, .ref 370, .ref 371, (u 27)])), (360, .inr (.inl (0, w))), (362, .inr (.inl (0, w))), (363, .inr (.inl (0, ot3))), (364, .inr (.inl (0, kp))), (368, .inr (.inl (0, tk3))), (369, .inr (.inl (0, od))), (370, .inr (.inl (0, be)))] h0 := K.mg K9 rfl rfl
              clear K9
              show j_V jP _ 264 99 lv [.int ((m_gives th sst 1).1)] h9 _
              refine j_V.ri ms7_M ms7_99 ?_
              rw [show (m_qends n th sst w x1 x2) = _ from ((if_neg c6_0).trans ((if_neg c33_1).trans ((if_neg c45_2).trans ((if_neg c61_3).trans ((if_pos c74_4).trans ((if_neg c81_5).trans (rfl)))))))]
              exact ⟨rfl, w, ot3, tk3, tm3, (H.I1 _ hI).1, ho3, K⟩
        · replace c61_3 : x2 = 2 := jd_nen c61_3
          refine j_V.ldL ms7_M ms7_64 rfl (i := 0) (kd := 2) (v := .ref 359) (pcJ := 65) rfl L rfl rfl rfl ?_
          refine j_V.one ms7_M ms7_65 (by decide) (pcJ := 66) (stJ := [.int 3, .ref 359, .ref 359]) rfl ?_
          refine j_V.cl ms7_M ms7_66 rfl (md := 3) (mj := 229) rfl (by decide) mc2_M (As := [.ref 359, .int 3]) (rest := [.ref 359]) (jk_spl3 (K.at rfl) rfl rfl rfl (Nat.le_of_ble_eq_true rfl) (Nat.le_of_ble_eq_true rfl)) (fun d => mc2_ok (u := fun j => [.int th, .ref 360, .ref 361, .ref 362, .ref 363, .ref 364, .ref 365, .ref 366, .ref 367, (u 9), .int sst, (u 11), (u 12), .int acs, (u 14), (u 15), (u 16), (u 17), (u 18), (u 19), (u 20), (u 21), .ref 368, .int tm3, .ref 369, .ref 370, .ref 371, (u 27)].getD j .null) (K.fi [359, 360] rfl rfl)) ?_
          rintro r hz ⟨rfl, ez⟩
          rw [ez]
          clear ez
          show j_V jP _ 264 69 lv [.int (m_howMany (m_toTheEnd n w x1) 3), .ref 359] h9 _
          refine j_V.gto ms7_M ms7_69 (t := 96) rfl ?_
          refine j_V.cl ms7_M ms7_96 rfl (md := 3) (mj := 261) rfl (by decide) ms2_M (As := [.ref 359, .int (m_howMany (m_toTheEnd n w x1) 3)]) (rest := []) (jk_spl3 (K.at rfl) rfl rfl rfl (Nat.le_of_ble_eq_true rfl) (Nat.le_of_ble_eq_true rfl)) (fun d => ms2_ok (u := fun j => [.int th, .ref 360, .ref 361, .ref 362, .ref 363, .ref 364, .ref 365, .ref 366, .ref 367, (u 9), .int sst, (u 11), (u 12), .int acs, (u 14), (u 15), (u 16), (u 17), (u 18), (u 19), (u 20), (u 21), .ref 368, .int tm3, .ref 369, .ref 370, .ref 371, (u 27)].getD j .null) (H.I1 _ hI3).1 (H.I1 _ hI).1 (K.fi [359, 360, 362] rfl rfl)) ?_
          rintro r h9 ⟨rfl, K9⟩
          have K : KN h9 [(359, .inl (10, [.int ((m_gives th sst (m_howMany (m_toTheEnd n w x1) 3)).2.1), .ref 360, .ref 361, .ref 362, .ref 363, .ref 364, .ref 365, .ref 366, .ref 367, (u 9), .int ((m_gives th sst (m_howMany (m_toTheEnd n w x1) 3)).2.2), (u 11), (u 12), .int acs, (u 14), (u 15), (u 16), (u 17), (u 18), (u 19), (u 20), (u 21), .ref 368, .int tm3, .ref 369, .ref 370, .ref 371, (u 27)])), (360, .inr (.inl (0, w))), (362, .inr (.inl (0, w))), (363, .inr (.inl (0, ot3))), (364, .inr (.inl (0, kp))), (368, .inr (.inl (0, tk3))), (369, .inr (.inl (0, od))), (370, .inr (.inl (0, be)))] h0 := K.mg K9 rfl rfl
          clear K9
          show j_V jP _ 264 99 lv [.int ((m_gives th sst (m_howMany (m_toTheEnd n w x1) 3)).1)] h9 _
          refine j_V.ri ms7_M ms7_99 ?_
          rw [show (m_qends n th sst w x1 x2) = _ from ((if_neg c6_0).trans ((if_neg c33_1).trans ((if_neg c45_2).trans ((if_pos c61_3).trans (rfl)))))]
          exact ⟨rfl, w, ot3, tk3, tm3, (H.I1 _ hI).1, ho3, K⟩
      · replace c45_2 : x2 = 1 := jd_nen c45_2
        refine j_V.ldL ms7_M ms7_48 rfl (i := 0) (kd := 2) (v := .ref 359) (pcJ := 49) rfl L rfl rfl rfl ?_
        refine j_V.getK ms7_M ms7_49 (ci := 10) (j := 1) rfl K rfl rfl ?_
        refine j_V.one ms7_M ms7_52 (by decide) (pcJ := 55) (stJ := [.int 201, .ref 360, .ref 359]) rfl ?_
        refine j_V.iaA ms7_M ms7_55 K rfl ?_
        refine j_V.gto ms7_M ms7_56 (t := 96) rfl ?_
        refine j_V.cl ms7_M ms7_96 rfl (md := 3) (mj := 261) rfl (by decide) ms2_M (As := [.ref 359, .int (gA (m_toTheEnd n w x1) 201)]) (rest := []) (jk_spl3 (K.at rfl) rfl rfl rfl (Nat.le_of_ble_eq_true rfl) (Nat.le_of_ble_eq_true rfl)) (fun d => ms2_ok (u := fun j => [.int th, .ref 360, .ref 361, .ref 362, .ref 363, .ref 364, .ref 365, .ref 366, .ref 367, (u 9), .int sst, (u 11), (u 12), .int acs, (u 14), (u 15), (u 16), (u 17), (u 18), (u 19), (u 20), (u 21), .ref 368, .int tm3, .ref 369, .ref 370, .ref 371, (u 27)].getD j .null) (H.I1 _ hI3).1 (H.I1 _ hI).1 (K.fi [359, 360, 362] rfl rfl)) ?_
        rintro r h9 ⟨rfl, K9⟩
        have K : KN h9 [(359, .inl (10, [.int ((m_gives th sst (gA (m_toTheEnd n w x1) 201)).2.1), .ref 360, .ref 361, .ref 362, .ref 363, .ref 364, .ref 365, .ref 366, .ref 367, (u 9), .int ((m_gives th sst (gA (m_toTheEnd n w x1) 201)).2.2), (u 11), (u 12), .int acs, (u 14), (u 15), (u 16), (u 17), (u 18), (u 19), (u 20), (u 21), .ref 368, .int tm3, .ref 369, .ref 370, .ref 371, (u 27)])), (360, .inr (.inl (0, w))), (362, .inr (.inl (0, w))), (363, .inr (.inl (0, ot3))), (364, .inr (.inl (0, kp))), (368, .inr (.inl (0, tk3))), (369, .inr (.inl (0, od))), (370, .inr (.inl (0, be)))] h0 := K.mg K9 rfl rfl
        clear K9
        show j_V jP _ 264 99 lv [.int ((m_gives th sst (gA (m_toTheEnd n w x1) 201)).1)] h9 _
        refine j_V.ri ms7_M ms7_99 ?_
        rw [show (m_qends n th sst w x1 x2) = _ from ((if_neg c6_0).trans ((if_neg c33_1).trans ((if_pos c45_2).trans (rfl))))]
        exact ⟨rfl, w, ot3, tk3, tm3, (H.I1 _ hI).1, ho3, K⟩
    · replace c33_1 : x2 = 0 := jd_nen c33_1
      refine j_V.ldL ms7_M ms7_36 rfl (i := 0) (kd := 2) (v := .ref 359) (pcJ := 37) rfl L rfl rfl rfl ?_
      refine j_V.cl ms7_M ms7_37 rfl (md := 3) (mj := 230) rfl (by decide) mc3_M (As := [.ref 359]) (rest := [.ref 359]) (jk_spl3 (K.at rfl) rfl rfl rfl (Nat.le_of_ble_eq_true rfl) (Nat.le_of_ble_eq_true rfl)) (fun d => mc3_ok (u := fun j => [.int th, .ref 360, .ref 361, .ref 362, .ref 363, .ref 364, .ref 365, .ref 366, .ref 367, (u 9), .int sst, (u 11), (u 12), .int acs, (u 14), (u 15), (u 16), (u 17), (u 18), (u 19), (u 20), (u 21), .ref 368, .int tm3, .ref 369, .ref 370, .ref 371, (u 27)].getD j .null) (K.fi [359, 360] rfl rfl)) ?_
      rintro r hz ⟨rfl, ez⟩
      rw [ez]
      clear ez
      show j_V jP _ 264 40 lv [.int (m_price (m_toTheEnd n w x1)), .ref 359] h9 _
      refine j_V.gto ms7_M ms7_40 (t := 96) rfl ?_
      refine j_V.cl ms7_M ms7_96 rfl (md := 3) (mj := 261) rfl (by decide) ms2_M (As := [.ref 359, .int (m_price (m_toTheEnd n w x1))]) (rest := []) (jk_spl3 (K.at rfl) rfl rfl rfl (Nat.le_of_ble_eq_true rfl) (Nat.le_of_ble_eq_true rfl)) (fun d => ms2_ok (u := fun j => [.int th, .ref 360, .ref 361, .ref 362, .ref 363, .ref 364, .ref 365, .ref 366, .ref 367, (u 9), .int sst, (u 11), (u 12), .int acs, (u 14), (u 15), (u 16), (u 17), (u 18), (u 19), (u 20), (u 21), .ref 368, .int tm3, .ref 369, .ref 370, .ref 371, (u 27)].getD j .null) (H.I1 _ hI3).1 (H.I1 _ hI).1 (K.fi [359, 360, 362] rfl rfl)) ?_
      rintro r h9 ⟨rfl, K9⟩
      have K : KN h9 [(359, .inl (10, [.int ((m_gives th sst (m_price (m_toTheEnd n w x1))).2.1), .ref 360, .ref 361, .ref 362, .ref 363, .ref 364, .ref 365, .ref 366, .ref 367, (u 9), .int ((m_gives th sst (m_price (m_toTheEnd n w x1))).2.2), (u 11), (u 12), .int acs, (u 14), (u 15), (u 16), (u 17), (u 18), (u 19), (u 20), (u 21), .ref 368, .int tm3, .ref 369, .ref 370, .ref 371, (u 27)])), (360, .inr (.inl (0, w))), (362, .inr (.inl (0, w))), (363, .inr (.inl (0, ot3))), (364, .inr (.inl (0, kp))), (368, .inr (.inl (0, tk3))), (369, .inr (.inl (0, od))), (370, .inr (.inl (0, be)))] h0 := K.mg K9 rfl rfl
      clear K9
      show j_V jP _ 264 99 lv [.int ((m_gives th sst (m_price (m_toTheEnd n w x1))).1)] h9 _
      refine j_V.ri ms7_M ms7_99 ?_
      rw [show (m_qends n th sst w x1 x2) = _ from ((if_neg c6_0).trans ((if_pos c33_1).trans (rfl)))]
      exact ⟨rfl, w, ot3, tk3, tm3, (H.I1 _ hI).1, ho3, K⟩
  · replace c6_0 : (m_isFrom x2 0 4) = 0 := jd_nen c6_0
    refine j_V.ldL ms7_M ms7_9 rfl (i := 0) (kd := 2) (v := .ref 359) (pcJ := 10) rfl L rfl rfl rfl ?_
    refine j_V.one ms7_M ms7_10 (by decide) (pcJ := 11) (stJ := [.int 1, .ref 359]) rfl ?_
    refine j_V.cl ms7_M ms7_11 rfl (md := 3) (mj := 169) rfl (by decide) mo0_M (As := [.ref 359, .int 1]) (rest := []) (jk_spl3 (K.at rfl) rfl rfl rfl (Nat.le_of_ble_eq_true rfl) (Nat.le_of_ble_eq_true rfl)) (fun d => mo0_ok (u := fun j => [.int th, .ref 360, .ref 361, .ref 362, .ref 363, .ref 364, .ref 365, .ref 366, .ref 367, (u 9), .int sst, (u 11), (u 12), .int acs, (u 14), (u 15), (u 16), (u 17), (u 18), (u 19), (u 20), (u 21), .ref 368, .int tm, .ref 369, .ref 370, .ref 371, (u 27)].getD j .null) (K.fi [359] rfl rfl)) ?_
    rintro r h9 ⟨rfl, K9⟩
    have K : KN h9 [(359, .inl (10, [.int ((m_refuse th sst 1).2.1), .ref 360, .ref 361, .ref 362, .ref 363, .ref 364, .ref 365, .ref 366, .ref 367, (u 9), .int ((m_refuse th sst 1).2.2), (u 11), (u 12), .int acs, (u 14), (u 15), (u 16), (u 17), (u 18), (u 19), (u 20), (u 21), .ref 368, .int tm, .ref 369, .ref 370, .ref 371, (u 27)])), (360, .inr (.inl (0, w))), (362, .inr (.inl (0, sd))), (363, .inr (.inl (0, ot))), (364, .inr (.inl (0, kp))), (368, .inr (.inl (0, tk))), (369, .inr (.inl (0, od))), (370, .inr (.inl (0, be)))] h0 := K.mg K9 rfl rfl
    clear K9
    show j_V jP _ 264 14 lv [.int ((m_refuse th sst 1).1)] h9 _
    refine j_V.ri ms7_M ms7_14 ?_
    rw [show (m_qends n th sst w x1 x2) = _ from ((if_pos c6_0).trans (rfl))]
    exact ⟨rfl, sd, ot, tk, tm, hsd, hot, K⟩
set_option maxRecDepth 100000 in
theorem ms8_M : j_meth jP 265 = some (yX10_when, cX10_when, 3, (some .int), 1, false, 10) := rfl
set_option maxRecDepth 100000 in
theorem ms8_0 : j_code jP 265 0 = some (.aload_n 0) := rfl
set_option maxRecDepth 100000 in
theorem ms8_1 : j_code jP 265 1 = some (.iload_n 1) := rfl
set_option maxRecDepth 100000 in
theorem ms8_2 : j_code jP 265 2 = some (.invokevirtual 310) := rfl
set_option maxRecDepth 100000 in
theorem ms8_5 : j_code jP 265 5 = some (.ifCond .ne 9) := rfl
set_option maxRecDepth 100000 in
theorem ms8_8 : j_code jP 265 8 = some (.aload_n 0) := rfl
set_option maxRecDepth 100000 in
theorem ms8_9 : j_code jP 265 9 = some (.iconst 2) := rfl
set_option maxRecDepth 100000 in
theorem ms8_10 : j_code jP 265 10 = some (.invokevirtual 179) := rfl
set_option maxRecDepth 100000 in
theorem ms8_13 : j_code jP 265 13 = some (.ireturn) := rfl
set_option maxRecDepth 100000 in
theorem ms8_14 : j_code jP 265 14 = some (.aload_n 0) := rfl
set_option maxRecDepth 100000 in
theorem ms8_15 : j_code jP 265 15 = some (.iload_n 1) := rfl
set_option maxRecDepth 100000 in
theorem ms8_16 : j_code jP 265 16 = some (.bipush 6) := rfl
set_option maxRecDepth 100000 in
theorem ms8_18 : j_code jP 265 18 = some (.invokevirtual 198) := rfl
set_option maxRecDepth 100000 in
theorem ms8_21 : j_code jP 265 21 = some (.iconst 3) := rfl
set_option maxRecDepth 100000 in
theorem ms8_22 : j_code jP 265 22 = some (.if_icmp .ne 9) := rfl
set_option maxRecDepth 100000 in
theorem ms8_25 : j_code jP 265 25 = some (.aload_n 0) := rfl
set_option maxRecDepth 100000 in
theorem ms8_26 : j_code jP 265 26 = some (.iconst 4) := rfl
set_option maxRecDepth 100000 in
theorem ms8_27 : j_code jP 265 27 = some (.invokevirtual 179) := rfl
set_option maxRecDepth 100000 in
theorem ms8_30 : j_code jP 265 30 = some (.ireturn) := rfl
set_option maxRecDepth 100000 in
theorem ms8_31 : j_code jP 265 31 = some (.aload_n 0) := rfl
set_option maxRecDepth 100000 in
theorem ms8_32 : j_code jP 265 32 = some (.getfield 7) := rfl
set_option maxRecDepth 100000 in
theorem ms8_35 : j_code jP 265 35 = some (.aload_n 0) := rfl
set_option maxRecDepth 100000 in
theorem ms8_36 : j_code jP 265 36 = some (.getfield 16) := rfl
set_option maxRecDepth 100000 in
theorem ms8_39 : j_code jP 265 39 = some (.invokestatic 188) := rfl
set_option maxRecDepth 100000 in
theorem ms8_42 : j_code jP 265 42 = some (.aload_n 0) := rfl
set_option maxRecDepth 100000 in
theorem ms8_43 : j_code jP 265 43 = some (.iconst 1) := rfl
set_option maxRecDepth 100000 in
theorem ms8_44 : j_code jP 265 44 = some (.invokevirtual 295) := rfl
set_option maxRecDepth 100000 in
theorem ms8_47 : j_code jP 265 47 = some (.aload_n 0) := rfl
set_option maxRecDepth 100000 in
theorem ms8_48 : j_code jP 265 48 = some (.iload_n 1) := rfl
set_option maxRecDepth 100000 in
theorem ms8_49 : j_code jP 265 49 = some (.bipush 6) := rfl
set_option maxRecDepth 100000 in
theorem ms8_51 : j_code jP 265 51 = some (.invokevirtual 198) := rfl
set_option maxRecDepth 100000 in
theorem ms8_54 : j_code jP 265 54 = some (.iconst 3) := rfl
set_option maxRecDepth 100000 in
theorem ms8_55 : j_code jP 265 55 = some (.if_icmp .ne 13) := rfl
set_option maxRecDepth 100000 in
theorem ms8_58 : j_code jP 265 58 = some (.aload_n 0) := rfl
set_option maxRecDepth 100000 in
theorem ms8_59 : j_code jP 265 59 = some (.iload_n 1) := rfl
set_option maxRecDepth 100000 in
theorem ms8_60 : j_code jP 265 60 = some (.bipush 11) := rfl
set_option maxRecDepth 100000 in
theorem ms8_62 : j_code jP 265 62 = some (.invokevirtual 198) := rfl
set_option maxRecDepth 100000 in
theorem ms8_65 : j_code jP 265 65 = some (.goto 4) := rfl
set_option maxRecDepth 100000 in
theorem ms8_68 : j_code jP 265 68 = some (.iconst (-1)) := rfl
set_option maxRecDepth 100000 in
theorem ms8_69 : j_code jP 265 69 = some (.istore_n 2) := rfl
set_option maxRecDepth 100000 in
theorem ms8_70 : j_code jP 265 70 = some (.aload_n 0) := rfl
set_option maxRecDepth 100000 in
theorem ms8_71 : j_code jP 265 71 = some (.getfield 16) := rfl
set_option maxRecDepth 100000 in
theorem ms8_74 : j_code jP 265 74 = some (.aload_n 0) := rfl
set_option maxRecDepth 100000 in
theorem ms8_75 : j_code jP 265 75 = some (.getfield 7) := rfl
set_option maxRecDepth 100000 in
theorem ms8_78 : j_code jP 265 78 = some (.invokestatic 188) := rfl
set_option maxRecDepth 100000 in
theorem ms8_81 : j_code jP 265 81 = some (.iload_n 2) := rfl
set_option maxRecDepth 100000 in
theorem ms8_82 : j_code jP 265 82 = some (.iconst (-1)) := rfl
set_option maxRecDepth 100000 in
theorem ms8_83 : j_code jP 265 83 = some (.if_icmp .ne 11) := rfl
set_option maxRecDepth 100000 in
theorem ms8_86 : j_code jP 265 86 = some (.aload_n 0) := rfl
set_option maxRecDepth 100000 in
theorem ms8_87 : j_code jP 265 87 = some (.iconst 5) := rfl
set_option maxRecDepth 100000 in
theorem ms8_88 : j_code jP 265 88 = some (.invokevirtual 179) := rfl
set_option maxRecDepth 100000 in
theorem ms8_91 : j_code jP 265 91 = some (.goto 8) := rfl
set_option maxRecDepth 100000 in
theorem ms8_94 : j_code jP 265 94 = some (.aload_n 0) := rfl
set_option maxRecDepth 100000 in
theorem ms8_95 : j_code jP 265 95 = some (.iload_n 2) := rfl
set_option maxRecDepth 100000 in
theorem ms8_96 : j_code jP 265 96 = some (.invokevirtual 195) := rfl
set_option maxRecDepth 100000 in
theorem ms8_99 : j_code jP 265 99 = some (.ireturn) := rfl
def m_qwhen (n : Nat) (th : Int32) (sst : Int32) (w : List Int32) (x1 : Int32) : Int32 × Int32 × Int32 := (if (m_isTrain w x1) = 0 then (((m_refuse th sst 2).1), ((m_refuse th sst 2).2.1), ((m_refuse th sst 2).2.2)) else (if (m_of w x1 6) = 3 then (((m_refuse th sst 4).1), ((m_refuse th sst 4).2.1), ((m_refuse th sst 4).2.2)) else (if (m_of (m_toTheEnd n w 1) x1 6) = 3 then (if (m_of (m_toTheEnd n w 1) x1 11) = (-1) then (((m_refuse th sst 5).1), ((m_refuse th sst 5).2.1), ((m_refuse th sst 5).2.2)) else (((m_gives th sst (m_of (m_toTheEnd n w 1) x1 11)).1), ((m_gives th sst (m_of (m_toTheEnd n w 1) x1 11)).2.1), ((m_gives th sst (m_of (m_toTheEnd n w 1) x1 11)).2.2))) else (((m_refuse th sst 5).1), ((m_refuse th sst 5).2.1), ((m_refuse th sst 5).2.2)))))
set_option maxRecDepth 1000000 in
theorem ms8_ok {u : Nat → Value} {n d : Nat} {h h0 : J_H} {th sst acs tm x1 : Int32} {w sd ot kp tk od be : List Int32} {I J : List Int32 → Prop} (H : m_Inv n I J) (hI : I w) (hsd : sd.length = 602) (hot : ot.length = 602) (K : KN h [(359, .inl (10, [.int th, .ref 360, .ref 361, .ref 362, .ref 363, .ref 364, .ref 365, .ref 366, .ref 367, (u 9), .int sst, (u 11), (u 12), .int acs, (u 14), (u 15), (u 16), (u 17), (u 18), (u 19), (u 20), (u 21), .ref 368, .int tm, .ref 369, .ref 370, .ref 371, (u 27)])), (360, .inr (.inl (0, w))), (362, .inr (.inl (0, sd))), (363, .inr (.inl (0, ot))), (364, .inr (.inl (0, kp))), (368, .inr (.inl (0, tk))), (369, .inr (.inl (0, od))), (370, .inr (.inl (0, be)))] h0) : j_V jP d 265 0 (lv_args 0 [.ref 359, .int x1]) [] h (fun rv h' => rv = some (.int (m_qwhen n th sst w x1).1) ∧ ∃ (sd' ot' tk' : List Int32) (tm' : Int32), sd'.length = 602 ∧ ot'.length = 602 ∧ KN h' [(359, .inl (10, [.int (m_qwhen n th sst w x1).2.1, .ref 360, .ref 361, .ref 362, .ref 363, .ref 364, .ref 365, .ref 366, .ref 367, (u 9), .int (m_qwhen n th sst w x1).2.2, (u 11), (u 12), .int acs, (u 14), (u 15), (u 16), (u 17), (u 18), (u 19), (u 20), (u 21), .ref 368, .int tm', .ref 369, .ref 370, .ref 371, (u 27)])), (360, .inr (.inl (0, w))), (362, .inr (.inl (0, sd'))), (363, .inr (.inl (0, ot'))), (364, .inr (.inl (0, kp))), (368, .inr (.inl (0, tk'))), (369, .inr (.inl (0, od))), (370, .inr (.inl (0, be)))] h0) := by
  show j_V jP d 265 0 [(0, .ref 359), (1, .int x1)] [] h _
  obtain ⟨lv, elv, L⟩ : ∃ lv, lv = [(0, .ref 359), (1, .int x1)] ∧ LK lv [(0, .ref 359), (1, .int x1)] := ⟨_, rfl, LK.rf⟩
  rw [← elv]
  clear elv
  refine j_V.ldL ms8_M ms8_0 rfl (i := 0) (kd := 2) (v := .ref 359) (pcJ := 1) rfl L rfl rfl rfl ?_
  refine j_V.ldL ms8_M ms8_1 rfl (i := 1) (kd := 0) (v := .int x1) (pcJ := 2) rfl L rfl rfl rfl ?_
  refine j_V.cl ms8_M ms8_2 rfl (md := 3) (mj := 173) rfl (by decide) md0_M (As := [.ref 359, .int x1]) (rest := []) (jk_spl3 (K.at rfl) rfl rfl rfl (Nat.le_of_ble_eq_true rfl) (Nat.le_of_ble_eq_true rfl)) (fun d => md0_ok (u := fun j => [.int th, .ref 360, .ref 361, .ref 362, .ref 363, .ref 364, .ref 365, .ref 366, .ref 367, (u 9), .int sst, (u 11), (u 12), .int acs, (u 14), (u 15), (u 16), (u 17), (u 18), (u 19), (u 20), (u 21), .ref 368, .int tm, .ref 369, .ref 370, .ref 371, (u 27)].getD j .null) (K.fi [359, 360] rfl rfl)) ?_
  rintro r hz ⟨rfl, ez⟩
  rw [ez]
  clear ez
  show j_V jP _ 265 5 lv [.int (m_isTrain w x1)] h _
  refine j_V.ifc ms8_M ms8_5 (t := 14) rfl (fun c5_0 => ?_) (fun c5_0 => ?_)
  · replace c5_0 : ¬ ((m_isTrain w x1) = 0) := jd_ne c5_0
    refine j_V.ldL ms8_M ms8_14 rfl (i := 0) (kd := 2) (v := .ref 359) (pcJ := 15) rfl L rfl rfl rfl ?_
    refine j_V.ldL ms8_M ms8_15 rfl (i := 1) (kd := 0) (v := .int x1) (pcJ := 16) rfl L rfl rfl rfl ?_
    refine j_V.one ms8_M ms8_16 (by decide) (pcJ := 18) (stJ := [.int 6, .int x1, .ref 359]) rfl ?_
    refine j_V.cl ms8_M ms8_18 rfl (md := 3) (mj := 178) rfl (by decide) ma3_M (As := [.ref 359, .int x1, .int 6]) (rest := []) (jk_spl3 (K.at rfl) rfl rfl rfl (Nat.le_of_ble_eq_true rfl) (Nat.le_of_ble_eq_true rfl)) (fun d => ma3_ok (u := fun j => [.int th, .ref 360, .ref 361, .ref 362, .ref 363, .ref 364, .ref 365, .ref 366, .ref 367, (u 9), .int sst, (u 11), (u 12), .int acs, (u 14), (u 15), (u 16), (u 17), (u 18), (u 19), (u 20), (u 21), .ref 368, .int tm, .ref 369, .ref 370, .ref 371, (u 27)].getD j .null) (K.fi [359, 360] rfl rfl)) ?_
    rintro r hz ⟨rfl, ez⟩
    rw [ez]
    clear ez
    show j_V jP _ 265 21 lv [.int (m_of w x1 6)] h _
    refine j_V.one ms8_M ms8_21 (by decide) (pcJ := 22) (stJ := [.int 3, .int (m_of w x1 6)]) rfl ?_
    refine j_V.icmp ms8_M ms8_22 (t := 31) rfl (fun c22_1 => ?_) (fun c22_1 => ?_)
    · replace c22_1 : ¬ ((m_of w x1 6) = 3) := jd_ne c22_1
      refine j_V.ldL ms8_M ms8_31 rfl (i := 0) (kd := 2) (v := .ref 359) (pcJ := 32) rfl L rfl rfl rfl ?_
      refine j_V.getK ms8_M ms8_32 (ci := 10) (j := 1) rfl K rfl rfl ?_
      refine j_V.ldL ms8_M ms8_35 rfl (i := 0) (kd := 2) (v := .ref 359) (pcJ := 36) rfl L rfl rfl rfl ?_
      refine j_V.getK ms8_M ms8_36 (ci := 10) (j := 3) rfl K rfl rfl ?_
      refine j_V.cl ms8_M ms8_39 rfl (md := 2) (mj := 201) rfl (by decide) mi2_M (As := [.ref 360, .ref 362]) (rest := []) (jk_spl2 rfl rfl (Nat.le_of_ble_eq_true rfl) (Nat.le_of_ble_eq_true rfl)) (fun d => mi2_ok (K.fi [360, 362] rfl rfl)) ?_
      rintro r h9 ⟨rfl, K9⟩
      have K : KN h9 [(359, .inl (10, [.int th, .ref 360, .ref 361, .ref 362, .ref 363, .ref 364, .ref 365, .ref 366, .ref 367, (u 9), .int sst, (u 11), (u 12), .int acs, (u 14), (u 15), (u 16), (u 17), (u 18), (u 19), (u 20), (u 21), .ref 368, .int tm, .ref 369, .ref 370, .ref 371, (u 27)])), (360, .inr (.inl (0, w))), (362, .inr (.inl (0, ((m_copies w sd))))), (363, .inr (.inl (0, ot))), (364, .inr (.inl (0, kp))), (368, .inr (.inl (0, tk))), (369, .inr (.inl (0, od))), (370, .inr (.inl (0, be)))] h0 := K.mg K9 rfl rfl
      clear K9
      show j_V jP _ 265 42 lv [] h9 _
      rw [m_cp (H.I1 _ hI).1 hsd] at K
      refine j_V.ldL ms8_M ms8_42 rfl (i := 0) (kd := 2) (v := .ref 359) (pcJ := 43) rfl L rfl rfl rfl ?_
      refine j_V.one ms8_M ms8_43 (by decide) (pcJ := 44) (stJ := [.int 1, .ref 359]) rfl ?_
      refine j_V.cl ms8_M ms8_44 rfl (md := 3) (mj := 231) rfl (by decide) ms0_M (As := [.ref 359, .int 1]) (rest := []) (jk_spl3 (K.at rfl) rfl rfl rfl (Nat.le_of_ble_eq_true rfl) (Nat.le_of_ble_eq_true rfl)) (fun d => ms09_ok (u := fun j => [.int th, .ref 360, .ref 361, .ref 362, .ref 363, .ref 364, .ref 365, .ref 366, .ref 367, (u 9), .int sst, (u 11), (u 12), .int acs, (u 14), (u 15), (u 16), (u 17), (u 18), (u 19), (u 20), (u 21), .ref 368, .int tm, .ref 369, .ref 370, .ref 371, (u 27)].getD j .null) H hI hot (K.fi [359, 360, 363, 368] rfl rfl)) ?_
      rintro r h9 ⟨rfl, hI4, ot4, tk4, tm4, ho4, K9⟩
      have K : KN h9 [(359, .inl (10, [.int th, .ref 360, .ref 361, .ref 362, .ref 363, .ref 364, .ref 365, .ref 366, .ref 367, (u 9), .int sst, (u 11), (u 12), .int acs, (u 14), (u 15), (u 16), (u 17), (u 18), (u 19), (u 20), (u 21), .ref 368, .int tm4, .ref 369, .ref 370, .ref 371, (u 27)])), (360, .inr (.inl (0, (m_toTheEnd n w 1)))), (362, .inr (.inl (0, w))), (363, .inr (.inl (0, ot4))), (364, .inr (.inl (0, kp))), (368, .inr (.inl (0, tk4))), (369, .inr (.inl (0, od))), (370, .inr (.inl (0, be)))] h0 := K.mg K9 rfl rfl
      clear K9
      show j_V jP _ 265 47 lv [] h9 _
      refine j_V.ldL ms8_M ms8_47 rfl (i := 0) (kd := 2) (v := .ref 359) (pcJ := 48) rfl L rfl rfl rfl ?_
      refine j_V.ldL ms8_M ms8_48 rfl (i := 1) (kd := 0) (v := .int x1) (pcJ := 49) rfl L rfl rfl rfl ?_
      refine j_V.one ms8_M ms8_49 (by decide) (pcJ := 51) (stJ := [.int 6, .int x1, .ref 359]) rfl ?_
      refine j_V.cl ms8_M ms8_51 rfl (md := 3) (mj := 178) rfl (by decide) ma3_M (As := [.ref 359, .int x1, .int 6]) (rest := []) (jk_spl3 (K.at rfl) rfl rfl rfl (Nat.le_of_ble_eq_true rfl) (Nat.le_of_ble_eq_true rfl)) (fun d => ma3_ok (u := fun j => [.int th, .ref 360, .ref 361, .ref 362, .ref 363, .ref 364, .ref 365, .ref 366, .ref 367, (u 9), .int sst, (u 11), (u 12), .int acs, (u 14), (u 15), (u 16), (u 17), (u 18), (u 19), (u 20), (u 21), .ref 368, .int tm4, .ref 369, .ref 370, .ref 371, (u 27)].getD j .null) (K.fi [359, 360] rfl rfl)) ?_
      rintro r hz ⟨rfl, ez⟩
      rw [ez]
      clear ez
      show j_V jP _ 265 54 lv [.int (m_of (m_toTheEnd n w 1) x1 6)] h9 _
      refine j_V.one ms8_M ms8_54 (by decide) (pcJ := 55) (stJ := [.int 3, .int (m_of (m_toTheEnd n w 1) x1 6)]) rfl ?_
      refine j_V.icmp ms8_M ms8_55 (t := 68) rfl (fun c55_2 => ?_) (fun c55_2 => ?_)
      · replace c55_2 : ¬ ((m_of (m_toTheEnd n w 1) x1 6) = 3) := jd_ne c55_2
        refine j_V.one ms8_M ms8_68 (by decide) (pcJ := 69) (stJ := [.int (-1)]) rfl ?_
        refine j_V.stL ms8_M ms8_69 rfl (i := 2) (kd := 0) (kl' := [(0, .ref 359), (1, .int x1), (2, .int (-1))]) (pcJ := 70) rfl L rfl (by decide) rfl rfl rfl (fun lv L => ?_)
        refine j_V.ldL ms8_M ms8_70 rfl (i := 0) (kd := 2) (v := .ref 359) (pcJ := 71) rfl L rfl rfl rfl ?_
        refine j_V.getK ms8_M ms8_71 (ci := 10) (j := 3) rfl K rfl rfl ?_
        refine j_V.ldL ms8_M ms8_74 rfl (i := 0) (kd := 2) (v := .ref 359) (pcJ := 75) rfl L rfl rfl rfl ?_
        refine j_V.getK ms8_M ms8_75 (ci := 10) (j := 1) rfl K rfl rfl ?_
        refine j_V.cl ms8_M ms8_78 rfl (md := 2) (mj := 201) rfl (by decide) mi3_M (As := [.ref 362, .ref 360]) (rest := []) (jk_spl2 rfl rfl (Nat.le_of_ble_eq_true rfl) (Nat.le_of_ble_eq_true rfl)) (fun d => mi3_ok (K.fi [360, 362] rfl rfl)) ?_
        rintro r h9 ⟨rfl, K9⟩
        have K : KN h9 [(359, .inl (10, [.int th, .ref 360, .ref 361, .ref 362, .ref 363, .ref 364, .ref 365, .ref 366, .ref 367, (u 9), .int sst, (u 11), (u 12), .int acs, (u 14), (u 15), (u 16), (u 17), (u 18), (u 19), (u 20), (u 21), .ref 368, .int tm4, .ref 369, .ref 370, .ref 371, (u 27)])), (360, .inr (.inl (0, ((m_copies w (m_toTheEnd n w 1)))))), (362, .inr (.inl (0, w))), (363, .inr (.inl (0, ot4))), (364, .inr (.inl (0, kp))), (368, .inr (.inl (0, tk4))), (369, .inr (.inl (0, od))), (370, .inr (.inl (0, be)))] h0 := K.mg K9 rfl rfl
        clear K9
        show j_V jP _ 265 81 lv [] h9 _
        rw [m_cp (H.I1 _ hI).1 (H.I1 _ hI4).1] at K
        refine j_V.ldL ms8_M ms8_81 rfl (i := 2) (kd := 0) (v := .int (-1)) (pcJ := 82) rfl L rfl rfl rfl ?_
        refine j_V.one ms8_M ms8_82 (by decide) (pcJ := 83) (stJ := [.int (-1), .int (-1)]) rfl ?_
        refine j_V.icmp ms8_M ms8_83 (t := 94) rfl (fun c83_3 => ?_) (fun c83_3 => ?_)
        · replace c83_3 : ¬ (((-1) : Int32) = (-1)) := jd_ne c83_3
          exact absurd (by decide) c83_3
        · replace c83_3 : ((-1) : Int32) = (-1) := jd_nen c83_3
          refine j_V.ldL ms8_M ms8_86 rfl (i := 0) (kd := 2) (v := .ref 359) (pcJ := 87) rfl L rfl rfl rfl ?_
          refine j_V.one ms8_M ms8_87 (by decide) (pcJ := 88) (stJ := [.int 5, .ref 359]) rfl ?_
          refine j_V.cl ms8_M ms8_88 rfl (md := 3) (mj := 169) rfl (by decide) mo0_M (As := [.ref 359, .int 5]) (rest := []) (jk_spl3 (K.at rfl) rfl rfl rfl (Nat.le_of_ble_eq_true rfl) (Nat.le_of_ble_eq_true rfl)) (fun d => mo0_ok (u := fun j => [.int th, .ref 360, .ref 361, .ref 362, .ref 363, .ref 364, .ref 365, .ref 366, .ref 367, (u 9), .int sst, (u 11), (u 12), .int acs, (u 14), (u 15), (u 16), (u 17), (u 18), (u 19), (u 20), (u 21), .ref 368, .int tm4, .ref 369, .ref 370, .ref 371, (u 27)].getD j .null) (K.fi [359] rfl rfl)) ?_
          rintro r h9 ⟨rfl, K9⟩
          have K : KN h9 [(359, .inl (10, [.int ((m_refuse th sst 5).2.1), .ref 360, .ref 361, .ref 362, .ref 363, .ref 364, .ref 365, .ref 366, .ref 367, (u 9), .int ((m_refuse th sst 5).2.2), (u 11), (u 12), .int acs, (u 14), (u 15), (u 16), (u 17), (u 18), (u 19), (u 20), (u 21), .ref 368, .int tm4, .ref 369, .ref 370, .ref 371, (u 27)])), (360, .inr (.inl (0, w))), (362, .inr (.inl (0, w))), (363, .inr (.inl (0, ot4))), (364, .inr (.inl (0, kp))), (368, .inr (.inl (0, tk4))), (369, .inr (.inl (0, od))), (370, .inr (.inl (0, be)))] h0 := K.mg K9 rfl rfl
          clear K9
          show j_V jP _ 265 91 lv [.int ((m_refuse th sst 5).1)] h9 _
          refine j_V.gto ms8_M ms8_91 (t := 99) rfl ?_
          refine j_V.ri ms8_M ms8_99 ?_
          rw [show (m_qwhen n th sst w x1) = _ from ((if_neg c5_0).trans ((if_neg c22_1).trans ((if_neg c55_2).trans (rfl))))]
          exact ⟨rfl, w, ot4, tk4, tm4, (H.I1 _ hI).1, ho4, K⟩
      · replace c55_2 : (m_of (m_toTheEnd n w 1) x1 6) = 3 := jd_nen c55_2
        refine j_V.ldL ms8_M ms8_58 rfl (i := 0) (kd := 2) (v := .ref 359) (pcJ := 59) rfl L rfl rfl rfl ?_
        refine j_V.ldL ms8_M ms8_59 rfl (i := 1) (kd := 0) (v := .int x1) (pcJ := 60) rfl L rfl rfl rfl ?_
        refine j_V.one ms8_M ms8_60 (by decide) (pcJ := 62) (stJ := [.int 11, .int x1, .ref 359]) rfl ?_
        refine j_V.cl ms8_M ms8_62 rfl (md := 3) (mj := 178) rfl (by decide) ma3_M (As := [.ref 359, .int x1, .int 11]) (rest := []) (jk_spl3 (K.at rfl) rfl rfl rfl (Nat.le_of_ble_eq_true rfl) (Nat.le_of_ble_eq_true rfl)) (fun d => ma3_ok (u := fun j => [.int th, .ref 360, .ref 361, .ref 362, .ref 363, .ref 364, .ref 365, .ref 366, .ref 367, (u 9), .int sst, (u 11), (u 12), .int acs, (u 14), (u 15), (u 16), (u 17), (u 18), (u 19), (u 20), (u 21), .ref 368, .int tm4, .ref 369, .ref 370, .ref 371, (u 27)].getD j .null) (K.fi [359, 360] rfl rfl)) ?_
        rintro r hz ⟨rfl, ez⟩
        rw [ez]
        clear ez
        show j_V jP _ 265 65 lv [.int (m_of (m_toTheEnd n w 1) x1 11)] h9 _
        refine j_V.gto ms8_M ms8_65 (t := 69) rfl ?_
        refine j_V.stL ms8_M ms8_69 rfl (i := 2) (kd := 0) (kl' := [(0, .ref 359), (1, .int x1), (2, .int (m_of (m_toTheEnd n w 1) x1 11))]) (pcJ := 70) rfl L rfl (by decide) rfl rfl rfl (fun lv L => ?_)
        refine j_V.ldL ms8_M ms8_70 rfl (i := 0) (kd := 2) (v := .ref 359) (pcJ := 71) rfl L rfl rfl rfl ?_
        refine j_V.getK ms8_M ms8_71 (ci := 10) (j := 3) rfl K rfl rfl ?_
        refine j_V.ldL ms8_M ms8_74 rfl (i := 0) (kd := 2) (v := .ref 359) (pcJ := 75) rfl L rfl rfl rfl ?_
        refine j_V.getK ms8_M ms8_75 (ci := 10) (j := 1) rfl K rfl rfl ?_
        refine j_V.cl ms8_M ms8_78 rfl (md := 2) (mj := 201) rfl (by decide) mi3_M (As := [.ref 362, .ref 360]) (rest := []) (jk_spl2 rfl rfl (Nat.le_of_ble_eq_true rfl) (Nat.le_of_ble_eq_true rfl)) (fun d => mi3_ok (K.fi [360, 362] rfl rfl)) ?_
        rintro r h9 ⟨rfl, K9⟩
        have K : KN h9 [(359, .inl (10, [.int th, .ref 360, .ref 361, .ref 362, .ref 363, .ref 364, .ref 365, .ref 366, .ref 367, (u 9), .int sst, (u 11), (u 12), .int acs, (u 14), (u 15), (u 16), (u 17), (u 18), (u 19), (u 20), (u 21), .ref 368, .int tm4, .ref 369, .ref 370, .ref 371, (u 27)])), (360, .inr (.inl (0, ((m_copies w (m_toTheEnd n w 1)))))), (362, .inr (.inl (0, w))), (363, .inr (.inl (0, ot4))), (364, .inr (.inl (0, kp))), (368, .inr (.inl (0, tk4))), (369, .inr (.inl (0, od))), (370, .inr (.inl (0, be)))] h0 := K.mg K9 rfl rfl
        clear K9
        show j_V jP _ 265 81 lv [] h9 _
        rw [m_cp (H.I1 _ hI).1 (H.I1 _ hI4).1] at K
        refine j_V.ldL ms8_M ms8_81 rfl (i := 2) (kd := 0) (v := .int (m_of (m_toTheEnd n w 1) x1 11)) (pcJ := 82) rfl L rfl rfl rfl ?_
        refine j_V.one ms8_M ms8_82 (by decide) (pcJ := 83) (stJ := [.int (-1), .int (m_of (m_toTheEnd n w 1) x1 11)]) rfl ?_
        refine j_V.icmp ms8_M ms8_83 (t := 94) rfl (fun c83_3 => ?_) (fun c83_3 => ?_)
        · replace c83_3 : ¬ ((m_of (m_toTheEnd n w 1) x1 11) = (-1)) := jd_ne c83_3
          refine j_V.ldL ms8_M ms8_94 rfl (i := 0) (kd := 2) (v := .ref 359) (pcJ := 95) rfl L rfl rfl rfl ?_
          refine j_V.ldL ms8_M ms8_95 rfl (i := 2) (kd := 0) (v := .int (m_of (m_toTheEnd n w 1) x1 11)) (pcJ := 96) rfl L rfl rfl rfl ?_
          refine j_V.cl ms8_M ms8_96 rfl (md := 3) (mj := 170) rfl (by decide) mo1_M (As := [.ref 359, .int (m_of (m_toTheEnd n w 1) x1 11)]) (rest := []) (jk_spl3 (K.at rfl) rfl rfl rfl (Nat.le_of_ble_eq_true rfl) (Nat.le_of_ble_eq_true rfl)) (fun d => mo1_ok (u := fun j => [.int th, .ref 360, .ref 361, .ref 362, .ref 363, .ref 364, .ref 365, .ref 366, .ref 367, (u 9), .int sst, (u 11), (u 12), .int acs, (u 14), (u 15), (u 16), (u 17), (u 18), (u 19), (u 20), (u 21), .ref 368, .int tm4, .ref 369, .ref 370, .ref 371, (u 27)].getD j .null) (K.fi [359] rfl rfl)) ?_
          rintro r h9 ⟨rfl, K9⟩
          have K : KN h9 [(359, .inl (10, [.int ((m_gives th sst (m_of (m_toTheEnd n w 1) x1 11)).2.1), .ref 360, .ref 361, .ref 362, .ref 363, .ref 364, .ref 365, .ref 366, .ref 367, (u 9), .int ((m_gives th sst (m_of (m_toTheEnd n w 1) x1 11)).2.2), (u 11), (u 12), .int acs, (u 14), (u 15), (u 16), (u 17), (u 18), (u 19), (u 20), (u 21), .ref 368, .int tm4, .ref 369, .ref 370, .ref 371, (u 27)])), (360, .inr (.inl (0, w))), (362, .inr (.inl (0, w))), (363, .inr (.inl (0, ot4))), (364, .inr (.inl (0, kp))), (368, .inr (.inl (0, tk4))), (369, .inr (.inl (0, od))), (370, .inr (.inl (0, be)))] h0 := K.mg K9 rfl rfl
          clear K9
          show j_V jP _ 265 99 lv [.int ((m_gives th sst (m_of (m_toTheEnd n w 1) x1 11)).1)] h9 _
          refine j_V.ri ms8_M ms8_99 ?_
          rw [show (m_qwhen n th sst w x1) = _ from ((if_neg c5_0).trans ((if_neg c22_1).trans ((if_pos c55_2).trans ((if_neg c83_3).trans (rfl)))))]
          exact ⟨rfl, w, ot4, tk4, tm4, (H.I1 _ hI).1, ho4, K⟩
        · replace c83_3 : (m_of (m_toTheEnd n w 1) x1 11) = (-1) := jd_nen c83_3
          refine j_V.ldL ms8_M ms8_86 rfl (i := 0) (kd := 2) (v := .ref 359) (pcJ := 87) rfl L rfl rfl rfl ?_
          refine j_V.one ms8_M ms8_87 (by decide) (pcJ := 88) (stJ := [.int 5, .ref 359]) rfl ?_
          refine j_V.cl ms8_M ms8_88 rfl (md := 3) (mj := 169) rfl (by decide) mo0_M (As := [.ref 359, .int 5]) (rest := []) (jk_spl3 (K.at rfl) rfl rfl rfl (Nat.le_of_ble_eq_true rfl) (Nat.le_of_ble_eq_true rfl)) (fun d => mo0_ok (u := fun j => [.int th, .ref 360, .ref 361, .ref 362, .ref 363, .ref 364, .ref 365, .ref 366, .ref 367, (u 9), .int sst, (u 11), (u 12), .int acs, (u 14), (u 15), (u 16), (u 17), (u 18), (u 19), (u 20), (u 21), .ref 368, .int tm4, .ref 369, .ref 370, .ref 371, (u 27)].getD j .null) (K.fi [359] rfl rfl)) ?_
          rintro r h9 ⟨rfl, K9⟩
          have K : KN h9 [(359, .inl (10, [.int ((m_refuse th sst 5).2.1), .ref 360, .ref 361, .ref 362, .ref 363, .ref 364, .ref 365, .ref 366, .ref 367, (u 9), .int ((m_refuse th sst 5).2.2), (u 11), (u 12), .int acs, (u 14), (u 15), (u 16), (u 17), (u 18), (u 19), (u 20), (u 21), .ref 368, .int tm4, .ref 369, .ref 370, .ref 371, (u 27)])), (360, .inr (.inl (0, w))), (362, .inr (.inl (0, w))), (363, .inr (.inl (0, ot4))), (364, .inr (.inl (0, kp))), (368, .inr (.inl (0, tk4))), (369, .inr (.inl (0, od))), (370, .inr (.inl (0, be)))] h0 := K.mg K9 rfl rfl
          clear K9
          show j_V jP _ 265 91 lv [.int ((m_refuse th sst 5).1)] h9 _
          refine j_V.gto ms8_M ms8_91 (t := 99) rfl ?_
          refine j_V.ri ms8_M ms8_99 ?_
          rw [show (m_qwhen n th sst w x1) = _ from ((if_neg c5_0).trans ((if_neg c22_1).trans ((if_pos c55_2).trans ((if_pos c83_3).trans (rfl)))))]
          exact ⟨rfl, w, ot4, tk4, tm4, (H.I1 _ hI).1, ho4, K⟩
    · replace c22_1 : (m_of w x1 6) = 3 := jd_nen c22_1
      refine j_V.ldL ms8_M ms8_25 rfl (i := 0) (kd := 2) (v := .ref 359) (pcJ := 26) rfl L rfl rfl rfl ?_
      refine j_V.one ms8_M ms8_26 (by decide) (pcJ := 27) (stJ := [.int 4, .ref 359]) rfl ?_
      refine j_V.cl ms8_M ms8_27 rfl (md := 3) (mj := 169) rfl (by decide) mo0_M (As := [.ref 359, .int 4]) (rest := []) (jk_spl3 (K.at rfl) rfl rfl rfl (Nat.le_of_ble_eq_true rfl) (Nat.le_of_ble_eq_true rfl)) (fun d => mo0_ok (u := fun j => [.int th, .ref 360, .ref 361, .ref 362, .ref 363, .ref 364, .ref 365, .ref 366, .ref 367, (u 9), .int sst, (u 11), (u 12), .int acs, (u 14), (u 15), (u 16), (u 17), (u 18), (u 19), (u 20), (u 21), .ref 368, .int tm, .ref 369, .ref 370, .ref 371, (u 27)].getD j .null) (K.fi [359] rfl rfl)) ?_
      rintro r h9 ⟨rfl, K9⟩
      have K : KN h9 [(359, .inl (10, [.int ((m_refuse th sst 4).2.1), .ref 360, .ref 361, .ref 362, .ref 363, .ref 364, .ref 365, .ref 366, .ref 367, (u 9), .int ((m_refuse th sst 4).2.2), (u 11), (u 12), .int acs, (u 14), (u 15), (u 16), (u 17), (u 18), (u 19), (u 20), (u 21), .ref 368, .int tm, .ref 369, .ref 370, .ref 371, (u 27)])), (360, .inr (.inl (0, w))), (362, .inr (.inl (0, sd))), (363, .inr (.inl (0, ot))), (364, .inr (.inl (0, kp))), (368, .inr (.inl (0, tk))), (369, .inr (.inl (0, od))), (370, .inr (.inl (0, be)))] h0 := K.mg K9 rfl rfl
      clear K9
      show j_V jP _ 265 30 lv [.int ((m_refuse th sst 4).1)] h9 _
      refine j_V.ri ms8_M ms8_30 ?_
      rw [show (m_qwhen n th sst w x1) = _ from ((if_neg c5_0).trans ((if_pos c22_1).trans (rfl)))]
      exact ⟨rfl, sd, ot, tk, tm, hsd, hot, K⟩
  · replace c5_0 : (m_isTrain w x1) = 0 := jd_nen c5_0
    refine j_V.ldL ms8_M ms8_8 rfl (i := 0) (kd := 2) (v := .ref 359) (pcJ := 9) rfl L rfl rfl rfl ?_
    refine j_V.one ms8_M ms8_9 (by decide) (pcJ := 10) (stJ := [.int 2, .ref 359]) rfl ?_
    refine j_V.cl ms8_M ms8_10 rfl (md := 3) (mj := 169) rfl (by decide) mo0_M (As := [.ref 359, .int 2]) (rest := []) (jk_spl3 (K.at rfl) rfl rfl rfl (Nat.le_of_ble_eq_true rfl) (Nat.le_of_ble_eq_true rfl)) (fun d => mo0_ok (u := fun j => [.int th, .ref 360, .ref 361, .ref 362, .ref 363, .ref 364, .ref 365, .ref 366, .ref 367, (u 9), .int sst, (u 11), (u 12), .int acs, (u 14), (u 15), (u 16), (u 17), (u 18), (u 19), (u 20), (u 21), .ref 368, .int tm, .ref 369, .ref 370, .ref 371, (u 27)].getD j .null) (K.fi [359] rfl rfl)) ?_
    rintro r h9 ⟨rfl, K9⟩
    have K : KN h9 [(359, .inl (10, [.int ((m_refuse th sst 2).2.1), .ref 360, .ref 361, .ref 362, .ref 363, .ref 364, .ref 365, .ref 366, .ref 367, (u 9), .int ((m_refuse th sst 2).2.2), (u 11), (u 12), .int acs, (u 14), (u 15), (u 16), (u 17), (u 18), (u 19), (u 20), (u 21), .ref 368, .int tm, .ref 369, .ref 370, .ref 371, (u 27)])), (360, .inr (.inl (0, w))), (362, .inr (.inl (0, sd))), (363, .inr (.inl (0, ot))), (364, .inr (.inl (0, kp))), (368, .inr (.inl (0, tk))), (369, .inr (.inl (0, od))), (370, .inr (.inl (0, be)))] h0 := K.mg K9 rfl rfl
    clear K9
    show j_V jP _ 265 13 lv [.int ((m_refuse th sst 2).1)] h9 _
    refine j_V.ri ms8_M ms8_13 ?_
    rw [show (m_qwhen n th sst w x1) = _ from ((if_pos c5_0).trans (rfl))]
    exact ⟨rfl, sd, ot, tk, tm, hsd, hot, K⟩
