/-! the reference's isSafe, by wip/px/gen_m4.py -/
set_option maxRecDepth 100000 in
theorem mh1_M : j_meth jP 219 = some (yX10_isSafe, cX10_isSafe, 4, (some .boolean), 0, false, 10) := rfl
set_option maxRecDepth 100000 in
theorem mh1_0 : j_code jP 219 0 = some (.aload_n 0) := rfl
set_option maxRecDepth 100000 in
theorem mh1_1 : j_code jP 219 1 = some (.iconst 0) := rfl
set_option maxRecDepth 100000 in
theorem mh1_2 : j_code jP 219 2 = some (.putfield 244) := rfl
set_option maxRecDepth 100000 in
theorem mh1_5 : j_code jP 219 5 = some (.iconst 0) := rfl
set_option maxRecDepth 100000 in
theorem mh1_6 : j_code jP 219 6 = some (.istore_n 1) := rfl
set_option maxRecDepth 100000 in
theorem mh1_7 : j_code jP 219 7 = some (.iconst 0) := rfl
set_option maxRecDepth 100000 in
theorem mh1_8 : j_code jP 219 8 = some (.istore_n 2) := rfl
set_option maxRecDepth 100000 in
theorem mh1_9 : j_code jP 219 9 = some (.iload_n 2) := rfl
set_option maxRecDepth 100000 in
theorem mh1_10 : j_code jP 219 10 = some (.aload_n 0) := rfl
set_option maxRecDepth 100000 in
theorem mh1_11 : j_code jP 219 11 = some (.getfield 7) := rfl
set_option maxRecDepth 100000 in
theorem mh1_14 : j_code jP 219 14 = some (.sipush 203) := rfl
set_option maxRecDepth 100000 in
theorem mh1_17 : j_code jP 219 17 = some (.iaload) := rfl
set_option maxRecDepth 100000 in
theorem mh1_18 : j_code jP 219 18 = some (.if_icmp .ge 28) := rfl
set_option maxRecDepth 100000 in
theorem mh1_21 : j_code jP 219 21 = some (.iload_n 1) := rfl
set_option maxRecDepth 100000 in
theorem mh1_22 : j_code jP 219 22 = some (.aload_n 0) := rfl
set_option maxRecDepth 100000 in
theorem mh1_23 : j_code jP 219 23 = some (.iload_n 2) := rfl
set_option maxRecDepth 100000 in
theorem mh1_24 : j_code jP 219 24 = some (.invokevirtual 207) := rfl
set_option maxRecDepth 100000 in
theorem mh1_27 : j_code jP 219 27 = some (.iconst (-1)) := rfl
set_option maxRecDepth 100000 in
theorem mh1_28 : j_code jP 219 28 = some (.if_icmp .eq 9) := rfl
set_option maxRecDepth 100000 in
theorem mh1_31 : j_code jP 219 31 = some (.iconst 1) := rfl
set_option maxRecDepth 100000 in
theorem mh1_32 : j_code jP 219 32 = some (.iload_n 2) := rfl
set_option maxRecDepth 100000 in
theorem mh1_33 : j_code jP 219 33 = some (.ishl) := rfl
set_option maxRecDepth 100000 in
theorem mh1_34 : j_code jP 219 34 = some (.goto 4) := rfl
set_option maxRecDepth 100000 in
theorem mh1_37 : j_code jP 219 37 = some (.iconst 0) := rfl
set_option maxRecDepth 100000 in
theorem mh1_38 : j_code jP 219 38 = some (.ior) := rfl
set_option maxRecDepth 100000 in
theorem mh1_39 : j_code jP 219 39 = some (.istore_n 1) := rfl
set_option maxRecDepth 100000 in
theorem mh1_40 : j_code jP 219 40 = some (.iinc 2 1) := rfl
set_option maxRecDepth 100000 in
theorem mh1_43 : j_code jP 219 43 = some (.goto (-34)) := rfl
set_option maxRecDepth 100000 in
theorem mh1_46 : j_code jP 219 46 = some (.iconst 1) := rfl
set_option maxRecDepth 100000 in
theorem mh1_47 : j_code jP 219 47 = some (.istore_n 2) := rfl
set_option maxRecDepth 100000 in
theorem mh1_48 : j_code jP 219 48 = some (.iload_n 2) := rfl
set_option maxRecDepth 100000 in
theorem mh1_49 : j_code jP 219 49 = some (.ifCond .eq 82) := rfl
set_option maxRecDepth 100000 in
theorem mh1_52 : j_code jP 219 52 = some (.iconst 0) := rfl
set_option maxRecDepth 100000 in
theorem mh1_53 : j_code jP 219 53 = some (.istore_n 2) := rfl
set_option maxRecDepth 100000 in
theorem mh1_54 : j_code jP 219 54 = some (.iconst 0) := rfl
set_option maxRecDepth 100000 in
theorem mh1_55 : j_code jP 219 55 = some (.istore_n 3) := rfl
set_option maxRecDepth 100000 in
theorem mh1_56 : j_code jP 219 56 = some (.iload_n 3) := rfl
set_option maxRecDepth 100000 in
theorem mh1_57 : j_code jP 219 57 = some (.aload_n 0) := rfl
set_option maxRecDepth 100000 in
theorem mh1_58 : j_code jP 219 58 = some (.getfield 7) := rfl
set_option maxRecDepth 100000 in
theorem mh1_61 : j_code jP 219 61 = some (.sipush 203) := rfl
set_option maxRecDepth 100000 in
theorem mh1_64 : j_code jP 219 64 = some (.iaload) := rfl
set_option maxRecDepth 100000 in
theorem mh1_65 : j_code jP 219 65 = some (.if_icmp .ge 63) := rfl
set_option maxRecDepth 100000 in
theorem mh1_68 : j_code jP 219 68 = some (.iload_n 2) := rfl
set_option maxRecDepth 100000 in
theorem mh1_69 : j_code jP 219 69 = some (.ifCond .ne 59) := rfl
set_option maxRecDepth 100000 in
theorem mh1_72 : j_code jP 219 72 = some (.iload_n 1) := rfl
set_option maxRecDepth 100000 in
theorem mh1_73 : j_code jP 219 73 = some (.iload_n 3) := rfl
set_option maxRecDepth 100000 in
theorem mh1_74 : j_code jP 219 74 = some (.ishr) := rfl
set_option maxRecDepth 100000 in
theorem mh1_75 : j_code jP 219 75 = some (.iconst 1) := rfl
set_option maxRecDepth 100000 in
theorem mh1_76 : j_code jP 219 76 = some (.iand) := rfl
set_option maxRecDepth 100000 in
theorem mh1_77 : j_code jP 219 77 = some (.ifCond .eq 45) := rfl
set_option maxRecDepth 100000 in
theorem mh1_80 : j_code jP 219 80 = some (.aload_n 0) := rfl
set_option maxRecDepth 100000 in
theorem mh1_81 : j_code jP 219 81 = some (.iload_n 3) := rfl
set_option maxRecDepth 100000 in
theorem mh1_82 : j_code jP 219 82 = some (.iload_n 1) := rfl
set_option maxRecDepth 100000 in
theorem mh1_83 : j_code jP 219 83 = some (.invokevirtual 247) := rfl
set_option maxRecDepth 100000 in
theorem mh1_86 : j_code jP 219 86 = some (.ifCond .ne 6) := rfl
set_option maxRecDepth 100000 in
theorem mh1_89 : j_code jP 219 89 = some (.goto 33) := rfl
set_option maxRecDepth 100000 in
theorem mh1_92 : j_code jP 219 92 = some (.iload_n 1) := rfl
set_option maxRecDepth 100000 in
theorem mh1_93 : j_code jP 219 93 = some (.iconst 1) := rfl
set_option maxRecDepth 100000 in
theorem mh1_94 : j_code jP 219 94 = some (.iload_n 3) := rfl
set_option maxRecDepth 100000 in
theorem mh1_95 : j_code jP 219 95 = some (.ishl) := rfl
set_option maxRecDepth 100000 in
theorem mh1_96 : j_code jP 219 96 = some (.iconst (-1)) := rfl
set_option maxRecDepth 100000 in
theorem mh1_97 : j_code jP 219 97 = some (.ixor) := rfl
set_option maxRecDepth 100000 in
theorem mh1_98 : j_code jP 219 98 = some (.iand) := rfl
set_option maxRecDepth 100000 in
theorem mh1_99 : j_code jP 219 99 = some (.istore_n 1) := rfl
set_option maxRecDepth 100000 in
theorem mh1_100 : j_code jP 219 100 = some (.aload_n 0) := rfl
set_option maxRecDepth 100000 in
theorem mh1_101 : j_code jP 219 101 = some (.getfield 42) := rfl
set_option maxRecDepth 100000 in
theorem mh1_104 : j_code jP 219 104 = some (.aload_n 0) := rfl
set_option maxRecDepth 100000 in
theorem mh1_105 : j_code jP 219 105 = some (.getfield 244) := rfl
set_option maxRecDepth 100000 in
theorem mh1_108 : j_code jP 219 108 = some (.iload_n 3) := rfl
set_option maxRecDepth 100000 in
theorem mh1_109 : j_code jP 219 109 = some (.iastore) := rfl
set_option maxRecDepth 100000 in
theorem mh1_110 : j_code jP 219 110 = some (.aload_n 0) := rfl
set_option maxRecDepth 100000 in
theorem mh1_111 : j_code jP 219 111 = some (.dup) := rfl
set_option maxRecDepth 100000 in
theorem mh1_112 : j_code jP 219 112 = some (.getfield 244) := rfl
set_option maxRecDepth 100000 in
theorem mh1_115 : j_code jP 219 115 = some (.iconst 1) := rfl
set_option maxRecDepth 100000 in
theorem mh1_116 : j_code jP 219 116 = some (.iadd) := rfl
set_option maxRecDepth 100000 in
theorem mh1_117 : j_code jP 219 117 = some (.putfield 244) := rfl
set_option maxRecDepth 100000 in
theorem mh1_120 : j_code jP 219 120 = some (.iconst 1) := rfl
set_option maxRecDepth 100000 in
theorem mh1_121 : j_code jP 219 121 = some (.istore_n 2) := rfl
set_option maxRecDepth 100000 in
theorem mh1_122 : j_code jP 219 122 = some (.iinc 3 1) := rfl
set_option maxRecDepth 100000 in
theorem mh1_125 : j_code jP 219 125 = some (.goto (-69)) := rfl
set_option maxRecDepth 100000 in
theorem mh1_128 : j_code jP 219 128 = some (.goto (-80)) := rfl
set_option maxRecDepth 100000 in
theorem mh1_131 : j_code jP 219 131 = some (.iload_n 1) := rfl
set_option maxRecDepth 100000 in
theorem mh1_132 : j_code jP 219 132 = some (.ifCond .ne 7) := rfl
set_option maxRecDepth 100000 in
theorem mh1_135 : j_code jP 219 135 = some (.iconst 1) := rfl
set_option maxRecDepth 100000 in
theorem mh1_136 : j_code jP 219 136 = some (.goto 4) := rfl
set_option maxRecDepth 100000 in
theorem mh1_139 : j_code jP 219 139 = some (.iconst 0) := rfl
set_option maxRecDepth 100000 in
theorem mh1_140 : j_code jP 219 140 = some (.ireturn) := rfl
/-- how many stations lie ahead of a train, TO with them -/
def m_gg (w : List Int32) (t : Nat) : Nat := ((m_of w (nI t) 2).toInt - (m_cs w (nI t)).toInt).natAbs
def m_plc (w : List Int32) (t : Nat) : Bool := !decide (m_placeOf w (nI t) = -1)
def m_cgo (w : List Int32) (p : Nat → Bool) (t : Nat) : Bool := !decide (m_couldGo w (nI t) (mk5 p) (m_gg w t) = 0)
def m_sfF (w : List Int32) (p : Nat → Bool) : Nat → Nat → Option Nat
  | 0, _ => none
  | f + 1, t => if p t = true then (if m_cgo w p t = true then some t else m_sfF w p f (t + 1)) else m_sfF w p f (t + 1)
def m_sfO (w : List Int32) (n : Nat) : Nat → (Nat → Bool) → List Int32 → Int32 → (Nat → Bool) × List Int32 × Int32
  | 0, p, tk, tm => (p, tk, tm)
  | q + 1, p, tk, tm => match m_sfF w p n 0 with
    | none => (p, tk, tm)
    | some t => m_sfO w n q (fun i => p i && !Nat.beq i t) (sA tk tm (nI t)) (tm + 1)
/-- where each train that has a place stands, so that its way is of so many steps -/
def m_sfok (w : List Int32) (n : Nat) : Prop := gA w 203 = nI n ∧ n ≤ 5 ∧ ∀ t, t < n → m_plc w t = true → m_cg w (nI t) (m_cs w (nI t)) (m_gg w t)
theorem m_sfF_lt {w : List Int32} {p : Nat → Bool} : ∀ {f t s : Nat}, m_sfF w p f t = some s → s < t + f ∧ p s = true
  | 0, _, _, h => by cases h
  | f + 1, t, s, h => by
    unfold m_sfF at h
    split at h
    · rename_i hp
      split at h
      · cases h
        exact ⟨by omega, hp⟩
      · have := m_sfF_lt h
        exact ⟨by omega, this.2⟩
    · have := m_sfF_lt h
      exact ⟨by omega, this.2⟩
theorem m_bit0 {p : Nat → Bool} {t : Nat} (ht : t < 5) (c : ((mk5 p >>> ((nI t) &&& 31)) &&& 1) = 0) : ¬ p t = true := by
  intro z
  rw [mk5_bit ht, z] at c
  exact absurd c (by decide)
theorem m_bit1 {p : Nat → Bool} {t : Nat} (ht : t < 5) (c : ¬ ((mk5 p >>> ((nI t) &&& 31)) &&& 1) = 0) : p t = true := by
  cases z : p t with
  | true => rfl
  | false => rw [mk5_bit ht, z] at c; exact absurd rfl c
def m_sfL (w : List Int32) : Nat → Nat → (Nat → Bool) → (Nat → Bool)
  | 0, _, p => p
  | f + 1, t, p => m_sfL w f (t + 1) (fun i => if m_plc w t = true then (p i || Nat.beq i t) else p i)
set_option maxRecDepth 1000000 in
theorem mh1_ok_l9 {u : Nat → Value} {w : List Int32} {n d : Nat} {h0 : J_H} {Q : Option Value → J_H → Prop} {tk : List Int32} {tm : Int32} {h : J_H} (hok : m_sfok w n) : ∀ (f t : Nat) (p : Nat → Bool) {lv : J_L}, t + f = n → LK lv [(0, .ref 359), (1, .int (mk5 p)), (2, .int (nI t))] → KN h [(359, .inl (10, [(u 0), .ref 360, .ref 361, .ref 362, .ref 363, .ref 364, .ref 365, .ref 366, .ref 367, (u 9), (u 10), (u 11), (u 12), (u 13), (u 14), (u 15), (u 16), (u 17), (u 18), (u 19), (u 20), (u 21), .ref 368, .int tm, .ref 369, .ref 370, .ref 371, (u 27)])), (360, .inr (.inl (0, w))), (368, .inr (.inl (0, tk)))] h0 → (∀ lv, LK lv [(0, .ref 359), (1, .int (mk5 (m_sfL w f t p)))] → j_V jP d 219 46 lv [] h Q) → j_V jP d 219 9 lv [] h Q := by
  have hn5 := hok.2.1
  intro f
  induction f with
  | zero =>
    intro t p lv e L K kk
    refine j_V.ldL mh1_M mh1_9 rfl (i := 2) (kd := 0) (v := .int (nI t)) (pcJ := 10) rfl L rfl rfl rfl ?_
    refine j_V.ldL mh1_M mh1_10 rfl (i := 0) (kd := 2) (v := .ref 359) (pcJ := 11) rfl L rfl rfl rfl ?_
    refine j_V.getK mh1_M mh1_11 (ci := 10) (j := 1) rfl K rfl rfl ?_
    refine j_V.one mh1_M mh1_14 (by decide) (pcJ := 17) (stJ := [.int 203, .ref 360, .int (nI t)]) rfl ?_
    refine j_V.iaA mh1_M mh1_17 K rfl ?_
    refine j_V.icmp mh1_M mh1_18 (t := 46) rfl (fun c18_0 => ?_) (fun c18_0 => ?_)
    · replace c18_0 : ¬ ((nI t) < (gA w 203)) := jd_ge c18_0
      exact kk _ (L.sub ⟨rfl, rfl, trivial⟩)
    · replace c18_0 : (nI t) < (gA w 203) := jd_gen c18_0
      exact absurd c18_0 (by rw [hok.1, nI_lt9 (by omega) (by omega)]; omega)
  | succ f ih =>
    intro t p lv e L K kk
    refine j_V.ldL mh1_M mh1_9 rfl (i := 2) (kd := 0) (v := .int (nI t)) (pcJ := 10) rfl L rfl rfl rfl ?_
    refine j_V.ldL mh1_M mh1_10 rfl (i := 0) (kd := 2) (v := .ref 359) (pcJ := 11) rfl L rfl rfl rfl ?_
    refine j_V.getK mh1_M mh1_11 (ci := 10) (j := 1) rfl K rfl rfl ?_
    refine j_V.one mh1_M mh1_14 (by decide) (pcJ := 17) (stJ := [.int 203, .ref 360, .int (nI t)]) rfl ?_
    refine j_V.iaA mh1_M mh1_17 K rfl ?_
    refine j_V.icmp mh1_M mh1_18 (t := 46) rfl (fun c18_0 => ?_) (fun c18_0 => ?_)
    · replace c18_0 : ¬ ((nI t) < (gA w 203)) := jd_ge c18_0
      exact absurd (show nI t < gA w 203 by rw [hok.1, nI_lt9 (by omega) (by omega)]; omega) c18_0
    · replace c18_0 : (nI t) < (gA w 203) := jd_gen c18_0
      refine j_V.ldL mh1_M mh1_21 rfl (i := 1) (kd := 0) (v := .int (mk5 p)) (pcJ := 22) rfl L rfl rfl rfl ?_
      refine j_V.ldL mh1_M mh1_22 rfl (i := 0) (kd := 2) (v := .ref 359) (pcJ := 23) rfl L rfl rfl rfl ?_
      refine j_V.ldL mh1_M mh1_23 rfl (i := 2) (kd := 0) (v := .int (nI t)) (pcJ := 24) rfl L rfl rfl rfl ?_
      refine j_V.cl mh1_M mh1_24 rfl (md := 3) (mj := 205) rfl (by decide) ma6_M (As := [.ref 359, .int (nI t)]) (rest := [.int (mk5 p)]) (jk_spl3 (K.at rfl) rfl rfl rfl (Nat.le_of_ble_eq_true rfl) (Nat.le_of_ble_eq_true rfl)) (fun d => ma6_ok (u := fun j => [(u 0), .ref 360, .ref 361, .ref 362, .ref 363, .ref 364, .ref 365, .ref 366, .ref 367, (u 9), (u 10), (u 11), (u 12), (u 13), (u 14), (u 15), (u 16), (u 17), (u 18), (u 19), (u 20), (u 21), .ref 368, .int tm].getD j (u j)) (K.fi [359, 360] rfl rfl)) ?_
      rintro r hz ⟨rfl, ez⟩
      rw [ez]
      clear ez
      show j_V jP _ 219 27 lv [.int (m_placeOf w (nI t)), .int (mk5 p)] h _
      refine j_V.one mh1_M mh1_27 (by decide) (pcJ := 28) (stJ := [.int (-1), .int (m_placeOf w (nI t)), .int (mk5 p)]) rfl ?_
      refine j_V.icmp mh1_M mh1_28 (t := 37) rfl (fun c28_0 => ?_) (fun c28_0 => ?_)
      · replace c28_0 : (m_placeOf w (nI t)) = (-1) := jd_eq c28_0
        refine j_V.one mh1_M mh1_37 (by decide) (pcJ := 38) (stJ := [.int 0, .int (mk5 p)]) rfl ?_
        refine j_V.one mh1_M mh1_38 (by decide) (pcJ := 39) (stJ := [.int ((mk5 p) ||| 0)]) rfl ?_
        refine j_V.stL mh1_M mh1_39 rfl (i := 1) (kd := 0) (kl' := [(0, .ref 359), (1, .int ((mk5 p) ||| 0)), (2, .int (nI t))]) (pcJ := 40) rfl L rfl (by decide) rfl rfl rfl (fun lv L => ?_)
        refine j_V.inL mh1_M mh1_40 (i := 2) (kl' := [(0, .ref 359), (1, .int ((mk5 p) ||| 0)), (2, .int ((nI t) + 1))]) (pcJ := 43) L rfl rfl rfl rfl (fun lv L => ?_)
        refine j_V.gto mh1_M mh1_43 (t := 9) rfl ?_
        rw [nI_one] at L
        have e8 : mk5 p ||| 0 = mk5 (fun i => if m_plc w t = true then (p i || Nat.beq i t) else p i) := by
          rw [Int32.or_zero]
          exact mk5_eq fun i _ => by rw [if_neg (by unfold m_plc; rw [decide_eq_true c28_0]; decide)]
        rw [e8] at L
        exact ih (t + 1) _ (by omega) L K kk
      · replace c28_0 : ¬ ((m_placeOf w (nI t)) = (-1)) := jd_eqn c28_0
        refine j_V.one mh1_M mh1_31 (by decide) (pcJ := 32) (stJ := [.int 1, .int (mk5 p)]) rfl ?_
        refine j_V.ldL mh1_M mh1_32 rfl (i := 2) (kd := 0) (v := .int (nI t)) (pcJ := 33) rfl L rfl rfl rfl ?_
        refine j_V.one mh1_M mh1_33 (by decide) (pcJ := 34) (stJ := [.int (1 <<< ((nI t) &&& 31)), .int (mk5 p)]) rfl ?_
        refine j_V.gto mh1_M mh1_34 (t := 38) rfl ?_
        refine j_V.one mh1_M mh1_38 (by decide) (pcJ := 39) (stJ := [.int ((mk5 p) ||| (1 <<< ((nI t) &&& 31)))]) rfl ?_
        refine j_V.stL mh1_M mh1_39 rfl (i := 1) (kd := 0) (kl' := [(0, .ref 359), (1, .int ((mk5 p) ||| (1 <<< ((nI t) &&& 31)))), (2, .int (nI t))]) (pcJ := 40) rfl L rfl (by decide) rfl rfl rfl (fun lv L => ?_)
        refine j_V.inL mh1_M mh1_40 (i := 2) (kl' := [(0, .ref 359), (1, .int ((mk5 p) ||| (1 <<< ((nI t) &&& 31)))), (2, .int ((nI t) + 1))]) (pcJ := 43) L rfl rfl rfl rfl (fun lv L => ?_)
        refine j_V.gto mh1_M mh1_43 (t := 9) rfl ?_
        rw [nI_one] at L
        have e8 : mk5 p ||| (1 <<< ((nI t) &&& 31)) = mk5 (fun i => if m_plc w t = true then (p i || Nat.beq i t) else p i) := by
          rw [mk5_or (by omega)]
          exact mk5_eq fun i _ => by rw [if_pos (by unfold m_plc; rw [decide_eq_false c28_0]; rfl)]
        rw [e8] at L
        exact ih (t + 1) _ (by omega) L K kk
set_option maxRecDepth 1000000 in
theorem mh1_ok_l56 {u : Nat → Value} {w : List Int32} {n d : Nat} {h0 : J_H} {Q : Option Value → J_H → Prop} {tk : List Int32} {tm : Int32} {p : Nat → Bool} {h : J_H} (hok : m_sfok w n) (hp : ∀ t, p t = true → m_plc w t = true) : ∀ (f t : Nat) {lv : J_L}, t + f = n → LK lv [(0, .ref 359), (1, .int (mk5 p)), (2, .int 0), (3, .int (nI t))] → KN h [(359, .inl (10, [(u 0), .ref 360, .ref 361, .ref 362, .ref 363, .ref 364, .ref 365, .ref 366, .ref 367, (u 9), (u 10), (u 11), (u 12), (u 13), (u 14), (u 15), (u 16), (u 17), (u 18), (u 19), (u 20), (u 21), .ref 368, .int tm, .ref 369, .ref 370, .ref 371, (u 27)])), (360, .inr (.inl (0, w))), (368, .inr (.inl (0, tk)))] h0 → (m_sfF w p f t = none → ∀ lv, LK lv [(0, .ref 359), (1, .int (mk5 p)), (2, .int 0)] → j_V jP d 219 128 lv [] h Q) → (∀ s, m_sfF w p f t = some s → ∀ lv h, LK lv [(0, .ref 359), (1, .int (mk5 (fun i => p i && !Nat.beq i s))), (2, .int 1)] → KN h [(359, .inl (10, [(u 0), .ref 360, .ref 361, .ref 362, .ref 363, .ref 364, .ref 365, .ref 366, .ref 367, (u 9), (u 10), (u 11), (u 12), (u 13), (u 14), (u 15), (u 16), (u 17), (u 18), (u 19), (u 20), (u 21), .ref 368, .int (tm + 1), .ref 369, .ref 370, .ref 371, (u 27)])), (360, .inr (.inl (0, w))), (368, .inr (.inl (0, (sA tk tm (nI s)))))] h0 → j_V jP d 219 128 lv [] h Q) → j_V jP d 219 56 lv [] h Q := by
  have hn5 := hok.2.1
  intro f
  induction f with
  | zero =>
    intro t lv e L K k0 k1
    refine j_V.ldL mh1_M mh1_56 rfl (i := 3) (kd := 0) (v := .int (nI t)) (pcJ := 57) rfl L rfl rfl rfl ?_
    refine j_V.ldL mh1_M mh1_57 rfl (i := 0) (kd := 2) (v := .ref 359) (pcJ := 58) rfl L rfl rfl rfl ?_
    refine j_V.getK mh1_M mh1_58 (ci := 10) (j := 1) rfl K rfl rfl ?_
    refine j_V.one mh1_M mh1_61 (by decide) (pcJ := 64) (stJ := [.int 203, .ref 360, .int (nI t)]) rfl ?_
    refine j_V.iaA mh1_M mh1_64 K rfl ?_
    refine j_V.icmp mh1_M mh1_65 (t := 128) rfl (fun c65_0 => ?_) (fun c65_0 => ?_)
    · replace c65_0 : ¬ ((nI t) < (gA w 203)) := jd_ge c65_0
      exact k0 rfl _ (L.sub ⟨rfl, rfl, rfl, trivial⟩)
    · replace c65_0 : (nI t) < (gA w 203) := jd_gen c65_0
      exact absurd c65_0 (by rw [hok.1, nI_lt9 (by omega) (by omega)]; omega)
  | succ f ih =>
    intro t lv e L K k0 k1
    refine j_V.ldL mh1_M mh1_56 rfl (i := 3) (kd := 0) (v := .int (nI t)) (pcJ := 57) rfl L rfl rfl rfl ?_
    refine j_V.ldL mh1_M mh1_57 rfl (i := 0) (kd := 2) (v := .ref 359) (pcJ := 58) rfl L rfl rfl rfl ?_
    refine j_V.getK mh1_M mh1_58 (ci := 10) (j := 1) rfl K rfl rfl ?_
    refine j_V.one mh1_M mh1_61 (by decide) (pcJ := 64) (stJ := [.int 203, .ref 360, .int (nI t)]) rfl ?_
    refine j_V.iaA mh1_M mh1_64 K rfl ?_
    refine j_V.icmp mh1_M mh1_65 (t := 128) rfl (fun c65_0 => ?_) (fun c65_0 => ?_)
    · replace c65_0 : ¬ ((nI t) < (gA w 203)) := jd_ge c65_0
      exact absurd (show nI t < gA w 203 by rw [hok.1, nI_lt9 (by omega) (by omega)]; omega) c65_0
    · replace c65_0 : (nI t) < (gA w 203) := jd_gen c65_0
      refine j_V.ldL mh1_M mh1_68 rfl (i := 2) (kd := 0) (v := .int 0) (pcJ := 69) rfl L rfl rfl rfl ?_
      refine j_V.ifc mh1_M mh1_69 (t := 128) rfl (fun c69_0 => ?_) (fun c69_0 => ?_)
      · replace c69_0 : ¬ ((0 : Int32) = 0) := jd_ne c69_0
        exact absurd (by decide) c69_0
      · replace c69_0 : (0 : Int32) = 0 := jd_nen c69_0
        refine j_V.ldL mh1_M mh1_72 rfl (i := 1) (kd := 0) (v := .int (mk5 p)) (pcJ := 73) rfl L rfl rfl rfl ?_
        refine j_V.ldL mh1_M mh1_73 rfl (i := 3) (kd := 0) (v := .int (nI t)) (pcJ := 74) rfl L rfl rfl rfl ?_
        refine j_V.one mh1_M mh1_74 (by decide) (pcJ := 75) (stJ := [.int ((mk5 p) >>> ((nI t) &&& 31))]) rfl ?_
        refine j_V.one mh1_M mh1_75 (by decide) (pcJ := 76) (stJ := [.int 1, .int ((mk5 p) >>> ((nI t) &&& 31))]) rfl ?_
        refine j_V.one mh1_M mh1_76 (by decide) (pcJ := 77) (stJ := [.int (((mk5 p) >>> ((nI t) &&& 31)) &&& 1)]) rfl ?_
        refine j_V.ifc mh1_M mh1_77 (t := 122) rfl (fun c77_0 => ?_) (fun c77_0 => ?_)
        · replace c77_0 : (((mk5 p) >>> ((nI t) &&& 31)) &&& 1) = 0 := jd_eq c77_0
          refine j_V.inL mh1_M mh1_122 (i := 3) (kl' := [(0, .ref 359), (1, .int (mk5 p)), (2, .int 0), (3, .int ((nI t) + 1))]) (pcJ := 125) L rfl rfl rfl rfl (fun lv L => ?_)
          refine j_V.gto mh1_M mh1_125 (t := 56) rfl ?_
          rw [nI_one] at L
          have e8 : m_sfF w p (f + 1) t = m_sfF w p f (t + 1) := if_neg (m_bit0 (by omega) c77_0)
          exact ih (t + 1) (by omega) L K (fun z => k0 (e8.trans z)) (fun s z => k1 s (e8.trans z))
        · replace c77_0 : ¬ ((((mk5 p) >>> ((nI t) &&& 31)) &&& 1) = 0) := jd_eqn c77_0
          refine j_V.ldL mh1_M mh1_80 rfl (i := 0) (kd := 2) (v := .ref 359) (pcJ := 81) rfl L rfl rfl rfl ?_
          refine j_V.ldL mh1_M mh1_81 rfl (i := 3) (kd := 0) (v := .int (nI t)) (pcJ := 82) rfl L rfl rfl rfl ?_
          refine j_V.ldL mh1_M mh1_82 rfl (i := 1) (kd := 0) (v := .int (mk5 p)) (pcJ := 83) rfl L rfl rfl rfl ?_
          refine j_V.cl mh1_M mh1_83 rfl (md := 3) (mj := 217) rfl (by decide) mh0_M (As := [.ref 359, .int (nI t), .int (mk5 p)]) (rest := []) (jk_spl3 (K.at rfl) rfl rfl rfl (Nat.le_of_ble_eq_true rfl) (Nat.le_of_ble_eq_true rfl)) (fun d => mh0_ok (u := fun j => [(u 0), .ref 360, .ref 361, .ref 362, .ref 363, .ref 364, .ref 365, .ref 366, .ref 367, (u 9), (u 10), (u 11), (u 12), (u 13), (u 14), (u 15), (u 16), (u 17), (u 18), (u 19), (u 20), (u 21), .ref 368, .int tm].getD j (u j)) (hok.2.2 t (by omega) (hp t (m_bit1 (by omega) c77_0))) (K.fi [359, 360] rfl rfl)) ?_
          rintro r hz ⟨rfl, ez⟩
          rw [ez]
          clear ez
          show j_V jP _ 219 86 lv [.int (m_couldGo w (nI t) (mk5 p) (m_gg w t))] h _
          refine j_V.ifc mh1_M mh1_86 (t := 92) rfl (fun c86_1 => ?_) (fun c86_1 => ?_)
          · replace c86_1 : ¬ ((m_couldGo w (nI t) (mk5 p) (m_gg w t)) = 0) := jd_ne c86_1
            refine j_V.ldL mh1_M mh1_92 rfl (i := 1) (kd := 0) (v := .int (mk5 p)) (pcJ := 93) rfl L rfl rfl rfl ?_
            refine j_V.one mh1_M mh1_93 (by decide) (pcJ := 94) (stJ := [.int 1, .int (mk5 p)]) rfl ?_
            refine j_V.ldL mh1_M mh1_94 rfl (i := 3) (kd := 0) (v := .int (nI t)) (pcJ := 95) rfl L rfl rfl rfl ?_
            refine j_V.one mh1_M mh1_95 (by decide) (pcJ := 96) (stJ := [.int (1 <<< ((nI t) &&& 31)), .int (mk5 p)]) rfl ?_
            refine j_V.one mh1_M mh1_96 (by decide) (pcJ := 97) (stJ := [.int (-1), .int (1 <<< ((nI t) &&& 31)), .int (mk5 p)]) rfl ?_
            refine j_V.one mh1_M mh1_97 (by decide) (pcJ := 98) (stJ := [.int ((1 <<< ((nI t) &&& 31)) ^^^ (-1)), .int (mk5 p)]) rfl ?_
            refine j_V.one mh1_M mh1_98 (by decide) (pcJ := 99) (stJ := [.int ((mk5 p) &&& ((1 <<< ((nI t) &&& 31)) ^^^ (-1)))]) rfl ?_
            refine j_V.stL mh1_M mh1_99 rfl (i := 1) (kd := 0) (kl' := [(0, .ref 359), (1, .int ((mk5 p) &&& ((1 <<< ((nI t) &&& 31)) ^^^ (-1)))), (2, .int 0), (3, .int (nI t))]) (pcJ := 100) rfl L rfl (by decide) rfl rfl rfl (fun lv L => ?_)
            refine j_V.ldL mh1_M mh1_100 rfl (i := 0) (kd := 2) (v := .ref 359) (pcJ := 101) rfl L rfl rfl rfl ?_
            refine j_V.getK mh1_M mh1_101 (ci := 10) (j := 22) rfl K rfl rfl ?_
            refine j_V.ldL mh1_M mh1_104 rfl (i := 0) (kd := 2) (v := .ref 359) (pcJ := 105) rfl L rfl rfl rfl ?_
            refine j_V.getK mh1_M mh1_105 (ci := 10) (j := 23) rfl K rfl rfl ?_
            refine j_V.ldL mh1_M mh1_108 rfl (i := 3) (kd := 0) (v := .int (nI t)) (pcJ := 109) rfl L rfl rfl rfl ?_
            refine j_V.isA mh1_M mh1_109 (k' := [(359, .inl (10, [(u 0), .ref 360, .ref 361, .ref 362, .ref 363, .ref 364, .ref 365, .ref 366, .ref 367, (u 9), (u 10), (u 11), (u 12), (u 13), (u 14), (u 15), (u 16), (u 17), (u 18), (u 19), (u 20), (u 21), .ref 368, .int tm, .ref 369, .ref 370, .ref 371, (u 27)])), (360, .inr (.inl (0, w))), (368, .inr (.inl (0, (sA tk tm (nI t)))))]) K rfl rfl (fun h K => ?_)
            refine j_V.ldL mh1_M mh1_110 rfl (i := 0) (kd := 2) (v := .ref 359) (pcJ := 111) rfl L rfl rfl rfl ?_
            refine j_V.one mh1_M mh1_111 (by decide) (pcJ := 112) (stJ := [.ref 359, .ref 359]) rfl ?_
            refine j_V.getK mh1_M mh1_112 (ci := 10) (j := 23) rfl K rfl rfl ?_
            refine j_V.one mh1_M mh1_115 (by decide) (pcJ := 116) (stJ := [.int 1, .int tm, .ref 359]) rfl ?_
            refine j_V.one mh1_M mh1_116 (by decide) (pcJ := 117) (stJ := [.int (tm + 1), .ref 359]) rfl ?_
            refine j_V.putK mh1_M mh1_117 (ci := 10) (j := 23) (k' := [(359, .inl (10, [(u 0), .ref 360, .ref 361, .ref 362, .ref 363, .ref 364, .ref 365, .ref 366, .ref 367, (u 9), (u 10), (u 11), (u 12), (u 13), (u 14), (u 15), (u 16), (u 17), (u 18), (u 19), (u 20), (u 21), .ref 368, .int (tm + 1), .ref 369, .ref 370, .ref 371, (u 27)])), (360, .inr (.inl (0, w))), (368, .inr (.inl (0, (sA tk tm (nI t)))))]) rfl K rfl (Nat.le_of_ble_eq_true rfl) rfl (Or.inl rfl) rfl rfl (fun h K => ?_)
            refine j_V.one mh1_M mh1_120 (by decide) (pcJ := 121) (stJ := [.int 1]) rfl ?_
            refine j_V.stL mh1_M mh1_121 rfl (i := 2) (kd := 0) (kl' := [(0, .ref 359), (1, .int ((mk5 p) &&& ((1 <<< ((nI t) &&& 31)) ^^^ (-1)))), (2, .int 1), (3, .int (nI t))]) (pcJ := 122) rfl L rfl (by decide) rfl rfl rfl (fun lv L => ?_)
            refine j_V.inL mh1_M mh1_122 (i := 3) (kl' := [(0, .ref 359), (1, .int ((mk5 p) &&& ((1 <<< ((nI t) &&& 31)) ^^^ (-1)))), (2, .int 1), (3, .int ((nI t) + 1))]) (pcJ := 125) L rfl rfl rfl rfl (fun lv L => ?_)
            refine j_V.gto mh1_M mh1_125 (t := 56) rfl ?_
            refine j_V.ldL mh1_M mh1_56 rfl (i := 3) (kd := 0) (v := .int ((nI t) + 1)) (pcJ := 57) rfl L rfl rfl rfl ?_
            refine j_V.ldL mh1_M mh1_57 rfl (i := 0) (kd := 2) (v := .ref 359) (pcJ := 58) rfl L rfl rfl rfl ?_
            refine j_V.getK mh1_M mh1_58 (ci := 10) (j := 1) rfl K rfl rfl ?_
            refine j_V.one mh1_M mh1_61 (by decide) (pcJ := 64) (stJ := [.int 203, .ref 360, .int ((nI t) + 1)]) rfl ?_
            refine j_V.iaA mh1_M mh1_64 K rfl ?_
            refine j_V.icmp mh1_M mh1_65 (t := 128) rfl (fun c65_2 => ?_) (fun c65_2 => ?_)
            · replace c65_2 : ¬ (((nI t) + 1) < (gA w 203)) := jd_ge c65_2
              exact k1 t ((if_pos (m_bit1 (by omega) c77_0)).trans (if_pos (by unfold m_cgo; rw [decide_eq_false c86_1]; rfl))) _ _ (by rw [mk5_clr (by omega)] at L; exact (L.sub ⟨rfl, rfl, rfl, trivial⟩)) K
            · replace c65_2 : ((nI t) + 1) < (gA w 203) := jd_gen c65_2
              refine j_V.ldL mh1_M mh1_68 rfl (i := 2) (kd := 0) (v := .int 1) (pcJ := 69) rfl L rfl rfl rfl ?_
              refine j_V.ifc mh1_M mh1_69 (t := 128) rfl (fun c69_3 => ?_) (fun c69_3 => ?_)
              · replace c69_3 : ¬ ((1 : Int32) = 0) := jd_ne c69_3
                exact k1 t ((if_pos (m_bit1 (by omega) c77_0)).trans (if_pos (by unfold m_cgo; rw [decide_eq_false c86_1]; rfl))) _ _ (by rw [mk5_clr (by omega)] at L; exact (L.sub ⟨rfl, rfl, rfl, trivial⟩)) K
              · replace c69_3 : (1 : Int32) = 0 := jd_nen c69_3
                exact absurd c69_3 (by decide)
          · replace c86_1 : (m_couldGo w (nI t) (mk5 p) (m_gg w t)) = 0 := jd_nen c86_1
            refine j_V.gto mh1_M mh1_89 (t := 122) rfl ?_
            refine j_V.inL mh1_M mh1_122 (i := 3) (kl' := [(0, .ref 359), (1, .int (mk5 p)), (2, .int 0), (3, .int ((nI t) + 1))]) (pcJ := 125) L rfl rfl rfl rfl (fun lv L => ?_)
            refine j_V.gto mh1_M mh1_125 (t := 56) rfl ?_
            rw [nI_one] at L
            have e8 : m_sfF w p (f + 1) t = m_sfF w p f (t + 1) := (if_pos (m_bit1 (by omega) c77_0)).trans (if_neg (by unfold m_cgo; rw [decide_eq_true c86_1]; decide))
            exact ih (t + 1) (by omega) L K (fun z => k0 (e8.trans z)) (fun s z => k1 s (e8.trans z))
/-- what isSafe tells: the trains left, those taken, how many -/
def m_sf (w : List Int32) (n : Nat) (tk : List Int32) : (Nat → Bool) × List Int32 × Int32 := m_sfO w n 6 (m_sfL w n 0 (fun _ => false)) tk 0
def m_isSafe (w : List Int32) (n : Nat) : Int32 := (if mk5 (m_sf w n []).1 = 0 then 1 else 0)
theorem m_sfO_tk (w : List Int32) (n : Nat) : ∀ (q : Nat) (p : Nat → Bool) (tk tk' : List Int32) (tm : Int32), (m_sfO w n q p tk tm).1 = (m_sfO w n q p tk' tm).1 ∧ (m_sfO w n q p tk tm).2.2 = (m_sfO w n q p tk' tm).2.2
  | 0, _, _, _, _ => ⟨rfl, rfl⟩
  | q + 1, p, tk, tk', tm => by
    unfold m_sfO
    cases m_sfF w p n 0 with
    | none => exact ⟨rfl, rfl⟩
    | some t => exact m_sfO_tk w n q _ _ _ _
theorem m_sf_1 (w : List Int32) (n : Nat) (tk : List Int32) : (m_sf w n tk).1 = (m_sf w n []).1 := (m_sfO_tk w n 6 _ _ _ _).1
set_option maxRecDepth 1000000 in
theorem mh1_ok_l48 {u : Nat → Value} {w : List Int32} {n d : Nat} {h0 : J_H} (hok : m_sfok w n) : ∀ (q : Nat) (p : Nat → Bool) (tk : List Int32) (tm : Int32) {lv : J_L} {h : J_H}, cnt5 p < q → (∀ t, p t = true → m_plc w t = true) → LK lv [(0, .ref 359), (1, .int (mk5 p)), (2, .int 1)] → KN h [(359, .inl (10, [(u 0), .ref 360, .ref 361, .ref 362, .ref 363, .ref 364, .ref 365, .ref 366, .ref 367, (u 9), (u 10), (u 11), (u 12), (u 13), (u 14), (u 15), (u 16), (u 17), (u 18), (u 19), (u 20), (u 21), .ref 368, .int tm, .ref 369, .ref 370, .ref 371, (u 27)])), (360, .inr (.inl (0, w))), (368, .inr (.inl (0, tk)))] h0 → j_V jP d 219 48 lv [] h (fun rv h' => rv = some (.int (if mk5 (m_sfO w n q p tk tm).1 = 0 then 1 else 0)) ∧ KN h' [(359, .inl (10, [(u 0), .ref 360, .ref 361, .ref 362, .ref 363, .ref 364, .ref 365, .ref 366, .ref 367, (u 9), (u 10), (u 11), (u 12), (u 13), (u 14), (u 15), (u 16), (u 17), (u 18), (u 19), (u 20), (u 21), .ref 368, .int (m_sfO w n q p tk tm).2.2, .ref 369, .ref 370, .ref 371, (u 27)])), (360, .inr (.inl (0, w))), (368, .inr (.inl (0, (m_sfO w n q p tk tm).2.1)))] h0) := by
  intro q
  induction q with
  | zero => intro p tk tm lv h e; omega
  | succ q ih =>
    intro p tk tm lv h e hp L K
    refine j_V.ldL mh1_M mh1_48 rfl (i := 2) (kd := 0) (v := .int 1) (pcJ := 49) rfl L rfl rfl rfl ?_
    refine j_V.ifc mh1_M mh1_49 (t := 131) rfl (fun c49_0 => ?_) (fun c49_0 => ?_)
    · replace c49_0 : (1 : Int32) = 0 := jd_eq c49_0
      exact absurd c49_0 (by decide)
    · replace c49_0 : ¬ ((1 : Int32) = 0) := jd_eqn c49_0
      refine j_V.one mh1_M mh1_52 (by decide) (pcJ := 53) (stJ := [.int 0]) rfl ?_
      refine j_V.stL mh1_M mh1_53 rfl (i := 2) (kd := 0) (kl' := [(0, .ref 359), (1, .int (mk5 p)), (2, .int 0)]) (pcJ := 54) rfl L rfl (by decide) rfl rfl rfl (fun lv L => ?_)
      refine j_V.one mh1_M mh1_54 (by decide) (pcJ := 55) (stJ := [.int 0]) rfl ?_
      refine j_V.stL mh1_M mh1_55 rfl (i := 3) (kd := 0) (kl' := [(0, .ref 359), (1, .int (mk5 p)), (2, .int 0), (3, .int 0)]) (pcJ := 56) rfl L rfl (by decide) rfl rfl rfl (fun lv L => ?_)
      refine mh1_ok_l56 (p := p) hok hp n 0 (Nat.zero_add n) L K (fun e8 => ?_) (fun s e8 => ?_)
      · intro lv L
        refine j_V.gto mh1_M mh1_128 (t := 48) rfl ?_
        refine j_V.ldL mh1_M mh1_48 rfl (i := 2) (kd := 0) (v := .int 0) (pcJ := 49) rfl L rfl rfl rfl ?_
        refine j_V.ifc mh1_M mh1_49 (t := 131) rfl (fun c49_0 => ?_) (fun c49_0 => ?_)
        · replace c49_0 : (0 : Int32) = 0 := jd_eq c49_0
          refine j_V.ldL mh1_M mh1_131 rfl (i := 1) (kd := 0) (v := .int (mk5 p)) (pcJ := 132) rfl L rfl rfl rfl ?_
          refine j_V.ifc mh1_M mh1_132 (t := 139) rfl (fun c132_0 => ?_) (fun c132_0 => ?_)
          · replace c132_0 : ¬ ((mk5 p) = 0) := jd_ne c132_0
            refine j_V.one mh1_M mh1_139 (by decide) (pcJ := 140) (stJ := [.int 0]) rfl ?_
            have e9 : m_sfO w n (q + 1) p tk tm = (p, tk, tm) := by unfold m_sfO; rw [e8]
            refine j_V.ri mh1_M mh1_140 ?_
            rw [e9]
            exact ⟨congrArg (fun z => some (Value.int z)) (Eq.symm ((if_neg c132_0).trans (rfl))), K⟩
          · replace c132_0 : (mk5 p) = 0 := jd_nen c132_0
            refine j_V.one mh1_M mh1_135 (by decide) (pcJ := 136) (stJ := [.int 1]) rfl ?_
            refine j_V.gto mh1_M mh1_136 (t := 140) rfl ?_
            have e9 : m_sfO w n (q + 1) p tk tm = (p, tk, tm) := by unfold m_sfO; rw [e8]
            refine j_V.ri mh1_M mh1_140 ?_
            rw [e9]
            exact ⟨congrArg (fun z => some (Value.int z)) (Eq.symm ((if_pos c132_0).trans (rfl))), K⟩
        · replace c49_0 : ¬ ((0 : Int32) = 0) := jd_eqn c49_0
          exact absurd (by decide) c49_0
      · intro lv h L K
        have e9 : m_sfO w n (q + 1) p tk tm = m_sfO w n q (fun i => p i && !Nat.beq i s) (sA tk tm (nI s)) (tm + 1) := by
          show (match m_sfF w p n 0 with
            | none => (p, tk, tm)
            | some t => m_sfO w n q (fun i => p i && !Nat.beq i t) (sA tk tm (nI t)) (tm + 1)) = _
          rw [e8]
        rw [e9]
        have hs := m_sfF_lt e8
        have hs5 : s < 5 := by have := hok.2.1; omega
        have hc8 := cnt5_clr hs5 hs.2
        refine j_V.gto mh1_M mh1_128 (t := 48) rfl ?_
        exact ih _ _ _ (by omega) (fun t z => hp t (Bool.and_eq_true_iff.mp z).1) L K
theorem m_sfL_p {w : List Int32} : ∀ (f t : Nat) (p : Nat → Bool), (∀ t, p t = true → m_plc w t = true) → ∀ i, m_sfL w f t p i = true → m_plc w i = true
  | 0, _, _, h, i, z => h i z
  | f + 1, t, p, h, i, z => by
    refine m_sfL_p f (t + 1) _ ?_ i z
    intro j hj
    split at hj
    · rename_i hc
      rcases Bool.or_eq_true_iff.mp hj with y | y
      · exact h j y
      · rw [Nat.beq_eq.mp y]; exact hc
    · exact h j hj
set_option maxRecDepth 1000000 in
theorem mh1_ok0 {u : Nat → Value} {w tk : List Int32} {tm : Int32} {n d : Nat} {h h0 : J_H} (hok : m_sfok w n) (K : KN h [(359, .inl (10, [(u 0), .ref 360, .ref 361, .ref 362, .ref 363, .ref 364, .ref 365, .ref 366, .ref 367, (u 9), (u 10), (u 11), (u 12), (u 13), (u 14), (u 15), (u 16), (u 17), (u 18), (u 19), (u 20), (u 21), .ref 368, .int tm, .ref 369, .ref 370, .ref 371, (u 27)])), (360, .inr (.inl (0, w))), (368, .inr (.inl (0, tk)))] h0) : j_V jP d 219 0 (lv_args 0 [.ref 359]) [] h (fun rv h' => rv = some (.int (if mk5 (m_sf w n tk).1 = 0 then 1 else 0)) ∧ KN h' [(359, .inl (10, [(u 0), .ref 360, .ref 361, .ref 362, .ref 363, .ref 364, .ref 365, .ref 366, .ref 367, (u 9), (u 10), (u 11), (u 12), (u 13), (u 14), (u 15), (u 16), (u 17), (u 18), (u 19), (u 20), (u 21), .ref 368, .int (m_sf w n tk).2.2, .ref 369, .ref 370, .ref 371, (u 27)])), (360, .inr (.inl (0, w))), (368, .inr (.inl (0, (m_sf w n tk).2.1)))] h0) := by
  show j_V jP d 219 0 [(0, .ref 359)] [] h _
  obtain ⟨lv, elv, L⟩ : ∃ lv, lv = [(0, .ref 359)] ∧ LK lv [(0, .ref 359)] := ⟨_, rfl, LK.rf⟩
  rw [← elv]
  clear elv
  refine j_V.ldL mh1_M mh1_0 rfl (i := 0) (kd := 2) (v := .ref 359) (pcJ := 1) rfl L rfl rfl rfl ?_
  refine j_V.one mh1_M mh1_1 (by decide) (pcJ := 2) (stJ := [.int 0, .ref 359]) rfl ?_
  refine j_V.putK mh1_M mh1_2 (ci := 10) (j := 23) (k' := [(359, .inl (10, [(u 0), .ref 360, .ref 361, .ref 362, .ref 363, .ref 364, .ref 365, .ref 366, .ref 367, (u 9), (u 10), (u 11), (u 12), (u 13), (u 14), (u 15), (u 16), (u 17), (u 18), (u 19), (u 20), (u 21), .ref 368, .int 0, .ref 369, .ref 370, .ref 371, (u 27)])), (360, .inr (.inl (0, w))), (368, .inr (.inl (0, tk)))]) rfl K rfl (Nat.le_of_ble_eq_true rfl) rfl (Or.inl rfl) rfl rfl (fun h K => ?_)
  refine j_V.one mh1_M mh1_5 (by decide) (pcJ := 6) (stJ := [.int 0]) rfl ?_
  refine j_V.stL mh1_M mh1_6 rfl (i := 1) (kd := 0) (kl' := [(0, .ref 359), (1, .int 0)]) (pcJ := 7) rfl L rfl (by decide) rfl rfl rfl (fun lv L => ?_)
  refine j_V.one mh1_M mh1_7 (by decide) (pcJ := 8) (stJ := [.int 0]) rfl ?_
  refine j_V.stL mh1_M mh1_8 rfl (i := 2) (kd := 0) (kl' := [(0, .ref 359), (1, .int 0), (2, .int 0)]) (pcJ := 9) rfl L rfl (by decide) rfl rfl rfl (fun lv L => ?_)
  have e0 : (0 : Int32) = mk5 (fun _ => false) := mk5_none.symm
  have L : LK lv [(0, .ref 359), (1, .int (mk5 (fun _ => false))), (2, .int (nI 0))] := by rw [← e0]; exact L
  refine mh1_ok_l9 hok n 0 _ (Nat.zero_add n) L K (fun lv L => ?_)
  refine j_V.one mh1_M mh1_46 (by decide) (pcJ := 47) (stJ := [.int 1]) rfl ?_
  refine j_V.stL mh1_M mh1_47 rfl (i := 2) (kd := 0) (kl' := [(0, .ref 359), (1, .int (mk5 (m_sfL w n 0 (fun _ => false)))), (2, .int 1)]) (pcJ := 48) rfl L rfl (by decide) rfl rfl rfl (fun lv L => ?_)
  exact mh1_ok_l48 hok 6 _ tk 0 (Nat.lt_succ_of_le (cnt5_le _)) (m_sfL_p n 0 _ (fun t z => nomatch z)) L K
theorem mh1_ok {u : Nat → Value} {w tk : List Int32} {tm : Int32} {n d : Nat} {h h0 : J_H} (hok : m_sfok w n) (K : KN h [(359, .inl (10, [(u 0), .ref 360, .ref 361, .ref 362, .ref 363, .ref 364, .ref 365, .ref 366, .ref 367, (u 9), (u 10), (u 11), (u 12), (u 13), (u 14), (u 15), (u 16), (u 17), (u 18), (u 19), (u 20), (u 21), .ref 368, .int tm, .ref 369, .ref 370, .ref 371, (u 27)])), (360, .inr (.inl (0, w))), (368, .inr (.inl (0, tk)))] h0) : j_V jP d 219 0 (lv_args 0 [.ref 359]) [] h (fun rv h' => rv = some (.int (m_isSafe w n)) ∧ KN h' [(359, .inl (10, [(u 0), .ref 360, .ref 361, .ref 362, .ref 363, .ref 364, .ref 365, .ref 366, .ref 367, (u 9), (u 10), (u 11), (u 12), (u 13), (u 14), (u 15), (u 16), (u 17), (u 18), (u 19), (u 20), (u 21), .ref 368, .int (m_sf w n tk).2.2, .ref 369, .ref 370, .ref 371, (u 27)])), (360, .inr (.inl (0, w))), (368, .inr (.inl (0, (m_sf w n tk).2.1)))] h0) := by
  refine j_V.mono (mh1_ok0 hok K) ?_
  rintro rv h' ⟨h1, h2⟩
  rw [m_sf_1] at h1
  exact ⟨h1, h2⟩
