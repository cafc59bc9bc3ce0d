/-! undo of the reference; written by wip/p3/gen_un.py -/
set_option maxRecDepth 100000 in
theorem jRf_M : j_meth jP 169 = some (yX10_refuse, cX10_refuse, 2, (some .int), 1, false, 10) := rfl
set_option maxRecDepth 100000 in
theorem jRf_0 : j_code jP 169 0 = some (.aload_n 0) := rfl
set_option maxRecDepth 100000 in
theorem jRf_1 : j_code jP 169 1 = some (.iconst 0) := rfl
set_option maxRecDepth 100000 in
theorem jRf_2 : j_code jP 169 2 = some (.putfield 55) := rfl
set_option maxRecDepth 100000 in
theorem jRf_5 : j_code jP 169 5 = some (.aload_n 0) := rfl
set_option maxRecDepth 100000 in
theorem jRf_6 : j_code jP 169 6 = some (.iload_n 1) := rfl
set_option maxRecDepth 100000 in
theorem jRf_7 : j_code jP 169 7 = some (.putfield 58) := rfl
set_option maxRecDepth 100000 in
theorem jRf_10 : j_code jP 169 10 = some (.iconst (-1)) := rfl
set_option maxRecDepth 100000 in
theorem jRf_11 : j_code jP 169 11 = some (.ireturn) := rfl
set_option maxRecDepth 100000 in
theorem jGv_M : j_meth jP 170 = some (yX10_gives, cX10_gives, 2, (some .int), 1, false, 10) := rfl
set_option maxRecDepth 100000 in
theorem jGv_0 : j_code jP 170 0 = some (.aload_n 0) := rfl
set_option maxRecDepth 100000 in
theorem jGv_1 : j_code jP 170 1 = some (.iconst 0) := rfl
set_option maxRecDepth 100000 in
theorem jGv_2 : j_code jP 170 2 = some (.putfield 55) := rfl
set_option maxRecDepth 100000 in
theorem jGv_5 : j_code jP 170 5 = some (.aload_n 0) := rfl
set_option maxRecDepth 100000 in
theorem jGv_6 : j_code jP 170 6 = some (.iconst 0) := rfl
set_option maxRecDepth 100000 in
theorem jGv_7 : j_code jP 170 7 = some (.putfield 58) := rfl
set_option maxRecDepth 100000 in
theorem jGv_10 : j_code jP 170 10 = some (.iload_n 1) := rfl
set_option maxRecDepth 100000 in
theorem jGv_11 : j_code jP 170 11 = some (.ireturn) := rfl
theorem jRf_ok {d : Nat} {w : Int32} {fs : List Value} {h : J_H} (h1 : h[359]? = some (.inl (10, fs))) (hl : fs.length = 28) : j_W jP d 169 0 (lv_args 0 [.ref 359, .int w]) [] h (fun r h' => r = some (.int (-1)) ∧ h' = h.set 359 (.inl (10, (fs.set 0 (.int 0)).set 10 (.int w)))) := by
  show j_W jP d 169 0 [(0, .ref 359), (1, .int w)] [] h _
  refine j_W.one jRf_M jRf_0 (by decide) (pcJ := 1) (stJ := [.ref 359]) rfl ?_
  refine j_W.one jRf_M jRf_1 (by decide) (pcJ := 2) (stJ := [.int 0, .ref 359]) rfl ?_
  refine j_W.put jRf_M jRf_2 (ci := 10) (j := 0) rfl h1 (by rw [hl]; decide) rfl (Or.inl rfl) ?_
  refine j_W.one jRf_M jRf_5 (by decide) (pcJ := 6) (stJ := [.ref 359]) rfl ?_
  refine j_W.one jRf_M jRf_6 (by decide) (pcJ := 7) (stJ := [.int w, .ref 359]) rfl ?_
  refine j_W.put jRf_M jRf_7 (ci := 10) (j := 10) rfl (jk_at h1) (by rw [List.length_set, hl]; decide) rfl (Or.inl rfl) ?_
  refine j_W.one jRf_M jRf_10 (by decide) (pcJ := 11) (stJ := [.int (-1)]) rfl ?_
  rw [List.set_set]
  exact j_W.ret jRf_M jRf_11 rfl rfl ⟨rfl, rfl⟩
theorem jGv_ok {d : Nat} {w : Int32} {fs : List Value} {h : J_H} (h1 : h[359]? = some (.inl (10, fs))) (hl : fs.length = 28) : j_W jP d 170 0 (lv_args 0 [.ref 359, .int w]) [] h (fun r h' => r = some (.int w) ∧ h' = h.set 359 (.inl (10, (fs.set 0 (.int 0)).set 10 (.int 0)))) := by
  show j_W jP d 170 0 [(0, .ref 359), (1, .int w)] [] h _
  refine j_W.one jGv_M jGv_0 (by decide) (pcJ := 1) (stJ := [.ref 359]) rfl ?_
  refine j_W.one jGv_M jGv_1 (by decide) (pcJ := 2) (stJ := [.int 0, .ref 359]) rfl ?_
  refine j_W.put jGv_M jGv_2 (ci := 10) (j := 0) rfl h1 (by rw [hl]; decide) rfl (Or.inl rfl) ?_
  refine j_W.one jGv_M jGv_5 (by decide) (pcJ := 6) (stJ := [.ref 359]) rfl ?_
  refine j_W.one jGv_M jGv_6 (by decide) (pcJ := 7) (stJ := [.int 0, .ref 359]) rfl ?_
  refine j_W.put jGv_M jGv_7 (ci := 10) (j := 10) rfl (jk_at h1) (by rw [List.length_set, hl]; decide) rfl (Or.inl rfl) ?_
  refine j_W.one jGv_M jGv_10 (by decide) (pcJ := 11) (stJ := [.int w]) rfl ?_
  rw [List.set_set]
  exact j_W.ret jGv_M jGv_11 rfl rfl ⟨rfl, rfl⟩
theorem j_spl3' {N : j_M} {h : J_H} {k : Nat} {fs : List Value} {rest As : List Value} (hk : h[k]? = some (.inl (j_ci N, fs))) (hnp : j_np N = As.length) (hr : (rest.map fun v => v.category).sum ≤ 8) (hl : (lg_sl (.ref k :: As)).length ≤ j_nL N) : j_spl 3 N h (As.reverse ++ .ref k :: rest) = some (.ref k :: As, rest) := by
  unfold j_spl
  have e : j_nar 3 (j_np N) = As.length + 1 := by rw [hnp]; rfl
  have e1 : (As.reverse ++ .ref k :: rest).take (As.length + 1) = As.reverse ++ [.ref k] := by
    rw [show As.reverse ++ Value.ref k :: rest = (As.reverse ++ [.ref k]) ++ rest by simp, List.take_append_of_le_length (by simp), List.take_of_length_le (by simp)]
  have e2 : (As.reverse ++ .ref k :: rest).drop (As.length + 1) = rest := by
    rw [show As.reverse ++ Value.ref k :: rest = (As.reverse ++ [.ref k]) ++ rest by simp, List.drop_append_of_le_length (by simp), List.drop_eq_nil_of_le (by simp), List.nil_append]
  rw [e, e1, e2]
  have e3 : (As.reverse ++ [Value.ref k]).reverse = .ref k :: As := by simp
  rw [e3]
  refine if_pos ⟨by simp, hr, hl, ?_⟩
  show (match h[k]? with
    | some (.inl (c, _)) => decide (c = j_ci N)
    | _ => false) = true
  rw [hk]
  exact decide_eq_true rfl
theorem jmx_0 {v : Value} {d : jc_Dd} {T : jc_Sg} {i : Nat} (hi : i = 0 ∨ i = 10) (hv : ∃ x : Int32, v = .int x) (hd : ja_n2 jxm.1 359 = some d) (hT : jc_sg d.2 i = some T) : jc_tv T.1 v := by
  obtain rfl := Option.some.inj (hd.symm.trans rfl)
  obtain ⟨x, rfl⟩ := hv
  rcases hi with rfl | rfl
  · obtain rfl := Option.some.inj (hT.symm.trans rfl)
    exact jm_full x
  · obtain rfl := Option.some.inj (hT.symm.trans rfl)
    exact jm_full x
def jm_Wf : jc_W := [(359, 0, 1), (359, 10, 11), (359, 13, 14)]
/-- fields of the reference's object are put -/
theorem jm_fs {X : J_H → Prop} (hX : jc_Xo jxm X) {r : jc_R} {t : jc_T} {n : Nat} {B : jc_B} {h : J_H} {fs fs' : List Value} (hg : jc_g jxm X r t (n, B, [], [], [], [9, 12, 13, 14, 15, 16, 17, 18, 21, 22, 23, 24, 25]) h) (o1 : h[359]? = some (.inl (10, fs))) (hl : fs'.length = fs.length) (hs : ∀ i, i ≠ 0 → i ≠ 10 → i ≠ 13 → fs'[i]? = fs[i]?) (h0 : ∃ x : Int32, fs'[0]? = some (.int x)) (h10 : ∃ x : Int32, fs'[10]? = some (.int x)) (h13 : ∃ a, a ≤ 10 ∧ fs'[13]? = some (.int (nI a))) : jc_g jxm X r t (n, B, [], [], [], [9, 12, 13, 14, 15, 16, 17, 18, 21, 22, 23, 24, 25]) (h.set 359 (.inl (10, fs'))) ∧ jc_fr jm_Wf h (h.set 359 (.inl (10, fs'))) := by
  have o2 : (h.set 359 (.inl (10, fs')))[359]? = some (.inl (10, fs')) := jk_at o1
  have hoth : ∀ x, x ≠ 359 → (h.set 359 (.inl (10, fs')))[x]? = h[x]? := fun x z => List.getElem?_set_ne (fun y => z y.symm)
  have hfr : jc_fr jm_Wf h (h.set 359 (.inl (10, fs'))) := by
    intro x i hw
    by_cases z : x = 359
    · subst z
      have a1 := jm_inW_f hw
      have a2 := jm_inW_f (jm_inW_r hw)
      have a3 := jm_inW_f (jm_inW_r (jm_inW_r hw))
      rw [jc_at_of o2, jc_at_of o1]
      exact hs i (by omega) (by omega) (by omega)
    · unfold jc_at
      rw [hoth x z]
  refine ⟨hg.fr hfr (fun x c hc => ?_) (fun x e i w he hw hat T hT => ?_) (by decide +kernel) (by decide +kernel) (hX h _ (fun a i hw => ?_) hg.2.2.2.2), hfr⟩
  · by_cases z : x = 359
    · subst z
      rw [o1] at hc
      cases hc
      exact ⟨_, o2, by show (0, 10, fs'.length) = (0, 10, fs.length); rw [hl]⟩
    · exact ⟨c, by rw [hoth x z]; exact hc, rfl⟩
  · have hx : x = 359 ∧ (i = 0 ∨ i = 10 ∨ i = 13) := by
      rcases jm_inW_t hw with ⟨z1, z2, z3⟩ | hw
      · exact ⟨z1.symm, by omega⟩
      · rcases jm_inW_t hw with ⟨z1, z2, z3⟩ | hw
        · exact ⟨z1.symm, by omega⟩
        · rcases jm_inW_t hw with ⟨z1, z2, z3⟩ | hw
          · exact ⟨z1.symm, by omega⟩
          · cases hw
    obtain ⟨rfl, hi⟩ := hx
    rw [jc_at_of o2] at hat
    have hat : fs'[i]? = some w := hat
    rcases hi with rfl | rfl | rfl
    · obtain ⟨y, hy⟩ := h0
      rw [hy] at hat
      exact jmx_0 (Or.inl rfl) ⟨y, (Option.some.inj hat).symm⟩ he hT
    · obtain ⟨y, hy⟩ := h10
      rw [hy] at hat
      exact jmx_0 (Or.inr rfl) ⟨y, (Option.some.inj hat).symm⟩ he hT
    · obtain ⟨a, a1, a2⟩ := h13
      rw [a2] at hat
      exact jmx_13 a1 (Option.some.inj hat).symm he hT
  · rcases jm_inW_t hw with ⟨z1, -, -⟩ | hw
    · subst z1
      unfold jc_at
      rw [hoth 364 (by decide)]
    · cases hw
def jxm_un : jc_Cn := (282, 1, [.inr (some (some 359))], (1, [], [], [], [], [9, 12, 13, 14, 15, 16, 17, 18, 21, 22, 23, 24, 25]), [(360, 0, 602), (359, 0, 1), (359, 10, 11), (359, 13, 14)], [((2, [(1, .negSucc 2147483647, .ofNat 2147483647)], [], [], [], [9, 12, 13, 14, 15, 16, 17, 18, 21, 22, 23, 24, 25]), some (.inl (1, 0)))])
theorem jm_any {X : J_H → Prop} {r : jc_R} {t : jc_T} {h : J_H} (v : Int32) (hg : jc_g jxm X r t (1, [], [], [], [], [9, 12, 13, 14, 15, 16, 17, 18, 21, 22, 23, 24, 25]) h) : ∃ o ∈ jxm_un.2.2.2.2.2, ∃ r t, jc_g jxm X r t o.1 h ∧ jc_an r o.1.1 o.2 (some (.int v)) := by
  have hB : jc_gB (jc_up r 1 v.toInt) 2 [(1, .negSucc 2147483647, .ofNat 2147483647)] := hg.1.up (b := (.negSucc 2147483647, .ofNat 2147483647)) (show jc_tv (some (.inl (-2147483648, 2147483647))) (.int v) from jm_full v)
  refine ⟨_, List.mem_cons_self, jc_up r 1 v.toInt, t, hg.rr hB, ⟨by decide, ?_⟩⟩
  show v.toInt = jc_up r 1 v.toInt 1 + 0
  rw [jc_up_at, Int.add_zero]
theorem jm_int (v : Int32) : ∃ x : Int32, (Value.int v) = .int x := ⟨v, rfl⟩
set_option maxRecDepth 100000 in
theorem jxm_un_ok : jc_Con jP jxm jm_X jxm_un := by
  intro d hd r t h As hg hA
  obtain ⟨v, st, rfl, q1, q2⟩ := jc_st_cons hA
  obtain rfl := q1.ref
  cases st with
  | cons _ _ => exact q2.elim
  | nil =>
  have hg : jc_g jxm jm_X r t (1, [], [], [], [], [9, 12, 13, 14, 15, 16, 17, 18, 21, 22, 23, 24, 25]) h := hg
  obtain ⟨fs, a, o1, o2, o3, o4, o5, o6, o7⟩ := jm_obj hg
  obtain ⟨K, hK, hKl⟩ := jm_arr hg jm_d364 rfl
  obtain ⟨dn, dn1, dn2, -⟩ := jm_rowN.2.2.2.2.1
  obtain ⟨N, hN, hNl⟩ := jm_arr hg dn1 dn2
  obtain ⟨d0, rfl⟩ : ∃ d0, d = d0 + 1 := ⟨d - 1, by have : 1 ≤ d := hd; omega⟩
  have hget : ∀ i, i < 28 → ∃ v, fs[i]? = some v := fun i hi => ⟨_, List.getElem?_eq_getElem (show i < fs.length by omega)⟩
  show j_W jP (d0 + 1) 282 0 [(0, .ref 359)] [] h _
  refine j_W.one jUn_M jUn_0 (by decide) (pcJ := 1) (stJ := [.ref 359]) rfl ?_
  refine j_W.get jUn_M jUn_1 (ci := 10) (j := 13) rfl o1 o4 ?_
  refine j_W.ifc jUn_M jUn_4 (t := 13) rfl (fun c => ?_) (fun c => ?_)
  · have ha0 : a ≠ 0 := by
      rintro rfl
      exact absurd c (by decide)
    obtain ⟨b, rfl⟩ : ∃ b, a = b + 1 := ⟨a - 1, by omega⟩
    refine j_W.one jUn_M jUn_13 (by decide) (pcJ := 14) (stJ := [.ref 359]) rfl ?_
    refine j_W.one jUn_M jUn_14 (by decide) (pcJ := 15) (stJ := [.ref 359, .ref 359]) rfl ?_
    refine j_W.get jUn_M jUn_15 (ci := 10) (j := 13) rfl o1 o4 ?_
    refine j_W.one jUn_M jUn_18 (by decide) (pcJ := 19) (stJ := [.int 1, .int (nI (b + 1)), .ref 359]) rfl ?_
    refine j_W.one jUn_M jUn_19 (by decide) (pcJ := 20) (stJ := [.int (nI b), .ref 359]) (by rw [← jk_sub b 1]; rfl) ?_
    refine j_W.put jUn_M jUn_20 (ci := 10) (j := 13) rfl o1 (by rw [o2]; decide) rfl (Or.inl rfl) ?_
    refine j_W.one jUn_M jUn_23 (by decide) (pcJ := 24) (stJ := [.int 0]) rfl ?_
    refine j_W.one jUn_M jUn_24 (by decide) (pcJ := 25) (lv' := [(1, .int 0), (0, .ref 359)]) (stJ := []) rfl ?_
    obtain ⟨g1, f1⟩ := jm_fs (fs' := fs.set 13 (.int (nI b))) jm_Xo hg o1 (by rw [List.length_set]) (fun i z1 z2 z3 => List.getElem?_set_ne (fun z => z3 z.symm)) (by
      rw [List.getElem?_set_ne (by decide)]
      obtain ⟨v, v1, v2⟩ := hg.2.1 359 _ rfl
      obtain ⟨w, w1⟩ := hget 0 (by decide)
      rw [o1] at v1
      cases v1
      have k := v2.2 0 w w1
      unfold jc_cl at k
      obtain ⟨x, rfl, -⟩ := jm_tvi (k _ rfl)
      exact ⟨x, w1⟩) (by
      rw [List.getElem?_set_ne (by decide)]
      obtain ⟨v, v1, v2⟩ := hg.2.1 359 _ rfl
      obtain ⟨w, w1⟩ := hget 10 (by decide)
      rw [o1] at v1
      cases v1
      have k := v2.2 10 w w1
      unfold jc_cl at k
      obtain ⟨x, rfl, -⟩ := jm_tvi (k _ rfl)
      exact ⟨x, w1⟩) ⟨b, by omega, List.getElem?_set_self (by rw [o2]; decide)⟩
    refine jun_1 (a := b) (fs := fs.set 13 (.int (nI b))) (by omega) (by rw [List.getElem?_set_ne (by decide)]; exact o7) (by rw [List.getElem?_set_ne (by decide)]; exact o5) (List.getElem?_set_self (by rw [o2]; decide)) hKl 602 0 _ N (by omega) (jk_at o1) (by rw [List.getElem?_set_ne (by decide)]; exact hK) (by rw [List.getElem?_set_ne (by decide)]; exact hN) hNl (fun h' N' a1 a2 a3 a4 => ?_)
    have p1 : h'[359]? = some (.inl (10, fs.set 13 (.int (nI b)))) := by rw [a1.2 359 (by simp)]; exact jk_at o1
    obtain ⟨t9, ht9⟩ := g1.2.2.2.2 b (by omega)
    have hKK : (h.set 359 (.inl (10, fs.set 13 (.int (nI b)))))[364]? = some (.inr (.inl (0, K))) := by rw [List.getElem?_set_ne (by decide)]; exact hK
    have hNN : (h.set 359 (.inl (10, fs.set 13 (.int (nI b)))))[360]? = some (.inr (.inl (0, N))) := by rw [List.getElem?_set_ne (by decide)]; exact hN
    have hsrc : ∀ i, i < 602 → jc_at h' 360 i = jc_at (h.set 359 (.inl (10, fs.set 13 (.int (nI b))))) 364 (602 * b + i) := fun i hi => by
      rw [jm_atg a2, jm_atg hKK, a4 i, if_pos ⟨Nat.zero_le _, hi⟩]
    obtain ⟨hc1, hc2⟩ := Bool.and_eq_true_iff.mp (show jm_cF [9, 12, 13, 14, 15, 16, 17, 18, 21, 22, 23, 24, 25] 360 8 19 = true by decide +kernel)
    obtain ⟨t2, g2⟩ := ht9.put jm_rowN jm_Xo g1 rfl rfl rfl hsrc ⟨N', a2, a3⟩ (fun x hx => a1.2 x (by simp; exact hx)) (jm_ofb_ok (Of := [9, 12, 13, 14, 15, 16, 17, 18, 21, 22, 23, 24, 25]) (by decide +kernel)) hc1 hc2
    have f2 : jc_fr [(360, 0, 602)] (h.set 359 (.inl (10, fs.set 13 (.int (nI b))))) h' := by
      intro x i hw
      by_cases z : x = 360
      · subst z
        have := jm_inW_f hw
        rw [jm_atg a2, jm_atg hNN, List.getElem?_eq_none (by omega), List.getElem?_eq_none (by omega)]
      · unfold jc_at
        rw [a1.2 x (by simp; exact z)]
    refine j_W.one jUn_M jUn_59 (by decide) (pcJ := 60) (stJ := [.ref 359]) rfl ?_
    refine j_W.one jUn_M jUn_60 (by decide) (pcJ := 61) (stJ := [.ref 359, .ref 359]) rfl ?_
    refine j_W.get jUn_M jUn_61 (ci := 10) (j := 13) rfl p1 (List.getElem?_set_self (by rw [o2]; decide)) ?_
    refine j_W.call jUn_M jUn_64 rfl (md := 3) (mj := 170) rfl (by decide) jGv_M (As := [.ref 359, .int (nI b)]) (rest := []) (j_spl3' (As := [.int (nI b)]) p1 rfl (Nat.zero_le _) (Nat.le_of_ble_eq_true rfl)) (jGv_ok p1 (by rw [List.length_set]; exact o2)) ?_
    rintro _ _ ⟨rfl, rfl⟩
    refine j_W.ret jUn_M jUn_67 rfl (r := some (.int (nI b))) rfl ?_
    have hl2 : (fs.set 13 (.int (nI b))).length = 28 := by rw [List.length_set]; exact o2
    obtain ⟨g3, f3⟩ := jm_fs (fs' := ((fs.set 13 (.int (nI b))).set 0 (.int 0)).set 10 (.int 0)) jm_Xo g2 p1 (by rw [List.length_set, List.length_set]) (fun i z1 z2 z3 => by rw [List.getElem?_set_ne (fun z => z2 z.symm), List.getElem?_set_ne (fun z => z1 z.symm)]) ⟨0, by rw [List.getElem?_set_ne (by decide), List.getElem?_set_self (by rw [hl2]; decide)]⟩ ⟨0, List.getElem?_set_self (by rw [List.length_set, hl2]; decide)⟩ ⟨b, by omega, by rw [List.getElem?_set_ne (by decide), List.getElem?_set_ne (by decide), List.getElem?_set_self (by rw [o2]; decide)]⟩
    exact ⟨(f1.sb (by decide +kernel)).tr ((f2.sb (by decide +kernel)).tr (f3.sb (by decide +kernel))), jm_any (nI b) g3⟩
  · skip
    refine j_W.one jUn_M jUn_7 (by decide) (pcJ := 8) (stJ := [.ref 359]) rfl ?_
    refine j_W.one jUn_M jUn_8 (by decide) (pcJ := 9) (stJ := [.int 5, .ref 359]) rfl ?_
    refine j_W.call jUn_M jUn_9 rfl (md := 3) (mj := 169) rfl (by decide) jRf_M (As := [.ref 359, .int 5]) (rest := []) (j_spl3' (As := [.int 5]) o1 rfl (Nat.zero_le _) (Nat.le_of_ble_eq_true rfl)) (jRf_ok o1 o2) ?_
    rintro _ _ ⟨rfl, rfl⟩
    refine j_W.ret jUn_M jUn_12 rfl (r := some (.int (-1))) rfl ?_
    obtain ⟨g3, f3⟩ := jm_fs (fs' := (fs.set 0 (.int 0)).set 10 (.int 5)) jm_Xo hg o1 (by rw [List.length_set, List.length_set]) (fun i z1 z2 z3 => by rw [List.getElem?_set_ne (fun z => z2 z.symm), List.getElem?_set_ne (fun z => z1 z.symm)]) ⟨0, by rw [List.getElem?_set_ne (by decide), List.getElem?_set_self (by rw [o2]; decide)]⟩ ⟨5, List.getElem?_set_self (by rw [List.length_set, o2]; decide)⟩ ⟨a, o3, by rw [List.getElem?_set_ne (by decide), List.getElem?_set_ne (by decide)]; exact o4⟩
    exact ⟨f3.sb (by decide +kernel), jm_any (-1) g3⟩
