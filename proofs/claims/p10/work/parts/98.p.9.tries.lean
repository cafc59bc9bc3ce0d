/-! the reference's copies, tries, by wip/px/gen_m5.py -/
set_option maxRecDepth 100000 in
theorem mi0_M : j_meth jP 201 = some (yX10_copies, cX10_copies, 3, none, 2, false, 10) := rfl
set_option maxRecDepth 100000 in
theorem mi0_0 : j_code jP 201 0 = some (.iconst 0) := rfl
set_option maxRecDepth 100000 in
theorem mi0_1 : j_code jP 201 1 = some (.istore_n 2) := rfl
set_option maxRecDepth 100000 in
theorem mi0_2 : j_code jP 201 2 = some (.iload_n 2) := rfl
set_option maxRecDepth 100000 in
theorem mi0_3 : j_code jP 201 3 = some (.sipush 602) := rfl
set_option maxRecDepth 100000 in
theorem mi0_6 : j_code jP 201 6 = some (.if_icmp .ge 15) := rfl
set_option maxRecDepth 100000 in
theorem mi0_9 : j_code jP 201 9 = some (.aload_n 1) := rfl
set_option maxRecDepth 100000 in
theorem mi0_10 : j_code jP 201 10 = some (.iload_n 2) := rfl
set_option maxRecDepth 100000 in
theorem mi0_11 : j_code jP 201 11 = some (.aload_n 0) := rfl
set_option maxRecDepth 100000 in
theorem mi0_12 : j_code jP 201 12 = some (.iload_n 2) := rfl
set_option maxRecDepth 100000 in
theorem mi0_13 : j_code jP 201 13 = some (.iaload) := rfl
set_option maxRecDepth 100000 in
theorem mi0_14 : j_code jP 201 14 = some (.iastore) := rfl
set_option maxRecDepth 100000 in
theorem mi0_15 : j_code jP 201 15 = some (.iinc 2 1) := rfl
set_option maxRecDepth 100000 in
theorem mi0_18 : j_code jP 201 18 = some (.goto (-16)) := rfl
set_option maxRecDepth 100000 in
theorem mi0_21 : j_code jP 201 21 = some (.return_) := rfl
def m_copies_l2 (ca : List Int32) : Nat → Int32 → List Int32 → List Int32
  | 0, v2, cb => cb
  | f + 1, v2, cb => let cb1 := (sA cb v2 (gA ca v2)); (m_copies_l2 ca f (v2 + 1) cb1)
set_option maxRecDepth 1000000 in
theorem mi0_ok_l2 {ca : List Int32} {d : Nat} {h0 : J_H} : ∀ (f : Nat) (v2 : Int32) (cb : List Int32) {lv : J_L} {h : J_H}, lpN 602 v2 = f → LK lv [(0, .ref 360), (1, .ref 363), (2, .int v2)] → KN h [(360, .inr (.inl (0, ca))), (363, .inr (.inl (0, cb)))] h0 → j_V jP d 201 2 lv [] h (fun rv h' => rv = none ∧ KN h' [(360, .inr (.inl (0, ca))), (363, .inr (.inl (0, (m_copies_l2 ca f v2 cb))))] h0) := by
  intro f
  induction f with
  | zero =>
    intro v2 cb lv h e L K
    refine j_V.ldL mi0_M mi0_2 rfl (i := 2) (kd := 0) (v := .int v2) (pc' := 3) rfl L rfl rfl rfl ?_
    refine j_V.one mi0_M mi0_3 (by decide) (pc' := 6) (st' := [.int 602, .int v2]) rfl ?_
    refine j_V.icmp mi0_M mi0_6 (t := 21) rfl (fun c6_0 => ?_) (fun c6_0 => ?_)
    · replace c6_0 : ¬ (v2 < 602) := jd_ge c6_0
      refine j_V.ret mi0_M mi0_21 rfl rfl ?_
      rw [show (m_copies_l2 ca 0 v2 cb) = _ from (rfl)]
      exact ⟨rfl, K⟩
    · replace c6_0 : v2 < 602 := jd_gen c6_0
      exact absurd c6_0 (lpN_z e)
  | succ f ih =>
    intro v2 cb lv h e L K
    refine j_V.ldL mi0_M mi0_2 rfl (i := 2) (kd := 0) (v := .int v2) (pc' := 3) rfl L rfl rfl rfl ?_
    refine j_V.one mi0_M mi0_3 (by decide) (pc' := 6) (st' := [.int 602, .int v2]) rfl ?_
    refine j_V.icmp mi0_M mi0_6 (t := 21) rfl (fun c6_0 => ?_) (fun c6_0 => ?_)
    · replace c6_0 : ¬ (v2 < 602) := jd_ge c6_0
      exact absurd (lpN_s e) c6_0
    · replace c6_0 : v2 < 602 := jd_gen c6_0
      refine j_V.ldL mi0_M mi0_9 rfl (i := 1) (kd := 2) (v := .ref 363) (pc' := 10) rfl L rfl rfl rfl ?_
      refine j_V.ldL mi0_M mi0_10 rfl (i := 2) (kd := 0) (v := .int v2) (pc' := 11) rfl L rfl rfl rfl ?_
      refine j_V.ldL mi0_M mi0_11 rfl (i := 0) (kd := 2) (v := .ref 360) (pc' := 12) rfl L rfl rfl rfl ?_
      refine j_V.ldL mi0_M mi0_12 rfl (i := 2) (kd := 0) (v := .int v2) (pc' := 13) rfl L rfl rfl rfl ?_
      refine j_V.iaA mi0_M mi0_13 K rfl ?_
      refine j_V.isA mi0_M mi0_14 (k' := [(360, .inr (.inl (0, ca))), (363, .inr (.inl (0, (sA cb v2 (gA ca v2)))))]) K rfl rfl (fun h K => ?_)
      obtain ⟨cb1, ecb1⟩ : ∃ z, z = (sA cb v2 (gA ca v2)) := ⟨_, rfl⟩
      rw [← ecb1] at K
      refine j_V.inL mi0_M mi0_15 (i := 2) (kl' := [(0, .ref 360), (1, .ref 363), (2, .int (v2 + 1))]) (pc' := 18) L rfl rfl rfl rfl (fun lv L => ?_)
      refine j_V.gto mi0_M mi0_18 (t := 2) rfl ?_
      subst ecb1
      rw [show (m_copies_l2 ca (f + 1) v2 cb) = _ from (rfl)]
      exact ih _ _ (lpN_n e) L K
def m_copies (ca : List Int32) (cb : List Int32) : List Int32 := (m_copies_l2 ca (lpN 602 0) 0 cb)
set_option maxRecDepth 1000000 in
theorem mi0_ok {ca : List Int32} {cb : List Int32} {d : Nat} {h h0 : J_H} (K : KN h [(360, .inr (.inl (0, ca))), (363, .inr (.inl (0, cb)))] h0) : j_V jP d 201 0 (lv_args 0 [.ref 360, .ref 363]) [] h (fun rv h' => rv = none ∧ KN h' [(360, .inr (.inl (0, ca))), (363, .inr (.inl (0, (m_copies ca cb))))] h0) := by
  show j_V jP d 201 0 [(0, .ref 360), (1, .ref 363)] [] h _
  obtain ⟨lv, elv, L⟩ : ∃ lv, lv = [(0, .ref 360), (1, .ref 363)] ∧ LK lv [(0, .ref 360), (1, .ref 363)] := ⟨_, rfl, LK.rf⟩
  rw [← elv]
  clear elv
  refine j_V.one mi0_M mi0_0 (by decide) (pc' := 1) (st' := [.int 0]) rfl ?_
  refine j_V.stL mi0_M mi0_1 rfl (i := 2) (kd := 0) (kl' := [(0, .ref 360), (1, .ref 363), (2, .int 0)]) (pc' := 2) rfl L rfl (by decide) rfl rfl rfl (fun lv L => ?_)
  rw [show (m_copies ca cb) = _ from (rfl)]
  exact mi0_ok_l2 _ _ _ rfl L K
set_option maxRecDepth 100000 in
theorem mi1_M : j_meth jP 201 = some (yX10_copies, cX10_copies, 3, none, 2, false, 10) := rfl
set_option maxRecDepth 100000 in
theorem mi1_0 : j_code jP 201 0 = some (.iconst 0) := rfl
set_option maxRecDepth 100000 in
theorem mi1_1 : j_code jP 201 1 = some (.istore_n 2) := rfl
set_option maxRecDepth 100000 in
theorem mi1_2 : j_code jP 201 2 = some (.iload_n 2) := rfl
set_option maxRecDepth 100000 in
theorem mi1_3 : j_code jP 201 3 = some (.sipush 602) := rfl
set_option maxRecDepth 100000 in
theorem mi1_6 : j_code jP 201 6 = some (.if_icmp .ge 15) := rfl
set_option maxRecDepth 100000 in
theorem mi1_9 : j_code jP 201 9 = some (.aload_n 1) := rfl
set_option maxRecDepth 100000 in
theorem mi1_10 : j_code jP 201 10 = some (.iload_n 2) := rfl
set_option maxRecDepth 100000 in
theorem mi1_11 : j_code jP 201 11 = some (.aload_n 0) := rfl
set_option maxRecDepth 100000 in
theorem mi1_12 : j_code jP 201 12 = some (.iload_n 2) := rfl
set_option maxRecDepth 100000 in
theorem mi1_13 : j_code jP 201 13 = some (.iaload) := rfl
set_option maxRecDepth 100000 in
theorem mi1_14 : j_code jP 201 14 = some (.iastore) := rfl
set_option maxRecDepth 100000 in
theorem mi1_15 : j_code jP 201 15 = some (.iinc 2 1) := rfl
set_option maxRecDepth 100000 in
theorem mi1_18 : j_code jP 201 18 = some (.goto (-16)) := rfl
set_option maxRecDepth 100000 in
theorem mi1_21 : j_code jP 201 21 = some (.return_) := rfl
set_option maxRecDepth 1000000 in
theorem mi1_ok_l2 {ca : List Int32} {d : Nat} {h0 : J_H} : ∀ (f : Nat) (v2 : Int32) (cb : List Int32) {lv : J_L} {h : J_H}, lpN 602 v2 = f → LK lv [(0, .ref 363), (1, .ref 360), (2, .int v2)] → KN h [(360, .inr (.inl (0, cb))), (363, .inr (.inl (0, ca)))] h0 → j_V jP d 201 2 lv [] h (fun rv h' => rv = none ∧ KN h' [(360, .inr (.inl (0, (m_copies_l2 ca f v2 cb)))), (363, .inr (.inl (0, ca)))] h0) := by
  intro f
  induction f with
  | zero =>
    intro v2 cb lv h e L K
    refine j_V.ldL mi1_M mi1_2 rfl (i := 2) (kd := 0) (v := .int v2) (pc' := 3) rfl L rfl rfl rfl ?_
    refine j_V.one mi1_M mi1_3 (by decide) (pc' := 6) (st' := [.int 602, .int v2]) rfl ?_
    refine j_V.icmp mi1_M mi1_6 (t := 21) rfl (fun c6_0 => ?_) (fun c6_0 => ?_)
    · replace c6_0 : ¬ (v2 < 602) := jd_ge c6_0
      refine j_V.ret mi1_M mi1_21 rfl rfl ?_
      rw [show (m_copies_l2 ca 0 v2 cb) = _ from (rfl)]
      exact ⟨rfl, K⟩
    · replace c6_0 : v2 < 602 := jd_gen c6_0
      exact absurd c6_0 (lpN_z e)
  | succ f ih =>
    intro v2 cb lv h e L K
    refine j_V.ldL mi1_M mi1_2 rfl (i := 2) (kd := 0) (v := .int v2) (pc' := 3) rfl L rfl rfl rfl ?_
    refine j_V.one mi1_M mi1_3 (by decide) (pc' := 6) (st' := [.int 602, .int v2]) rfl ?_
    refine j_V.icmp mi1_M mi1_6 (t := 21) rfl (fun c6_0 => ?_) (fun c6_0 => ?_)
    · replace c6_0 : ¬ (v2 < 602) := jd_ge c6_0
      exact absurd (lpN_s e) c6_0
    · replace c6_0 : v2 < 602 := jd_gen c6_0
      refine j_V.ldL mi1_M mi1_9 rfl (i := 1) (kd := 2) (v := .ref 360) (pc' := 10) rfl L rfl rfl rfl ?_
      refine j_V.ldL mi1_M mi1_10 rfl (i := 2) (kd := 0) (v := .int v2) (pc' := 11) rfl L rfl rfl rfl ?_
      refine j_V.ldL mi1_M mi1_11 rfl (i := 0) (kd := 2) (v := .ref 363) (pc' := 12) rfl L rfl rfl rfl ?_
      refine j_V.ldL mi1_M mi1_12 rfl (i := 2) (kd := 0) (v := .int v2) (pc' := 13) rfl L rfl rfl rfl ?_
      refine j_V.iaA mi1_M mi1_13 K rfl ?_
      refine j_V.isA mi1_M mi1_14 (k' := [(360, .inr (.inl (0, (sA cb v2 (gA ca v2))))), (363, .inr (.inl (0, ca)))]) K rfl rfl (fun h K => ?_)
      obtain ⟨cb1, ecb1⟩ : ∃ z, z = (sA cb v2 (gA ca v2)) := ⟨_, rfl⟩
      rw [← ecb1] at K
      refine j_V.inL mi1_M mi1_15 (i := 2) (kl' := [(0, .ref 363), (1, .ref 360), (2, .int (v2 + 1))]) (pc' := 18) L rfl rfl rfl rfl (fun lv L => ?_)
      refine j_V.gto mi1_M mi1_18 (t := 2) rfl ?_
      subst ecb1
      rw [show (m_copies_l2 ca (f + 1) v2 cb) = _ from (rfl)]
      exact ih _ _ (lpN_n e) L K
set_option maxRecDepth 1000000 in
theorem mi1_ok {ca : List Int32} {cb : List Int32} {d : Nat} {h h0 : J_H} (K : KN h [(360, .inr (.inl (0, cb))), (363, .inr (.inl (0, ca)))] h0) : j_V jP d 201 0 (lv_args 0 [.ref 363, .ref 360]) [] h (fun rv h' => rv = none ∧ KN h' [(360, .inr (.inl (0, (m_copies ca cb)))), (363, .inr (.inl (0, ca)))] h0) := by
  show j_V jP d 201 0 [(0, .ref 363), (1, .ref 360)] [] h _
  obtain ⟨lv, elv, L⟩ : ∃ lv, lv = [(0, .ref 363), (1, .ref 360)] ∧ LK lv [(0, .ref 363), (1, .ref 360)] := ⟨_, rfl, LK.rf⟩
  rw [← elv]
  clear elv
  refine j_V.one mi1_M mi1_0 (by decide) (pc' := 1) (st' := [.int 0]) rfl ?_
  refine j_V.stL mi1_M mi1_1 rfl (i := 2) (kd := 0) (kl' := [(0, .ref 363), (1, .ref 360), (2, .int 0)]) (pc' := 2) rfl L rfl (by decide) rfl rfl rfl (fun lv L => ?_)
  rw [show (m_copies ca cb) = _ from (rfl)]
  exact mi1_ok_l2 _ _ _ rfl L K
set_option maxRecDepth 100000 in
theorem mi2_M : j_meth jP 201 = some (yX10_copies, cX10_copies, 3, none, 2, false, 10) := rfl
set_option maxRecDepth 100000 in
theorem mi2_0 : j_code jP 201 0 = some (.iconst 0) := rfl
set_option maxRecDepth 100000 in
theorem mi2_1 : j_code jP 201 1 = some (.istore_n 2) := rfl
set_option maxRecDepth 100000 in
theorem mi2_2 : j_code jP 201 2 = some (.iload_n 2) := rfl
set_option maxRecDepth 100000 in
theorem mi2_3 : j_code jP 201 3 = some (.sipush 602) := rfl
set_option maxRecDepth 100000 in
theorem mi2_6 : j_code jP 201 6 = some (.if_icmp .ge 15) := rfl
set_option maxRecDepth 100000 in
theorem mi2_9 : j_code jP 201 9 = some (.aload_n 1) := rfl
set_option maxRecDepth 100000 in
theorem mi2_10 : j_code jP 201 10 = some (.iload_n 2) := rfl
set_option maxRecDepth 100000 in
theorem mi2_11 : j_code jP 201 11 = some (.aload_n 0) := rfl
set_option maxRecDepth 100000 in
theorem mi2_12 : j_code jP 201 12 = some (.iload_n 2) := rfl
set_option maxRecDepth 100000 in
theorem mi2_13 : j_code jP 201 13 = some (.iaload) := rfl
set_option maxRecDepth 100000 in
theorem mi2_14 : j_code jP 201 14 = some (.iastore) := rfl
set_option maxRecDepth 100000 in
theorem mi2_15 : j_code jP 201 15 = some (.iinc 2 1) := rfl
set_option maxRecDepth 100000 in
theorem mi2_18 : j_code jP 201 18 = some (.goto (-16)) := rfl
set_option maxRecDepth 100000 in
theorem mi2_21 : j_code jP 201 21 = some (.return_) := rfl
set_option maxRecDepth 1000000 in
theorem mi2_ok_l2 {ca : List Int32} {d : Nat} {h0 : J_H} : ∀ (f : Nat) (v2 : Int32) (cb : List Int32) {lv : J_L} {h : J_H}, lpN 602 v2 = f → LK lv [(0, .ref 360), (1, .ref 362), (2, .int v2)] → KN h [(360, .inr (.inl (0, ca))), (362, .inr (.inl (0, cb)))] h0 → j_V jP d 201 2 lv [] h (fun rv h' => rv = none ∧ KN h' [(360, .inr (.inl (0, ca))), (362, .inr (.inl (0, (m_copies_l2 ca f v2 cb))))] h0) := by
  intro f
  induction f with
  | zero =>
    intro v2 cb lv h e L K
    refine j_V.ldL mi2_M mi2_2 rfl (i := 2) (kd := 0) (v := .int v2) (pc' := 3) rfl L rfl rfl rfl ?_
    refine j_V.one mi2_M mi2_3 (by decide) (pc' := 6) (st' := [.int 602, .int v2]) rfl ?_
    refine j_V.icmp mi2_M mi2_6 (t := 21) rfl (fun c6_0 => ?_) (fun c6_0 => ?_)
    · replace c6_0 : ¬ (v2 < 602) := jd_ge c6_0
      refine j_V.ret mi2_M mi2_21 rfl rfl ?_
      rw [show (m_copies_l2 ca 0 v2 cb) = _ from (rfl)]
      exact ⟨rfl, K⟩
    · replace c6_0 : v2 < 602 := jd_gen c6_0
      exact absurd c6_0 (lpN_z e)
  | succ f ih =>
    intro v2 cb lv h e L K
    refine j_V.ldL mi2_M mi2_2 rfl (i := 2) (kd := 0) (v := .int v2) (pc' := 3) rfl L rfl rfl rfl ?_
    refine j_V.one mi2_M mi2_3 (by decide) (pc' := 6) (st' := [.int 602, .int v2]) rfl ?_
    refine j_V.icmp mi2_M mi2_6 (t := 21) rfl (fun c6_0 => ?_) (fun c6_0 => ?_)
    · replace c6_0 : ¬ (v2 < 602) := jd_ge c6_0
      exact absurd (lpN_s e) c6_0
    · replace c6_0 : v2 < 602 := jd_gen c6_0
      refine j_V.ldL mi2_M mi2_9 rfl (i := 1) (kd := 2) (v := .ref 362) (pc' := 10) rfl L rfl rfl rfl ?_
      refine j_V.ldL mi2_M mi2_10 rfl (i := 2) (kd := 0) (v := .int v2) (pc' := 11) rfl L rfl rfl rfl ?_
      refine j_V.ldL mi2_M mi2_11 rfl (i := 0) (kd := 2) (v := .ref 360) (pc' := 12) rfl L rfl rfl rfl ?_
      refine j_V.ldL mi2_M mi2_12 rfl (i := 2) (kd := 0) (v := .int v2) (pc' := 13) rfl L rfl rfl rfl ?_
      refine j_V.iaA mi2_M mi2_13 K rfl ?_
      refine j_V.isA mi2_M mi2_14 (k' := [(360, .inr (.inl (0, ca))), (362, .inr (.inl (0, (sA cb v2 (gA ca v2)))))]) K rfl rfl (fun h K => ?_)
      obtain ⟨cb1, ecb1⟩ : ∃ z, z = (sA cb v2 (gA ca v2)) := ⟨_, rfl⟩
      rw [← ecb1] at K
      refine j_V.inL mi2_M mi2_15 (i := 2) (kl' := [(0, .ref 360), (1, .ref 362), (2, .int (v2 + 1))]) (pc' := 18) L rfl rfl rfl rfl (fun lv L => ?_)
      refine j_V.gto mi2_M mi2_18 (t := 2) rfl ?_
      subst ecb1
      rw [show (m_copies_l2 ca (f + 1) v2 cb) = _ from (rfl)]
      exact ih _ _ (lpN_n e) L K
set_option maxRecDepth 1000000 in
theorem mi2_ok {ca : List Int32} {cb : List Int32} {d : Nat} {h h0 : J_H} (K : KN h [(360, .inr (.inl (0, ca))), (362, .inr (.inl (0, cb)))] h0) : j_V jP d 201 0 (lv_args 0 [.ref 360, .ref 362]) [] h (fun rv h' => rv = none ∧ KN h' [(360, .inr (.inl (0, ca))), (362, .inr (.inl (0, (m_copies ca cb))))] h0) := by
  show j_V jP d 201 0 [(0, .ref 360), (1, .ref 362)] [] h _
  obtain ⟨lv, elv, L⟩ : ∃ lv, lv = [(0, .ref 360), (1, .ref 362)] ∧ LK lv [(0, .ref 360), (1, .ref 362)] := ⟨_, rfl, LK.rf⟩
  rw [← elv]
  clear elv
  refine j_V.one mi2_M mi2_0 (by decide) (pc' := 1) (st' := [.int 0]) rfl ?_
  refine j_V.stL mi2_M mi2_1 rfl (i := 2) (kd := 0) (kl' := [(0, .ref 360), (1, .ref 362), (2, .int 0)]) (pc' := 2) rfl L rfl (by decide) rfl rfl rfl (fun lv L => ?_)
  rw [show (m_copies ca cb) = _ from (rfl)]
  exact mi2_ok_l2 _ _ _ rfl L K
set_option maxRecDepth 100000 in
theorem mi3_M : j_meth jP 201 = some (yX10_copies, cX10_copies, 3, none, 2, false, 10) := rfl
set_option maxRecDepth 100000 in
theorem mi3_0 : j_code jP 201 0 = some (.iconst 0) := rfl
set_option maxRecDepth 100000 in
theorem mi3_1 : j_code jP 201 1 = some (.istore_n 2) := rfl
set_option maxRecDepth 100000 in
theorem mi3_2 : j_code jP 201 2 = some (.iload_n 2) := rfl
set_option maxRecDepth 100000 in
theorem mi3_3 : j_code jP 201 3 = some (.sipush 602) := rfl
set_option maxRecDepth 100000 in
theorem mi3_6 : j_code jP 201 6 = some (.if_icmp .ge 15) := rfl
set_option maxRecDepth 100000 in
theorem mi3_9 : j_code jP 201 9 = some (.aload_n 1) := rfl
set_option maxRecDepth 100000 in
theorem mi3_10 : j_code jP 201 10 = some (.iload_n 2) := rfl
set_option maxRecDepth 100000 in
theorem mi3_11 : j_code jP 201 11 = some (.aload_n 0) := rfl
set_option maxRecDepth 100000 in
theorem mi3_12 : j_code jP 201 12 = some (.iload_n 2) := rfl
set_option maxRecDepth 100000 in
theorem mi3_13 : j_code jP 201 13 = some (.iaload) := rfl
set_option maxRecDepth 100000 in
theorem mi3_14 : j_code jP 201 14 = some (.iastore) := rfl
set_option maxRecDepth 100000 in
theorem mi3_15 : j_code jP 201 15 = some (.iinc 2 1) := rfl
set_option maxRecDepth 100000 in
theorem mi3_18 : j_code jP 201 18 = some (.goto (-16)) := rfl
set_option maxRecDepth 100000 in
theorem mi3_21 : j_code jP 201 21 = some (.return_) := rfl
set_option maxRecDepth 1000000 in
theorem mi3_ok_l2 {ca : List Int32} {d : Nat} {h0 : J_H} : ∀ (f : Nat) (v2 : Int32) (cb : List Int32) {lv : J_L} {h : J_H}, lpN 602 v2 = f → LK lv [(0, .ref 362), (1, .ref 360), (2, .int v2)] → KN h [(360, .inr (.inl (0, cb))), (362, .inr (.inl (0, ca)))] h0 → j_V jP d 201 2 lv [] h (fun rv h' => rv = none ∧ KN h' [(360, .inr (.inl (0, (m_copies_l2 ca f v2 cb)))), (362, .inr (.inl (0, ca)))] h0) := by
  intro f
  induction f with
  | zero =>
    intro v2 cb lv h e L K
    refine j_V.ldL mi3_M mi3_2 rfl (i := 2) (kd := 0) (v := .int v2) (pc' := 3) rfl L rfl rfl rfl ?_
    refine j_V.one mi3_M mi3_3 (by decide) (pc' := 6) (st' := [.int 602, .int v2]) rfl ?_
    refine j_V.icmp mi3_M mi3_6 (t := 21) rfl (fun c6_0 => ?_) (fun c6_0 => ?_)
    · replace c6_0 : ¬ (v2 < 602) := jd_ge c6_0
      refine j_V.ret mi3_M mi3_21 rfl rfl ?_
      rw [show (m_copies_l2 ca 0 v2 cb) = _ from (rfl)]
      exact ⟨rfl, K⟩
    · replace c6_0 : v2 < 602 := jd_gen c6_0
      exact absurd c6_0 (lpN_z e)
  | succ f ih =>
    intro v2 cb lv h e L K
    refine j_V.ldL mi3_M mi3_2 rfl (i := 2) (kd := 0) (v := .int v2) (pc' := 3) rfl L rfl rfl rfl ?_
    refine j_V.one mi3_M mi3_3 (by decide) (pc' := 6) (st' := [.int 602, .int v2]) rfl ?_
    refine j_V.icmp mi3_M mi3_6 (t := 21) rfl (fun c6_0 => ?_) (fun c6_0 => ?_)
    · replace c6_0 : ¬ (v2 < 602) := jd_ge c6_0
      exact absurd (lpN_s e) c6_0
    · replace c6_0 : v2 < 602 := jd_gen c6_0
      refine j_V.ldL mi3_M mi3_9 rfl (i := 1) (kd := 2) (v := .ref 360) (pc' := 10) rfl L rfl rfl rfl ?_
      refine j_V.ldL mi3_M mi3_10 rfl (i := 2) (kd := 0) (v := .int v2) (pc' := 11) rfl L rfl rfl rfl ?_
      refine j_V.ldL mi3_M mi3_11 rfl (i := 0) (kd := 2) (v := .ref 362) (pc' := 12) rfl L rfl rfl rfl ?_
      refine j_V.ldL mi3_M mi3_12 rfl (i := 2) (kd := 0) (v := .int v2) (pc' := 13) rfl L rfl rfl rfl ?_
      refine j_V.iaA mi3_M mi3_13 K rfl ?_
      refine j_V.isA mi3_M mi3_14 (k' := [(360, .inr (.inl (0, (sA cb v2 (gA ca v2))))), (362, .inr (.inl (0, ca)))]) K rfl rfl (fun h K => ?_)
      obtain ⟨cb1, ecb1⟩ : ∃ z, z = (sA cb v2 (gA ca v2)) := ⟨_, rfl⟩
      rw [← ecb1] at K
      refine j_V.inL mi3_M mi3_15 (i := 2) (kl' := [(0, .ref 362), (1, .ref 360), (2, .int (v2 + 1))]) (pc' := 18) L rfl rfl rfl rfl (fun lv L => ?_)
      refine j_V.gto mi3_M mi3_18 (t := 2) rfl ?_
      subst ecb1
      rw [show (m_copies_l2 ca (f + 1) v2 cb) = _ from (rfl)]
      exact ih _ _ (lpN_n e) L K
set_option maxRecDepth 1000000 in
theorem mi3_ok {ca : List Int32} {cb : List Int32} {d : Nat} {h h0 : J_H} (K : KN h [(360, .inr (.inl (0, cb))), (362, .inr (.inl (0, ca)))] h0) : j_V jP d 201 0 (lv_args 0 [.ref 362, .ref 360]) [] h (fun rv h' => rv = none ∧ KN h' [(360, .inr (.inl (0, (m_copies ca cb)))), (362, .inr (.inl (0, ca)))] h0) := by
  show j_V jP d 201 0 [(0, .ref 362), (1, .ref 360)] [] h _
  obtain ⟨lv, elv, L⟩ : ∃ lv, lv = [(0, .ref 362), (1, .ref 360)] ∧ LK lv [(0, .ref 362), (1, .ref 360)] := ⟨_, rfl, LK.rf⟩
  rw [← elv]
  clear elv
  refine j_V.one mi3_M mi3_0 (by decide) (pc' := 1) (st' := [.int 0]) rfl ?_
  refine j_V.stL mi3_M mi3_1 rfl (i := 2) (kd := 0) (kl' := [(0, .ref 362), (1, .ref 360), (2, .int 0)]) (pc' := 2) rfl L rfl (by decide) rfl rfl rfl (fun lv L => ?_)
  rw [show (m_copies ca cb) = _ from (rfl)]
  exact mi3_ok_l2 _ _ _ rfl L K
theorem m_cp_l {a : List Int32} (ha : a.length = 602) : ∀ (f k : Nat) (b : List Int32), k + f = 602 → b.length = 602 → (∀ i, i < k → b.getD i 0 = a.getD i 0) → m_copies_l2 a f (nI k) b = a
  | 0, k, b, e, hb, h => by
    refine List.ext_getElem? fun i => ?_
    by_cases hi : i < 602
    · have := h i (by omega)
      rw [List.getD_eq_getElem?_getD, List.getD_eq_getElem?_getD, List.getElem?_eq_getElem (by omega), List.getElem?_eq_getElem (by omega)] at this
      show b[i]? = a[i]?
      rw [List.getElem?_eq_getElem (by omega), List.getElem?_eq_getElem (by omega)]
      exact congrArg some this
    · show b[i]? = a[i]?
      rw [List.getElem?_eq_none (by omega), List.getElem?_eq_none (by omega)]
  | f + 1, k, b, e, hb, h => by
    show m_copies_l2 a f (nI k + 1) (sA b (nI k) (gA a (nI k))) = a
    rw [nI_one]
    have hc : (nI k).toNatClampNeg = k := nI_clamp (by omega)
    refine m_cp_l ha f (k + 1) _ (by omega) (by unfold sA; rw [List.length_set]; exact hb) fun i hi => ?_
    unfold sA gA
    rw [hc]
    by_cases e2 : k = i
    · subst e2
      rw [List.getD_eq_getElem?_getD, List.getElem?_set_self (by omega)]
      rfl
    · rw [List.getD_eq_getElem?_getD, List.getElem?_set_ne e2, ← List.getD_eq_getElem?_getD]
      exact h i (by omega)
theorem m_cp {a b : List Int32} (ha : a.length = 602) (hb : b.length = 602) : m_copies a b = a := m_cp_l ha 602 0 b (by decide) hb (fun i hi => absurd hi (by omega))
