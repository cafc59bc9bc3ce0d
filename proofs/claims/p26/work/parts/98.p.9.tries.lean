/-! the reference's copies, tries, by wip/px/gen_m5.py -/
set_option maxRecDepth 100000 in
theorem mi0_M : j_meth jP 201 = some (yX10_copies, cX10_copies, 3, none, 2, false, 10) := rfl
set_option maxRecDepth 100000 in
theorem mi0_0 : j_code jP 201 0 = some (.iconst 0) := rfl
set_option maxRecDepth 100000 in
theorem mi0_1 : j_code jP 201 1 = some (.istore_n 2) := rfl
set_option maxRecDepth 100000 in
theorem mi0_2 : j_code jP 201 2 = some (.iload_n 2) := rfl
set_option maxRecDepth 100000 in
theorem mi0_3 : j_code jP 201 3 = some (.sipush 602) := rfl
set_option maxRecDepth 100000 in
theorem mi0_6 : j_code jP 201 6 = some (.if_icmp .ge 15) := rfl
set_option maxRecDepth 100000 in
theorem mi0_9 : j_code jP 201 9 = some (.aload_n 1) := rfl
set_option maxRecDepth 100000 in
theorem mi0_10 : j_code jP 201 10 = some (.iload_n 2) := rfl
set_option maxRecDepth 100000 in
theorem mi0_11 : j_code jP 201 11 = some (.aload_n 0) := rfl
set_option maxRecDepth 100000 in
theorem mi0_12 : j_code jP 201 12 = some (.iload_n 2) := rfl
set_option maxRecDepth 100000 in
theorem mi0_13 : j_code jP 201 13 = some (.iaload) := rfl
set_option maxRecDepth 100000 in
theorem mi0_14 : j_code jP 201 14 = some (.iastore) := rfl
set_option maxRecDepth 100000 in
theorem mi0_15 : j_code jP 201 15 = some (.iinc 2 1) := rfl
set_option maxRecDepth 100000 in
theorem mi0_18 : j_code jP 201 18 = some (.goto (-16)) := rfl
set_option maxRecDepth 100000 in
theorem mi0_21 : j_code jP 201 21 = some (.return_) := rfl
def m_copies_l2 (ca : List Int32) : Nat → Int32 → List Int32 → List Int32
  | 0, v2, cb => cb
  | f + 1, v2, cb => let cb1 := (sA cb v2 (gA ca v2)); (m_copies_l2 ca f (v2 + 1) cb1)
set_option maxRecDepth 1000000 in
theorem mi0_ok_l2 {ca : List Int32} {d : Nat} {h0 : J_H} : ∀ (f : Nat) (v2 : Int32) (cb : List Int32) {lv : J_L} {h : J_H}, lpN 602 v2 = f → LK lv [(0, .ref 360), (1, .ref 363), (2, .int v2)] → KN h [(360, .inr (.inl (0, ca))), (363, .inr (.inl (0, cb)))] h0 → j_V jP d 201 2 lv [] h (fun rv h' => rv = none ∧ KN h' [(360, .inr (.inl (0, ca))), (363, .inr (.inl (0, (m_copies_l2 ca f v2 cb))))] h0) := by
  intro f
  induction f with
  | zero =>
    intro v2 cb lv h e L K
    refine j_V.ldL mi0_M mi0_2 rfl (i := 2) (kd := 0) (v := .int v2) (pcJ := 3) rfl L rfl rfl rfl ?_
    refine j_V.one mi0_M mi0_3 (by decide) (pcJ := 6) (stJ := [.int 602, .int v2]) rfl ?_
    refine j_V.icmp mi0_M mi0_6 (t := 21) rfl (fun c6_0 => ?_) (fun c6_0 => ?_)
    · replace c6_0 : ¬ (v2 < 602) := jd_ge c6_0
      refine j_V.ret mi0_M mi0_21 rfl rfl ?_
      rw [show (m_copies_l2 ca 0 v2 cb) = _ from (rfl)]
      exact ⟨rfl, K⟩
    · replace c6_0 : v2 < 602 := jd_gen c6_0
      exact absurd c6_0 (lpN_z e)
  | succ f ih =>
    intro v2 cb lv h e L K
    refine j_V.ldL mi0_M mi0_2 rfl (i := 2) (kd := 0) (v := .int v2) (pcJ := 3) rfl L rfl rfl rfl ?_
    refine j_V.one mi0_M mi0_3 (by decide) (pcJ := 6) (stJ := [.int 602, .int v2]) rfl ?_
    refine j_V.icmp mi0_M mi0_6 (t := 21) rfl (fun c6_0 => ?_) (fun c6_0 => ?_)
    · replace c6_0 : ¬ (v2 < 602) := jd_ge c6_0
      exact absurd (lpN_s e) c6_0
    · replace c6_0 : v2 < 602 := jd_gen c6_0
      refine j_V.ldL mi0_M mi0_9 rfl (i := 1) (kd := 2) (v := .ref 363) (pcJ := 10) rfl L rfl rfl rfl ?_
      refine j_V.ldL mi0_M mi0_10 rfl (i := 2) (kd := 0) (v := .int v2) (pcJ := 11) rfl L rfl rfl rfl ?_
      refine j_V.ldL mi0_M mi0_11 rfl (i := 0) (kd := 2) (v := .ref 360) (pcJ := 12) rfl L rfl rfl rfl ?_
      refine j_V.ldL mi0_M mi0_12 rfl (i := 2) (kd := 0) (v := .int v2) (pcJ := 13) rfl L rfl rfl rfl ?_
      refine j_V.iaA mi0_M mi0_13 K rfl ?_
      refine j_V.isA mi0_M mi0_14 (k' := [(360, .inr (.inl (0, ca))), (363, .inr (.inl (0, (sA cb v2 (gA ca v2)))))]) K rfl rfl (fun h K => ?_)
      obtain ⟨cb1, ecb1⟩ : ∃ z, z = (sA cb v2 (gA ca v2)) := ⟨_, rfl⟩
      rw [← ecb1] at K
      refine j_V.inL mi0_M mi0_15 (i := 2) (kl' := [(0, .ref 360), (1, .ref 363), (2, .int (v2 + 1))]) (pcJ := 18) L rfl rfl rfl rfl (fun lv L => ?_)
      refine j_V.gto mi0_M mi0_18 (t := 2) rfl ?_
      subst ecb1
      rw [show (m_copies_l2 ca (f + 1) v2 cb) = _ from (rfl)]
      exact ih _ _ (lpN_n e) L K
def m_copies (ca : List Int32) (cb : List Int32) : List Int32 := (m_copies_l2 ca (lpN 602 0) 0 cb)
set_option maxRecDepth 1000000 in
theorem mi0_ok {ca : List Int32} {cb : List Int32} {d : Nat} {h h0 : J_H} (K : KN h [(360, .inr (.inl (0, ca))), (363, .inr (.inl (0, cb)))] h0) : j_V jP d 201 0 (lv_args 0 [.ref 360, .ref 363]) [] h (fun rv h' => rv = none ∧ KN h' [(360, .inr (.inl (0, ca))), (363, .inr (.inl (0, (m_copies ca cb))))] h0) := by
  show j_V jP d 201 0 [(0, .ref 360), (1, .ref 363)] [] h _
  obtain ⟨lv, elv, L⟩ : ∃ lv, lv = [(0, .ref 360), (1, .ref 363)] ∧ LK lv [(0, .ref 360), (1, .ref 363)] := ⟨_, rfl, LK.rf⟩
  rw [← elv]
  clear elv
  refine j_V.one mi0_M mi0_0 (by decide) (pcJ := 1) (stJ := [.int 0]) rfl ?_
  refine j_V.stL mi0_M mi0_1 rfl (i := 2) (kd := 0) (kl' := [(0, .ref 360), (1, .ref 363), (2, .int 0)]) (pcJ := 2) rfl L rfl (by decide) rfl rfl rfl (fun lv L => ?_)
  rw [show (m_copies ca cb) = _ from (rfl)]
  exact mi0_ok_l2 _ _ _ rfl L K
set_option maxRecDepth 100000 in
theorem mi1_M : j_meth jP 201 = some (yX10_copies, cX10_copies, 3, none, 2, false, 10) := rfl
set_option maxRecDepth 100000 in
theorem mi1_0 : j_code jP 201 0 = some (.iconst 0) := rfl
set_option maxRecDepth 100000 in
theorem mi1_1 : j_code jP 201 1 = some (.istore_n 2) := rfl
set_option maxRecDepth 100000 in
theorem mi1_2 : j_code jP 201 2 = some (.iload_n 2) := rfl
set_option maxRecDepth 100000 in
theorem mi1_3 : j_code jP 201 3 = some (.sipush 602) := rfl
set_option maxRecDepth 100000 in
theorem mi1_6 : j_code jP 201 6 = some (.if_icmp .ge 15) := rfl
set_option maxRecDepth 100000 in
theorem mi1_9 : j_code jP 201 9 = some (.aload_n 1) := rfl
set_option maxRecDepth 100000 in
theorem mi1_10 : j_code jP 201 10 = some (.iload_n 2) := rfl
set_option maxRecDepth 100000 in
theorem mi1_11 : j_code jP 201 11 = some (.aload_n 0) := rfl
set_option maxRecDepth 100000 in
theorem mi1_12 : j_code jP 201 12 = some (.iload_n 2) := rfl
set_option maxRecDepth 100000 in
theorem mi1_13 : j_code jP 201 13 = some (.iaload) := rfl
set_option maxRecDepth 100000 in
theorem mi1_14 : j_code jP 201 14 = some (.iastore) := rfl
set_option maxRecDepth 100000 in
theorem mi1_15 : j_code jP 201 15 = some (.iinc 2 1) := rfl
set_option maxRecDepth 100000 in
theorem mi1_18 : j_code jP 201 18 = some (.goto (-16)) := rfl
set_option maxRecDepth 100000 in
theorem mi1_21 : j_code jP 201 21 = some (.return_) := rfl
set_option maxRecDepth 1000000 in
theorem mi1_ok_l2 {ca : List Int32} {d : Nat} {h0 : J_H} : ∀ (f : Nat) (v2 : Int32) (cb : List Int32) {lv : J_L} {h : J_H}, lpN 602 v2 = f → LK lv [(0, .ref 363), (1, .ref 360), (2, .int v2)] → KN h [(360, .inr (.inl (0, cb))), (363, .inr (.inl (0, ca)))] h0 → j_V jP d 201 2 lv [] h (fun rv h' => rv = none ∧ KN h' [(360, .inr (.inl (0, (m_copies_l2 ca f v2 cb)))), (363, .inr (.inl (0, ca)))] h0) := by
  intro f
  induction f with
  | zero =>
    intro v2 cb lv h e L K
    refine j_V.ldL mi1_M mi1_2 rfl (i := 2) (kd := 0) (v := .int v2) (pcJ := 3) rfl L rfl rfl rfl ?_
    refine j_V.one mi1_M mi1_3 (by decide) (pcJ := 6) (stJ := [.int 602, .int v2]) rfl ?_
    refine j_V.icmp mi1_M mi1_6 (t := 21) rfl (fun c6_0 => ?_) (fun c6_0 => ?_)
    · replace c6_0 : ¬ (v2 < 602) := jd_ge c6_0
      refine j_V.ret mi1_M mi1_21 rfl rfl ?_
      rw [show (m_copies_l2 ca 0 v2 cb) = _ from (rfl)]
      exact ⟨rfl, K⟩
    · replace c6_0 : v2 < 602 := jd_gen c6_0
      exact absurd c6_0 (lpN_z e)
  | succ f ih =>
    intro v2 cb lv h e L K
    refine j_V.ldL mi1_M mi1_2 rfl (i := 2) (kd := 0) (v := .int v2) (pcJ := 3) rfl L rfl rfl rfl ?_
    refine j_V.one mi1_M mi1_3 (by decide) (pcJ := 6) (stJ := [.int 602, .int v2]) rfl ?_
    refine j_V.icmp mi1_M mi1_6 (t := 21) rfl (fun c6_0 => ?_) (fun c6_0 => ?_)
    · replace c6_0 : ¬ (v2 < 602) := jd_ge c6_0
      exact absurd (lpN_s e) c6_0
    · replace c6_0 : v2 < 602 := jd_gen c6_0
      refine j_V.ldL mi1_M mi1_9 rfl (i := 1) (kd := 2) (v := .ref 360) (pcJ := 10) rfl L rfl rfl rfl ?_
      refine j_V.ldL mi1_M mi1_10 rfl (i := 2) (kd := 0) (v := .int v2) (pcJ := 11) rfl L rfl rfl rfl ?_
      refine j_V.ldL mi1_M mi1_11 rfl (i := 0) (kd := 2) (v := .ref 363) (pcJ := 12) rfl L rfl rfl rfl ?_
      refine j_V.ldL mi1_M mi1_12 rfl (i := 2) (kd := 0) (v := .int v2) (pcJ := 13) rfl L rfl rfl rfl ?_
      refine j_V.iaA mi1_M mi1_13 K rfl ?_
      refine j_V.isA mi1_M mi1_14 (k' := [(360, .inr (.inl (0, (sA cb v2 (gA ca v2))))), (363, .inr (.inl (0, ca)))]) K rfl rfl (fun h K => ?_)
      obtain ⟨cb1, ecb1⟩ : ∃ z, z = (sA cb v2 (gA ca v2)) := ⟨_, rfl⟩
      rw [← ecb1] at K
      refine j_V.inL mi1_M mi1_15 (i := 2) (kl' := [(0, .ref 363), (1, .ref 360), (2, .int (v2 + 1))]) (pcJ := 18) L rfl rfl rfl rfl (fun lv L => ?_)
      refine j_V.gto mi1_M mi1_18 (t := 2) rfl ?_
      subst ecb1
      rw [show (m_copies_l2 ca (f + 1) v2 cb) = _ from (rfl)]
      exact ih _ _ (lpN_n e) L K
set_option maxRecDepth 1000000 in
theorem mi1_ok {ca : List Int32} {cb : List Int32} {d : Nat} {h h0 : J_H} (K : KN h [(360, .inr (.inl (0, cb))), (363, .inr (.inl (0, ca)))] h0) : j_V jP d 201 0 (lv_args 0 [.ref 363, .ref 360]) [] h (fun rv h' => rv = none ∧ KN h' [(360, .inr (.inl (0, (m_copies ca cb)))), (363, .inr (.inl (0, ca)))] h0) := by
  show j_V jP d 201 0 [(0, .ref 363), (1, .ref 360)] [] h _
  obtain ⟨lv, elv, L⟩ : ∃ lv, lv = [(0, .ref 363), (1, .ref 360)] ∧ LK lv [(0, .ref 363), (1, .ref 360)] := ⟨_, rfl, LK.rf⟩
  rw [← elv]
  clear elv
  refine j_V.one mi1_M mi1_0 (by decide) (pcJ := 1) (stJ := [.int 0]) rfl ?_
  refine j_V.stL mi1_M mi1_1 rfl (i := 2) (kd := 0) (kl' := [(0, .ref 363), (1, .ref 360), (2, .int 0)]) (pcJ := 2) rfl L rfl (by decide) rfl rfl rfl (fun lv L => ?_)
  rw [show (m_copies ca cb) = _ from (rfl)]
  exact mi1_ok_l2 _ _ _ rfl L K
set_option maxRecDepth 100000 in
theorem mi2_M : j_meth jP 201 = some (yX10_copies, cX10_copies, 3, none, 2, false, 10) := rfl
set_option maxRecDepth 100000 in
theorem mi2_0 : j_code jP 201 0 = some (.iconst 0) := rfl
set_option maxRecDepth 100000 in
theorem mi2_1 : j_code jP 201 1 = some (.istore_n 2) := rfl
set_option maxRecDepth 100000 in
theorem mi2_2 : j_code jP 201 2 = some (.iload_n 2) := rfl
set_option maxRecDepth 100000 in
theorem mi2_3 : j_code jP 201 3 = some (.sipush 602) := rfl
set_option maxRecDepth 100000 in
theorem mi2_6 : j_code jP 201 6 = some (.if_icmp .ge 15) := rfl
set_option maxRecDepth 100000 in
theorem mi2_9 : j_code jP 201 9 = some (.aload_n 1) := rfl
set_option maxRecDepth 100000 in
theorem mi2_10 : j_code jP 201 10 = some (.iload_n 2) := rfl
set_option maxRecDepth 100000 in
theorem mi2_11 : j_code jP 201 11 = some (.aload_n 0) := rfl
set_option maxRecDepth 100000 in
theorem mi2_12 : j_code jP 201 12 = some (.iload_n 2) := rfl
set_option maxRecDepth 100000 in
theorem mi2_13 : j_code jP 201 13 = some (.iaload) := rfl
set_option maxRecDepth 100000 in
theorem mi2_14 : j_code jP 201 14 = some (.iastore) := rfl
set_option maxRecDepth 100000 in
theorem mi2_15 : j_code jP 201 15 = some (.iinc 2 1) := rfl
set_option maxRecDepth 100000 in
theorem mi2_18 : j_code jP 201 18 = some (.goto (-16)) := rfl
set_option maxRecDepth 100000 in
theorem mi2_21 : j_code jP 201 21 = some (.return_) := rfl
set_option maxRecDepth 1000000 in
theorem mi2_ok_l2 {ca : List Int32} {d : Nat} {h0 : J_H} : ∀ (f : Nat) (v2 : Int32) (cb : List Int32) {lv : J_L} {h : J_H}, lpN 602 v2 = f → LK lv [(0, .ref 360), (1, .ref 362), (2, .int v2)] → KN h [(360, .inr (.inl (0, ca))), (362, .inr (.inl (0, cb)))] h0 → j_V jP d 201 2 lv [] h (fun rv h' => rv = none ∧ KN h' [(360, .inr (.inl (0, ca))), (362, .inr (.inl (0, (m_copies_l2 ca f v2 cb))))] h0) := by
  intro f
  induction f with
  | zero =>
    intro v2 cb lv h e L K
    refine j_V.ldL mi2_M mi2_2 rfl (i := 2) (kd := 0) (v := .int v2) (pcJ := 3) rfl L rfl rfl rfl ?_
    refine j_V.one mi2_M mi2_3 (by decide) (pcJ := 6) (stJ := [.int 602, .int v2]) rfl ?_
    refine j_V.icmp mi2_M mi2_6 (t := 21) rfl (fun c6_0 => ?_) (fun c6_0 => ?_)
    · replace c6_0 : ¬ (v2 < 602) := jd_ge c6_0
      refine j_V.ret mi2_M mi2_21 rfl rfl ?_
      rw [show (m_copies_l2 ca 0 v2 cb) = _ from (rfl)]
      exact ⟨rfl, K⟩
    · replace c6_0 : v2 < 602 := jd_gen c6_0
      exact absurd c6_0 (lpN_z e)
  | succ f ih =>
    intro v2 cb lv h e L K
    refine j_V.ldL mi2_M mi2_2 rfl (i := 2) (kd := 0) (v := .int v2) (pcJ := 3) rfl L rfl rfl rfl ?_
    refine j_V.one mi2_M mi2_3 (by decide) (pcJ := 6) (stJ := [.int 602, .int v2]) rfl ?_
    refine j_V.icmp mi2_M mi2_6 (t := 21) rfl (fun c6_0 => ?_) (fun c6_0 => ?_)
    · replace c6_0 : ¬ (v2 < 602) := jd_ge c6_0
      exact absurd (lpN_s e) c6_0
    · replace c6_0 : v2 < 602 := jd_gen c6_0
      refine j_V.ldL mi2_M mi2_9 rfl (i := 1) (kd := 2) (v := .ref 362) (pcJ := 10) rfl L rfl rfl rfl ?_
      refine j_V.ldL mi2_M mi2_10 rfl (i := 2) (kd := 0) (v := .int v2) (pcJ := 11) rfl L rfl rfl rfl ?_
      refine j_V.ldL mi2_M mi2_11 rfl (i := 0) (kd := 2) (v := .ref 360) (pcJ := 12) rfl L rfl rfl rfl ?_
      refine j_V.ldL mi2_M mi2_12 rfl (i := 2) (kd := 0) (v := .int v2) (pcJ := 13) rfl L rfl rfl rfl ?_
      refine j_V.iaA mi2_M mi2_13 K rfl ?_
      refine j_V.isA mi2_M mi2_14 (k' := [(360, .inr (.inl (0, ca))), (362, .inr (.inl (0, (sA cb v2 (gA ca v2)))))]) K rfl rfl (fun h K => ?_)
      obtain ⟨cb1, ecb1⟩ : ∃ z, z = (sA cb v2 (gA ca v2)) := ⟨_, rfl⟩
      rw [← ecb1] at K
      refine j_V.inL mi2_M mi2_15 (i := 2) (kl' := [(0, .ref 360), (1, .ref 362), (2, .int (v2 + 1))]) (pcJ := 18) L rfl rfl rfl rfl (fun lv L => ?_)
      refine j_V.gto mi2_M mi2_18 (t := 2) rfl ?_
      subst ecb1
      rw [show (m_copies_l2 ca (f + 1) v2 cb) = _ from (rfl)]
      exact ih _ _ (lpN_n e) L K
set_option maxRecDepth 1000000 in
theorem mi2_ok {ca : List Int32} {cb : List Int32} {d : Nat} {h h0 : J_H} (K : KN h [(360, .inr (.inl (0, ca))), (362, .inr (.inl (0, cb)))] h0) : j_V jP d 201 0 (lv_args 0 [.ref 360, .ref 362]) [] h (fun rv h' => rv = none ∧ KN h' [(360, .inr (.inl (0, ca))), (362, .inr (.inl (0, (m_copies ca cb))))] h0) := by
  show j_V jP d 201 0 [(0, .ref 360), (1, .ref 362)] [] h _
  obtain ⟨lv, elv, L⟩ : ∃ lv, lv = [(0, .ref 360), (1, .ref 362)] ∧ LK lv [(0, .ref 360), (1, .ref 362)] := ⟨_, rfl, LK.rf⟩
  rw [← elv]
  clear elv
  refine j_V.one mi2_M mi2_0 (by decide) (pcJ := 1) (stJ := [.int 0]) rfl ?_
  refine j_V.stL mi2_M mi2_1 rfl (i := 2) (kd := 0) (kl' := [(0, .ref 360), (1, .ref 362), (2, .int 0)]) (pcJ := 2) rfl L rfl (by decide) rfl rfl rfl (fun lv L => ?_)
  rw [show (m_copies ca cb) = _ from (rfl)]
  exact mi2_ok_l2 _ _ _ rfl L K
set_option maxRecDepth 100000 in
theorem mi3_M : j_meth jP 201 = some (yX10_copies, cX10_copies, 3, none, 2, false, 10) := rfl
set_option maxRecDepth 100000 in
theorem mi3_0 : j_code jP 201 0 = some (.iconst 0) := rfl
set_option maxRecDepth 100000 in
theorem mi3_1 : j_code jP 201 1 = some (.istore_n 2) := rfl
set_option maxRecDepth 100000 in
theorem mi3_2 : j_code jP 201 2 = some (.iload_n 2) := rfl
set_option maxRecDepth 100000 in
theorem mi3_3 : j_code jP 201 3 = some (.sipush 602) := rfl
set_option maxRecDepth 100000 in
theorem mi3_6 : j_code jP 201 6 = some (.if_icmp .ge 15) := rfl
set_option maxRecDepth 100000 in
theorem mi3_9 : j_code jP 201 9 = some (.aload_n 1) := rfl
set_option maxRecDepth 100000 in
theorem mi3_10 : j_code jP 201 10 = some (.iload_n 2) := rfl
set_option maxRecDepth 100000 in
theorem mi3_11 : j_code jP 201 11 = some (.aload_n 0) := rfl
set_option maxRecDepth 100000 in
theorem mi3_12 : j_code jP 201 12 = some (.iload_n 2) := rfl
set_option maxRecDepth 100000 in
theorem mi3_13 : j_code jP 201 13 = some (.iaload) := rfl
set_option maxRecDepth 100000 in
theorem mi3_14 : j_code jP 201 14 = some (.iastore) := rfl
set_option maxRecDepth 100000 in
theorem mi3_15 : j_code jP 201 15 = some (.iinc 2 1) := rfl
set_option maxRecDepth 100000 in
theorem mi3_18 : j_code jP 201 18 = some (.goto (-16)) := rfl
set_option maxRecDepth 100000 in
theorem mi3_21 : j_code jP 201 21 = some (.return_) := rfl
set_option maxRecDepth 1000000 in
theorem mi3_ok_l2 {ca : List Int32} {d : Nat} {h0 : J_H} : ∀ (f : Nat) (v2 : Int32) (cb : List Int32) {lv : J_L} {h : J_H}, lpN 602 v2 = f → LK lv [(0, .ref 362), (1, .ref 360), (2, .int v2)] → KN h [(360, .inr (.inl (0, cb))), (362, .inr (.inl (0, ca)))] h0 → j_V jP d 201 2 lv [] h (fun rv h' => rv = none ∧ KN h' [(360, .inr (.inl (0, (m_copies_l2 ca f v2 cb)))), (362, .inr (.inl (0, ca)))] h0) := by
  intro f
  induction f with
  | zero =>
    intro v2 cb lv h e L K
    refine j_V.ldL mi3_M mi3_2 rfl (i := 2) (kd := 0) (v := .int v2) (pcJ := 3) rfl L rfl rfl rfl ?_
    refine j_V.one mi3_M mi3_3 (by decide) (pcJ := 6) (stJ := [.int 602, .int v2]) rfl ?_
    refine j_V.icmp mi3_M mi3_6 (t := 21) rfl (fun c6_0 => ?_) (fun c6_0 => ?_)
    · replace c6_0 : ¬ (v2 < 602) := jd_ge c6_0
      refine j_V.ret mi3_M mi3_21 rfl rfl ?_
      rw [show (m_copies_l2 ca 0 v2 cb) = _ from (rfl)]
      exact ⟨rfl, K⟩
    · replace c6_0 : v2 < 602 := jd_gen c6_0
      exact absurd c6_0 (lpN_z e)
  | succ f ih =>
    intro v2 cb lv h e L K
    refine j_V.ldL mi3_M mi3_2 rfl (i := 2) (kd := 0) (v := .int v2) (pcJ := 3) rfl L rfl rfl rfl ?_
    refine j_V.one mi3_M mi3_3 (by decide) (pcJ := 6) (stJ := [.int 602, .int v2]) rfl ?_
    refine j_V.icmp mi3_M mi3_6 (t := 21) rfl (fun c6_0 => ?_) (fun c6_0 => ?_)
    · replace c6_0 : ¬ (v2 < 602) := jd_ge c6_0
      exact absurd (lpN_s e) c6_0
    · replace c6_0 : v2 < 602 := jd_gen c6_0
      refine j_V.ldL mi3_M mi3_9 rfl (i := 1) (kd := 2) (v := .ref 360) (pcJ := 10) rfl L rfl rfl rfl ?_
      refine j_V.ldL mi3_M mi3_10 rfl (i := 2) (kd := 0) (v := .int v2) (pcJ := 11) rfl L rfl rfl rfl ?_
      refine j_V.ldL mi3_M mi3_11 rfl (i := 0) (kd := 2) (v := .ref 362) (pcJ := 12) rfl L rfl rfl rfl ?_
      refine j_V.ldL mi3_M mi3_12 rfl (i := 2) (kd := 0) (v := .int v2) (pcJ := 13) rfl L rfl rfl rfl ?_
      refine j_V.iaA mi3_M mi3_13 K rfl ?_
      refine j_V.isA mi3_M mi3_14 (k' := [(360, .inr (.inl (0, (sA cb v2 (gA ca v2))))), (362, .inr (.inl (0, ca)))]) K rfl rfl (fun h K => ?_)
      obtain ⟨cb1, ecb1⟩ : ∃ z, z = (sA cb v2 (gA ca v2)) := ⟨_, rfl⟩
      rw [← ecb1] at K
      refine j_V.inL mi3_M mi3_15 (i := 2) (kl' := [(0, .ref 362), (1, .ref 360), (2, .int (v2 + 1))]) (pcJ := 18) L rfl rfl rfl rfl (fun lv L => ?_)
      refine j_V.gto mi3_M mi3_18 (t := 2) rfl ?_
      subst ecb1
      rw [show (m_copies_l2 ca (f + 1) v2 cb) = _ from (rfl)]
      exact ih _ _ (lpN_n e) L K
set_option maxRecDepth 1000000 in
theorem mi3_ok {ca : List Int32} {cb : List Int32} {d : Nat} {h h0 : J_H} (K : KN h [(360, .inr (.inl (0, cb))), (362, .inr (.inl (0, ca)))] h0) : j_V jP d 201 0 (lv_args 0 [.ref 362, .ref 360]) [] h (fun rv h' => rv = none ∧ KN h' [(360, .inr (.inl (0, (m_copies ca cb)))), (362, .inr (.inl (0, ca)))] h0) := by
  show j_V jP d 201 0 [(0, .ref 362), (1, .ref 360)] [] h _
  obtain ⟨lv, elv, L⟩ : ∃ lv, lv = [(0, .ref 362), (1, .ref 360)] ∧ LK lv [(0, .ref 362), (1, .ref 360)] := ⟨_, rfl, LK.rf⟩
  rw [← elv]
  clear elv
  refine j_V.one mi3_M mi3_0 (by decide) (pcJ := 1) (stJ := [.int 0]) rfl ?_
  refine j_V.stL mi3_M mi3_1 rfl (i := 2) (kd := 0) (kl' := [(0, .ref 362), (1, .ref 360), (2, .int 0)]) (pcJ := 2) rfl L rfl (by decide) rfl rfl rfl (fun lv L => ?_)
  rw [show (m_copies ca cb) = _ from (rfl)]
  exact mi3_ok_l2 _ _ _ rfl L K
theorem m_cp_l {a : List Int32} (ha : a.length = 602) : ∀ (f k : Nat) (b : List Int32), k + f = 602 → b.length = 602 → (∀ i, i < k → b.getD i 0 = a.getD i 0) → m_copies_l2 a f (nI k) b = a
  | 0, k, b, e, hb, h => by
    refine List.ext_getElem? fun i => ?_
    by_cases hi : i < 602
    · have := h i (by omega)
      rw [List.getD_eq_getElem?_getD, List.getD_eq_getElem?_getD, List.getElem?_eq_getElem (by omega), List.getElem?_eq_getElem (by omega)] at this
      show b[i]? = a[i]?
      rw [List.getElem?_eq_getElem (by omega), List.getElem?_eq_getElem (by omega)]
      exact congrArg some this
    · show b[i]? = a[i]?
      rw [List.getElem?_eq_none (by omega), List.getElem?_eq_none (by omega)]
  | f + 1, k, b, e, hb, h => by
    show m_copies_l2 a f (nI k + 1) (sA b (nI k) (gA a (nI k))) = a
    rw [nI_one]
    have hc : (nI k).toNatClampNeg = k := nI_clamp (by omega)
    refine m_cp_l ha f (k + 1) _ (by omega) (by unfold sA; rw [List.length_set]; exact hb) fun i hi => ?_
    unfold sA gA
    rw [hc]
    by_cases e2 : k = i
    · subst e2
      rw [List.getD_eq_getElem?_getD, List.getElem?_set_self (by omega)]
      rfl
    · rw [List.getD_eq_getElem?_getD, List.getElem?_set_ne e2, ← List.getD_eq_getElem?_getD]
      exact h i (by omega)
theorem m_cp {a b : List Int32} (ha : a.length = 602) (hb : b.length = 602) : m_copies a b = a := m_cp_l ha 602 0 b (by decide) hb (fun i hi => absurd hi (by omega))
theorem sA_len {l : List Int32} {i x : Int32} : (sA l i x).length = l.length := List.length_set
theorem m_puts_len {w : List Int32} {t k x : Int32} : (m_puts w t k x).length = w.length := sA_len
theorem m_event_len {w : List Int32} {a b c : Int32} : (m_event w a b c).length = w.length := by
  unfold m_event
  simp only [sA_len]
theorem m_sets_len {w : List Int32} {t : Int32} : (m_sets w t).length = w.length := by
  unfold m_sets
  dsimp only
  repeat' split
  all_goals simp only [sA_len, m_puts_len, m_event_len]
theorem m_arrives_len {w : List Int32} {t : Int32} : (m_arrives w t).length = w.length := by
  unfold m_arrives
  dsimp only
  repeat' split
  all_goals simp only [m_puts_len, m_event_len]
theorem m_meets_len {w : List Int32} {t q : Int32} : (m_meets w t q).length = w.length := by
  unfold m_meets
  dsimp only
  repeat' split
  all_goals simp only [sA_len]
/-- it moves, if it may; with care only if it is safe then -/
def m_tries (w : List Int32) (n : Nat) (t care : Int32) : List Int32 := (if (m_whyNot w t) = 0 then (if care = 0 then (m_sets w t) else (if (m_isSafe (m_sets w t) n) = 0 then w else (m_sets w t))) else w)
set_option maxRecDepth 100000 in
theorem mi4_M : j_meth jP 222 = some (yX10_tries, cX10_tries, 3, none, 2, false, 10) := rfl
set_option maxRecDepth 100000 in
theorem mi4_0 : j_code jP 222 0 = some (.aload_n 0) := rfl
set_option maxRecDepth 100000 in
theorem mi4_1 : j_code jP 222 1 = some (.iload_n 1) := rfl
set_option maxRecDepth 100000 in
theorem mi4_2 : j_code jP 222 2 = some (.invokevirtual 250) := rfl
set_option maxRecDepth 100000 in
theorem mi4_5 : j_code jP 222 5 = some (.ifCond .eq 4) := rfl
set_option maxRecDepth 100000 in
theorem mi4_8 : j_code jP 222 8 = some (.return_) := rfl
set_option maxRecDepth 100000 in
theorem mi4_9 : j_code jP 222 9 = some (.aload_n 0) := rfl
set_option maxRecDepth 100000 in
theorem mi4_10 : j_code jP 222 10 = some (.getfield 7) := rfl
set_option maxRecDepth 100000 in
theorem mi4_13 : j_code jP 222 13 = some (.aload_n 0) := rfl
set_option maxRecDepth 100000 in
theorem mi4_14 : j_code jP 222 14 = some (.getfield 19) := rfl
set_option maxRecDepth 100000 in
theorem mi4_17 : j_code jP 222 17 = some (.invokestatic 188) := rfl
set_option maxRecDepth 100000 in
theorem mi4_20 : j_code jP 222 20 = some (.aload_n 0) := rfl
set_option maxRecDepth 100000 in
theorem mi4_21 : j_code jP 222 21 = some (.iload_n 1) := rfl
set_option maxRecDepth 100000 in
theorem mi4_22 : j_code jP 222 22 = some (.invokevirtual 253) := rfl
set_option maxRecDepth 100000 in
theorem mi4_25 : j_code jP 222 25 = some (.iload_n 2) := rfl
set_option maxRecDepth 100000 in
theorem mi4_26 : j_code jP 222 26 = some (.ifCond .eq 21) := rfl
set_option maxRecDepth 100000 in
theorem mi4_29 : j_code jP 222 29 = some (.aload_n 0) := rfl
set_option maxRecDepth 100000 in
theorem mi4_30 : j_code jP 222 30 = some (.invokevirtual 256) := rfl
set_option maxRecDepth 100000 in
theorem mi4_33 : j_code jP 222 33 = some (.ifCond .ne 14) := rfl
set_option maxRecDepth 100000 in
theorem mi4_36 : j_code jP 222 36 = some (.aload_n 0) := rfl
set_option maxRecDepth 100000 in
theorem mi4_37 : j_code jP 222 37 = some (.getfield 19) := rfl
set_option maxRecDepth 100000 in
theorem mi4_40 : j_code jP 222 40 = some (.aload_n 0) := rfl
set_option maxRecDepth 100000 in
theorem mi4_41 : j_code jP 222 41 = some (.getfield 7) := rfl
set_option maxRecDepth 100000 in
theorem mi4_44 : j_code jP 222 44 = some (.invokestatic 188) := rfl
set_option maxRecDepth 100000 in
theorem mi4_47 : j_code jP 222 47 = some (.return_) := rfl
set_option maxRecDepth 1000000 in
theorem mi4_ok {u : Nat → Value} {w ot tk : List Int32} {tm x1 x2 : Int32} {n d : Nat} {h h0 : J_H} (hw : w.length = 602) (ho : ot.length = 602) (hs : ¬ x2 = 0 → m_whyNot w x1 = 0 → m_sfok (m_sets w x1) n) (K : KN h [(359, .inl (10, [(u 0), .ref 360, .ref 361, .ref 362, .ref 363, .ref 364, .ref 365, .ref 366, .ref 367, (u 9), (u 10), (u 11), (u 12), (u 13), (u 14), (u 15), (u 16), (u 17), (u 18), (u 19), (u 20), (u 21), .ref 368, .int tm, .ref 369, .ref 370, .ref 371, (u 27)])), (360, .inr (.inl (0, w))), (363, .inr (.inl (0, ot))), (368, .inr (.inl (0, tk)))] h0) : j_V jP d 222 0 (lv_args 0 [.ref 359, .int x1, .int x2]) [] h (fun rv h' => rv = none ∧ ∃ (ot' tk' : List Int32) (tm' : Int32), ot'.length = 602 ∧ KN h' [(359, .inl (10, [(u 0), .ref 360, .ref 361, .ref 362, .ref 363, .ref 364, .ref 365, .ref 366, .ref 367, (u 9), (u 10), (u 11), (u 12), (u 13), (u 14), (u 15), (u 16), (u 17), (u 18), (u 19), (u 20), (u 21), .ref 368, .int tm', .ref 369, .ref 370, .ref 371, (u 27)])), (360, .inr (.inl (0, (m_tries w n x1 x2)))), (363, .inr (.inl (0, ot'))), (368, .inr (.inl (0, tk')))] h0) := by
  show j_V jP d 222 0 [(0, .ref 359), (1, .int x1), (2, .int x2)] [] h _
  obtain ⟨lv, elv, L⟩ : ∃ lv, lv = [(0, .ref 359), (1, .int x1), (2, .int x2)] ∧ LK lv [(0, .ref 359), (1, .int x1), (2, .int x2)] := ⟨_, rfl, LK.rf⟩
  rw [← elv]
  clear elv
  refine j_V.ldL mi4_M mi4_0 rfl (i := 0) (kd := 2) (v := .ref 359) (pcJ := 1) rfl L rfl rfl rfl ?_
  refine j_V.ldL mi4_M mi4_1 rfl (i := 1) (kd := 0) (v := .int x1) (pcJ := 2) rfl L rfl rfl rfl ?_
  refine j_V.cl mi4_M mi4_2 rfl (md := 3) (mj := 214) rfl (by decide) mb5_M (As := [.ref 359, .int x1]) (rest := []) (jk_spl3 (K.at rfl) rfl rfl rfl (Nat.le_of_ble_eq_true rfl) (Nat.le_of_ble_eq_true rfl)) (fun d => mb5_ok (u := fun j => [(u 0), .ref 360, .ref 361, .ref 362, .ref 363, .ref 364, .ref 365, .ref 366, .ref 367, (u 9), (u 10), (u 11), (u 12), (u 13), (u 14), (u 15), (u 16), (u 17), (u 18), (u 19), (u 20), (u 21), .ref 368, .int tm, .ref 369, .ref 370, .ref 371, (u 27)].getD j .null) (K.fi [359, 360] rfl rfl)) ?_
  rintro r hz ⟨rfl, ez⟩
  rw [ez]
  clear ez
  show j_V jP _ 222 5 lv [.int (m_whyNot w x1)] h _
  refine j_V.ifc mi4_M mi4_5 (t := 9) rfl (fun c5_0 => ?_) (fun c5_0 => ?_)
  · replace c5_0 : (m_whyNot w x1) = 0 := jd_eq c5_0
    refine j_V.ldL mi4_M mi4_9 rfl (i := 0) (kd := 2) (v := .ref 359) (pcJ := 10) rfl L rfl rfl rfl ?_
    refine j_V.getK mi4_M mi4_10 (ci := 10) (j := 1) rfl K rfl rfl ?_
    refine j_V.ldL mi4_M mi4_13 rfl (i := 0) (kd := 2) (v := .ref 359) (pcJ := 14) rfl L rfl rfl rfl ?_
    refine j_V.getK mi4_M mi4_14 (ci := 10) (j := 4) rfl K rfl rfl ?_
    refine j_V.cl mi4_M mi4_17 rfl (md := 2) (mj := 201) rfl (by decide) mi0_M (As := [.ref 360, .ref 363]) (rest := []) (jk_spl2 rfl rfl (Nat.le_of_ble_eq_true rfl) (Nat.le_of_ble_eq_true rfl)) (fun d => mi0_ok (K.fi [360, 363] rfl rfl)) ?_
    rintro r h9 ⟨rfl, K9⟩
    have K : KN h9 [(359, .inl (10, [(u 0), .ref 360, .ref 361, .ref 362, .ref 363, .ref 364, .ref 365, .ref 366, .ref 367, (u 9), (u 10), (u 11), (u 12), (u 13), (u 14), (u 15), (u 16), (u 17), (u 18), (u 19), (u 20), (u 21), .ref 368, .int tm, .ref 369, .ref 370, .ref 371, (u 27)])), (360, .inr (.inl (0, w))), (363, .inr (.inl (0, ((m_copies w ot))))), (368, .inr (.inl (0, tk)))] h0 := K.mg K9 rfl rfl
    clear K9
    show j_V jP _ 222 20 lv [] h9 _
    rw [m_cp hw ho] at K
    refine j_V.ldL mi4_M mi4_20 rfl (i := 0) (kd := 2) (v := .ref 359) (pcJ := 21) rfl L rfl rfl rfl ?_
    refine j_V.ldL mi4_M mi4_21 rfl (i := 1) (kd := 0) (v := .int x1) (pcJ := 22) rfl L rfl rfl rfl ?_
    refine j_V.cl mi4_M mi4_22 rfl (md := 3) (mj := 216) rfl (by decide) me2_M (As := [.ref 359, .int x1]) (rest := []) (jk_spl3 (K.at rfl) rfl rfl rfl (Nat.le_of_ble_eq_true rfl) (Nat.le_of_ble_eq_true rfl)) (fun d => me2_ok (u := fun j => [(u 0), .ref 360, .ref 361, .ref 362, .ref 363, .ref 364, .ref 365, .ref 366, .ref 367, (u 9), (u 10), (u 11), (u 12), (u 13), (u 14), (u 15), (u 16), (u 17), (u 18), (u 19), (u 20), (u 21), .ref 368, .int tm, .ref 369, .ref 370, .ref 371, (u 27)].getD j .null) (K.fi [359, 360] rfl rfl)) ?_
    rintro r h9 ⟨rfl, K9⟩
    have K : KN h9 [(359, .inl (10, [(u 0), .ref 360, .ref 361, .ref 362, .ref 363, .ref 364, .ref 365, .ref 366, .ref 367, (u 9), (u 10), (u 11), (u 12), (u 13), (u 14), (u 15), (u 16), (u 17), (u 18), (u 19), (u 20), (u 21), .ref 368, .int tm, .ref 369, .ref 370, .ref 371, (u 27)])), (360, .inr (.inl (0, (m_sets w x1)))), (363, .inr (.inl (0, w))), (368, .inr (.inl (0, tk)))] h0 := K.mg K9 rfl rfl
    clear K9
    show j_V jP _ 222 25 lv [] h9 _
    refine j_V.ldL mi4_M mi4_25 rfl (i := 2) (kd := 0) (v := .int x2) (pcJ := 26) rfl L rfl rfl rfl ?_
    refine j_V.ifc mi4_M mi4_26 (t := 47) rfl (fun c26_1 => ?_) (fun c26_1 => ?_)
    · replace c26_1 : x2 = 0 := jd_eq c26_1
      refine j_V.ret mi4_M mi4_47 rfl rfl ⟨rfl, w, tk, tm, ?_, ?_⟩
      · first | exact ho | exact hw
      · rw [show m_tries w n x1 x2 = (m_sets w x1) from (if_pos c5_0).trans ((if_pos c26_1).trans (rfl))]; exact K
    · replace c26_1 : ¬ (x2 = 0) := jd_eqn c26_1
      refine j_V.ldL mi4_M mi4_29 rfl (i := 0) (kd := 2) (v := .ref 359) (pcJ := 30) rfl L rfl rfl rfl ?_
      have hsf := hs (fun z => c26_1 z) c5_0
      refine j_V.cl mi4_M mi4_30 rfl (md := 3) (mj := 219) rfl (by decide) mh1_M (As := [.ref 359]) (rest := []) (jk_spl3 (K.at rfl) rfl rfl rfl (Nat.zero_le _) (Nat.le_of_ble_eq_true rfl)) (fun d => mh1_ok (u := fun j => [(u 0), .ref 360, .ref 361, .ref 362, .ref 363, .ref 364, .ref 365, .ref 366, .ref 367, (u 9), (u 10), (u 11), (u 12), (u 13), (u 14), (u 15), (u 16), (u 17), (u 18), (u 19), (u 20), (u 21), .ref 368, .int tm, .ref 369, .ref 370, .ref 371, (u 27)].getD j .null) hsf (K.fi [359, 360, 368] rfl rfl)) ?_
      rintro r h9 ⟨rfl, K9⟩
      have K : KN h9 [(359, .inl (10, [(u 0), .ref 360, .ref 361, .ref 362, .ref 363, .ref 364, .ref 365, .ref 366, .ref 367, (u 9), (u 10), (u 11), (u 12), (u 13), (u 14), (u 15), (u 16), (u 17), (u 18), (u 19), (u 20), (u 21), .ref 368, .int (m_sf (m_sets w x1) n tk).2.2, .ref 369, .ref 370, .ref 371, (u 27)])), (360, .inr (.inl (0, (m_sets w x1)))), (363, .inr (.inl (0, w))), (368, .inr (.inl (0, (m_sf (m_sets w x1) n tk).2.1)))] h0 := K.mg K9 rfl rfl
      clear K9
      show j_V jP _ 222 33 lv [.int (m_isSafe (m_sets w x1) n)] h9 _
      refine j_V.ifc mi4_M mi4_33 (t := 47) rfl (fun c33_2 => ?_) (fun c33_2 => ?_)
      · replace c33_2 : ¬ ((m_isSafe (m_sets w x1) n) = 0) := jd_ne c33_2
        refine j_V.ret mi4_M mi4_47 rfl rfl ⟨rfl, w, (m_sf (m_sets w x1) n tk).2.1, (m_sf (m_sets w x1) n tk).2.2, ?_, ?_⟩
        · first | exact ho | exact hw
        · rw [show m_tries w n x1 x2 = (m_sets w x1) from (if_pos c5_0).trans ((if_neg c26_1).trans ((if_neg c33_2).trans (rfl)))]; exact K
      · replace c33_2 : (m_isSafe (m_sets w x1) n) = 0 := jd_nen c33_2
        refine j_V.ldL mi4_M mi4_36 rfl (i := 0) (kd := 2) (v := .ref 359) (pcJ := 37) rfl L rfl rfl rfl ?_
        refine j_V.getK mi4_M mi4_37 (ci := 10) (j := 4) rfl K rfl rfl ?_
        refine j_V.ldL mi4_M mi4_40 rfl (i := 0) (kd := 2) (v := .ref 359) (pcJ := 41) rfl L rfl rfl rfl ?_
        refine j_V.getK mi4_M mi4_41 (ci := 10) (j := 1) rfl K rfl rfl ?_
        refine j_V.cl mi4_M mi4_44 rfl (md := 2) (mj := 201) rfl (by decide) mi1_M (As := [.ref 363, .ref 360]) (rest := []) (jk_spl2 rfl rfl (Nat.le_of_ble_eq_true rfl) (Nat.le_of_ble_eq_true rfl)) (fun d => mi1_ok (K.fi [360, 363] rfl rfl)) ?_
        rintro r h9 ⟨rfl, K9⟩
        have K : KN h9 [(359, .inl (10, [(u 0), .ref 360, .ref 361, .ref 362, .ref 363, .ref 364, .ref 365, .ref 366, .ref 367, (u 9), (u 10), (u 11), (u 12), (u 13), (u 14), (u 15), (u 16), (u 17), (u 18), (u 19), (u 20), (u 21), .ref 368, .int (m_sf (m_sets w x1) n tk).2.2, .ref 369, .ref 370, .ref 371, (u 27)])), (360, .inr (.inl (0, ((m_copies w (m_sets w x1)))))), (363, .inr (.inl (0, w))), (368, .inr (.inl (0, (m_sf (m_sets w x1) n tk).2.1)))] h0 := K.mg K9 rfl rfl
        clear K9
        show j_V jP _ 222 47 lv [] h9 _
        rw [m_cp hw (by rw [m_sets_len]; exact hw)] at K
        refine j_V.ret mi4_M mi4_47 rfl rfl ⟨rfl, w, (m_sf (m_sets w x1) n tk).2.1, (m_sf (m_sets w x1) n tk).2.2, ?_, ?_⟩
        · first | exact ho | exact hw
        · rw [show m_tries w n x1 x2 = w from (if_pos c5_0).trans ((if_neg c26_1).trans ((if_pos c33_2).trans (rfl)))]; exact K
  · replace c5_0 : ¬ ((m_whyNot w x1) = 0) := jd_eqn c5_0
    refine j_V.ret mi4_M mi4_8 rfl rfl ⟨rfl, ot, tk, tm, ?_, ?_⟩
    · first | exact ho | exact hw
    · rw [show m_tries w n x1 x2 = w from (if_neg c5_0).trans (rfl)]; exact K
