/-! what a run of J comes to: with fuel enough -/
theorem j_more (P : j_P) : ∀ (f d mi pc : Nat) (lv : J_L) (st : List Value) (h : J_H) (x : Option Value × J_H), j_run P f d mi pc lv st h = some x → j_run P (f + 1) d mi pc lv st h = some x := by
  intro f
  induction f with
  | zero => intro d mi pc lv st h x hj; cases hj
  | succ f ih =>
    intro d mi pc lv st h x hj
    unfold j_run at hj ⊢
    split at hj
    · rename_i M ins hM hins
      try rw [hM, hins]
      try dsimp only
      split at hj
      · rename_i hk
        try rw [hk]
        exact hj
      · rename_i hk
        try rw [hk]
        try dsimp only
        split at hj
        · rename_i y hi
          try rw [hi]
          try dsimp only
          split at hj
          · rename_i stJ ho
            try rw [ho]
            exact ih _ _ _ _ _ _ _ hj
          · cases hj
        · rename_i y hi
          try rw [hi]
          try dsimp only
          split at hj
          · rename_i stJ h' ho
            try rw [ho]
            exact ih _ _ _ _ _ _ _ hj
          · cases hj
        · rename_i y hi
          try rw [hi]
          try dsimp only
          split at hj
          · rename_i stJ ho
            try rw [ho]
            exact ih _ _ _ _ _ _ _ hj
          · cases hj
        · rename_i y hi
          try rw [hi]
          try dsimp only
          split at hj
          · rename_i stJ ho
            try rw [ho]
            exact ih _ _ _ _ _ _ _ hj
          · cases hj
        · rename_i md mj n1 n2 n3 n4 hi
          try rw [hi]
          split at hj
          · rename_i d' N hN
            try rw [hN]
            try dsimp only
            split at hj
            · rename_i As rest hsp
              try rw [hsp]
              try dsimp only
              split at hj
              · rename_i r1 h1 hc
                rw [ih _ _ _ _ _ _ _ hc]
                exact ih _ _ _ _ _ _ _ hj
              · cases hj
            · cases hj
          · cases hj
        · cases hj
      · rename_i k9 k10
        split at hj
        · rename_i pcJ lv' stJ h' ho
          try rw [ho]
          exact ih _ _ _ _ _ _ _ hj
        · cases hj
    · cases hj
theorem j_moreK (P : j_P) {f d mi pc : Nat} {lv : J_L} {st : List Value} {h : J_H} {x : Option Value × J_H} (hj : j_run P f d mi pc lv st h = some x) : ∀ k : Nat, j_run P (f + k) d mi pc lv st h = some x
  | 0 => hj
  | k + 1 => j_more P _ _ _ _ _ _ _ _ (j_moreK P hj k)
/-- J comes to Q from here -/
def j_W (P : j_P) (d mi pc : Nat) (lv : J_L) (st : List Value) (h : J_H) (Q : Option Value → J_H → Prop) : Prop := ∃ (f : Nat) (r : Option Value) (hf : J_H), j_run P f d mi pc lv st h = some (r, hf) ∧ Q r hf
section JW
variable {P : j_P} {d mi pc : Nat} {lv : J_L} {st : List Value} {h : J_H} {Q : Option Value → J_H → Prop}
theorem j_W.mono {Q' : Option Value → J_H → Prop} (k : j_W P d mi pc lv st h Q) (hq : ∀ r h', Q r h' → Q' r h') : j_W P d mi pc lv st h Q' := by
  obtain ⟨f, r, hf, h1, h2⟩ := k
  exact ⟨f, r, hf, h1, hq _ _ h2⟩
theorem j_W.one {M : j_M} {ins : Instr} {pcJ : Nat} {lv' : J_L} {stJ : List Value} {h' : J_H} (hM : j_meth P mi = some M) (hc : j_code P mi pc = some ins) (hk : j_kd ins ≠ 9 ∧ j_kd ins ≠ 10) (ho : j_one P mi (j_nL M) (j_in M) pc ins lv st h = some (pcJ, lv', stJ, h')) (k : j_W P d mi pcJ lv' stJ h' Q) : j_W P d mi pc lv st h Q := by
  obtain ⟨f, r, hf, h1, h2⟩ := k
  refine ⟨f + 1, r, hf, ?_, h2⟩
  unfold j_run
  rw [hM, hc]
  try dsimp only
  split
  · rename_i z; exact absurd z hk.1
  · rename_i z; exact absurd z hk.2
  · rw [ho]
    exact h1
theorem j_W.ret {M : j_M} {ins : Instr} {r : Option Value} (hM : j_meth P mi = some M) (hc : j_code P mi pc = some ins) (hk : j_kd ins = 9) (hr : j_ret (j_rt M) ins st = some r) (hq : Q r h) : j_W P d mi pc lv st h Q := by
  refine ⟨1, r, h, ?_, hq⟩
  unfold j_run
  rw [hM, hc]
  try dsimp only
  try rw [hk]
  try dsimp only
  rw [hr]
  rfl
theorem j_W.obi {M : j_M} {ins : Instr} {y : Nat} {stJ : List Value} (hM : j_meth P mi = some M) (hc : j_code P mi pc = some ins) (hk : j_kd ins = 10) (hi : j_inv P mi ins = some (0, y)) (ho : j_obi st = some stJ) (k : j_W P d mi (pc + 3) lv stJ h Q) : j_W P d mi pc lv st h Q := by
  obtain ⟨f, r, hf, h1, h2⟩ := k
  refine ⟨f + 1, r, hf, ?_, h2⟩
  unfold j_run
  rw [hM, hc]
  try dsimp only
  try rw [hk]
  try dsimp only
  try rw [hi]
  try dsimp only
  rw [ho]
  exact h1
theorem j_W.acp {M : j_M} {ins : Instr} {y : Nat} {stJ : List Value} {h' : J_H} (hM : j_meth P mi = some M) (hc : j_code P mi pc = some ins) (hk : j_kd ins = 10) (hi : j_inv P mi ins = some (1, y)) (ho : j_acp h st = some (stJ, h')) (k : j_W P d mi (pc + 3) lv stJ h' Q) : j_W P d mi pc lv st h Q := by
  obtain ⟨f, r, hf, h1, h2⟩ := k
  refine ⟨f + 1, r, hf, ?_, h2⟩
  unfold j_run
  rw [hM, hc]
  try dsimp only
  try rw [hk]
  try dsimp only
  try rw [hi]
  try dsimp only
  rw [ho]
  exact h1
theorem j_W.max {M : j_M} {ins : Instr} {y : Nat} {stJ : List Value} (hM : j_meth P mi = some M) (hc : j_code P mi pc = some ins) (hk : j_kd ins = 10) (hi : j_inv P mi ins = some (7, y)) (ho : j_mm true st = some stJ) (k : j_W P d mi (pc + 3) lv stJ h Q) : j_W P d mi pc lv st h Q := by
  obtain ⟨f, r, hf, h1, h2⟩ := k
  refine ⟨f + 1, r, hf, ?_, h2⟩
  unfold j_run
  rw [hM, hc]
  try dsimp only
  try rw [hk]
  try dsimp only
  try rw [hi]
  try dsimp only
  rw [ho]
  exact h1
theorem j_W.min {M : j_M} {ins : Instr} {y : Nat} {stJ : List Value} (hM : j_meth P mi = some M) (hc : j_code P mi pc = some ins) (hk : j_kd ins = 10) (hi : j_inv P mi ins = some (8, y)) (ho : j_mm false st = some stJ) (k : j_W P d mi (pc + 3) lv stJ h Q) : j_W P d mi pc lv st h Q := by
  obtain ⟨f, r, hf, h1, h2⟩ := k
  refine ⟨f + 1, r, hf, ?_, h2⟩
  unfold j_run
  rw [hM, hc]
  try dsimp only
  try rw [hk]
  try dsimp only
  try rw [hi]
  try dsimp only
  rw [ho]
  exact h1
/-- a call: what the callee comes to goes on here -/
theorem j_W.call {M N : j_M} {ins : Instr} {md mj : Nat} {As rest : List Value} {Q1 : Option Value → J_H → Prop} (hM : j_meth P mi = some M) (hc : j_code P mi pc = some ins) (hk : j_kd ins = 10) (hi : j_inv P mi ins = some (md, mj)) (hmd : md ≠ 0 ∧ md ≠ 1 ∧ md ≠ 7 ∧ md ≠ 8) (hN : j_meth P mj = some N) (hs : j_spl md N h st = some (As, rest))
    (hcall : j_W P d mj 0 (lv_args 0 As) [] h Q1) (k : ∀ r h', Q1 r h' → j_W P (d + 1) mi (pc + 3) lv (r.toList ++ rest) h' Q) : j_W P (d + 1) mi pc lv st h Q := by
  obtain ⟨f1, r1, h1, a1, a2⟩ := hcall
  obtain ⟨f2, r2, h2, b1, b2⟩ := k r1 h1 a2
  refine ⟨f1 + f2 + 1, r2, h2, ?_, b2⟩
  have e1 := j_moreK P a1 f2
  have e2 := j_moreK P b1 f1
  rw [show f2 + f1 = f1 + f2 from Nat.add_comm _ _] at e2
  obtain ⟨n1, n2, n3, n4⟩ := hmd
  unfold j_run
  rw [hM, hc]
  simp only [hk, hi, hN, hs, e1, e2]
theorem j_W.ifc {M : j_M} {c : ClassFile.Cond} {off : Int} {t : Nat} {x : Int32} (hM : j_meth P mi = some M) (hc : j_code P mi pc = some (.ifCond c off)) (ht : j_tgt pc off = some t) (kt : j_cond c x 0 = true → j_W P d mi t lv st h Q) (kf : j_cond c x 0 = false → j_W P d mi (pc + 3) lv st h Q) : j_W P d mi pc lv (.int x :: st) h Q := by
  refine j_W.one hM hc ⟨fun z => (by cases z), fun z => (by cases z)⟩ (pcJ := if j_cond c x 0 then t else pc + 3) (lv' := lv) (stJ := st) (h' := h) ?_ ?_
  · simp only [j_one, j_kd, j_br, ht, Option.map_some]
  · cases hb : j_cond c x 0 with
    | true => exact kt hb
    | false => exact kf hb
theorem j_W.icmp {M : j_M} {c : ClassFile.Cond} {off : Int} {t : Nat} {x y : Int32} (hM : j_meth P mi = some M) (hc : j_code P mi pc = some (.if_icmp c off)) (ht : j_tgt pc off = some t) (kt : j_cond c x y = true → j_W P d mi t lv st h Q) (kf : j_cond c x y = false → j_W P d mi (pc + 3) lv st h Q) : j_W P d mi pc lv (.int y :: .int x :: st) h Q := by
  refine j_W.one hM hc ⟨fun z => (by cases z), fun z => (by cases z)⟩ (pcJ := if j_cond c x y then t else pc + 3) (lv' := lv) (stJ := st) (h' := h) ?_ ?_
  · simp only [j_one, j_kd, j_br, ht, Option.map_some]
  · cases hb : j_cond c x y with
    | true => exact kt hb
    | false => exact kf hb
theorem j_W.gto {M : j_M} {off : Int} {t : Nat} (hM : j_meth P mi = some M) (hc : j_code P mi pc = some (.goto off)) (ht : j_tgt pc off = some t) (k : j_W P d mi t lv st h Q) : j_W P d mi pc lv st h Q :=
  j_W.one hM hc ⟨fun z => (by cases z), fun z => (by cases z)⟩ (by simp only [j_one, j_kd, j_br, ht, Option.map_some]) k
/-- a field read: the object's cell, the field's value -/
theorem j_W.get {M : j_M} {i k ci j : Nat} {ty : FieldType} {fin : Nat} {fs : List Value} {v : Value} (hM : j_meth P mi = some M) (hc : j_code P mi pc = some (.getfield i)) (hf : j_fld P mi i = some (ci, j, ty, fin)) (hk : h[k]? = some (.inl (ci, fs))) (hv : fs[j]? = some v) (kk : j_W P d mi (pc + 3) lv (v :: st) h Q) : j_W P d mi pc lv (.ref k :: st) h Q :=
  j_W.one hM hc ⟨fun z => (by cases z), fun z => (by cases z)⟩ (by simp only [j_one, j_kd, j_obj, j_get, hf, hk, if_true, hv, Option.map_some, j_ln]) kk
theorem j_W.put {M : j_M} {i k ci j : Nat} {ty : FieldType} {fin : Nat} {fs : List Value} {v : Value} (hM : j_meth P mi = some M) (hc : j_code P mi pc = some (.putfield i)) (hf : j_fld P mi i = some (ci, j, ty, fin)) (hk : h[k]? = some (.inl (ci, fs))) (hj : j < fs.length) (hv : j_fit ty v = true) (hfin : fin = 0 ∨ (fin = 1 ∧ j_in M = true)) (kk : j_W P d mi (pc + 3) lv st (h.set k (.inl (ci, fs.set j v))) Q) : j_W P d mi pc lv (v :: .ref k :: st) h Q := by
  refine j_W.one hM hc ⟨fun z => (by cases z), fun z => (by cases z)⟩ (pcJ := pc + 3) (lv' := lv) (stJ := st) (h' := h.set k (.inl (ci, fs.set j v))) ?_ kk
  simp only [j_one, j_kd, j_obj, j_put, hf, hk, j_ln]
  rw [if_pos ⟨trivial, hj, hv, hfin⟩]
  rfl
theorem j_W.iald {M : j_M} {k : Nat} {l : List Int32} {i : Int32} {v : Int32} (hM : j_meth P mi = some M) (hc : j_code P mi pc = some .iaload) (hk : h[k]? = some (.inr (.inl (0, l)))) (hi : j_ix i l.length = true) (hv : l.getD i.toNatClampNeg 0 = v) (kk : j_W P d mi (pc + 1) lv (.int v :: st) h Q) : j_W P d mi pc lv (.int i :: .ref k :: st) h Q := by
  subst hv
  refine j_W.one hM hc ⟨fun z => (by cases z), fun z => (by cases z)⟩ (pcJ := pc + 1) (lv' := lv) (stJ := .int (l.getD i.toNatClampNeg 0) :: st) (h' := h) ?_ kk
  simp only [j_one, j_kd, j_ald, hk, j_ln]
  rw [if_pos ⟨trivial, hi⟩]
  rfl
theorem j_W.iast {M : j_M} {k : Nat} {l : List Int32} {i x : Int32} (hM : j_meth P mi = some M) (hc : j_code P mi pc = some .iastore) (hk : h[k]? = some (.inr (.inl (0, l)))) (hi : j_ix i l.length = true) (kk : j_W P d mi (pc + 1) lv st (h.set k (.inr (.inl (0, l.set i.toNatClampNeg x)))) Q) : j_W P d mi pc lv (.int x :: .int i :: .ref k :: st) h Q := by
  refine j_W.one hM hc ⟨fun z => (by cases z), fun z => (by cases z)⟩ (pcJ := pc + 1) (lv' := lv) (stJ := st) (h' := h.set k (.inr (.inl (0, l.set i.toNatClampNeg x)))) ?_ kk
  simp only [j_one, j_kd, j_ast, hk, j_ln]
  rw [if_pos ⟨trivial, hi⟩]
  rfl
end JW
