/-! what a run of J comes to: with fuel enough -/
theorem j_more (P : j_P) : ∀ (f d mi pc : Nat) (lv : J_L) (st : List Value) (h : J_H) (x : Option Value × J_H), j_run P f d mi pc lv st h = some x → j_run P (f + 1) d mi pc lv st h = some x := by
  intro f
  induction f with
  | zero => intro d mi pc lv st h x hj; cases hj
  | succ f ih =>
    intro d mi pc lv st h x hj
    unfold j_run at hj ⊢
    split at hj
    · rename_i M ins hM hins
      try rw [hM, hins]
      try dsimp only
      split at hj
      · rename_i hk
        try rw [hk]
        exact hj
      · rename_i hk
        try rw [hk]
        try dsimp only
        split at hj
        · rename_i y hi
          try rw [hi]
          try dsimp only
          split at hj
          · rename_i st' ho
            try rw [ho]
            exact ih _ _ _ _ _ _ _ hj
          · cases hj
        · rename_i y hi
          try rw [hi]
          try dsimp only
          split at hj
          · rename_i st' h' ho
            try rw [ho]
            exact ih _ _ _ _ _ _ _ hj
          · cases hj
        · rename_i y hi
          try rw [hi]
          try dsimp only
          split at hj
          · rename_i st' ho
            try rw [ho]
            exact ih _ _ _ _ _ _ _ hj
          · cases hj
        · rename_i y hi
          try rw [hi]
          try dsimp only
          split at hj
          · rename_i st' ho
            try rw [ho]
            exact ih _ _ _ _ _ _ _ hj
          · cases hj
        · rename_i md mj n1 n2 n3 n4 hi
          try rw [hi]
          split at hj
          · rename_i d' N hN
            try rw [hN]
            try dsimp only
            split at hj
            · rename_i As rest hsp
              try rw [hsp]
              try dsimp only
              split at hj
              · rename_i r1 h1 hc
                rw [ih _ _ _ _ _ _ _ hc]
                exact ih _ _ _ _ _ _ _ hj
              · cases hj
            · cases hj
          · cases hj
        · cases hj
      · rename_i k9 k10
        split at hj
        · rename_i pc' lv' st' h' ho
          try rw [ho]
          exact ih _ _ _ _ _ _ _ hj
        · cases hj
    · cases hj
theorem j_moreK (P : j_P) {f d mi pc : Nat} {lv : J_L} {st : List Value} {h : J_H} {x : Option Value × J_H} (hj : j_run P f d mi pc lv st h = some x) : ∀ k : Nat, j_run P (f + k) d mi pc lv st h = some x
  | 0 => hj
  | k + 1 => j_more P _ _ _ _ _ _ _ _ (j_moreK P hj k)
/-- J comes to Q from here -/
def j_W (P : j_P) (d mi pc : Nat) (lv : J_L) (st : List Value) (h : J_H) (Q : Option Value → J_H → Prop) : Prop := ∃ (f : Nat) (r : Option Value) (hf : J_H), j_run P f d mi pc lv st h = some (r, hf) ∧ Q r hf
section JW
variable {P : j_P} {d mi pc : Nat} {lv : J_L} {st : List Value} {h : J_H} {Q : Option Value → J_H → Prop}
theorem j_W.mono {Q' : Option Value → J_H → Prop} (k : j_W P d mi pc lv st h Q) (hq : ∀ r h', Q r h' → Q' r h') : j_W P d mi pc lv st h Q' := by
  obtain ⟨f, r, hf, h1, h2⟩ := k
  exact ⟨f, r, hf, h1, hq _ _ h2⟩
theorem j_W.one {M : j_M} {ins : Instr} {pc' : Nat} {lv' : J_L} {st' : List Value} {h' : J_H} (hM : j_meth P mi = some M) (hc : j_code P mi pc = some ins) (hk : j_kd ins ≠ 9 ∧ j_kd ins ≠ 10) (ho : j_one P mi (j_nL M) (j_in M) pc ins lv st h = some (pc', lv', st', h')) (k : j_W P d mi pc' lv' st' h' Q) : j_W P d mi pc lv st h Q := by
  obtain ⟨f, r, hf, h1, h2⟩ := k
  refine ⟨f + 1, r, hf, ?_, h2⟩
  unfold j_run
  rw [hM, hc]
  try dsimp only
  split
  · rename_i z; exact absurd z hk.1
  · rename_i z; exact absurd z hk.2
  · rw [ho]
    exact h1
theorem j_W.ret {M : j_M} {ins : Instr} {r : Option Value} (hM : j_meth P mi = some M) (hc : j_code P mi pc = some ins) (hk : j_kd ins = 9) (hr : j_ret (j_rt M) ins st = some r) (hq : Q r h) : j_W P d mi pc lv st h Q := by
  refine ⟨1, r, h, ?_, hq⟩
  unfold j_run
  rw [hM, hc]
  try dsimp only
  try rw [hk]
  try dsimp only
  rw [hr]
  rfl
theorem j_W.obi {M : j_M} {ins : Instr} {y : Nat} {st' : List Value} (hM : j_meth P mi = some M) (hc : j_code P mi pc = some ins) (hk : j_kd ins = 10) (hi : j_inv P mi ins = some (0, y)) (ho : j_obi st = some st') (k : j_W P d mi (pc + 3) lv st' h Q) : j_W P d mi pc lv st h Q := by
  obtain ⟨f, r, hf, h1, h2⟩ := k
  refine ⟨f + 1, r, hf, ?_, h2⟩
  unfold j_run
  rw [hM, hc]
  try dsimp only
  try rw [hk]
  try dsimp only
  try rw [hi]
  try dsimp only
  rw [ho]
  exact h1
theorem j_W.acp {M : j_M} {ins : Instr} {y : Nat} {st' : List Value} {h' : J_H} (hM : j_meth P mi = some M) (hc : j_code P mi pc = some ins) (hk : j_kd ins = 10) (hi : j_inv P mi ins = some (1, y)) (ho : j_acp h st = some (st', h')) (k : j_W P d mi (pc + 3) lv st' h' Q) : j_W P d mi pc lv st h Q := by
  obtain ⟨f, r, hf, h1, h2⟩ := k
  refine ⟨f + 1, r, hf, ?_, h2⟩
  unfold j_run
  rw [hM, hc]
  try dsimp only
  try rw [hk]
  try dsimp only
  try rw [hi]
  try dsimp only
  rw [ho]
  exact h1
theorem j_W.max {M : j_M} {ins : Instr} {y : Nat} {st' : List Value} (hM : j_meth P mi = some M) (hc : j_code P mi pc = some ins) (hk : j_kd ins = 10) (hi : j_inv P mi ins = some (7, y)) (ho : j_mm true st = some st') (k : j_W P d mi (pc + 3) lv st' h Q) : j_W P d mi pc lv st h Q := by
  obtain ⟨f, r, hf, h1, h2⟩ := k
  refine ⟨f + 1, r, hf, ?_, h2⟩
  unfold j_run
  rw [hM, hc]
  try dsimp only
  try rw [hk]
  try dsimp only
  try rw [hi]
  try dsimp only
  rw [ho]
  exact h1
theorem j_W.min {M : j_M} {ins : Instr} {y : Nat} {st' : List Value} (hM : j_meth P mi = some M) (hc : j_code P mi pc = some ins) (hk : j_kd ins = 10) (hi : j_inv P mi ins = some (8, y)) (ho : j_mm false st = some st') (k : j_W P d mi (pc + 3) lv st' h Q) : j_W P d mi pc lv st h Q := by
  obtain ⟨f, r, hf, h1, h2⟩ := k
  refine ⟨f + 1, r, hf, ?_, h2⟩
  unfold j_run
  rw [hM, hc]
  try dsimp only
  try rw [hk]
  try dsimp only
  try rw [hi]
  try dsimp only
  rw [ho]
  exact h1
/-- a call: what the callee comes to goes on here -/
theorem j_W.call {M N : j_M} {ins : Instr} {md mj : Nat} {As rest : List Value} {Q1 : Option Value → J_H → Prop} (hM : j_meth P mi = some M) (hc : j_code P mi pc = some ins) (hk : j_kd ins = 10) (hi : j_inv P mi ins = some (md, mj)) (hmd : md ≠ 0 ∧ md ≠ 1 ∧ md ≠ 7 ∧ md ≠ 8) (hN : j_meth P mj = some N) (hs : j_spl md N h st = some (As, rest))
    (hcall : j_W P d mj 0 (lv_args 0 As) [] h Q1) (k : ∀ r h', Q1 r h' → j_W P (d + 1) mi (pc + 3) lv (r.toList ++ rest) h' Q) : j_W P (d + 1) mi pc lv st h Q := by
  obtain ⟨f1, r1, h1, a1, a2⟩ := hcall
  obtain ⟨f2, r2, h2, b1, b2⟩ := k r1 h1 a2
  refine ⟨f1 + f2 + 1, r2, h2, ?_, b2⟩
  have e1 := j_moreK P a1 f2
  have e2 := j_moreK P b1 f1
  rw [show f2 + f1 = f1 + f2 from Nat.add_comm _ _] at e2
  obtain ⟨n1, n2, n3, n4⟩ := hmd
  unfold j_run
  rw [hM, hc]
  simp only [hk, hi, hN, hs, e1, e2]
end JW
