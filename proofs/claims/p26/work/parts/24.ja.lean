/-! JA: J run by the kernel over arguments of which only intervals are known. An unknown int number i is written .retAddr i; a heap is a list of the cells that are known (key, how long it is if it is an array, the cell): all others stay as they are. -/
noncomputable def ja_nth {α : Type} (l : List (Option α)) : Nat → Option α :=
  List.rec (motive := fun _ => Nat → Option α) (fun _ => none) (fun a _ ih n => Nat.rec (motive := fun _ => Option α) a (fun m _ => ih m) n) l
noncomputable def ja_n2 {α : Type} (L : List (Option (List (Option α)))) (n : Nat) : Option α := match ja_nth L (Nat.div n 16) with
  | some l => ja_nth l (Nat.mod n 16)
  | none => none
abbrev ja_E : Type := Instr × Option j_F × Option (Nat × Nat) × Option Value
abbrev ja_C : Type := List (Option (List (Option ja_E)))
/-- a method: its locals, its answer, its parameters, its class -/
abbrev ja_M : Type := Nat × Option FieldType × Nat × Nat
abbrev ja_ab (M : j_M) : ja_M := (j_nL M, j_rt M, j_np M, j_ci M)
abbrev ja_T : Type := List (Option (List (Option (ja_M × ja_C))))
abbrev ja_H : Type := List (Nat × Nat × J_C)
abbrev ja_I : Type := List (Int × Int)
noncomputable def ja_at (A : ja_H) (k : Nat) : Option (Nat × J_C) :=
  List.rec (motive := fun _ => Option (Nat × J_C)) none (fun p _ ih => cond (Nat.beq p.1 k) (some p.2) ih) A
noncomputable def ja_up (A : ja_H) (k : Nat) (c : J_C) : ja_H :=
  List.rec (motive := fun _ => ja_H) [] (fun p t ih => cond (Nat.beq p.1 k) ((p.1, p.2.1, c) :: t) (p :: ih)) A
/-- the i-th of a list, else z -/
noncomputable def ja_g {α : Type} (z : α) (l : List α) : Nat → α :=
  List.rec (motive := fun _ => Nat → α) (fun _ => z) (fun a _ ih n => Nat.rec (motive := fun _ => α) a (fun m _ => ih m) n) l
noncomputable def ja_s {α : Type} (x : α) (l : List α) : Nat → List α :=
  List.rec (motive := fun _ => Nat → List α) (fun _ => []) (fun a t ih n => Nat.rec (motive := fun _ => List α) (x :: t) (fun m _ => a :: ih m) n) l
theorem ja_g_eq {α : Type} (z : α) : ∀ (l : List α) (n : Nat), ja_g z l n = l.getD n z
  | [], n => rfl
  | a :: t, 0 => rfl
  | a :: t, n + 1 => by
    have h := ja_g_eq z t n
    simp only [List.getD_cons_succ]
    rw [← h]
    rfl
theorem ja_s_eq {α : Type} (x : α) : ∀ (l : List α) (n : Nat), ja_s x l n = l.set n x
  | [], n => rfl
  | a :: t, 0 => rfl
  | a :: t, n + 1 => by
    have h := ja_s_eq x t n
    rw [List.set_cons_succ, ← h]
    rfl
theorem ja_at_up {A : ja_H} {k : Nat} {c : J_C} (j : Nat) : ja_at (ja_up A k c) j = if j = k then (ja_at A k).map (fun q => (q.1, c)) else ja_at A j := by
  induction A with
  | nil => simp [ja_at, ja_up]
  | cons p t ih =>
    have e1 : ja_up (p :: t) k c = cond (Nat.beq p.1 k) ((p.1, p.2.1, c) :: t) (p :: ja_up t k c) := rfl
    have e2 : ∀ (q : Nat × Nat × J_C) (u : ja_H) (i : Nat), ja_at (q :: u) i = cond (Nat.beq q.1 i) (some q.2) (ja_at u i) := fun _ _ _ => rfl
    rw [e1, e2 p t k, e2 p t j]
    cases hb : Nat.beq p.1 k with
    | true =>
      have hk : p.1 = k := Nat.eq_of_beq_eq_true hb
      simp only [cond_true, e2]
      by_cases hj : j = k
      · subst hj
        simp [hb]
      · have : Nat.beq p.1 j = false := by
          rw [hk]
          cases hq : Nat.beq k j with
          | true => exact absurd (Nat.eq_of_beq_eq_true hq).symm hj
          | false => rfl
        simp [hj, this]
    | false =>
      simp only [cond_false, e2]
      rw [ih]
      by_cases hj : j = k
      · subst hj
        simp [hb]
      · simp [hj]
/-- an unknown gets its value -/
def ja_S (env : Nat → Int32) : Value → Value
  | .retAddr i => .int (env i)
  | v => v
def ja_SL (env : Nat → Int32) (lv : J_L) : J_L := lv.map fun q => (q.1, ja_S env q.2)
def ja_SC (env : Nat → Int32) : J_C → J_C
  | .inl (ci, fs) => .inl (ci, fs.map (ja_S env))
  | c => c
def ja_k : Value → Nat
  | .int _ => 0
  | .long _ => 1
  | .ref _ => 2
  | .retAddr _ => 0
  | _ => 3
theorem ja_k_eq (env : Nat → Int32) (v : Value) : j_vk (ja_S env v) = ja_k v := by cases v <;> rfl
theorem ja_cat (env : Nat → Int32) (v : Value) : (ja_S env v).category = v.category := by cases v <;> rfl
theorem ja_cats (env : Nat → Int32) (st : List Value) : (st.map (ja_S env)).map (fun v => v.category) = st.map (fun v => v.category) := by
  simp only [List.map_map]
  exact List.map_congr_left fun v _ => ja_cat env v
def ja_fit (ty : FieldType) (v : Value) : Bool := match ty, v with
  | .int, .retAddr _ => true
  | ty, v => j_fit ty v
theorem ja_fit_ok {env : Nat → Int32} {ty : FieldType} {v : Value} (h : ja_fit ty v = true) : j_fit ty (ja_S env v) = true := by
  unfold ja_fit at h
  split at h
  · rfl
  · cases v <;> first | exact h | (cases ty <;> first | rfl | (exact absurd h (by simp [j_fit])) | (rename_i hn; exact absurd rfl (fun _ => hn _ rfl rfl)))
def ja_lod (ins : Instr) (lv : J_L) (st : List Value) : Option (List Value) := match j_lix ins with
  | none => none
  | some (i, kd) => match j_ld lv i with
    | some v => bif Nat.beq (ja_k v) kd then some (v :: st) else none
    | none => none
def ja_sto (ins : Instr) (nL : Nat) (lv : J_L) (st : List Value) : Option (J_L × List Value) := match j_six ins, st with
  | some (i, kd), v :: r => bif Nat.beq (ja_k v) kd then (bif Nat.beq kd 1 then (bif Nat.ble (i + 2) nL then some (j_s2 i v lv, r) else none) else (bif Nat.ble (i + 1) nL then some (j_s1 i v lv, r) else none)) else none
  | _, _ => none
theorem ja_ld_ok {env : Nat → Int32} {k : Nat} {v : Value} : ∀ {lv : J_L}, j_ld lv k = some v → j_ld (ja_SL env lv) k = some (ja_S env v)
  | [], h => by cases h
  | (i, w) :: r, h => by
    unfold j_ld at h
    show j_ld ((i, ja_S env w) :: ja_SL env r) k = _
    unfold j_ld
    by_cases hi : i = k
    · rw [if_pos hi] at h
      cases h
      rw [if_pos hi]
    · rw [if_neg hi] at h
      rw [if_neg hi]
      exact ja_ld_ok h
theorem ja_s1_ok (env : Nat → Int32) (i : Nat) (v : Value) (lv : J_L) : j_s1 i (ja_S env v) (ja_SL env lv) = ja_SL env (j_s1 i v lv) := by
  simp only [ja_SL, j_s1, List.map_cons, List.filter_map, Function.comp_def, ja_cat]
theorem ja_s2_ok (env : Nat → Int32) (i : Nat) (v : Value) (lv : J_L) : j_s2 i (ja_S env v) (ja_SL env lv) = ja_SL env (j_s2 i v lv) := by
  simp only [ja_SL, j_s2, List.map_cons, List.filter_map, Function.comp_def, ja_cat]
theorem ja_lod_ok {env : Nat → Int32} {ins : Instr} {lv : J_L} {st stJ : List Value} (h : ja_lod ins lv st = some stJ) : j_lod ins (ja_SL env lv) (st.map (ja_S env)) = some (stJ.map (ja_S env)) := by
  unfold ja_lod at h
  unfold j_lod
  split at h
  · cases h
  · rename_i i kd he
    rw [he]
    split at h
    · rename_i v hv
      simp only [ja_ld_ok (env := env) hv, ja_k_eq]
      cases hb : Nat.beq (ja_k v) kd with
      | true =>
        rw [hb] at h
        cases h
        rw [if_pos (Nat.eq_of_beq_eq_true hb)]
        rfl
      | false =>
        rw [hb] at h
        cases h
    · cases h
theorem ja_sto_ok {env : Nat → Int32} {ins : Instr} {nL : Nat} {lv lv' : J_L} {st stJ : List Value} (h : ja_sto ins nL lv st = some (lv', stJ)) : j_sto ins nL (ja_SL env lv) (st.map (ja_S env)) = some (ja_SL env lv', stJ.map (ja_S env)) := by
  unfold ja_sto at h
  split at h
  · rename_i i kd v r he
    unfold j_sto
    simp only [he, List.map_cons, ja_k_eq]
    cases hb : Nat.beq (ja_k v) kd with
    | true =>
      rw [hb] at h
      rw [if_pos (Nat.eq_of_beq_eq_true hb)]
      cases h1 : Nat.beq kd 1 with
      | true =>
        rw [h1] at h
        rw [if_pos (Nat.eq_of_beq_eq_true h1)]
        cases h2 : Nat.ble (i + 2) nL with
        | true =>
          rw [h2] at h
          cases h
          rw [if_pos (show i + 1 < nL from Nat.le_of_ble_eq_true h2), ja_s2_ok]
        | false =>
          rw [h2] at h
          cases h
      | false =>
        rw [h1] at h
        rw [if_neg (fun z => by rw [z] at h1; cases h1)]
        cases h2 : Nat.ble (i + 1) nL with
        | true =>
          rw [h2] at h
          cases h
          rw [if_pos (show i < nL from Nat.le_of_ble_eq_true h2), ja_s1_ok]
        | false =>
          rw [h2] at h
          cases h
    | false =>
      rw [hb] at h
      cases h
  · cases h
theorem ja_inc_ok {env : Nat → Int32} {ins : Instr} {nL : Nat} {lv lv' : J_L} (h : j_inc ins nL lv = some lv') : j_inc ins nL (ja_SL env lv) = some (ja_SL env lv') := by
  unfold j_inc at h
  split at h
  · split at h
    · rename_i i n x hx
      have e := ja_ld_ok (env := env) hx
      unfold j_inc
      simp only [e, ja_S]
      split at h
      · rename_i hi
        cases h
        rw [if_pos hi, ← ja_s1_ok]
        rfl
      · cases h
    · cases h
  · cases h
def ja_stk (ins : Instr) (st : List Value) : Option (List Value) := match ins, st with
  | .iadd, .retAddr i :: .int x :: r => if x = 0 then some (.retAddr i :: r) else none
  | ins, st => j_stk ins st
set_option maxHeartbeats 4000000 in
theorem ja_stk_ok {env : Nat → Int32} {ins : Instr} {st stJ : List Value} (h : ja_stk ins st = some stJ) : j_stk ins (st.map (ja_S env)) = some (stJ.map (ja_S env)) := by
  unfold ja_stk at h
  split at h
  · rename_i i x r
    by_cases hx : x = 0
    · rw [if_pos hx] at h
      cases h
      subst hx
      show some (.int (0 + env i) :: r.map (ja_S env)) = _
      rw [Int32.zero_add]
      rfl
    · rw [if_neg hx] at h
      cases h
  · unfold j_stk at h
    split at h
    all_goals first
      | (cases h; rfl)
      | (split at h
         · rename_i hc
           cases h
           unfold j_stk
           simp only [List.map_cons, ja_cat, hc, and_self, if_true]
         · cases h)
      | (obtain ⟨z, hz, he⟩ := Option.map_eq_some_iff.mp h
         cases he
         first
           | (unfold j_bin at hz
              split at hz
              all_goals first | (cases hz; rfl) | (split at hz
                                                   · cases hz
                                                   · rename_i hn
                                                     cases hz
                                                     simp [j_stk, j_bin, hn, ja_S]) | cases hz)
           | (unfold j_lbin at hz
              split at hz
              all_goals first | (cases hz; rfl) | cases hz)
           | (unfold j_lsh at hz
              split at hz
              all_goals first | (cases hz; rfl) | cases hz))
      | cases h
noncomputable def ja_o {α : Type} (l : List α) : Nat → Option α :=
  List.rec (motive := fun _ => Nat → Option α) (fun _ => none) (fun a _ ih n => Nat.rec (motive := fun _ => Option α) (some a) (fun m _ => ih m) n) l
theorem ja_o_eq {α : Type} : ∀ (l : List α) (n : Nat), ja_o l n = l[n]?
  | [], n => by simp [ja_o]
  | a :: t, 0 => rfl
  | a :: t, n + 1 => by
    have h := ja_o_eq t n
    rw [List.getElem?_cons_succ, ← h]
    rfl
/-! heaps -/
def ja_sz : J_C → Nat → Prop
  | .inl _, _ => True
  | .inr (.inl f), n => f.2.length = n
  | .inr (.inr (.inl f)), n => f.length = n
  | .inr (.inr (.inr f)), n => f.length = n
def ja_rel (env : Nat → Int32) (A : ja_H) (h : J_H) : Prop := ∀ k n c, ja_at A k = some (n, c) → h[k]? = some (ja_SC env c) ∧ ja_sz c n
def ja_fr (A : ja_H) (h : J_H) (A' : ja_H) (h' : J_H) : Prop := h'.length = h.length ∧ ∀ k, ja_at A k = none → ja_at A' k = none ∧ h'[k]? = h[k]?
theorem ja_fr.rf {A : ja_H} {h : J_H} : ja_fr A h A h := ⟨rfl, fun _ hk => ⟨hk, rfl⟩⟩
theorem ja_fr.tr {A A1 A2 : ja_H} {h h1 h2 : J_H} (a : ja_fr A h A1 h1) (b : ja_fr A1 h1 A2 h2) : ja_fr A h A2 h2 := ⟨b.1.trans a.1, fun k hk => by
  obtain ⟨x1, x2⟩ := a.2 k hk
  obtain ⟨y1, y2⟩ := b.2 k x1
  exact ⟨y1, y2.trans x2⟩⟩
/-- a cell is written -/
theorem ja_set {env : Nat → Int32} {A : ja_H} {h : J_H} {k n : Nat} {c c' : J_C} (hr : ja_rel env A h) (hk : ja_at A k = some (n, c)) (hs : ja_sz c' n) : ja_rel env (ja_up A k c') (h.set k (ja_SC env c')) ∧ ja_fr A h (ja_up A k c') (h.set k (ja_SC env c')) := by
  have hlt : k < h.length := (List.getElem?_eq_some_iff.mp (hr k n c hk).1).1
  refine ⟨fun j m d hj => ?_, by simp, fun j hj => ?_⟩
  · rw [ja_at_up] at hj
    by_cases e : j = k
    · subst e
      rw [if_pos rfl, hk] at hj
      cases hj
      exact ⟨by rw [List.getElem?_set_self hlt], hs⟩
    · rw [if_neg e] at hj
      rw [List.getElem?_set_ne (fun z => e z.symm)]
      exact hr j m d hj
  · have e : j ≠ k := fun e => by
      subst e
      rw [hk] at hj
      cases hj
    rw [ja_at_up, if_neg e]
    exact ⟨hj, List.getElem?_set_ne (fun z => e z.symm)⟩
noncomputable def ja_get (fl : Option j_F) (A : ja_H) (st : List Value) : Option (List Value) := match fl, st with
  | some (ci, j, _, _), .ref k :: r => match ja_at A k with
    | some (_, .inl (c, fs)) => bif Nat.beq c ci then (match ja_o fs j with
      | some v => some (v :: r)
      | none => none) else none
    | _ => none
  | _, _ => none
noncomputable def ja_put (fl : Option j_F) (A : ja_H) (st : List Value) : Option (List Value × ja_H) := match fl, st with
  | some (ci, j, ty, fin), v :: .ref k :: r => match ja_at A k with
    | some (_, .inl (c, fs)) => bif Nat.beq c ci && (Nat.ble (j + 1) fs.length && (ja_fit ty v && Nat.beq fin 0)) then some (r, ja_up A k (.inl (c, ja_s v fs j))) else none
    | _ => none
  | _, _ => none
theorem ja_get_ok {env : Nat → Int32} {fl : Option j_F} {A : ja_H} {h : J_H} {st stJ : List Value} (hr : ja_rel env A h) (hj : ja_get fl A st = some stJ) : j_get fl h (st.map (ja_S env)) = some (stJ.map (ja_S env)) := by
  unfold ja_get at hj
  split at hj
  · rename_i ci j ty fin k r
    split at hj
    · rename_i n c fs hk
      have e := (hr _ _ _ hk).1
      cases hb : Nat.beq c ci with
      | false => rw [hb] at hj; cases hj
      | true =>
        rw [hb] at hj
        have hc := Nat.eq_of_beq_eq_true hb
        subst hc
        simp only [cond_true, ja_o_eq] at hj
        split at hj
        · rename_i v hv'
          cases hj
          show j_get (some (c, j, ty, fin)) h (.ref k :: r.map (ja_S env)) = _
          simp only [j_get, e, ja_SC, if_true, List.getElem?_map, hv', Option.map_some, List.map_cons]
        · cases hj
    · cases hj
  · cases hj
theorem ja_put_ok {env : Nat → Int32} {fl : Option j_F} {isI : Bool} {A A' : ja_H} {h : J_H} {st stJ : List Value} (hr : ja_rel env A h) (hj : ja_put fl A st = some (stJ, A')) : ∃ h', j_put isI fl h (st.map (ja_S env)) = some (stJ.map (ja_S env), h') ∧ ja_rel env A' h' ∧ ja_fr A h A' h' := by
  unfold ja_put at hj
  split at hj
  · rename_i ci j ty fin v k r
    split at hj
    · rename_i n c fs hk
      have e := (hr _ _ _ hk).1
      cases hb : Nat.beq c ci && (Nat.ble (j + 1) fs.length && (ja_fit ty v && Nat.beq fin 0)) with
      | false => rw [hb] at hj; cases hj
      | true =>
        rw [hb] at hj
        cases hj
        obtain ⟨b1, b2⟩ := Bool.and_eq_true_iff.mp hb
        obtain ⟨b2, b3⟩ := Bool.and_eq_true_iff.mp b2
        obtain ⟨b3, b4⟩ := Bool.and_eq_true_iff.mp b3
        have hc := Nat.eq_of_beq_eq_true b1
        subst hc
        have hlt : j < fs.length := Nat.le_of_ble_eq_true b2
        have hfin := Nat.eq_of_beq_eq_true b4
        obtain ⟨r1, r2⟩ := ja_set (c' := .inl (c, ja_s v fs j)) hr hk trivial
        refine ⟨_, ?_, r1, r2⟩
        show j_put isI (some (c, j, ty, fin)) h (ja_S env v :: .ref k :: stJ.map (ja_S env)) = _
        simp only [j_put, e, ja_SC]
        rw [if_pos ⟨trivial, by simpa using hlt, ja_fit_ok b3, Or.inl hfin⟩, ja_s_eq, List.map_set]
    · cases hj
  · cases hj
noncomputable def ja_ald (ins : Instr) (A : ja_H) (st : List Value) : Option (List Value) := match ins, st with
  | .iaload, .int i :: .ref k :: r => match ja_at A k with
    | some (n, .inr (.inl (kd, l))) => bif Nat.beq kd 0 && j_ix i n then some (.int (ja_g 0 l i.toNatClampNeg) :: r) else none
    | _ => none
  | .baload, .int i :: .ref k :: r => match ja_at A k with
    | some (n, .inr (.inl (kd, l))) => bif Nat.beq kd 1 && j_ix i n then some (.int (ja_g 0 l i.toNatClampNeg) :: r) else none
    | _ => none
  | .laload, .int i :: .ref k :: r => match ja_at A k with
    | some (n, .inr (.inr (.inl l))) => bif j_ix i n then some (.long (ja_g 0 l i.toNatClampNeg) :: r) else none
    | _ => none
  | .aaload, .int i :: .ref k :: r => match ja_at A k with
    | some (n, .inr (.inr (.inr l))) => bif j_ix i n then (match ja_g none l i.toNatClampNeg with
      | some q => some (.ref q :: r)
      | none => none) else none
    | _ => none
  | .arraylength, .ref k :: r => match ja_at A k with
    | some (n, .inr (.inl _)) => some (.int (Int32.ofNat n) :: r)
    | _ => none
  | _, _ => none
theorem ja_ald_ok {env : Nat → Int32} {ins : Instr} {A : ja_H} {h : J_H} {st stJ : List Value} (hr : ja_rel env A h) (hj : ja_ald ins A st = some stJ) : j_ald ins h (st.map (ja_S env)) = some (stJ.map (ja_S env)) := by
  unfold ja_ald at hj
  split at hj
  · rename_i i k r
    split at hj
    · rename_i n kd l hk
      obtain ⟨e, hs⟩ := hr _ _ _ hk
      cases hb : Nat.beq kd 0 && j_ix i n with
      | false => rw [hb] at hj; cases hj
      | true =>
        rw [hb] at hj
        cases hj
        obtain ⟨b1, b2⟩ := Bool.and_eq_true_iff.mp hb
        have hs : l.length = n := hs
        show j_ald .iaload h (.int i :: .ref k :: r.map (ja_S env)) = _
        simp only [j_ald, e, ja_SC, hs]
        rw [if_pos ⟨Nat.eq_of_beq_eq_true b1, b2⟩, ja_g_eq]
        rfl
    · cases hj
  · rename_i i k r
    split at hj
    · rename_i n kd l hk
      obtain ⟨e, hs⟩ := hr _ _ _ hk
      cases hb : Nat.beq kd 1 && j_ix i n with
      | false => rw [hb] at hj; cases hj
      | true =>
        rw [hb] at hj
        cases hj
        obtain ⟨b1, b2⟩ := Bool.and_eq_true_iff.mp hb
        have hs : l.length = n := hs
        have h1 := Nat.eq_of_beq_eq_true b1
        show j_ald .baload h (.int i :: .ref k :: r.map (ja_S env)) = _
        simp only [j_ald, e, ja_SC, hs]
        rw [if_pos ⟨by rw [h1]; exact Nat.one_ne_zero, b2⟩, ja_g_eq]
        rfl
    · cases hj
  · rename_i i k r
    split at hj
    · rename_i n l hk
      obtain ⟨e, hs⟩ := hr _ _ _ hk
      cases hb : j_ix i n with
      | false => rw [hb] at hj; cases hj
      | true =>
        rw [hb] at hj
        cases hj
        have hs : l.length = n := hs
        show j_ald .laload h (.int i :: .ref k :: r.map (ja_S env)) = _
        simp only [j_ald, e, ja_SC, hs]
        rw [if_pos hb, ja_g_eq]
        rfl
    · cases hj
  · rename_i i k r
    split at hj
    · rename_i n l hk
      obtain ⟨e, hs⟩ := hr _ _ _ hk
      cases hb : j_ix i n with
      | false => rw [hb] at hj; cases hj
      | true =>
        rw [hb] at hj
        simp only [cond_true, ja_g_eq] at hj
        split at hj
        · rename_i q hq
          cases hj
          have hs : l.length = n := hs
          show j_ald .aaload h (.int i :: .ref k :: r.map (ja_S env)) = _
          simp only [j_ald, e, ja_SC, hs]
          rw [if_pos hb]
          simp only [hq]
          rfl
        · cases hj
    · cases hj
  · rename_i k r
    split at hj
    · rename_i n q hk
      obtain ⟨e, hs⟩ := hr _ _ _ hk
      cases hj
      have hs : q.2.length = n := hs
      show j_ald .arraylength h (.ref k :: r.map (ja_S env)) = _
      obtain ⟨kd, l⟩ := q
      simp only [j_ald, e, ja_SC]
      rw [show l.length = n from hs]
      rfl
    · cases hj
  · cases hj
noncomputable def ja_ast (ins : Instr) (A : ja_H) (st : List Value) : Option (List Value × ja_H) := match ins, st with
  | .iastore, .int x :: .int i :: .ref k :: r => match ja_at A k with
    | some (n, .inr (.inl (kd, l))) => bif Nat.beq kd 0 && j_ix i n then some (r, ja_up A k (.inr (.inl (kd, ja_s x l i.toNatClampNeg)))) else none
    | _ => none
  | .bastore, .int x :: .int i :: .ref k :: r => match ja_at A k with
    | some (n, .inr (.inl (kd, l))) => bif Nat.beq kd 1 && j_ix i n then some (r, ja_up A k (.inr (.inl (kd, ja_s x.toInt8.toInt32 l i.toNatClampNeg)))) else none
    | _ => none
  | .lastore, .long x :: .int i :: .ref k :: r => match ja_at A k with
    | some (n, .inr (.inr (.inl l))) => bif j_ix i n then some (r, ja_up A k (.inr (.inr (.inl (ja_s x l i.toNatClampNeg))))) else none
    | _ => none
  | _, _ => none
theorem ja_ast_ok {env : Nat → Int32} {ins : Instr} {A A' : ja_H} {h : J_H} {st stJ : List Value} (hr : ja_rel env A h) (hj : ja_ast ins A st = some (stJ, A')) : ∃ h', j_ast ins h (st.map (ja_S env)) = some (stJ.map (ja_S env), h') ∧ ja_rel env A' h' ∧ ja_fr A h A' h' := by
  unfold ja_ast at hj
  split at hj
  · rename_i x i k r
    split at hj
    · rename_i n kd l hk
      obtain ⟨e, hs⟩ := hr _ _ _ hk
      cases hb : Nat.beq kd 0 && j_ix i n with
      | false => rw [hb] at hj; cases hj
      | true =>
        rw [hb] at hj
        cases hj
        obtain ⟨b1, b2⟩ := Bool.and_eq_true_iff.mp hb
        have hs : l.length = n := hs
        obtain ⟨r1, r2⟩ := ja_set (c' := .inr (.inl (kd, ja_s x l i.toNatClampNeg))) hr hk (by show (ja_s x l i.toNatClampNeg).length = n; rw [ja_s_eq, List.length_set]; exact hs)
        refine ⟨_, ?_, r1, r2⟩
        show j_ast .iastore h (.int x :: .int i :: .ref k :: stJ.map (ja_S env)) = _
        simp only [j_ast, e, ja_SC, hs]
        rw [if_pos ⟨Nat.eq_of_beq_eq_true b1, b2⟩, ja_s_eq]
    · cases hj
  · rename_i x i k r
    split at hj
    · rename_i n kd l hk
      obtain ⟨e, hs⟩ := hr _ _ _ hk
      cases hb : Nat.beq kd 1 && j_ix i n with
      | false => rw [hb] at hj; cases hj
      | true =>
        rw [hb] at hj
        cases hj
        obtain ⟨b1, b2⟩ := Bool.and_eq_true_iff.mp hb
        have hs : l.length = n := hs
        have h1 := Nat.eq_of_beq_eq_true b1
        obtain ⟨r1, r2⟩ := ja_set (c' := .inr (.inl (kd, ja_s x.toInt8.toInt32 l i.toNatClampNeg))) hr hk (by show (ja_s x.toInt8.toInt32 l i.toNatClampNeg).length = n; rw [ja_s_eq, List.length_set]; exact hs)
        refine ⟨_, ?_, r1, r2⟩
        show j_ast .bastore h (.int x :: .int i :: .ref k :: stJ.map (ja_S env)) = _
        simp only [j_ast, e, ja_SC, hs]
        rw [if_pos ⟨by rw [h1]; exact Nat.one_ne_zero, b2⟩, ja_s_eq]
    · cases hj
  · rename_i x i k r
    split at hj
    · rename_i n l hk
      obtain ⟨e, hs⟩ := hr _ _ _ hk
      cases hb : j_ix i n with
      | false => rw [hb] at hj; cases hj
      | true =>
        rw [hb] at hj
        cases hj
        have hs : l.length = n := hs
        obtain ⟨r1, r2⟩ := ja_set (c' := .inr (.inr (.inl (ja_s x l i.toNatClampNeg)))) hr hk (by show (ja_s x l i.toNatClampNeg).length = n; rw [ja_s_eq, List.length_set]; exact hs)
        refine ⟨_, ?_, r1, r2⟩
        show j_ast .lastore h (.long x :: .int i :: .ref k :: stJ.map (ja_S env)) = _
        simp only [j_ast, e, ja_SC, hs]
        rw [if_pos hb, ja_s_eq]
    · cases hj
  · cases hj
noncomputable def ja_acp (A : ja_H) (st : List Value) : Option (List Value × ja_H) := match st with
  | .int n :: .int dp :: .ref a :: .int sp :: .ref a0 :: r => match ja_at A a0, ja_at A a with
    | some (n0, .inr (.inl (k0, l0))), some (n1, .inr (.inl (k1, l1))) =>
      if k0 = 0 ∧ k1 = 0 ∧ ¬ sp < 0 ∧ ¬ dp < 0 ∧ ¬ n < 0 ∧ sp.toNatClampNeg + n.toNatClampNeg ≤ n0 ∧ dp.toNatClampNeg + n.toNatClampNeg ≤ n1 ∧ (r.map fun v => v.category).sum ≤ 8 then
        some (r, ja_up A a (.inr (.inl (k1, j_cpy 0 l0 l1 sp.toNatClampNeg dp.toNatClampNeg n.toNatClampNeg)))) else none
    | some (n0, .inr (.inr (.inl l0))), some (n1, .inr (.inr (.inl l1))) =>
      if ¬ sp < 0 ∧ ¬ dp < 0 ∧ ¬ n < 0 ∧ sp.toNatClampNeg + n.toNatClampNeg ≤ n0 ∧ dp.toNatClampNeg + n.toNatClampNeg ≤ n1 ∧ (r.map fun v => v.category).sum ≤ 8 then
        some (r, ja_up A a (.inr (.inr (.inl (j_cpy 0 l0 l1 sp.toNatClampNeg dp.toNatClampNeg n.toNatClampNeg))))) else none
    | _, _ => none
  | _ => none
theorem ja_acp_ok {env : Nat → Int32} {A A' : ja_H} {h : J_H} {st stJ : List Value} (hr : ja_rel env A h) (hj : ja_acp A st = some (stJ, A')) : ∃ h', j_acp h (st.map (ja_S env)) = some (stJ.map (ja_S env), h') ∧ ja_rel env A' h' ∧ ja_fr A h A' h' := by
  unfold ja_acp at hj
  split at hj
  · rename_i n dp a sp a0 r
    split at hj
    · rename_i n0 k0 l0 n1 k1 l1 hk0 hk1
      obtain ⟨e0, hs0⟩ := hr _ _ _ hk0
      obtain ⟨e1, hs1⟩ := hr _ _ _ hk1
      have hs0 : l0.length = n0 := hs0
      have hs1 : l1.length = n1 := hs1
      split at hj
      · rename_i hi
        cases hj
        obtain ⟨r1, r2⟩ := ja_set (c' := .inr (.inl (k1, j_cpy 0 l0 l1 sp.toNatClampNeg dp.toNatClampNeg n.toNatClampNeg))) hr hk1 (by show (j_cpy 0 l0 l1 _ _ _).length = n1; rw [j_cpy, List.length_mapIdx]; exact hs1)
        refine ⟨_, ?_, r1, r2⟩
        show j_acp h (.int n :: .int dp :: .ref a :: .int sp :: .ref a0 :: stJ.map (ja_S env)) = _
        simp only [j_acp, e0, e1, ja_SC, hs0, hs1, ja_cats]
        rw [if_pos hi]
      · cases hj
    · rename_i n0 l0 n1 l1 hk0 hk1
      obtain ⟨e0, hs0⟩ := hr _ _ _ hk0
      obtain ⟨e1, hs1⟩ := hr _ _ _ hk1
      have hs0 : l0.length = n0 := hs0
      have hs1 : l1.length = n1 := hs1
      split at hj
      · rename_i hi
        cases hj
        obtain ⟨r1, r2⟩ := ja_set (c' := .inr (.inr (.inl (j_cpy 0 l0 l1 sp.toNatClampNeg dp.toNatClampNeg n.toNatClampNeg)))) hr hk1 (by show (j_cpy 0 l0 l1 _ _ _).length = n1; rw [j_cpy, List.length_mapIdx]; exact hs1)
        refine ⟨_, ?_, r1, r2⟩
        show j_acp h (.int n :: .int dp :: .ref a :: .int sp :: .ref a0 :: stJ.map (ja_S env)) = _
        simp only [j_acp, e0, e1, ja_SC, hs0, hs1, ja_cats]
        rw [if_pos hi]
      · cases hj
    · cases hj
  · cases hj
theorem ja_mm_ok {env : Nat → Int32} {mx : Bool} {st stJ : List Value} (hj : j_mm mx st = some stJ) : j_mm mx (st.map (ja_S env)) = some (stJ.map (ja_S env)) := by
  unfold j_mm at hj
  split at hj
  · rename_i y x r
    split at hj
    · rename_i hi
      cases hj
      show j_mm mx (.int y :: .int x :: r.map (ja_S env)) = _
      simp only [j_mm, ja_cats]
      rw [if_pos hi]
      rfl
    · cases hj
  · cases hj
theorem ja_ldk_ok {env : Nat → Int32} {ins : Instr} {kk : Nat → Option Value} {st stJ : List Value} (hj : j_ldk ins kk st = some stJ) : j_ldk ins kk (st.map (ja_S env)) = some (stJ.map (ja_S env)) := by
  unfold j_ldk at hj
  split at hj
  all_goals first
    | cases hj; done
    | (split at hj
       · rename_i x hx
         cases hj
         simp only [j_ldk, hx]
         rfl
       · cases hj)
/-- an answer -/
def ja_ret (ret : Option FieldType) (ins : Instr) (st : List Value) : Option (Option Value) := match ins, st, ret with
  | .ireturn, [v], some ty => bif Nat.beq (ja_k v) 0 && ja_fit ty v then some (some v) else none
  | .lreturn, [.long v], some .long => some (some (.long v))
  | .areturn, [.ref k], some (.object _) => some (some (.ref k))
  | .areturn, [.ref k], some (.array _) => some (some (.ref k))
  | .return_, [], none => some none
  | _, _, _ => none
theorem ja_ret_ok {env : Nat → Int32} {ret : Option FieldType} {ins : Instr} {st : List Value} {r : Option Value} (hj : ja_ret ret ins st = some r) : j_ret ret ins (st.map (ja_S env)) = some (r.map (ja_S env)) := by
  unfold ja_ret at hj
  split at hj
  · rename_i v ty
    cases hb : Nat.beq (ja_k v) 0 && ja_fit ty v with
    | false => rw [hb] at hj; cases hj
    | true =>
      rw [hb] at hj
      cases hj
      obtain ⟨b1, b2⟩ := Bool.and_eq_true_iff.mp hb
      have b3 := ja_fit_ok (env := env) b2
      have b4 := (ja_k_eq env v).trans (Nat.eq_of_beq_eq_true b1)
      show j_ret (some ty) .ireturn [ja_S env v] = some (some (ja_S env v))
      generalize ja_S env v = w at b3 b4
      cases w <;> first | (cases b4; done) | (simp only [j_ret]; rw [if_pos b3])
  · cases hj; rfl
  · cases hj; rfl
  · cases hj; rfl
  · cases hj; rfl
  · cases hj
/-! branches -/
def ja_sat (env : Nat → Int32) (iv : ja_I) : Prop := ∀ i lo hi, ja_o iv i = some (lo, hi) → lo ≤ (env i).toInt ∧ (env i).toInt ≤ hi
/-- an unknown between lo and hi against b: the intervals, and what the comparison says there -/
def ja_cut (c : ClassFile.Cond) (lo hi b : Int) : List (Int × Int × Bool) := match c with
  | .lt => [(lo, min hi (b - 1), true), (max lo b, hi, false)]
  | .ge => [(lo, min hi (b - 1), false), (max lo b, hi, true)]
  | .gt => [(max lo (b + 1), hi, true), (lo, min hi b, false)]
  | .le => [(max lo (b + 1), hi, false), (lo, min hi b, true)]
  | .eq => [(lo, min hi (b - 1), false), (max lo b, min hi b, true), (max lo (b + 1), hi, false)]
  | .ne => [(lo, min hi (b - 1), true), (max lo b, min hi b, false), (max lo (b + 1), hi, true)]
/-- the comparison the other way round -/
def ja_flip : ClassFile.Cond → ClassFile.Cond
  | .lt => .gt
  | .ge => .le
  | .gt => .lt
  | .le => .ge
  | .eq => .eq
  | .ne => .ne
theorem ja_flip_ok (c : ClassFile.Cond) (x y : Int32) : j_cond c x y = j_cond (ja_flip c) y x := by
  cases c <;> simp [ja_flip, j_cond, eq_comm]
theorem ja_cut_ok {c : ClassFile.Cond} {lo hi : Int} {x b : Int32} (h1 : lo ≤ x.toInt) (h2 : x.toInt ≤ hi) : ∃ q ∈ ja_cut c lo hi b.toInt, q.1 ≤ x.toInt ∧ x.toInt ≤ q.2.1 ∧ j_cond c x b = q.2.2 := by
  have hlt : ∀ u v : Int32, decide (u < v) = decide (u.toInt < v.toInt) := fun u v => by rw [decide_eq_decide]; exact Int32.lt_iff_toInt_lt
  have hle : ∀ u v : Int32, decide (u ≤ v) = decide (u.toInt ≤ v.toInt) := fun u v => by rw [decide_eq_decide]; exact Int32.le_iff_toInt_le
  have heq : ∀ u v : Int32, decide (u = v) = decide (u.toInt = v.toInt) := fun u v => by rw [decide_eq_decide]; exact Int32.toInt_inj.symm
  rcases Int.lt_trichotomy x.toInt b.toInt with h | h | h
  · cases c
    all_goals simp only [ja_cut, j_cond, hlt, hle, heq]
    · exact ⟨(lo, min hi (b.toInt - 1), false), by simp, h1, by simp only; omega, by simp; omega⟩
    · exact ⟨(lo, min hi (b.toInt - 1), true), by simp, h1, by simp only; omega, by simp; omega⟩
    · exact ⟨(lo, min hi (b.toInt - 1), true), by simp, h1, by simp only; omega, by simp; omega⟩
    · exact ⟨(lo, min hi (b.toInt - 1), false), by simp, h1, by simp only; omega, by simp; omega⟩
    · exact ⟨(lo, min hi b.toInt, false), by simp, h1, by simp only; omega, by simp; omega⟩
    · exact ⟨(lo, min hi b.toInt, true), by simp, h1, by simp only; omega, by simp; omega⟩
  · cases c
    all_goals simp only [ja_cut, j_cond, hlt, hle, heq]
    · exact ⟨(max lo b.toInt, min hi b.toInt, true), by simp, by simp only; omega, by simp only; omega, by simp; omega⟩
    · exact ⟨(max lo b.toInt, min hi b.toInt, false), by simp, by simp only; omega, by simp only; omega, by simp; omega⟩
    · exact ⟨(max lo b.toInt, hi, false), by simp, by simp only; omega, h2, by simp; omega⟩
    · exact ⟨(max lo b.toInt, hi, true), by simp, by simp only; omega, h2, by simp; omega⟩
    · exact ⟨(lo, min hi b.toInt, false), by simp, h1, by simp only; omega, by simp; omega⟩
    · exact ⟨(lo, min hi b.toInt, true), by simp, h1, by simp only; omega, by simp; omega⟩
  · cases c
    all_goals simp only [ja_cut, j_cond, hlt, hle, heq]
    · exact ⟨(max lo (b.toInt + 1), hi, false), by simp, by simp only; omega, h2, by simp; omega⟩
    · exact ⟨(max lo (b.toInt + 1), hi, true), by simp, by simp only; omega, h2, by simp; omega⟩
    · exact ⟨(max lo b.toInt, hi, false), by simp, by simp only; omega, h2, by simp; omega⟩
    · exact ⟨(max lo b.toInt, hi, true), by simp, by simp only; omega, h2, by simp; omega⟩
    · exact ⟨(max lo (b.toInt + 1), hi, true), by simp, by simp only; omega, h2, by simp; omega⟩
    · exact ⟨(max lo (b.toInt + 1), hi, false), by simp, by simp only; omega, h2, by simp; omega⟩
noncomputable def ja_cmp (c : ClassFile.Cond) (iv : ja_I) : Value → Value → Option (List (ja_I × Bool))
  | .int x, .int y => some [(iv, j_cond c x y)]
  | .retAddr i, .int y => match ja_o iv i with
    | some (lo, hi) => some (((ja_cut c lo hi y.toInt).filter fun q => decide (q.1 ≤ q.2.1)).map fun q => (ja_s (q.1, q.2.1) iv i, q.2.2))
    | none => none
  | .int x, .retAddr i => match ja_o iv i with
    | some (lo, hi) => some (((ja_cut (ja_flip c) lo hi x.toInt).filter fun q => decide (q.1 ≤ q.2.1)).map fun q => (ja_s (q.1, q.2.1) iv i, q.2.2))
    | none => none
  | _, _ => none
theorem ja_sat_s {env : Nat → Int32} {iv : ja_I} {i : Nat} {lo hi : Int} (hs : ja_sat env iv) (h1 : lo ≤ (env i).toInt) (h2 : (env i).toInt ≤ hi) : ja_sat env (ja_s (lo, hi) iv i) := by
  intro j a b hj
  rw [ja_o_eq, ja_s_eq] at hj
  by_cases e : i = j
  · subst e
    by_cases hl : i < iv.length
    · rw [List.getElem?_set_self hl] at hj
      cases hj
      exact ⟨h1, h2⟩
    · rw [List.getElem?_eq_none (by simpa using hl)] at hj
      cases hj
  · rw [List.getElem?_set_ne e, ← ja_o_eq] at hj
    exact hs j a b hj
theorem ja_cmp_ok {env : Nat → Int32} {c : ClassFile.Cond} {iv : ja_I} {x y : Value} {l : List (ja_I × Bool)} (hs : ja_sat env iv) (hj : ja_cmp c iv x y = some l) : ∃ a b, ja_S env x = .int a ∧ ja_S env y = .int b ∧ ∃ q ∈ l, ja_sat env q.1 ∧ j_cond c a b = q.2 := by
  unfold ja_cmp at hj
  split at hj
  · cases hj
    exact ⟨_, _, rfl, rfl, _, List.mem_singleton.mpr rfl, hs, rfl⟩
  · rename_i i b
    split at hj
    · rename_i lo hi hi0
      cases hj
      obtain ⟨e1, e2⟩ := hs _ _ _ hi0
      obtain ⟨q, q1, q2, q3, q4⟩ := ja_cut_ok (c := c) (b := b) e1 e2
      exact ⟨_, _, rfl, rfl, _, List.mem_map.mpr ⟨q, List.mem_filter.mpr ⟨q1, decide_eq_true (Int.le_trans q2 q3)⟩, rfl⟩, ja_sat_s hs q2 q3, q4⟩
    · cases hj
  · rename_i a i
    split at hj
    · rename_i lo hi hi0
      cases hj
      obtain ⟨e1, e2⟩ := hs _ _ _ hi0
      obtain ⟨q, q1, q2, q3, q4⟩ := ja_cut_ok (c := ja_flip c) (b := a) e1 e2
      exact ⟨_, _, rfl, rfl, _, List.mem_map.mpr ⟨q, List.mem_filter.mpr ⟨q1, decide_eq_true (Int.le_trans q2 q3)⟩, rfl⟩, ja_sat_s hs q2 q3, (ja_flip_ok c _ _).trans q4⟩
    · cases hj
  · cases hj
/-- where a switch on an unknown goes -/
def ja_sw (pc : Nat) (dflt lo hi : Int) (offs : Array Int) (a b : Int) : List (Int × Int × Nat) :=
  ((a, min b (lo - 1), (j_tgt pc dflt).getD 0) :: (max a (hi + 1), b, (j_tgt pc dflt).getD 0) :: (List.range offs.size).map fun (k : Nat) => (max a (lo + (k : Int)), min b (lo + (k : Int)), (j_tgt pc (offs.getD k 0)).getD 0)).filter fun q => decide (q.1 ≤ q.2.1)
theorem ja_sw_ok {pc : Nat} {dflt lo hi : Int} {offs : Array Int} {a b : Int} {x : Int32} {r : List Value} (h1 : a ≤ x.toInt) (h2 : x.toInt ≤ b) (hn : hi < lo + offs.size) (hd : (j_tgt pc dflt).isSome = true) (ha : ∀ k < offs.size, (j_tgt pc (offs.getD k 0)).isSome = true) : ∃ q ∈ ja_sw pc dflt lo hi offs a b, q.1 ≤ x.toInt ∧ x.toInt ≤ q.2.1 ∧ j_br (.tableswitch dflt lo hi offs) pc (.int x :: r) = some (q.2.2, r) := by
  obtain ⟨td, htd⟩ := Option.isSome_iff_exists.mp hd
  unfold ja_sw
  by_cases c1 : x.toInt < lo
  · refine ⟨(a, min b (lo - 1), (j_tgt pc dflt).getD 0), List.mem_filter.mpr ⟨by simp, decide_eq_true (by simp only; omega)⟩, h1, by simp only; omega, ?_⟩
    simp only [j_br]
    rw [if_pos (Or.inl c1), htd]
    rfl
  · by_cases c2 : hi < x.toInt
    · refine ⟨(max a (hi + 1), b, (j_tgt pc dflt).getD 0), List.mem_filter.mpr ⟨by simp, decide_eq_true (by simp only; omega)⟩, by simp only; omega, h2, ?_⟩
      simp only [j_br]
      rw [if_pos (Or.inr c2), htd]
      rfl
    · have hk : (x.toInt - lo).toNat < offs.size := by omega
      have hx : lo + ((x.toInt - lo).toNat : Int) = x.toInt := by omega
      obtain ⟨t, ht⟩ := Option.isSome_iff_exists.mp (ha _ hk)
      refine ⟨(max a (lo + ((x.toInt - lo).toNat : Int)), min b (lo + ((x.toInt - lo).toNat : Int)), (j_tgt pc (offs.getD (x.toInt - lo).toNat 0)).getD 0), List.mem_filter.mpr ⟨List.mem_cons_of_mem _ (List.mem_cons_of_mem _ (List.mem_map.mpr ⟨_, List.mem_range.mpr hk, rfl⟩)), decide_eq_true (by simp only; omega)⟩, by simp only; omega, by simp only; omega, ?_⟩
      have hg : offs[(x.toInt - lo).toNat]? = some (offs.getD (x.toInt - lo).toNat 0) := by
        rw [Array.getElem?_eq_getElem hk]
        simp [Array.getD, hk]
      simp only [j_br]
      rw [if_neg (by omega), hg]
      simp only [ht, Option.map_some, Option.getD_some]
noncomputable def ja_br (ins : Instr) (pc : Nat) (st : List Value) (iv : ja_I) : Option (List (ja_I × Nat × List Value)) := match ins, st with
  | .goto off, r => (j_tgt pc off).map fun t => [(iv, t, r)]
  | .ifCond c off, x :: r => match ja_cmp c iv x (.int 0), j_tgt pc off with
    | some l, some t => some (l.map fun q => (q.1, cond q.2 t (pc + 3), r))
    | _, _ => none
  | .if_icmp c off, y :: x :: r => match ja_cmp c iv x y, j_tgt pc off with
    | some l, some t => some (l.map fun q => (q.1, cond q.2 t (pc + 3), r))
    | _, _ => none
  | .tableswitch dflt lo hi offs, .retAddr i :: r => match ja_o iv i with
    | some (a, b) => bif decide (hi < lo + offs.size) && ((j_tgt pc dflt).isSome && (List.range offs.size).all fun k => (j_tgt pc (offs.getD k 0)).isSome) then some ((ja_sw pc dflt lo hi offs a b).map fun q => (ja_s (q.1, q.2.1) iv i, q.2.2, r)) else none
    | none => none
  | ins, st => (j_br ins pc st).map fun q => [(iv, q.1, q.2)]
theorem ja_br_ok {env : Nat → Int32} {ins : Instr} {pc : Nat} {st : List Value} {iv : ja_I} {l : List (ja_I × Nat × List Value)} (hs : ja_sat env iv) (hj : ja_br ins pc st iv = some l) : ∃ q ∈ l, ja_sat env q.1 ∧ j_br ins pc (st.map (ja_S env)) = some (q.2.1, q.2.2.map (ja_S env)) := by
  unfold ja_br at hj
  split at hj
  · rename_i off
    obtain ⟨t, ht, he⟩ := Option.map_eq_some_iff.mp hj
    cases he
    refine ⟨_, List.mem_singleton.mpr rfl, hs, ?_⟩
    simp only [j_br, ht, Option.map_some]
  · rename_i c off x r
    split at hj
    · rename_i l' t hl ht
      cases hj
      obtain ⟨a, b, e1, e2, q, q1, q2, q3⟩ := ja_cmp_ok hs hl
      cases e2
      refine ⟨_, List.mem_map.mpr ⟨q, q1, rfl⟩, q2, ?_⟩
      simp only [List.map_cons, e1, j_br, ht, Option.map_some]
      rw [q3]
      cases q.2 <;> rfl
    · cases hj
  · rename_i c off y x r
    split at hj
    · rename_i l' t hl ht
      cases hj
      obtain ⟨a, b, e1, e2, q, q1, q2, q3⟩ := ja_cmp_ok hs hl
      refine ⟨_, List.mem_map.mpr ⟨q, q1, rfl⟩, q2, ?_⟩
      simp only [List.map_cons, e1, e2, j_br, ht, Option.map_some]
      rw [q3]
      cases q.2 <;> rfl
    · cases hj
  · rename_i dflt lo hi offs i r
    split at hj
    · rename_i a b hab
      obtain ⟨e1, e2⟩ := hs _ _ _ hab
      cases hb : decide (hi < lo + offs.size) && ((j_tgt pc dflt).isSome && (List.range offs.size).all fun k => (j_tgt pc (offs.getD k 0)).isSome) with
      | false => rw [hb] at hj; cases hj
      | true =>
        rw [hb] at hj
        cases hj
        obtain ⟨b1, b2⟩ := Bool.and_eq_true_iff.mp hb
        obtain ⟨b2, b3⟩ := Bool.and_eq_true_iff.mp b2
        obtain ⟨q, q1, q2, q3, q4⟩ := ja_sw_ok (r := r.map (ja_S env)) e1 e2 (of_decide_eq_true b1) b2 (fun k hk => List.all_eq_true.mp b3 k (List.mem_range.mpr hk))
        exact ⟨_, List.mem_map.mpr ⟨q, q1, rfl⟩, ja_sat_s hs q2 q3, q4⟩
    · cases hj
  · obtain ⟨q, hq, he⟩ := Option.map_eq_some_iff.mp hj
    cases he
    refine ⟨_, List.mem_singleton.mpr rfl, hs, ?_⟩
    obtain ⟨t, stJ⟩ := q
    unfold j_br at hq
    split at hq
    · obtain ⟨t', ht, he⟩ := Option.map_eq_some_iff.mp hq
      cases he
      simp only [j_br, ht, Option.map_some]
    · obtain ⟨t', ht, he⟩ := Option.map_eq_some_iff.mp hq
      cases he
      simp only [List.map_cons, ja_S, j_br, ht, Option.map_some]
    · obtain ⟨t', ht, he⟩ := Option.map_eq_some_iff.mp hq
      cases he
      simp only [List.map_cons, ja_S, j_br, ht, Option.map_some]
    · rename_i dflt lo hi offs x r
      split at hq
      · rename_i hc
        obtain ⟨t', ht, he⟩ := Option.map_eq_some_iff.mp hq
        cases he
        simp only [List.map_cons, ja_S, j_br, ht, Option.map_some]
        rw [if_pos hc]
      · rename_i hc
        split at hq
        · rename_i off ho
          obtain ⟨t', ht, he⟩ := Option.map_eq_some_iff.mp hq
          cases he
          simp only [List.map_cons, ja_S, j_br]
          rw [if_neg hc]
          simp only [ho, ht, Option.map_some]
        · cases hq
    · rename_i dflt ps x r
      split at hq
      · rename_i hc
        obtain ⟨t', ht, he⟩ := Option.map_eq_some_iff.mp hq
        cases he
        simp only [List.map_cons, ja_S, j_br]
        rw [if_pos hc]
        simp only [ht, Option.map_some]
      · cases hq
    · cases hq
/-! the run -/
noncomputable def ja_one (fl : Option j_F) (ct : Option Value) (nL pc : Nat) (ins : Instr) (lv : J_L) (st : List Value) (A : ja_H) : Option (Nat × J_L × List Value × ja_H) := match j_kd ins with
  | 0 => (ja_stk ins st).map fun stJ => (pc + j_ln ins, lv, stJ, A)
  | 1 => (ja_lod ins lv st).map fun stJ => (pc + j_ln ins, lv, stJ, A)
  | 2 => (ja_sto ins nL lv st).map fun q => (pc + j_ln ins, q.1, q.2, A)
  | 3 => (j_inc ins nL lv).map fun lv' => (pc + j_ln ins, lv', st, A)
  | 5 => (ja_ald ins A st).map fun stJ => (pc + j_ln ins, lv, stJ, A)
  | 6 => (ja_ast ins A st).map fun q => (pc + j_ln ins, lv, q.1, q.2)
  | 7 => match ins with
    | .getfield _ => (ja_get fl A st).map fun stJ => (pc + j_ln ins, lv, stJ, A)
    | .putfield _ => (ja_put fl A st).map fun q => (pc + j_ln ins, lv, q.1, q.2)
    | _ => none
  | 8 => (j_ldk ins (fun _ => ct) st).map fun stJ => (pc + j_ln ins, lv, stJ, A)
  | _ => none
/-- an entry of the table says what the program says -/
def ja_e (P : j_P) (mi pc : Nat) (e : ja_E) : Bool :=
  decide (j_code P mi pc = some e.1) && (match e.2.1, e.1 with
    | some f, .getfield i => decide (j_fld P mi i = some f)
    | some f, .putfield i => decide (j_fld P mi i = some f)
    | _, _ => true) && (match e.2.2.1 with
    | some q => decide (j_inv P mi e.1 = some q)
    | none => true) && (match e.2.2.2, e.1 with
    | some v, .ldc i => decide (j_ldc P mi i = some v)
    | some v, .ldc_w i => decide (j_ldc P mi i = some v)
    | some v, .ldc2_w i => decide (j_ldc P mi i = some v)
    | _, _ => true)
def ja_Co (P : j_P) (mi : Nat) (C : ja_C) : Prop := ∀ pc e, ja_n2 C pc = some e → ja_e P mi pc e = true
theorem ja_one_ok {P : j_P} {env : Nat → Int32} {mi pc nL : Nat} {isI : Bool} {ins : Instr} {fl : Option j_F} {cl : Option (Nat × Nat)} {ct : Option Value} {lv lv' : J_L} {st stJ : List Value} {A A' : ja_H} {h : J_H} {pcJ : Nat} (he : ja_e P mi pc (ins, fl, cl, ct) = true) (hr : ja_rel env A h) (hj : ja_one fl ct nL pc ins lv st A = some (pcJ, lv', stJ, A')) : ∃ h', j_one P mi nL isI pc ins (ja_SL env lv) (st.map (ja_S env)) h = some (pcJ, ja_SL env lv', stJ.map (ja_S env), h') ∧ ja_rel env A' h' ∧ ja_fr A h A' h' := by
  unfold ja_e at he
  obtain ⟨he, he4⟩ := Bool.and_eq_true_iff.mp he
  obtain ⟨he, he3⟩ := Bool.and_eq_true_iff.mp he
  obtain ⟨he1, he2⟩ := Bool.and_eq_true_iff.mp he
  unfold ja_one at hj
  unfold j_one
  split at hj
  · rename_i hk
    obtain ⟨x, hx, e⟩ := Option.map_eq_some_iff.mp hj
    cases e
    rw [hk]
    exact ⟨h, by simp only [ja_stk_ok hx, Option.map_some], hr, ja_fr.rf⟩
  · rename_i hk
    obtain ⟨x, hx, e⟩ := Option.map_eq_some_iff.mp hj
    cases e
    rw [hk]
    exact ⟨h, by simp only [ja_lod_ok hx, Option.map_some], hr, ja_fr.rf⟩
  · rename_i hk
    obtain ⟨x, hx, e⟩ := Option.map_eq_some_iff.mp hj
    cases e
    rw [hk]
    exact ⟨h, by simp only [ja_sto_ok hx, Option.map_some], hr, ja_fr.rf⟩
  · rename_i hk
    obtain ⟨x, hx, e⟩ := Option.map_eq_some_iff.mp hj
    cases e
    rw [hk]
    exact ⟨h, by simp only [ja_inc_ok hx, Option.map_some], hr, ja_fr.rf⟩
  · rename_i hk
    obtain ⟨x, hx, e⟩ := Option.map_eq_some_iff.mp hj
    cases e
    rw [hk]
    exact ⟨h, by simp only [ja_ald_ok hr hx, Option.map_some], hr, ja_fr.rf⟩
  · rename_i hk
    obtain ⟨x, hx, e⟩ := Option.map_eq_some_iff.mp hj
    cases e
    rw [hk]
    obtain ⟨h', a1, a2, a3⟩ := ja_ast_ok hr hx
    exact ⟨h', by simp only [a1, Option.map_some], a2, a3⟩
  · rename_i hk
    split at hj
    · obtain ⟨x, hx, e⟩ := Option.map_eq_some_iff.mp hj
      cases e
      cases fl with
      | none => cases hx
      | some f =>
        have hf : j_fld P mi _ = some f := of_decide_eq_true he2
        refine ⟨h, ?_, hr, ja_fr.rf⟩
        show (j_obj P mi isI (.getfield _) _ h).map _ = _
        simp only [j_obj, hf, ja_get_ok hr hx, Option.map_some]
    · obtain ⟨x, hx, e⟩ := Option.map_eq_some_iff.mp hj
      cases e
      cases fl with
      | none => cases hx
      | some f =>
        have hf : j_fld P mi _ = some f := of_decide_eq_true he2
        obtain ⟨h', a1, a2, a3⟩ := ja_put_ok (isI := isI) hr hx
        refine ⟨h', ?_, a2, a3⟩
        show (j_obj P mi isI (.putfield _) _ h).map _ = _
        simp only [j_obj, hf, a1, Option.map_some]
    · cases hj
  · rename_i hk
    obtain ⟨x, hx, e⟩ := Option.map_eq_some_iff.mp hj
    cases e
    rw [hk]
    have hx' := ja_ldk_ok (env := env) hx
    refine ⟨h, ?_, hr, ja_fr.rf⟩
    have e2 : j_ldk ins (j_ldc P mi) (st.map (ja_S env)) = j_ldk ins (fun _ => ct) (st.map (ja_S env)) := by
      cases ct with
      | none =>
        unfold j_ldk at hx
        split at hx <;> first | (simp only at hx; cases hx; done) | cases hx
      | some v =>
        cases ins <;> first | rfl | (have hf := of_decide_eq_true he4; simp only [j_ldk, hf])
    simp only [e2, hx', Option.map_some]
  · cases hj
/-- a call's arguments and what stays below -/
noncomputable def ja_rcv (md ci : Nat) (A : ja_H) (As : List Value) : Bool := match md, As with
  | 2, _ => true
  | 6, _ => true
  | 3, .ref k :: _ => match ja_at A k with
    | some (_, .inl (c, _)) => decide (c = ci)
    | _ => false
  | _, .ref _ :: _ => true
  | _, _ => false
noncomputable def ja_spl (md np ci nL : Nat) (A : ja_H) (st : List Value) : Option (List Value × List Value) :=
  bif Nat.ble (j_nar md np) st.length && (Nat.ble ((st.drop (j_nar md np)).map fun v => v.category).sum 8 && (Nat.ble (lg_sl (st.take (j_nar md np)).reverse).length nL && ja_rcv md ci A (st.take (j_nar md np)).reverse)) then
    some ((st.take (j_nar md np)).reverse, st.drop (j_nar md np)) else none
theorem ja_lgsl (env : Nat → Int32) : ∀ As : List Value, (lg_sl (As.map (ja_S env))).length = (lg_sl As).length
  | [] => rfl
  | v :: r => by
    have h := ja_lgsl env r
    simp only [lg_sl, List.map_cons, List.flatMap_cons, List.length_append, ja_cat] at h ⊢
    rw [h]
    by_cases hc : v.category = 2 <;> simp [hc]
theorem ja_args (env : Nat → Int32) : ∀ (i : Nat) (As : List Value), lv_args i (As.map (ja_S env)) = ja_SL env (lv_args i As)
  | _, [] => rfl
  | i, v :: r => by
    simp only [List.map_cons, lv_args, ja_cat, ja_SL]
    rw [ja_args env _ r]
    rfl
theorem ja_rcv_ok {env : Nat → Int32} {md ci : Nat} {A : ja_H} {h : J_H} {As : List Value} (hr : ja_rel env A h) (hj : ja_rcv md ci A As = true) : j_rcv md ci h (As.map (ja_S env)) = true := by
  unfold ja_rcv at hj
  split at hj
  · rfl
  · rfl
  · rename_i k r
    split at hj
    · rename_i n c fs hk
      have e := (hr _ _ _ hk).1
      show j_rcv 3 ci h (.ref k :: r.map (ja_S env)) = true
      simp only [j_rcv, e, ja_SC]
      exact hj
    · cases hj
  · rename_i n1 n2 n3
    simp only [List.map_cons, ja_S]
    unfold j_rcv
    split
    · rfl
    · rfl
    · first | exact (n3 rfl).elim | (exfalso; simp_all)
    · rfl
    · first | rfl | (exfalso; simp_all)
  · cases hj
theorem ja_spl_ok {env : Nat → Int32} {md : Nat} {N : j_M} {A : ja_H} {h : J_H} {st As rest : List Value} (hr : ja_rel env A h) (hj : ja_spl md (j_np N) (j_ci N) (j_nL N) A st = some (As, rest)) : j_spl md N h (st.map (ja_S env)) = some (As.map (ja_S env), rest.map (ja_S env)) := by
  unfold ja_spl at hj
  cases hb : Nat.ble (j_nar md (j_np N)) st.length && (Nat.ble ((st.drop (j_nar md (j_np N))).map fun v => v.category).sum 8 && (Nat.ble (lg_sl (st.take (j_nar md (j_np N))).reverse).length (j_nL N) && ja_rcv md (j_ci N) A (st.take (j_nar md (j_np N))).reverse)) with
  | false => rw [hb] at hj; cases hj
  | true =>
    rw [hb] at hj
    cases hj
    obtain ⟨b1, b2⟩ := Bool.and_eq_true_iff.mp hb
    obtain ⟨b2, b3⟩ := Bool.and_eq_true_iff.mp b2
    obtain ⟨b3, b4⟩ := Bool.and_eq_true_iff.mp b3
    unfold j_spl
    rw [if_pos ⟨by rw [List.length_map]; exact Nat.le_of_ble_eq_true b1, by rw [← List.map_drop, ja_cats]; exact Nat.le_of_ble_eq_true b2, by rw [← List.map_take, ← List.map_reverse, ja_lgsl]; exact Nat.le_of_ble_eq_true b3, by rw [← List.map_take, ← List.map_reverse]; exact ja_rcv_ok hr b4⟩]
    rw [← List.map_take, ← List.map_reverse, ← List.map_drop]
/-- a method that is gone through in one step: it copies a row of 602 ints onto another -/
noncomputable def ja_cp (A : ja_H) (As : List Value) : Option ja_H := match As with
  | [.ref a, .ref b] => match ja_at A a, ja_at A b with
    | some (602, .inr (.inl (0, la))), some (602, .inr (.inl (0, _))) => bif Nat.beq a b then none else some (ja_up A b (.inr (.inl (0, la))))
    | _, _ => none
  | _ => none
abbrev ja_F : Type := Nat → ja_M → ja_C → Nat → J_L → List Value → ja_H → ja_I → (ja_I → Option Value → ja_H → Bool) → Bool
noncomputable def ja_go (T : ja_T) (cp : Nat) (ih : ja_F) : ja_F := fun d M C pc lv st A iv K => match ja_n2 C pc with
  | none => false
  | some (ins, fl, cl, ct) =>
    bif Nat.beq (j_kd ins) 9 then (match ja_ret M.2.1 ins st with
      | some r => K iv r A
      | none => false)
    else bif Nat.beq (j_kd ins) 10 then (match cl with
      | none => false
      | some (md, mj) =>
        bif Nat.beq md 0 then false else bif Nat.beq md 1 then (match ja_acp A st with
          | some (stJ, A') => ih d M C (pc + 3) lv stJ A' iv K
          | none => false)
        else bif Nat.beq md 7 then (match j_mm true st with
          | some stJ => ih d M C (pc + 3) lv stJ A iv K
          | none => false)
        else bif Nat.beq md 8 then (match j_mm false st with
          | some stJ => ih d M C (pc + 3) lv stJ A iv K
          | none => false)
        else match d with
          | 0 => false
          | d' + 1 => match ja_n2 T mj with
            | none => false
            | some (N, C') => match ja_spl md N.2.2.1 N.2.2.2 N.1 A st with
              | none => false
              | some (As, rest) => bif Nat.beq mj cp then (match ja_cp A As with
                  | some A' => ih (d' + 1) M C (pc + 3) lv rest A' iv K
                  | none => false)
                else ih d' N C' 0 (lv_args 0 As) [] A iv fun iv' r A' => ih (d' + 1) M C (pc + 3) lv (r.toList ++ rest) A' iv' K)
    else bif Nat.beq (j_kd ins) 4 then (match ja_br ins pc st iv with
      | none => false
      | some l => l.all fun q => ih d M C q.2.1 lv q.2.2 A q.1 K)
    else match ja_one fl ct M.1 pc ins lv st A with
      | some (pcJ, lv', stJ, A') => ih d M C pcJ lv' stJ A' iv K
      | none => false
noncomputable def ja_run (T : ja_T) (cp : Nat) (f : Nat) : ja_F := Nat.rec (motive := fun _ => ja_F) (fun _ _ _ _ _ _ _ _ _ => false) (fun _ ih => ja_go T cp ih) f
/-! it is sound -/
def ja_Q (env : Nat → Int32) (A : ja_H) (h : J_H) (K : ja_I → Option Value → ja_H → Bool) : Option Value → J_H → Prop := fun r' h' => ∃ (iv' : ja_I) (r : Option Value) (A' : ja_H), K iv' r A' = true ∧ ja_sat env iv' ∧ ja_rel env A' h' ∧ ja_fr A h A' h' ∧ r' = r.map (ja_S env)
theorem ja_Q.sh {env : Nat → Int32} {A A1 : ja_H} {h h1 : J_H} {K : ja_I → Option Value → ja_H → Bool} (a : ja_fr A h A1 h1) : ∀ r h', ja_Q env A1 h1 K r h' → ja_Q env A h K r h' := by
  intro r h' ⟨iv', r0, A', b1, b2, b3, b4, b5⟩
  exact ⟨iv', r0, A', b1, b2, b3, a.tr b4, b5⟩
theorem ja_e_code {P : j_P} {mi pc : Nat} {e : ja_E} (he : ja_e P mi pc e = true) : j_code P mi pc = some e.1 := by
  unfold ja_e at he
  obtain ⟨he, -⟩ := Bool.and_eq_true_iff.mp he
  obtain ⟨he, -⟩ := Bool.and_eq_true_iff.mp he
  obtain ⟨he, -⟩ := Bool.and_eq_true_iff.mp he
  exact of_decide_eq_true he
theorem ja_e_inv {P : j_P} {mi pc : Nat} {ins : Instr} {fl : Option j_F} {q : Nat × Nat} {ct : Option Value} (he : ja_e P mi pc (ins, fl, some q, ct) = true) : j_inv P mi ins = some q := by
  unfold ja_e at he
  obtain ⟨he, -⟩ := Bool.and_eq_true_iff.mp he
  obtain ⟨-, he⟩ := Bool.and_eq_true_iff.mp he
  exact of_decide_eq_true he
theorem ja_ne {a b : Nat} (h : Nat.beq a b = false) : a ≠ b := fun e => by
  subst e
  rw [Nat.beq_refl] at h
  cases h
def ja_CP (P : j_P) (cp : Nat) : Prop := ∀ (d : Nat) (h : J_H) (a b : Nat) (la lb : List Int32), h[a]? = some (.inr (.inl (0, la))) → h[b]? = some (.inr (.inl (0, lb))) → la.length = 602 → lb.length = 602 → a ≠ b → j_W P d cp 0 (lv_args 0 [.ref a, .ref b]) [] h (fun r h' => r = none ∧ h' = h.set b (.inr (.inl (0, la))))
theorem ja_cp_ok {P : j_P} {cp d : Nat} (hcp : ja_CP P cp) {env : Nat → Int32} {A A' : ja_H} {h : J_H} {As : List Value} (hr : ja_rel env A h) (hj : ja_cp A As = some A') : j_W P d cp 0 (lv_args 0 (As.map (ja_S env))) [] h (fun r h' => r = none ∧ ja_rel env A' h' ∧ ja_fr A h A' h') := by
  unfold ja_cp at hj
  split at hj
  · rename_i a b
    split at hj
    · rename_i la lb ha hb
      obtain ⟨e0, s0⟩ := hr _ _ _ ha
      obtain ⟨e1, s1⟩ := hr _ _ _ hb
      cases hab : Nat.beq a b with
      | true => rw [hab] at hj; cases hj
      | false =>
        rw [hab] at hj
        cases hj
        refine j_W.mono (hcp d h a b la lb e0 e1 s0 s1 (ja_ne hab)) ?_
        rintro r h' ⟨rfl, rfl⟩
        obtain ⟨r1, r2⟩ := ja_set (c' := .inr (.inl (0, la))) hr hb s0
        exact ⟨rfl, r1, r2⟩
    · cases hj
  · cases hj
theorem ja_ok {P : j_P} {T : ja_T} {cp : Nat} (hT : ∀ mj N C', ja_n2 T mj = some (N, C') → ∃ M, j_meth P mj = some M ∧ N = ja_ab M ∧ ja_Co P mj C') (hcp : ja_CP P cp) (env : Nat → Int32) :
    ∀ (f d mi : Nat) (M : j_M) (C : ja_C) (pc : Nat) (lv : J_L) (st : List Value) (A : ja_H) (iv : ja_I) (K : ja_I → Option Value → ja_H → Bool) (h : J_H), j_meth P mi = some M → ja_Co P mi C → ja_run T cp f d (ja_ab M) C pc lv st A iv K = true → ja_sat env iv → ja_rel env A h → j_W P d mi pc (ja_SL env lv) (st.map (ja_S env)) h (ja_Q env A h K) := by
  intro f
  induction f with
  | zero => intro d mi M C pc lv st A iv K h hM hC hj; cases hj
  | succ f ih =>
    intro d mi M C pc lv st A iv K h hM hC hj hs hr
    have hj : ja_go T cp (ja_run T cp f) d (ja_ab M) C pc lv st A iv K = true := hj
    unfold ja_go at hj
    split at hj
    · cases hj
    · rename_i ins fl cl ct hn
      have he := hC _ _ hn
      have hc := ja_e_code he
      cases k9 : Nat.beq (j_kd ins) 9 with
      | true =>
        rw [k9, cond_true] at hj
        split at hj
        · rename_i r hrt
          exact j_W.ret hM hc (Nat.eq_of_beq_eq_true k9) (ja_ret_ok hrt) ⟨iv, r, A, hj, hs, hr, ja_fr.rf, rfl⟩
        · cases hj
      | false =>
        rw [k9, cond_false] at hj
        cases k10 : Nat.beq (j_kd ins) 10 with
        | true =>
          rw [k10, cond_true] at hj
          have hk := Nat.eq_of_beq_eq_true k10
          split at hj
          · cases hj
          · rename_i md mj
            have hi := ja_e_inv he
            cases m0 : Nat.beq md 0 with
            | true => rw [m0, cond_true] at hj; cases hj
            | false =>
              rw [m0, cond_false] at hj
              cases m1 : Nat.beq md 1 with
              | true =>
                rw [m1, cond_true] at hj
                have e1 := Nat.eq_of_beq_eq_true m1
                subst e1
                split at hj
                · rename_i stJ A' ha
                  obtain ⟨h', a1, a2, a3⟩ := ja_acp_ok (env := env) hr ha
                  exact j_W.acp hM hc hk hi a1 ((ih _ _ _ _ _ _ _ _ _ _ _ hM hC hj hs a2).mono (ja_Q.sh a3))
                · cases hj
              | false =>
                rw [m1, cond_false] at hj
                cases m7 : Nat.beq md 7 with
                | true =>
                  rw [m7, cond_true] at hj
                  have e1 := Nat.eq_of_beq_eq_true m7
                  subst e1
                  split at hj
                  · rename_i stJ ha
                    exact j_W.max hM hc hk hi (ja_mm_ok ha) (ih _ _ _ _ _ _ _ _ _ _ _ hM hC hj hs hr)
                  · cases hj
                | false =>
                  rw [m7, cond_false] at hj
                  cases m8 : Nat.beq md 8 with
                  | true =>
                    rw [m8, cond_true] at hj
                    have e1 := Nat.eq_of_beq_eq_true m8
                    subst e1
                    split at hj
                    · rename_i stJ ha
                      exact j_W.min hM hc hk hi (ja_mm_ok ha) (ih _ _ _ _ _ _ _ _ _ _ _ hM hC hj hs hr)
                    · cases hj
                  | false =>
                    rw [m8, cond_false] at hj
                    have hmd : md ≠ 0 ∧ md ≠ 1 ∧ md ≠ 7 ∧ md ≠ 8 := ⟨ja_ne m0, ja_ne m1, ja_ne m7, ja_ne m8⟩
                    split at hj
                    · cases hj
                    · rename_i d'
                      split at hj
                      · cases hj
                      · rename_i N C' hN
                        obtain ⟨N, hN1, rfl, hN2⟩ := hT _ _ _ hN
                        split at hj
                        · cases hj
                        · rename_i As rest hsp
                          have hsp' := ja_spl_ok (N := N) hr hsp
                          cases hcb : Nat.beq mj cp with
                          | true =>
                            rw [hcb, cond_true] at hj
                            have e1 := Nat.eq_of_beq_eq_true hcb
                            subst e1
                            split at hj
                            · rename_i A' hA
                              refine j_W.call hM hc hk hi hmd hN1 hsp' (ja_cp_ok hcp hr hA) ?_
                              rintro r h' ⟨rfl, a2, a3⟩
                              exact (ih _ _ _ _ _ _ _ _ _ _ _ hM hC hj hs a2).mono (ja_Q.sh a3)
                            · cases hj
                          | false =>
                            rw [hcb, cond_false] at hj
                            have hcal := ih _ _ _ _ _ _ _ _ _ _ _ hN1 hN2 hj hs hr
                            rw [← ja_args] at hcal
                            refine j_W.call hM hc hk hi hmd hN1 hsp' hcal ?_
                            rintro r' h' ⟨iv', r, A', b1, b2, b3, b4, rfl⟩
                            have w := ih _ _ _ _ _ _ _ _ _ _ _ hM hC b1 b2 b3
                            rw [show (r.toList ++ rest).map (ja_S env) = (r.map (ja_S env)).toList ++ rest.map (ja_S env) by cases r <;> simp] at w
                            exact w.mono (ja_Q.sh b4)
        | false =>
          rw [k10, cond_false] at hj
          have hkk : j_kd ins ≠ 9 ∧ j_kd ins ≠ 10 := ⟨ja_ne k9, ja_ne k10⟩
          cases k4 : Nat.beq (j_kd ins) 4 with
          | true =>
            rw [k4, cond_true] at hj
            have hk := Nat.eq_of_beq_eq_true k4
            split at hj
            · cases hj
            · rename_i l hl
              obtain ⟨q, q1, q2, q3⟩ := ja_br_ok hs hl
              have hq := List.all_eq_true.mp hj q q1
              refine j_W.one hM hc hkk (pcJ := q.2.1) (lv' := ja_SL env lv) (stJ := q.2.2.map (ja_S env)) (h' := h) ?_ (ih _ _ _ _ _ _ _ _ _ _ _ hM hC hq q2 hr)
              unfold j_one
              rw [hk]
              simp only [q3, Option.map_some]
          | false =>
            rw [k4, cond_false] at hj
            split at hj
            · rename_i pcJ lv' stJ A' ho
              obtain ⟨h', a1, a2, a3⟩ := ja_one_ok (env := env) (isI := j_in M) he hr ho
              exact j_W.one hM hc hkk a1 ((ih _ _ _ _ _ _ _ _ _ _ _ hM hC hj hs a2).mono (ja_Q.sh a3))
            · cases hj
/-! a table is checked -/
def ja_chk {α : Type} (p : Nat → α → Bool) : Nat → List (Option α) → Bool
  | _, [] => true
  | i, none :: r => ja_chk p (i + 1) r
  | i, some a :: r => p i a && ja_chk p (i + 1) r
theorem ja_chk_ok {α : Type} {p : Nat → α → Bool} : ∀ {l : List (Option α)} {i n : Nat} {a : α}, ja_chk p i l = true → ja_nth l n = some a → p (i + n) a = true
  | [], i, n, a, h, hn => by simp [ja_nth] at hn
  | none :: r, i, 0, a, h, hn => by cases hn
  | none :: r, i, n + 1, a, h, hn => by
    have := ja_chk_ok (l := r) (i := i + 1) (n := n) (a := a) h hn
    rwa [show i + 1 + n = i + (n + 1) by omega] at this
  | some b :: r, i, 0, a, h, hn => by
    cases hn
    exact (Bool.and_eq_true_iff.mp h).1
  | some b :: r, i, n + 1, a, h, hn => by
    have := ja_chk_ok (l := r) (i := i + 1) (n := n) (a := a) (Bool.and_eq_true_iff.mp h).2 hn
    rwa [show i + 1 + n = i + (n + 1) by omega] at this
def ja_ch2 {α : Type} (p : Nat → α → Bool) (L : List (Option (List (Option α)))) : Bool := ja_chk (fun i l => ja_chk p (16 * i) l) 0 L
theorem ja_ch2_ok {α : Type} {p : Nat → α → Bool} {L : List (Option (List (Option α)))} {n : Nat} {a : α} (h : ja_ch2 p L = true) (hn : ja_n2 L n = some a) : p n a = true := by
  unfold ja_n2 at hn
  split at hn
  · rename_i l hl
    have h1 := ja_chk_ok h hl
    have h2 := ja_chk_ok h1 hn
    rw [Nat.zero_add] at h2
    have e : 16 * Nat.div n 16 + Nat.mod n 16 = n := Nat.div_add_mod n 16
    rwa [e] at h2
  · cases hn
def ja_mok (P : j_P) (mi : Nat) (q : ja_M × ja_C) : Bool := decide ((j_meth P mi).map ja_ab = some q.1) && ja_ch2 (ja_e P mi) q.2
theorem ja_T_ok {P : j_P} {T : ja_T} (h : ja_ch2 (ja_mok P) T = true) : ∀ mj N C', ja_n2 T mj = some (N, C') → ∃ M, j_meth P mj = some M ∧ N = ja_ab M ∧ ja_Co P mj C' := by
  intro mj N C' hN
  have h1 := ja_ch2_ok h hN
  obtain ⟨a, b⟩ := Bool.and_eq_true_iff.mp h1
  obtain ⟨M, m1, m2⟩ := Option.map_eq_some_iff.mp (of_decide_eq_true a)
  exact ⟨M, m1, m2.symm, fun pc e he => ja_ch2_ok b he⟩
