abbrev j_G : Type := ClassId × ClassId × ClassId × ClassId
/-- a cell of J as the kit's world has it; g: the classes of byte, int, long and reference arrays -/
def j_e (g : j_G) (b : Nat) : J_C → va_E
  | .inl (ci, fs) => .inr (ci, j_st b fs)
  | .inr (.inl (k, l)) => .inl (if k = 0 then g.2.1 else g.1, l.length, .inl fun j => l.getD j 0)
  | .inr (.inr (.inl l)) => .inl (g.2.2.1, l.length, .inr (.inl fun j => l.getD j 0))
  | .inr (.inr (.inr l)) => .inl (g.2.2.2, l.length, .inr (.inr (.inr (.inr fun j => (l.getD j none).map fun q => b + q))))
def j_ws (g : j_G) (b : Nat) (h : J_H) : va_W := h.mapIdx fun k c => (b + k, j_e g b c)
theorem j_ws_at {g : j_G} {b : Nat} {h : J_H} {k : Nat} {c : J_C} (hk : h[k]? = some c) : (j_ws g b h)[k]? = some (b + k, j_e g b c) := by
  simp [j_ws, List.getElem?_mapIdx, hk]
theorem j_ws_len (g : j_G) (b : Nat) (h : J_H) : (j_ws g b h).length = h.length := by simp [j_ws]
theorem j_ws_set (g : j_G) (b : Nat) (h : J_H) (k : Nat) (c : J_C) : (j_ws g b h).set k (b + k, j_e g b c) = j_ws g b (h.set k c) := by
  apply List.ext_getElem?
  intro i
  simp only [j_ws, List.getElem?_set, List.getElem?_mapIdx, List.length_mapIdx]
  by_cases hi : k = i
  · subst hi
    by_cases hl : k < h.length
    · simp [hl]
    · simp [hl]
  · simp [hi]
theorem j_ws_push (g : j_G) (b : Nat) (h : J_H) (c : J_C) : j_ws g b (h ++ [c]) = j_ws g b h ++ [(b + h.length, j_e g b c)] := by
  simp [j_ws, List.mapIdx_append]
theorem j_ws_mem {g : j_G} {b : Nat} {h : J_H} {k : Nat} {q : Nat × va_E} (hk : (j_ws g b h)[k]? = some q) : k < h.length ∧ q.1 = b + k := by
  have h1 : k < (j_ws g b h).length := (List.getElem?_eq_some_iff.mp hk).1
  rw [j_ws_len] at h1
  rw [j_ws, List.getElem?_mapIdx, List.getElem?_eq_getElem h1] at hk
  exact ⟨h1, by cases hk; rfl⟩
/-- the cells of J, and all behind sz -/
def j_A (b n sz : Nat) : Nat → Prop := fun q => (b ≤ q ∧ q < b + n) ∨ sz ≤ q
theorem j_ws_D {A : Nat → Prop} {g : j_G} {b n : Nat} {h : J_H} (hA : ∀ q, b ≤ q → q < b + h.length → A q) : va_D A (j_ws g b h) := by
  refine ⟨fun i j p q hp hq e => ?_, fun k q hk => ?_⟩
  · have h1 := (j_ws_mem hp).2
    have h2 := (j_ws_mem hq).2
    omega
  · have h1 := j_ws_mem hk
    rw [h1.2]
    exact hA _ (by omega) (by omega)
/-- the arrays' classes -/
def j_tys (RN : String) (g : j_G) : List (ClassId × FieldType) := [(g.1, .byte), (g.2.1, .int), (g.2.2.1, .long), (g.2.2.2, .object RN)]
theorem j_getD_set (l : List Int32) (i : Nat) (x : Int32) (hi : i < l.length) : (fun j => (l.set i x).getD j 0) = upd (fun j => l.getD j 0) i x := by
  funext j
  by_cases h : j = i
  · subst h
    simp [upd, hi]
  · have h' : ¬ i = j := fun q => h q.symm
    simp [upd, h, h', List.getElem?_set]
theorem j_getD_setL (l : List Int64) (i : Nat) (x : Int64) (hi : i < l.length) : (fun j => (l.set i x).getD j 0) = vp_updL (fun j => l.getD j 0) i x := by
  funext j
  by_cases h : j = i
  · subst h
    simp [vp_updL, hi]
  · have h' : ¬ i = j := fun q => h q.symm
    simp [vp_updL, h, h', List.getElem?_set]
theorem j_getD_setQ (b : Nat) (l : List (Option Nat)) (i k : Nat) (hi : i < l.length) : (fun j => ((l.set i (some k)).getD j none).map fun q => b + q) = va_up (fun j => (l.getD j none).map fun q => b + q) i (some (b + k)) := by
  funext j
  by_cases h : j = i
  · subst h
    simp [va_up, hi]
  · have h' : ¬ i = j := fun q => h q.symm
    simp [va_up, h, h', List.getElem?_set]
/-- what a field may hold -/
def j_fit : FieldType → Value → Bool
  | .int, .int _ => true
  | .boolean, .int x => decide (x = 0) || decide (x = 1)
  | .long, .long _ => true
  | .object _, .null => true
  | .object _, .ref _ => true
  | .array _, .null => true
  | .array _, .ref _ => true
  | _, _ => false
theorem j_fit_ok {ty : FieldType} {v : Value} (b : Nat) (h : j_fit ty v = true) : narrow ty (j_v b v) = j_v b v ∧ fits ty (j_v b v) = true := by
  unfold j_fit at h
  split at h
  · exact ⟨rfl, rfl⟩
  · rename_i x
    rcases (Bool.or_eq_true _ _).mp h with h | h
    · have := of_decide_eq_true h
      subst this
      exact ⟨(by decide : narrow .boolean (.int 0) = .int 0), (by decide : fits .boolean (.int 0) = true)⟩
    · have := of_decide_eq_true h
      subst this
      exact ⟨(by decide : narrow .boolean (.int 1) = .int 1), (by decide : fits .boolean (.int 1) = true)⟩
  all_goals first | (exact ⟨rfl, rfl⟩) | (cases h)
/-- a field: its class's number, its place, its type, 0 not final, 1 final and of the own class, 2 final elsewhere -/
abbrev j_F : Type := Nat × Nat × FieldType × Nat
def j_get (fl : Option j_F) (h : J_H) (st : List Value) : Option (List Value) := match fl, st with
  | some (ci, j, _, _), .ref k :: r => match h[k]? with
    | some (.inl (ci', fs)) => if ci' = ci then (match fs[j]? with
      | some v => some (v :: r)
      | none => none) else none
    | _ => none
  | _, _ => none
def j_put (isI : Bool) (fl : Option j_F) (h : J_H) (st : List Value) : Option (List Value × J_H) := match fl, st with
  | some (ci, j, ty, fin), v :: .ref k :: r => match h[k]? with
    | some (.inl (ci', fs)) => if ci' = ci ∧ j < fs.length ∧ j_fit ty v = true ∧ (fin = 0 ∨ (fin = 1 ∧ isI = true)) then some (r, h.set k (.inl (ci, fs.set j v))) else none
    | _ => none
  | _, _ => none
/-- what the tables say of a field's entry -/
def j_Fok (WG : List Cond) (cl : List vw_C) (own : String) (idx : Nat) (f : j_F) : Prop :=
  ∃ (C : String) (T : u_T) (N : Nat), cl[f.1]? = some (C, T, N) ∧ f.2.1 < N ∧ (∀ w ∈ u_ws C T N, w ∈ WG) ∧ Cond.fieldLink own idx (T f.2.1).1 (T f.2.1).2.1 (T f.2.1).2.2.1 ∈ WG ∧ parseFieldDescriptor (T f.2.1).2.2.1 = some f.2.2.1 ∧ (f.2.2.2 = 0 → (T f.2.1).2.2.2 = false) ∧
    (∃ ty0 : Nat → FieldType, ∀ k, k < N → parseFieldDescriptor (T k).2.2.1 = some (ty0 k)) ∧ (∀ a, a < N → ∀ b, b < N → a ≠ b → (T a).2.1 ≠ (T b).2.1) ∧ (f.2.2.2 = 1 → (T f.2.1).2.2.2 = true ∧ (T f.2.1).1 = own)
section JHEAP
variable {p : Program} {l : Launch} {e : Env} {R : Room} {s : State} {m : MethodId} {args : Array Value} {below : List Frame} {meth : Method} {c : Code} {H : Heap} {locs : List Loc} {cells slots : Nat} {Q : State → Prop}
variable {cc : ByteArray} {pc : Nat} {ls : Array Slot} {WG : List Cond} {cl : List vw_C} {D : va_G} {g : j_G} {b : Nat} {own RN : String} {A : Nat → Prop} {H0 : Heap} {tys : List (ClassId × FieldType)}
set_option maxHeartbeats 4000000 in
theorem j_get_ok (hx : p.tables.exec = Jvm.exec) (hb : c.code = cc) (hts : ∀ w ∈ WG, w.before args s = true) (hown : s.vm.findClass own = some m.cls) (hK : va_K D cl tys s) {h : J_H} (hP : va_P D cl (j_ws g b h) H)
    {idx : Nat} {fl : Option j_F} (hf : ∀ f, fl = some f → j_Fok WG cl own idx f) {st stJ : List Value} (hd : decode cc pc = .ok (.getfield idx, 3)) (hj : j_get fl h st = some stJ)
    (k : W p l e R s m args below meth c H locs cells slots Q (F0 m (pc + 3) ls (j_st b stJ))) : W p l e R s m args below meth c H locs cells slots Q (F0 m pc ls (j_st b st)) := by
  unfold j_get at hj
  split at hj
  · rename_i ci j ty fin q r
    split at hj
    · rename_i ci' fs hc
      split at hj
      · rename_i hci
        subst hci
        split at hj
        · rename_i v hv
          cases hj
          obtain ⟨C, T, N, f1, f2, f3, f4, f5, f6, f7, f8, f9⟩ := hf _ rfl
          refine va_get (D := D) (T := T) (N := N) (C := C) hx hb hts f3 hown hK hP q (j_ws_at hc) f1 j f2 (hts _ f4) (fun _ z => z) (v := j_v b v) ?_ hd k
          simp [j_st, hv]
        · cases hj
      · cases hj
    · cases hj
  · cases hj
set_option maxHeartbeats 4000000 in
theorem j_put_ok (hx : p.tables.exec = Jvm.exec) (hb : c.code = cc) (hts : ∀ w ∈ WG, w.before args s = true) (hown : s.vm.findClass own = some m.cls) (hK : va_K D cl tys s) {h : J_H} (hP : va_P D cl (j_ws g b h) H) (hD : ∀ q, b ≤ q → q < b + h.length → A q) (hS : va_S A H0 H locs)
    {idx : Nat} {fl : Option j_F} (hf : ∀ f, fl = some f → j_Fok WG cl own idx f) {isI : Bool} (hI : isI = true → meth.name = "<init>") {st stJ : List Value} {h' : J_H} (hd : decode cc pc = .ok (.putfield idx, 3)) (hj : j_put isI fl h st = some (stJ, h'))
    (k : ∀ (H1 : Heap) (locs1 : List Loc), va_P D cl (j_ws g b h') H1 → va_S A H0 H1 locs1 → h'.length = h.length → W p l e R s m args below meth c H1 locs1 cells slots Q (F0 m (pc + 3) ls (j_st b stJ))) : W p l e R s m args below meth c H locs cells slots Q (F0 m pc ls (j_st b st)) := by
  unfold j_put at hj
  split at hj
  · rename_i ci j ty fin v q r
    split at hj
    · rename_i ci' fs hc
      split at hj
      · rename_i hci
        obtain ⟨rfl, hlt, hfit, hfin⟩ := hci
        cases hj
        obtain ⟨C, T, N, f1, f2, f3, f4, f5, f6, ⟨ty0, f7⟩, f8, f9⟩ := hf _ rfl
        obtain ⟨n1, n2⟩ := j_fit_ok b hfit
        have e1 : (j_ws g b h).set q (b + q, (.inr (ci', (j_st b fs).set j (j_v b v)) : va_E)) = j_ws g b (h.set q (.inl (ci', fs.set j v))) := by
          rw [← j_ws_set]
          simp only [j_e, j_st, List.map_set]
        rcases hfin with rfl | ⟨rfl, hfin⟩
        · refine va_put (D := D) (T := T) (N := N) (C := C) hx hb hts f3 ty0 f7 f8 hown hK hP (j_ws_D (n := 0) hD) hS q (j_ws_at hc) f1 j f2 (hts _ f4) (fun _ z => z) (f6 rfl) f5 n1 n2 (by simpa [j_st] using hlt) hd (fun H1 locs1 a1 a2 a3 => k H1 locs1 ?_ a3 (by simp))
          rw [← e1]; exact a1
        · refine va_putF (D := D) (T := T) (N := N) (C := C) hx hb hts f3 ty0 f7 f8 hown hK hP (j_ws_D (n := 0) hD) hS q (j_ws_at hc) f1 j f2 (hts _ f4) (fun _ z => z) (f9 rfl).1 (hI hfin) (f9 rfl).2 f5 n1 n2 (by simpa [j_st] using hlt) hd (fun H1 locs1 a1 a2 a3 => k H1 locs1 ?_ a3 (by simp))
          rw [← e1]; exact a1
      · cases hj
    · cases hj
  · cases hj
end JHEAP
