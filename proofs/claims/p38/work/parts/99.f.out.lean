/-! the call of out: it throws in the class, and the law's own out catches it -/
abbrev lo_NS : String := "java/util/NoSuchElementException"
abbrev lo_nm : List String := ["java/lang/RuntimeException", "java/lang/Exception"]
def lo_S (n : String) : MethodName := ⟨n, "<init>", "(Ljava/lang/String;)V"⟩
def lo_B : List Cond := [.declares (lo_S "java/lang/RuntimeException"), .declares (lo_S "java/lang/Exception"), .declares (lo_S "java/lang/Throwable"), .castable lo_NS lo_NS]
abbrev lo_W : List Cond := (lo_at RX9 409 lo_NS 13 prog_22_method_4_code lo_nm).filter vx_no
def lo_G : List Cond := lo_W.filter goodWord
theorem lo_bad : ∀ w ∈ lo_W.filter (fun w => !goodWord w), w ∈ lo_B := by
  have h : (lo_W.filter (fun w => !goodWord w)).all (fun w => decide (w ∈ lo_B)) = true := by decide +kernel
  exact fun w hw => of_decide_eq_true (List.all_eq_true.mp h w hw)
theorem lo_good : ∀ w ∈ lo_G, w ∈ WG := by
  have h : lo_G.all (fun w => decide (w ∈ lw_tbl) && goodWord w) = true := by decide +kernel
  intro w hw
  obtain ⟨a, b⟩ := Bool.and_eq_true_iff.mp (List.all_eq_true.mp h w hw)
  exact List.mem_filter.mpr ⟨of_decide_eq_true a, b⟩
theorem lo_tbl : ∀ w ∈ lo_B, w ∈ lw_tbl := by
  have h : lo_B.all (fun w => decide (w ∈ lw_tbl)) = true := by decide +kernel
  exact fun w hw => of_decide_eq_true (List.all_eq_true.mp h w hw)
theorem lo_ot : ∀ w ∈ Cond.classLink RX9 405 lo_NS :: Cond.initialized lo_NS :: lo_W, vx_ot w = true := by
  have h : (Cond.classLink RX9 405 lo_NS :: Cond.initialized lo_NS :: lo_W).all vx_ot = true := by decide +kernel
  exact fun w hw => List.all_eq_true.mp h w hw
/-- what both need of the start beside the world -/
def lo_E (A : Nat → Prop) (sa : Nat) (U : State) (H : Heap) : Prop := vx_Zq Bundle.tN "UNASSIGNED_STACK" Bundle.steD A U H ∧ vx_Zq Bundle.tN "SUPPRESSED_SENTINEL" Bundle.listD A U H ∧ vk_R RX9 407 "OUT has no such byte" sa U ∧ ∀ w ∈ lo_B, va_Nw w U
def lo_Pre (D : va_G) (g : j_G) (b sz sa : Nat) (h : J_H) (U : State) : Prop := j_Pre vwCl la_RN jNW D g b sz h U ∧ lo_E (fun q => b ≤ q) sa U U.heap
theorem lo_E.moved {A : Nat → Prop} {sa : Nat} {s U : State} {H : Heap} (hW : s.WarmedH U.vm) (h : lo_E A sa s H) : lo_E A sa U H := by
  obtain ⟨a, b, c, d⟩ := h
  refine ⟨vx_Zq.moved hW.alike a, vx_Zq.moved hW.alike b, vk_R.warm hW c, fun w hw => ?_⟩
  have hd := d w hw
  simp only [lo_B, List.mem_cons, List.not_mem_nil, or_false] at hw
  rcases hw with rfl | rfl | rfl | rfl
  · exact va_Nw.warmD hW hd
  · exact va_Nw.warmD hW hd
  · exact va_Nw.warmD hW hd
  · exact va_Nw.warmC hW hd
theorem lo_blind {As : List Value} {D : va_G} {g : j_G} {b sz sa : Nat} {h : J_H} : FrameBlind (va_Pc As (lo_Pre D g b sz sa h)) := by
  intro a U gg mk q
  obtain ⟨q0, ⟨q1, qP, qK, qN, qA⟩, e1, e2, e3, e4⟩ := q
  exact ⟨q0, ⟨q1, qP, va_K.moved (u := U) (U := U.calling gg mk a) (Vm.Alike.refl U.vm) qK, fun w hw => va_Nw.same rfl (rfl : U.vm = (U.calling gg mk a).vm) (qN w hw), va_AO.moved (u := U) (U := U.calling gg mk a) (Vm.Alike.refl U.vm) qA⟩,
    vx_Zq.moved (u := U) (U := U.calling gg mk a) (Vm.Alike.refl U.vm) e1, vx_Zq.moved (u := U) (U := U.calling gg mk a) (Vm.Alike.refl U.vm) e2, vk_R.same (u := U) (U := U.calling gg mk a) rfl e3, fun w hw => va_Nw.same (by simp only [lo_B, List.mem_cons, List.not_mem_nil, or_false] at hw; rcases hw with rfl | rfl | rfl | rfl <;> rfl) (rfl : U.vm = (U.calling gg mk a).vm) (e4 w hw)⟩
theorem dX9_out_0 : decode cX9_out 0 = .ok (.iload_n 1, 1) := by decide +kernel
theorem dX9_out_1 : decode cX9_out 1 = .ok (.ifCond .lt 14, 3) := by decide +kernel
theorem dX9_out_4 : decode cX9_out 4 = .ok (.iload_n 1, 1) := by decide +kernel
theorem dX9_out_5 : decode cX9_out 5 = .ok (.aload_n 0, 1) := by decide +kernel
theorem dX9_out_6 : decode cX9_out 6 = .ok (.getfield 51, 3) := by decide +kernel
theorem dX9_out_9 : decode cX9_out 9 = .ok (.getfield 404, 3) := by decide +kernel
theorem dX9_out_12 : decode cX9_out 12 = .ok (.if_icmp .lt 14, 3) := by decide +kernel
theorem dX9_out_15 : decode cX9_out 15 = .ok (.new 405, 3) := by decide +kernel
theorem dX9_out_18 : decode cX9_out 18 = .ok (.dup, 1) := by decide +kernel
theorem dX9_out_19 : decode cX9_out 19 = .ok (.ldc_w 407, 3) := by decide +kernel
theorem dX9_out_22 : decode cX9_out 22 = .ok (.invokespecial 409, 3) := by decide +kernel
theorem dX9_out_25 : decode cX9_out 25 = .ok (.athrow, 1) := by decide +kernel
theorem dX9_out_26 : decode cX9_out 26 = .ok (.aload_n 0, 1) := by decide +kernel
theorem dX9_out_27 : decode cX9_out 27 = .ok (.getfield 51, 3) := by decide +kernel
theorem dX9_out_30 : decode cX9_out 30 = .ok (.getfield 412, 3) := by decide +kernel
theorem dX9_out_33 : decode cX9_out 33 = .ok (.iload_n 1, 1) := by decide +kernel
theorem dX9_out_34 : decode cX9_out 34 = .ok (.baload, 1) := by decide +kernel
theorem dX9_out_35 : decode cX9_out 35 = .ok (.ireturn, 1) := by decide +kernel
theorem lo_f1 (hPk : j_Pok WG vwCl la_RN jNW jP) : j_Fok WG vwCl RX9 51 (9, 5, .object "SidingLoops$Sheet", 1) := hPk.2.2.2.2.1 112 (yX9_status, cX9_status, 1, (some .int), 0, false, 9) 51 _ rfl rfl
theorem lo_f2 (hPk : j_Pok WG vwCl la_RN jNW jP) : j_Fok WG vwCl RX9 404 (6, 1, .int, 0) := hPk.2.2.2.2.1 112 (yX9_status, cX9_status, 1, (some .int), 0, false, 9) 404 _ rfl rfl
theorem lo_f3 (hPk : j_Pok WG vwCl la_RN jNW jP) : j_Fok WG vwCl RX9 412 (6, 0, .array .byte, 2) := hPk.2.2.2.2.1 112 (yX9_status, cX9_status, 1, (some .int), 0, false, 9) 412 _ rfl rfl
theorem lo_ix {v n : Int32} {l : List Int32} (h0 : ¬ v < 0) (h1 : v < n) (h2 : l.length = 700) (h3 : n.toInt ≤ 700) : j_ix v l.length = true := by
  have e0 : ¬ v.toInt < 0 := fun z => h0 (Int32.lt_iff_toInt_lt.mpr z)
  have e1 := Int32.lt_iff_toInt_lt.mp h1
  have e2 : v.toNatClampNeg = v.toInt.toNat := rfl
  unfold j_ix
  rw [h2, decide_eq_false h0, decide_eq_false (show ¬ 700 ≤ v.toNatClampNeg by omega)]
  rfl
abbrev lo_rmX : Room := { frames := 7, cells := 1, slots := 6, locals := 120 }
abbrev lo_wsX : List Cond := Cond.code yX9_out cX9_out 2 (some .int) :: WG
abbrev lo_QX (D : va_G) (g : j_G) (b sz : Nat) (h : J_H) : Array Value → State → Outcome → State → Prop := va_Qi (S := Unit) (fun _ _ => True) (fun _ t => va_P D vwCl (j_ws g b h) t.heap) (fun q => sz ≤ q)
abbrev lo_XX (D : va_G) (g : j_G) (b sz : Nat) (h : J_H) : String → State → State → Prop := vx_X (S := Unit) (fun _ => True) (fun E _ t => E = lo_NS ∧ va_P D vwCl (j_ws g b h) t.heap) (fun q => sz ≤ q)
set_option maxHeartbeats 4000000 in
theorem lo_X (hPk : j_Pok WG vwCl la_RN jNW jP) {l : Launch} (hl : l.stackTraces = false) {D : va_G} {g : j_G} {b sz sa : Nat} {h : J_H} {v : Int32} (hSh : i_Sh h) :
    vx_Met l yX9_out lo_wsX lo_rmX (va_Pc [.ref (b + 0), .int v] (lo_Pre D g b sz sa h)) (lo_QX D g b sz h) (lo_XX D g b sz h) 1 6 (fun q => sz ≤ q) := by
  obtain ⟨fx, fk, n, lst, h0, h1, h2, h3, h4, h5, h6, h7⟩ := hSh
  refine vx_ofW (cc := cX9_out) (maxL := 2) (ret := some .int) rfl rfl ?_
  intro p e s m args below meth c s₁ B hml ht hv
  obtain ⟨rfl, ⟨hs, hP, hK, hN, hAO⟩, e1, e2, e3, e4⟩ := hv
  have hx := B.exec
  have hb := B.bytes
  have hts0 := atoms_spec (ws := lo_wsX) B.pre
  have hts : ∀ w ∈ WG, w.before #[Value.ref (b + 0), Value.int v] s = true := fun w hw => hts0 w (List.mem_cons_of_mem _ hw)
  have hown : s.vm.findClass RX9 = some m.cls := findClass_of_methodNamed B.named
  have hlv := lv_entry ([.ref (b + 0), .int v] : List Value) (n := 2) (Nat.le_of_ble_eq_true rfl)
  rw [lg_entry_eq]
  generalize (lg_sl ([.ref (b + 0), .int v] : List Value) ++ List.replicate (2 - (lg_sl ([.ref (b + 0), .int v] : List Value)).length) Slot.unset).toArray = ls at hlv ⊢
  have hlv : lv_has ls 2 [(0, .ref (b + 0)), (1, .int v)] := hlv
  have hthrow : ∀ rest0 : List Value, rest0 = [] → W p l e lo_rmX s m #[Value.ref (b + 0), Value.int v] below meth c s.heap [] 0 0 (vx_MQ below (lo_QX D g b sz h) (lo_XX D g b sz h) #[Value.ref (b + 0), Value.int v] s 1 6 (fun q => sz ≤ q)) (F0 m 15 ls rest0) := by
    rintro rest0 rfl
    refine lo_throw (ix := 13) (rx := prog_22_method_4_code) (names := lo_nm) (own := RX9) (text := "OUT has no such byte") (ik := 405) (is := 407) (ic := 409) (A := fun q => b ≤ q) hx hb hl (by decide +kernel) (by decide +kernel) (by decide +kernel) (by decide +kernel) hown (by decide +kernel) (by decide +kernel) (hts _ (j_hw_ok (n := 1257) (by decide +kernel))) (hts _ (j_hw_ok (n := 142) (by decide +kernel))) e3 (vx_hat (fun w hw => hts w (lo_good w hw)) lo_bad (fun w hw => va_Nw.use (by simp only [lo_B, List.mem_cons, List.not_mem_nil, or_false] at hw; rcases hw with rfl | rfl | rfl | rfl <;> rfl) (e4 w hw))) lo_ot e1 e2 va_S.rf (hlv.1.trans hml.symm) dX9_out_15 dX9_out_18 dX9_out_19 dX9_out_22 dX9_out_25 (fun x hx => (ht x hx).elim) (Nat.le_of_ble_eq_true rfl) (Nat.le_of_ble_eq_true rfl) (Nat.le_of_ble_eq_true rfl) (Nat.le_of_ble_eq_true rfl) B.notSynchronized ?_ (fun z hz => nomatch hz) (Nat.le_refl _) (Nat.le_refl _)
    intro t hvm hz hq
    refine ⟨(), trivial, ⟨rfl, fun k x hk => ?_⟩, hz, fun q hq1 hq2 => hq q hq1⟩
    exact (hP.kept (fun k x hx => hq x.1 ((hP k x hx).lt))) k x hk
  refine lv_iload_n hx hb dX9_out_0 rfl (lv_at hlv 1 rfl) ?_
  refine lv_if_lt (tgt := 15) hx hb dX9_out_1 (by decide) (fun _ => hthrow _ rfl) (fun hn => ?_)
  refine lv_iload_n hx hb dX9_out_4 rfl (lv_at hlv 1 rfl) ?_
  refine lv_aload_n hx hb dX9_out_5 rfl (lv_at hlv 0 rfl) ?_
  refine j_get_ok hx hb hts hown hK hP (st := [.ref 0, .int v]) (stJ := [.ref 325, .int v]) (fl := some (9, 5, .object "SidingLoops$Sheet", 1)) (fun f hf => by cases hf; exact lo_f1 hPk) dX9_out_6 (by simp only [j_get, h0, h1, if_true]) ?_
  refine j_get_ok hx hb hts hown hK hP (st := [.ref 325, .int v]) (stJ := [.int n, .int v]) (fl := some (6, 1, .int, 0)) (fun f hf => by cases hf; exact lo_f2 hPk) dX9_out_9 (by simp only [j_get, h2, h3, if_true]) ?_
  refine lv_icmp_lt (tgt := 26) hx hb dX9_out_12 (by decide) (fun hy => ?_) (fun _ => hthrow _ rfl)
  refine lv_aload_n hx hb dX9_out_26 rfl (lv_at hlv 0 rfl) ?_
  refine j_get_ok hx hb hts hown hK hP (st := [.ref 0]) (stJ := [.ref 325]) (fl := some (9, 5, .object "SidingLoops$Sheet", 1)) (fun f hf => by cases hf; exact lo_f1 hPk) dX9_out_27 (by simp only [j_get, h0, h1, if_true]) ?_
  refine j_get_ok hx hb hts hown hK hP (st := [.ref 325]) (stJ := [.ref 326]) (fl := some (6, 0, .array .byte, 2)) (fun f hf => by cases hf; exact lo_f3 hPk) dX9_out_30 (by simp only [j_get, h2, h4, if_true]) ?_
  refine lv_iload_n hx hb dX9_out_33 rfl (lv_at hlv 1 rfl) ?_
  refine j_ald_ok (RN := la_RN) (g := g) hx hb hK hP (ins := .baload) (st := [.int v, .ref 326]) (stJ := [.int (lst.getD v.toNatClampNeg 0)]) dX9_out_34 (by simp only [j_ald, h5]; rw [if_pos ⟨by decide, lo_ix hn hy h6 h7⟩]) ?_
  refine vx_ret ?_
  refine W.widen (k := 1) (n := 6) (by decide) (by decide) ?_
  exact W.iret (v := lst.getD v.toNatClampNeg 0) hx hb B.returns (fun t2 ht2 hW => ⟨⟨lst.getD v.toNatClampNeg 0, (), rfl, trivial, by show va_P D vwCl (j_ws g b h) t2.heap; rw [ht2]; exact hP⟩, (va_S.rf (A := fun q => sz ≤ q)).F ht2⟩) (fun z hz => nomatch hz) dX9_out_35
theorem lo_code : Cond.code yX9_out cX9_out 2 (some .int) ∈ WG := j_hw_ok (n := 1256) (by decide +kernel)
theorem lo_gX : GoodIn WG lo_wsX := fun w hw => by
  have hw' : w ∈ WG := (List.mem_cons.mp hw).elim (fun z => by rw [z]; exact lo_code) id
  exact ⟨hw', WG_good w hw'⟩
theorem dL_out_0 : decode cL_out 0 = .ok (.aload_n 2, 1) := by decide +kernel
theorem dL_out_1 : decode cL_out 1 = .ok (.iconst 0, 1) := by decide +kernel
theorem dL_out_2 : decode cL_out 2 = .ok (.aload_n 0, 1) := by decide +kernel
theorem dL_out_3 : decode cL_out 3 = .ok (.iload_n 1, 1) := by decide +kernel
theorem dL_out_4 : decode cL_out 4 = .ok (.invokevirtual 7, 3) := by decide +kernel
theorem dL_out_7 : decode cL_out 7 = .ok (.i2l, 1) := by decide +kernel
theorem dL_out_8 : decode cL_out 8 = .ok (.lastore, 1) := by decide +kernel
theorem dL_out_9 : decode cL_out 9 = .ok (.goto 6, 3) := by decide +kernel
theorem dL_out_15 : decode cL_out 15 = .ok (.iconst 0, 1) := by decide +kernel
theorem dL_out_16 : decode cL_out 16 = .ok (.ireturn, 1) := by decide +kernel
theorem dL_out_12 : decode cL_out 12 = .ok (.astore_n 3, 1) := by decide +kernel
theorem dL_out_13 : decode cL_out 13 = .ok (.iconst 1, 1) := by decide +kernel
theorem dL_out_14 : decode cL_out 14 = .ok (.ireturn, 1) := by decide +kernel
abbrev lo_rmL : Room := { frames := 8, cells := 1, slots := 6, locals := 160 }
abbrev lo_wsL : List Cond := Cond.codeWith yL_out cL_out 4 (some .int) [(0, 9, 12, 13)] :: WG
abbrev lo_QL (D : va_G) (g : j_G) (b : Nat) (h : J_H) : Array Value → State → Outcome → State → Prop := va_Qi (S := J_H) (fun _ h' => h' = h ∨ ∃ w : Int64, h' = h.set 372 (.inr (.inr (.inl [w])))) (fun h' t => va_P D vwCl (j_ws g b h') t.heap) (fun q => b ≤ q)
abbrev lo_XL (sz : Nat) : String → State → State → Prop := vx_X (S := Unit) (fun _ => False) (fun _ _ _ => True) (fun q => sz ≤ q)
set_option maxHeartbeats 4000000 in
theorem lo_L (hPk : j_Pok WG vwCl la_RN jNW jP) {l : Launch} (hl : l.stackTraces = false) {D : va_G} {g : j_G} {b sz sa : Nat} {h : J_H} {v : Int32} (hSh : i_Sh h) (hA : ∃ w : Int64, h[372]? = some (.inr (.inr (.inl [w])))) (hbz : b ≤ sz) :
    vx_Met l yL_out lo_wsL lo_rmL (va_Pc [.ref (b + 0), .int v, .ref (b + 372)] (lo_Pre D g b sz sa h)) (lo_QL D g b h) (lo_XL sz) 1 6 (fun q => b ≤ q) := by
  obtain ⟨fx, h0⟩ : ∃ fx, h[0]? = some (.inl (9, fx)) := hSh.elim fun fx z => z.elim fun _ z => z.elim fun _ z => z.elim fun _ z => ⟨fx, z.1⟩
  refine vx_ofWH (cc := cL_out) (maxL := 4) (ret := some .int) (hh := [(0, 9, 12, 13)]) rfl rfl ?_
  intro p e s m args below meth c s₁ B hml hv
  obtain ⟨rfl, ⟨hs, hP, hK, hN, hAO⟩, hE⟩ := hv
  have hx := B.exec
  have hb := B.bytes
  have hr := B.returns
  have hlocks := B.notSynchronized
  have hts0 := atoms_spec (ws := lo_wsL) B.pre
  have hts : ∀ w ∈ WG, w.before #[Value.ref (b + 0), Value.int v, Value.ref (b + 372)] s = true := fun w hw => hts0 w (List.mem_cons_of_mem _ hw)
  have htab := vx_table (x := yL_out) B (hts0 _ List.mem_cons_self)
  have hown : s.vm.findClass R_law = some m.cls := findClass_of_methodNamed B.named
  have hlv := lv_entry ([.ref (b + 0), .int v, .ref (b + 372)] : List Value) (n := 4) (Nat.le_of_ble_eq_true rfl)
  rw [lg_entry_eq]
  generalize (lg_sl ([.ref (b + 0), .int v, .ref (b + 372)] : List Value) ++ List.replicate (4 - (lg_sl ([.ref (b + 0), .int v, .ref (b + 372)] : List Value)).length) Slot.unset).toArray = ls at hlv ⊢
  have hlv : lv_has ls 4 [(0, .ref (b + 0)), (1, .int v), (2, .ref (b + 372))] := hlv
  refine lv_aload_n hx hb dL_out_0 rfl (lv_at hlv 2 rfl) ?_
  refine lv_iconst (v := 0) hx hb dL_out_1 (by decide) ?_
  refine lv_aload_n hx hb dL_out_2 rfl (lv_at hlv 0 rfl) ?_
  refine lv_iload_n hx hb dL_out_3 rfl (lv_at hlv 1 rfl) ?_
  have hrv := va_recv hK hP (ci := 9) (q0 := 0) rfl (j_ws_at h0)
  refine vx_calli (st0 := [.int v, .ref (b + 0), .int 0, .ref (b + 372)]) (A0 := fun q => b ≤ q) (H0 := s.heap) (vx_runV (As := [.int v]) (rest := [.int 0, .ref (b + 372)]) (b := b + 0) (own := R_law) (Ts := WG) (cc := cL_out) (nL := 4) ⟨hx, hb, hml, hown, hts⟩ (lo_X hPk hl (D := D) (g := g) (b := b) (sz := sz) (sa := sa) (v := v) hSh) ⟨callB_of 1 hts lo_gX rfl rfl rfl (hts _ (j_hw_ok (n := 124) (by decide +kernel))) (hts _ (j_hw_ok (n := 1253) (by decide +kernel))) ⟨by decide, by decide, by decide +kernel⟩ ⟨Nat.le_of_ble_eq_true rfl, Nat.le_of_ble_eq_true rfl⟩, hts _ (j_hw_ok (n := 1254) (by decide +kernel)), hts _ (j_hw_ok (n := 1255) (by decide +kernel))⟩ ⟨lo_blind, hrv, fun U hU hW => ⟨rfl, ⟨by rw [hU]; exact hs, by rw [hU]; exact hP, va_K.moved hW.alike hK, fun w hw => va_Nw.warmM hW (hN w hw), va_AO.moved hW.alike hAO⟩, by rw [hU]; exact hE.moved hW⟩⟩ rfl rfl hlv.1 rfl (Nat.le_of_ble_eq_true rfl) dL_out_4 ⟨Nat.le_of_ble_eq_true rfl, Nat.le_of_ble_eq_true rfl⟩) (va_S.rf) (fun q _ hq => Nat.le_trans hbz hq) (fun q hq => Nat.le_trans hbz hq) (fun q _ hq => Nat.le_trans hbz hq) ?_ ?_
  rotate_left
  · intro r u t H1 locs1 ht hvm hpost hB hz hk hS
    have hP1 : va_P D vwCl (j_ws g b h) H1 := by rw [← ht]; exact hB
    obtain ⟨w, hw⟩ := hA
    refine lv_i2l (v := r.toInt64) hx hb dL_out_7 rfl ?_
    refine j_ast_ok (RN := la_RN) (g := g) (b := b) (A := fun q => b ≤ q) (H0 := s.heap) hx hb hK hP1 (fun q hq _ => hq) hS ⟨_, rfl, rfl⟩ (ins := .lastore) (st := [.long r.toInt64, .int 0, .ref 372]) (stJ := []) (h' := h.set 372 (.inr (.inr (.inl [r.toInt64])))) dL_out_8 (by simp only [j_ast, hw]; rfl) (fun H2 locs2 hP2 hS2 hl2 => ?_)
    refine lv_goto (tgt := 15) hx hb dL_out_9 (by decide) ?_
    refine lv_iconst (v := 0) hx hb dL_out_15 (by decide) ?_
    refine vx_ret ?_
    exact W.iret (v := 0) hx hb hr (fun t2 ht2 hW => ⟨⟨0, _, rfl, Or.inr ⟨r.toInt64, rfl⟩, by show va_P D vwCl (j_ws g b (h.set 372 (.inr (.inr (.inl [r.toInt64]))))) t2.heap; rw [ht2]; exact hP2⟩, hS2.F ht2⟩) hS2.2.2 dL_out_16
  · intro E ce q9 u t H1 locs1 ht hvm hp hB hz hk hS hcell hcv hcl
    obtain ⟨rfl, hP1⟩ := hB
    refine vx_catch (own := R_law) (name := lo_NS) hown [] ⟨0, 9, 12, 13⟩ [] htab (fun z hz => nomatch hz) (by decide) (by decide) (hts _ (j_hw_ok (n := 1252) (by decide +kernel))) (va_Nw.use rfl (hE.2.2.2 _ (by simp [lo_B]))) hcell hcv hcl ?_
    refine lv_astore_n (lv' := [(3, .ref q9), (0, .ref (b + 0)), (1, .int v), (2, .ref (b + 372))]) hx hb dL_out_12 rfl hlv (by decide) rfl (fun ls hlv => ?_)
    refine lv_iconst (v := 1) hx hb dL_out_13 (by decide) ?_
    refine vx_ret ?_
    exact W.iret (v := 1) hx hb hr (fun t2 ht2 hW => ⟨⟨1, h, rfl, Or.inl rfl, by show va_P D vwCl (j_ws g b h) t2.heap; rw [ht2, ← ht]; exact hP1⟩, hS.F ht2⟩) hS.2.2 dL_out_14
