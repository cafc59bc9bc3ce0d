/-! the trial's advance (state 282, layout 343), by wip/px/gen_z1.py -/
set_option maxRecDepth 100000 in
theorem xd45_M : j_meth jP 92 = some (yX7_advance, cX7_advance, 6, (some .int), 3, false, 7) := rfl
set_option maxRecDepth 100000 in
theorem xd45_0 : j_code jP 92 0 = some (.aload_n 0) := rfl
set_option maxRecDepth 100000 in
theorem xd45_1 : j_code jP 92 1 = some (.getfield 68) := rfl
set_option maxRecDepth 100000 in
theorem xd45_4 : j_code jP 92 4 = some (.iload_n 1) := rfl
set_option maxRecDepth 100000 in
theorem xd45_5 : j_code jP 92 5 = some (.iadd) := rfl
set_option maxRecDepth 100000 in
theorem xd45_6 : j_code jP 92 6 = some (.istore 4) := rfl
set_option maxRecDepth 100000 in
theorem xd45_8 : j_code jP 92 8 = some (.iconst 0) := rfl
set_option maxRecDepth 100000 in
theorem xd45_9 : j_code jP 92 9 = some (.istore 5) := rfl
set_option maxRecDepth 100000 in
theorem xd45_11 : j_code jP 92 11 = some (.iload 5) := rfl
set_option maxRecDepth 100000 in
theorem xd45_13 : j_code jP 92 13 = some (.iload_n 1) := rfl
set_option maxRecDepth 100000 in
theorem xd45_14 : j_code jP 92 14 = some (.if_icmp .ge 70) := rfl
set_option maxRecDepth 100000 in
theorem xd45_17 : j_code jP 92 17 = some (.aload_n 0) := rfl
set_option maxRecDepth 100000 in
theorem xd45_18 : j_code jP 92 18 = some (.getfield 68) := rfl
set_option maxRecDepth 100000 in
theorem xd45_21 : j_code jP 92 21 = some (.iload 4) := rfl
set_option maxRecDepth 100000 in
theorem xd45_23 : j_code jP 92 23 = some (.if_icmp .ge 61) := rfl
set_option maxRecDepth 100000 in
theorem xd45_26 : j_code jP 92 26 = some (.iload_n 3) := rfl
set_option maxRecDepth 100000 in
theorem xd45_27 : j_code jP 92 27 = some (.ifCond .eq 28) := rfl
set_option maxRecDepth 100000 in
theorem xd45_30 : j_code jP 92 30 = some (.aload_n 0) := rfl
set_option maxRecDepth 100000 in
theorem xd45_31 : j_code jP 92 31 = some (.iconst 3) := rfl
set_option maxRecDepth 100000 in
theorem xd45_32 : j_code jP 92 32 = some (.invokevirtual 173) := rfl
set_option maxRecDepth 100000 in
theorem xd45_35 : j_code jP 92 35 = some (.aload_n 0) := rfl
set_option maxRecDepth 100000 in
theorem xd45_36 : j_code jP 92 36 = some (.getfield 64) := rfl
set_option maxRecDepth 100000 in
theorem xd45_39 : j_code jP 92 39 = some (.getfield 102) := rfl
set_option maxRecDepth 100000 in
theorem xd45_42 : j_code jP 92 42 = some (.if_icmp .eq 42) := rfl
set_option maxRecDepth 100000 in
theorem xd45_45 : j_code jP 92 45 = some (.aload_n 0) := rfl
set_option maxRecDepth 100000 in
theorem xd45_46 : j_code jP 92 46 = some (.invokevirtual 176) := rfl
set_option maxRecDepth 100000 in
theorem xd45_49 : j_code jP 92 49 = some (.ifCond .eq 6) := rfl
set_option maxRecDepth 100000 in
theorem xd45_52 : j_code jP 92 52 = some (.goto 32) := rfl
set_option maxRecDepth 100000 in
theorem xd45_55 : j_code jP 92 55 = some (.aload_n 0) := rfl
set_option maxRecDepth 100000 in
theorem xd45_56 : j_code jP 92 56 = some (.iload_n 2) := rfl
set_option maxRecDepth 100000 in
theorem xd45_57 : j_code jP 92 57 = some (.invokevirtual 179) := rfl
set_option maxRecDepth 100000 in
theorem xd45_60 : j_code jP 92 60 = some (.ifCond .ne 18) := rfl
set_option maxRecDepth 100000 in
theorem xd45_63 : j_code jP 92 63 = some (.aload_n 0) := rfl
set_option maxRecDepth 100000 in
theorem xd45_64 : j_code jP 92 64 = some (.aload_n 0) := rfl
set_option maxRecDepth 100000 in
theorem xd45_65 : j_code jP 92 65 = some (.iload 4) := rfl
set_option maxRecDepth 100000 in
theorem xd45_67 : j_code jP 92 67 = some (.invokevirtual 183) := rfl
set_option maxRecDepth 100000 in
theorem xd45_70 : j_code jP 92 70 = some (.aload_n 0) := rfl
set_option maxRecDepth 100000 in
theorem xd45_71 : j_code jP 92 71 = some (.getfield 68) := rfl
set_option maxRecDepth 100000 in
theorem xd45_74 : j_code jP 92 74 = some (.isub) := rfl
set_option maxRecDepth 100000 in
theorem xd45_75 : j_code jP 92 75 = some (.invokevirtual 186) := rfl
set_option maxRecDepth 100000 in
theorem xd45_78 : j_code jP 92 78 = some (.iinc 5 1) := rfl
set_option maxRecDepth 100000 in
theorem xd45_81 : j_code jP 92 81 = some (.goto (-70)) := rfl
set_option maxRecDepth 100000 in
theorem xd45_84 : j_code jP 92 84 = some (.aload_n 0) := rfl
set_option maxRecDepth 100000 in
theorem xd45_85 : j_code jP 92 85 = some (.iconst (-1)) := rfl
set_option maxRecDepth 100000 in
theorem xd45_86 : j_code jP 92 86 = some (.invokevirtual 190) := rfl
set_option maxRecDepth 100000 in
theorem xd45_89 : j_code jP 92 89 = some (.ireturn) := rfl
set_option maxRecDepth 1000000 in
theorem xd45_ok_l11 {shu : Int32} {lks : Int32} {rk : List Int32} {sta : List Int32} {he : List Int32} {lkd : List Int32} {pk : Int32} {ns : Int32} {nt : Int32} {cel : Int32} {len : List Int32} {frm : List Int32} {tto : List Int32} {wei : List Int32} {fit : List Int32} {way : List Int32} {rid : List Int32} {lon : List Int32} {v1 v2 v3 v4 : Int32} {d : Nat} {h0 : J_H} : ∀ (f : Nat) (v5 : Int32) (sea : List Int32) (row : List Int32) (rl : Int32) (bus : Int32) (ph : List Int32) (sp : List Int32) (ce : List Int32) (du : List Int32) (ri : List Int32) (cm : List Int32) (lf : List Int32) (pfa : List Int32) (pev : Int32) (prs : List Int32) (prr : List Int32) (mi : Int32) (us : List Int32) (pms : List Int32) (pmm : List Int32) (pmt : List Int32) (pst : List Int32) (pwa : List Int32) {lv : J_L} {h : J_H}, lpN v1 v5 = f → LK lv [(0, .ref 282), (1, .int v1), (2, .int v2), (3, .int v3), (4, .int v4), (5, .int v5)] → KN h [(282, .inl (7, [.ref 343, .int mi, .int shu, .int bus, .ref 283, .ref 284, .ref 285, .ref 286, .ref 287, .ref 288, .ref 289, .ref 290, .ref 291, .ref 292, .ref 293, .int lks, .ref 294, .ref 295, .ref 298])), (283, .inr (.inl (0, rk))), (284, .inr (.inl (0, sta))), (285, .inr (.inl (0, ph))), (286, .inr (.inl (0, sp))), (287, .inr (.inl (0, ce))), (288, .inr (.inl (0, du))), (289, .inr (.inl (0, he))), (290, .inr (.inl (0, ri))), (291, .inr (.inl (0, us))), (292, .inr (.inl (0, cm))), (293, .inr (.inl (0, lf))), (294, .inr (.inl (0, lkd))), (295, .inl (5, [.ref 296, .int rl, .ref 297])), (296, .inr (.inl (0, row))), (297, .inr (.inl (0, sea))), (298, .inl (3, [.ref 299, .ref 300, .ref 301, .ref 302, .ref 303, .ref 304, .ref 305, .ref 306, .int pev, .int pk])), (299, .inr (.inl (0, pms))), (300, .inr (.inl (0, pmm))), (301, .inr (.inl (0, pmt))), (302, .inr (.inl (0, pst))), (303, .inr (.inl (0, pwa))), (304, .inr (.inl (0, prs))), (305, .inr (.inl (0, prr))), (306, .inr (.inl (0, pfa))), (343, .inl (2, [.int ns, .ref 344, .ref 345, .ref 346, .ref 347, .int nt, .ref 348, .ref 349, .ref 350, .ref 351, .ref 352, .ref 353, .ref 354, .int cel, .ref 355, .ref 356, .ref 357, .ref 358])), (347, .inr (.inl (0, len))), (350, .inr (.inl (0, frm))), (351, .inr (.inl (0, tto))), (354, .inr (.inl (0, wei))), (355, .inr (.inl (0, fit))), (356, .inr (.inl (0, way))), (357, .inr (.inl (0, rid))), (358, .inr (.inl (0, lon)))] h0 → j_V jP d 92 11 lv [] h (fun rv h' => rv = some (.int (x_advance_l11 shu lks rk sta he lkd pk nt len frm tto wei fit way rid lon v1 v2 v3 v4 f v5 sea row rl bus ph sp ce du ri cm lf pfa pev prs prr mi us pms pmm pmt pst pwa).1) ∧ KN h' [(282, .inl (7, [.ref 343, .int (x_advance_l11 shu lks rk sta he lkd pk nt len frm tto wei fit way rid lon v1 v2 v3 v4 f v5 sea row rl bus ph sp ce du ri cm lf pfa pev prs prr mi us pms pmm pmt pst pwa).2.2.2.2.2.2.2.2.2.2.2.2.2.2.2.2.1, .int shu, .int (x_advance_l11 shu lks rk sta he lkd pk nt len frm tto wei fit way rid lon v1 v2 v3 v4 f v5 sea row rl bus ph sp ce du ri cm lf pfa pev prs prr mi us pms pmm pmt pst pwa).2.2.2.2.1, .ref 283, .ref 284, .ref 285, .ref 286, .ref 287, .ref 288, .ref 289, .ref 290, .ref 291, .ref 292, .ref 293, .int lks, .ref 294, .ref 295, .ref 298])), (283, .inr (.inl (0, rk))), (284, .inr (.inl (0, sta))), (285, .inr (.inl (0, (x_advance_l11 shu lks rk sta he lkd pk nt len frm tto wei fit way rid lon v1 v2 v3 v4 f v5 sea row rl bus ph sp ce du ri cm lf pfa pev prs prr mi us pms pmm pmt pst pwa).2.2.2.2.2.1))), (286, .inr (.inl (0, (x_advance_l11 shu lks rk sta he lkd pk nt len frm tto wei fit way rid lon v1 v2 v3 v4 f v5 sea row rl bus ph sp ce du ri cm lf pfa pev prs prr mi us pms pmm pmt pst pwa).2.2.2.2.2.2.1))), (287, .inr (.inl (0, (x_advance_l11 shu lks rk sta he lkd pk nt len frm tto wei fit way rid lon v1 v2 v3 v4 f v5 sea row rl bus ph sp ce du ri cm lf pfa pev prs prr mi us pms pmm pmt pst pwa).2.2.2.2.2.2.2.1))), (288, .inr (.inl (0, (x_advance_l11 shu lks rk sta he lkd pk nt len frm tto wei fit way rid lon v1 v2 v3 v4 f v5 sea row rl bus ph sp ce du ri cm lf pfa pev prs prr mi us pms pmm pmt pst pwa).2.2.2.2.2.2.2.2.1))), (289, .inr (.inl (0, he))), (290, .inr (.inl (0, (x_advance_l11 shu lks rk sta he lkd pk nt len frm tto wei fit way rid lon v1 v2 v3 v4 f v5 sea row rl bus ph sp ce du ri cm lf pfa pev prs prr mi us pms pmm pmt pst pwa).2.2.2.2.2.2.2.2.2.1))), (291, .inr (.inl (0, (x_advance_l11 shu lks rk sta he lkd pk nt len frm tto wei fit way rid lon v1 v2 v3 v4 f v5 sea row rl bus ph sp ce du ri cm lf pfa pev prs prr mi us pms pmm pmt pst pwa).2.2.2.2.2.2.2.2.2.2.2.2.2.2.2.2.2.1))), (292, .inr (.inl (0, (x_advance_l11 shu lks rk sta he lkd pk nt len frm tto wei fit way rid lon v1 v2 v3 v4 f v5 sea row rl bus ph sp ce du ri cm lf pfa pev prs prr mi us pms pmm pmt pst pwa).2.2.2.2.2.2.2.2.2.2.1))), (293, .inr (.inl (0, (x_advance_l11 shu lks rk sta he lkd pk nt len frm tto wei fit way rid lon v1 v2 v3 v4 f v5 sea row rl bus ph sp ce du ri cm lf pfa pev prs prr mi us pms pmm pmt pst pwa).2.2.2.2.2.2.2.2.2.2.2.1))), (294, .inr (.inl (0, lkd))), (295, .inl (5, [.ref 296, .int (x_advance_l11 shu lks rk sta he lkd pk nt len frm tto wei fit way rid lon v1 v2 v3 v4 f v5 sea row rl bus ph sp ce du ri cm lf pfa pev prs prr mi us pms pmm pmt pst pwa).2.2.2.1, .ref 297])), (296, .inr (.inl (0, (x_advance_l11 shu lks rk sta he lkd pk nt len frm tto wei fit way rid lon v1 v2 v3 v4 f v5 sea row rl bus ph sp ce du ri cm lf pfa pev prs prr mi us pms pmm pmt pst pwa).2.2.1))), (297, .inr (.inl (0, (x_advance_l11 shu lks rk sta he lkd pk nt len frm tto wei fit way rid lon v1 v2 v3 v4 f v5 sea row rl bus ph sp ce du ri cm lf pfa pev prs prr mi us pms pmm pmt pst pwa).2.1))), (298, .inl (3, [.ref 299, .ref 300, .ref 301, .ref 302, .ref 303, .ref 304, .ref 305, .ref 306, .int (x_advance_l11 shu lks rk sta he lkd pk nt len frm tto wei fit way rid lon v1 v2 v3 v4 f v5 sea row rl bus ph sp ce du ri cm lf pfa pev prs prr mi us pms pmm pmt pst pwa).2.2.2.2.2.2.2.2.2.2.2.2.2.1, .int pk])), (299, .inr (.inl (0, (x_advance_l11 shu lks rk sta he lkd pk nt len frm tto wei fit way rid lon v1 v2 v3 v4 f v5 sea row rl bus ph sp ce du ri cm lf pfa pev prs prr mi us pms pmm pmt pst pwa).2.2.2.2.2.2.2.2.2.2.2.2.2.2.2.2.2.2.1))), (300, .inr (.inl (0, (x_advance_l11 shu lks rk sta he lkd pk nt len frm tto wei fit way rid lon v1 v2 v3 v4 f v5 sea row rl bus ph sp ce du ri cm lf pfa pev prs prr mi us pms pmm pmt pst pwa).2.2.2.2.2.2.2.2.2.2.2.2.2.2.2.2.2.2.2.1))), (301, .inr (.inl (0, (x_advance_l11 shu lks rk sta he lkd pk nt len frm tto wei fit way rid lon v1 v2 v3 v4 f v5 sea row rl bus ph sp ce du ri cm lf pfa pev prs prr mi us pms pmm pmt pst pwa).2.2.2.2.2.2.2.2.2.2.2.2.2.2.2.2.2.2.2.2.1))), (302, .inr (.inl (0, (x_advance_l11 shu lks rk sta he lkd pk nt len frm tto wei fit way rid lon v1 v2 v3 v4 f v5 sea row rl bus ph sp ce du ri cm lf pfa pev prs prr mi us pms pmm pmt pst pwa).2.2.2.2.2.2.2.2.2.2.2.2.2.2.2.2.2.2.2.2.2.1))), (303, .inr (.inl (0, (x_advance_l11 shu lks rk sta he lkd pk nt len frm tto wei fit way rid lon v1 v2 v3 v4 f v5 sea row rl bus ph sp ce du ri cm lf pfa pev prs prr mi us pms pmm pmt pst pwa).2.2.2.2.2.2.2.2.2.2.2.2.2.2.2.2.2.2.2.2.2.2))), (304, .inr (.inl (0, (x_advance_l11 shu lks rk sta he lkd pk nt len frm tto wei fit way rid lon v1 v2 v3 v4 f v5 sea row rl bus ph sp ce du ri cm lf pfa pev prs prr mi us pms pmm pmt pst pwa).2.2.2.2.2.2.2.2.2.2.2.2.2.2.1))), (305, .inr (.inl (0, (x_advance_l11 shu lks rk sta he lkd pk nt len frm tto wei fit way rid lon v1 v2 v3 v4 f v5 sea row rl bus ph sp ce du ri cm lf pfa pev prs prr mi us pms pmm pmt pst pwa).2.2.2.2.2.2.2.2.2.2.2.2.2.2.2.1))), (306, .inr (.inl (0, (x_advance_l11 shu lks rk sta he lkd pk nt len frm tto wei fit way rid lon v1 v2 v3 v4 f v5 sea row rl bus ph sp ce du ri cm lf pfa pev prs prr mi us pms pmm pmt pst pwa).2.2.2.2.2.2.2.2.2.2.2.2.1))), (343, .inl (2, [.int ns, .ref 344, .ref 345, .ref 346, .ref 347, .int nt, .ref 348, .ref 349, .ref 350, .ref 351, .ref 352, .ref 353, .ref 354, .int cel, .ref 355, .ref 356, .ref 357, .ref 358])), (347, .inr (.inl (0, len))), (350, .inr (.inl (0, frm))), (351, .inr (.inl (0, tto))), (354, .inr (.inl (0, wei))), (355, .inr (.inl (0, fit))), (356, .inr (.inl (0, way))), (357, .inr (.inl (0, rid))), (358, .inr (.inl (0, lon)))] h0) := by
  intro f
  induction f with
  | zero =>
    intro v5 sea row rl bus ph sp ce du ri cm lf pfa pev prs prr mi us pms pmm pmt pst pwa lv h e L K
    refine j_V.ldL xd45_M xd45_11 rfl (i := 5) (kd := 0) (v := .int v5) (pcJ := 13) rfl L rfl rfl rfl ?_
    refine j_V.ldL xd45_M xd45_13 rfl (i := 1) (kd := 0) (v := .int v1) (pcJ := 14) rfl L rfl rfl rfl ?_
    refine j_V.icmp xd45_M xd45_14 (t := 84) rfl (fun c14_0 => ?_) (fun c14_0 => ?_)
    · replace c14_0 : ¬ (v5 < v1) := jd_ge c14_0
      refine j_V.ldL xd45_M xd45_84 rfl (i := 0) (kd := 2) (v := .ref 282) (pcJ := 85) rfl L rfl rfl rfl ?_
      refine j_V.one xd45_M xd45_85 (by decide) (pcJ := 86) (stJ := [.int (-1), .ref 282]) rfl ?_
      refine j_V.cl xd45_M xd45_86 rfl (md := 3) (mj := 65) rfl (by decide) xd06_M (As := [.ref 282, .int (-1)]) (rest := []) (jk_spl3 (K.at rfl) rfl rfl rfl (Nat.le_of_ble_eq_true rfl) (Nat.le_of_ble_eq_true rfl)) (fun d => xd06_ok (K.fi [282, 284, 285, 292, 343, 351, 354, 358] rfl rfl)) ?_
      rintro r hz ⟨rfl, ez⟩
      rw [ez]
      clear ez
      show j_V jP _ 92 89 lv [.int (x_price sta ph cm nt tto wei lon (-1))] h _
      refine j_V.ri xd45_M xd45_89 ?_
      rw [show (x_advance_l11 shu lks rk sta he lkd pk nt len frm tto wei fit way rid lon v1 v2 v3 v4 0 v5 sea row rl bus ph sp ce du ri cm lf pfa pev prs prr mi us pms pmm pmt pst pwa) = _ from (rfl)]
      exact ⟨rfl, K⟩
    · replace c14_0 : v5 < v1 := jd_gen c14_0
      exact absurd c14_0 (lpN_z e)
  | succ f ih =>
    intro v5 sea row rl bus ph sp ce du ri cm lf pfa pev prs prr mi us pms pmm pmt pst pwa lv h e L K
    refine j_V.ldL xd45_M xd45_11 rfl (i := 5) (kd := 0) (v := .int v5) (pcJ := 13) rfl L rfl rfl rfl ?_
    refine j_V.ldL xd45_M xd45_13 rfl (i := 1) (kd := 0) (v := .int v1) (pcJ := 14) rfl L rfl rfl rfl ?_
    refine j_V.icmp xd45_M xd45_14 (t := 84) rfl (fun c14_0 => ?_) (fun c14_0 => ?_)
    · replace c14_0 : ¬ (v5 < v1) := jd_ge c14_0
      exact absurd (lpN_s e) c14_0
    · replace c14_0 : v5 < v1 := jd_gen c14_0
      refine j_V.ldL xd45_M xd45_17 rfl (i := 0) (kd := 2) (v := .ref 282) (pcJ := 18) rfl L rfl rfl rfl ?_
      refine j_V.getK xd45_M xd45_18 (ci := 7) (j := 1) rfl K rfl rfl ?_
      refine j_V.ldL xd45_M xd45_21 rfl (i := 4) (kd := 0) (v := .int v4) (pcJ := 23) rfl L rfl rfl rfl ?_
      refine j_V.icmp xd45_M xd45_23 (t := 84) rfl (fun c23_0 => ?_) (fun c23_0 => ?_)
      · replace c23_0 : ¬ (mi < v4) := jd_ge c23_0
        refine j_V.ldL xd45_M xd45_84 rfl (i := 0) (kd := 2) (v := .ref 282) (pcJ := 85) rfl L rfl rfl rfl ?_
        refine j_V.one xd45_M xd45_85 (by decide) (pcJ := 86) (stJ := [.int (-1), .ref 282]) rfl ?_
        refine j_V.cl xd45_M xd45_86 rfl (md := 3) (mj := 65) rfl (by decide) xd06_M (As := [.ref 282, .int (-1)]) (rest := []) (jk_spl3 (K.at rfl) rfl rfl rfl (Nat.le_of_ble_eq_true rfl) (Nat.le_of_ble_eq_true rfl)) (fun d => xd06_ok (K.fi [282, 284, 285, 292, 343, 351, 354, 358] rfl rfl)) ?_
        rintro r hz ⟨rfl, ez⟩
        rw [ez]
        clear ez
        show j_V jP _ 92 89 lv [.int (x_price sta ph cm nt tto wei lon (-1))] h _
        refine j_V.ri xd45_M xd45_89 ?_
        rw [show (x_advance_l11 shu lks rk sta he lkd pk nt len frm tto wei fit way rid lon v1 v2 v3 v4 (f + 1) v5 sea row rl bus ph sp ce du ri cm lf pfa pev prs prr mi us pms pmm pmt pst pwa) = _ from ((if_neg c23_0).trans (rfl))]
        exact ⟨rfl, K⟩
      · replace c23_0 : mi < v4 := jd_gen c23_0
        refine j_V.ldL xd45_M xd45_26 rfl (i := 3) (kd := 0) (v := .int v3) (pcJ := 27) rfl L rfl rfl rfl ?_
        refine j_V.ifc xd45_M xd45_27 (t := 55) rfl (fun c27_1 => ?_) (fun c27_1 => ?_)
        · replace c27_1 : v3 = 0 := jd_eq c27_1
          refine j_V.ldL xd45_M xd45_55 rfl (i := 0) (kd := 2) (v := .ref 282) (pcJ := 56) rfl L rfl rfl rfl ?_
          refine j_V.ldL xd45_M xd45_56 rfl (i := 2) (kd := 0) (v := .int v2) (pcJ := 57) rfl L rfl rfl rfl ?_
          refine j_V.cl xd45_M xd45_57 rfl (md := 3) (mj := 93) rfl (by decide) xd44_M (As := [.ref 282, .int v2]) (rest := []) (jk_spl3 (K.at rfl) rfl rfl rfl (Nat.le_of_ble_eq_true rfl) (Nat.le_of_ble_eq_true rfl)) (fun d => xd44_ok (K.fi [282, 283, 284, 285, 286, 287, 288, 289, 290, 291, 292, 293, 294, 295, 296, 297, 298, 299, 300, 301, 302, 303, 304, 305, 306, 343, 347, 350, 351, 355, 356, 357] rfl rfl)) ?_
          rintro r h9 ⟨rfl, K9⟩
          generalize ez1 : (x_passMinute mi shu bus lks rk sta ph sp ce du he ri us cm lf lkd rl row sea pev pk pms pmm pmt pst pwa prs prr pfa nt len frm tto fit way rid v2) = z1 at K9 ⊢
          have K : KN h9 [(282, .inl (7, [.ref 343, .int (z1.2.2.2.2.2.2.2.2.2.2.2.2.2.2.2.2.1), .int shu, .int (z1.2.2.2.2.1), .ref 283, .ref 284, .ref 285, .ref 286, .ref 287, .ref 288, .ref 289, .ref 290, .ref 291, .ref 292, .ref 293, .int lks, .ref 294, .ref 295, .ref 298])), (283, .inr (.inl (0, rk))), (284, .inr (.inl (0, sta))), (285, .inr (.inl (0, (z1.2.2.2.2.2.1)))), (286, .inr (.inl (0, (z1.2.2.2.2.2.2.1)))), (287, .inr (.inl (0, (z1.2.2.2.2.2.2.2.1)))), (288, .inr (.inl (0, (z1.2.2.2.2.2.2.2.2.1)))), (289, .inr (.inl (0, he))), (290, .inr (.inl (0, (z1.2.2.2.2.2.2.2.2.2.1)))), (291, .inr (.inl (0, (z1.2.2.2.2.2.2.2.2.2.2.2.2.2.2.2.2.2.1)))), (292, .inr (.inl (0, (z1.2.2.2.2.2.2.2.2.2.2.1)))), (293, .inr (.inl (0, (z1.2.2.2.2.2.2.2.2.2.2.2.1)))), (294, .inr (.inl (0, lkd))), (295, .inl (5, [.ref 296, .int (z1.2.2.2.1), .ref 297])), (296, .inr (.inl (0, (z1.2.2.1)))), (297, .inr (.inl (0, (z1.2.1)))), (298, .inl (3, [.ref 299, .ref 300, .ref 301, .ref 302, .ref 303, .ref 304, .ref 305, .ref 306, .int (z1.2.2.2.2.2.2.2.2.2.2.2.2.2.1), .int pk])), (299, .inr (.inl (0, (z1.2.2.2.2.2.2.2.2.2.2.2.2.2.2.2.2.2.2.1)))), (300, .inr (.inl (0, (z1.2.2.2.2.2.2.2.2.2.2.2.2.2.2.2.2.2.2.2.1)))), (301, .inr (.inl (0, (z1.2.2.2.2.2.2.2.2.2.2.2.2.2.2.2.2.2.2.2.2.1)))), (302, .inr (.inl (0, (z1.2.2.2.2.2.2.2.2.2.2.2.2.2.2.2.2.2.2.2.2.2.1)))), (303, .inr (.inl (0, (z1.2.2.2.2.2.2.2.2.2.2.2.2.2.2.2.2.2.2.2.2.2.2)))), (304, .inr (.inl (0, (z1.2.2.2.2.2.2.2.2.2.2.2.2.2.2.1)))), (305, .inr (.inl (0, (z1.2.2.2.2.2.2.2.2.2.2.2.2.2.2.2.1)))), (306, .inr (.inl (0, (z1.2.2.2.2.2.2.2.2.2.2.2.2.1)))), (343, .inl (2, [.int ns, .ref 344, .ref 345, .ref 346, .ref 347, .int nt, .ref 348, .ref 349, .ref 350, .ref 351, .ref 352, .ref 353, .ref 354, .int cel, .ref 355, .ref 356, .ref 357, .ref 358])), (347, .inr (.inl (0, len))), (350, .inr (.inl (0, frm))), (351, .inr (.inl (0, tto))), (354, .inr (.inl (0, wei))), (355, .inr (.inl (0, fit))), (356, .inr (.inl (0, way))), (357, .inr (.inl (0, rid))), (358, .inr (.inl (0, lon)))] h0 := K.mg K9 rfl rfl
          clear K9
          show j_V jP _ 92 60 lv [.int (z1.1)] h9 _
          refine j_V.ifc xd45_M xd45_60 (t := 78) rfl (fun c60_2 => ?_) (fun c60_2 => ?_)
          · replace c60_2 : ¬ ((z1.1) = 0) := jd_ne c60_2
            refine j_V.inL xd45_M xd45_78 (i := 5) (kl' := [(0, .ref 282), (1, .int v1), (2, .int v2), (3, .int v3), (4, .int v4), (5, .int (v5 + 1))]) (pcJ := 81) L rfl rfl rfl rfl (fun lv L => ?_)
            refine j_V.gto xd45_M xd45_81 (t := 11) rfl ?_
            subst ez1
            rw [show (x_advance_l11 shu lks rk sta he lkd pk nt len frm tto wei fit way rid lon v1 v2 v3 v4 (f + 1) v5 sea row rl bus ph sp ce du ri cm lf pfa pev prs prr mi us pms pmm pmt pst pwa) = _ from ((if_pos c23_0).trans ((if_pos c27_1).trans ((if_neg c60_2).trans (rfl))))]
            exact ih _ _ _ _ _ _ _ _ _ _ _ _ _ _ _ _ _ _ _ _ _ _ _ (lpN_n e) L K
          · replace c60_2 : (z1.1) = 0 := jd_nen c60_2
            refine j_V.ldL xd45_M xd45_63 rfl (i := 0) (kd := 2) (v := .ref 282) (pcJ := 64) rfl L rfl rfl rfl ?_
            refine j_V.ldL xd45_M xd45_64 rfl (i := 0) (kd := 2) (v := .ref 282) (pcJ := 65) rfl L rfl rfl rfl ?_
            refine j_V.ldL xd45_M xd45_65 rfl (i := 4) (kd := 0) (v := .int v4) (pcJ := 67) rfl L rfl rfl rfl ?_
            refine j_V.cl xd45_M xd45_67 rfl (md := 3) (mj := 94) rfl (by decide) xd26_M (As := [.ref 282, .int v4]) (rest := [.ref 282]) (jk_spl3 (K.at rfl) rfl rfl rfl (Nat.le_of_ble_eq_true rfl) (Nat.le_of_ble_eq_true rfl)) (fun d => xd26_ok (K.fi [282, 284, 285, 288, 289, 343] rfl rfl)) ?_
            rintro r hz ⟨rfl, ez⟩
            rw [ez]
            clear ez
            show j_V jP _ 92 70 lv [.int (x_nextDue (z1.2.2.2.2.2.2.2.2.2.2.2.2.2.2.2.2.1) sta (z1.2.2.2.2.2.1) (z1.2.2.2.2.2.2.2.2.1) he nt v4), .ref 282] h9 _
            refine j_V.ldL xd45_M xd45_70 rfl (i := 0) (kd := 2) (v := .ref 282) (pcJ := 71) rfl L rfl rfl rfl ?_
            refine j_V.getK xd45_M xd45_71 (ci := 7) (j := 1) rfl K rfl rfl ?_
            refine j_V.one xd45_M xd45_74 (by decide) (pcJ := 75) (stJ := [.int ((x_nextDue (z1.2.2.2.2.2.2.2.2.2.2.2.2.2.2.2.2.1) sta (z1.2.2.2.2.2.1) (z1.2.2.2.2.2.2.2.2.1) he nt v4) - (z1.2.2.2.2.2.2.2.2.2.2.2.2.2.2.2.2.1)), .ref 282]) rfl ?_
            refine j_V.cl xd45_M xd45_75 rfl (md := 3) (mj := 95) rfl (by decide) xd39_M (As := [.ref 282, .int ((x_nextDue (z1.2.2.2.2.2.2.2.2.2.2.2.2.2.2.2.2.1) sta (z1.2.2.2.2.2.1) (z1.2.2.2.2.2.2.2.2.1) he nt v4) - (z1.2.2.2.2.2.2.2.2.2.2.2.2.2.2.2.2.1))]) (rest := []) (jk_spl3 (K.at rfl) rfl rfl rfl (Nat.le_of_ble_eq_true rfl) (Nat.le_of_ble_eq_true rfl)) (fun d => xd39_ok (K.fi [282, 285, 286, 290, 291, 298, 299, 300, 301, 302, 303, 343] rfl rfl)) ?_
            rintro r h9 ⟨rfl, K9⟩
            generalize ez3 : (x_endMinutes (z1.2.2.2.2.2.2.2.2.2.2.2.2.2.2.2.2.1) (z1.2.2.2.2.2.1) (z1.2.2.2.2.2.2.1) (z1.2.2.2.2.2.2.2.2.2.1) (z1.2.2.2.2.2.2.2.2.2.2.2.2.2.2.2.2.2.1) pk (z1.2.2.2.2.2.2.2.2.2.2.2.2.2.2.2.2.2.2.1) (z1.2.2.2.2.2.2.2.2.2.2.2.2.2.2.2.2.2.2.2.1) (z1.2.2.2.2.2.2.2.2.2.2.2.2.2.2.2.2.2.2.2.2.1) (z1.2.2.2.2.2.2.2.2.2.2.2.2.2.2.2.2.2.2.2.2.2.1) (z1.2.2.2.2.2.2.2.2.2.2.2.2.2.2.2.2.2.2.2.2.2.2) nt ((x_nextDue (z1.2.2.2.2.2.2.2.2.2.2.2.2.2.2.2.2.1) sta (z1.2.2.2.2.2.1) (z1.2.2.2.2.2.2.2.2.1) he nt v4) - (z1.2.2.2.2.2.2.2.2.2.2.2.2.2.2.2.2.1))) = z3 at K9 ⊢
            have K : KN h9 [(282, .inl (7, [.ref 343, .int (z3.1), .int shu, .int (z1.2.2.2.2.1), .ref 283, .ref 284, .ref 285, .ref 286, .ref 287, .ref 288, .ref 289, .ref 290, .ref 291, .ref 292, .ref 293, .int lks, .ref 294, .ref 295, .ref 298])), (283, .inr (.inl (0, rk))), (284, .inr (.inl (0, sta))), (285, .inr (.inl (0, (z1.2.2.2.2.2.1)))), (286, .inr (.inl (0, (z1.2.2.2.2.2.2.1)))), (287, .inr (.inl (0, (z1.2.2.2.2.2.2.2.1)))), (288, .inr (.inl (0, (z1.2.2.2.2.2.2.2.2.1)))), (289, .inr (.inl (0, he))), (290, .inr (.inl (0, (z1.2.2.2.2.2.2.2.2.2.1)))), (291, .inr (.inl (0, (z3.2.1)))), (292, .inr (.inl (0, (z1.2.2.2.2.2.2.2.2.2.2.1)))), (293, .inr (.inl (0, (z1.2.2.2.2.2.2.2.2.2.2.2.1)))), (294, .inr (.inl (0, lkd))), (295, .inl (5, [.ref 296, .int (z1.2.2.2.1), .ref 297])), (296, .inr (.inl (0, (z1.2.2.1)))), (297, .inr (.inl (0, (z1.2.1)))), (298, .inl (3, [.ref 299, .ref 300, .ref 301, .ref 302, .ref 303, .ref 304, .ref 305, .ref 306, .int (z1.2.2.2.2.2.2.2.2.2.2.2.2.2.1), .int pk])), (299, .inr (.inl (0, (z3.2.2.1)))), (300, .inr (.inl (0, (z3.2.2.2.1)))), (301, .inr (.inl (0, (z3.2.2.2.2.1)))), (302, .inr (.inl (0, (z3.2.2.2.2.2.1)))), (303, .inr (.inl (0, (z3.2.2.2.2.2.2)))), (304, .inr (.inl (0, (z1.2.2.2.2.2.2.2.2.2.2.2.2.2.2.1)))), (305, .inr (.inl (0, (z1.2.2.2.2.2.2.2.2.2.2.2.2.2.2.2.1)))), (306, .inr (.inl (0, (z1.2.2.2.2.2.2.2.2.2.2.2.2.1)))), (343, .inl (2, [.int ns, .ref 344, .ref 345, .ref 346, .ref 347, .int nt, .ref 348, .ref 349, .ref 350, .ref 351, .ref 352, .ref 353, .ref 354, .int cel, .ref 355, .ref 356, .ref 357, .ref 358])), (347, .inr (.inl (0, len))), (350, .inr (.inl (0, frm))), (351, .inr (.inl (0, tto))), (354, .inr (.inl (0, wei))), (355, .inr (.inl (0, fit))), (356, .inr (.inl (0, way))), (357, .inr (.inl (0, rid))), (358, .inr (.inl (0, lon)))] h0 := K.mg K9 rfl rfl
            clear K9
            show j_V jP _ 92 78 lv [] h9 _
            refine j_V.inL xd45_M xd45_78 (i := 5) (kl' := [(0, .ref 282), (1, .int v1), (2, .int v2), (3, .int v3), (4, .int v4), (5, .int (v5 + 1))]) (pcJ := 81) L rfl rfl rfl rfl (fun lv L => ?_)
            refine j_V.gto xd45_M xd45_81 (t := 11) rfl ?_
            subst ez3
            subst ez1
            rw [show (x_advance_l11 shu lks rk sta he lkd pk nt len frm tto wei fit way rid lon v1 v2 v3 v4 (f + 1) v5 sea row rl bus ph sp ce du ri cm lf pfa pev prs prr mi us pms pmm pmt pst pwa) = _ from ((if_pos c23_0).trans ((if_pos c27_1).trans ((if_pos c60_2).trans (rfl))))]
            exact ih _ _ _ _ _ _ _ _ _ _ _ _ _ _ _ _ _ _ _ _ _ _ _ (lpN_n e) L K
        · replace c27_1 : ¬ (v3 = 0) := jd_eqn c27_1
          refine j_V.ldL xd45_M xd45_30 rfl (i := 0) (kd := 2) (v := .ref 282) (pcJ := 31) rfl L rfl rfl rfl ?_
          refine j_V.one xd45_M xd45_31 (by decide) (pcJ := 32) (stJ := [.int 3, .ref 282]) rfl ?_
          refine j_V.cl xd45_M xd45_32 rfl (md := 3) (mj := 62) rfl (by decide) xd03_M (As := [.ref 282, .int 3]) (rest := []) (jk_spl3 (K.at rfl) rfl rfl rfl (Nat.le_of_ble_eq_true rfl) (Nat.le_of_ble_eq_true rfl)) (fun d => xd03_ok (K.fi [282, 285, 343] rfl rfl)) ?_
          rintro r hz ⟨rfl, ez⟩
          rw [ez]
          clear ez
          show j_V jP _ 92 35 lv [.int (x_count ph nt 3)] h _
          refine j_V.ldL xd45_M xd45_35 rfl (i := 0) (kd := 2) (v := .ref 282) (pcJ := 36) rfl L rfl rfl rfl ?_
          refine j_V.getK xd45_M xd45_36 (ci := 7) (j := 0) rfl K rfl rfl ?_
          refine j_V.getK xd45_M xd45_39 (ci := 2) (j := 5) rfl K rfl rfl ?_
          refine j_V.icmp xd45_M xd45_42 (t := 84) rfl (fun c42_2 => ?_) (fun c42_2 => ?_)
          · replace c42_2 : (x_count ph nt 3) = nt := jd_eq c42_2
            refine j_V.ldL xd45_M xd45_84 rfl (i := 0) (kd := 2) (v := .ref 282) (pcJ := 85) rfl L rfl rfl rfl ?_
            refine j_V.one xd45_M xd45_85 (by decide) (pcJ := 86) (stJ := [.int (-1), .ref 282]) rfl ?_
            refine j_V.cl xd45_M xd45_86 rfl (md := 3) (mj := 65) rfl (by decide) xd06_M (As := [.ref 282, .int (-1)]) (rest := []) (jk_spl3 (K.at rfl) rfl rfl rfl (Nat.le_of_ble_eq_true rfl) (Nat.le_of_ble_eq_true rfl)) (fun d => xd06_ok (K.fi [282, 284, 285, 292, 343, 351, 354, 358] rfl rfl)) ?_
            rintro r hz ⟨rfl, ez⟩
            rw [ez]
            clear ez
            show j_V jP _ 92 89 lv [.int (x_price sta ph cm nt tto wei lon (-1))] h _
            refine j_V.ri xd45_M xd45_89 ?_
            rw [show (x_advance_l11 shu lks rk sta he lkd pk nt len frm tto wei fit way rid lon v1 v2 v3 v4 (f + 1) v5 sea row rl bus ph sp ce du ri cm lf pfa pev prs prr mi us pms pmm pmt pst pwa) = _ from ((if_pos c23_0).trans ((if_neg c27_1).trans ((if_pos c42_2).trans (rfl))))]
            exact ⟨rfl, K⟩
          · replace c42_2 : ¬ ((x_count ph nt 3) = nt) := jd_eqn c42_2
            refine j_V.ldL xd45_M xd45_45 rfl (i := 0) (kd := 2) (v := .ref 282) (pcJ := 46) rfl L rfl rfl rfl ?_
            refine j_V.cl xd45_M xd45_46 rfl (md := 3) (mj := 78) rfl (by decide) xd21_M (As := [.ref 282]) (rest := []) (jk_spl3 (K.at rfl) rfl rfl rfl (Nat.le_of_ble_eq_true rfl) (Nat.le_of_ble_eq_true rfl)) (fun d => xd21_ok (K.fi [282, 285, 286, 290, 343, 347, 350, 351, 355] rfl rfl)) ?_
            rintro r hz ⟨rfl, ez⟩
            rw [ez]
            clear ez
            show j_V jP _ 92 49 lv [.int (x_isStuck shu bus ph sp ri nt len frm tto fit)] h _
            refine j_V.ifc xd45_M xd45_49 (t := 55) rfl (fun c49_3 => ?_) (fun c49_3 => ?_)
            · replace c49_3 : (x_isStuck shu bus ph sp ri nt len frm tto fit) = 0 := jd_eq c49_3
              refine j_V.ldL xd45_M xd45_55 rfl (i := 0) (kd := 2) (v := .ref 282) (pcJ := 56) rfl L rfl rfl rfl ?_
              refine j_V.ldL xd45_M xd45_56 rfl (i := 2) (kd := 0) (v := .int v2) (pcJ := 57) rfl L rfl rfl rfl ?_
              refine j_V.cl xd45_M xd45_57 rfl (md := 3) (mj := 93) rfl (by decide) xd44_M (As := [.ref 282, .int v2]) (rest := []) (jk_spl3 (K.at rfl) rfl rfl rfl (Nat.le_of_ble_eq_true rfl) (Nat.le_of_ble_eq_true rfl)) (fun d => xd44_ok (K.fi [282, 283, 284, 285, 286, 287, 288, 289, 290, 291, 292, 293, 294, 295, 296, 297, 298, 299, 300, 301, 302, 303, 304, 305, 306, 343, 347, 350, 351, 355, 356, 357] rfl rfl)) ?_
              rintro r h9 ⟨rfl, K9⟩
              generalize ez4 : (x_passMinute mi shu bus lks rk sta ph sp ce du he ri us cm lf lkd rl row sea pev pk pms pmm pmt pst pwa prs prr pfa nt len frm tto fit way rid v2) = z4 at K9 ⊢
              have K : KN h9 [(282, .inl (7, [.ref 343, .int (z4.2.2.2.2.2.2.2.2.2.2.2.2.2.2.2.2.1), .int shu, .int (z4.2.2.2.2.1), .ref 283, .ref 284, .ref 285, .ref 286, .ref 287, .ref 288, .ref 289, .ref 290, .ref 291, .ref 292, .ref 293, .int lks, .ref 294, .ref 295, .ref 298])), (283, .inr (.inl (0, rk))), (284, .inr (.inl (0, sta))), (285, .inr (.inl (0, (z4.2.2.2.2.2.1)))), (286, .inr (.inl (0, (z4.2.2.2.2.2.2.1)))), (287, .inr (.inl (0, (z4.2.2.2.2.2.2.2.1)))), (288, .inr (.inl (0, (z4.2.2.2.2.2.2.2.2.1)))), (289, .inr (.inl (0, he))), (290, .inr (.inl (0, (z4.2.2.2.2.2.2.2.2.2.1)))), (291, .inr (.inl (0, (z4.2.2.2.2.2.2.2.2.2.2.2.2.2.2.2.2.2.1)))), (292, .inr (.inl (0, (z4.2.2.2.2.2.2.2.2.2.2.1)))), (293, .inr (.inl (0, (z4.2.2.2.2.2.2.2.2.2.2.2.1)))), (294, .inr (.inl (0, lkd))), (295, .inl (5, [.ref 296, .int (z4.2.2.2.1), .ref 297])), (296, .inr (.inl (0, (z4.2.2.1)))), (297, .inr (.inl (0, (z4.2.1)))), (298, .inl (3, [.ref 299, .ref 300, .ref 301, .ref 302, .ref 303, .ref 304, .ref 305, .ref 306, .int (z4.2.2.2.2.2.2.2.2.2.2.2.2.2.1), .int pk])), (299, .inr (.inl (0, (z4.2.2.2.2.2.2.2.2.2.2.2.2.2.2.2.2.2.2.1)))), (300, .inr (.inl (0, (z4.2.2.2.2.2.2.2.2.2.2.2.2.2.2.2.2.2.2.2.1)))), (301, .inr (.inl (0, (z4.2.2.2.2.2.2.2.2.2.2.2.2.2.2.2.2.2.2.2.2.1)))), (302, .inr (.inl (0, (z4.2.2.2.2.2.2.2.2.2.2.2.2.2.2.2.2.2.2.2.2.2.1)))), (303, .inr (.inl (0, (z4.2.2.2.2.2.2.2.2.2.2.2.2.2.2.2.2.2.2.2.2.2.2)))), (304, .inr (.inl (0, (z4.2.2.2.2.2.2.2.2.2.2.2.2.2.2.1)))), (305, .inr (.inl (0, (z4.2.2.2.2.2.2.2.2.2.2.2.2.2.2.2.1)))), (306, .inr (.inl (0, (z4.2.2.2.2.2.2.2.2.2.2.2.2.1)))), (343, .inl (2, [.int ns, .ref 344, .ref 345, .ref 346, .ref 347, .int nt, .ref 348, .ref 349, .ref 350, .ref 351, .ref 352, .ref 353, .ref 354, .int cel, .ref 355, .ref 356, .ref 357, .ref 358])), (347, .inr (.inl (0, len))), (350, .inr (.inl (0, frm))), (351, .inr (.inl (0, tto))), (354, .inr (.inl (0, wei))), (355, .inr (.inl (0, fit))), (356, .inr (.inl (0, way))), (357, .inr (.inl (0, rid))), (358, .inr (.inl (0, lon)))] h0 := K.mg K9 rfl rfl
              clear K9
              show j_V jP _ 92 60 lv [.int (z4.1)] h9 _
              refine j_V.ifc xd45_M xd45_60 (t := 78) rfl (fun c60_4 => ?_) (fun c60_4 => ?_)
              · replace c60_4 : ¬ ((z4.1) = 0) := jd_ne c60_4
                refine j_V.inL xd45_M xd45_78 (i := 5) (kl' := [(0, .ref 282), (1, .int v1), (2, .int v2), (3, .int v3), (4, .int v4), (5, .int (v5 + 1))]) (pcJ := 81) L rfl rfl rfl rfl (fun lv L => ?_)
                refine j_V.gto xd45_M xd45_81 (t := 11) rfl ?_
                subst ez4
                rw [show (x_advance_l11 shu lks rk sta he lkd pk nt len frm tto wei fit way rid lon v1 v2 v3 v4 (f + 1) v5 sea row rl bus ph sp ce du ri cm lf pfa pev prs prr mi us pms pmm pmt pst pwa) = _ from ((if_pos c23_0).trans ((if_neg c27_1).trans ((if_neg c42_2).trans ((if_pos c49_3).trans ((if_neg c60_4).trans (rfl))))))]
                exact ih _ _ _ _ _ _ _ _ _ _ _ _ _ _ _ _ _ _ _ _ _ _ _ (lpN_n e) L K
              · replace c60_4 : (z4.1) = 0 := jd_nen c60_4
                refine j_V.ldL xd45_M xd45_63 rfl (i := 0) (kd := 2) (v := .ref 282) (pcJ := 64) rfl L rfl rfl rfl ?_
                refine j_V.ldL xd45_M xd45_64 rfl (i := 0) (kd := 2) (v := .ref 282) (pcJ := 65) rfl L rfl rfl rfl ?_
                refine j_V.ldL xd45_M xd45_65 rfl (i := 4) (kd := 0) (v := .int v4) (pcJ := 67) rfl L rfl rfl rfl ?_
                refine j_V.cl xd45_M xd45_67 rfl (md := 3) (mj := 94) rfl (by decide) xd26_M (As := [.ref 282, .int v4]) (rest := [.ref 282]) (jk_spl3 (K.at rfl) rfl rfl rfl (Nat.le_of_ble_eq_true rfl) (Nat.le_of_ble_eq_true rfl)) (fun d => xd26_ok (K.fi [282, 284, 285, 288, 289, 343] rfl rfl)) ?_
                rintro r hz ⟨rfl, ez⟩
                rw [ez]
                clear ez
                show j_V jP _ 92 70 lv [.int (x_nextDue (z4.2.2.2.2.2.2.2.2.2.2.2.2.2.2.2.2.1) sta (z4.2.2.2.2.2.1) (z4.2.2.2.2.2.2.2.2.1) he nt v4), .ref 282] h9 _
                refine j_V.ldL xd45_M xd45_70 rfl (i := 0) (kd := 2) (v := .ref 282) (pcJ := 71) rfl L rfl rfl rfl ?_
                refine j_V.getK xd45_M xd45_71 (ci := 7) (j := 1) rfl K rfl rfl ?_
                refine j_V.one xd45_M xd45_74 (by decide) (pcJ := 75) (stJ := [.int ((x_nextDue (z4.2.2.2.2.2.2.2.2.2.2.2.2.2.2.2.2.1) sta (z4.2.2.2.2.2.1) (z4.2.2.2.2.2.2.2.2.1) he nt v4) - (z4.2.2.2.2.2.2.2.2.2.2.2.2.2.2.2.2.1)), .ref 282]) rfl ?_
                refine j_V.cl xd45_M xd45_75 rfl (md := 3) (mj := 95) rfl (by decide) xd39_M (As := [.ref 282, .int ((x_nextDue (z4.2.2.2.2.2.2.2.2.2.2.2.2.2.2.2.2.1) sta (z4.2.2.2.2.2.1) (z4.2.2.2.2.2.2.2.2.1) he nt v4) - (z4.2.2.2.2.2.2.2.2.2.2.2.2.2.2.2.2.1))]) (rest := []) (jk_spl3 (K.at rfl) rfl rfl rfl (Nat.le_of_ble_eq_true rfl) (Nat.le_of_ble_eq_true rfl)) (fun d => xd39_ok (K.fi [282, 285, 286, 290, 291, 298, 299, 300, 301, 302, 303, 343] rfl rfl)) ?_
                rintro r h9 ⟨rfl, K9⟩
                generalize ez6 : (x_endMinutes (z4.2.2.2.2.2.2.2.2.2.2.2.2.2.2.2.2.1) (z4.2.2.2.2.2.1) (z4.2.2.2.2.2.2.1) (z4.2.2.2.2.2.2.2.2.2.1) (z4.2.2.2.2.2.2.2.2.2.2.2.2.2.2.2.2.2.1) pk (z4.2.2.2.2.2.2.2.2.2.2.2.2.2.2.2.2.2.2.1) (z4.2.2.2.2.2.2.2.2.2.2.2.2.2.2.2.2.2.2.2.1) (z4.2.2.2.2.2.2.2.2.2.2.2.2.2.2.2.2.2.2.2.2.1) (z4.2.2.2.2.2.2.2.2.2.2.2.2.2.2.2.2.2.2.2.2.2.1) (z4.2.2.2.2.2.2.2.2.2.2.2.2.2.2.2.2.2.2.2.2.2.2) nt ((x_nextDue (z4.2.2.2.2.2.2.2.2.2.2.2.2.2.2.2.2.1) sta (z4.2.2.2.2.2.1) (z4.2.2.2.2.2.2.2.2.1) he nt v4) - (z4.2.2.2.2.2.2.2.2.2.2.2.2.2.2.2.2.1))) = z6 at K9 ⊢
                have K : KN h9 [(282, .inl (7, [.ref 343, .int (z6.1), .int shu, .int (z4.2.2.2.2.1), .ref 283, .ref 284, .ref 285, .ref 286, .ref 287, .ref 288, .ref 289, .ref 290, .ref 291, .ref 292, .ref 293, .int lks, .ref 294, .ref 295, .ref 298])), (283, .inr (.inl (0, rk))), (284, .inr (.inl (0, sta))), (285, .inr (.inl (0, (z4.2.2.2.2.2.1)))), (286, .inr (.inl (0, (z4.2.2.2.2.2.2.1)))), (287, .inr (.inl (0, (z4.2.2.2.2.2.2.2.1)))), (288, .inr (.inl (0, (z4.2.2.2.2.2.2.2.2.1)))), (289, .inr (.inl (0, he))), (290, .inr (.inl (0, (z4.2.2.2.2.2.2.2.2.2.1)))), (291, .inr (.inl (0, (z6.2.1)))), (292, .inr (.inl (0, (z4.2.2.2.2.2.2.2.2.2.2.1)))), (293, .inr (.inl (0, (z4.2.2.2.2.2.2.2.2.2.2.2.1)))), (294, .inr (.inl (0, lkd))), (295, .inl (5, [.ref 296, .int (z4.2.2.2.1), .ref 297])), (296, .inr (.inl (0, (z4.2.2.1)))), (297, .inr (.inl (0, (z4.2.1)))), (298, .inl (3, [.ref 299, .ref 300, .ref 301, .ref 302, .ref 303, .ref 304, .ref 305, .ref 306, .int (z4.2.2.2.2.2.2.2.2.2.2.2.2.2.1), .int pk])), (299, .inr (.inl (0, (z6.2.2.1)))), (300, .inr (.inl (0, (z6.2.2.2.1)))), (301, .inr (.inl (0, (z6.2.2.2.2.1)))), (302, .inr (.inl (0, (z6.2.2.2.2.2.1)))), (303, .inr (.inl (0, (z6.2.2.2.2.2.2)))), (304, .inr (.inl (0, (z4.2.2.2.2.2.2.2.2.2.2.2.2.2.2.1)))), (305, .inr (.inl (0, (z4.2.2.2.2.2.2.2.2.2.2.2.2.2.2.2.1)))), (306, .inr (.inl (0, (z4.2.2.2.2.2.2.2.2.2.2.2.2.1)))), (343, .inl (2, [.int ns, .ref 344, .ref 345, .ref 346, .ref 347, .int nt, .ref 348, .ref 349, .ref 350, .ref 351, .ref 352, .ref 353, .ref 354, .int cel, .ref 355, .ref 356, .ref 357, .ref 358])), (347, .inr (.inl (0, len))), (350, .inr (.inl (0, frm))), (351, .inr (.inl (0, tto))), (354, .inr (.inl (0, wei))), (355, .inr (.inl (0, fit))), (356, .inr (.inl (0, way))), (357, .inr (.inl (0, rid))), (358, .inr (.inl (0, lon)))] h0 := K.mg K9 rfl rfl
                clear K9
                show j_V jP _ 92 78 lv [] h9 _
                refine j_V.inL xd45_M xd45_78 (i := 5) (kl' := [(0, .ref 282), (1, .int v1), (2, .int v2), (3, .int v3), (4, .int v4), (5, .int (v5 + 1))]) (pcJ := 81) L rfl rfl rfl rfl (fun lv L => ?_)
                refine j_V.gto xd45_M xd45_81 (t := 11) rfl ?_
                subst ez6
                subst ez4
                rw [show (x_advance_l11 shu lks rk sta he lkd pk nt len frm tto wei fit way rid lon v1 v2 v3 v4 (f + 1) v5 sea row rl bus ph sp ce du ri cm lf pfa pev prs prr mi us pms pmm pmt pst pwa) = _ from ((if_pos c23_0).trans ((if_neg c27_1).trans ((if_neg c42_2).trans ((if_pos c49_3).trans ((if_pos c60_4).trans (rfl))))))]
                exact ih _ _ _ _ _ _ _ _ _ _ _ _ _ _ _ _ _ _ _ _ _ _ _ (lpN_n e) L K
            · replace c49_3 : ¬ ((x_isStuck shu bus ph sp ri nt len frm tto fit) = 0) := jd_eqn c49_3
              refine j_V.gto xd45_M xd45_52 (t := 84) rfl ?_
              refine j_V.ldL xd45_M xd45_84 rfl (i := 0) (kd := 2) (v := .ref 282) (pcJ := 85) rfl L rfl rfl rfl ?_
              refine j_V.one xd45_M xd45_85 (by decide) (pcJ := 86) (stJ := [.int (-1), .ref 282]) rfl ?_
              refine j_V.cl xd45_M xd45_86 rfl (md := 3) (mj := 65) rfl (by decide) xd06_M (As := [.ref 282, .int (-1)]) (rest := []) (jk_spl3 (K.at rfl) rfl rfl rfl (Nat.le_of_ble_eq_true rfl) (Nat.le_of_ble_eq_true rfl)) (fun d => xd06_ok (K.fi [282, 284, 285, 292, 343, 351, 354, 358] rfl rfl)) ?_
              rintro r hz ⟨rfl, ez⟩
              rw [ez]
              clear ez
              show j_V jP _ 92 89 lv [.int (x_price sta ph cm nt tto wei lon (-1))] h _
              refine j_V.ri xd45_M xd45_89 ?_
              rw [show (x_advance_l11 shu lks rk sta he lkd pk nt len frm tto wei fit way rid lon v1 v2 v3 v4 (f + 1) v5 sea row rl bus ph sp ce du ri cm lf pfa pev prs prr mi us pms pmm pmt pst pwa) = _ from ((if_pos c23_0).trans ((if_neg c27_1).trans ((if_neg c42_2).trans ((if_neg c49_3).trans (rfl)))))]
              exact ⟨rfl, K⟩
set_option maxRecDepth 1000000 in
theorem xd45_ok {mi : Int32} {shu : Int32} {bus : Int32} {lks : Int32} {rk : List Int32} {sta : List Int32} {ph : List Int32} {sp : List Int32} {ce : List Int32} {du : List Int32} {he : List Int32} {ri : List Int32} {us : List Int32} {cm : List Int32} {lf : List Int32} {lkd : List Int32} {rl : Int32} {row : List Int32} {sea : List Int32} {pev : Int32} {pk : Int32} {pms : List Int32} {pmm : List Int32} {pmt : List Int32} {pst : List Int32} {pwa : List Int32} {prs : List Int32} {prr : List Int32} {pfa : List Int32} {ns : Int32} {nt : Int32} {cel : Int32} {len : List Int32} {frm : List Int32} {tto : List Int32} {wei : List Int32} {fit : List Int32} {way : List Int32} {rid : List Int32} {lon : List Int32} {x1 x2 x3 : Int32} {d : Nat} {h h0 : J_H} (K : KN h [(282, .inl (7, [.ref 343, .int mi, .int shu, .int bus, .ref 283, .ref 284, .ref 285, .ref 286, .ref 287, .ref 288, .ref 289, .ref 290, .ref 291, .ref 292, .ref 293, .int lks, .ref 294, .ref 295, .ref 298])), (283, .inr (.inl (0, rk))), (284, .inr (.inl (0, sta))), (285, .inr (.inl (0, ph))), (286, .inr (.inl (0, sp))), (287, .inr (.inl (0, ce))), (288, .inr (.inl (0, du))), (289, .inr (.inl (0, he))), (290, .inr (.inl (0, ri))), (291, .inr (.inl (0, us))), (292, .inr (.inl (0, cm))), (293, .inr (.inl (0, lf))), (294, .inr (.inl (0, lkd))), (295, .inl (5, [.ref 296, .int rl, .ref 297])), (296, .inr (.inl (0, row))), (297, .inr (.inl (0, sea))), (298, .inl (3, [.ref 299, .ref 300, .ref 301, .ref 302, .ref 303, .ref 304, .ref 305, .ref 306, .int pev, .int pk])), (299, .inr (.inl (0, pms))), (300, .inr (.inl (0, pmm))), (301, .inr (.inl (0, pmt))), (302, .inr (.inl (0, pst))), (303, .inr (.inl (0, pwa))), (304, .inr (.inl (0, prs))), (305, .inr (.inl (0, prr))), (306, .inr (.inl (0, pfa))), (343, .inl (2, [.int ns, .ref 344, .ref 345, .ref 346, .ref 347, .int nt, .ref 348, .ref 349, .ref 350, .ref 351, .ref 352, .ref 353, .ref 354, .int cel, .ref 355, .ref 356, .ref 357, .ref 358])), (347, .inr (.inl (0, len))), (350, .inr (.inl (0, frm))), (351, .inr (.inl (0, tto))), (354, .inr (.inl (0, wei))), (355, .inr (.inl (0, fit))), (356, .inr (.inl (0, way))), (357, .inr (.inl (0, rid))), (358, .inr (.inl (0, lon)))] h0) : j_V jP d 92 0 (lv_args 0 [.ref 282, .int x1, .int x2, .int x3]) [] h (fun rv h' => rv = some (.int (x_advance mi shu bus lks rk sta ph sp ce du he ri us cm lf lkd rl row sea pev pk pms pmm pmt pst pwa prs prr pfa nt len frm tto wei fit way rid lon x1 x2 x3).1) ∧ KN h' [(282, .inl (7, [.ref 343, .int (x_advance mi shu bus lks rk sta ph sp ce du he ri us cm lf lkd rl row sea pev pk pms pmm pmt pst pwa prs prr pfa nt len frm tto wei fit way rid lon x1 x2 x3).2.2.2.2.2.2.2.2.2.2.2.2.2.2.2.2.1, .int shu, .int (x_advance mi shu bus lks rk sta ph sp ce du he ri us cm lf lkd rl row sea pev pk pms pmm pmt pst pwa prs prr pfa nt len frm tto wei fit way rid lon x1 x2 x3).2.2.2.2.1, .ref 283, .ref 284, .ref 285, .ref 286, .ref 287, .ref 288, .ref 289, .ref 290, .ref 291, .ref 292, .ref 293, .int lks, .ref 294, .ref 295, .ref 298])), (283, .inr (.inl (0, rk))), (284, .inr (.inl (0, sta))), (285, .inr (.inl (0, (x_advance mi shu bus lks rk sta ph sp ce du he ri us cm lf lkd rl row sea pev pk pms pmm pmt pst pwa prs prr pfa nt len frm tto wei fit way rid lon x1 x2 x3).2.2.2.2.2.1))), (286, .inr (.inl (0, (x_advance mi shu bus lks rk sta ph sp ce du he ri us cm lf lkd rl row sea pev pk pms pmm pmt pst pwa prs prr pfa nt len frm tto wei fit way rid lon x1 x2 x3).2.2.2.2.2.2.1))), (287, .inr (.inl (0, (x_advance mi shu bus lks rk sta ph sp ce du he ri us cm lf lkd rl row sea pev pk pms pmm pmt pst pwa prs prr pfa nt len frm tto wei fit way rid lon x1 x2 x3).2.2.2.2.2.2.2.1))), (288, .inr (.inl (0, (x_advance mi shu bus lks rk sta ph sp ce du he ri us cm lf lkd rl row sea pev pk pms pmm pmt pst pwa prs prr pfa nt len frm tto wei fit way rid lon x1 x2 x3).2.2.2.2.2.2.2.2.1))), (289, .inr (.inl (0, he))), (290, .inr (.inl (0, (x_advance mi shu bus lks rk sta ph sp ce du he ri us cm lf lkd rl row sea pev pk pms pmm pmt pst pwa prs prr pfa nt len frm tto wei fit way rid lon x1 x2 x3).2.2.2.2.2.2.2.2.2.1))), (291, .inr (.inl (0, (x_advance mi shu bus lks rk sta ph sp ce du he ri us cm lf lkd rl row sea pev pk pms pmm pmt pst pwa prs prr pfa nt len frm tto wei fit way rid lon x1 x2 x3).2.2.2.2.2.2.2.2.2.2.2.2.2.2.2.2.2.1))), (292, .inr (.inl (0, (x_advance mi shu bus lks rk sta ph sp ce du he ri us cm lf lkd rl row sea pev pk pms pmm pmt pst pwa prs prr pfa nt len frm tto wei fit way rid lon x1 x2 x3).2.2.2.2.2.2.2.2.2.2.1))), (293, .inr (.inl (0, (x_advance mi shu bus lks rk sta ph sp ce du he ri us cm lf lkd rl row sea pev pk pms pmm pmt pst pwa prs prr pfa nt len frm tto wei fit way rid lon x1 x2 x3).2.2.2.2.2.2.2.2.2.2.2.1))), (294, .inr (.inl (0, lkd))), (295, .inl (5, [.ref 296, .int (x_advance mi shu bus lks rk sta ph sp ce du he ri us cm lf lkd rl row sea pev pk pms pmm pmt pst pwa prs prr pfa nt len frm tto wei fit way rid lon x1 x2 x3).2.2.2.1, .ref 297])), (296, .inr (.inl (0, (x_advance mi shu bus lks rk sta ph sp ce du he ri us cm lf lkd rl row sea pev pk pms pmm pmt pst pwa prs prr pfa nt len frm tto wei fit way rid lon x1 x2 x3).2.2.1))), (297, .inr (.inl (0, (x_advance mi shu bus lks rk sta ph sp ce du he ri us cm lf lkd rl row sea pev pk pms pmm pmt pst pwa prs prr pfa nt len frm tto wei fit way rid lon x1 x2 x3).2.1))), (298, .inl (3, [.ref 299, .ref 300, .ref 301, .ref 302, .ref 303, .ref 304, .ref 305, .ref 306, .int (x_advance mi shu bus lks rk sta ph sp ce du he ri us cm lf lkd rl row sea pev pk pms pmm pmt pst pwa prs prr pfa nt len frm tto wei fit way rid lon x1 x2 x3).2.2.2.2.2.2.2.2.2.2.2.2.2.1, .int pk])), (299, .inr (.inl (0, (x_advance mi shu bus lks rk sta ph sp ce du he ri us cm lf lkd rl row sea pev pk pms pmm pmt pst pwa prs prr pfa nt len frm tto wei fit way rid lon x1 x2 x3).2.2.2.2.2.2.2.2.2.2.2.2.2.2.2.2.2.2.1))), (300, .inr (.inl (0, (x_advance mi shu bus lks rk sta ph sp ce du he ri us cm lf lkd rl row sea pev pk pms pmm pmt pst pwa prs prr pfa nt len frm tto wei fit way rid lon x1 x2 x3).2.2.2.2.2.2.2.2.2.2.2.2.2.2.2.2.2.2.2.1))), (301, .inr (.inl (0, (x_advance mi shu bus lks rk sta ph sp ce du he ri us cm lf lkd rl row sea pev pk pms pmm pmt pst pwa prs prr pfa nt len frm tto wei fit way rid lon x1 x2 x3).2.2.2.2.2.2.2.2.2.2.2.2.2.2.2.2.2.2.2.2.1))), (302, .inr (.inl (0, (x_advance mi shu bus lks rk sta ph sp ce du he ri us cm lf lkd rl row sea pev pk pms pmm pmt pst pwa prs prr pfa nt len frm tto wei fit way rid lon x1 x2 x3).2.2.2.2.2.2.2.2.2.2.2.2.2.2.2.2.2.2.2.2.2.1))), (303, .inr (.inl (0, (x_advance mi shu bus lks rk sta ph sp ce du he ri us cm lf lkd rl row sea pev pk pms pmm pmt pst pwa prs prr pfa nt len frm tto wei fit way rid lon x1 x2 x3).2.2.2.2.2.2.2.2.2.2.2.2.2.2.2.2.2.2.2.2.2.2))), (304, .inr (.inl (0, (x_advance mi shu bus lks rk sta ph sp ce du he ri us cm lf lkd rl row sea pev pk pms pmm pmt pst pwa prs prr pfa nt len frm tto wei fit way rid lon x1 x2 x3).2.2.2.2.2.2.2.2.2.2.2.2.2.2.1))), (305, .inr (.inl (0, (x_advance mi shu bus lks rk sta ph sp ce du he ri us cm lf lkd rl row sea pev pk pms pmm pmt pst pwa prs prr pfa nt len frm tto wei fit way rid lon x1 x2 x3).2.2.2.2.2.2.2.2.2.2.2.2.2.2.2.1))), (306, .inr (.inl (0, (x_advance mi shu bus lks rk sta ph sp ce du he ri us cm lf lkd rl row sea pev pk pms pmm pmt pst pwa prs prr pfa nt len frm tto wei fit way rid lon x1 x2 x3).2.2.2.2.2.2.2.2.2.2.2.2.1))), (343, .inl (2, [.int ns, .ref 344, .ref 345, .ref 346, .ref 347, .int nt, .ref 348, .ref 349, .ref 350, .ref 351, .ref 352, .ref 353, .ref 354, .int cel, .ref 355, .ref 356, .ref 357, .ref 358])), (347, .inr (.inl (0, len))), (350, .inr (.inl (0, frm))), (351, .inr (.inl (0, tto))), (354, .inr (.inl (0, wei))), (355, .inr (.inl (0, fit))), (356, .inr (.inl (0, way))), (357, .inr (.inl (0, rid))), (358, .inr (.inl (0, lon)))] h0) := by
  show j_V jP d 92 0 [(0, .ref 282), (1, .int x1), (2, .int x2), (3, .int x3)] [] h _
  obtain ⟨lv, elv, L⟩ : ∃ lv, lv = [(0, .ref 282), (1, .int x1), (2, .int x2), (3, .int x3)] ∧ LK lv [(0, .ref 282), (1, .int x1), (2, .int x2), (3, .int x3)] := ⟨_, rfl, LK.rf⟩
  rw [← elv]
  clear elv
  refine j_V.ldL xd45_M xd45_0 rfl (i := 0) (kd := 2) (v := .ref 282) (pcJ := 1) rfl L rfl rfl rfl ?_
  refine j_V.getK xd45_M xd45_1 (ci := 7) (j := 1) rfl K rfl rfl ?_
  refine j_V.ldL xd45_M xd45_4 rfl (i := 1) (kd := 0) (v := .int x1) (pcJ := 5) rfl L rfl rfl rfl ?_
  refine j_V.one xd45_M xd45_5 (by decide) (pcJ := 6) (stJ := [.int (mi + x1)]) rfl ?_
  refine j_V.stL xd45_M xd45_6 rfl (i := 4) (kd := 0) (kl' := [(0, .ref 282), (1, .int x1), (2, .int x2), (3, .int x3), (4, .int (mi + x1))]) (pcJ := 8) rfl L rfl (by decide) rfl rfl rfl (fun lv L => ?_)
  refine j_V.one xd45_M xd45_8 (by decide) (pcJ := 9) (stJ := [.int 0]) rfl ?_
  refine j_V.stL xd45_M xd45_9 rfl (i := 5) (kd := 0) (kl' := [(0, .ref 282), (1, .int x1), (2, .int x2), (3, .int x3), (4, .int (mi + x1)), (5, .int 0)]) (pcJ := 11) rfl L rfl (by decide) rfl rfl rfl (fun lv L => ?_)
  rw [show (x_advance mi shu bus lks rk sta ph sp ce du he ri us cm lf lkd rl row sea pev pk pms pmm pmt pst pwa prs prr pfa nt len frm tto wei fit way rid lon x1 x2 x3) = _ from (rfl)]
  exact xd45_ok_l11 _ _ _ _ _ _ _ _ _ _ _ _ _ _ _ _ _ _ _ _ _ _ _ _ rfl L K
