/-! the class's methods that write (state 4, layout 343), by wip/px/gen_x2.py -/
set_option maxRecDepth 100000 in
theorem xb28_M : j_meth jP 100 = some (yX7_takeCell, cX7_takeCell, 3, none, 2, false, 7) := rfl
set_option maxRecDepth 100000 in
theorem xb28_0 : j_code jP 100 0 = some (.aload_n 0) := rfl
set_option maxRecDepth 100000 in
theorem xb28_1 : j_code jP 100 1 = some (.getfield 24) := rfl
set_option maxRecDepth 100000 in
theorem xb28_4 : j_code jP 100 4 = some (.iload_n 1) := rfl
set_option maxRecDepth 100000 in
theorem xb28_5 : j_code jP 100 5 = some (.iaload) := rfl
set_option maxRecDepth 100000 in
theorem xb28_6 : j_code jP 100 6 = some (.iconst (-1)) := rfl
set_option maxRecDepth 100000 in
theorem xb28_7 : j_code jP 100 7 = some (.if_icmp .eq 22) := rfl
set_option maxRecDepth 100000 in
theorem xb28_10 : j_code jP 100 10 = some (.aload_n 0) := rfl
set_option maxRecDepth 100000 in
theorem xb28_11 : j_code jP 100 11 = some (.dup) := rfl
set_option maxRecDepth 100000 in
theorem xb28_12 : j_code jP 100 12 = some (.getfield 75) := rfl
set_option maxRecDepth 100000 in
theorem xb28_15 : j_code jP 100 15 = some (.iconst 1) := rfl
set_option maxRecDepth 100000 in
theorem xb28_16 : j_code jP 100 16 = some (.aload_n 0) := rfl
set_option maxRecDepth 100000 in
theorem xb28_17 : j_code jP 100 17 = some (.getfield 24) := rfl
set_option maxRecDepth 100000 in
theorem xb28_20 : j_code jP 100 20 = some (.iload_n 1) := rfl
set_option maxRecDepth 100000 in
theorem xb28_21 : j_code jP 100 21 = some (.iaload) := rfl
set_option maxRecDepth 100000 in
theorem xb28_22 : j_code jP 100 22 = some (.ishl) := rfl
set_option maxRecDepth 100000 in
theorem xb28_23 : j_code jP 100 23 = some (.iconst (-1)) := rfl
set_option maxRecDepth 100000 in
theorem xb28_24 : j_code jP 100 24 = some (.ixor) := rfl
set_option maxRecDepth 100000 in
theorem xb28_25 : j_code jP 100 25 = some (.iand) := rfl
set_option maxRecDepth 100000 in
theorem xb28_26 : j_code jP 100 26 = some (.putfield 75) := rfl
set_option maxRecDepth 100000 in
theorem xb28_29 : j_code jP 100 29 = some (.aload_n 0) := rfl
set_option maxRecDepth 100000 in
theorem xb28_30 : j_code jP 100 30 = some (.getfield 24) := rfl
set_option maxRecDepth 100000 in
theorem xb28_33 : j_code jP 100 33 = some (.iload_n 1) := rfl
set_option maxRecDepth 100000 in
theorem xb28_34 : j_code jP 100 34 = some (.iload_n 2) := rfl
set_option maxRecDepth 100000 in
theorem xb28_35 : j_code jP 100 35 = some (.iastore) := rfl
set_option maxRecDepth 100000 in
theorem xb28_36 : j_code jP 100 36 = some (.iload_n 2) := rfl
set_option maxRecDepth 100000 in
theorem xb28_37 : j_code jP 100 37 = some (.iconst (-1)) := rfl
set_option maxRecDepth 100000 in
theorem xb28_38 : j_code jP 100 38 = some (.if_icmp .eq 15) := rfl
set_option maxRecDepth 100000 in
theorem xb28_41 : j_code jP 100 41 = some (.aload_n 0) := rfl
set_option maxRecDepth 100000 in
theorem xb28_42 : j_code jP 100 42 = some (.dup) := rfl
set_option maxRecDepth 100000 in
theorem xb28_43 : j_code jP 100 43 = some (.getfield 75) := rfl
set_option maxRecDepth 100000 in
theorem xb28_46 : j_code jP 100 46 = some (.iconst 1) := rfl
set_option maxRecDepth 100000 in
theorem xb28_47 : j_code jP 100 47 = some (.iload_n 2) := rfl
set_option maxRecDepth 100000 in
theorem xb28_48 : j_code jP 100 48 = some (.ishl) := rfl
set_option maxRecDepth 100000 in
theorem xb28_49 : j_code jP 100 49 = some (.ior) := rfl
set_option maxRecDepth 100000 in
theorem xb28_50 : j_code jP 100 50 = some (.putfield 75) := rfl
set_option maxRecDepth 100000 in
theorem xb28_53 : j_code jP 100 53 = some (.return_) := rfl
set_option maxRecDepth 1000000 in
theorem xb28_ok {mi : Int32} {shu : Int32} {bus : Int32} {lks : Int32} {ce : List Int32} {x1 x2 : Int32} {d : Nat} {h h0 : J_H} (K : KN h [(4, .inl (7, [.ref 343, .int mi, .int shu, .int bus, .ref 5, .ref 6, .ref 7, .ref 8, .ref 9, .ref 10, .ref 11, .ref 12, .ref 13, .ref 14, .ref 15, .int lks, .ref 16, .ref 17, .ref 20])), (9, .inr (.inl (0, ce)))] h0) : j_V jP d 100 0 (lv_args 0 [.ref 4, .int x1, .int x2]) [] h (fun rv h' => rv = none ∧ KN h' [(4, .inl (7, [.ref 343, .int mi, .int shu, .int (x_takeCell bus ce x1 x2).1, .ref 5, .ref 6, .ref 7, .ref 8, .ref 9, .ref 10, .ref 11, .ref 12, .ref 13, .ref 14, .ref 15, .int lks, .ref 16, .ref 17, .ref 20])), (9, .inr (.inl (0, (x_takeCell bus ce x1 x2).2)))] h0) := by
  show j_V jP d 100 0 [(0, .ref 4), (1, .int x1), (2, .int x2)] [] h _
  obtain ⟨lv, elv, L⟩ : ∃ lv, lv = [(0, .ref 4), (1, .int x1), (2, .int x2)] ∧ LK lv [(0, .ref 4), (1, .int x1), (2, .int x2)] := ⟨_, rfl, LK.rf⟩
  rw [← elv]
  clear elv
  refine j_V.ldL xb28_M xb28_0 rfl (i := 0) (kd := 2) (v := .ref 4) (pcJ := 1) rfl L rfl rfl rfl ?_
  refine j_V.getK xb28_M xb28_1 (ci := 7) (j := 8) rfl K rfl rfl ?_
  refine j_V.ldL xb28_M xb28_4 rfl (i := 1) (kd := 0) (v := .int x1) (pcJ := 5) rfl L rfl rfl rfl ?_
  refine j_V.iaA xb28_M xb28_5 K rfl ?_
  refine j_V.one xb28_M xb28_6 (by decide) (pcJ := 7) (stJ := [.int (-1), .int (gA ce x1)]) rfl ?_
  refine j_V.icmp xb28_M xb28_7 (t := 29) rfl (fun c7_0 => ?_) (fun c7_0 => ?_)
  · replace c7_0 : (gA ce x1) = (-1) := jd_eq c7_0
    refine j_V.ldL xb28_M xb28_29 rfl (i := 0) (kd := 2) (v := .ref 4) (pcJ := 30) rfl L rfl rfl rfl ?_
    refine j_V.getK xb28_M xb28_30 (ci := 7) (j := 8) rfl K rfl rfl ?_
    refine j_V.ldL xb28_M xb28_33 rfl (i := 1) (kd := 0) (v := .int x1) (pcJ := 34) rfl L rfl rfl rfl ?_
    refine j_V.ldL xb28_M xb28_34 rfl (i := 2) (kd := 0) (v := .int x2) (pcJ := 35) rfl L rfl rfl rfl ?_
    refine j_V.isA xb28_M xb28_35 (k' := [(4, .inl (7, [.ref 343, .int mi, .int shu, .int bus, .ref 5, .ref 6, .ref 7, .ref 8, .ref 9, .ref 10, .ref 11, .ref 12, .ref 13, .ref 14, .ref 15, .int lks, .ref 16, .ref 17, .ref 20])), (9, .inr (.inl (0, (sA ce x1 x2))))]) K rfl rfl (fun h K => ?_)
    obtain ⟨ce1, ece1⟩ : ∃ z, z = (sA ce x1 x2) := ⟨_, rfl⟩
    rw [← ece1] at K
    refine j_V.ldL xb28_M xb28_36 rfl (i := 2) (kd := 0) (v := .int x2) (pcJ := 37) rfl L rfl rfl rfl ?_
    refine j_V.one xb28_M xb28_37 (by decide) (pcJ := 38) (stJ := [.int (-1), .int x2]) rfl ?_
    refine j_V.icmp xb28_M xb28_38 (t := 53) rfl (fun c38_1 => ?_) (fun c38_1 => ?_)
    · replace c38_1 : x2 = (-1) := jd_eq c38_1
      subst ece1
      refine j_V.ret xb28_M xb28_53 rfl rfl ?_
      rw [show (x_takeCell bus ce x1 x2) = _ from ((if_pos c7_0).trans ((if_pos c38_1).trans (rfl)))]
      exact ⟨rfl, K⟩
    · replace c38_1 : ¬ (x2 = (-1)) := jd_eqn c38_1
      refine j_V.ldL xb28_M xb28_41 rfl (i := 0) (kd := 2) (v := .ref 4) (pcJ := 42) rfl L rfl rfl rfl ?_
      refine j_V.one xb28_M xb28_42 (by decide) (pcJ := 43) (stJ := [.ref 4, .ref 4]) rfl ?_
      refine j_V.getK xb28_M xb28_43 (ci := 7) (j := 3) rfl K rfl rfl ?_
      refine j_V.one xb28_M xb28_46 (by decide) (pcJ := 47) (stJ := [.int 1, .int bus, .ref 4]) rfl ?_
      refine j_V.ldL xb28_M xb28_47 rfl (i := 2) (kd := 0) (v := .int x2) (pcJ := 48) rfl L rfl rfl rfl ?_
      refine j_V.one xb28_M xb28_48 (by decide) (pcJ := 49) (stJ := [.int (1 <<< (x2 &&& 31)), .int bus, .ref 4]) rfl ?_
      refine j_V.one xb28_M xb28_49 (by decide) (pcJ := 50) (stJ := [.int (bus ||| (1 <<< (x2 &&& 31))), .ref 4]) rfl ?_
      refine j_V.putK xb28_M xb28_50 (ci := 7) (j := 3) (k' := [(4, .inl (7, [.ref 343, .int mi, .int shu, .int (bus ||| (1 <<< (x2 &&& 31))), .ref 5, .ref 6, .ref 7, .ref 8, .ref 9, .ref 10, .ref 11, .ref 12, .ref 13, .ref 14, .ref 15, .int lks, .ref 16, .ref 17, .ref 20])), (9, .inr (.inl (0, ce1)))]) rfl K rfl (Nat.le_of_ble_eq_true rfl) rfl (Or.inl rfl) rfl rfl (fun h K => ?_)
      obtain ⟨bus3, ebus3⟩ : ∃ z, z = (bus ||| (1 <<< (x2 &&& 31))) := ⟨_, rfl⟩
      rw [← ebus3] at K
      subst ebus3
      subst ece1
      refine j_V.ret xb28_M xb28_53 rfl rfl ?_
      rw [show (x_takeCell bus ce x1 x2) = _ from ((if_pos c7_0).trans ((if_neg c38_1).trans (rfl)))]
      exact ⟨rfl, K⟩
  · replace c7_0 : ¬ ((gA ce x1) = (-1)) := jd_eqn c7_0
    refine j_V.ldL xb28_M xb28_10 rfl (i := 0) (kd := 2) (v := .ref 4) (pcJ := 11) rfl L rfl rfl rfl ?_
    refine j_V.one xb28_M xb28_11 (by decide) (pcJ := 12) (stJ := [.ref 4, .ref 4]) rfl ?_
    refine j_V.getK xb28_M xb28_12 (ci := 7) (j := 3) rfl K rfl rfl ?_
    refine j_V.one xb28_M xb28_15 (by decide) (pcJ := 16) (stJ := [.int 1, .int bus, .ref 4]) rfl ?_
    refine j_V.ldL xb28_M xb28_16 rfl (i := 0) (kd := 2) (v := .ref 4) (pcJ := 17) rfl L rfl rfl rfl ?_
    refine j_V.getK xb28_M xb28_17 (ci := 7) (j := 8) rfl K rfl rfl ?_
    refine j_V.ldL xb28_M xb28_20 rfl (i := 1) (kd := 0) (v := .int x1) (pcJ := 21) rfl L rfl rfl rfl ?_
    refine j_V.iaA xb28_M xb28_21 K rfl ?_
    refine j_V.one xb28_M xb28_22 (by decide) (pcJ := 23) (stJ := [.int (1 <<< ((gA ce x1) &&& 31)), .int bus, .ref 4]) rfl ?_
    refine j_V.one xb28_M xb28_23 (by decide) (pcJ := 24) (stJ := [.int (-1), .int (1 <<< ((gA ce x1) &&& 31)), .int bus, .ref 4]) rfl ?_
    refine j_V.one xb28_M xb28_24 (by decide) (pcJ := 25) (stJ := [.int ((1 <<< ((gA ce x1) &&& 31)) ^^^ (-1)), .int bus, .ref 4]) rfl ?_
    refine j_V.one xb28_M xb28_25 (by decide) (pcJ := 26) (stJ := [.int (bus &&& ((1 <<< ((gA ce x1) &&& 31)) ^^^ (-1))), .ref 4]) rfl ?_
    refine j_V.putK xb28_M xb28_26 (ci := 7) (j := 3) (k' := [(4, .inl (7, [.ref 343, .int mi, .int shu, .int (bus &&& ((1 <<< ((gA ce x1) &&& 31)) ^^^ (-1))), .ref 5, .ref 6, .ref 7, .ref 8, .ref 9, .ref 10, .ref 11, .ref 12, .ref 13, .ref 14, .ref 15, .int lks, .ref 16, .ref 17, .ref 20])), (9, .inr (.inl (0, ce)))]) rfl K rfl (Nat.le_of_ble_eq_true rfl) rfl (Or.inl rfl) rfl rfl (fun h K => ?_)
    obtain ⟨bus4, ebus4⟩ : ∃ z, z = (bus &&& ((1 <<< ((gA ce x1) &&& 31)) ^^^ (-1))) := ⟨_, rfl⟩
    rw [← ebus4] at K
    refine j_V.ldL xb28_M xb28_29 rfl (i := 0) (kd := 2) (v := .ref 4) (pcJ := 30) rfl L rfl rfl rfl ?_
    refine j_V.getK xb28_M xb28_30 (ci := 7) (j := 8) rfl K rfl rfl ?_
    refine j_V.ldL xb28_M xb28_33 rfl (i := 1) (kd := 0) (v := .int x1) (pcJ := 34) rfl L rfl rfl rfl ?_
    refine j_V.ldL xb28_M xb28_34 rfl (i := 2) (kd := 0) (v := .int x2) (pcJ := 35) rfl L rfl rfl rfl ?_
    refine j_V.isA xb28_M xb28_35 (k' := [(4, .inl (7, [.ref 343, .int mi, .int shu, .int bus4, .ref 5, .ref 6, .ref 7, .ref 8, .ref 9, .ref 10, .ref 11, .ref 12, .ref 13, .ref 14, .ref 15, .int lks, .ref 16, .ref 17, .ref 20])), (9, .inr (.inl (0, (sA ce x1 x2))))]) K rfl rfl (fun h K => ?_)
    obtain ⟨ce2, ece2⟩ : ∃ z, z = (sA ce x1 x2) := ⟨_, rfl⟩
    rw [← ece2] at K
    refine j_V.ldL xb28_M xb28_36 rfl (i := 2) (kd := 0) (v := .int x2) (pcJ := 37) rfl L rfl rfl rfl ?_
    refine j_V.one xb28_M xb28_37 (by decide) (pcJ := 38) (stJ := [.int (-1), .int x2]) rfl ?_
    refine j_V.icmp xb28_M xb28_38 (t := 53) rfl (fun c38_1 => ?_) (fun c38_1 => ?_)
    · replace c38_1 : x2 = (-1) := jd_eq c38_1
      subst ece2
      subst ebus4
      refine j_V.ret xb28_M xb28_53 rfl rfl ?_
      rw [show (x_takeCell bus ce x1 x2) = _ from ((if_neg c7_0).trans ((if_pos c38_1).trans (rfl)))]
      exact ⟨rfl, K⟩
    · replace c38_1 : ¬ (x2 = (-1)) := jd_eqn c38_1
      refine j_V.ldL xb28_M xb28_41 rfl (i := 0) (kd := 2) (v := .ref 4) (pcJ := 42) rfl L rfl rfl rfl ?_
      refine j_V.one xb28_M xb28_42 (by decide) (pcJ := 43) (stJ := [.ref 4, .ref 4]) rfl ?_
      refine j_V.getK xb28_M xb28_43 (ci := 7) (j := 3) rfl K rfl rfl ?_
      refine j_V.one xb28_M xb28_46 (by decide) (pcJ := 47) (stJ := [.int 1, .int bus4, .ref 4]) rfl ?_
      refine j_V.ldL xb28_M xb28_47 rfl (i := 2) (kd := 0) (v := .int x2) (pcJ := 48) rfl L rfl rfl rfl ?_
      refine j_V.one xb28_M xb28_48 (by decide) (pcJ := 49) (stJ := [.int (1 <<< (x2 &&& 31)), .int bus4, .ref 4]) rfl ?_
      refine j_V.one xb28_M xb28_49 (by decide) (pcJ := 50) (stJ := [.int (bus4 ||| (1 <<< (x2 &&& 31))), .ref 4]) rfl ?_
      refine j_V.putK xb28_M xb28_50 (ci := 7) (j := 3) (k' := [(4, .inl (7, [.ref 343, .int mi, .int shu, .int (bus4 ||| (1 <<< (x2 &&& 31))), .ref 5, .ref 6, .ref 7, .ref 8, .ref 9, .ref 10, .ref 11, .ref 12, .ref 13, .ref 14, .ref 15, .int lks, .ref 16, .ref 17, .ref 20])), (9, .inr (.inl (0, ce2)))]) rfl K rfl (Nat.le_of_ble_eq_true rfl) rfl (Or.inl rfl) rfl rfl (fun h K => ?_)
      obtain ⟨bus6, ebus6⟩ : ∃ z, z = (bus4 ||| (1 <<< (x2 &&& 31))) := ⟨_, rfl⟩
      rw [← ebus6] at K
      subst ebus6
      subst ece2
      subst ebus4
      refine j_V.ret xb28_M xb28_53 rfl rfl ?_
      rw [show (x_takeCell bus ce x1 x2) = _ from ((if_neg c7_0).trans ((if_neg c38_1).trans (rfl)))]
      exact ⟨rfl, K⟩
set_option maxRecDepth 100000 in
theorem xb29_M : j_meth jP 29 = some (yX3_note, cX3_note, 5, none, 4, false, 3) := rfl
set_option maxRecDepth 100000 in
theorem xb29_0 : j_code jP 29 0 = some (.aload_n 0) := rfl
set_option maxRecDepth 100000 in
theorem xb29_1 : j_code jP 29 1 = some (.getfield 36) := rfl
set_option maxRecDepth 100000 in
theorem xb29_4 : j_code jP 29 4 = some (.ifCond .eq 12) := rfl
set_option maxRecDepth 100000 in
theorem xb29_7 : j_code jP 29 7 = some (.aload_n 0) := rfl
set_option maxRecDepth 100000 in
theorem xb29_8 : j_code jP 29 8 = some (.getfield 46) := rfl
set_option maxRecDepth 100000 in
theorem xb29_11 : j_code jP 29 11 = some (.bipush 65) := rfl
set_option maxRecDepth 100000 in
theorem xb29_13 : j_code jP 29 13 = some (.if_icmp .lt 4) := rfl
set_option maxRecDepth 100000 in
theorem xb29_16 : j_code jP 29 16 = some (.return_) := rfl
set_option maxRecDepth 100000 in
theorem xb29_17 : j_code jP 29 17 = some (.aload_n 0) := rfl
set_option maxRecDepth 100000 in
theorem xb29_18 : j_code jP 29 18 = some (.getfield 33) := rfl
set_option maxRecDepth 100000 in
theorem xb29_21 : j_code jP 29 21 = some (.iconst 4) := rfl
set_option maxRecDepth 100000 in
theorem xb29_22 : j_code jP 29 22 = some (.aload_n 0) := rfl
set_option maxRecDepth 100000 in
theorem xb29_23 : j_code jP 29 23 = some (.getfield 46) := rfl
set_option maxRecDepth 100000 in
theorem xb29_26 : j_code jP 29 26 = some (.imul) := rfl
set_option maxRecDepth 100000 in
theorem xb29_27 : j_code jP 29 27 = some (.iload_n 1) := rfl
set_option maxRecDepth 100000 in
theorem xb29_28 : j_code jP 29 28 = some (.iastore) := rfl
set_option maxRecDepth 100000 in
theorem xb29_29 : j_code jP 29 29 = some (.aload_n 0) := rfl
set_option maxRecDepth 100000 in
theorem xb29_30 : j_code jP 29 30 = some (.getfield 33) := rfl
set_option maxRecDepth 100000 in
theorem xb29_33 : j_code jP 29 33 = some (.iconst 4) := rfl
set_option maxRecDepth 100000 in
theorem xb29_34 : j_code jP 29 34 = some (.aload_n 0) := rfl
set_option maxRecDepth 100000 in
theorem xb29_35 : j_code jP 29 35 = some (.getfield 46) := rfl
set_option maxRecDepth 100000 in
theorem xb29_38 : j_code jP 29 38 = some (.imul) := rfl
set_option maxRecDepth 100000 in
theorem xb29_39 : j_code jP 29 39 = some (.iconst 1) := rfl
set_option maxRecDepth 100000 in
theorem xb29_40 : j_code jP 29 40 = some (.iadd) := rfl
set_option maxRecDepth 100000 in
theorem xb29_41 : j_code jP 29 41 = some (.iload_n 2) := rfl
set_option maxRecDepth 100000 in
theorem xb29_42 : j_code jP 29 42 = some (.iastore) := rfl
set_option maxRecDepth 100000 in
theorem xb29_43 : j_code jP 29 43 = some (.aload_n 0) := rfl
set_option maxRecDepth 100000 in
theorem xb29_44 : j_code jP 29 44 = some (.getfield 33) := rfl
set_option maxRecDepth 100000 in
theorem xb29_47 : j_code jP 29 47 = some (.iconst 4) := rfl
set_option maxRecDepth 100000 in
theorem xb29_48 : j_code jP 29 48 = some (.aload_n 0) := rfl
set_option maxRecDepth 100000 in
theorem xb29_49 : j_code jP 29 49 = some (.getfield 46) := rfl
set_option maxRecDepth 100000 in
theorem xb29_52 : j_code jP 29 52 = some (.imul) := rfl
set_option maxRecDepth 100000 in
theorem xb29_53 : j_code jP 29 53 = some (.iconst 2) := rfl
set_option maxRecDepth 100000 in
theorem xb29_54 : j_code jP 29 54 = some (.iadd) := rfl
set_option maxRecDepth 100000 in
theorem xb29_55 : j_code jP 29 55 = some (.iload_n 3) := rfl
set_option maxRecDepth 100000 in
theorem xb29_56 : j_code jP 29 56 = some (.iastore) := rfl
set_option maxRecDepth 100000 in
theorem xb29_57 : j_code jP 29 57 = some (.aload_n 0) := rfl
set_option maxRecDepth 100000 in
theorem xb29_58 : j_code jP 29 58 = some (.getfield 33) := rfl
set_option maxRecDepth 100000 in
theorem xb29_61 : j_code jP 29 61 = some (.iconst 4) := rfl
set_option maxRecDepth 100000 in
theorem xb29_62 : j_code jP 29 62 = some (.aload_n 0) := rfl
set_option maxRecDepth 100000 in
theorem xb29_63 : j_code jP 29 63 = some (.getfield 46) := rfl
set_option maxRecDepth 100000 in
theorem xb29_66 : j_code jP 29 66 = some (.imul) := rfl
set_option maxRecDepth 100000 in
theorem xb29_67 : j_code jP 29 67 = some (.iconst 3) := rfl
set_option maxRecDepth 100000 in
theorem xb29_68 : j_code jP 29 68 = some (.iadd) := rfl
set_option maxRecDepth 100000 in
theorem xb29_69 : j_code jP 29 69 = some (.iload 4) := rfl
set_option maxRecDepth 100000 in
theorem xb29_71 : j_code jP 29 71 = some (.iastore) := rfl
set_option maxRecDepth 100000 in
theorem xb29_72 : j_code jP 29 72 = some (.aload_n 0) := rfl
set_option maxRecDepth 100000 in
theorem xb29_73 : j_code jP 29 73 = some (.dup) := rfl
set_option maxRecDepth 100000 in
theorem xb29_74 : j_code jP 29 74 = some (.getfield 46) := rfl
set_option maxRecDepth 100000 in
theorem xb29_77 : j_code jP 29 77 = some (.iconst 1) := rfl
set_option maxRecDepth 100000 in
theorem xb29_78 : j_code jP 29 78 = some (.iadd) := rfl
set_option maxRecDepth 100000 in
theorem xb29_79 : j_code jP 29 79 = some (.putfield 46) := rfl
set_option maxRecDepth 100000 in
theorem xb29_82 : j_code jP 29 82 = some (.return_) := rfl
set_option maxRecDepth 1000000 in
theorem xb29_ok {pev : Int32} {pk : Int32} {pfa : List Int32} {x1 x2 x3 x4 : Int32} {d : Nat} {h h0 : J_H} (K : KN h [(20, .inl (3, [.ref 21, .ref 22, .ref 23, .ref 24, .ref 25, .ref 26, .ref 27, .ref 28, .int pev, .int pk])), (28, .inr (.inl (0, pfa)))] h0) : j_V jP d 29 0 (lv_args 0 [.ref 20, .int x1, .int x2, .int x3, .int x4]) [] h (fun rv h' => rv = none ∧ KN h' [(20, .inl (3, [.ref 21, .ref 22, .ref 23, .ref 24, .ref 25, .ref 26, .ref 27, .ref 28, .int (x_note pev pk pfa x1 x2 x3 x4).2, .int pk])), (28, .inr (.inl (0, (x_note pev pk pfa x1 x2 x3 x4).1)))] h0) := by
  show j_V jP d 29 0 [(0, .ref 20), (1, .int x1), (2, .int x2), (3, .int x3), (4, .int x4)] [] h _
  obtain ⟨lv, elv, L⟩ : ∃ lv, lv = [(0, .ref 20), (1, .int x1), (2, .int x2), (3, .int x3), (4, .int x4)] ∧ LK lv [(0, .ref 20), (1, .int x1), (2, .int x2), (3, .int x3), (4, .int x4)] := ⟨_, rfl, LK.rf⟩
  rw [← elv]
  clear elv
  refine j_V.ldL xb29_M xb29_0 rfl (i := 0) (kd := 2) (v := .ref 20) (pcJ := 1) rfl L rfl rfl rfl ?_
  refine j_V.getK xb29_M xb29_1 (ci := 3) (j := 9) rfl K rfl rfl ?_
  refine j_V.ifc xb29_M xb29_4 (t := 16) rfl (fun c4_0 => ?_) (fun c4_0 => ?_)
  · replace c4_0 : pk = 0 := jd_eq c4_0
    refine j_V.ret xb29_M xb29_16 rfl rfl ?_
    rw [show (x_note pev pk pfa x1 x2 x3 x4) = _ from ((if_pos c4_0).trans (rfl))]
    exact ⟨rfl, K⟩
  · replace c4_0 : ¬ (pk = 0) := jd_eqn c4_0
    refine j_V.ldL xb29_M xb29_7 rfl (i := 0) (kd := 2) (v := .ref 20) (pcJ := 8) rfl L rfl rfl rfl ?_
    refine j_V.getK xb29_M xb29_8 (ci := 3) (j := 8) rfl K rfl rfl ?_
    refine j_V.one xb29_M xb29_11 (by decide) (pcJ := 13) (stJ := [.int 65, .int pev]) rfl ?_
    refine j_V.icmp xb29_M xb29_13 (t := 17) rfl (fun c13_1 => ?_) (fun c13_1 => ?_)
    · replace c13_1 : pev < 65 := jd_lt c13_1
      refine j_V.ldL xb29_M xb29_17 rfl (i := 0) (kd := 2) (v := .ref 20) (pcJ := 18) rfl L rfl rfl rfl ?_
      refine j_V.getK xb29_M xb29_18 (ci := 3) (j := 7) rfl K rfl rfl ?_
      refine j_V.one xb29_M xb29_21 (by decide) (pcJ := 22) (stJ := [.int 4, .ref 28]) rfl ?_
      refine j_V.ldL xb29_M xb29_22 rfl (i := 0) (kd := 2) (v := .ref 20) (pcJ := 23) rfl L rfl rfl rfl ?_
      refine j_V.getK xb29_M xb29_23 (ci := 3) (j := 8) rfl K rfl rfl ?_
      refine j_V.one xb29_M xb29_26 (by decide) (pcJ := 27) (stJ := [.int (4 * pev), .ref 28]) rfl ?_
      refine j_V.ldL xb29_M xb29_27 rfl (i := 1) (kd := 0) (v := .int x1) (pcJ := 28) rfl L rfl rfl rfl ?_
      refine j_V.isA xb29_M xb29_28 (k' := [(20, .inl (3, [.ref 21, .ref 22, .ref 23, .ref 24, .ref 25, .ref 26, .ref 27, .ref 28, .int pev, .int pk])), (28, .inr (.inl (0, (sA pfa (4 * pev) x1))))]) K rfl rfl (fun h K => ?_)
      obtain ⟨pfa1, epfa1⟩ : ∃ z, z = (sA pfa (4 * pev) x1) := ⟨_, rfl⟩
      rw [← epfa1] at K
      refine j_V.ldL xb29_M xb29_29 rfl (i := 0) (kd := 2) (v := .ref 20) (pcJ := 30) rfl L rfl rfl rfl ?_
      refine j_V.getK xb29_M xb29_30 (ci := 3) (j := 7) rfl K rfl rfl ?_
      refine j_V.one xb29_M xb29_33 (by decide) (pcJ := 34) (stJ := [.int 4, .ref 28]) rfl ?_
      refine j_V.ldL xb29_M xb29_34 rfl (i := 0) (kd := 2) (v := .ref 20) (pcJ := 35) rfl L rfl rfl rfl ?_
      refine j_V.getK xb29_M xb29_35 (ci := 3) (j := 8) rfl K rfl rfl ?_
      refine j_V.one xb29_M xb29_38 (by decide) (pcJ := 39) (stJ := [.int (4 * pev), .ref 28]) rfl ?_
      refine j_V.one xb29_M xb29_39 (by decide) (pcJ := 40) (stJ := [.int 1, .int (4 * pev), .ref 28]) rfl ?_
      refine j_V.one xb29_M xb29_40 (by decide) (pcJ := 41) (stJ := [.int ((4 * pev) + 1), .ref 28]) rfl ?_
      refine j_V.ldL xb29_M xb29_41 rfl (i := 2) (kd := 0) (v := .int x2) (pcJ := 42) rfl L rfl rfl rfl ?_
      refine j_V.isA xb29_M xb29_42 (k' := [(20, .inl (3, [.ref 21, .ref 22, .ref 23, .ref 24, .ref 25, .ref 26, .ref 27, .ref 28, .int pev, .int pk])), (28, .inr (.inl (0, (sA pfa1 ((4 * pev) + 1) x2))))]) K rfl rfl (fun h K => ?_)
      obtain ⟨pfa2, epfa2⟩ : ∃ z, z = (sA pfa1 ((4 * pev) + 1) x2) := ⟨_, rfl⟩
      rw [← epfa2] at K
      refine j_V.ldL xb29_M xb29_43 rfl (i := 0) (kd := 2) (v := .ref 20) (pcJ := 44) rfl L rfl rfl rfl ?_
      refine j_V.getK xb29_M xb29_44 (ci := 3) (j := 7) rfl K rfl rfl ?_
      refine j_V.one xb29_M xb29_47 (by decide) (pcJ := 48) (stJ := [.int 4, .ref 28]) rfl ?_
      refine j_V.ldL xb29_M xb29_48 rfl (i := 0) (kd := 2) (v := .ref 20) (pcJ := 49) rfl L rfl rfl rfl ?_
      refine j_V.getK xb29_M xb29_49 (ci := 3) (j := 8) rfl K rfl rfl ?_
      refine j_V.one xb29_M xb29_52 (by decide) (pcJ := 53) (stJ := [.int (4 * pev), .ref 28]) rfl ?_
      refine j_V.one xb29_M xb29_53 (by decide) (pcJ := 54) (stJ := [.int 2, .int (4 * pev), .ref 28]) rfl ?_
      refine j_V.one xb29_M xb29_54 (by decide) (pcJ := 55) (stJ := [.int ((4 * pev) + 2), .ref 28]) rfl ?_
      refine j_V.ldL xb29_M xb29_55 rfl (i := 3) (kd := 0) (v := .int x3) (pcJ := 56) rfl L rfl rfl rfl ?_
      refine j_V.isA xb29_M xb29_56 (k' := [(20, .inl (3, [.ref 21, .ref 22, .ref 23, .ref 24, .ref 25, .ref 26, .ref 27, .ref 28, .int pev, .int pk])), (28, .inr (.inl (0, (sA pfa2 ((4 * pev) + 2) x3))))]) K rfl rfl (fun h K => ?_)
      obtain ⟨pfa3, epfa3⟩ : ∃ z, z = (sA pfa2 ((4 * pev) + 2) x3) := ⟨_, rfl⟩
      rw [← epfa3] at K
      refine j_V.ldL xb29_M xb29_57 rfl (i := 0) (kd := 2) (v := .ref 20) (pcJ := 58) rfl L rfl rfl rfl ?_
      refine j_V.getK xb29_M xb29_58 (ci := 3) (j := 7) rfl K rfl rfl ?_
      refine j_V.one xb29_M xb29_61 (by decide) (pcJ := 62) (stJ := [.int 4, .ref 28]) rfl ?_
      refine j_V.ldL xb29_M xb29_62 rfl (i := 0) (kd := 2) (v := .ref 20) (pcJ := 63) rfl L rfl rfl rfl ?_
      refine j_V.getK xb29_M xb29_63 (ci := 3) (j := 8) rfl K rfl rfl ?_
      refine j_V.one xb29_M xb29_66 (by decide) (pcJ := 67) (stJ := [.int (4 * pev), .ref 28]) rfl ?_
      refine j_V.one xb29_M xb29_67 (by decide) (pcJ := 68) (stJ := [.int 3, .int (4 * pev), .ref 28]) rfl ?_
      refine j_V.one xb29_M xb29_68 (by decide) (pcJ := 69) (stJ := [.int ((4 * pev) + 3), .ref 28]) rfl ?_
      refine j_V.ldL xb29_M xb29_69 rfl (i := 4) (kd := 0) (v := .int x4) (pcJ := 71) rfl L rfl rfl rfl ?_
      refine j_V.isA xb29_M xb29_71 (k' := [(20, .inl (3, [.ref 21, .ref 22, .ref 23, .ref 24, .ref 25, .ref 26, .ref 27, .ref 28, .int pev, .int pk])), (28, .inr (.inl (0, (sA pfa3 ((4 * pev) + 3) x4))))]) K rfl rfl (fun h K => ?_)
      obtain ⟨pfa4, epfa4⟩ : ∃ z, z = (sA pfa3 ((4 * pev) + 3) x4) := ⟨_, rfl⟩
      rw [← epfa4] at K
      refine j_V.ldL xb29_M xb29_72 rfl (i := 0) (kd := 2) (v := .ref 20) (pcJ := 73) rfl L rfl rfl rfl ?_
      refine j_V.one xb29_M xb29_73 (by decide) (pcJ := 74) (stJ := [.ref 20, .ref 20]) rfl ?_
      refine j_V.getK xb29_M xb29_74 (ci := 3) (j := 8) rfl K rfl rfl ?_
      refine j_V.one xb29_M xb29_77 (by decide) (pcJ := 78) (stJ := [.int 1, .int pev, .ref 20]) rfl ?_
      refine j_V.one xb29_M xb29_78 (by decide) (pcJ := 79) (stJ := [.int (pev + 1), .ref 20]) rfl ?_
      refine j_V.putK xb29_M xb29_79 (ci := 3) (j := 8) (k' := [(20, .inl (3, [.ref 21, .ref 22, .ref 23, .ref 24, .ref 25, .ref 26, .ref 27, .ref 28, .int (pev + 1), .int pk])), (28, .inr (.inl (0, pfa4)))]) rfl K rfl (Nat.le_of_ble_eq_true rfl) rfl (Or.inl rfl) rfl rfl (fun h K => ?_)
      obtain ⟨pev1, epev1⟩ : ∃ z, z = (pev + 1) := ⟨_, rfl⟩
      rw [← epev1] at K
      subst epev1
      subst epfa4
      subst epfa3
      subst epfa2
      subst epfa1
      refine j_V.ret xb29_M xb29_82 rfl rfl ?_
      rw [show (x_note pev pk pfa x1 x2 x3 x4) = _ from ((if_neg c4_0).trans ((if_pos c13_1).trans (rfl)))]
      exact ⟨rfl, K⟩
    · replace c13_1 : ¬ (pev < 65) := jd_ltn c13_1
      refine j_V.ret xb29_M xb29_16 rfl rfl ?_
      rw [show (x_note pev pk pfa x1 x2 x3 x4) = _ from ((if_neg c4_0).trans ((if_neg c13_1).trans (rfl)))]
      exact ⟨rfl, K⟩
set_option maxRecDepth 100000 in
theorem xb30_M : j_meth jP 30 = some (yX3_noteRider, cX3_noteRider, 3, none, 2, false, 3) := rfl
set_option maxRecDepth 100000 in
theorem xb30_0 : j_code jP 30 0 = some (.aload_n 0) := rfl
set_option maxRecDepth 100000 in
theorem xb30_1 : j_code jP 30 1 = some (.getfield 36) := rfl
set_option maxRecDepth 100000 in
theorem xb30_4 : j_code jP 30 4 = some (.ifCond .eq 13) := rfl
set_option maxRecDepth 100000 in
theorem xb30_7 : j_code jP 30 7 = some (.aload_n 0) := rfl
set_option maxRecDepth 100000 in
theorem xb30_8 : j_code jP 30 8 = some (.getfield 27) := rfl
set_option maxRecDepth 100000 in
theorem xb30_11 : j_code jP 30 11 = some (.iload_n 1) := rfl
set_option maxRecDepth 100000 in
theorem xb30_12 : j_code jP 30 12 = some (.iaload) := rfl
set_option maxRecDepth 100000 in
theorem xb30_13 : j_code jP 30 13 = some (.iconst 5) := rfl
set_option maxRecDepth 100000 in
theorem xb30_14 : j_code jP 30 14 = some (.if_icmp .lt 4) := rfl
set_option maxRecDepth 100000 in
theorem xb30_17 : j_code jP 30 17 = some (.return_) := rfl
set_option maxRecDepth 100000 in
theorem xb30_18 : j_code jP 30 18 = some (.aload_n 0) := rfl
set_option maxRecDepth 100000 in
theorem xb30_19 : j_code jP 30 19 = some (.getfield 30) := rfl
set_option maxRecDepth 100000 in
theorem xb30_22 : j_code jP 30 22 = some (.iload_n 1) := rfl
set_option maxRecDepth 100000 in
theorem xb30_23 : j_code jP 30 23 = some (.iconst 5) := rfl
set_option maxRecDepth 100000 in
theorem xb30_24 : j_code jP 30 24 = some (.imul) := rfl
set_option maxRecDepth 100000 in
theorem xb30_25 : j_code jP 30 25 = some (.aload_n 0) := rfl
set_option maxRecDepth 100000 in
theorem xb30_26 : j_code jP 30 26 = some (.getfield 27) := rfl
set_option maxRecDepth 100000 in
theorem xb30_29 : j_code jP 30 29 = some (.iload_n 1) := rfl
set_option maxRecDepth 100000 in
theorem xb30_30 : j_code jP 30 30 = some (.iaload) := rfl
set_option maxRecDepth 100000 in
theorem xb30_31 : j_code jP 30 31 = some (.iadd) := rfl
set_option maxRecDepth 100000 in
theorem xb30_32 : j_code jP 30 32 = some (.iload_n 2) := rfl
set_option maxRecDepth 100000 in
theorem xb30_33 : j_code jP 30 33 = some (.iastore) := rfl
set_option maxRecDepth 100000 in
theorem xb30_34 : j_code jP 30 34 = some (.aload_n 0) := rfl
set_option maxRecDepth 100000 in
theorem xb30_35 : j_code jP 30 35 = some (.getfield 27) := rfl
set_option maxRecDepth 100000 in
theorem xb30_38 : j_code jP 30 38 = some (.iload_n 1) := rfl
set_option maxRecDepth 100000 in
theorem xb30_39 : j_code jP 30 39 = some (.dup2) := rfl
set_option maxRecDepth 100000 in
theorem xb30_40 : j_code jP 30 40 = some (.iaload) := rfl
set_option maxRecDepth 100000 in
theorem xb30_41 : j_code jP 30 41 = some (.iconst 1) := rfl
set_option maxRecDepth 100000 in
theorem xb30_42 : j_code jP 30 42 = some (.iadd) := rfl
set_option maxRecDepth 100000 in
theorem xb30_43 : j_code jP 30 43 = some (.iastore) := rfl
set_option maxRecDepth 100000 in
theorem xb30_44 : j_code jP 30 44 = some (.return_) := rfl
set_option maxRecDepth 1000000 in
theorem xb30_ok {pev : Int32} {pk : Int32} {prs : List Int32} {prr : List Int32} {x1 x2 : Int32} {d : Nat} {h h0 : J_H} (K : KN h [(20, .inl (3, [.ref 21, .ref 22, .ref 23, .ref 24, .ref 25, .ref 26, .ref 27, .ref 28, .int pev, .int pk])), (26, .inr (.inl (0, prs))), (27, .inr (.inl (0, prr)))] h0) : j_V jP d 30 0 (lv_args 0 [.ref 20, .int x1, .int x2]) [] h (fun rv h' => rv = none ∧ KN h' [(20, .inl (3, [.ref 21, .ref 22, .ref 23, .ref 24, .ref 25, .ref 26, .ref 27, .ref 28, .int pev, .int pk])), (26, .inr (.inl (0, (x_noteRider pk prs prr x1 x2).1))), (27, .inr (.inl (0, (x_noteRider pk prs prr x1 x2).2)))] h0) := by
  show j_V jP d 30 0 [(0, .ref 20), (1, .int x1), (2, .int x2)] [] h _
  obtain ⟨lv, elv, L⟩ : ∃ lv, lv = [(0, .ref 20), (1, .int x1), (2, .int x2)] ∧ LK lv [(0, .ref 20), (1, .int x1), (2, .int x2)] := ⟨_, rfl, LK.rf⟩
  rw [← elv]
  clear elv
  refine j_V.ldL xb30_M xb30_0 rfl (i := 0) (kd := 2) (v := .ref 20) (pcJ := 1) rfl L rfl rfl rfl ?_
  refine j_V.getK xb30_M xb30_1 (ci := 3) (j := 9) rfl K rfl rfl ?_
  refine j_V.ifc xb30_M xb30_4 (t := 17) rfl (fun c4_0 => ?_) (fun c4_0 => ?_)
  · replace c4_0 : pk = 0 := jd_eq c4_0
    refine j_V.ret xb30_M xb30_17 rfl rfl ?_
    rw [show (x_noteRider pk prs prr x1 x2) = _ from ((if_pos c4_0).trans (rfl))]
    exact ⟨rfl, K⟩
  · replace c4_0 : ¬ (pk = 0) := jd_eqn c4_0
    refine j_V.ldL xb30_M xb30_7 rfl (i := 0) (kd := 2) (v := .ref 20) (pcJ := 8) rfl L rfl rfl rfl ?_
    refine j_V.getK xb30_M xb30_8 (ci := 3) (j := 5) rfl K rfl rfl ?_
    refine j_V.ldL xb30_M xb30_11 rfl (i := 1) (kd := 0) (v := .int x1) (pcJ := 12) rfl L rfl rfl rfl ?_
    refine j_V.iaA xb30_M xb30_12 K rfl ?_
    refine j_V.one xb30_M xb30_13 (by decide) (pcJ := 14) (stJ := [.int 5, .int (gA prs x1)]) rfl ?_
    refine j_V.icmp xb30_M xb30_14 (t := 18) rfl (fun c14_1 => ?_) (fun c14_1 => ?_)
    · replace c14_1 : (gA prs x1) < 5 := jd_lt c14_1
      refine j_V.ldL xb30_M xb30_18 rfl (i := 0) (kd := 2) (v := .ref 20) (pcJ := 19) rfl L rfl rfl rfl ?_
      refine j_V.getK xb30_M xb30_19 (ci := 3) (j := 6) rfl K rfl rfl ?_
      refine j_V.ldL xb30_M xb30_22 rfl (i := 1) (kd := 0) (v := .int x1) (pcJ := 23) rfl L rfl rfl rfl ?_
      refine j_V.one xb30_M xb30_23 (by decide) (pcJ := 24) (stJ := [.int 5, .int x1, .ref 27]) rfl ?_
      refine j_V.one xb30_M xb30_24 (by decide) (pcJ := 25) (stJ := [.int (x1 * 5), .ref 27]) rfl ?_
      refine j_V.ldL xb30_M xb30_25 rfl (i := 0) (kd := 2) (v := .ref 20) (pcJ := 26) rfl L rfl rfl rfl ?_
      refine j_V.getK xb30_M xb30_26 (ci := 3) (j := 5) rfl K rfl rfl ?_
      refine j_V.ldL xb30_M xb30_29 rfl (i := 1) (kd := 0) (v := .int x1) (pcJ := 30) rfl L rfl rfl rfl ?_
      refine j_V.iaA xb30_M xb30_30 K rfl ?_
      refine j_V.one xb30_M xb30_31 (by decide) (pcJ := 32) (stJ := [.int ((x1 * 5) + (gA prs x1)), .ref 27]) rfl ?_
      refine j_V.ldL xb30_M xb30_32 rfl (i := 2) (kd := 0) (v := .int x2) (pcJ := 33) rfl L rfl rfl rfl ?_
      refine j_V.isA xb30_M xb30_33 (k' := [(20, .inl (3, [.ref 21, .ref 22, .ref 23, .ref 24, .ref 25, .ref 26, .ref 27, .ref 28, .int pev, .int pk])), (26, .inr (.inl (0, prs))), (27, .inr (.inl (0, (sA prr ((x1 * 5) + (gA prs x1)) x2))))]) K rfl rfl (fun h K => ?_)
      obtain ⟨prr1, eprr1⟩ : ∃ z, z = (sA prr ((x1 * 5) + (gA prs x1)) x2) := ⟨_, rfl⟩
      rw [← eprr1] at K
      refine j_V.ldL xb30_M xb30_34 rfl (i := 0) (kd := 2) (v := .ref 20) (pcJ := 35) rfl L rfl rfl rfl ?_
      refine j_V.getK xb30_M xb30_35 (ci := 3) (j := 5) rfl K rfl rfl ?_
      refine j_V.ldL xb30_M xb30_38 rfl (i := 1) (kd := 0) (v := .int x1) (pcJ := 39) rfl L rfl rfl rfl ?_
      refine j_V.one xb30_M xb30_39 (by decide) (pcJ := 40) (stJ := [.int x1, .ref 26, .int x1, .ref 26]) rfl ?_
      refine j_V.iaA xb30_M xb30_40 K rfl ?_
      refine j_V.one xb30_M xb30_41 (by decide) (pcJ := 42) (stJ := [.int 1, .int (gA prs x1), .int x1, .ref 26]) rfl ?_
      refine j_V.one xb30_M xb30_42 (by decide) (pcJ := 43) (stJ := [.int ((gA prs x1) + 1), .int x1, .ref 26]) rfl ?_
      refine j_V.isA xb30_M xb30_43 (k' := [(20, .inl (3, [.ref 21, .ref 22, .ref 23, .ref 24, .ref 25, .ref 26, .ref 27, .ref 28, .int pev, .int pk])), (26, .inr (.inl (0, (sA prs x1 ((gA prs x1) + 1))))), (27, .inr (.inl (0, prr1)))]) K rfl rfl (fun h K => ?_)
      obtain ⟨prs1, eprs1⟩ : ∃ z, z = (sA prs x1 ((gA prs x1) + 1)) := ⟨_, rfl⟩
      rw [← eprs1] at K
      subst eprs1
      subst eprr1
      refine j_V.ret xb30_M xb30_44 rfl rfl ?_
      rw [show (x_noteRider pk prs prr x1 x2) = _ from ((if_neg c4_0).trans ((if_pos c14_1).trans (rfl)))]
      exact ⟨rfl, K⟩
    · replace c14_1 : ¬ ((gA prs x1) < 5) := jd_ltn c14_1
      refine j_V.ret xb30_M xb30_17 rfl rfl ?_
      rw [show (x_noteRider pk prs prr x1 x2) = _ from ((if_neg c4_0).trans ((if_neg c14_1).trans (rfl)))]
      exact ⟨rfl, K⟩
set_option maxRecDepth 100000 in
theorem xb31_M : j_meth jP 97 = some (yX7_comeIn, cX7_comeIn, 3, none, 2, false, 7) := rfl
set_option maxRecDepth 100000 in
theorem xb31_0 : j_code jP 97 0 = some (.aload_n 0) := rfl
set_option maxRecDepth 100000 in
theorem xb31_1 : j_code jP 97 1 = some (.getfield 18) := rfl
set_option maxRecDepth 100000 in
theorem xb31_4 : j_code jP 97 4 = some (.iload_n 1) := rfl
set_option maxRecDepth 100000 in
theorem xb31_5 : j_code jP 97 5 = some (.iconst 1) := rfl
set_option maxRecDepth 100000 in
theorem xb31_6 : j_code jP 97 6 = some (.iastore) := rfl
set_option maxRecDepth 100000 in
theorem xb31_7 : j_code jP 97 7 = some (.aload_n 0) := rfl
set_option maxRecDepth 100000 in
theorem xb31_8 : j_code jP 97 8 = some (.getfield 21) := rfl
set_option maxRecDepth 100000 in
theorem xb31_11 : j_code jP 97 11 = some (.iload_n 1) := rfl
set_option maxRecDepth 100000 in
theorem xb31_12 : j_code jP 97 12 = some (.aload_n 0) := rfl
set_option maxRecDepth 100000 in
theorem xb31_13 : j_code jP 97 13 = some (.getfield 64) := rfl
set_option maxRecDepth 100000 in
theorem xb31_16 : j_code jP 97 16 = some (.getfield 161) := rfl
set_option maxRecDepth 100000 in
theorem xb31_19 : j_code jP 97 19 = some (.iload_n 1) := rfl
set_option maxRecDepth 100000 in
theorem xb31_20 : j_code jP 97 20 = some (.iaload) := rfl
set_option maxRecDepth 100000 in
theorem xb31_21 : j_code jP 97 21 = some (.iastore) := rfl
set_option maxRecDepth 100000 in
theorem xb31_22 : j_code jP 97 22 = some (.aload_n 0) := rfl
set_option maxRecDepth 100000 in
theorem xb31_23 : j_code jP 97 23 = some (.getfield 39) := rfl
set_option maxRecDepth 100000 in
theorem xb31_26 : j_code jP 97 26 = some (.iload_n 1) := rfl
set_option maxRecDepth 100000 in
theorem xb31_27 : j_code jP 97 27 = some (.bipush 7) := rfl
set_option maxRecDepth 100000 in
theorem xb31_29 : j_code jP 97 29 = some (.imul) := rfl
set_option maxRecDepth 100000 in
theorem xb31_30 : j_code jP 97 30 = some (.aload_n 0) := rfl
set_option maxRecDepth 100000 in
theorem xb31_31 : j_code jP 97 31 = some (.getfield 21) := rfl
set_option maxRecDepth 100000 in
theorem xb31_34 : j_code jP 97 34 = some (.iload_n 1) := rfl
set_option maxRecDepth 100000 in
theorem xb31_35 : j_code jP 97 35 = some (.iaload) := rfl
set_option maxRecDepth 100000 in
theorem xb31_36 : j_code jP 97 36 = some (.iadd) := rfl
set_option maxRecDepth 100000 in
theorem xb31_37 : j_code jP 97 37 = some (.aload_n 0) := rfl
set_option maxRecDepth 100000 in
theorem xb31_38 : j_code jP 97 38 = some (.getfield 68) := rfl
set_option maxRecDepth 100000 in
theorem xb31_41 : j_code jP 97 41 = some (.iastore) := rfl
set_option maxRecDepth 100000 in
theorem xb31_42 : j_code jP 97 42 = some (.aload_n 0) := rfl
set_option maxRecDepth 100000 in
theorem xb31_43 : j_code jP 97 43 = some (.iload_n 1) := rfl
set_option maxRecDepth 100000 in
theorem xb31_44 : j_code jP 97 44 = some (.iload_n 2) := rfl
set_option maxRecDepth 100000 in
theorem xb31_45 : j_code jP 97 45 = some (.invokevirtual 217) := rfl
set_option maxRecDepth 100000 in
theorem xb31_48 : j_code jP 97 48 = some (.aload_n 0) := rfl
set_option maxRecDepth 100000 in
theorem xb31_49 : j_code jP 97 49 = some (.getfield 60) := rfl
set_option maxRecDepth 100000 in
theorem xb31_52 : j_code jP 97 52 = some (.iload_n 1) := rfl
set_option maxRecDepth 100000 in
theorem xb31_53 : j_code jP 97 53 = some (.iconst 0) := rfl
set_option maxRecDepth 100000 in
theorem xb31_54 : j_code jP 97 54 = some (.aload_n 0) := rfl
set_option maxRecDepth 100000 in
theorem xb31_55 : j_code jP 97 55 = some (.getfield 68) := rfl
set_option maxRecDepth 100000 in
theorem xb31_58 : j_code jP 97 58 = some (.aload_n 0) := rfl
set_option maxRecDepth 100000 in
theorem xb31_59 : j_code jP 97 59 = some (.getfield 21) := rfl
set_option maxRecDepth 100000 in
theorem xb31_62 : j_code jP 97 62 = some (.iload_n 1) := rfl
set_option maxRecDepth 100000 in
theorem xb31_63 : j_code jP 97 63 = some (.iaload) := rfl
set_option maxRecDepth 100000 in
theorem xb31_64 : j_code jP 97 64 = some (.invokevirtual 220) := rfl
set_option maxRecDepth 100000 in
theorem xb31_67 : j_code jP 97 67 = some (.return_) := rfl
set_option maxRecDepth 1000000 in
theorem xb31_ok {mi : Int32} {shu : Int32} {bus : Int32} {lks : Int32} {ph : List Int32} {sp : List Int32} {ce : List Int32} {cm : List Int32} {pev : Int32} {pk : Int32} {pfa : List Int32} {ns : Int32} {nt : Int32} {cel : Int32} {frm : List Int32} {x1 x2 : Int32} {d : Nat} {h h0 : J_H} (K : KN h [(4, .inl (7, [.ref 343, .int mi, .int shu, .int bus, .ref 5, .ref 6, .ref 7, .ref 8, .ref 9, .ref 10, .ref 11, .ref 12, .ref 13, .ref 14, .ref 15, .int lks, .ref 16, .ref 17, .ref 20])), (7, .inr (.inl (0, ph))), (8, .inr (.inl (0, sp))), (9, .inr (.inl (0, ce))), (14, .inr (.inl (0, cm))), (20, .inl (3, [.ref 21, .ref 22, .ref 23, .ref 24, .ref 25, .ref 26, .ref 27, .ref 28, .int pev, .int pk])), (28, .inr (.inl (0, pfa))), (343, .inl (2, [.int ns, .ref 344, .ref 345, .ref 346, .ref 347, .int nt, .ref 348, .ref 349, .ref 350, .ref 351, .ref 352, .ref 353, .ref 354, .int cel, .ref 355, .ref 356, .ref 357, .ref 358])), (350, .inr (.inl (0, frm)))] h0) : j_V jP d 97 0 (lv_args 0 [.ref 4, .int x1, .int x2]) [] h (fun rv h' => rv = none ∧ KN h' [(4, .inl (7, [.ref 343, .int mi, .int shu, .int (x_comeIn mi bus ph sp ce cm pev pk pfa frm x1 x2).1, .ref 5, .ref 6, .ref 7, .ref 8, .ref 9, .ref 10, .ref 11, .ref 12, .ref 13, .ref 14, .ref 15, .int lks, .ref 16, .ref 17, .ref 20])), (7, .inr (.inl (0, (x_comeIn mi bus ph sp ce cm pev pk pfa frm x1 x2).2.1))), (8, .inr (.inl (0, (x_comeIn mi bus ph sp ce cm pev pk pfa frm x1 x2).2.2.1))), (9, .inr (.inl (0, (x_comeIn mi bus ph sp ce cm pev pk pfa frm x1 x2).2.2.2.1))), (14, .inr (.inl (0, (x_comeIn mi bus ph sp ce cm pev pk pfa frm x1 x2).2.2.2.2.1))), (20, .inl (3, [.ref 21, .ref 22, .ref 23, .ref 24, .ref 25, .ref 26, .ref 27, .ref 28, .int (x_comeIn mi bus ph sp ce cm pev pk pfa frm x1 x2).2.2.2.2.2.2, .int pk])), (28, .inr (.inl (0, (x_comeIn mi bus ph sp ce cm pev pk pfa frm x1 x2).2.2.2.2.2.1))), (343, .inl (2, [.int ns, .ref 344, .ref 345, .ref 346, .ref 347, .int nt, .ref 348, .ref 349, .ref 350, .ref 351, .ref 352, .ref 353, .ref 354, .int cel, .ref 355, .ref 356, .ref 357, .ref 358])), (350, .inr (.inl (0, frm)))] h0) := by
  show j_V jP d 97 0 [(0, .ref 4), (1, .int x1), (2, .int x2)] [] h _
  obtain ⟨lv, elv, L⟩ : ∃ lv, lv = [(0, .ref 4), (1, .int x1), (2, .int x2)] ∧ LK lv [(0, .ref 4), (1, .int x1), (2, .int x2)] := ⟨_, rfl, LK.rf⟩
  rw [← elv]
  clear elv
  refine j_V.ldL xb31_M xb31_0 rfl (i := 0) (kd := 2) (v := .ref 4) (pcJ := 1) rfl L rfl rfl rfl ?_
  refine j_V.getK xb31_M xb31_1 (ci := 7) (j := 6) rfl K rfl rfl ?_
  refine j_V.ldL xb31_M xb31_4 rfl (i := 1) (kd := 0) (v := .int x1) (pcJ := 5) rfl L rfl rfl rfl ?_
  refine j_V.one xb31_M xb31_5 (by decide) (pcJ := 6) (stJ := [.int 1, .int x1, .ref 7]) rfl ?_
  refine j_V.isA xb31_M xb31_6 (k' := [(4, .inl (7, [.ref 343, .int mi, .int shu, .int bus, .ref 5, .ref 6, .ref 7, .ref 8, .ref 9, .ref 10, .ref 11, .ref 12, .ref 13, .ref 14, .ref 15, .int lks, .ref 16, .ref 17, .ref 20])), (7, .inr (.inl (0, (sA ph x1 1)))), (8, .inr (.inl (0, sp))), (9, .inr (.inl (0, ce))), (14, .inr (.inl (0, cm))), (20, .inl (3, [.ref 21, .ref 22, .ref 23, .ref 24, .ref 25, .ref 26, .ref 27, .ref 28, .int pev, .int pk])), (28, .inr (.inl (0, pfa))), (343, .inl (2, [.int ns, .ref 344, .ref 345, .ref 346, .ref 347, .int nt, .ref 348, .ref 349, .ref 350, .ref 351, .ref 352, .ref 353, .ref 354, .int cel, .ref 355, .ref 356, .ref 357, .ref 358])), (350, .inr (.inl (0, frm)))]) K rfl rfl (fun h K => ?_)
  obtain ⟨ph1, eph1⟩ : ∃ z, z = (sA ph x1 1) := ⟨_, rfl⟩
  rw [← eph1] at K
  refine j_V.ldL xb31_M xb31_7 rfl (i := 0) (kd := 2) (v := .ref 4) (pcJ := 8) rfl L rfl rfl rfl ?_
  refine j_V.getK xb31_M xb31_8 (ci := 7) (j := 7) rfl K rfl rfl ?_
  refine j_V.ldL xb31_M xb31_11 rfl (i := 1) (kd := 0) (v := .int x1) (pcJ := 12) rfl L rfl rfl rfl ?_
  refine j_V.ldL xb31_M xb31_12 rfl (i := 0) (kd := 2) (v := .ref 4) (pcJ := 13) rfl L rfl rfl rfl ?_
  refine j_V.getK xb31_M xb31_13 (ci := 7) (j := 0) rfl K rfl rfl ?_
  refine j_V.getK xb31_M xb31_16 (ci := 2) (j := 8) rfl K rfl rfl ?_
  refine j_V.ldL xb31_M xb31_19 rfl (i := 1) (kd := 0) (v := .int x1) (pcJ := 20) rfl L rfl rfl rfl ?_
  refine j_V.iaA xb31_M xb31_20 K rfl ?_
  refine j_V.isA xb31_M xb31_21 (k' := [(4, .inl (7, [.ref 343, .int mi, .int shu, .int bus, .ref 5, .ref 6, .ref 7, .ref 8, .ref 9, .ref 10, .ref 11, .ref 12, .ref 13, .ref 14, .ref 15, .int lks, .ref 16, .ref 17, .ref 20])), (7, .inr (.inl (0, ph1))), (8, .inr (.inl (0, (sA sp x1 (gA frm x1))))), (9, .inr (.inl (0, ce))), (14, .inr (.inl (0, cm))), (20, .inl (3, [.ref 21, .ref 22, .ref 23, .ref 24, .ref 25, .ref 26, .ref 27, .ref 28, .int pev, .int pk])), (28, .inr (.inl (0, pfa))), (343, .inl (2, [.int ns, .ref 344, .ref 345, .ref 346, .ref 347, .int nt, .ref 348, .ref 349, .ref 350, .ref 351, .ref 352, .ref 353, .ref 354, .int cel, .ref 355, .ref 356, .ref 357, .ref 358])), (350, .inr (.inl (0, frm)))]) K rfl rfl (fun h K => ?_)
  obtain ⟨sp1, esp1⟩ : ∃ z, z = (sA sp x1 (gA frm x1)) := ⟨_, rfl⟩
  rw [← esp1] at K
  refine j_V.ldL xb31_M xb31_22 rfl (i := 0) (kd := 2) (v := .ref 4) (pcJ := 23) rfl L rfl rfl rfl ?_
  refine j_V.getK xb31_M xb31_23 (ci := 7) (j := 13) rfl K rfl rfl ?_
  refine j_V.ldL xb31_M xb31_26 rfl (i := 1) (kd := 0) (v := .int x1) (pcJ := 27) rfl L rfl rfl rfl ?_
  refine j_V.one xb31_M xb31_27 (by decide) (pcJ := 29) (stJ := [.int 7, .int x1, .ref 14]) rfl ?_
  refine j_V.one xb31_M xb31_29 (by decide) (pcJ := 30) (stJ := [.int (x1 * 7), .ref 14]) rfl ?_
  refine j_V.ldL xb31_M xb31_30 rfl (i := 0) (kd := 2) (v := .ref 4) (pcJ := 31) rfl L rfl rfl rfl ?_
  refine j_V.getK xb31_M xb31_31 (ci := 7) (j := 7) rfl K rfl rfl ?_
  refine j_V.ldL xb31_M xb31_34 rfl (i := 1) (kd := 0) (v := .int x1) (pcJ := 35) rfl L rfl rfl rfl ?_
  refine j_V.iaA xb31_M xb31_35 K rfl ?_
  refine j_V.one xb31_M xb31_36 (by decide) (pcJ := 37) (stJ := [.int ((x1 * 7) + (gA sp1 x1)), .ref 14]) rfl ?_
  refine j_V.ldL xb31_M xb31_37 rfl (i := 0) (kd := 2) (v := .ref 4) (pcJ := 38) rfl L rfl rfl rfl ?_
  refine j_V.getK xb31_M xb31_38 (ci := 7) (j := 1) rfl K rfl rfl ?_
  refine j_V.isA xb31_M xb31_41 (k' := [(4, .inl (7, [.ref 343, .int mi, .int shu, .int bus, .ref 5, .ref 6, .ref 7, .ref 8, .ref 9, .ref 10, .ref 11, .ref 12, .ref 13, .ref 14, .ref 15, .int lks, .ref 16, .ref 17, .ref 20])), (7, .inr (.inl (0, ph1))), (8, .inr (.inl (0, sp1))), (9, .inr (.inl (0, ce))), (14, .inr (.inl (0, (sA cm ((x1 * 7) + (gA sp1 x1)) mi)))), (20, .inl (3, [.ref 21, .ref 22, .ref 23, .ref 24, .ref 25, .ref 26, .ref 27, .ref 28, .int pev, .int pk])), (28, .inr (.inl (0, pfa))), (343, .inl (2, [.int ns, .ref 344, .ref 345, .ref 346, .ref 347, .int nt, .ref 348, .ref 349, .ref 350, .ref 351, .ref 352, .ref 353, .ref 354, .int cel, .ref 355, .ref 356, .ref 357, .ref 358])), (350, .inr (.inl (0, frm)))]) K rfl rfl (fun h K => ?_)
  obtain ⟨cm1, ecm1⟩ : ∃ z, z = (sA cm ((x1 * 7) + (gA sp1 x1)) mi) := ⟨_, rfl⟩
  rw [← ecm1] at K
  refine j_V.ldL xb31_M xb31_42 rfl (i := 0) (kd := 2) (v := .ref 4) (pcJ := 43) rfl L rfl rfl rfl ?_
  refine j_V.ldL xb31_M xb31_43 rfl (i := 1) (kd := 0) (v := .int x1) (pcJ := 44) rfl L rfl rfl rfl ?_
  refine j_V.ldL xb31_M xb31_44 rfl (i := 2) (kd := 0) (v := .int x2) (pcJ := 45) rfl L rfl rfl rfl ?_
  refine j_V.cl xb31_M xb31_45 rfl (md := 3) (mj := 100) rfl (by decide) xb28_M (As := [.ref 4, .int x1, .int x2]) (rest := []) (jk_spl3 (K.at rfl) rfl rfl rfl (Nat.le_of_ble_eq_true rfl) (Nat.le_of_ble_eq_true rfl)) (fun d => xb28_ok (K.fi [4, 9] rfl rfl)) ?_
  rintro r h9 ⟨rfl, K9⟩
  generalize ez1 : (x_takeCell bus ce x1 x2) = z1 at K9 ⊢
  have K : KN h9 [(4, .inl (7, [.ref 343, .int mi, .int shu, .int (z1.1), .ref 5, .ref 6, .ref 7, .ref 8, .ref 9, .ref 10, .ref 11, .ref 12, .ref 13, .ref 14, .ref 15, .int lks, .ref 16, .ref 17, .ref 20])), (7, .inr (.inl (0, ph1))), (8, .inr (.inl (0, sp1))), (9, .inr (.inl (0, (z1.2)))), (14, .inr (.inl (0, cm1))), (20, .inl (3, [.ref 21, .ref 22, .ref 23, .ref 24, .ref 25, .ref 26, .ref 27, .ref 28, .int pev, .int pk])), (28, .inr (.inl (0, pfa))), (343, .inl (2, [.int ns, .ref 344, .ref 345, .ref 346, .ref 347, .int nt, .ref 348, .ref 349, .ref 350, .ref 351, .ref 352, .ref 353, .ref 354, .int cel, .ref 355, .ref 356, .ref 357, .ref 358])), (350, .inr (.inl (0, frm)))] h0 := K.mg K9 rfl rfl
  clear K9
  show j_V jP _ 97 48 lv [] h9 _
  refine j_V.ldL xb31_M xb31_48 rfl (i := 0) (kd := 2) (v := .ref 4) (pcJ := 49) rfl L rfl rfl rfl ?_
  refine j_V.getK xb31_M xb31_49 (ci := 7) (j := 18) rfl K rfl rfl ?_
  refine j_V.ldL xb31_M xb31_52 rfl (i := 1) (kd := 0) (v := .int x1) (pcJ := 53) rfl L rfl rfl rfl ?_
  refine j_V.one xb31_M xb31_53 (by decide) (pcJ := 54) (stJ := [.int 0, .int x1, .ref 20]) rfl ?_
  refine j_V.ldL xb31_M xb31_54 rfl (i := 0) (kd := 2) (v := .ref 4) (pcJ := 55) rfl L rfl rfl rfl ?_
  refine j_V.getK xb31_M xb31_55 (ci := 7) (j := 1) rfl K rfl rfl ?_
  refine j_V.ldL xb31_M xb31_58 rfl (i := 0) (kd := 2) (v := .ref 4) (pcJ := 59) rfl L rfl rfl rfl ?_
  refine j_V.getK xb31_M xb31_59 (ci := 7) (j := 7) rfl K rfl rfl ?_
  refine j_V.ldL xb31_M xb31_62 rfl (i := 1) (kd := 0) (v := .int x1) (pcJ := 63) rfl L rfl rfl rfl ?_
  refine j_V.iaA xb31_M xb31_63 K rfl ?_
  refine j_V.cl xb31_M xb31_64 rfl (md := 3) (mj := 29) rfl (by decide) xb29_M (As := [.ref 20, .int x1, .int 0, .int mi, .int (gA sp1 x1)]) (rest := []) (jk_spl3 (K.at rfl) rfl rfl rfl (Nat.le_of_ble_eq_true rfl) (Nat.le_of_ble_eq_true rfl)) (fun d => xb29_ok (K.fi [20, 28] rfl rfl)) ?_
  rintro r h9 ⟨rfl, K9⟩
  generalize ez2 : (x_note pev pk pfa x1 0 mi (gA sp1 x1)) = z2 at K9 ⊢
  have K : KN h9 [(4, .inl (7, [.ref 343, .int mi, .int shu, .int (z1.1), .ref 5, .ref 6, .ref 7, .ref 8, .ref 9, .ref 10, .ref 11, .ref 12, .ref 13, .ref 14, .ref 15, .int lks, .ref 16, .ref 17, .ref 20])), (7, .inr (.inl (0, ph1))), (8, .inr (.inl (0, sp1))), (9, .inr (.inl (0, (z1.2)))), (14, .inr (.inl (0, cm1))), (20, .inl (3, [.ref 21, .ref 22, .ref 23, .ref 24, .ref 25, .ref 26, .ref 27, .ref 28, .int (z2.2), .int pk])), (28, .inr (.inl (0, (z2.1)))), (343, .inl (2, [.int ns, .ref 344, .ref 345, .ref 346, .ref 347, .int nt, .ref 348, .ref 349, .ref 350, .ref 351, .ref 352, .ref 353, .ref 354, .int cel, .ref 355, .ref 356, .ref 357, .ref 358])), (350, .inr (.inl (0, frm)))] h0 := K.mg K9 rfl rfl
  clear K9
  show j_V jP _ 97 67 lv [] h9 _
  subst ez2
  subst ez1
  subst ecm1
  subst esp1
  subst eph1
  refine j_V.ret xb31_M xb31_67 rfl rfl ?_
  rw [show (x_comeIn mi bus ph sp ce cm pev pk pfa frm x1 x2) = _ from (rfl)]
  exact ⟨rfl, K⟩
set_option maxRecDepth 100000 in
theorem xb32_M : j_meth jP 98 = some (yX7_leave, cX7_leave, 4, none, 2, false, 7) := rfl
set_option maxRecDepth 100000 in
theorem xb32_0 : j_code jP 98 0 = some (.aload_n 0) := rfl
set_option maxRecDepth 100000 in
theorem xb32_1 : j_code jP 98 1 = some (.iload_n 1) := rfl
set_option maxRecDepth 100000 in
theorem xb32_2 : j_code jP 98 2 = some (.invokevirtual 146) := rfl
set_option maxRecDepth 100000 in
theorem xb32_5 : j_code jP 98 5 = some (.istore_n 3) := rfl
set_option maxRecDepth 100000 in
theorem xb32_6 : j_code jP 98 6 = some (.aload_n 0) := rfl
set_option maxRecDepth 100000 in
theorem xb32_7 : j_code jP 98 7 = some (.getfield 18) := rfl
set_option maxRecDepth 100000 in
theorem xb32_10 : j_code jP 98 10 = some (.iload_n 1) := rfl
set_option maxRecDepth 100000 in
theorem xb32_11 : j_code jP 98 11 = some (.iconst 2) := rfl
set_option maxRecDepth 100000 in
theorem xb32_12 : j_code jP 98 12 = some (.iastore) := rfl
set_option maxRecDepth 100000 in
theorem xb32_13 : j_code jP 98 13 = some (.aload_n 0) := rfl
set_option maxRecDepth 100000 in
theorem xb32_14 : j_code jP 98 14 = some (.getfield 33) := rfl
set_option maxRecDepth 100000 in
theorem xb32_17 : j_code jP 98 17 = some (.iload_n 3) := rfl
set_option maxRecDepth 100000 in
theorem xb32_18 : j_code jP 98 18 = some (.iload_n 1) := rfl
set_option maxRecDepth 100000 in
theorem xb32_19 : j_code jP 98 19 = some (.iastore) := rfl
set_option maxRecDepth 100000 in
theorem xb32_20 : j_code jP 98 20 = some (.aload_n 0) := rfl
set_option maxRecDepth 100000 in
theorem xb32_21 : j_code jP 98 21 = some (.getfield 27) := rfl
set_option maxRecDepth 100000 in
theorem xb32_24 : j_code jP 98 24 = some (.iload_n 1) := rfl
set_option maxRecDepth 100000 in
theorem xb32_25 : j_code jP 98 25 = some (.aload_n 0) := rfl
set_option maxRecDepth 100000 in
theorem xb32_26 : j_code jP 98 26 = some (.getfield 68) := rfl
set_option maxRecDepth 100000 in
theorem xb32_29 : j_code jP 98 29 = some (.aload_n 0) := rfl
set_option maxRecDepth 100000 in
theorem xb32_30 : j_code jP 98 30 = some (.getfield 64) := rfl
set_option maxRecDepth 100000 in
theorem xb32_33 : j_code jP 98 33 = some (.getfield 224) := rfl
set_option maxRecDepth 100000 in
theorem xb32_36 : j_code jP 98 36 = some (.iload_n 1) := rfl
set_option maxRecDepth 100000 in
theorem xb32_37 : j_code jP 98 37 = some (.bipush 6) := rfl
set_option maxRecDepth 100000 in
theorem xb32_39 : j_code jP 98 39 = some (.imul) := rfl
set_option maxRecDepth 100000 in
theorem xb32_40 : j_code jP 98 40 = some (.iload_n 3) := rfl
set_option maxRecDepth 100000 in
theorem xb32_41 : j_code jP 98 41 = some (.iadd) := rfl
set_option maxRecDepth 100000 in
theorem xb32_42 : j_code jP 98 42 = some (.iaload) := rfl
set_option maxRecDepth 100000 in
theorem xb32_43 : j_code jP 98 43 = some (.iadd) := rfl
set_option maxRecDepth 100000 in
theorem xb32_44 : j_code jP 98 44 = some (.iastore) := rfl
set_option maxRecDepth 100000 in
theorem xb32_45 : j_code jP 98 45 = some (.aload_n 0) := rfl
set_option maxRecDepth 100000 in
theorem xb32_46 : j_code jP 98 46 = some (.getfield 42) := rfl
set_option maxRecDepth 100000 in
theorem xb32_49 : j_code jP 98 49 = some (.iload_n 1) := rfl
set_option maxRecDepth 100000 in
theorem xb32_50 : j_code jP 98 50 = some (.bipush 7) := rfl
set_option maxRecDepth 100000 in
theorem xb32_52 : j_code jP 98 52 = some (.imul) := rfl
set_option maxRecDepth 100000 in
theorem xb32_53 : j_code jP 98 53 = some (.aload_n 0) := rfl
set_option maxRecDepth 100000 in
theorem xb32_54 : j_code jP 98 54 = some (.getfield 21) := rfl
set_option maxRecDepth 100000 in
theorem xb32_57 : j_code jP 98 57 = some (.iload_n 1) := rfl
set_option maxRecDepth 100000 in
theorem xb32_58 : j_code jP 98 58 = some (.iaload) := rfl
set_option maxRecDepth 100000 in
theorem xb32_59 : j_code jP 98 59 = some (.iadd) := rfl
set_option maxRecDepth 100000 in
theorem xb32_60 : j_code jP 98 60 = some (.aload_n 0) := rfl
set_option maxRecDepth 100000 in
theorem xb32_61 : j_code jP 98 61 = some (.getfield 68) := rfl
set_option maxRecDepth 100000 in
theorem xb32_64 : j_code jP 98 64 = some (.iastore) := rfl
set_option maxRecDepth 100000 in
theorem xb32_65 : j_code jP 98 65 = some (.aload_n 0) := rfl
set_option maxRecDepth 100000 in
theorem xb32_66 : j_code jP 98 66 = some (.iload_n 1) := rfl
set_option maxRecDepth 100000 in
theorem xb32_67 : j_code jP 98 67 = some (.iload_n 2) := rfl
set_option maxRecDepth 100000 in
theorem xb32_68 : j_code jP 98 68 = some (.bipush 21) := rfl
set_option maxRecDepth 100000 in
theorem xb32_70 : j_code jP 98 70 = some (.if_icmp .ne 7) := rfl
set_option maxRecDepth 100000 in
theorem xb32_73 : j_code jP 98 73 = some (.iconst (-1)) := rfl
set_option maxRecDepth 100000 in
theorem xb32_74 : j_code jP 98 74 = some (.goto 4) := rfl
set_option maxRecDepth 100000 in
theorem xb32_77 : j_code jP 98 77 = some (.iload_n 2) := rfl
set_option maxRecDepth 100000 in
theorem xb32_78 : j_code jP 98 78 = some (.invokevirtual 217) := rfl
set_option maxRecDepth 100000 in
theorem xb32_81 : j_code jP 98 81 = some (.aload_n 0) := rfl
set_option maxRecDepth 100000 in
theorem xb32_82 : j_code jP 98 82 = some (.getfield 60) := rfl
set_option maxRecDepth 100000 in
theorem xb32_85 : j_code jP 98 85 = some (.iload_n 1) := rfl
set_option maxRecDepth 100000 in
theorem xb32_86 : j_code jP 98 86 = some (.iconst 1) := rfl
set_option maxRecDepth 100000 in
theorem xb32_87 : j_code jP 98 87 = some (.aload_n 0) := rfl
set_option maxRecDepth 100000 in
theorem xb32_88 : j_code jP 98 88 = some (.getfield 68) := rfl
set_option maxRecDepth 100000 in
theorem xb32_91 : j_code jP 98 91 = some (.aload_n 0) := rfl
set_option maxRecDepth 100000 in
theorem xb32_92 : j_code jP 98 92 = some (.getfield 21) := rfl
set_option maxRecDepth 100000 in
theorem xb32_95 : j_code jP 98 95 = some (.iload_n 1) := rfl
set_option maxRecDepth 100000 in
theorem xb32_96 : j_code jP 98 96 = some (.iaload) := rfl
set_option maxRecDepth 100000 in
theorem xb32_97 : j_code jP 98 97 = some (.invokevirtual 220) := rfl
set_option maxRecDepth 100000 in
theorem xb32_100 : j_code jP 98 100 = some (.aload_n 0) := rfl
set_option maxRecDepth 100000 in
theorem xb32_101 : j_code jP 98 101 = some (.getfield 60) := rfl
set_option maxRecDepth 100000 in
theorem xb32_104 : j_code jP 98 104 = some (.iload_n 3) := rfl
set_option maxRecDepth 100000 in
theorem xb32_105 : j_code jP 98 105 = some (.iload_n 1) := rfl
set_option maxRecDepth 100000 in
theorem xb32_106 : j_code jP 98 106 = some (.invokevirtual 227) := rfl
set_option maxRecDepth 100000 in
theorem xb32_109 : j_code jP 98 109 = some (.return_) := rfl
set_option maxRecDepth 1000000 in
theorem xb32_ok {mi : Int32} {shu : Int32} {bus : Int32} {lks : Int32} {ph : List Int32} {sp : List Int32} {ce : List Int32} {du : List Int32} {ri : List Int32} {lf : List Int32} {pev : Int32} {pk : Int32} {prs : List Int32} {prr : List Int32} {pfa : List Int32} {ns : Int32} {nt : Int32} {cel : Int32} {tto : List Int32} {rid : List Int32} {x1 x2 : Int32} {d : Nat} {h h0 : J_H} (K : KN h [(4, .inl (7, [.ref 343, .int mi, .int shu, .int bus, .ref 5, .ref 6, .ref 7, .ref 8, .ref 9, .ref 10, .ref 11, .ref 12, .ref 13, .ref 14, .ref 15, .int lks, .ref 16, .ref 17, .ref 20])), (7, .inr (.inl (0, ph))), (8, .inr (.inl (0, sp))), (9, .inr (.inl (0, ce))), (10, .inr (.inl (0, du))), (12, .inr (.inl (0, ri))), (15, .inr (.inl (0, lf))), (20, .inl (3, [.ref 21, .ref 22, .ref 23, .ref 24, .ref 25, .ref 26, .ref 27, .ref 28, .int pev, .int pk])), (26, .inr (.inl (0, prs))), (27, .inr (.inl (0, prr))), (28, .inr (.inl (0, pfa))), (343, .inl (2, [.int ns, .ref 344, .ref 345, .ref 346, .ref 347, .int nt, .ref 348, .ref 349, .ref 350, .ref 351, .ref 352, .ref 353, .ref 354, .int cel, .ref 355, .ref 356, .ref 357, .ref 358])), (351, .inr (.inl (0, tto))), (357, .inr (.inl (0, rid)))] h0) : j_V jP d 98 0 (lv_args 0 [.ref 4, .int x1, .int x2]) [] h (fun rv h' => rv = none ∧ KN h' [(4, .inl (7, [.ref 343, .int mi, .int shu, .int (x_leave mi bus ph sp ce du ri lf pev pk prs prr pfa tto rid x1 x2).1, .ref 5, .ref 6, .ref 7, .ref 8, .ref 9, .ref 10, .ref 11, .ref 12, .ref 13, .ref 14, .ref 15, .int lks, .ref 16, .ref 17, .ref 20])), (7, .inr (.inl (0, (x_leave mi bus ph sp ce du ri lf pev pk prs prr pfa tto rid x1 x2).2.1))), (8, .inr (.inl (0, sp))), (9, .inr (.inl (0, (x_leave mi bus ph sp ce du ri lf pev pk prs prr pfa tto rid x1 x2).2.2.1))), (10, .inr (.inl (0, (x_leave mi bus ph sp ce du ri lf pev pk prs prr pfa tto rid x1 x2).2.2.2.1))), (12, .inr (.inl (0, (x_leave mi bus ph sp ce du ri lf pev pk prs prr pfa tto rid x1 x2).2.2.2.2.1))), (15, .inr (.inl (0, (x_leave mi bus ph sp ce du ri lf pev pk prs prr pfa tto rid x1 x2).2.2.2.2.2.1))), (20, .inl (3, [.ref 21, .ref 22, .ref 23, .ref 24, .ref 25, .ref 26, .ref 27, .ref 28, .int (x_leave mi bus ph sp ce du ri lf pev pk prs prr pfa tto rid x1 x2).2.2.2.2.2.2.2.1, .int pk])), (26, .inr (.inl (0, (x_leave mi bus ph sp ce du ri lf pev pk prs prr pfa tto rid x1 x2).2.2.2.2.2.2.2.2.1))), (27, .inr (.inl (0, (x_leave mi bus ph sp ce du ri lf pev pk prs prr pfa tto rid x1 x2).2.2.2.2.2.2.2.2.2))), (28, .inr (.inl (0, (x_leave mi bus ph sp ce du ri lf pev pk prs prr pfa tto rid x1 x2).2.2.2.2.2.2.1))), (343, .inl (2, [.int ns, .ref 344, .ref 345, .ref 346, .ref 347, .int nt, .ref 348, .ref 349, .ref 350, .ref 351, .ref 352, .ref 353, .ref 354, .int cel, .ref 355, .ref 356, .ref 357, .ref 358])), (351, .inr (.inl (0, tto))), (357, .inr (.inl (0, rid)))] h0) := by
  show j_V jP d 98 0 [(0, .ref 4), (1, .int x1), (2, .int x2)] [] h _
  obtain ⟨lv, elv, L⟩ : ∃ lv, lv = [(0, .ref 4), (1, .int x1), (2, .int x2)] ∧ LK lv [(0, .ref 4), (1, .int x1), (2, .int x2)] := ⟨_, rfl, LK.rf⟩
  rw [← elv]
  clear elv
  refine j_V.ldL xb32_M xb32_0 rfl (i := 0) (kd := 2) (v := .ref 4) (pcJ := 1) rfl L rfl rfl rfl ?_
  refine j_V.ldL xb32_M xb32_1 rfl (i := 1) (kd := 0) (v := .int x1) (pcJ := 2) rfl L rfl rfl rfl ?_
  refine j_V.cl xb32_M xb32_2 rfl (md := 3) (mj := 84) rfl (by decide) xb17_M (As := [.ref 4, .int x1]) (rest := []) (jk_spl3 (K.at rfl) rfl rfl rfl (Nat.le_of_ble_eq_true rfl) (Nat.le_of_ble_eq_true rfl)) (fun d => xb17_ok (K.fi [4, 8, 343, 351] rfl rfl)) ?_
  rintro r hz ⟨rfl, ez⟩
  rw [ez]
  clear ez
  show j_V jP _ 98 5 lv [.int (x_sectionAhead sp tto x1)] h _
  refine j_V.stL xb32_M xb32_5 rfl (i := 3) (kd := 0) (kl' := [(0, .ref 4), (1, .int x1), (2, .int x2), (3, .int (x_sectionAhead sp tto x1))]) (pcJ := 6) rfl L rfl (by decide) rfl rfl rfl (fun lv L => ?_)
  refine j_V.ldL xb32_M xb32_6 rfl (i := 0) (kd := 2) (v := .ref 4) (pcJ := 7) rfl L rfl rfl rfl ?_
  refine j_V.getK xb32_M xb32_7 (ci := 7) (j := 6) rfl K rfl rfl ?_
  refine j_V.ldL xb32_M xb32_10 rfl (i := 1) (kd := 0) (v := .int x1) (pcJ := 11) rfl L rfl rfl rfl ?_
  refine j_V.one xb32_M xb32_11 (by decide) (pcJ := 12) (stJ := [.int 2, .int x1, .ref 7]) rfl ?_
  refine j_V.isA xb32_M xb32_12 (k' := [(4, .inl (7, [.ref 343, .int mi, .int shu, .int bus, .ref 5, .ref 6, .ref 7, .ref 8, .ref 9, .ref 10, .ref 11, .ref 12, .ref 13, .ref 14, .ref 15, .int lks, .ref 16, .ref 17, .ref 20])), (7, .inr (.inl (0, (sA ph x1 2)))), (8, .inr (.inl (0, sp))), (9, .inr (.inl (0, ce))), (10, .inr (.inl (0, du))), (12, .inr (.inl (0, ri))), (15, .inr (.inl (0, lf))), (20, .inl (3, [.ref 21, .ref 22, .ref 23, .ref 24, .ref 25, .ref 26, .ref 27, .ref 28, .int pev, .int pk])), (26, .inr (.inl (0, prs))), (27, .inr (.inl (0, prr))), (28, .inr (.inl (0, pfa))), (343, .inl (2, [.int ns, .ref 344, .ref 345, .ref 346, .ref 347, .int nt, .ref 348, .ref 349, .ref 350, .ref 351, .ref 352, .ref 353, .ref 354, .int cel, .ref 355, .ref 356, .ref 357, .ref 358])), (351, .inr (.inl (0, tto))), (357, .inr (.inl (0, rid)))]) K rfl rfl (fun h K => ?_)
  obtain ⟨ph1, eph1⟩ : ∃ z, z = (sA ph x1 2) := ⟨_, rfl⟩
  rw [← eph1] at K
  refine j_V.ldL xb32_M xb32_13 rfl (i := 0) (kd := 2) (v := .ref 4) (pcJ := 14) rfl L rfl rfl rfl ?_
  refine j_V.getK xb32_M xb32_14 (ci := 7) (j := 11) rfl K rfl rfl ?_
  refine j_V.ldL xb32_M xb32_17 rfl (i := 3) (kd := 0) (v := .int (x_sectionAhead sp tto x1)) (pcJ := 18) rfl L rfl rfl rfl ?_
  refine j_V.ldL xb32_M xb32_18 rfl (i := 1) (kd := 0) (v := .int x1) (pcJ := 19) rfl L rfl rfl rfl ?_
  refine j_V.isA xb32_M xb32_19 (k' := [(4, .inl (7, [.ref 343, .int mi, .int shu, .int bus, .ref 5, .ref 6, .ref 7, .ref 8, .ref 9, .ref 10, .ref 11, .ref 12, .ref 13, .ref 14, .ref 15, .int lks, .ref 16, .ref 17, .ref 20])), (7, .inr (.inl (0, ph1))), (8, .inr (.inl (0, sp))), (9, .inr (.inl (0, ce))), (10, .inr (.inl (0, du))), (12, .inr (.inl (0, (sA ri (x_sectionAhead sp tto x1) x1)))), (15, .inr (.inl (0, lf))), (20, .inl (3, [.ref 21, .ref 22, .ref 23, .ref 24, .ref 25, .ref 26, .ref 27, .ref 28, .int pev, .int pk])), (26, .inr (.inl (0, prs))), (27, .inr (.inl (0, prr))), (28, .inr (.inl (0, pfa))), (343, .inl (2, [.int ns, .ref 344, .ref 345, .ref 346, .ref 347, .int nt, .ref 348, .ref 349, .ref 350, .ref 351, .ref 352, .ref 353, .ref 354, .int cel, .ref 355, .ref 356, .ref 357, .ref 358])), (351, .inr (.inl (0, tto))), (357, .inr (.inl (0, rid)))]) K rfl rfl (fun h K => ?_)
  obtain ⟨ri1, eri1⟩ : ∃ z, z = (sA ri (x_sectionAhead sp tto x1) x1) := ⟨_, rfl⟩
  rw [← eri1] at K
  refine j_V.ldL xb32_M xb32_20 rfl (i := 0) (kd := 2) (v := .ref 4) (pcJ := 21) rfl L rfl rfl rfl ?_
  refine j_V.getK xb32_M xb32_21 (ci := 7) (j := 9) rfl K rfl rfl ?_
  refine j_V.ldL xb32_M xb32_24 rfl (i := 1) (kd := 0) (v := .int x1) (pcJ := 25) rfl L rfl rfl rfl ?_
  refine j_V.ldL xb32_M xb32_25 rfl (i := 0) (kd := 2) (v := .ref 4) (pcJ := 26) rfl L rfl rfl rfl ?_
  refine j_V.getK xb32_M xb32_26 (ci := 7) (j := 1) rfl K rfl rfl ?_
  refine j_V.ldL xb32_M xb32_29 rfl (i := 0) (kd := 2) (v := .ref 4) (pcJ := 30) rfl L rfl rfl rfl ?_
  refine j_V.getK xb32_M xb32_30 (ci := 7) (j := 0) rfl K rfl rfl ?_
  refine j_V.getK xb32_M xb32_33 (ci := 2) (j := 16) rfl K rfl rfl ?_
  refine j_V.ldL xb32_M xb32_36 rfl (i := 1) (kd := 0) (v := .int x1) (pcJ := 37) rfl L rfl rfl rfl ?_
  refine j_V.one xb32_M xb32_37 (by decide) (pcJ := 39) (stJ := [.int 6, .int x1, .ref 357, .int mi, .int x1, .ref 10]) rfl ?_
  refine j_V.one xb32_M xb32_39 (by decide) (pcJ := 40) (stJ := [.int (x1 * 6), .ref 357, .int mi, .int x1, .ref 10]) rfl ?_
  refine j_V.ldL xb32_M xb32_40 rfl (i := 3) (kd := 0) (v := .int (x_sectionAhead sp tto x1)) (pcJ := 41) rfl L rfl rfl rfl ?_
  refine j_V.one xb32_M xb32_41 (by decide) (pcJ := 42) (stJ := [.int ((x1 * 6) + (x_sectionAhead sp tto x1)), .ref 357, .int mi, .int x1, .ref 10]) rfl ?_
  refine j_V.iaA xb32_M xb32_42 K rfl ?_
  refine j_V.one xb32_M xb32_43 (by decide) (pcJ := 44) (stJ := [.int (mi + (gA rid ((x1 * 6) + (x_sectionAhead sp tto x1)))), .int x1, .ref 10]) rfl ?_
  refine j_V.isA xb32_M xb32_44 (k' := [(4, .inl (7, [.ref 343, .int mi, .int shu, .int bus, .ref 5, .ref 6, .ref 7, .ref 8, .ref 9, .ref 10, .ref 11, .ref 12, .ref 13, .ref 14, .ref 15, .int lks, .ref 16, .ref 17, .ref 20])), (7, .inr (.inl (0, ph1))), (8, .inr (.inl (0, sp))), (9, .inr (.inl (0, ce))), (10, .inr (.inl (0, (sA du x1 (mi + (gA rid ((x1 * 6) + (x_sectionAhead sp tto x1)))))))), (12, .inr (.inl (0, ri1))), (15, .inr (.inl (0, lf))), (20, .inl (3, [.ref 21, .ref 22, .ref 23, .ref 24, .ref 25, .ref 26, .ref 27, .ref 28, .int pev, .int pk])), (26, .inr (.inl (0, prs))), (27, .inr (.inl (0, prr))), (28, .inr (.inl (0, pfa))), (343, .inl (2, [.int ns, .ref 344, .ref 345, .ref 346, .ref 347, .int nt, .ref 348, .ref 349, .ref 350, .ref 351, .ref 352, .ref 353, .ref 354, .int cel, .ref 355, .ref 356, .ref 357, .ref 358])), (351, .inr (.inl (0, tto))), (357, .inr (.inl (0, rid)))]) K rfl rfl (fun h K => ?_)
  obtain ⟨du1, edu1⟩ : ∃ z, z = (sA du x1 (mi + (gA rid ((x1 * 6) + (x_sectionAhead sp tto x1))))) := ⟨_, rfl⟩
  rw [← edu1] at K
  refine j_V.ldL xb32_M xb32_45 rfl (i := 0) (kd := 2) (v := .ref 4) (pcJ := 46) rfl L rfl rfl rfl ?_
  refine j_V.getK xb32_M xb32_46 (ci := 7) (j := 14) rfl K rfl rfl ?_
  refine j_V.ldL xb32_M xb32_49 rfl (i := 1) (kd := 0) (v := .int x1) (pcJ := 50) rfl L rfl rfl rfl ?_
  refine j_V.one xb32_M xb32_50 (by decide) (pcJ := 52) (stJ := [.int 7, .int x1, .ref 15]) rfl ?_
  refine j_V.one xb32_M xb32_52 (by decide) (pcJ := 53) (stJ := [.int (x1 * 7), .ref 15]) rfl ?_
  refine j_V.ldL xb32_M xb32_53 rfl (i := 0) (kd := 2) (v := .ref 4) (pcJ := 54) rfl L rfl rfl rfl ?_
  refine j_V.getK xb32_M xb32_54 (ci := 7) (j := 7) rfl K rfl rfl ?_
  refine j_V.ldL xb32_M xb32_57 rfl (i := 1) (kd := 0) (v := .int x1) (pcJ := 58) rfl L rfl rfl rfl ?_
  refine j_V.iaA xb32_M xb32_58 K rfl ?_
  refine j_V.one xb32_M xb32_59 (by decide) (pcJ := 60) (stJ := [.int ((x1 * 7) + (gA sp x1)), .ref 15]) rfl ?_
  refine j_V.ldL xb32_M xb32_60 rfl (i := 0) (kd := 2) (v := .ref 4) (pcJ := 61) rfl L rfl rfl rfl ?_
  refine j_V.getK xb32_M xb32_61 (ci := 7) (j := 1) rfl K rfl rfl ?_
  refine j_V.isA xb32_M xb32_64 (k' := [(4, .inl (7, [.ref 343, .int mi, .int shu, .int bus, .ref 5, .ref 6, .ref 7, .ref 8, .ref 9, .ref 10, .ref 11, .ref 12, .ref 13, .ref 14, .ref 15, .int lks, .ref 16, .ref 17, .ref 20])), (7, .inr (.inl (0, ph1))), (8, .inr (.inl (0, sp))), (9, .inr (.inl (0, ce))), (10, .inr (.inl (0, du1))), (12, .inr (.inl (0, ri1))), (15, .inr (.inl (0, (sA lf ((x1 * 7) + (gA sp x1)) mi)))), (20, .inl (3, [.ref 21, .ref 22, .ref 23, .ref 24, .ref 25, .ref 26, .ref 27, .ref 28, .int pev, .int pk])), (26, .inr (.inl (0, prs))), (27, .inr (.inl (0, prr))), (28, .inr (.inl (0, pfa))), (343, .inl (2, [.int ns, .ref 344, .ref 345, .ref 346, .ref 347, .int nt, .ref 348, .ref 349, .ref 350, .ref 351, .ref 352, .ref 353, .ref 354, .int cel, .ref 355, .ref 356, .ref 357, .ref 358])), (351, .inr (.inl (0, tto))), (357, .inr (.inl (0, rid)))]) K rfl rfl (fun h K => ?_)
  obtain ⟨lf1, elf1⟩ : ∃ z, z = (sA lf ((x1 * 7) + (gA sp x1)) mi) := ⟨_, rfl⟩
  rw [← elf1] at K
  refine j_V.ldL xb32_M xb32_65 rfl (i := 0) (kd := 2) (v := .ref 4) (pcJ := 66) rfl L rfl rfl rfl ?_
  refine j_V.ldL xb32_M xb32_66 rfl (i := 1) (kd := 0) (v := .int x1) (pcJ := 67) rfl L rfl rfl rfl ?_
  refine j_V.ldL xb32_M xb32_67 rfl (i := 2) (kd := 0) (v := .int x2) (pcJ := 68) rfl L rfl rfl rfl ?_
  refine j_V.one xb32_M xb32_68 (by decide) (pcJ := 70) (stJ := [.int 21, .int x2, .int x1, .ref 4]) rfl ?_
  refine j_V.cut (b := 78) (stJ := [.int ((if x2 = 21 then (-1) else x2) : Int32), .int x1, .ref 4]) (fun v => [(0, .ref 4), (1, .int x1), (2, .int x2), (3, .int (x_sectionAhead sp tto x1))]) ((if x2 = 21 then (-1) else x2) : Int32) (fun Q kk => ?_) (fun lv L => ?_)
  · refine j_V.icmp xb32_M xb32_70 (t := 77) rfl (fun c70_0 => ?_) (fun c70_0 => ?_)
    · replace c70_0 : ¬ (x2 = 21) := jd_ne c70_0
      refine j_V.ldL xb32_M xb32_77 rfl (i := 2) (kd := 0) (v := .int x2) (pcJ := 78) rfl L rfl rfl rfl ?_
      exact Eq.subst (motive := fun z => j_V jP _ 98 78 _ (.int z :: [.int x1, .ref 4]) h Q) (show ((if x2 = 21 then (-1) else x2) : Int32) = x2 from (if_neg c70_0).trans (rfl)) (kk _ L)
    · replace c70_0 : x2 = 21 := jd_nen c70_0
      refine j_V.one xb32_M xb32_73 (by decide) (pcJ := 74) (stJ := [.int (-1), .int x1, .ref 4]) rfl ?_
      refine j_V.gto xb32_M xb32_74 (t := 78) rfl ?_
      exact Eq.subst (motive := fun z => j_V jP _ 98 78 _ (.int z :: [.int x1, .ref 4]) h Q) (show ((if x2 = 21 then (-1) else x2) : Int32) = (-1) from (if_pos c70_0).trans (rfl)) (kk _ L)
  refine j_V.cl xb32_M xb32_78 rfl (md := 3) (mj := 100) rfl (by decide) xb28_M (As := [.ref 4, .int x1, .int ((if x2 = 21 then (-1) else x2) : Int32)]) (rest := []) (jk_spl3 (K.at rfl) rfl rfl rfl (Nat.le_of_ble_eq_true rfl) (Nat.le_of_ble_eq_true rfl)) (fun d => xb28_ok (K.fi [4, 9] rfl rfl)) ?_
  rintro r h9 ⟨rfl, K9⟩
  generalize ez1 : (x_takeCell bus ce x1 ((if x2 = 21 then (-1) else x2) : Int32)) = z1 at K9 ⊢
  have K : KN h9 [(4, .inl (7, [.ref 343, .int mi, .int shu, .int (z1.1), .ref 5, .ref 6, .ref 7, .ref 8, .ref 9, .ref 10, .ref 11, .ref 12, .ref 13, .ref 14, .ref 15, .int lks, .ref 16, .ref 17, .ref 20])), (7, .inr (.inl (0, ph1))), (8, .inr (.inl (0, sp))), (9, .inr (.inl (0, (z1.2)))), (10, .inr (.inl (0, du1))), (12, .inr (.inl (0, ri1))), (15, .inr (.inl (0, lf1))), (20, .inl (3, [.ref 21, .ref 22, .ref 23, .ref 24, .ref 25, .ref 26, .ref 27, .ref 28, .int pev, .int pk])), (26, .inr (.inl (0, prs))), (27, .inr (.inl (0, prr))), (28, .inr (.inl (0, pfa))), (343, .inl (2, [.int ns, .ref 344, .ref 345, .ref 346, .ref 347, .int nt, .ref 348, .ref 349, .ref 350, .ref 351, .ref 352, .ref 353, .ref 354, .int cel, .ref 355, .ref 356, .ref 357, .ref 358])), (351, .inr (.inl (0, tto))), (357, .inr (.inl (0, rid)))] h0 := K.mg K9 rfl rfl
  clear K9
  show j_V jP _ 98 81 lv [] h9 _
  refine j_V.ldL xb32_M xb32_81 rfl (i := 0) (kd := 2) (v := .ref 4) (pcJ := 82) rfl L rfl rfl rfl ?_
  refine j_V.getK xb32_M xb32_82 (ci := 7) (j := 18) rfl K rfl rfl ?_
  refine j_V.ldL xb32_M xb32_85 rfl (i := 1) (kd := 0) (v := .int x1) (pcJ := 86) rfl L rfl rfl rfl ?_
  refine j_V.one xb32_M xb32_86 (by decide) (pcJ := 87) (stJ := [.int 1, .int x1, .ref 20]) rfl ?_
  refine j_V.ldL xb32_M xb32_87 rfl (i := 0) (kd := 2) (v := .ref 4) (pcJ := 88) rfl L rfl rfl rfl ?_
  refine j_V.getK xb32_M xb32_88 (ci := 7) (j := 1) rfl K rfl rfl ?_
  refine j_V.ldL xb32_M xb32_91 rfl (i := 0) (kd := 2) (v := .ref 4) (pcJ := 92) rfl L rfl rfl rfl ?_
  refine j_V.getK xb32_M xb32_92 (ci := 7) (j := 7) rfl K rfl rfl ?_
  refine j_V.ldL xb32_M xb32_95 rfl (i := 1) (kd := 0) (v := .int x1) (pcJ := 96) rfl L rfl rfl rfl ?_
  refine j_V.iaA xb32_M xb32_96 K rfl ?_
  refine j_V.cl xb32_M xb32_97 rfl (md := 3) (mj := 29) rfl (by decide) xb29_M (As := [.ref 20, .int x1, .int 1, .int mi, .int (gA sp x1)]) (rest := []) (jk_spl3 (K.at rfl) rfl rfl rfl (Nat.le_of_ble_eq_true rfl) (Nat.le_of_ble_eq_true rfl)) (fun d => xb29_ok (K.fi [20, 28] rfl rfl)) ?_
  rintro r h9 ⟨rfl, K9⟩
  generalize ez2 : (x_note pev pk pfa x1 1 mi (gA sp x1)) = z2 at K9 ⊢
  have K : KN h9 [(4, .inl (7, [.ref 343, .int mi, .int shu, .int (z1.1), .ref 5, .ref 6, .ref 7, .ref 8, .ref 9, .ref 10, .ref 11, .ref 12, .ref 13, .ref 14, .ref 15, .int lks, .ref 16, .ref 17, .ref 20])), (7, .inr (.inl (0, ph1))), (8, .inr (.inl (0, sp))), (9, .inr (.inl (0, (z1.2)))), (10, .inr (.inl (0, du1))), (12, .inr (.inl (0, ri1))), (15, .inr (.inl (0, lf1))), (20, .inl (3, [.ref 21, .ref 22, .ref 23, .ref 24, .ref 25, .ref 26, .ref 27, .ref 28, .int (z2.2), .int pk])), (26, .inr (.inl (0, prs))), (27, .inr (.inl (0, prr))), (28, .inr (.inl (0, (z2.1)))), (343, .inl (2, [.int ns, .ref 344, .ref 345, .ref 346, .ref 347, .int nt, .ref 348, .ref 349, .ref 350, .ref 351, .ref 352, .ref 353, .ref 354, .int cel, .ref 355, .ref 356, .ref 357, .ref 358])), (351, .inr (.inl (0, tto))), (357, .inr (.inl (0, rid)))] h0 := K.mg K9 rfl rfl
  clear K9
  show j_V jP _ 98 100 lv [] h9 _
  refine j_V.ldL xb32_M xb32_100 rfl (i := 0) (kd := 2) (v := .ref 4) (pcJ := 101) rfl L rfl rfl rfl ?_
  refine j_V.getK xb32_M xb32_101 (ci := 7) (j := 18) rfl K rfl rfl ?_
  refine j_V.ldL xb32_M xb32_104 rfl (i := 3) (kd := 0) (v := .int (x_sectionAhead sp tto x1)) (pcJ := 105) rfl L rfl rfl rfl ?_
  refine j_V.ldL xb32_M xb32_105 rfl (i := 1) (kd := 0) (v := .int x1) (pcJ := 106) rfl L rfl rfl rfl ?_
  refine j_V.cl xb32_M xb32_106 rfl (md := 3) (mj := 30) rfl (by decide) xb30_M (As := [.ref 20, .int (x_sectionAhead sp tto x1), .int x1]) (rest := []) (jk_spl3 (K.at rfl) rfl rfl rfl (Nat.le_of_ble_eq_true rfl) (Nat.le_of_ble_eq_true rfl)) (fun d => xb30_ok (K.fi [20, 26, 27] rfl rfl)) ?_
  rintro r h9 ⟨rfl, K9⟩
  generalize ez3 : (x_noteRider pk prs prr (x_sectionAhead sp tto x1) x1) = z3 at K9 ⊢
  have K : KN h9 [(4, .inl (7, [.ref 343, .int mi, .int shu, .int (z1.1), .ref 5, .ref 6, .ref 7, .ref 8, .ref 9, .ref 10, .ref 11, .ref 12, .ref 13, .ref 14, .ref 15, .int lks, .ref 16, .ref 17, .ref 20])), (7, .inr (.inl (0, ph1))), (8, .inr (.inl (0, sp))), (9, .inr (.inl (0, (z1.2)))), (10, .inr (.inl (0, du1))), (12, .inr (.inl (0, ri1))), (15, .inr (.inl (0, lf1))), (20, .inl (3, [.ref 21, .ref 22, .ref 23, .ref 24, .ref 25, .ref 26, .ref 27, .ref 28, .int (z2.2), .int pk])), (26, .inr (.inl (0, (z3.1)))), (27, .inr (.inl (0, (z3.2)))), (28, .inr (.inl (0, (z2.1)))), (343, .inl (2, [.int ns, .ref 344, .ref 345, .ref 346, .ref 347, .int nt, .ref 348, .ref 349, .ref 350, .ref 351, .ref 352, .ref 353, .ref 354, .int cel, .ref 355, .ref 356, .ref 357, .ref 358])), (351, .inr (.inl (0, tto))), (357, .inr (.inl (0, rid)))] h0 := K.mg K9 rfl rfl
  clear K9
  show j_V jP _ 98 109 lv [] h9 _
  subst ez3
  subst ez2
  subst ez1
  subst elf1
  subst edu1
  subst eri1
  subst eph1
  refine j_V.ret xb32_M xb32_109 rfl rfl ?_
  rw [show (x_leave mi bus ph sp ce du ri lf pev pk prs prr pfa tto rid x1 x2) = _ from (rfl)]
  exact ⟨rfl, K⟩
set_option maxRecDepth 100000 in
theorem xb33_M : j_meth jP 99 = some (yX7_arrive, cX7_arrive, 2, none, 1, false, 7) := rfl
set_option maxRecDepth 100000 in
theorem xb33_0 : j_code jP 99 0 = some (.aload_n 0) := rfl
set_option maxRecDepth 100000 in
theorem xb33_1 : j_code jP 99 1 = some (.getfield 33) := rfl
set_option maxRecDepth 100000 in
theorem xb33_4 : j_code jP 99 4 = some (.aload_n 0) := rfl
set_option maxRecDepth 100000 in
theorem xb33_5 : j_code jP 99 5 = some (.iload_n 1) := rfl
set_option maxRecDepth 100000 in
theorem xb33_6 : j_code jP 99 6 = some (.invokevirtual 146) := rfl
set_option maxRecDepth 100000 in
theorem xb33_9 : j_code jP 99 9 = some (.iconst (-1)) := rfl
set_option maxRecDepth 100000 in
theorem xb33_10 : j_code jP 99 10 = some (.iastore) := rfl
set_option maxRecDepth 100000 in
theorem xb33_11 : j_code jP 99 11 = some (.aload_n 0) := rfl
set_option maxRecDepth 100000 in
theorem xb33_12 : j_code jP 99 12 = some (.getfield 21) := rfl
set_option maxRecDepth 100000 in
theorem xb33_15 : j_code jP 99 15 = some (.iload_n 1) := rfl
set_option maxRecDepth 100000 in
theorem xb33_16 : j_code jP 99 16 = some (.aload_n 0) := rfl
set_option maxRecDepth 100000 in
theorem xb33_17 : j_code jP 99 17 = some (.iload_n 1) := rfl
set_option maxRecDepth 100000 in
theorem xb33_18 : j_code jP 99 18 = some (.invokevirtual 152) := rfl
set_option maxRecDepth 100000 in
theorem xb33_21 : j_code jP 99 21 = some (.iastore) := rfl
set_option maxRecDepth 100000 in
theorem xb33_22 : j_code jP 99 22 = some (.aload_n 0) := rfl
set_option maxRecDepth 100000 in
theorem xb33_23 : j_code jP 99 23 = some (.getfield 18) := rfl
set_option maxRecDepth 100000 in
theorem xb33_26 : j_code jP 99 26 = some (.iload_n 1) := rfl
set_option maxRecDepth 100000 in
theorem xb33_27 : j_code jP 99 27 = some (.aload_n 0) := rfl
set_option maxRecDepth 100000 in
theorem xb33_28 : j_code jP 99 28 = some (.getfield 21) := rfl
set_option maxRecDepth 100000 in
theorem xb33_31 : j_code jP 99 31 = some (.iload_n 1) := rfl
set_option maxRecDepth 100000 in
theorem xb33_32 : j_code jP 99 32 = some (.iaload) := rfl
set_option maxRecDepth 100000 in
theorem xb33_33 : j_code jP 99 33 = some (.aload_n 0) := rfl
set_option maxRecDepth 100000 in
theorem xb33_34 : j_code jP 99 34 = some (.getfield 64) := rfl
set_option maxRecDepth 100000 in
theorem xb33_37 : j_code jP 99 37 = some (.getfield 112) := rfl
set_option maxRecDepth 100000 in
theorem xb33_40 : j_code jP 99 40 = some (.iload_n 1) := rfl
set_option maxRecDepth 100000 in
theorem xb33_41 : j_code jP 99 41 = some (.iaload) := rfl
set_option maxRecDepth 100000 in
theorem xb33_42 : j_code jP 99 42 = some (.if_icmp .ne 7) := rfl
set_option maxRecDepth 100000 in
theorem xb33_45 : j_code jP 99 45 = some (.iconst 3) := rfl
set_option maxRecDepth 100000 in
theorem xb33_46 : j_code jP 99 46 = some (.goto 4) := rfl
set_option maxRecDepth 100000 in
theorem xb33_49 : j_code jP 99 49 = some (.iconst 1) := rfl
set_option maxRecDepth 100000 in
theorem xb33_50 : j_code jP 99 50 = some (.iastore) := rfl
set_option maxRecDepth 100000 in
theorem xb33_51 : j_code jP 99 51 = some (.aload_n 0) := rfl
set_option maxRecDepth 100000 in
theorem xb33_52 : j_code jP 99 52 = some (.getfield 39) := rfl
set_option maxRecDepth 100000 in
theorem xb33_55 : j_code jP 99 55 = some (.iload_n 1) := rfl
set_option maxRecDepth 100000 in
theorem xb33_56 : j_code jP 99 56 = some (.bipush 7) := rfl
set_option maxRecDepth 100000 in
theorem xb33_58 : j_code jP 99 58 = some (.imul) := rfl
set_option maxRecDepth 100000 in
theorem xb33_59 : j_code jP 99 59 = some (.aload_n 0) := rfl
set_option maxRecDepth 100000 in
theorem xb33_60 : j_code jP 99 60 = some (.getfield 21) := rfl
set_option maxRecDepth 100000 in
theorem xb33_63 : j_code jP 99 63 = some (.iload_n 1) := rfl
set_option maxRecDepth 100000 in
theorem xb33_64 : j_code jP 99 64 = some (.iaload) := rfl
set_option maxRecDepth 100000 in
theorem xb33_65 : j_code jP 99 65 = some (.iadd) := rfl
set_option maxRecDepth 100000 in
theorem xb33_66 : j_code jP 99 66 = some (.aload_n 0) := rfl
set_option maxRecDepth 100000 in
theorem xb33_67 : j_code jP 99 67 = some (.getfield 68) := rfl
set_option maxRecDepth 100000 in
theorem xb33_70 : j_code jP 99 70 = some (.iastore) := rfl
set_option maxRecDepth 100000 in
theorem xb33_71 : j_code jP 99 71 = some (.aload_n 0) := rfl
set_option maxRecDepth 100000 in
theorem xb33_72 : j_code jP 99 72 = some (.getfield 60) := rfl
set_option maxRecDepth 100000 in
theorem xb33_75 : j_code jP 99 75 = some (.iload_n 1) := rfl
set_option maxRecDepth 100000 in
theorem xb33_76 : j_code jP 99 76 = some (.iconst 2) := rfl
set_option maxRecDepth 100000 in
theorem xb33_77 : j_code jP 99 77 = some (.aload_n 0) := rfl
set_option maxRecDepth 100000 in
theorem xb33_78 : j_code jP 99 78 = some (.getfield 68) := rfl
set_option maxRecDepth 100000 in
theorem xb33_81 : j_code jP 99 81 = some (.aload_n 0) := rfl
set_option maxRecDepth 100000 in
theorem xb33_82 : j_code jP 99 82 = some (.getfield 21) := rfl
set_option maxRecDepth 100000 in
theorem xb33_85 : j_code jP 99 85 = some (.iload_n 1) := rfl
set_option maxRecDepth 100000 in
theorem xb33_86 : j_code jP 99 86 = some (.iaload) := rfl
set_option maxRecDepth 100000 in
theorem xb33_87 : j_code jP 99 87 = some (.invokevirtual 220) := rfl
set_option maxRecDepth 100000 in
theorem xb33_90 : j_code jP 99 90 = some (.return_) := rfl
set_option maxRecDepth 1000000 in
theorem xb33_ok {mi : Int32} {shu : Int32} {bus : Int32} {lks : Int32} {ph : List Int32} {sp : List Int32} {ri : List Int32} {cm : List Int32} {pev : Int32} {pk : Int32} {pfa : List Int32} {ns : Int32} {nt : Int32} {cel : Int32} {tto : List Int32} {x1 : Int32} {d : Nat} {h h0 : J_H} (K : KN h [(4, .inl (7, [.ref 343, .int mi, .int shu, .int bus, .ref 5, .ref 6, .ref 7, .ref 8, .ref 9, .ref 10, .ref 11, .ref 12, .ref 13, .ref 14, .ref 15, .int lks, .ref 16, .ref 17, .ref 20])), (7, .inr (.inl (0, ph))), (8, .inr (.inl (0, sp))), (12, .inr (.inl (0, ri))), (14, .inr (.inl (0, cm))), (20, .inl (3, [.ref 21, .ref 22, .ref 23, .ref 24, .ref 25, .ref 26, .ref 27, .ref 28, .int pev, .int pk])), (28, .inr (.inl (0, pfa))), (343, .inl (2, [.int ns, .ref 344, .ref 345, .ref 346, .ref 347, .int nt, .ref 348, .ref 349, .ref 350, .ref 351, .ref 352, .ref 353, .ref 354, .int cel, .ref 355, .ref 356, .ref 357, .ref 358])), (351, .inr (.inl (0, tto)))] h0) : j_V jP d 99 0 (lv_args 0 [.ref 4, .int x1]) [] h (fun rv h' => rv = none ∧ KN h' [(4, .inl (7, [.ref 343, .int mi, .int shu, .int bus, .ref 5, .ref 6, .ref 7, .ref 8, .ref 9, .ref 10, .ref 11, .ref 12, .ref 13, .ref 14, .ref 15, .int lks, .ref 16, .ref 17, .ref 20])), (7, .inr (.inl (0, (x_arrive mi ph sp ri cm pev pk pfa tto x1).1))), (8, .inr (.inl (0, (x_arrive mi ph sp ri cm pev pk pfa tto x1).2.1))), (12, .inr (.inl (0, (x_arrive mi ph sp ri cm pev pk pfa tto x1).2.2.1))), (14, .inr (.inl (0, (x_arrive mi ph sp ri cm pev pk pfa tto x1).2.2.2.1))), (20, .inl (3, [.ref 21, .ref 22, .ref 23, .ref 24, .ref 25, .ref 26, .ref 27, .ref 28, .int (x_arrive mi ph sp ri cm pev pk pfa tto x1).2.2.2.2.2, .int pk])), (28, .inr (.inl (0, (x_arrive mi ph sp ri cm pev pk pfa tto x1).2.2.2.2.1))), (343, .inl (2, [.int ns, .ref 344, .ref 345, .ref 346, .ref 347, .int nt, .ref 348, .ref 349, .ref 350, .ref 351, .ref 352, .ref 353, .ref 354, .int cel, .ref 355, .ref 356, .ref 357, .ref 358])), (351, .inr (.inl (0, tto)))] h0) := by
  show j_V jP d 99 0 [(0, .ref 4), (1, .int x1)] [] h _
  obtain ⟨lv, elv, L⟩ : ∃ lv, lv = [(0, .ref 4), (1, .int x1)] ∧ LK lv [(0, .ref 4), (1, .int x1)] := ⟨_, rfl, LK.rf⟩
  rw [← elv]
  clear elv
  refine j_V.ldL xb33_M xb33_0 rfl (i := 0) (kd := 2) (v := .ref 4) (pcJ := 1) rfl L rfl rfl rfl ?_
  refine j_V.getK xb33_M xb33_1 (ci := 7) (j := 11) rfl K rfl rfl ?_
  refine j_V.ldL xb33_M xb33_4 rfl (i := 0) (kd := 2) (v := .ref 4) (pcJ := 5) rfl L rfl rfl rfl ?_
  refine j_V.ldL xb33_M xb33_5 rfl (i := 1) (kd := 0) (v := .int x1) (pcJ := 6) rfl L rfl rfl rfl ?_
  refine j_V.cl xb33_M xb33_6 rfl (md := 3) (mj := 84) rfl (by decide) xb17_M (As := [.ref 4, .int x1]) (rest := [.ref 12]) (jk_spl3 (K.at rfl) rfl rfl rfl (Nat.le_of_ble_eq_true rfl) (Nat.le_of_ble_eq_true rfl)) (fun d => xb17_ok (K.fi [4, 8, 343, 351] rfl rfl)) ?_
  rintro r hz ⟨rfl, ez⟩
  rw [ez]
  clear ez
  show j_V jP _ 99 9 lv [.int (x_sectionAhead sp tto x1), .ref 12] h _
  refine j_V.one xb33_M xb33_9 (by decide) (pcJ := 10) (stJ := [.int (-1), .int (x_sectionAhead sp tto x1), .ref 12]) rfl ?_
  refine j_V.isA xb33_M xb33_10 (k' := [(4, .inl (7, [.ref 343, .int mi, .int shu, .int bus, .ref 5, .ref 6, .ref 7, .ref 8, .ref 9, .ref 10, .ref 11, .ref 12, .ref 13, .ref 14, .ref 15, .int lks, .ref 16, .ref 17, .ref 20])), (7, .inr (.inl (0, ph))), (8, .inr (.inl (0, sp))), (12, .inr (.inl (0, (sA ri (x_sectionAhead sp tto x1) (-1))))), (14, .inr (.inl (0, cm))), (20, .inl (3, [.ref 21, .ref 22, .ref 23, .ref 24, .ref 25, .ref 26, .ref 27, .ref 28, .int pev, .int pk])), (28, .inr (.inl (0, pfa))), (343, .inl (2, [.int ns, .ref 344, .ref 345, .ref 346, .ref 347, .int nt, .ref 348, .ref 349, .ref 350, .ref 351, .ref 352, .ref 353, .ref 354, .int cel, .ref 355, .ref 356, .ref 357, .ref 358])), (351, .inr (.inl (0, tto)))]) K rfl rfl (fun h K => ?_)
  obtain ⟨ri1, eri1⟩ : ∃ z, z = (sA ri (x_sectionAhead sp tto x1) (-1)) := ⟨_, rfl⟩
  rw [← eri1] at K
  refine j_V.ldL xb33_M xb33_11 rfl (i := 0) (kd := 2) (v := .ref 4) (pcJ := 12) rfl L rfl rfl rfl ?_
  refine j_V.getK xb33_M xb33_12 (ci := 7) (j := 7) rfl K rfl rfl ?_
  refine j_V.ldL xb33_M xb33_15 rfl (i := 1) (kd := 0) (v := .int x1) (pcJ := 16) rfl L rfl rfl rfl ?_
  refine j_V.ldL xb33_M xb33_16 rfl (i := 0) (kd := 2) (v := .ref 4) (pcJ := 17) rfl L rfl rfl rfl ?_
  refine j_V.ldL xb33_M xb33_17 rfl (i := 1) (kd := 0) (v := .int x1) (pcJ := 18) rfl L rfl rfl rfl ?_
  refine j_V.cl xb33_M xb33_18 rfl (md := 3) (mj := 83) rfl (by decide) xb16_M (As := [.ref 4, .int x1]) (rest := [.int x1, .ref 8]) (jk_spl3 (K.at rfl) rfl rfl rfl (Nat.le_of_ble_eq_true rfl) (Nat.le_of_ble_eq_true rfl)) (fun d => xb16_ok (K.fi [4, 8, 343, 351] rfl rfl)) ?_
  rintro r hz ⟨rfl, ez⟩
  rw [ez]
  clear ez
  show j_V jP _ 99 21 lv [.int (x_nextStation sp tto x1), .int x1, .ref 8] h _
  refine j_V.isA xb33_M xb33_21 (k' := [(4, .inl (7, [.ref 343, .int mi, .int shu, .int bus, .ref 5, .ref 6, .ref 7, .ref 8, .ref 9, .ref 10, .ref 11, .ref 12, .ref 13, .ref 14, .ref 15, .int lks, .ref 16, .ref 17, .ref 20])), (7, .inr (.inl (0, ph))), (8, .inr (.inl (0, (sA sp x1 (x_nextStation sp tto x1))))), (12, .inr (.inl (0, ri1))), (14, .inr (.inl (0, cm))), (20, .inl (3, [.ref 21, .ref 22, .ref 23, .ref 24, .ref 25, .ref 26, .ref 27, .ref 28, .int pev, .int pk])), (28, .inr (.inl (0, pfa))), (343, .inl (2, [.int ns, .ref 344, .ref 345, .ref 346, .ref 347, .int nt, .ref 348, .ref 349, .ref 350, .ref 351, .ref 352, .ref 353, .ref 354, .int cel, .ref 355, .ref 356, .ref 357, .ref 358])), (351, .inr (.inl (0, tto)))]) K rfl rfl (fun h K => ?_)
  obtain ⟨sp1, esp1⟩ : ∃ z, z = (sA sp x1 (x_nextStation sp tto x1)) := ⟨_, rfl⟩
  rw [← esp1] at K
  refine j_V.ldL xb33_M xb33_22 rfl (i := 0) (kd := 2) (v := .ref 4) (pcJ := 23) rfl L rfl rfl rfl ?_
  refine j_V.getK xb33_M xb33_23 (ci := 7) (j := 6) rfl K rfl rfl ?_
  refine j_V.ldL xb33_M xb33_26 rfl (i := 1) (kd := 0) (v := .int x1) (pcJ := 27) rfl L rfl rfl rfl ?_
  refine j_V.ldL xb33_M xb33_27 rfl (i := 0) (kd := 2) (v := .ref 4) (pcJ := 28) rfl L rfl rfl rfl ?_
  refine j_V.getK xb33_M xb33_28 (ci := 7) (j := 7) rfl K rfl rfl ?_
  refine j_V.ldL xb33_M xb33_31 rfl (i := 1) (kd := 0) (v := .int x1) (pcJ := 32) rfl L rfl rfl rfl ?_
  refine j_V.iaA xb33_M xb33_32 K rfl ?_
  refine j_V.ldL xb33_M xb33_33 rfl (i := 0) (kd := 2) (v := .ref 4) (pcJ := 34) rfl L rfl rfl rfl ?_
  refine j_V.getK xb33_M xb33_34 (ci := 7) (j := 0) rfl K rfl rfl ?_
  refine j_V.getK xb33_M xb33_37 (ci := 2) (j := 9) rfl K rfl rfl ?_
  refine j_V.ldL xb33_M xb33_40 rfl (i := 1) (kd := 0) (v := .int x1) (pcJ := 41) rfl L rfl rfl rfl ?_
  refine j_V.iaA xb33_M xb33_41 K rfl ?_
  refine j_V.cut (b := 50) (stJ := [.int ((if (gA sp1 x1) = (gA tto x1) then 3 else 1) : Int32), .int x1, .ref 7]) (fun v => [(0, .ref 4), (1, .int x1)]) ((if (gA sp1 x1) = (gA tto x1) then 3 else 1) : Int32) (fun Q kk => ?_) (fun lv L => ?_)
  · refine j_V.icmp xb33_M xb33_42 (t := 49) rfl (fun c42_0 => ?_) (fun c42_0 => ?_)
    · replace c42_0 : ¬ ((gA sp1 x1) = (gA tto x1)) := jd_ne c42_0
      refine j_V.one xb33_M xb33_49 (by decide) (pcJ := 50) (stJ := [.int 1, .int x1, .ref 7]) rfl ?_
      exact Eq.subst (motive := fun z => j_V jP _ 99 50 _ (.int z :: [.int x1, .ref 7]) h Q) (show ((if (gA sp1 x1) = (gA tto x1) then 3 else 1) : Int32) = 1 from (if_neg c42_0).trans (rfl)) (kk _ L)
    · replace c42_0 : (gA sp1 x1) = (gA tto x1) := jd_nen c42_0
      refine j_V.one xb33_M xb33_45 (by decide) (pcJ := 46) (stJ := [.int 3, .int x1, .ref 7]) rfl ?_
      refine j_V.gto xb33_M xb33_46 (t := 50) rfl ?_
      exact Eq.subst (motive := fun z => j_V jP _ 99 50 _ (.int z :: [.int x1, .ref 7]) h Q) (show ((if (gA sp1 x1) = (gA tto x1) then 3 else 1) : Int32) = 3 from (if_pos c42_0).trans (rfl)) (kk _ L)
  refine j_V.isA xb33_M xb33_50 (k' := [(4, .inl (7, [.ref 343, .int mi, .int shu, .int bus, .ref 5, .ref 6, .ref 7, .ref 8, .ref 9, .ref 10, .ref 11, .ref 12, .ref 13, .ref 14, .ref 15, .int lks, .ref 16, .ref 17, .ref 20])), (7, .inr (.inl (0, (sA ph x1 ((if (gA sp1 x1) = (gA tto x1) then 3 else 1) : Int32))))), (8, .inr (.inl (0, sp1))), (12, .inr (.inl (0, ri1))), (14, .inr (.inl (0, cm))), (20, .inl (3, [.ref 21, .ref 22, .ref 23, .ref 24, .ref 25, .ref 26, .ref 27, .ref 28, .int pev, .int pk])), (28, .inr (.inl (0, pfa))), (343, .inl (2, [.int ns, .ref 344, .ref 345, .ref 346, .ref 347, .int nt, .ref 348, .ref 349, .ref 350, .ref 351, .ref 352, .ref 353, .ref 354, .int cel, .ref 355, .ref 356, .ref 357, .ref 358])), (351, .inr (.inl (0, tto)))]) K rfl rfl (fun h K => ?_)
  obtain ⟨ph1, eph1⟩ : ∃ z, z = (sA ph x1 ((if (gA sp1 x1) = (gA tto x1) then 3 else 1) : Int32)) := ⟨_, rfl⟩
  rw [← eph1] at K
  refine j_V.ldL xb33_M xb33_51 rfl (i := 0) (kd := 2) (v := .ref 4) (pcJ := 52) rfl L rfl rfl rfl ?_
  refine j_V.getK xb33_M xb33_52 (ci := 7) (j := 13) rfl K rfl rfl ?_
  refine j_V.ldL xb33_M xb33_55 rfl (i := 1) (kd := 0) (v := .int x1) (pcJ := 56) rfl L rfl rfl rfl ?_
  refine j_V.one xb33_M xb33_56 (by decide) (pcJ := 58) (stJ := [.int 7, .int x1, .ref 14]) rfl ?_
  refine j_V.one xb33_M xb33_58 (by decide) (pcJ := 59) (stJ := [.int (x1 * 7), .ref 14]) rfl ?_
  refine j_V.ldL xb33_M xb33_59 rfl (i := 0) (kd := 2) (v := .ref 4) (pcJ := 60) rfl L rfl rfl rfl ?_
  refine j_V.getK xb33_M xb33_60 (ci := 7) (j := 7) rfl K rfl rfl ?_
  refine j_V.ldL xb33_M xb33_63 rfl (i := 1) (kd := 0) (v := .int x1) (pcJ := 64) rfl L rfl rfl rfl ?_
  refine j_V.iaA xb33_M xb33_64 K rfl ?_
  refine j_V.one xb33_M xb33_65 (by decide) (pcJ := 66) (stJ := [.int ((x1 * 7) + (gA sp1 x1)), .ref 14]) rfl ?_
  refine j_V.ldL xb33_M xb33_66 rfl (i := 0) (kd := 2) (v := .ref 4) (pcJ := 67) rfl L rfl rfl rfl ?_
  refine j_V.getK xb33_M xb33_67 (ci := 7) (j := 1) rfl K rfl rfl ?_
  refine j_V.isA xb33_M xb33_70 (k' := [(4, .inl (7, [.ref 343, .int mi, .int shu, .int bus, .ref 5, .ref 6, .ref 7, .ref 8, .ref 9, .ref 10, .ref 11, .ref 12, .ref 13, .ref 14, .ref 15, .int lks, .ref 16, .ref 17, .ref 20])), (7, .inr (.inl (0, ph1))), (8, .inr (.inl (0, sp1))), (12, .inr (.inl (0, ri1))), (14, .inr (.inl (0, (sA cm ((x1 * 7) + (gA sp1 x1)) mi)))), (20, .inl (3, [.ref 21, .ref 22, .ref 23, .ref 24, .ref 25, .ref 26, .ref 27, .ref 28, .int pev, .int pk])), (28, .inr (.inl (0, pfa))), (343, .inl (2, [.int ns, .ref 344, .ref 345, .ref 346, .ref 347, .int nt, .ref 348, .ref 349, .ref 350, .ref 351, .ref 352, .ref 353, .ref 354, .int cel, .ref 355, .ref 356, .ref 357, .ref 358])), (351, .inr (.inl (0, tto)))]) K rfl rfl (fun h K => ?_)
  obtain ⟨cm1, ecm1⟩ : ∃ z, z = (sA cm ((x1 * 7) + (gA sp1 x1)) mi) := ⟨_, rfl⟩
  rw [← ecm1] at K
  refine j_V.ldL xb33_M xb33_71 rfl (i := 0) (kd := 2) (v := .ref 4) (pcJ := 72) rfl L rfl rfl rfl ?_
  refine j_V.getK xb33_M xb33_72 (ci := 7) (j := 18) rfl K rfl rfl ?_
  refine j_V.ldL xb33_M xb33_75 rfl (i := 1) (kd := 0) (v := .int x1) (pcJ := 76) rfl L rfl rfl rfl ?_
  refine j_V.one xb33_M xb33_76 (by decide) (pcJ := 77) (stJ := [.int 2, .int x1, .ref 20]) rfl ?_
  refine j_V.ldL xb33_M xb33_77 rfl (i := 0) (kd := 2) (v := .ref 4) (pcJ := 78) rfl L rfl rfl rfl ?_
  refine j_V.getK xb33_M xb33_78 (ci := 7) (j := 1) rfl K rfl rfl ?_
  refine j_V.ldL xb33_M xb33_81 rfl (i := 0) (kd := 2) (v := .ref 4) (pcJ := 82) rfl L rfl rfl rfl ?_
  refine j_V.getK xb33_M xb33_82 (ci := 7) (j := 7) rfl K rfl rfl ?_
  refine j_V.ldL xb33_M xb33_85 rfl (i := 1) (kd := 0) (v := .int x1) (pcJ := 86) rfl L rfl rfl rfl ?_
  refine j_V.iaA xb33_M xb33_86 K rfl ?_
  refine j_V.cl xb33_M xb33_87 rfl (md := 3) (mj := 29) rfl (by decide) xb29_M (As := [.ref 20, .int x1, .int 2, .int mi, .int (gA sp1 x1)]) (rest := []) (jk_spl3 (K.at rfl) rfl rfl rfl (Nat.le_of_ble_eq_true rfl) (Nat.le_of_ble_eq_true rfl)) (fun d => xb29_ok (K.fi [20, 28] rfl rfl)) ?_
  rintro r h9 ⟨rfl, K9⟩
  generalize ez1 : (x_note pev pk pfa x1 2 mi (gA sp1 x1)) = z1 at K9 ⊢
  have K : KN h9 [(4, .inl (7, [.ref 343, .int mi, .int shu, .int bus, .ref 5, .ref 6, .ref 7, .ref 8, .ref 9, .ref 10, .ref 11, .ref 12, .ref 13, .ref 14, .ref 15, .int lks, .ref 16, .ref 17, .ref 20])), (7, .inr (.inl (0, ph1))), (8, .inr (.inl (0, sp1))), (12, .inr (.inl (0, ri1))), (14, .inr (.inl (0, cm1))), (20, .inl (3, [.ref 21, .ref 22, .ref 23, .ref 24, .ref 25, .ref 26, .ref 27, .ref 28, .int (z1.2), .int pk])), (28, .inr (.inl (0, (z1.1)))), (343, .inl (2, [.int ns, .ref 344, .ref 345, .ref 346, .ref 347, .int nt, .ref 348, .ref 349, .ref 350, .ref 351, .ref 352, .ref 353, .ref 354, .int cel, .ref 355, .ref 356, .ref 357, .ref 358])), (351, .inr (.inl (0, tto)))] h0 := K.mg K9 rfl rfl
  clear K9
  show j_V jP _ 99 90 lv [] h9 _
  subst ez1
  subst ecm1
  subst eph1
  subst esp1
  subst eri1
  refine j_V.ret xb33_M xb33_90 rfl rfl ?_
  rw [show (x_arrive mi ph sp ri cm pev pk pfa tto x1) = _ from (rfl)]
  exact ⟨rfl, K⟩
set_option maxRecDepth 100000 in
theorem xb34_M : j_meth jP 101 = some (yX7_remove, cX7_remove, 2, none, 1, false, 7) := rfl
set_option maxRecDepth 100000 in
theorem xb34_0 : j_code jP 101 0 = some (.aload_n 0) := rfl
set_option maxRecDepth 100000 in
theorem xb34_1 : j_code jP 101 1 = some (.getfield 18) := rfl
set_option maxRecDepth 100000 in
theorem xb34_4 : j_code jP 101 4 = some (.iload_n 1) := rfl
set_option maxRecDepth 100000 in
theorem xb34_5 : j_code jP 101 5 = some (.iaload) := rfl
set_option maxRecDepth 100000 in
theorem xb34_6 : j_code jP 101 6 = some (.iconst 2) := rfl
set_option maxRecDepth 100000 in
theorem xb34_7 : j_code jP 101 7 = some (.if_icmp .ne 14) := rfl
set_option maxRecDepth 100000 in
theorem xb34_10 : j_code jP 101 10 = some (.aload_n 0) := rfl
set_option maxRecDepth 100000 in
theorem xb34_11 : j_code jP 101 11 = some (.getfield 33) := rfl
set_option maxRecDepth 100000 in
theorem xb34_14 : j_code jP 101 14 = some (.aload_n 0) := rfl
set_option maxRecDepth 100000 in
theorem xb34_15 : j_code jP 101 15 = some (.iload_n 1) := rfl
set_option maxRecDepth 100000 in
theorem xb34_16 : j_code jP 101 16 = some (.invokevirtual 146) := rfl
set_option maxRecDepth 100000 in
theorem xb34_19 : j_code jP 101 19 = some (.iconst (-1)) := rfl
set_option maxRecDepth 100000 in
theorem xb34_20 : j_code jP 101 20 = some (.iastore) := rfl
set_option maxRecDepth 100000 in
theorem xb34_21 : j_code jP 101 21 = some (.aload_n 0) := rfl
set_option maxRecDepth 100000 in
theorem xb34_22 : j_code jP 101 22 = some (.iload_n 1) := rfl
set_option maxRecDepth 100000 in
theorem xb34_23 : j_code jP 101 23 = some (.iconst (-1)) := rfl
set_option maxRecDepth 100000 in
theorem xb34_24 : j_code jP 101 24 = some (.invokevirtual 217) := rfl
set_option maxRecDepth 100000 in
theorem xb34_27 : j_code jP 101 27 = some (.aload_n 0) := rfl
set_option maxRecDepth 100000 in
theorem xb34_28 : j_code jP 101 28 = some (.getfield 18) := rfl
set_option maxRecDepth 100000 in
theorem xb34_31 : j_code jP 101 31 = some (.iload_n 1) := rfl
set_option maxRecDepth 100000 in
theorem xb34_32 : j_code jP 101 32 = some (.iconst 3) := rfl
set_option maxRecDepth 100000 in
theorem xb34_33 : j_code jP 101 33 = some (.iastore) := rfl
set_option maxRecDepth 100000 in
theorem xb34_34 : j_code jP 101 34 = some (.return_) := rfl
set_option maxRecDepth 1000000 in
theorem xb34_ok {mi : Int32} {shu : Int32} {bus : Int32} {lks : Int32} {ph : List Int32} {sp : List Int32} {ce : List Int32} {ri : List Int32} {ns : Int32} {nt : Int32} {cel : Int32} {tto : List Int32} {x1 : Int32} {d : Nat} {h h0 : J_H} (K : KN h [(4, .inl (7, [.ref 343, .int mi, .int shu, .int bus, .ref 5, .ref 6, .ref 7, .ref 8, .ref 9, .ref 10, .ref 11, .ref 12, .ref 13, .ref 14, .ref 15, .int lks, .ref 16, .ref 17, .ref 20])), (7, .inr (.inl (0, ph))), (8, .inr (.inl (0, sp))), (9, .inr (.inl (0, ce))), (12, .inr (.inl (0, ri))), (343, .inl (2, [.int ns, .ref 344, .ref 345, .ref 346, .ref 347, .int nt, .ref 348, .ref 349, .ref 350, .ref 351, .ref 352, .ref 353, .ref 354, .int cel, .ref 355, .ref 356, .ref 357, .ref 358])), (351, .inr (.inl (0, tto)))] h0) : j_V jP d 101 0 (lv_args 0 [.ref 4, .int x1]) [] h (fun rv h' => rv = none ∧ KN h' [(4, .inl (7, [.ref 343, .int mi, .int shu, .int (x_remove bus ph sp ce ri tto x1).1, .ref 5, .ref 6, .ref 7, .ref 8, .ref 9, .ref 10, .ref 11, .ref 12, .ref 13, .ref 14, .ref 15, .int lks, .ref 16, .ref 17, .ref 20])), (7, .inr (.inl (0, (x_remove bus ph sp ce ri tto x1).2.1))), (8, .inr (.inl (0, sp))), (9, .inr (.inl (0, (x_remove bus ph sp ce ri tto x1).2.2.1))), (12, .inr (.inl (0, (x_remove bus ph sp ce ri tto x1).2.2.2))), (343, .inl (2, [.int ns, .ref 344, .ref 345, .ref 346, .ref 347, .int nt, .ref 348, .ref 349, .ref 350, .ref 351, .ref 352, .ref 353, .ref 354, .int cel, .ref 355, .ref 356, .ref 357, .ref 358])), (351, .inr (.inl (0, tto)))] h0) := by
  show j_V jP d 101 0 [(0, .ref 4), (1, .int x1)] [] h _
  obtain ⟨lv, elv, L⟩ : ∃ lv, lv = [(0, .ref 4), (1, .int x1)] ∧ LK lv [(0, .ref 4), (1, .int x1)] := ⟨_, rfl, LK.rf⟩
  rw [← elv]
  clear elv
  refine j_V.ldL xb34_M xb34_0 rfl (i := 0) (kd := 2) (v := .ref 4) (pcJ := 1) rfl L rfl rfl rfl ?_
  refine j_V.getK xb34_M xb34_1 (ci := 7) (j := 6) rfl K rfl rfl ?_
  refine j_V.ldL xb34_M xb34_4 rfl (i := 1) (kd := 0) (v := .int x1) (pcJ := 5) rfl L rfl rfl rfl ?_
  refine j_V.iaA xb34_M xb34_5 K rfl ?_
  refine j_V.one xb34_M xb34_6 (by decide) (pcJ := 7) (stJ := [.int 2, .int (gA ph x1)]) rfl ?_
  refine j_V.icmp xb34_M xb34_7 (t := 21) rfl (fun c7_0 => ?_) (fun c7_0 => ?_)
  · replace c7_0 : ¬ ((gA ph x1) = 2) := jd_ne c7_0
    refine j_V.ldL xb34_M xb34_21 rfl (i := 0) (kd := 2) (v := .ref 4) (pcJ := 22) rfl L rfl rfl rfl ?_
    refine j_V.ldL xb34_M xb34_22 rfl (i := 1) (kd := 0) (v := .int x1) (pcJ := 23) rfl L rfl rfl rfl ?_
    refine j_V.one xb34_M xb34_23 (by decide) (pcJ := 24) (stJ := [.int (-1), .int x1, .ref 4]) rfl ?_
    refine j_V.cl xb34_M xb34_24 rfl (md := 3) (mj := 100) rfl (by decide) xb28_M (As := [.ref 4, .int x1, .int (-1)]) (rest := []) (jk_spl3 (K.at rfl) rfl rfl rfl (Nat.le_of_ble_eq_true rfl) (Nat.le_of_ble_eq_true rfl)) (fun d => xb28_ok (K.fi [4, 9] rfl rfl)) ?_
    rintro r h9 ⟨rfl, K9⟩
    generalize ez1 : (x_takeCell bus ce x1 (-1)) = z1 at K9 ⊢
    have K : KN h9 [(4, .inl (7, [.ref 343, .int mi, .int shu, .int (z1.1), .ref 5, .ref 6, .ref 7, .ref 8, .ref 9, .ref 10, .ref 11, .ref 12, .ref 13, .ref 14, .ref 15, .int lks, .ref 16, .ref 17, .ref 20])), (7, .inr (.inl (0, ph))), (8, .inr (.inl (0, sp))), (9, .inr (.inl (0, (z1.2)))), (12, .inr (.inl (0, ri))), (343, .inl (2, [.int ns, .ref 344, .ref 345, .ref 346, .ref 347, .int nt, .ref 348, .ref 349, .ref 350, .ref 351, .ref 352, .ref 353, .ref 354, .int cel, .ref 355, .ref 356, .ref 357, .ref 358])), (351, .inr (.inl (0, tto)))] h0 := K.mg K9 rfl rfl
    clear K9
    show j_V jP _ 101 27 lv [] h9 _
    refine j_V.ldL xb34_M xb34_27 rfl (i := 0) (kd := 2) (v := .ref 4) (pcJ := 28) rfl L rfl rfl rfl ?_
    refine j_V.getK xb34_M xb34_28 (ci := 7) (j := 6) rfl K rfl rfl ?_
    refine j_V.ldL xb34_M xb34_31 rfl (i := 1) (kd := 0) (v := .int x1) (pcJ := 32) rfl L rfl rfl rfl ?_
    refine j_V.one xb34_M xb34_32 (by decide) (pcJ := 33) (stJ := [.int 3, .int x1, .ref 7]) rfl ?_
    refine j_V.isA xb34_M xb34_33 (k' := [(4, .inl (7, [.ref 343, .int mi, .int shu, .int (z1.1), .ref 5, .ref 6, .ref 7, .ref 8, .ref 9, .ref 10, .ref 11, .ref 12, .ref 13, .ref 14, .ref 15, .int lks, .ref 16, .ref 17, .ref 20])), (7, .inr (.inl (0, (sA ph x1 3)))), (8, .inr (.inl (0, sp))), (9, .inr (.inl (0, (z1.2)))), (12, .inr (.inl (0, ri))), (343, .inl (2, [.int ns, .ref 344, .ref 345, .ref 346, .ref 347, .int nt, .ref 348, .ref 349, .ref 350, .ref 351, .ref 352, .ref 353, .ref 354, .int cel, .ref 355, .ref 356, .ref 357, .ref 358])), (351, .inr (.inl (0, tto)))]) K rfl rfl (fun h K => ?_)
    obtain ⟨ph1, eph1⟩ : ∃ z, z = (sA ph x1 3) := ⟨_, rfl⟩
    rw [← eph1] at K
    subst eph1
    subst ez1
    refine j_V.ret xb34_M xb34_34 rfl rfl ?_
    rw [show (x_remove bus ph sp ce ri tto x1) = _ from ((if_neg c7_0).trans (rfl))]
    exact ⟨rfl, K⟩
  · replace c7_0 : (gA ph x1) = 2 := jd_nen c7_0
    refine j_V.ldL xb34_M xb34_10 rfl (i := 0) (kd := 2) (v := .ref 4) (pcJ := 11) rfl L rfl rfl rfl ?_
    refine j_V.getK xb34_M xb34_11 (ci := 7) (j := 11) rfl K rfl rfl ?_
    refine j_V.ldL xb34_M xb34_14 rfl (i := 0) (kd := 2) (v := .ref 4) (pcJ := 15) rfl L rfl rfl rfl ?_
    refine j_V.ldL xb34_M xb34_15 rfl (i := 1) (kd := 0) (v := .int x1) (pcJ := 16) rfl L rfl rfl rfl ?_
    refine j_V.cl xb34_M xb34_16 rfl (md := 3) (mj := 84) rfl (by decide) xb17_M (As := [.ref 4, .int x1]) (rest := [.ref 12]) (jk_spl3 (K.at rfl) rfl rfl rfl (Nat.le_of_ble_eq_true rfl) (Nat.le_of_ble_eq_true rfl)) (fun d => xb17_ok (K.fi [4, 8, 343, 351] rfl rfl)) ?_
    rintro r hz ⟨rfl, ez⟩
    rw [ez]
    clear ez
    show j_V jP _ 101 19 lv [.int (x_sectionAhead sp tto x1), .ref 12] h _
    refine j_V.one xb34_M xb34_19 (by decide) (pcJ := 20) (stJ := [.int (-1), .int (x_sectionAhead sp tto x1), .ref 12]) rfl ?_
    refine j_V.isA xb34_M xb34_20 (k' := [(4, .inl (7, [.ref 343, .int mi, .int shu, .int bus, .ref 5, .ref 6, .ref 7, .ref 8, .ref 9, .ref 10, .ref 11, .ref 12, .ref 13, .ref 14, .ref 15, .int lks, .ref 16, .ref 17, .ref 20])), (7, .inr (.inl (0, ph))), (8, .inr (.inl (0, sp))), (9, .inr (.inl (0, ce))), (12, .inr (.inl (0, (sA ri (x_sectionAhead sp tto x1) (-1))))), (343, .inl (2, [.int ns, .ref 344, .ref 345, .ref 346, .ref 347, .int nt, .ref 348, .ref 349, .ref 350, .ref 351, .ref 352, .ref 353, .ref 354, .int cel, .ref 355, .ref 356, .ref 357, .ref 358])), (351, .inr (.inl (0, tto)))]) K rfl rfl (fun h K => ?_)
    obtain ⟨ri2, eri2⟩ : ∃ z, z = (sA ri (x_sectionAhead sp tto x1) (-1)) := ⟨_, rfl⟩
    rw [← eri2] at K
    refine j_V.ldL xb34_M xb34_21 rfl (i := 0) (kd := 2) (v := .ref 4) (pcJ := 22) rfl L rfl rfl rfl ?_
    refine j_V.ldL xb34_M xb34_22 rfl (i := 1) (kd := 0) (v := .int x1) (pcJ := 23) rfl L rfl rfl rfl ?_
    refine j_V.one xb34_M xb34_23 (by decide) (pcJ := 24) (stJ := [.int (-1), .int x1, .ref 4]) rfl ?_
    refine j_V.cl xb34_M xb34_24 rfl (md := 3) (mj := 100) rfl (by decide) xb28_M (As := [.ref 4, .int x1, .int (-1)]) (rest := []) (jk_spl3 (K.at rfl) rfl rfl rfl (Nat.le_of_ble_eq_true rfl) (Nat.le_of_ble_eq_true rfl)) (fun d => xb28_ok (K.fi [4, 9] rfl rfl)) ?_
    rintro r h9 ⟨rfl, K9⟩
    generalize ez2 : (x_takeCell bus ce x1 (-1)) = z2 at K9 ⊢
    have K : KN h9 [(4, .inl (7, [.ref 343, .int mi, .int shu, .int (z2.1), .ref 5, .ref 6, .ref 7, .ref 8, .ref 9, .ref 10, .ref 11, .ref 12, .ref 13, .ref 14, .ref 15, .int lks, .ref 16, .ref 17, .ref 20])), (7, .inr (.inl (0, ph))), (8, .inr (.inl (0, sp))), (9, .inr (.inl (0, (z2.2)))), (12, .inr (.inl (0, ri2))), (343, .inl (2, [.int ns, .ref 344, .ref 345, .ref 346, .ref 347, .int nt, .ref 348, .ref 349, .ref 350, .ref 351, .ref 352, .ref 353, .ref 354, .int cel, .ref 355, .ref 356, .ref 357, .ref 358])), (351, .inr (.inl (0, tto)))] h0 := K.mg K9 rfl rfl
    clear K9
    show j_V jP _ 101 27 lv [] h9 _
    refine j_V.ldL xb34_M xb34_27 rfl (i := 0) (kd := 2) (v := .ref 4) (pcJ := 28) rfl L rfl rfl rfl ?_
    refine j_V.getK xb34_M xb34_28 (ci := 7) (j := 6) rfl K rfl rfl ?_
    refine j_V.ldL xb34_M xb34_31 rfl (i := 1) (kd := 0) (v := .int x1) (pcJ := 32) rfl L rfl rfl rfl ?_
    refine j_V.one xb34_M xb34_32 (by decide) (pcJ := 33) (stJ := [.int 3, .int x1, .ref 7]) rfl ?_
    refine j_V.isA xb34_M xb34_33 (k' := [(4, .inl (7, [.ref 343, .int mi, .int shu, .int (z2.1), .ref 5, .ref 6, .ref 7, .ref 8, .ref 9, .ref 10, .ref 11, .ref 12, .ref 13, .ref 14, .ref 15, .int lks, .ref 16, .ref 17, .ref 20])), (7, .inr (.inl (0, (sA ph x1 3)))), (8, .inr (.inl (0, sp))), (9, .inr (.inl (0, (z2.2)))), (12, .inr (.inl (0, ri2))), (343, .inl (2, [.int ns, .ref 344, .ref 345, .ref 346, .ref 347, .int nt, .ref 348, .ref 349, .ref 350, .ref 351, .ref 352, .ref 353, .ref 354, .int cel, .ref 355, .ref 356, .ref 357, .ref 358])), (351, .inr (.inl (0, tto)))]) K rfl rfl (fun h K => ?_)
    obtain ⟨ph2, eph2⟩ : ∃ z, z = (sA ph x1 3) := ⟨_, rfl⟩
    rw [← eph2] at K
    subst eph2
    subst ez2
    subst eri2
    refine j_V.ret xb34_M xb34_34 rfl rfl ?_
    rw [show (x_remove bus ph sp ce ri tto x1) = _ from ((if_pos c7_0).trans (rfl))]
    exact ⟨rfl, K⟩
set_option maxRecDepth 100000 in
theorem xb35_M : j_meth jP 90 = some (yX7_addLink, cX7_addLink, 4, none, 3, false, 7) := rfl
set_option maxRecDepth 100000 in
theorem xb35_0 : j_code jP 90 0 = some (.aload_n 0) := rfl
set_option maxRecDepth 100000 in
theorem xb35_1 : j_code jP 90 1 = some (.getfield 78) := rfl
set_option maxRecDepth 100000 in
theorem xb35_4 : j_code jP 90 4 = some (.iconst 4) := rfl
set_option maxRecDepth 100000 in
theorem xb35_5 : j_code jP 90 5 = some (.if_icmp .lt 4) := rfl
set_option maxRecDepth 100000 in
theorem xb35_8 : j_code jP 90 8 = some (.return_) := rfl
set_option maxRecDepth 100000 in
theorem xb35_9 : j_code jP 90 9 = some (.aload_n 0) := rfl
set_option maxRecDepth 100000 in
theorem xb35_10 : j_code jP 90 10 = some (.getfield 45) := rfl
set_option maxRecDepth 100000 in
theorem xb35_13 : j_code jP 90 13 = some (.iconst 3) := rfl
set_option maxRecDepth 100000 in
theorem xb35_14 : j_code jP 90 14 = some (.aload_n 0) := rfl
set_option maxRecDepth 100000 in
theorem xb35_15 : j_code jP 90 15 = some (.getfield 78) := rfl
set_option maxRecDepth 100000 in
theorem xb35_18 : j_code jP 90 18 = some (.imul) := rfl
set_option maxRecDepth 100000 in
theorem xb35_19 : j_code jP 90 19 = some (.iload_n 1) := rfl
set_option maxRecDepth 100000 in
theorem xb35_20 : j_code jP 90 20 = some (.iastore) := rfl
set_option maxRecDepth 100000 in
theorem xb35_21 : j_code jP 90 21 = some (.aload_n 0) := rfl
set_option maxRecDepth 100000 in
theorem xb35_22 : j_code jP 90 22 = some (.getfield 45) := rfl
set_option maxRecDepth 100000 in
theorem xb35_25 : j_code jP 90 25 = some (.iconst 3) := rfl
set_option maxRecDepth 100000 in
theorem xb35_26 : j_code jP 90 26 = some (.aload_n 0) := rfl
set_option maxRecDepth 100000 in
theorem xb35_27 : j_code jP 90 27 = some (.getfield 78) := rfl
set_option maxRecDepth 100000 in
theorem xb35_30 : j_code jP 90 30 = some (.imul) := rfl
set_option maxRecDepth 100000 in
theorem xb35_31 : j_code jP 90 31 = some (.iconst 1) := rfl
set_option maxRecDepth 100000 in
theorem xb35_32 : j_code jP 90 32 = some (.iadd) := rfl
set_option maxRecDepth 100000 in
theorem xb35_33 : j_code jP 90 33 = some (.iload_n 2) := rfl
set_option maxRecDepth 100000 in
theorem xb35_34 : j_code jP 90 34 = some (.iastore) := rfl
set_option maxRecDepth 100000 in
theorem xb35_35 : j_code jP 90 35 = some (.aload_n 0) := rfl
set_option maxRecDepth 100000 in
theorem xb35_36 : j_code jP 90 36 = some (.getfield 45) := rfl
set_option maxRecDepth 100000 in
theorem xb35_39 : j_code jP 90 39 = some (.iconst 3) := rfl
set_option maxRecDepth 100000 in
theorem xb35_40 : j_code jP 90 40 = some (.aload_n 0) := rfl
set_option maxRecDepth 100000 in
theorem xb35_41 : j_code jP 90 41 = some (.getfield 78) := rfl
set_option maxRecDepth 100000 in
theorem xb35_44 : j_code jP 90 44 = some (.imul) := rfl
set_option maxRecDepth 100000 in
theorem xb35_45 : j_code jP 90 45 = some (.iconst 2) := rfl
set_option maxRecDepth 100000 in
theorem xb35_46 : j_code jP 90 46 = some (.iadd) := rfl
set_option maxRecDepth 100000 in
theorem xb35_47 : j_code jP 90 47 = some (.iload_n 3) := rfl
set_option maxRecDepth 100000 in
theorem xb35_48 : j_code jP 90 48 = some (.iastore) := rfl
set_option maxRecDepth 100000 in
theorem xb35_49 : j_code jP 90 49 = some (.aload_n 0) := rfl
set_option maxRecDepth 100000 in
theorem xb35_50 : j_code jP 90 50 = some (.dup) := rfl
set_option maxRecDepth 100000 in
theorem xb35_51 : j_code jP 90 51 = some (.getfield 78) := rfl
set_option maxRecDepth 100000 in
theorem xb35_54 : j_code jP 90 54 = some (.iconst 1) := rfl
set_option maxRecDepth 100000 in
theorem xb35_55 : j_code jP 90 55 = some (.iadd) := rfl
set_option maxRecDepth 100000 in
theorem xb35_56 : j_code jP 90 56 = some (.putfield 78) := rfl
set_option maxRecDepth 100000 in
theorem xb35_59 : j_code jP 90 59 = some (.return_) := rfl
set_option maxRecDepth 1000000 in
theorem xb35_ok {mi : Int32} {shu : Int32} {bus : Int32} {lks : Int32} {lkd : List Int32} {x1 x2 x3 : Int32} {d : Nat} {h h0 : J_H} (K : KN h [(4, .inl (7, [.ref 343, .int mi, .int shu, .int bus, .ref 5, .ref 6, .ref 7, .ref 8, .ref 9, .ref 10, .ref 11, .ref 12, .ref 13, .ref 14, .ref 15, .int lks, .ref 16, .ref 17, .ref 20])), (16, .inr (.inl (0, lkd)))] h0) : j_V jP d 90 0 (lv_args 0 [.ref 4, .int x1, .int x2, .int x3]) [] h (fun rv h' => rv = none ∧ KN h' [(4, .inl (7, [.ref 343, .int mi, .int shu, .int bus, .ref 5, .ref 6, .ref 7, .ref 8, .ref 9, .ref 10, .ref 11, .ref 12, .ref 13, .ref 14, .ref 15, .int (x_addLink lks lkd x1 x2 x3).1, .ref 16, .ref 17, .ref 20])), (16, .inr (.inl (0, (x_addLink lks lkd x1 x2 x3).2)))] h0) := by
  show j_V jP d 90 0 [(0, .ref 4), (1, .int x1), (2, .int x2), (3, .int x3)] [] h _
  obtain ⟨lv, elv, L⟩ : ∃ lv, lv = [(0, .ref 4), (1, .int x1), (2, .int x2), (3, .int x3)] ∧ LK lv [(0, .ref 4), (1, .int x1), (2, .int x2), (3, .int x3)] := ⟨_, rfl, LK.rf⟩
  rw [← elv]
  clear elv
  refine j_V.ldL xb35_M xb35_0 rfl (i := 0) (kd := 2) (v := .ref 4) (pcJ := 1) rfl L rfl rfl rfl ?_
  refine j_V.getK xb35_M xb35_1 (ci := 7) (j := 15) rfl K rfl rfl ?_
  refine j_V.one xb35_M xb35_4 (by decide) (pcJ := 5) (stJ := [.int 4, .int lks]) rfl ?_
  refine j_V.icmp xb35_M xb35_5 (t := 9) rfl (fun c5_0 => ?_) (fun c5_0 => ?_)
  · replace c5_0 : lks < 4 := jd_lt c5_0
    refine j_V.ldL xb35_M xb35_9 rfl (i := 0) (kd := 2) (v := .ref 4) (pcJ := 10) rfl L rfl rfl rfl ?_
    refine j_V.getK xb35_M xb35_10 (ci := 7) (j := 16) rfl K rfl rfl ?_
    refine j_V.one xb35_M xb35_13 (by decide) (pcJ := 14) (stJ := [.int 3, .ref 16]) rfl ?_
    refine j_V.ldL xb35_M xb35_14 rfl (i := 0) (kd := 2) (v := .ref 4) (pcJ := 15) rfl L rfl rfl rfl ?_
    refine j_V.getK xb35_M xb35_15 (ci := 7) (j := 15) rfl K rfl rfl ?_
    refine j_V.one xb35_M xb35_18 (by decide) (pcJ := 19) (stJ := [.int (3 * lks), .ref 16]) rfl ?_
    refine j_V.ldL xb35_M xb35_19 rfl (i := 1) (kd := 0) (v := .int x1) (pcJ := 20) rfl L rfl rfl rfl ?_
    refine j_V.isA xb35_M xb35_20 (k' := [(4, .inl (7, [.ref 343, .int mi, .int shu, .int bus, .ref 5, .ref 6, .ref 7, .ref 8, .ref 9, .ref 10, .ref 11, .ref 12, .ref 13, .ref 14, .ref 15, .int lks, .ref 16, .ref 17, .ref 20])), (16, .inr (.inl (0, (sA lkd (3 * lks) x1))))]) K rfl rfl (fun h K => ?_)
    obtain ⟨lkd1, elkd1⟩ : ∃ z, z = (sA lkd (3 * lks) x1) := ⟨_, rfl⟩
    rw [← elkd1] at K
    refine j_V.ldL xb35_M xb35_21 rfl (i := 0) (kd := 2) (v := .ref 4) (pcJ := 22) rfl L rfl rfl rfl ?_
    refine j_V.getK xb35_M xb35_22 (ci := 7) (j := 16) rfl K rfl rfl ?_
    refine j_V.one xb35_M xb35_25 (by decide) (pcJ := 26) (stJ := [.int 3, .ref 16]) rfl ?_
    refine j_V.ldL xb35_M xb35_26 rfl (i := 0) (kd := 2) (v := .ref 4) (pcJ := 27) rfl L rfl rfl rfl ?_
    refine j_V.getK xb35_M xb35_27 (ci := 7) (j := 15) rfl K rfl rfl ?_
    refine j_V.one xb35_M xb35_30 (by decide) (pcJ := 31) (stJ := [.int (3 * lks), .ref 16]) rfl ?_
    refine j_V.one xb35_M xb35_31 (by decide) (pcJ := 32) (stJ := [.int 1, .int (3 * lks), .ref 16]) rfl ?_
    refine j_V.one xb35_M xb35_32 (by decide) (pcJ := 33) (stJ := [.int ((3 * lks) + 1), .ref 16]) rfl ?_
    refine j_V.ldL xb35_M xb35_33 rfl (i := 2) (kd := 0) (v := .int x2) (pcJ := 34) rfl L rfl rfl rfl ?_
    refine j_V.isA xb35_M xb35_34 (k' := [(4, .inl (7, [.ref 343, .int mi, .int shu, .int bus, .ref 5, .ref 6, .ref 7, .ref 8, .ref 9, .ref 10, .ref 11, .ref 12, .ref 13, .ref 14, .ref 15, .int lks, .ref 16, .ref 17, .ref 20])), (16, .inr (.inl (0, (sA lkd1 ((3 * lks) + 1) x2))))]) K rfl rfl (fun h K => ?_)
    obtain ⟨lkd2, elkd2⟩ : ∃ z, z = (sA lkd1 ((3 * lks) + 1) x2) := ⟨_, rfl⟩
    rw [← elkd2] at K
    refine j_V.ldL xb35_M xb35_35 rfl (i := 0) (kd := 2) (v := .ref 4) (pcJ := 36) rfl L rfl rfl rfl ?_
    refine j_V.getK xb35_M xb35_36 (ci := 7) (j := 16) rfl K rfl rfl ?_
    refine j_V.one xb35_M xb35_39 (by decide) (pcJ := 40) (stJ := [.int 3, .ref 16]) rfl ?_
    refine j_V.ldL xb35_M xb35_40 rfl (i := 0) (kd := 2) (v := .ref 4) (pcJ := 41) rfl L rfl rfl rfl ?_
    refine j_V.getK xb35_M xb35_41 (ci := 7) (j := 15) rfl K rfl rfl ?_
    refine j_V.one xb35_M xb35_44 (by decide) (pcJ := 45) (stJ := [.int (3 * lks), .ref 16]) rfl ?_
    refine j_V.one xb35_M xb35_45 (by decide) (pcJ := 46) (stJ := [.int 2, .int (3 * lks), .ref 16]) rfl ?_
    refine j_V.one xb35_M xb35_46 (by decide) (pcJ := 47) (stJ := [.int ((3 * lks) + 2), .ref 16]) rfl ?_
    refine j_V.ldL xb35_M xb35_47 rfl (i := 3) (kd := 0) (v := .int x3) (pcJ := 48) rfl L rfl rfl rfl ?_
    refine j_V.isA xb35_M xb35_48 (k' := [(4, .inl (7, [.ref 343, .int mi, .int shu, .int bus, .ref 5, .ref 6, .ref 7, .ref 8, .ref 9, .ref 10, .ref 11, .ref 12, .ref 13, .ref 14, .ref 15, .int lks, .ref 16, .ref 17, .ref 20])), (16, .inr (.inl (0, (sA lkd2 ((3 * lks) + 2) x3))))]) K rfl rfl (fun h K => ?_)
    obtain ⟨lkd3, elkd3⟩ : ∃ z, z = (sA lkd2 ((3 * lks) + 2) x3) := ⟨_, rfl⟩
    rw [← elkd3] at K
    refine j_V.ldL xb35_M xb35_49 rfl (i := 0) (kd := 2) (v := .ref 4) (pcJ := 50) rfl L rfl rfl rfl ?_
    refine j_V.one xb35_M xb35_50 (by decide) (pcJ := 51) (stJ := [.ref 4, .ref 4]) rfl ?_
    refine j_V.getK xb35_M xb35_51 (ci := 7) (j := 15) rfl K rfl rfl ?_
    refine j_V.one xb35_M xb35_54 (by decide) (pcJ := 55) (stJ := [.int 1, .int lks, .ref 4]) rfl ?_
    refine j_V.one xb35_M xb35_55 (by decide) (pcJ := 56) (stJ := [.int (lks + 1), .ref 4]) rfl ?_
    refine j_V.putK xb35_M xb35_56 (ci := 7) (j := 15) (k' := [(4, .inl (7, [.ref 343, .int mi, .int shu, .int bus, .ref 5, .ref 6, .ref 7, .ref 8, .ref 9, .ref 10, .ref 11, .ref 12, .ref 13, .ref 14, .ref 15, .int (lks + 1), .ref 16, .ref 17, .ref 20])), (16, .inr (.inl (0, lkd3)))]) rfl K rfl (Nat.le_of_ble_eq_true rfl) rfl (Or.inl rfl) rfl rfl (fun h K => ?_)
    obtain ⟨lks1, elks1⟩ : ∃ z, z = (lks + 1) := ⟨_, rfl⟩
    rw [← elks1] at K
    subst elks1
    subst elkd3
    subst elkd2
    subst elkd1
    refine j_V.ret xb35_M xb35_59 rfl rfl ?_
    rw [show (x_addLink lks lkd x1 x2 x3) = _ from ((if_pos c5_0).trans (rfl))]
    exact ⟨rfl, K⟩
  · replace c5_0 : ¬ (lks < 4) := jd_ltn c5_0
    refine j_V.ret xb35_M xb35_8 rfl rfl ?_
    rw [show (x_addLink lks lkd x1 x2 x3) = _ from ((if_neg c5_0).trans (rfl))]
    exact ⟨rfl, K⟩
