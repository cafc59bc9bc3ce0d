/-! saved states (B): checks -/
set_option maxRecDepth 1000000 in
theorem jxsB_rm1_5 : (List.range 11).all (fun c => jxs_rmb jxsB_T 5 c) = true := by decide +kernel
set_option maxRecDepth 1000000 in
theorem jxsB_rm1_6 : (List.range 11).all (fun c => jxs_rmb jxsB_T 6 c) = true := by decide +kernel
set_option maxRecDepth 1000000 in
theorem jxsB_rm1_7 : (List.range 11).all (fun c => jxs_rmb jxsB_T 7 c) = true := by decide +kernel
set_option maxRecDepth 1000000 in
theorem jxsB_rm1_8 : (List.range 11).all (fun c => jxs_rmb jxsB_T 8 c) = true := by decide +kernel
set_option maxRecDepth 1000000 in
theorem jxsB_rm1_9 : (List.range 11).all (fun c => jxs_rmb jxsB_T 9 c) = true := by decide +kernel
theorem jxsB_rm1 {n c : Nat} (hn : n < 10) (hc : c < 11) : jxs_rmb jxsB_T n c = true := by
  have hc := List.mem_range.mpr hc
  match n, hn with
  | 0, _ => exact List.all_eq_true.mp jxsB_rm1_0 c hc
  | 1, _ => exact List.all_eq_true.mp jxsB_rm1_1 c hc
  | 2, _ => exact List.all_eq_true.mp jxsB_rm1_2 c hc
  | 3, _ => exact List.all_eq_true.mp jxsB_rm1_3 c hc
  | 4, _ => exact List.all_eq_true.mp jxsB_rm1_4 c hc
  | 5, _ => exact List.all_eq_true.mp jxsB_rm1_5 c hc
  | 6, _ => exact List.all_eq_true.mp jxsB_rm1_6 c hc
  | 7, _ => exact List.all_eq_true.mp jxsB_rm1_7 c hc
  | 8, _ => exact List.all_eq_true.mp jxsB_rm1_8 c hc
  | 9, _ => exact List.all_eq_true.mp jxsB_rm1_9 c hc
  | n + 10, h => exact absurd h (by omega)
