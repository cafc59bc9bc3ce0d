/-! saved states (B): checks -/
set_option maxRecDepth 1000000 in
theorem jxsB_tk1_0 : (List.range 11).all (fun c => (Nat.beq c 0 || jxs_tkb 2 jxsB_T 0 c)) = true := by decide +kernel
set_option maxRecDepth 1000000 in
theorem jxsB_tk1_1 : (List.range 11).all (fun c => (Nat.beq c 0 || jxs_tkb 2 jxsB_T 1 c)) = true := by decide +kernel
set_option maxRecDepth 1000000 in
theorem jxsB_tk1_2 : (List.range 11).all (fun c => (Nat.beq c 0 || jxs_tkb 2 jxsB_T 2 c)) = true := by decide +kernel
set_option maxRecDepth 1000000 in
theorem jxsB_tk1_3 : (List.range 11).all (fun c => (Nat.beq c 0 || jxs_tkb 2 jxsB_T 3 c)) = true := by decide +kernel
set_option maxRecDepth 1000000 in
theorem jxsB_tk1_4 : (List.range 11).all (fun c => (Nat.beq c 0 || jxs_tkb 2 jxsB_T 4 c)) = true := by decide +kernel
