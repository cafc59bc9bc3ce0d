/-! calls on new objects (shut, rank, start, stall, link, cut, undo, print): written by wip/p1/gen_runs.py -/
set_option maxRecDepth 1000000 in
theorem jq_shut_0x : ja_call 30000 151 [.ref 0, .retAddr 0, .retAddr 1, .retAddr 2] jAx [(-2147483648, 2147483647), (-2147483648, 2147483647), (0, 1)] (jz_K 0 [] [-1]) = true := by decide +kernel
set_option maxRecDepth 1000000 in
theorem jq_shut_0m : ja_call 30000 286 [.ref 359, .retAddr 0, .retAddr 1, .retAddr 2] jAm [(-2147483648, 2147483647), (-2147483648, 2147483647), (0, 1)] (jz_K 0 [] [-1]) = true := by decide +kernel
theorem jz_shut (a : Int32) (b : Int32) (c : Bool) : jz_ok 151 286 [.int a, .int b, .int (bif c then 1 else 0)] := by
  exact jz_box (env := (jz_env a b (bif c then 1 else 0))) jq_shut_0x jq_shut_0m (jz_sat3 (jz_full a) (jz_full b) (jz_bool c)) rfl
set_option maxRecDepth 1000000 in
theorem jq_rank_0x : ja_call 30000 152 [.ref 0, .retAddr 0] jAx [(-2147483648, 2147483647)] (jz_K 0 [] [-1]) = true := by decide +kernel
set_option maxRecDepth 1000000 in
theorem jq_rank_0m : ja_call 30000 287 [.ref 359, .retAddr 0] jAm [(-2147483648, 2147483647)] (jz_K 0 [] [-1]) = true := by decide +kernel
theorem jz_rank (a : Int32) : jz_ok 152 287 [.int a] := by
  exact jz_box (env := (jz_env a 0 0)) jq_rank_0x jq_rank_0m (jz_sat1 (jz_full a)) rfl
set_option maxRecDepth 1000000 in
theorem jq_start_0x : ja_call 30000 153 [.ref 0, .retAddr 0, .retAddr 1] jAx [(-2147483648, 2147483647), (-2147483648, 2147483647)] (jz_K 0 [] [-1]) = true := by decide +kernel
set_option maxRecDepth 1000000 in
theorem jq_start_0m : ja_call 30000 288 [.ref 359, .retAddr 0, .retAddr 1] jAm [(-2147483648, 2147483647), (-2147483648, 2147483647)] (jz_K 0 [] [-1]) = true := by decide +kernel
theorem jz_start (a : Int32) (b : Int32) : jz_ok 153 288 [.int a, .int b] := by
  exact jz_box (env := (jz_env a b 0)) jq_start_0x jq_start_0m (jz_sat2 (jz_full a) (jz_full b)) rfl
set_option maxRecDepth 1000000 in
theorem jq_stall_0x : ja_call 30000 154 [.ref 0, .retAddr 0, .retAddr 1] jAx [(-2147483648, 2147483647), (-2147483648, 2147483647)] (jz_K 0 [] [-1]) = true := by decide +kernel
set_option maxRecDepth 1000000 in
theorem jq_stall_0m : ja_call 30000 289 [.ref 359, .retAddr 0, .retAddr 1] jAm [(-2147483648, 2147483647), (-2147483648, 2147483647)] (jz_K 0 [] [-1]) = true := by decide +kernel
theorem jz_stall (a : Int32) (b : Int32) : jz_ok 154 289 [.int a, .int b] := by
  exact jz_box (env := (jz_env a b 0)) jq_stall_0x jq_stall_0m (jz_sat2 (jz_full a) (jz_full b)) rfl
set_option maxRecDepth 1000000 in
theorem jq_link_0x : ja_call 30000 155 [.ref 0, .retAddr 0, .retAddr 1, .retAddr 2] jAx [(-2147483648, 2147483647), (-2147483648, 2147483647), (-2147483648, 2147483647)] (jz_K 0 [] [-1]) = true := by decide +kernel
set_option maxRecDepth 1000000 in
theorem jq_link_0m : ja_call 30000 290 [.ref 359, .retAddr 0, .retAddr 1, .retAddr 2] jAm [(-2147483648, 2147483647), (-2147483648, 2147483647), (-2147483648, 2147483647)] (jz_K 0 [] [-1]) = true := by decide +kernel
theorem jz_link (a : Int32) (b : Int32) (c : Int32) : jz_ok 155 290 [.int a, .int b, .int c] := by
  exact jz_box (env := (jz_env a b c)) jq_link_0x jq_link_0m (jz_sat3 (jz_full a) (jz_full b) (jz_full c)) rfl
set_option maxRecDepth 1000000 in
theorem jq_cut_0x : ja_call 30000 156 [.ref 0, .retAddr 0] jAx [(-2147483648, 2147483647)] (jz_K 0 [] [-1]) = true := by decide +kernel
set_option maxRecDepth 1000000 in
theorem jq_cut_0m : ja_call 30000 291 [.ref 359, .retAddr 0] jAm [(-2147483648, 2147483647)] (jz_K 0 [] [-1]) = true := by decide +kernel
theorem jz_cut (a : Int32) : jz_ok 156 291 [.int a] := by
  exact jz_box (env := (jz_env a 0 0)) jq_cut_0x jq_cut_0m (jz_sat1 (jz_full a)) rfl
set_option maxRecDepth 1000000 in
theorem jq_undo_0x : ja_call 30000 157 [.ref 0] jAx [(0, 0)] (jz_K 0 [] [-1]) = true := by decide +kernel
set_option maxRecDepth 1000000 in
theorem jq_undo_0m : ja_call 30000 283 [.ref 359] jAm [(0, 0)] (jz_K 0 [] [-1]) = true := by decide +kernel
theorem jz_undo  : jz_ok 157 283 [] := by
  exact jz_box (env := (jz_env 0 0 0)) jq_undo_0x jq_undo_0m (jz_sat1 ⟨by decide, by decide⟩) rfl
set_option maxRecDepth 1000000 in
theorem jq_print_0x : ja_call 30000 158 [.ref 0] jAx [(0, 0)] (jz_K 0 [] [0]) = true := by decide +kernel
set_option maxRecDepth 1000000 in
theorem jq_print_0m : ja_call 30000 297 [.ref 359] jAm [(0, 0)] (jz_K 0 [] [0]) = true := by decide +kernel
theorem jz_print  : jz_ok 158 297 [] := by
  exact jz_box (env := (jz_env 0 0 0)) jq_print_0x jq_print_0m (jz_sat1 ⟨by decide, by decide⟩) rfl
