/-! calls on new objects (waits, ends, when, plan, cost, slack, band, swap, burden, loop, build, hold): written by wip/p1/gen_runs.py -/
set_option maxRecDepth 1000000 in
theorem jq_waits_0x : ja_call 30000 137 [.ref 0, .retAddr 0] jAx [(-2147483648, 2147483647)] (jz_K 0 [] [-1]) = true := by decide +kernel
set_option maxRecDepth 1000000 in
theorem jq_waits_0m : ja_call 30000 261 [.ref 359, .retAddr 0] jAm [(-2147483648, 2147483647)] (jz_K 0 [] [-1]) = true := by decide +kernel
theorem jz_waits (a : Int32) : jz_ok 137 261 [.int a] := by
  exact jz_box (env := (jz_env a 0 0)) jq_waits_0x jq_waits_0m (jz_sat1 (jz_full a)) rfl
set_option maxRecDepth 1000000 in
theorem jq_ends_0x : ja_call 30000 139 [.ref 0, .retAddr 0, .retAddr 1] jAx [(0, 1), (-2147483648, 2147483647)] (jz_K 1 [0, 5] [-1, 0, -1]) = true := by decide +kernel
set_option maxRecDepth 1000000 in
theorem jq_ends_0m : ja_call 30000 265 [.ref 359, .retAddr 0, .retAddr 1] jAm [(0, 1), (-2147483648, 2147483647)] (jz_K 1 [0, 5] [-1, 0, -1]) = true := by decide +kernel
theorem jz_ends (a : Bool) (b : Int32) : jz_ok 139 265 [.int (bif a then 1 else 0), .int b] := by
  exact jz_box (env := (jz_env (bif a then 1 else 0) b 0)) jq_ends_0x jq_ends_0m (jz_sat2 (jz_bool a) (jz_full b)) rfl
set_option maxRecDepth 1000000 in
theorem jq_when_0x : ja_call 30000 140 [.ref 0, .retAddr 0] jAx [(-2147483648, 2147483647)] (jz_K 0 [] [-1]) = true := by decide +kernel
set_option maxRecDepth 1000000 in
theorem jq_when_0m : ja_call 30000 266 [.ref 359, .retAddr 0] jAm [(-2147483648, 2147483647)] (jz_K 0 [] [-1]) = true := by decide +kernel
theorem jz_when (a : Int32) : jz_ok 140 266 [.int a] := by
  exact jz_box (env := (jz_env a 0 0)) jq_when_0x jq_when_0m (jz_sat1 (jz_full a)) rfl
set_option maxRecDepth 1000000 in
theorem jq_plan_0x : ja_call 30000 141 [.ref 0, .retAddr 0] jAx [(-2147483648, 2147483647)] (jz_K 0 [-1, 0] [-1, 0, -1]) = true := by decide +kernel
set_option maxRecDepth 1000000 in
theorem jq_plan_0m : ja_call 30000 269 [.ref 359, .retAddr 0] jAm [(-2147483648, 2147483647)] (jz_K 0 [-1, 0] [-1, 0, -1]) = true := by decide +kernel
theorem jz_plan (a : Int32) : jz_ok 141 269 [.int a] := by
  exact jz_box (env := (jz_env a 0 0)) jq_plan_0x jq_plan_0m (jz_sat1 (jz_full a)) rfl
set_option maxRecDepth 1000000 in
theorem jq_cost_0x : ja_call 30000 142 [.ref 0, .retAddr 0, .retAddr 1] jAx [(-2147483648, 2147483647), (-2147483648, 2147483647)] (jz_K 0 [] [-1]) = true := by decide +kernel
set_option maxRecDepth 1000000 in
theorem jq_cost_0m : ja_call 30000 272 [.ref 359, .retAddr 0, .retAddr 1] jAm [(-2147483648, 2147483647), (-2147483648, 2147483647)] (jz_K 0 [] [-1]) = true := by decide +kernel
theorem jz_cost (a : Int32) (b : Int32) : jz_ok 142 272 [.int a, .int b] := by
  exact jz_box (env := (jz_env a b 0)) jq_cost_0x jq_cost_0m (jz_sat2 (jz_full a) (jz_full b)) rfl
set_option maxRecDepth 1000000 in
theorem jq_slack_0x : ja_call 30000 143 [.ref 0, .retAddr 0] jAx [(-2147483648, 2147483647)] (jz_K 0 [] [-1]) = true := by decide +kernel
set_option maxRecDepth 1000000 in
theorem jq_slack_0m : ja_call 30000 273 [.ref 359, .retAddr 0] jAm [(-2147483648, 2147483647)] (jz_K 0 [] [-1]) = true := by decide +kernel
theorem jz_slack (a : Int32) : jz_ok 143 273 [.int a] := by
  exact jz_box (env := (jz_env a 0 0)) jq_slack_0x jq_slack_0m (jz_sat1 (jz_full a)) rfl
set_option maxRecDepth 1000000 in
theorem jq_band_0x : ja_call 30000 144 [.ref 0, .retAddr 0, .retAddr 1] jAx [(-2147483648, 2147483647), (0, 1)] (jz_K 0 [] [-1]) = true := by decide +kernel
set_option maxRecDepth 1000000 in
theorem jq_band_0m : ja_call 30000 278 [.ref 359, .retAddr 0, .retAddr 1] jAm [(-2147483648, 2147483647), (0, 1)] (jz_K 0 [] [-1]) = true := by decide +kernel
theorem jz_band (a : Int32) (b : Bool) : jz_ok 144 278 [.int a, .int (bif b then 1 else 0)] := by
  exact jz_box (env := (jz_env a (bif b then 1 else 0) 0)) jq_band_0x jq_band_0m (jz_sat2 (jz_full a) (jz_bool b)) rfl
set_option maxRecDepth 1000000 in
theorem jq_swap_0x : ja_call 30000 145 [.ref 0, .retAddr 0, .retAddr 1] jAx [(-2147483648, 2147483647), (-2147483648, 2147483647)] (jz_K 0 [] [-1]) = true := by decide +kernel
set_option maxRecDepth 1000000 in
theorem jq_swap_0m : ja_call 30000 274 [.ref 359, .retAddr 0, .retAddr 1] jAm [(-2147483648, 2147483647), (-2147483648, 2147483647)] (jz_K 0 [] [-1]) = true := by decide +kernel
theorem jz_swap (a : Int32) (b : Int32) : jz_ok 145 274 [.int a, .int b] := by
  exact jz_box (env := (jz_env a b 0)) jq_swap_0x jq_swap_0m (jz_sat2 (jz_full a) (jz_full b)) rfl
set_option maxRecDepth 1000000 in
theorem jq_burden_0x : ja_call 30000 146 [.ref 0, .retAddr 0] jAx [(0, 1)] (jz_K 0 [] [-1]) = true := by decide +kernel
set_option maxRecDepth 1000000 in
theorem jq_burden_0m : ja_call 30000 277 [.ref 359, .retAddr 0] jAm [(0, 1)] (jz_K 0 [] [-1]) = true := by decide +kernel
theorem jz_burden (a : Bool) : jz_ok 146 277 [.int (bif a then 1 else 0)] := by
  exact jz_box (env := (jz_env (bif a then 1 else 0) 0 0)) jq_burden_0x jq_burden_0m (jz_sat1 (jz_bool a)) rfl
set_option maxRecDepth 1000000 in
theorem jq_loop_0x : ja_call 30000 147 [.ref 0, .retAddr 0, .retAddr 1] jAx [(-2147483648, 2147483647), (-2147483648, 2147483647)] (jz_K 0 [] [-1]) = true := by decide +kernel
set_option maxRecDepth 1000000 in
theorem jq_loop_0m : ja_call 30000 280 [.ref 359, .retAddr 0, .retAddr 1] jAm [(-2147483648, 2147483647), (-2147483648, 2147483647)] (jz_K 0 [] [-1]) = true := by decide +kernel
theorem jz_loop (a : Int32) (b : Int32) : jz_ok 147 280 [.int a, .int b] := by
  exact jz_box (env := (jz_env a b 0)) jq_loop_0x jq_loop_0m (jz_sat2 (jz_full a) (jz_full b)) rfl
set_option maxRecDepth 1000000 in
theorem jq_build_0x : ja_call 30000 148 [.ref 0] jAx [(0, 0)] (jz_K 0 [] [-1]) = true := by decide +kernel
set_option maxRecDepth 1000000 in
theorem jq_build_0m : ja_call 30000 281 [.ref 359] jAm [(0, 0)] (jz_K 0 [] [-1]) = true := by decide +kernel
theorem jz_build  : jz_ok 148 281 [] := by
  exact jz_box (env := (jz_env 0 0 0)) jq_build_0x jq_build_0m (jz_sat1 ⟨by decide, by decide⟩) rfl
set_option maxRecDepth 1000000 in
theorem jq_hold_0x : ja_call 30000 150 [.ref 0, .retAddr 0, .retAddr 1] jAx [(-2147483648, 2147483647), (-2147483648, 2147483647)] (jz_K 0 [] [-1]) = true := by decide +kernel
set_option maxRecDepth 1000000 in
theorem jq_hold_0m : ja_call 30000 285 [.ref 359, .retAddr 0, .retAddr 1] jAm [(-2147483648, 2147483647), (-2147483648, 2147483647)] (jz_K 0 [] [-1]) = true := by decide +kernel
theorem jz_hold (a : Int32) (b : Int32) : jz_ok 150 285 [.int a, .int b] := by
  exact jz_box (env := (jz_env a b 0)) jq_hold_0x jq_hold_0m (jz_sat2 (jz_full a) (jz_full b)) rfl
