/-! calls on new objects (links, blocks, ring, section, time, together, passes, stood, late, event, use, gone): written by wip/p1/gen_runs.py -/
set_option maxRecDepth 1000000 in
theorem jq_links_0x : ja_call 30000 125 [.ref 0, .retAddr 0, .retAddr 1] jAx [(-2147483648, -2), (-2147483648, 2147483647)] (jz_K 0 [] [-1]) = true := by decide +kernel
set_option maxRecDepth 1000000 in
theorem jq_links_0m : ja_call 30000 252 [.ref 359, .retAddr 0, .retAddr 1] jAm [(-2147483648, -2), (-2147483648, 2147483647)] (jz_K 0 [] [-1]) = true := by decide +kernel
set_option maxRecDepth 1000000 in
theorem jq_links_1x : ja_call 30000 125 [.ref 0, .retAddr 0, .retAddr 1] jAx [(-1, -1), (-2147483648, 2147483647)] (jz_K 1 [0, 1] [-1, 0, -1]) = true := by decide +kernel
set_option maxRecDepth 1000000 in
theorem jq_links_1m : ja_call 30000 252 [.ref 359, .retAddr 0, .retAddr 1] jAm [(-1, -1), (-2147483648, 2147483647)] (jz_K 1 [0, 1] [-1, 0, -1]) = true := by decide +kernel
set_option maxRecDepth 1000000 in
theorem jq_links_2x : ja_call 30000 125 [.ref 0, .retAddr 0, .retAddr 1] jAx [(0, 2147483647), (-2147483648, 2147483647)] (jz_K 0 [] [-1]) = true := by decide +kernel
set_option maxRecDepth 1000000 in
theorem jq_links_2m : ja_call 30000 252 [.ref 359, .retAddr 0, .retAddr 1] jAm [(0, 2147483647), (-2147483648, 2147483647)] (jz_K 0 [] [-1]) = true := by decide +kernel
theorem jz_links (a : Int32) (b : Int32) : jz_ok 125 252 [.int a, .int b] := by
  have hf := jz_full a
  rcases Int.lt_trichotomy a.toInt (-1) with h | h | h
  · exact jz_box (env := (jz_env a b 0)) jq_links_0x jq_links_0m (jz_sat2 (⟨hf.1, by show a.toInt ≤ (-2); omega⟩) (jz_full b)) rfl
  · exact jz_box (env := (jz_env a b 0)) jq_links_1x jq_links_1m (jz_sat2 (⟨by show (-1) ≤ a.toInt; omega, by show a.toInt ≤ (-1); omega⟩) (jz_full b)) rfl
  · exact jz_box (env := (jz_env a b 0)) jq_links_2x jq_links_2m (jz_sat2 (⟨by show 0 ≤ a.toInt; omega, hf.2⟩) (jz_full b)) rfl
set_option maxRecDepth 1000000 in
theorem jq_blocks_0x : ja_call 30000 126 [.ref 0, .retAddr 0] jAx [(-2147483648, 2147483647)] (jz_K 0 [] [-1]) = true := by decide +kernel
set_option maxRecDepth 1000000 in
theorem jq_blocks_0m : ja_call 30000 246 [.ref 359, .retAddr 0] jAm [(-2147483648, 2147483647)] (jz_K 0 [] [-1]) = true := by decide +kernel
theorem jz_blocks (a : Int32) : jz_ok 126 246 [.int a] := by
  exact jz_box (env := (jz_env a 0 0)) jq_blocks_0x jq_blocks_0m (jz_sat1 (jz_full a)) rfl
set_option maxRecDepth 1000000 in
theorem jq_ring_0x : ja_call 30000 127 [.ref 0] jAx [(0, 0)] (jz_K 0 [] [0]) = true := by decide +kernel
set_option maxRecDepth 1000000 in
theorem jq_ring_0m : ja_call 30000 247 [.ref 359] jAm [(0, 0)] (jz_K 0 [] [0]) = true := by decide +kernel
theorem jz_ring  : jz_ok 127 247 [] := by
  exact jz_box (env := (jz_env 0 0 0)) jq_ring_0x jq_ring_0m (jz_sat1 ⟨by decide, by decide⟩) rfl
set_option maxRecDepth 1000000 in
theorem jq_section_0x : ja_call 30000 128 [.ref 0, .retAddr 0] jAx [(-2147483648, 2147483647)] (jz_K 0 [] [-1]) = true := by decide +kernel
set_option maxRecDepth 1000000 in
theorem jq_section_0m : ja_call 30000 248 [.ref 359, .retAddr 0] jAm [(-2147483648, 2147483647)] (jz_K 0 [] [-1]) = true := by decide +kernel
theorem jz_section (a : Int32) : jz_ok 128 248 [.int a] := by
  exact jz_box (env := (jz_env a 0 0)) jq_section_0x jq_section_0m (jz_sat1 (jz_full a)) rfl
set_option maxRecDepth 1000000 in
theorem jq_time_0x : ja_call 30000 129 [.ref 0, .retAddr 0, .retAddr 1, .retAddr 2] jAx [(-2147483648, 2147483647), (-2147483648, 2147483647), (0, 1)] (jz_K 0 [] [-1]) = true := by decide +kernel
set_option maxRecDepth 1000000 in
theorem jq_time_0m : ja_call 30000 253 [.ref 359, .retAddr 0, .retAddr 1, .retAddr 2] jAm [(-2147483648, 2147483647), (-2147483648, 2147483647), (0, 1)] (jz_K 0 [] [-1]) = true := by decide +kernel
theorem jz_time (a : Int32) (b : Int32) (c : Bool) : jz_ok 129 253 [.int a, .int b, .int (bif c then 1 else 0)] := by
  exact jz_box (env := (jz_env a b (bif c then 1 else 0))) jq_time_0x jq_time_0m (jz_sat3 (jz_full a) (jz_full b) (jz_bool c)) rfl
set_option maxRecDepth 1000000 in
theorem jq_together_0x : ja_call 30000 130 [.ref 0, .retAddr 0, .retAddr 1, .retAddr 2] jAx [(-2147483648, 2147483647), (-2147483648, 2147483647), (0, 1)] (jz_K 0 [] [-1]) = true := by decide +kernel
set_option maxRecDepth 1000000 in
theorem jq_together_0m : ja_call 30000 254 [.ref 359, .retAddr 0, .retAddr 1, .retAddr 2] jAm [(-2147483648, 2147483647), (-2147483648, 2147483647), (0, 1)] (jz_K 0 [] [-1]) = true := by decide +kernel
theorem jz_together (a : Int32) (b : Int32) (c : Bool) : jz_ok 130 254 [.int a, .int b, .int (bif c then 1 else 0)] := by
  exact jz_box (env := (jz_env a b (bif c then 1 else 0))) jq_together_0x jq_together_0m (jz_sat3 (jz_full a) (jz_full b) (jz_bool c)) rfl
set_option maxRecDepth 1000000 in
theorem jq_passes_0x : ja_call 30000 131 [.ref 0, .retAddr 0, .retAddr 1] jAx [(-2147483648, 2147483647), (-2147483648, 2147483647)] (jz_K 0 [] [-1]) = true := by decide +kernel
set_option maxRecDepth 1000000 in
theorem jq_passes_0m : ja_call 30000 255 [.ref 359, .retAddr 0, .retAddr 1] jAm [(-2147483648, 2147483647), (-2147483648, 2147483647)] (jz_K 0 [] [-1]) = true := by decide +kernel
theorem jz_passes (a : Int32) (b : Int32) : jz_ok 131 255 [.int a, .int b] := by
  exact jz_box (env := (jz_env a b 0)) jq_passes_0x jq_passes_0m (jz_sat2 (jz_full a) (jz_full b)) rfl
set_option maxRecDepth 1000000 in
theorem jq_stood_0x : ja_call 30000 132 [.ref 0, .retAddr 0] jAx [(-2147483648, 2147483647)] (jz_K 0 [] [-1]) = true := by decide +kernel
set_option maxRecDepth 1000000 in
theorem jq_stood_0m : ja_call 30000 256 [.ref 359, .retAddr 0] jAm [(-2147483648, 2147483647)] (jz_K 0 [] [-1]) = true := by decide +kernel
theorem jz_stood (a : Int32) : jz_ok 132 256 [.int a] := by
  exact jz_box (env := (jz_env a 0 0)) jq_stood_0x jq_stood_0m (jz_sat1 (jz_full a)) rfl
set_option maxRecDepth 1000000 in
theorem jq_late_0x : ja_call 30000 133 [.ref 0, .retAddr 0, .retAddr 1] jAx [(-2147483648, 2147483647), (-2147483648, 2147483647)] (jz_K 0 [] [-1]) = true := by decide +kernel
set_option maxRecDepth 1000000 in
theorem jq_late_0m : ja_call 30000 257 [.ref 359, .retAddr 0, .retAddr 1] jAm [(-2147483648, 2147483647), (-2147483648, 2147483647)] (jz_K 0 [] [-1]) = true := by decide +kernel
theorem jz_late (a : Int32) (b : Int32) : jz_ok 133 257 [.int a, .int b] := by
  exact jz_box (env := (jz_env a b 0)) jq_late_0x jq_late_0m (jz_sat2 (jz_full a) (jz_full b)) rfl
set_option maxRecDepth 1000000 in
theorem jq_event_0x : ja_call 30000 134 [.ref 0, .retAddr 0, .retAddr 1] jAx [(-2147483648, -2), (-2147483648, 2147483647)] (jz_K 0 [] [-1]) = true := by decide +kernel
set_option maxRecDepth 1000000 in
theorem jq_event_0m : ja_call 30000 258 [.ref 359, .retAddr 0, .retAddr 1] jAm [(-2147483648, -2), (-2147483648, 2147483647)] (jz_K 0 [] [-1]) = true := by decide +kernel
set_option maxRecDepth 1000000 in
theorem jq_event_1x : ja_call 30000 134 [.ref 0, .retAddr 0, .retAddr 1] jAx [(-1, -1), (-2147483648, 2147483647)] (jz_K 1 [0, 1] [-1, 0, -1]) = true := by decide +kernel
set_option maxRecDepth 1000000 in
theorem jq_event_1m : ja_call 30000 258 [.ref 359, .retAddr 0, .retAddr 1] jAm [(-1, -1), (-2147483648, 2147483647)] (jz_K 1 [0, 1] [-1, 0, -1]) = true := by decide +kernel
set_option maxRecDepth 1000000 in
theorem jq_event_2x : ja_call 30000 134 [.ref 0, .retAddr 0, .retAddr 1] jAx [(0, 2147483647), (-2147483648, 2147483647)] (jz_K 0 [] [-1]) = true := by decide +kernel
set_option maxRecDepth 1000000 in
theorem jq_event_2m : ja_call 30000 258 [.ref 359, .retAddr 0, .retAddr 1] jAm [(0, 2147483647), (-2147483648, 2147483647)] (jz_K 0 [] [-1]) = true := by decide +kernel
theorem jz_event (a : Int32) (b : Int32) : jz_ok 134 258 [.int a, .int b] := by
  have hf := jz_full a
  rcases Int.lt_trichotomy a.toInt (-1) with h | h | h
  · exact jz_box (env := (jz_env a b 0)) jq_event_0x jq_event_0m (jz_sat2 (⟨hf.1, by show a.toInt ≤ (-2); omega⟩) (jz_full b)) rfl
  · exact jz_box (env := (jz_env a b 0)) jq_event_1x jq_event_1m (jz_sat2 (⟨by show (-1) ≤ a.toInt; omega, by show a.toInt ≤ (-1); omega⟩) (jz_full b)) rfl
  · exact jz_box (env := (jz_env a b 0)) jq_event_2x jq_event_2m (jz_sat2 (⟨by show 0 ≤ a.toInt; omega, hf.2⟩) (jz_full b)) rfl
set_option maxRecDepth 1000000 in
theorem jq_use_0x : ja_call 30000 135 [.ref 0, .retAddr 0] jAx [(-2147483648, 2147483647)] (jz_K 0 [] [-1]) = true := by decide +kernel
set_option maxRecDepth 1000000 in
theorem jq_use_0m : ja_call 30000 259 [.ref 359, .retAddr 0] jAm [(-2147483648, 2147483647)] (jz_K 0 [] [-1]) = true := by decide +kernel
theorem jz_use (a : Int32) : jz_ok 135 259 [.int a] := by
  exact jz_box (env := (jz_env a 0 0)) jq_use_0x jq_use_0m (jz_sat1 (jz_full a)) rfl
set_option maxRecDepth 1000000 in
theorem jq_gone_0x : ja_call 30000 136 [.ref 0, .retAddr 0, .retAddr 1] jAx [(-2147483648, 2147483647), (-2147483648, 2147483647)] (jz_K 0 [] [-1]) = true := by decide +kernel
set_option maxRecDepth 1000000 in
theorem jq_gone_0m : ja_call 30000 260 [.ref 359, .retAddr 0, .retAddr 1] jAm [(-2147483648, 2147483647), (-2147483648, 2147483647)] (jz_K 0 [] [-1]) = true := by decide +kernel
theorem jz_gone (a : Int32) (b : Int32) : jz_ok 136 260 [.int a, .int b] := by
  exact jz_box (env := (jz_env a b 0)) jq_gone_0x jq_gone_0m (jz_sat2 (jz_full a) (jz_full b)) rfl
