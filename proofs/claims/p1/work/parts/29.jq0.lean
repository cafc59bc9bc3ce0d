/-! calls on new objects (status, load, fault, many, station, track, train, fits, why, through, risks, weak): written by wip/p1/gen_runs.py -/
set_option maxRecDepth 1000000 in
theorem jq_status_0x : ja_call 30000 112 [.ref 0] jAx [(0, 0)] (jz_K 0 [] [0]) = true := by decide +kernel
set_option maxRecDepth 1000000 in
theorem jq_status_0m : ja_call 30000 169 [.ref 359] jAm [(0, 0)] (jz_K 0 [] [0]) = true := by decide +kernel
theorem jz_status  : jz_ok 112 169 [] := by
  exact jz_box (env := (jz_env 0 0 0)) jq_status_0x jq_status_0m (jz_sat1 ⟨by decide, by decide⟩) rfl
set_option maxRecDepth 1000000 in
theorem jq_load_2x : ja_call 30000 114 [.ref 0, .int 0] jAx [(0, 0)] (jz_K 0 [] [0]) = true := by decide +kernel
set_option maxRecDepth 1000000 in
theorem jq_load_2m : ja_call 30000 201 [.ref 359, .int 0] jAm [(0, 0)] (jz_K 0 [] [0]) = true := by decide +kernel
set_option maxRecDepth 1000000 in
theorem jq_load_0x : ja_call 30000 114 [.ref 0, .retAddr 0] jAx [(-2147483648, -1)] (jz_K 0 [] [-1]) = true := by decide +kernel
set_option maxRecDepth 1000000 in
theorem jq_load_0m : ja_call 30000 201 [.ref 359, .retAddr 0] jAm [(-2147483648, -1)] (jz_K 0 [] [-1]) = true := by decide +kernel
set_option maxRecDepth 1000000 in
theorem jq_load_1x : ja_call 30000 114 [.ref 0, .retAddr 0] jAx [(1, 2147483647)] (jz_K 0 [] [-1]) = true := by decide +kernel
set_option maxRecDepth 1000000 in
theorem jq_load_1m : ja_call 30000 201 [.ref 359, .retAddr 0] jAm [(1, 2147483647)] (jz_K 0 [] [-1]) = true := by decide +kernel
theorem jz_load (a : Int32) : jz_ok 114 201 [.int a] := by
  have hf := jz_full a
  rcases Int.lt_trichotomy a.toInt 0 with h | h | h
  · exact jz_box (env := (jz_env a 0 0)) jq_load_0x jq_load_0m (jz_sat1 (⟨hf.1, by show a.toInt ≤ -1; omega⟩)) rfl
  · have e : a = 0 := Int32.toInt_inj.mp h
    subst e
    exact jz_box (Us := [.int 0]) (env := jz_env 0 0 0) jq_load_2x jq_load_2m (jz_sat1 ⟨by decide, by decide⟩) rfl
  · exact jz_box (env := (jz_env a 0 0)) jq_load_1x jq_load_1m (jz_sat1 (⟨by show 1 ≤ a.toInt; omega, hf.2⟩)) rfl
set_option maxRecDepth 1000000 in
theorem jq_fault_0x : ja_call 30000 115 [.ref 0, .retAddr 0] jAx [(-2147483648, 2147483647)] (jz_K 0 [] [-1]) = true := by decide +kernel
set_option maxRecDepth 1000000 in
theorem jq_fault_0m : ja_call 30000 203 [.ref 359, .retAddr 0] jAm [(-2147483648, 2147483647)] (jz_K 0 [] [-1]) = true := by decide +kernel
theorem jz_fault (a : Int32) : jz_ok 115 203 [.int a] := by
  exact jz_box (env := (jz_env a 0 0)) jq_fault_0x jq_fault_0m (jz_sat1 (jz_full a)) rfl
set_option maxRecDepth 1000000 in
theorem jq_many_0x : ja_call 30000 116 [.ref 0, .retAddr 0] jAx [(-2147483648, 2147483647)] (jz_K 0 [0, 7, 8, 10] [-1, 0, 1, 0, -1]) = true := by decide +kernel
set_option maxRecDepth 1000000 in
theorem jq_many_0m : ja_call 30000 235 [.ref 359, .retAddr 0] jAm [(-2147483648, 2147483647)] (jz_K 0 [0, 7, 8, 10] [-1, 0, 1, 0, -1]) = true := by decide +kernel
theorem jz_many (a : Int32) : jz_ok 116 235 [.int a] := by
  exact jz_box (env := (jz_env a 0 0)) jq_many_0x jq_many_0m (jz_sat1 (jz_full a)) rfl
set_option maxRecDepth 1000000 in
theorem jq_station_0x : ja_call 30000 117 [.ref 0, .retAddr 0, .retAddr 1] jAx [(-2147483648, 2147483647), (-2147483648, 2147483647)] (jz_K 0 [] [-1]) = true := by decide +kernel
set_option maxRecDepth 1000000 in
theorem jq_station_0m : ja_call 30000 237 [.ref 359, .retAddr 0, .retAddr 1] jAm [(-2147483648, 2147483647), (-2147483648, 2147483647)] (jz_K 0 [] [-1]) = true := by decide +kernel
theorem jz_station (a : Int32) (b : Int32) : jz_ok 117 237 [.int a, .int b] := by
  exact jz_box (env := (jz_env a b 0)) jq_station_0x jq_station_0m (jz_sat2 (jz_full a) (jz_full b)) rfl
set_option maxRecDepth 1000000 in
theorem jq_track_0x : ja_call 30000 118 [.ref 0, .retAddr 0, .retAddr 1, .retAddr 2] jAx [(-2147483648, 2147483647), (-2147483648, 2147483647), (-2147483648, 2147483647)] (jz_K 0 [] [-1]) = true := by decide +kernel
set_option maxRecDepth 1000000 in
theorem jq_track_0m : ja_call 30000 238 [.ref 359, .retAddr 0, .retAddr 1, .retAddr 2] jAm [(-2147483648, 2147483647), (-2147483648, 2147483647), (-2147483648, 2147483647)] (jz_K 0 [] [-1]) = true := by decide +kernel
theorem jz_track (a : Int32) (b : Int32) (c : Int32) : jz_ok 118 238 [.int a, .int b, .int c] := by
  exact jz_box (env := (jz_env a b c)) jq_track_0x jq_track_0m (jz_sat3 (jz_full a) (jz_full b) (jz_full c)) rfl
set_option maxRecDepth 1000000 in
theorem jq_train_0x : ja_call 30000 119 [.ref 0, .retAddr 0, .retAddr 1] jAx [(-2147483648, 2147483647), (-2147483648, 2147483647)] (jz_K 0 [] [-1]) = true := by decide +kernel
set_option maxRecDepth 1000000 in
theorem jq_train_0m : ja_call 30000 241 [.ref 359, .retAddr 0, .retAddr 1] jAm [(-2147483648, 2147483647), (-2147483648, 2147483647)] (jz_K 0 [] [-1]) = true := by decide +kernel
theorem jz_train (a : Int32) (b : Int32) : jz_ok 119 241 [.int a, .int b] := by
  exact jz_box (env := (jz_env a b 0)) jq_train_0x jq_train_0m (jz_sat2 (jz_full a) (jz_full b)) rfl
set_option maxRecDepth 1000000 in
theorem jq_fits_0x : ja_call 30000 120 [.ref 0, .retAddr 0] jAx [(-2147483648, 2147483647)] (jz_K 0 [] [-1]) = true := by decide +kernel
set_option maxRecDepth 1000000 in
theorem jq_fits_0m : ja_call 30000 243 [.ref 359, .retAddr 0] jAm [(-2147483648, 2147483647)] (jz_K 0 [] [-1]) = true := by decide +kernel
theorem jz_fits (a : Int32) : jz_ok 120 243 [.int a] := by
  exact jz_box (env := (jz_env a 0 0)) jq_fits_0x jq_fits_0m (jz_sat1 (jz_full a)) rfl
set_option maxRecDepth 1000000 in
theorem jq_why_0x : ja_call 30000 121 [.ref 0, .retAddr 0] jAx [(-2147483648, 2147483647)] (jz_K 0 [] [-1]) = true := by decide +kernel
set_option maxRecDepth 1000000 in
theorem jq_why_0m : ja_call 30000 244 [.ref 359, .retAddr 0] jAm [(-2147483648, 2147483647)] (jz_K 0 [] [-1]) = true := by decide +kernel
theorem jz_why (a : Int32) : jz_ok 121 244 [.int a] := by
  exact jz_box (env := (jz_env a 0 0)) jq_why_0x jq_why_0m (jz_sat1 (jz_full a)) rfl
set_option maxRecDepth 1000000 in
theorem jq_through_0x : ja_call 30000 122 [.ref 0, .retAddr 0] jAx [(-2147483648, 2147483647)] (jz_K 0 [-1, 0] [-1, 0, -1]) = true := by decide +kernel
set_option maxRecDepth 1000000 in
theorem jq_through_0m : ja_call 30000 249 [.ref 359, .retAddr 0] jAm [(-2147483648, 2147483647)] (jz_K 0 [-1, 0] [-1, 0, -1]) = true := by decide +kernel
theorem jz_through (a : Int32) : jz_ok 122 249 [.int a] := by
  exact jz_box (env := (jz_env a 0 0)) jq_through_0x jq_through_0m (jz_sat1 (jz_full a)) rfl
set_option maxRecDepth 1000000 in
theorem jq_risks_0x : ja_call 30000 123 [.ref 0] jAx [(0, 0)] (jz_K 0 [] [0]) = true := by decide +kernel
set_option maxRecDepth 1000000 in
theorem jq_risks_0m : ja_call 30000 250 [.ref 359] jAm [(0, 0)] (jz_K 0 [] [0]) = true := by decide +kernel
theorem jz_risks  : jz_ok 123 250 [] := by
  exact jz_box (env := (jz_env 0 0 0)) jq_risks_0x jq_risks_0m (jz_sat1 ⟨by decide, by decide⟩) rfl
set_option maxRecDepth 1000000 in
theorem jq_weak_0x : ja_call 30000 124 [.ref 0, .retAddr 0] jAx [(-2147483648, 2147483647)] (jz_K 0 [] [-1]) = true := by decide +kernel
set_option maxRecDepth 1000000 in
theorem jq_weak_0m : ja_call 30000 251 [.ref 359, .retAddr 0] jAm [(-2147483648, 2147483647)] (jz_K 0 [] [-1]) = true := by decide +kernel
theorem jz_weak (a : Int32) : jz_ok 124 251 [.int a] := by
  exact jz_box (env := (jz_env a 0 0)) jq_weak_0x jq_weak_0m (jz_sat1 (jz_full a)) rfl
