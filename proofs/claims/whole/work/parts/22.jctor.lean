/-! the constructors, by the kernel -/
def j_X0 : J_H := [.inl (9, [.null, .null, .null, .null, .null, .null, .null, .null, .int 0])]
/-- the class's new object: cell 0 of the heap j_X1 -/
def j_X1 : J_H := match j_run jP 4000 5 111 0 (lv_args 0 [.ref 0]) [] j_X0 with
  | some q => q.2
  | none => []
set_option maxRecDepth 1000000 in
theorem j_X1_ok : (j_run jP 4000 5 111 0 (lv_args 0 [.ref 0]) [] j_X0).isSome = true := by decide +kernel
