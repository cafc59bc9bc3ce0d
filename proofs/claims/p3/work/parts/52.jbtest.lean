/-! a first contract: isFrom -/
theorem jb_isFrom {G : List Nat} : jb_Con jP [] G (171, 0, [.inl jb_full, .inl jb_full, .inl jb_full], some (.inl (0, 1))) :=
  jb_meth_ok (Cs := []) (T := jT) (N := []) (f := 40) jT_ok (fun c h => nomatch h) (by decide +kernel)
