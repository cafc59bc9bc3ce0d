/-! contracts of the class, written by wip/jc -/
def jx_SP : jc_Sp := []
theorem jx_C0 {X : J_H → Prop} : ∀ mj cs c, ja_n2 ([] : jc_Ct) mj = some cs → c ∈ cs → c.1 = mj ∧ jc_Con jP jx X c := fun mj cs c z => by have z : (none : Option (List jc_Cn)) = some cs := z; cases z
