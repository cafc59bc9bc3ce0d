/-! contracts of the reference (43); written by wip/jc/e5.py -/
section Jjxm43
variable {X : J_H → Prop}
set_option maxRecDepth 1000000 in
theorem jxm_c202_k69_0 : jc_ndc jxm_c202_Z 100000 jxm_c202 69 jxm_c202_n69_0 = true := by decide +kernel
set_option maxRecDepth 1000000 in
theorem jxm_c202_k69_1 : jc_ndc jxm_c202_Z 100000 jxm_c202 69 jxm_c202_n69_1 = true := by decide +kernel
set_option maxRecDepth 1000000 in
theorem jxm_c202_k69_2 : jc_ndc jxm_c202_Z 100000 jxm_c202 69 jxm_c202_n69_2 = true := by decide +kernel
set_option maxRecDepth 1000000 in
theorem jxm_c202_k69_3 : jc_ndc jxm_c202_Z 100000 jxm_c202 69 jxm_c202_n69_3 = true := by decide +kernel
set_option maxRecDepth 1000000 in
theorem jxm_c202_k69_4 : jc_ndc jxm_c202_Z 100000 jxm_c202 69 jxm_c202_n69_4 = true := by decide +kernel
end Jjxm43
