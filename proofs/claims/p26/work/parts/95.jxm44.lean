/-! contracts of the reference (44); written by wip/jc/e5.py -/
section Jjxm44
variable {X : J_H → Prop}
set_option maxRecDepth 1000000 in
theorem jxm_c202_k69_5 : jc_ndc jxm_c202_Z 100000 jxm_c202 69 jxm_c202_n69_5 = true := by decide +kernel
set_option maxRecDepth 1000000 in
theorem jxm_c202_k69_6 : jc_ndc jxm_c202_Z 100000 jxm_c202 69 jxm_c202_n69_6 = true := by decide +kernel
set_option maxRecDepth 1000000 in
theorem jxm_c202_k69_7 : jc_ndc jxm_c202_Z 100000 jxm_c202 69 jxm_c202_n69_7 = true := by decide +kernel
set_option maxRecDepth 1000000 in
theorem jxm_c202_k69_8 : jc_ndc jxm_c202_Z 100000 jxm_c202 69 jxm_c202_n69_8 = true := by decide +kernel
set_option maxRecDepth 1000000 in
theorem jxm_c202_k69_9 : jc_ndc jxm_c202_Z 100000 jxm_c202 69 jxm_c202_n69_9 = true := by decide +kernel
end Jjxm44
