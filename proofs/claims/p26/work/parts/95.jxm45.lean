/-! contracts of the reference (45); written by wip/jc/e5.py -/
section Jjxm45
variable {X : J_H → Prop}
set_option maxRecDepth 1000000 in
theorem jxm_c202_k69_10 : jc_ndc jxm_c202_Z 100000 jxm_c202 69 jxm_c202_n69_10 = true := by decide +kernel
set_option maxRecDepth 1000000 in
theorem jxm_c202_k69_11 : jc_ndc jxm_c202_Z 100000 jxm_c202 69 jxm_c202_n69_11 = true := by decide +kernel
set_option maxRecDepth 1000000 in
theorem jxm_c202_k69_12 : jc_ndc jxm_c202_Z 100000 jxm_c202 69 jxm_c202_n69_12 = true := by decide +kernel
set_option maxRecDepth 1000000 in
theorem jxm_c202_k69_13 : jc_ndc jxm_c202_Z 100000 jxm_c202 69 jxm_c202_n69_13 = true := by decide +kernel
set_option maxRecDepth 1000000 in
theorem jxm_c202_k69_14 : jc_ndc jxm_c202_Z 100000 jxm_c202 69 jxm_c202_n69_14 = true := by decide +kernel
end Jjxm45
