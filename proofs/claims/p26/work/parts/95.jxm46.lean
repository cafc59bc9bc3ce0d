/-! contracts of the reference (46); written by wip/jc/e5.py -/
section Jjxm46
variable {X : J_H → Prop}
set_option maxRecDepth 1000000 in
theorem jxm_c202_k69_15 : jc_ndc jxm_c202_Z 100000 jxm_c202 69 jxm_c202_n69_15 = true := by decide +kernel
set_option maxRecDepth 1000000 in
theorem jxm_c202_k69_16 : jc_ndc jxm_c202_Z 100000 jxm_c202 69 jxm_c202_n69_16 = true := by decide +kernel
set_option maxRecDepth 1000000 in
theorem jxm_c202_k69_17 : jc_ndc jxm_c202_Z 100000 jxm_c202 69 jxm_c202_n69_17 = true := by decide +kernel
set_option maxRecDepth 1000000 in
theorem jxm_c202_k69_18 : jc_ndc jxm_c202_Z 100000 jxm_c202 69 jxm_c202_n69_18 = true := by decide +kernel
set_option maxRecDepth 1000000 in
theorem jxm_c202_k69_19 : jc_ndc jxm_c202_Z 100000 jxm_c202 69 jxm_c202_n69_19 = true := by decide +kernel
end Jjxm46
