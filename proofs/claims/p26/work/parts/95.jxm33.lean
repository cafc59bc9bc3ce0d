/-! contracts of the reference (33); written by wip/jc/e5.py -/
section Jjxm33
variable {X : J_H → Prop}
set_option maxRecDepth 1000000 in
theorem jxm_c161_k48_2 : jc_ndc jxm_c161_Z 100000 jxm_c161 48 jxm_c161_n48_2 = true := by decide +kernel
set_option maxRecDepth 1000000 in
theorem jxm_c161_k48_3 : jc_ndc jxm_c161_Z 100000 jxm_c161 48 jxm_c161_n48_3 = true := by decide +kernel
set_option maxRecDepth 1000000 in
theorem jxm_c161_k48_4 : jc_ndc jxm_c161_Z 100000 jxm_c161 48 jxm_c161_n48_4 = true := by decide +kernel
end Jjxm33
