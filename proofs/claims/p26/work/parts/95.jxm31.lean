/-! contracts of the reference (31); written by wip/jc/e5.py -/
section Jjxm31
variable {X : J_H → Prop}
set_option maxRecDepth 1000000 in
theorem jxm_c160_k48_1 : jc_ndc jxm_c160_Z 100000 jxm_c160 48 jxm_c160_n48_1 = true := by decide +kernel
set_option maxRecDepth 1000000 in
theorem jxm_c160_k48_2 : jc_ndc jxm_c160_Z 100000 jxm_c160 48 jxm_c160_n48_2 = true := by decide +kernel
set_option maxRecDepth 1000000 in
theorem jxm_c160_k48_3 : jc_ndc jxm_c160_Z 100000 jxm_c160 48 jxm_c160_n48_3 = true := by decide +kernel
set_option maxRecDepth 1000000 in
theorem jxm_c160_k48_4 : jc_ndc jxm_c160_Z 100000 jxm_c160 48 jxm_c160_n48_4 = true := by decide +kernel
end Jjxm31
