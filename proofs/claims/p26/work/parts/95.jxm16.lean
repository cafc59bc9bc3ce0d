/-! contracts of the reference (16); written by wip/jc/e5.py -/
section Jjxm16
variable {X : J_H → Prop}
set_option maxRecDepth 1000000 in
theorem jxm_c46_k56_1 : jc_ndc jxm_c46_Z 100000 jxm_c46 56 jxm_c46_n56_1 = true := by decide +kernel
set_option maxRecDepth 1000000 in
theorem jxm_c46_k56_2 : jc_ndc jxm_c46_Z 100000 jxm_c46 56 jxm_c46_n56_2 = true := by decide +kernel
set_option maxRecDepth 1000000 in
theorem jxm_c46_k211_0 : jc_ndc jxm_c46_Z 100000 jxm_c46 211 jxm_c46_n211_0 = true := by decide +kernel
set_option maxRecDepth 1000000 in
theorem jxm_c46_k211_1 : jc_ndc jxm_c46_Z 100000 jxm_c46 211 jxm_c46_n211_1 = true := by decide +kernel
set_option maxRecDepth 1000000 in
theorem jxm_c46_k304_0 : jc_ndc jxm_c46_Z 100000 jxm_c46 304 jxm_c46_n304_0 = true := by decide +kernel
set_option maxRecDepth 1000000 in
theorem jxm_c46_k304_1 : jc_ndc jxm_c46_Z 100000 jxm_c46 304 jxm_c46_n304_1 = true := by decide +kernel
end Jjxm16
