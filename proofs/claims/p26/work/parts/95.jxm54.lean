/-! contracts of the reference (54); written by wip/jc/e5.py -/
section Jjxm54
variable {X : J_H → Prop}
set_option maxRecDepth 1000000 in
theorem jxm_c211_k22_20 : jc_ndc jxm_c211_Z 100000 jxm_c211 22 jxm_c211_n22_20 = true := by decide +kernel
set_option maxRecDepth 1000000 in
theorem jxm_c211_k22_21 : jc_ndc jxm_c211_Z 100000 jxm_c211 22 jxm_c211_n22_21 = true := by decide +kernel
set_option maxRecDepth 1000000 in
theorem jxm_c211_k22_22 : jc_ndc jxm_c211_Z 100000 jxm_c211 22 jxm_c211_n22_22 = true := by decide +kernel
set_option maxRecDepth 1000000 in
theorem jxm_c211_k22_23 : jc_ndc jxm_c211_Z 100000 jxm_c211 22 jxm_c211_n22_23 = true := by decide +kernel
end Jjxm54
