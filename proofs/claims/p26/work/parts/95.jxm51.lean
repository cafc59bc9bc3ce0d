/-! contracts of the reference (51); written by wip/jc/e5.py -/
section Jjxm51
variable {X : J_H → Prop}
set_option maxRecDepth 1000000 in
theorem jxm_c211_k22_8 : jc_ndc jxm_c211_Z 100000 jxm_c211 22 jxm_c211_n22_8 = true := by decide +kernel
set_option maxRecDepth 1000000 in
theorem jxm_c211_k22_9 : jc_ndc jxm_c211_Z 100000 jxm_c211 22 jxm_c211_n22_9 = true := by decide +kernel
set_option maxRecDepth 1000000 in
theorem jxm_c211_k22_10 : jc_ndc jxm_c211_Z 100000 jxm_c211 22 jxm_c211_n22_10 = true := by decide +kernel
set_option maxRecDepth 1000000 in
theorem jxm_c211_k22_11 : jc_ndc jxm_c211_Z 100000 jxm_c211 22 jxm_c211_n22_11 = true := by decide +kernel
end Jjxm51
