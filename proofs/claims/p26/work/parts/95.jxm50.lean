/-! contracts of the reference (50); written by wip/jc/e5.py -/
section Jjxm50
variable {X : J_H → Prop}
set_option maxRecDepth 1000000 in
theorem jxm_c211_k22_3 : jc_ndc jxm_c211_Z 100000 jxm_c211 22 jxm_c211_n22_3 = true := by decide +kernel
set_option maxRecDepth 1000000 in
theorem jxm_c211_k22_4 : jc_ndc jxm_c211_Z 100000 jxm_c211 22 jxm_c211_n22_4 = true := by decide +kernel
set_option maxRecDepth 1000000 in
theorem jxm_c211_k22_5 : jc_ndc jxm_c211_Z 100000 jxm_c211 22 jxm_c211_n22_5 = true := by decide +kernel
set_option maxRecDepth 1000000 in
theorem jxm_c211_k22_6 : jc_ndc jxm_c211_Z 100000 jxm_c211 22 jxm_c211_n22_6 = true := by decide +kernel
set_option maxRecDepth 1000000 in
theorem jxm_c211_k22_7 : jc_ndc jxm_c211_Z 100000 jxm_c211 22 jxm_c211_n22_7 = true := by decide +kernel
end Jjxm50
