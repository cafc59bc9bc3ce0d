/-! contracts of the reference (52); written by wip/jc/e5.py -/
section Jjxm52
variable {X : J_H → Prop}
set_option maxRecDepth 1000000 in
theorem jxm_c211_k22_12 : jc_ndc jxm_c211_Z 100000 jxm_c211 22 jxm_c211_n22_12 = true := by decide +kernel
set_option maxRecDepth 1000000 in
theorem jxm_c211_k22_13 : jc_ndc jxm_c211_Z 100000 jxm_c211 22 jxm_c211_n22_13 = true := by decide +kernel
set_option maxRecDepth 1000000 in
theorem jxm_c211_k22_14 : jc_ndc jxm_c211_Z 100000 jxm_c211 22 jxm_c211_n22_14 = true := by decide +kernel
set_option maxRecDepth 1000000 in
theorem jxm_c211_k22_15 : jc_ndc jxm_c211_Z 100000 jxm_c211 22 jxm_c211_n22_15 = true := by decide +kernel
end Jjxm52
