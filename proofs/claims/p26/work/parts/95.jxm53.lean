/-! contracts of the reference (53); written by wip/jc/e5.py -/
section Jjxm53
variable {X : J_H → Prop}
set_option maxRecDepth 1000000 in
theorem jxm_c211_k22_16 : jc_ndc jxm_c211_Z 100000 jxm_c211 22 jxm_c211_n22_16 = true := by decide +kernel
set_option maxRecDepth 1000000 in
theorem jxm_c211_k22_17 : jc_ndc jxm_c211_Z 100000 jxm_c211 22 jxm_c211_n22_17 = true := by decide +kernel
set_option maxRecDepth 1000000 in
theorem jxm_c211_k22_18 : jc_ndc jxm_c211_Z 100000 jxm_c211 22 jxm_c211_n22_18 = true := by decide +kernel
set_option maxRecDepth 1000000 in
theorem jxm_c211_k22_19 : jc_ndc jxm_c211_Z 100000 jxm_c211 22 jxm_c211_n22_19 = true := by decide +kernel
end Jjxm53
