/-! calls of both, one behind the other: written by wip/py/gen_zr.py -/
theorem la_b01 (b : Bool) : i_b b = 0 ∨ i_b b = 1 := by cases b <;> simp [i_b]
theorem la_q_status  {t : Nat} {h : J_H} (ht : t < 512) (H : la_I t h) : la_Q true (la_I (t + 1)) 112 168 [.ref 0] [.ref 359] h := by
  obtain ⟨⟨k, H⟩, L, L', n, S, a, e, w0, w, kp, sst, ⟨rfl, rfl⟩ | ⟨rfl, rfl⟩, R⟩ := H
  · exact la_jq H (pY_status  H.1.1.1) (fun _ c => pN_status  c) (hj_status_A R (by omega) (by omega) ) (fun _ ⟨st, r⟩ => la_R.mk (Or.inl ⟨rfl, rfl⟩) r (by omega))
  · exact la_jq H (pY_status  H.1.1.1) (fun _ c => pN_status  c) (hj_status_B R (by omega) (by omega) ) (fun _ ⟨st, r⟩ => la_R.mk (Or.inr ⟨rfl, rfl⟩) r (by omega))
theorem la_q_many (x1 : Int32) {t : Nat} {h : J_H} (ht : t < 512) (H : la_I t h) : la_Q true (la_I (t + 1)) 116 234 [.ref 0, .int (x1)] [.ref 359, .int (x1)] h := by
  obtain ⟨⟨k, H⟩, L, L', n, S, a, e, w0, w, kp, sst, ⟨rfl, rfl⟩ | ⟨rfl, rfl⟩, R⟩ := H
  · exact la_jq H (pY_many x1 H.1.1.1) (fun _ c => pN_many x1 c) (hj_many_A R (by omega) (by omega) x1) (fun _ ⟨st, r⟩ => la_R.mk (Or.inl ⟨rfl, rfl⟩) r (by omega))
  · exact la_jq H (pY_many x1 H.1.1.1) (fun _ c => pN_many x1 c) (hj_many_B R (by omega) (by omega) x1) (fun _ ⟨st, r⟩ => la_R.mk (Or.inr ⟨rfl, rfl⟩) r (by omega))
theorem la_q_station (x1 : Int32) (x2 : Int32) {t : Nat} {h : J_H} (ht : t < 512) (H : la_I t h) : la_Q true (la_I (t + 1)) 117 236 [.ref 0, .int (x1), .int (x2)] [.ref 359, .int (x1), .int (x2)] h := by
  obtain ⟨⟨k, H⟩, L, L', n, S, a, e, w0, w, kp, sst, ⟨rfl, rfl⟩ | ⟨rfl, rfl⟩, R⟩ := H
  · exact la_jq H (pY_station x1 x2 H.1.1.1) (fun _ c => pN_station x1 x2 c) (hj_station_A R (by omega) (by omega) x1 x2) (fun _ ⟨st, r⟩ => la_R.mk (Or.inl ⟨rfl, rfl⟩) r (by omega))
  · exact la_jq H (pY_station x1 x2 H.1.1.1) (fun _ c => pN_station x1 x2 c) (hj_station_B R (by omega) (by omega) x1 x2) (fun _ ⟨st, r⟩ => la_R.mk (Or.inr ⟨rfl, rfl⟩) r (by omega))
theorem la_q_track (x1 : Int32) (x2 : Int32) (x3 : Int32) {t : Nat} {h : J_H} (ht : t < 512) (H : la_I t h) : la_Q true (la_I (t + 1)) 118 237 [.ref 0, .int (x1), .int (x2), .int (x3)] [.ref 359, .int (x1), .int (x2), .int (x3)] h := by
  obtain ⟨⟨k, H⟩, L, L', n, S, a, e, w0, w, kp, sst, ⟨rfl, rfl⟩ | ⟨rfl, rfl⟩, R⟩ := H
  · exact la_jq H (pY_track x1 x2 x3 H.1.1.1) (fun _ c => pN_track x1 x2 x3 c) (hj_track_A R (by omega) (by omega) x1 x2 x3) (fun _ ⟨st, r⟩ => la_R.mk (Or.inl ⟨rfl, rfl⟩) r (by omega))
  · exact la_jq H (pY_track x1 x2 x3 H.1.1.1) (fun _ c => pN_track x1 x2 x3 c) (hj_track_B R (by omega) (by omega) x1 x2 x3) (fun _ ⟨st, r⟩ => la_R.mk (Or.inr ⟨rfl, rfl⟩) r (by omega))
theorem la_q_train (x1 : Int32) (x2 : Int32) {t : Nat} {h : J_H} (ht : t < 512) (H : la_I t h) : la_Q true (la_I (t + 1)) 119 240 [.ref 0, .int (x1), .int (x2)] [.ref 359, .int (x1), .int (x2)] h := by
  obtain ⟨⟨k, H⟩, L, L', n, S, a, e, w0, w, kp, sst, ⟨rfl, rfl⟩ | ⟨rfl, rfl⟩, R⟩ := H
  · exact la_jq H (pY_train x1 x2 H.1.1.1) (fun _ c => pN_train x1 x2 c) (hj_train_A R (by omega) (by omega) x1 x2) (fun _ ⟨st, r⟩ => la_R.mk (Or.inl ⟨rfl, rfl⟩) r (by omega))
  · exact la_jq H (pY_train x1 x2 H.1.1.1) (fun _ c => pN_train x1 x2 c) (hj_train_B R (by omega) (by omega) x1 x2) (fun _ ⟨st, r⟩ => la_R.mk (Or.inr ⟨rfl, rfl⟩) r (by omega))
theorem la_q_fits (x1 : Int32) {t : Nat} {h : J_H} (ht : t < 512) (H : la_I t h) : la_Q true (la_I (t + 1)) 120 242 [.ref 0, .int (x1)] [.ref 359, .int (x1)] h := by
  obtain ⟨⟨k, H⟩, L, L', n, S, a, e, w0, w, kp, sst, ⟨rfl, rfl⟩ | ⟨rfl, rfl⟩, R⟩ := H
  · exact la_jq H (pY_fits x1 H.1.1.1) (fun _ c => pN_fits x1 c) (hj_fits_A R (by omega) (by omega) x1) (fun _ ⟨st, r⟩ => la_R.mk (Or.inl ⟨rfl, rfl⟩) r (by omega))
  · exact la_jq H (pY_fits x1 H.1.1.1) (fun _ c => pN_fits x1 c) (hj_fits_B R (by omega) (by omega) x1) (fun _ ⟨st, r⟩ => la_R.mk (Or.inr ⟨rfl, rfl⟩) r (by omega))
theorem la_q_why (x1 : Int32) {t : Nat} {h : J_H} (ht : t < 512) (H : la_I t h) : la_Q true (la_I (t + 1)) 121 243 [.ref 0, .int (x1)] [.ref 359, .int (x1)] h := by
  obtain ⟨⟨k, H⟩, L, L', n, S, a, e, w0, w, kp, sst, ⟨rfl, rfl⟩ | ⟨rfl, rfl⟩, R⟩ := H
  · exact la_jq H (pY_why x1 H.1.1.1) (fun _ c => pN_why x1 c) (hj_why_A R (by omega) (by omega) x1) (fun _ ⟨st, r⟩ => la_R.mk (Or.inl ⟨rfl, rfl⟩) r (by omega))
  · exact la_jq H (pY_why x1 H.1.1.1) (fun _ c => pN_why x1 c) (hj_why_B R (by omega) (by omega) x1) (fun _ ⟨st, r⟩ => la_R.mk (Or.inr ⟨rfl, rfl⟩) r (by omega))
theorem la_q_through (x1 : Int32) {t : Nat} {h : J_H} (ht : t < 512) (H : la_I t h) : la_Q true (la_I (t + 1)) 122 248 [.ref 0, .int (x1)] [.ref 359, .int (x1)] h := by
  obtain ⟨⟨k, H⟩, L, L', n, S, a, e, w0, w, kp, sst, ⟨rfl, rfl⟩ | ⟨rfl, rfl⟩, R⟩ := H
  · exact la_jq H (pY_through x1 H.1.1.1) (fun _ c => pN_through x1 c) (hj_through_A R (by omega) (by omega) (la_e5 H.1.1.2).1 x1) (fun _ ⟨st, r⟩ => la_R.mk (Or.inl ⟨rfl, rfl⟩) r (by omega))
  · exact la_jq H (pY_through x1 H.1.1.1) (fun _ c => pN_through x1 c) (hj_through_B R (by omega) (by omega) (la_e5 H.1.1.2).1 x1) (fun _ ⟨st, r⟩ => la_R.mk (Or.inr ⟨rfl, rfl⟩) r (by omega))
theorem la_q_risks  {t : Nat} {h : J_H} (ht : t < 512) (H : la_I t h) : la_Q true (la_I (t + 1)) 123 249 [.ref 0] [.ref 359] h := by
  obtain ⟨⟨k, H⟩, L, L', n, S, a, e, w0, w, kp, sst, ⟨rfl, rfl⟩ | ⟨rfl, rfl⟩, R⟩ := H
  · exact la_jq H (pY_risks  H.1.1.1) (fun _ c => pN_risks  c) (hj_risks_A R (by omega) (by omega) ) (fun _ ⟨st, r⟩ => la_R.mk (Or.inl ⟨rfl, rfl⟩) r (by omega))
  · exact la_jq H (pY_risks  H.1.1.1) (fun _ c => pN_risks  c) (hj_risks_B R (by omega) (by omega) ) (fun _ ⟨st, r⟩ => la_R.mk (Or.inr ⟨rfl, rfl⟩) r (by omega))
theorem la_q_weak (x1 : Int32) {t : Nat} {h : J_H} (ht : t < 512) (H : la_I t h) : la_Q true (la_I (t + 1)) 124 250 [.ref 0, .int (x1)] [.ref 359, .int (x1)] h := by
  obtain ⟨⟨k, H⟩, L, L', n, S, a, e, w0, w, kp, sst, ⟨rfl, rfl⟩ | ⟨rfl, rfl⟩, R⟩ := H
  · exact la_jq H (pY_weak x1 H.1.1.1) (fun _ c => pN_weak x1 c) (hj_weak_A R (by omega) (by omega) x1) (fun _ ⟨st, r⟩ => la_R.mk (Or.inl ⟨rfl, rfl⟩) r (by omega))
  · exact la_jq H (pY_weak x1 H.1.1.1) (fun _ c => pN_weak x1 c) (hj_weak_B R (by omega) (by omega) x1) (fun _ ⟨st, r⟩ => la_R.mk (Or.inr ⟨rfl, rfl⟩) r (by omega))
theorem la_q_links (x1 : Int32) (x2 : Int32) {t : Nat} {h : J_H} (ht : t < 512) (H : la_I t h) : la_Q true (la_I (t + 1)) 125 251 [.ref 0, .int (x1), .int (x2)] [.ref 359, .int (x1), .int (x2)] h := by
  obtain ⟨⟨k, H⟩, L, L', n, S, a, e, w0, w, kp, sst, ⟨rfl, rfl⟩ | ⟨rfl, rfl⟩, R⟩ := H
  · exact la_jq H (pY_links x1 x2 H.1.1.1) (fun _ c => pN_links x1 x2 c) (hj_links_A R (by omega) (by omega) x1 x2) (fun _ ⟨st, r⟩ => la_R.mk (Or.inl ⟨rfl, rfl⟩) r (by omega))
  · exact la_jq H (pY_links x1 x2 H.1.1.1) (fun _ c => pN_links x1 x2 c) (hj_links_B R (by omega) (by omega) x1 x2) (fun _ ⟨st, r⟩ => la_R.mk (Or.inr ⟨rfl, rfl⟩) r (by omega))
theorem la_q_blocks (x1 : Int32) {t : Nat} {h : J_H} (ht : t < 512) (H : la_I t h) : la_Q true (la_I (t + 1)) 126 245 [.ref 0, .int (x1)] [.ref 359, .int (x1)] h := by
  obtain ⟨⟨k, H⟩, L, L', n, S, a, e, w0, w, kp, sst, ⟨rfl, rfl⟩ | ⟨rfl, rfl⟩, R⟩ := H
  · exact la_jq H (pY_blocks x1 H.1.1.1) (fun _ c => pN_blocks x1 c) (hj_blocks_A R (by omega) (by omega) x1) (fun _ ⟨st, r⟩ => la_R.mk (Or.inl ⟨rfl, rfl⟩) r (by omega))
  · exact la_jq H (pY_blocks x1 H.1.1.1) (fun _ c => pN_blocks x1 c) (hj_blocks_B R (by omega) (by omega) x1) (fun _ ⟨st, r⟩ => la_R.mk (Or.inr ⟨rfl, rfl⟩) r (by omega))
theorem la_q_ring  {t : Nat} {h : J_H} (ht : t < 512) (H : la_I t h) : la_Q true (la_I (t + 1)) 127 246 [.ref 0] [.ref 359] h := by
  obtain ⟨⟨k, H⟩, L, L', n, S, a, e, w0, w, kp, sst, ⟨rfl, rfl⟩ | ⟨rfl, rfl⟩, R⟩ := H
  · exact la_jq H (pY_ring  H.1.1.1) (fun _ c => pN_ring  c) (hj_ring_A R (by omega) (by omega) ) (fun _ ⟨st, r⟩ => la_R.mk (Or.inl ⟨rfl, rfl⟩) r (by omega))
  · exact la_jq H (pY_ring  H.1.1.1) (fun _ c => pN_ring  c) (hj_ring_B R (by omega) (by omega) ) (fun _ ⟨st, r⟩ => la_R.mk (Or.inr ⟨rfl, rfl⟩) r (by omega))
theorem la_q_section (x1 : Int32) {t : Nat} {h : J_H} (ht : t < 512) (H : la_I t h) : la_Q true (la_I (t + 1)) 128 247 [.ref 0, .int (x1)] [.ref 359, .int (x1)] h := by
  obtain ⟨⟨k, H⟩, L, L', n, S, a, e, w0, w, kp, sst, ⟨rfl, rfl⟩ | ⟨rfl, rfl⟩, R⟩ := H
  · exact la_jq H (pY_section x1 H.1.1.1) (fun _ c => pN_section x1 c) (hj_section_A R (by omega) (by omega) x1) (fun _ ⟨st, r⟩ => la_R.mk (Or.inl ⟨rfl, rfl⟩) r (by omega))
  · exact la_jq H (pY_section x1 H.1.1.1) (fun _ c => pN_section x1 c) (hj_section_B R (by omega) (by omega) x1) (fun _ ⟨st, r⟩ => la_R.mk (Or.inr ⟨rfl, rfl⟩) r (by omega))
theorem la_q_time (x1 : Int32) (x2 : Int32) (x3 : Bool) {t : Nat} {h : J_H} (ht : t < 512) (H : la_I t h) : la_Q true (la_I (t + 1)) 129 252 [.ref 0, .int (x1), .int (x2), .int (i_b x3)] [.ref 359, .int (x1), .int (x2), .int (i_b x3)] h := by
  obtain ⟨⟨k, H⟩, L, L', n, S, a, e, w0, w, kp, sst, ⟨rfl, rfl⟩ | ⟨rfl, rfl⟩, R⟩ := H
  · exact la_jq H (pY_time x1 x2 x3 H.1.1.1) (fun _ c => pN_time x1 x2 x3 c) (hj_time_A R (by omega) (by omega) x1 x2 (i_b x3)) (fun _ ⟨st, r⟩ => la_R.mk (Or.inl ⟨rfl, rfl⟩) r (by omega))
  · exact la_jq H (pY_time x1 x2 x3 H.1.1.1) (fun _ c => pN_time x1 x2 x3 c) (hj_time_B R (by omega) (by omega) x1 x2 (i_b x3)) (fun _ ⟨st, r⟩ => la_R.mk (Or.inr ⟨rfl, rfl⟩) r (by omega))
theorem la_q_together (x1 : Int32) (x2 : Int32) (x3 : Bool) {t : Nat} {h : J_H} (ht : t < 512) (H : la_I t h) : la_Q true (la_I (t + 1)) 130 253 [.ref 0, .int (x1), .int (x2), .int (i_b x3)] [.ref 359, .int (x1), .int (x2), .int (i_b x3)] h := by
  obtain ⟨⟨k, H⟩, L, L', n, S, a, e, w0, w, kp, sst, ⟨rfl, rfl⟩ | ⟨rfl, rfl⟩, R⟩ := H
  · exact la_jq H (pY_together x1 x2 x3 H.1.1.1) (fun _ c => pN_together x1 x2 x3 c) (hj_together_A R (by omega) (by omega) x1 x2 (i_b x3)) (fun _ ⟨st, r⟩ => la_R.mk (Or.inl ⟨rfl, rfl⟩) r (by omega))
  · exact la_jq H (pY_together x1 x2 x3 H.1.1.1) (fun _ c => pN_together x1 x2 x3 c) (hj_together_B R (by omega) (by omega) x1 x2 (i_b x3)) (fun _ ⟨st, r⟩ => la_R.mk (Or.inr ⟨rfl, rfl⟩) r (by omega))
theorem la_q_passes (x1 : Int32) (x2 : Int32) {t : Nat} {h : J_H} (ht : t < 512) (H : la_I t h) : la_Q true (la_I (t + 1)) 131 254 [.ref 0, .int (x1), .int (x2)] [.ref 359, .int (x1), .int (x2)] h := by
  obtain ⟨⟨k, H⟩, L, L', n, S, a, e, w0, w, kp, sst, ⟨rfl, rfl⟩ | ⟨rfl, rfl⟩, R⟩ := H
  · exact la_jq H (pY_passes x1 x2 H.1.1.1) (fun _ c => pN_passes x1 x2 c) (hj_passes_A R (by omega) (by omega) x1 x2) (fun _ ⟨st, r⟩ => la_R.mk (Or.inl ⟨rfl, rfl⟩) r (by omega))
  · exact la_jq H (pY_passes x1 x2 H.1.1.1) (fun _ c => pN_passes x1 x2 c) (hj_passes_B R (by omega) (by omega) x1 x2) (fun _ ⟨st, r⟩ => la_R.mk (Or.inr ⟨rfl, rfl⟩) r (by omega))
theorem la_q_stood (x1 : Int32) {t : Nat} {h : J_H} (ht : t < 512) (H : la_I t h) : la_Q true (la_I (t + 1)) 132 255 [.ref 0, .int (x1)] [.ref 359, .int (x1)] h := by
  obtain ⟨⟨k, H⟩, L, L', n, S, a, e, w0, w, kp, sst, ⟨rfl, rfl⟩ | ⟨rfl, rfl⟩, R⟩ := H
  · exact la_jq H (pY_stood x1 H.1.1.1) (fun _ c => pN_stood x1 c) (hj_stood_A R (by omega) (by omega) x1) (fun _ ⟨st, r⟩ => la_R.mk (Or.inl ⟨rfl, rfl⟩) r (by omega))
  · exact la_jq H (pY_stood x1 H.1.1.1) (fun _ c => pN_stood x1 c) (hj_stood_B R (by omega) (by omega) x1) (fun _ ⟨st, r⟩ => la_R.mk (Or.inr ⟨rfl, rfl⟩) r (by omega))
theorem la_q_late (x1 : Int32) (x2 : Int32) {t : Nat} {h : J_H} (ht : t < 512) (H : la_I t h) : la_Q true (la_I (t + 1)) 133 256 [.ref 0, .int (x1), .int (x2)] [.ref 359, .int (x1), .int (x2)] h := by
  obtain ⟨⟨k, H⟩, L, L', n, S, a, e, w0, w, kp, sst, ⟨rfl, rfl⟩ | ⟨rfl, rfl⟩, R⟩ := H
  · exact la_jq H (pY_late x1 x2 H.1.1.1) (fun _ c => pN_late x1 x2 c) (hj_late_A R (by omega) (by omega) x1 x2) (fun _ ⟨st, r⟩ => la_R.mk (Or.inl ⟨rfl, rfl⟩) r (by omega))
  · exact la_jq H (pY_late x1 x2 H.1.1.1) (fun _ c => pN_late x1 x2 c) (hj_late_B R (by omega) (by omega) x1 x2) (fun _ ⟨st, r⟩ => la_R.mk (Or.inr ⟨rfl, rfl⟩) r (by omega))
theorem la_q_event (x1 : Int32) (x2 : Int32) {t : Nat} {h : J_H} (ht : t < 512) (H : la_I t h) : la_Q true (la_I (t + 1)) 134 257 [.ref 0, .int (x1), .int (x2)] [.ref 359, .int (x1), .int (x2)] h := by
  obtain ⟨⟨k, H⟩, L, L', n, S, a, e, w0, w, kp, sst, ⟨rfl, rfl⟩ | ⟨rfl, rfl⟩, R⟩ := H
  · exact la_jq H (pY_event x1 x2 H.1.1.1) (fun _ c => pN_event x1 x2 c) (hj_event_A R (by omega) (by omega) x1 x2) (fun _ ⟨st, r⟩ => la_R.mk (Or.inl ⟨rfl, rfl⟩) r (by omega))
  · exact la_jq H (pY_event x1 x2 H.1.1.1) (fun _ c => pN_event x1 x2 c) (hj_event_B R (by omega) (by omega) x1 x2) (fun _ ⟨st, r⟩ => la_R.mk (Or.inr ⟨rfl, rfl⟩) r (by omega))
theorem la_q_use (x1 : Int32) {t : Nat} {h : J_H} (ht : t < 512) (H : la_I t h) : la_Q true (la_I (t + 1)) 135 258 [.ref 0, .int (x1)] [.ref 359, .int (x1)] h := by
  obtain ⟨⟨k, H⟩, L, L', n, S, a, e, w0, w, kp, sst, ⟨rfl, rfl⟩ | ⟨rfl, rfl⟩, R⟩ := H
  · exact la_jq H (pY_use x1 H.1.1.1) (fun _ c => pN_use x1 c) (hj_use_A R (by omega) (by omega) x1) (fun _ ⟨st, r⟩ => la_R.mk (Or.inl ⟨rfl, rfl⟩) r (by omega))
  · exact la_jq H (pY_use x1 H.1.1.1) (fun _ c => pN_use x1 c) (hj_use_B R (by omega) (by omega) x1) (fun _ ⟨st, r⟩ => la_R.mk (Or.inr ⟨rfl, rfl⟩) r (by omega))
theorem la_q_gone (x1 : Int32) (x2 : Int32) {t : Nat} {h : J_H} (ht : t < 512) (H : la_I t h) : la_Q true (la_I (t + 1)) 136 259 [.ref 0, .int (x1), .int (x2)] [.ref 359, .int (x1), .int (x2)] h := by
  obtain ⟨⟨k, H⟩, L, L', n, S, a, e, w0, w, kp, sst, ⟨rfl, rfl⟩ | ⟨rfl, rfl⟩, R⟩ := H
  · exact la_jq H (pY_gone x1 x2 H.1.1.1) (fun _ c => pN_gone x1 x2 c) (hj_gone_A R (by omega) (by omega) x1 x2) (fun _ ⟨st, r⟩ => la_R.mk (Or.inl ⟨rfl, rfl⟩) r (by omega))
  · exact la_jq H (pY_gone x1 x2 H.1.1.1) (fun _ c => pN_gone x1 x2 c) (hj_gone_B R (by omega) (by omega) x1 x2) (fun _ ⟨st, r⟩ => la_R.mk (Or.inr ⟨rfl, rfl⟩) r (by omega))
theorem la_q_waits (x1 : Int32) {t : Nat} {h : J_H} (ht : t < 512) (H : la_I t h) : la_Q true (la_I (t + 1)) 137 260 [.ref 0, .int (x1)] [.ref 359, .int (x1)] h := by
  obtain ⟨⟨k, H⟩, L, L', n, S, a, e, w0, w, kp, sst, ⟨rfl, rfl⟩ | ⟨rfl, rfl⟩, R⟩ := H
  · exact la_jq H (pY_waits x1 H.1.1.1) (fun _ c => pN_waits x1 c) (hj_waits_A R (by omega) (by omega) x1) (fun _ ⟨st, r⟩ => la_R.mk (Or.inl ⟨rfl, rfl⟩) r (by omega))
  · exact la_jq H (pY_waits x1 H.1.1.1) (fun _ c => pN_waits x1 c) (hj_waits_B R (by omega) (by omega) x1) (fun _ ⟨st, r⟩ => la_R.mk (Or.inr ⟨rfl, rfl⟩) r (by omega))
theorem la_q_ahead (x1 : Int32) (x2 : Bool) (x3 : Int32) {t : Nat} {h : J_H} (ht : t < 512) (H : la_I t h) : la_Q true (la_I (t + 1)) 138 262 [.ref 0, .int (x1), .int (i_b x2), .int (x3)] [.ref 359, .int (x1), .int (i_b x2), .int (x3)] h := by
  obtain ⟨⟨k, H⟩, L, L', n, S, a, e, w0, w, kp, sst, ⟨rfl, rfl⟩ | ⟨rfl, rfl⟩, R⟩ := H
  · exact la_jq H (pY_ahead x1 x2 x3 H.1.1.1) (fun _ c => pN_ahead x1 x2 x3 c) (hj_ahead_A R (by omega) (by omega) (la_sx H.1.1.1).1 (la_sx H.1.1.1).2.1 x1 (i_b x2) x3) (fun _ ⟨st, r⟩ => la_R.mk (Or.inl ⟨rfl, rfl⟩) r (by omega))
  · exact la_jq H (pY_ahead x1 x2 x3 H.1.1.1) (fun _ c => pN_ahead x1 x2 x3 c) (hj_ahead_B R (by omega) (by omega) (la_sx H.1.1.1).1 (la_sx H.1.1.1).2.1 x1 (i_b x2) x3) (fun _ ⟨st, r⟩ => la_R.mk (Or.inr ⟨rfl, rfl⟩) r (by omega))
theorem la_q_ends (x1 : Bool) (x2 : Int32) {t : Nat} {h : J_H} (ht : t < 512) (H : la_I t h) : la_Q true (la_I (t + 1)) 139 264 [.ref 0, .int (i_b x1), .int (x2)] [.ref 359, .int (i_b x1), .int (x2)] h := by
  obtain ⟨⟨k, H⟩, L, L', n, S, a, e, w0, w, kp, sst, ⟨rfl, rfl⟩ | ⟨rfl, rfl⟩, R⟩ := H
  · exact la_jq H (pY_ends x1 x2 H.1.1.1) (fun _ c => pN_ends x1 x2 c) (hj_ends_A R (by omega) (by omega) (la_sx H.1.1.1).1 (la_sx H.1.1.1).2.1 (i_b x1) x2) (fun _ ⟨st, r⟩ => la_R.mk (Or.inl ⟨rfl, rfl⟩) r (by omega))
  · exact la_jq H (pY_ends x1 x2 H.1.1.1) (fun _ c => pN_ends x1 x2 c) (hj_ends_B R (by omega) (by omega) (la_sx H.1.1.1).1 (la_sx H.1.1.1).2.1 (i_b x1) x2) (fun _ ⟨st, r⟩ => la_R.mk (Or.inr ⟨rfl, rfl⟩) r (by omega))
theorem la_q_when (x1 : Int32) {t : Nat} {h : J_H} (ht : t < 512) (H : la_I t h) : la_Q true (la_I (t + 1)) 140 265 [.ref 0, .int (x1)] [.ref 359, .int (x1)] h := by
  obtain ⟨⟨k, H⟩, L, L', n, S, a, e, w0, w, kp, sst, ⟨rfl, rfl⟩ | ⟨rfl, rfl⟩, R⟩ := H
  · exact la_jq H (pY_when x1 H.1.1.1) (fun _ c => pN_when x1 c) (hj_when_A R (by omega) (by omega) (la_sx H.1.1.1).1 (la_sx H.1.1.1).2.1 x1) (fun _ ⟨st, r⟩ => la_R.mk (Or.inl ⟨rfl, rfl⟩) r (by omega))
  · exact la_jq H (pY_when x1 H.1.1.1) (fun _ c => pN_when x1 c) (hj_when_B R (by omega) (by omega) (la_sx H.1.1.1).1 (la_sx H.1.1.1).2.1 x1) (fun _ ⟨st, r⟩ => la_R.mk (Or.inr ⟨rfl, rfl⟩) r (by omega))
theorem la_q_plan (x1 : Int32) {t : Nat} {h : J_H} (ht : t < 512) (H : la_I t h) : la_Q true (la_I (t + 1)) 141 268 [.ref 0, .int (x1)] [.ref 359, .int (x1)] h := by
  obtain ⟨⟨k, H⟩, L, L', n, S, a, e, w0, w, kp, sst, ⟨rfl, rfl⟩ | ⟨rfl, rfl⟩, R⟩ := H
  · exact la_jq H (pY_plan x1 H.1.1.1) (fun _ c => pN_plan x1 c) (hj_plan_A R (by omega) (by omega) (la_sx H.1.1.1).1 (la_sx H.1.1.1).2.1 (la_e5 H.1.1.2).2.1 (la_e5 H.1.1.2).2.2 (la_sx H.1.1.1).2.2.2.1 (la_sx H.1.1.1).2.2.2.2 x1) (fun _ ⟨st, r⟩ => la_R.mk (Or.inl ⟨rfl, rfl⟩) r (by omega))
  · exact la_jq H (pY_plan x1 H.1.1.1) (fun _ c => pN_plan x1 c) (hj_plan_B R (by omega) (by omega) (la_sx H.1.1.1).1 (la_sx H.1.1.1).2.1 (la_e5 H.1.1.2).2.1 (la_e5 H.1.1.2).2.2 (la_sx H.1.1.1).2.2.2.1 (la_sx H.1.1.1).2.2.2.2 x1) (fun _ ⟨st, r⟩ => la_R.mk (Or.inr ⟨rfl, rfl⟩) r (by omega))
theorem la_q_cost (x1 : Int32) (x2 : Int32) {t : Nat} {h : J_H} (ht : t < 512) (H : la_I t h) : la_Q true (la_I (t + 1)) 142 271 [.ref 0, .int (x1), .int (x2)] [.ref 359, .int (x1), .int (x2)] h := by
  obtain ⟨⟨k, H⟩, L, L', n, S, a, e, w0, w, kp, sst, ⟨rfl, rfl⟩ | ⟨rfl, rfl⟩, R⟩ := H
  · exact la_jq H (pY_cost x1 x2 H.1.1.1) (fun _ c => pN_cost x1 x2 c) (hj_cost_A R (by omega) (by omega) (la_sx H.1.1.1).1 (la_sx H.1.1.1).2.1 x1 x2) (fun _ ⟨st, r⟩ => la_R.mk (Or.inl ⟨rfl, rfl⟩) r (by omega))
  · exact la_jq H (pY_cost x1 x2 H.1.1.1) (fun _ c => pN_cost x1 x2 c) (hj_cost_B R (by omega) (by omega) (la_sx H.1.1.1).1 (la_sx H.1.1.1).2.1 x1 x2) (fun _ ⟨st, r⟩ => la_R.mk (Or.inr ⟨rfl, rfl⟩) r (by omega))
theorem la_q_slack (x1 : Int32) {t : Nat} {h : J_H} (ht : t < 512) (H : la_I t h) : la_Q false (la_I (t + 1)) 143 272 [.ref 0, .int (x1)] [.ref 359, .int (x1)] h := by
  obtain ⟨⟨k, H⟩, L, L', n, S, a, e, w0, w, kp, sst, ⟨rfl, rfl⟩ | ⟨rfl, rfl⟩, R⟩ := H
  · exact la_jf H (pY_slack x1 H.1.1.1) (fun _ c => pN_slack x1 c) (hj_slack_A R (by omega) (by omega) (la_sx H.1.1.1).1 (la_sx H.1.1.1).2.1 x1) (fun _ ⟨st, r⟩ => la_R.mk (Or.inl ⟨rfl, rfl⟩) r (by omega))
  · exact la_jf H (pY_slack x1 H.1.1.1) (fun _ c => pN_slack x1 c) (hj_slack_B R (by omega) (by omega) (la_sx H.1.1.1).1 (la_sx H.1.1.1).2.1 x1) (fun _ ⟨st, r⟩ => la_R.mk (Or.inr ⟨rfl, rfl⟩) r (by omega))
theorem la_q_band (x1 : Int32) (x2 : Bool) {t : Nat} {h : J_H} (ht : t < 512) (H : la_I t h) : la_Q true (la_I (t + 1)) 144 277 [.ref 0, .int (x1), .int (i_b x2)] [.ref 359, .int (x1), .int (i_b x2)] h := by
  obtain ⟨⟨k, H⟩, L, L', n, S, a, e, w0, w, kp, sst, ⟨rfl, rfl⟩ | ⟨rfl, rfl⟩, R⟩ := H
  · exact la_jq H (pY_band x1 x2 H.1.1.1) (fun _ c => pN_band x1 x2 c) (hj_band_A R (by omega) (by omega) (la_sx H.1.1.1).1 (la_sx H.1.1.1).2.1 x1 (i_b x2)) (fun _ ⟨st, r⟩ => la_R.mk (Or.inl ⟨rfl, rfl⟩) r (by omega))
  · exact la_jq H (pY_band x1 x2 H.1.1.1) (fun _ c => pN_band x1 x2 c) (hj_band_B R (by omega) (by omega) (la_sx H.1.1.1).1 (la_sx H.1.1.1).2.1 x1 (i_b x2)) (fun _ ⟨st, r⟩ => la_R.mk (Or.inr ⟨rfl, rfl⟩) r (by omega))
theorem la_q_swap (x1 : Int32) (x2 : Int32) {t : Nat} {h : J_H} (ht : t < 512) (H : la_I t h) : la_Q true (la_I (t + 1)) 145 273 [.ref 0, .int (x1), .int (x2)] [.ref 359, .int (x1), .int (x2)] h := by
  obtain ⟨⟨k, H⟩, L, L', n, S, a, e, w0, w, kp, sst, ⟨rfl, rfl⟩ | ⟨rfl, rfl⟩, R⟩ := H
  · exact la_jq H (pY_swap x1 x2 H.1.1.1) (fun _ c => pN_swap x1 x2 c) (hj_swap_A R (by omega) (by omega) (la_sx H.1.1.1).1 (la_sx H.1.1.1).2.1 x1 x2) (fun _ ⟨st, r⟩ => la_R.mk (Or.inl ⟨rfl, rfl⟩) r (by omega))
  · exact la_jq H (pY_swap x1 x2 H.1.1.1) (fun _ c => pN_swap x1 x2 c) (hj_swap_B R (by omega) (by omega) (la_sx H.1.1.1).1 (la_sx H.1.1.1).2.1 x1 x2) (fun _ ⟨st, r⟩ => la_R.mk (Or.inr ⟨rfl, rfl⟩) r (by omega))
theorem la_q_burden (x1 : Bool) {t : Nat} {h : J_H} (ht : t < 512) (H : la_I t h) : la_Q false (la_I (t + 1)) 146 276 [.ref 0, .int (i_b x1)] [.ref 359, .int (i_b x1)] h := by
  obtain ⟨⟨k, H⟩, L, L', n, S, a, e, w0, w, kp, sst, ⟨rfl, rfl⟩ | ⟨rfl, rfl⟩, R⟩ := H
  · exact la_jf H (pY_burden x1 H.1.1.1) (fun _ c => pN_burden x1 c) (hj_burden_A R (by omega) (by omega) (la_sx H.1.1.1).1 (la_sx H.1.1.1).2.1 (i_b x1)) (fun _ ⟨st, r⟩ => la_R.mk (Or.inl ⟨rfl, rfl⟩) r (by omega))
  · exact la_jf H (pY_burden x1 H.1.1.1) (fun _ c => pN_burden x1 c) (hj_burden_B R (by omega) (by omega) (la_sx H.1.1.1).1 (la_sx H.1.1.1).2.1 (i_b x1)) (fun _ ⟨st, r⟩ => la_R.mk (Or.inr ⟨rfl, rfl⟩) r (by omega))
theorem la_q_loop (x1 : Int32) (x2 : Int32) {t : Nat} {h : J_H} (ht : t < 512) (H : la_I t h) : la_Q true (la_I (t + 1)) 147 279 [.ref 0, .int (x1), .int (x2)] [.ref 359, .int (x1), .int (x2)] h := by
  obtain ⟨⟨k, H⟩, L, L', n, S, a, e, w0, w, kp, sst, ⟨rfl, rfl⟩ | ⟨rfl, rfl⟩, R⟩ := H
  · exact la_jq H (pY_loop x1 x2 H.1.1.1) (fun _ c => pN_loop x1 x2 c) (hj_loop_A R (by omega) (by omega) (la_sx H.1.1.1).1 (la_sx H.1.1.1).2.1 (la_sx H.1.1.1).2.2.1 x1 x2) (fun _ ⟨st, r⟩ => la_R.mk (Or.inl ⟨rfl, rfl⟩) r (by omega))
  · exact la_jq H (pY_loop x1 x2 H.1.1.1) (fun _ c => pN_loop x1 x2 c) (hj_loop_B R (by omega) (by omega) (la_sx H.1.1.1).1 (la_sx H.1.1.1).2.1 (la_sx H.1.1.1).2.2.1 x1 x2) (fun _ ⟨st, r⟩ => la_R.mk (Or.inr ⟨rfl, rfl⟩) r (by omega))
theorem la_q_build  {t : Nat} {h : J_H} (ht : t < 512) (H : la_I t h) : la_Q true (la_I (t + 1)) 148 280 [.ref 0] [.ref 359] h := by
  obtain ⟨⟨k, H⟩, L, L', n, S, a, e, w0, w, kp, sst, ⟨rfl, rfl⟩ | ⟨rfl, rfl⟩, R⟩ := H
  · exact la_jq H (pY_build  H.1.1.1) (fun _ c => pN_build  c) (hj_build_A R (by omega) (by omega) (la_sx H.1.1.1).1 (la_sx H.1.1.1).2.1 (la_sx H.1.1.1).2.2.1) (fun _ ⟨st, r⟩ => la_R.mk (Or.inl ⟨rfl, rfl⟩) r (by omega))
  · exact la_jq H (pY_build  H.1.1.1) (fun _ c => pN_build  c) (hj_build_B R (by omega) (by omega) (la_sx H.1.1.1).1 (la_sx H.1.1.1).2.1 (la_sx H.1.1.1).2.2.1) (fun _ ⟨st, r⟩ => la_R.mk (Or.inr ⟨rfl, rfl⟩) r (by omega))
theorem la_q_go (x1 : Int32) (x2 : Bool) {t : Nat} {h : J_H} (ht : t < 512) (H : la_I t h) : la_Q true (la_I (t + 1)) 149 283 [.ref 0, .int (x1), .int (i_b x2)] [.ref 359, .int (x1), .int (i_b x2)] h := by
  obtain ⟨⟨k, H⟩, L, L', n, S, a, e, w0, w, kp, sst, ⟨rfl, rfl⟩ | ⟨rfl, rfl⟩, R⟩ := H
  · exact la_jq H (pY_go x1 x2 H.1.1.1) (fun _ c => pN_go x1 x2 c) (hj_go_A R (by omega) (by omega) x1 (i_b x2)) (fun _ ⟨a', e', w', kp', st, r⟩ => la_R.mk (Or.inl ⟨rfl, rfl⟩) r (by omega))
  · exact la_jq H (pY_go x1 x2 H.1.1.1) (fun _ c => pN_go x1 x2 c) (hj_go_B R (by omega) (by omega) x1 (i_b x2)) (fun _ ⟨a', e', w', kp', st, r⟩ => la_R.mk (Or.inr ⟨rfl, rfl⟩) r (by omega))
theorem la_q_hold (x1 : Int32) (x2 : Int32) {t : Nat} {h : J_H} (ht : t < 512) (H : la_I t h) : la_Q true (la_I (t + 1)) 150 284 [.ref 0, .int (x1), .int (x2)] [.ref 359, .int (x1), .int (x2)] h := by
  obtain ⟨⟨k, H⟩, L, L', n, S, a, e, w0, w, kp, sst, ⟨rfl, rfl⟩ | ⟨rfl, rfl⟩, R⟩ := H
  · exact la_jq H (pY_hold x1 x2 H.1.1.1) (fun _ c => pN_hold x1 x2 c) (hj_hold_A R (by omega) (by omega) x1 x2) (fun _ ⟨a', e', w', kp', st, r⟩ => la_R.mk (Or.inl ⟨rfl, rfl⟩) r (by omega))
  · exact la_jq H (pY_hold x1 x2 H.1.1.1) (fun _ c => pN_hold x1 x2 c) (hj_hold_B R (by omega) (by omega) x1 x2) (fun _ ⟨a', e', w', kp', st, r⟩ => la_R.mk (Or.inr ⟨rfl, rfl⟩) r (by omega))
theorem la_q_shut (x1 : Int32) (x2 : Int32) (x3 : Bool) {t : Nat} {h : J_H} (ht : t < 512) (H : la_I t h) : la_Q true (la_I (t + 1)) 151 285 [.ref 0, .int (x1), .int (x2), .int (i_b x3)] [.ref 359, .int (x1), .int (x2), .int (i_b x3)] h := by
  obtain ⟨⟨k, H⟩, L, L', n, S, a, e, w0, w, kp, sst, ⟨rfl, rfl⟩ | ⟨rfl, rfl⟩, R⟩ := H
  · exact la_jq H (pY_shut x1 x2 x3 H.1.1.1) (fun _ c => pN_shut x1 x2 x3 c) (hj_shut_A R (by omega) (by omega) x1 x2 (i_b x3) (la_b01 x3)) (fun _ ⟨a', e', w', kp', st, r⟩ => la_R.mk (Or.inl ⟨rfl, rfl⟩) r (by omega))
  · exact la_jq H (pY_shut x1 x2 x3 H.1.1.1) (fun _ c => pN_shut x1 x2 x3 c) (hj_shut_B R (by omega) (by omega) x1 x2 (i_b x3) (la_b01 x3)) (fun _ ⟨a', e', w', kp', st, r⟩ => la_R.mk (Or.inr ⟨rfl, rfl⟩) r (by omega))
theorem la_q_rank (x1 : Int32) {t : Nat} {h : J_H} (ht : t < 512) (H : la_I t h) : la_Q true (la_I (t + 1)) 152 286 [.ref 0, .int (x1)] [.ref 359, .int (x1)] h := by
  obtain ⟨⟨k, H⟩, L, L', n, S, a, e, w0, w, kp, sst, ⟨rfl, rfl⟩ | ⟨rfl, rfl⟩, R⟩ := H
  · exact la_jq H (pY_rank x1 H.1.1.1) (fun _ c => pN_rank x1 c) (hj_rank_A R (by omega) (by omega) (la_sx H.1.1.1).2.1 (la_sx H.1.1.1).2.2.2.2 (la_e5 H.1.1.2).2.1 x1) (fun _ ⟨a', e', w', kp', st, r⟩ => la_R.mk (Or.inl ⟨rfl, rfl⟩) r (by omega))
  · exact la_jq H (pY_rank x1 H.1.1.1) (fun _ c => pN_rank x1 c) (hj_rank_B R (by omega) (by omega) (la_sx H.1.1.1).2.1 (la_sx H.1.1.1).2.2.2.2 (la_e5 H.1.1.2).2.1 x1) (fun _ ⟨a', e', w', kp', st, r⟩ => la_R.mk (Or.inr ⟨rfl, rfl⟩) r (by omega))
theorem la_q_start (x1 : Int32) (x2 : Int32) {t : Nat} {h : J_H} (ht : t < 512) (H : la_I t h) : la_Q true (la_I (t + 1)) 153 287 [.ref 0, .int (x1), .int (x2)] [.ref 359, .int (x1), .int (x2)] h := by
  obtain ⟨⟨k, H⟩, L, L', n, S, a, e, w0, w, kp, sst, ⟨rfl, rfl⟩ | ⟨rfl, rfl⟩, R⟩ := H
  · exact la_jq H (pY_start x1 x2 H.1.1.1) (fun _ c => pN_start x1 x2 c) (hj_start_A R (by omega) (by omega) x1 x2) (fun _ ⟨a', e', w', kp', st, r⟩ => la_R.mk (Or.inl ⟨rfl, rfl⟩) r (by omega))
  · exact la_jq H (pY_start x1 x2 H.1.1.1) (fun _ c => pN_start x1 x2 c) (hj_start_B R (by omega) (by omega) x1 x2) (fun _ ⟨a', e', w', kp', st, r⟩ => la_R.mk (Or.inr ⟨rfl, rfl⟩) r (by omega))
theorem la_q_stall (x1 : Int32) (x2 : Int32) {t : Nat} {h : J_H} (ht : t < 512) (H : la_I t h) : la_Q true (la_I (t + 1)) 154 288 [.ref 0, .int (x1), .int (x2)] [.ref 359, .int (x1), .int (x2)] h := by
  obtain ⟨⟨k, H⟩, L, L', n, S, a, e, w0, w, kp, sst, ⟨rfl, rfl⟩ | ⟨rfl, rfl⟩, R⟩ := H
  · exact la_jq H (pY_stall x1 x2 H.1.1.1) (fun _ c => pN_stall x1 x2 c) (hj_stall_A R (by omega) (by omega) x1 x2) (fun _ ⟨a', e', w', kp', st, r⟩ => la_R.mk (Or.inl ⟨rfl, rfl⟩) r (by omega))
  · exact la_jq H (pY_stall x1 x2 H.1.1.1) (fun _ c => pN_stall x1 x2 c) (hj_stall_B R (by omega) (by omega) x1 x2) (fun _ ⟨a', e', w', kp', st, r⟩ => la_R.mk (Or.inr ⟨rfl, rfl⟩) r (by omega))
theorem la_q_link (x1 : Int32) (x2 : Int32) (x3 : Int32) {t : Nat} {h : J_H} (ht : t < 512) (H : la_I t h) : la_Q true (la_I (t + 1)) 155 289 [.ref 0, .int (x1), .int (x2), .int (x3)] [.ref 359, .int (x1), .int (x2), .int (x3)] h := by
  obtain ⟨⟨k, H⟩, L, L', n, S, a, e, w0, w, kp, sst, ⟨rfl, rfl⟩ | ⟨rfl, rfl⟩, R⟩ := H
  · exact la_jq H (pY_link x1 x2 x3 H.1.1.1) (fun _ c => pN_link x1 x2 x3 c) (hj_link_A R (by omega) (by omega) x1 x2 x3) (fun _ ⟨a', e', w', kp', st, r⟩ => la_R.mk (Or.inl ⟨rfl, rfl⟩) r (by omega))
  · exact la_jq H (pY_link x1 x2 x3 H.1.1.1) (fun _ c => pN_link x1 x2 x3 c) (hj_link_B R (by omega) (by omega) x1 x2 x3) (fun _ ⟨a', e', w', kp', st, r⟩ => la_R.mk (Or.inr ⟨rfl, rfl⟩) r (by omega))
theorem la_q_cut (x1 : Int32) {t : Nat} {h : J_H} (ht : t < 512) (H : la_I t h) : la_Q true (la_I (t + 1)) 156 290 [.ref 0, .int (x1)] [.ref 359, .int (x1)] h := by
  obtain ⟨⟨k, H⟩, L, L', n, S, a, e, w0, w, kp, sst, ⟨rfl, rfl⟩ | ⟨rfl, rfl⟩, R⟩ := H
  · exact la_jq H (pY_cut x1 H.1.1.1) (fun _ c => pN_cut x1 c) (hj_cut_A R (by omega) (by omega) x1) (fun _ ⟨a', e', w', kp', st, r⟩ => la_R.mk (Or.inl ⟨rfl, rfl⟩) r (by omega))
  · exact la_jq H (pY_cut x1 H.1.1.1) (fun _ c => pN_cut x1 c) (hj_cut_B R (by omega) (by omega) x1) (fun _ ⟨a', e', w', kp', st, r⟩ => la_R.mk (Or.inr ⟨rfl, rfl⟩) r (by omega))
theorem la_q_undo  {t : Nat} {h : J_H} (ht : t < 512) (H : la_I t h) : la_Q true (la_I (t + 1)) 157 282 [.ref 0] [.ref 359] h := by
  obtain ⟨⟨k, H⟩, L, L', n, S, a, e, w0, w, kp, sst, ⟨rfl, rfl⟩ | ⟨rfl, rfl⟩, R⟩ := H
  · exact la_jq H (pY_undo  H.1.1.1) (fun _ c => pN_undo  c) (hj_undo_A R (by omega) (by omega) ) (fun _ ⟨a', e', w', kp', st, r⟩ => la_R.mk (Or.inl ⟨rfl, rfl⟩) r (by omega))
  · exact la_jq H (pY_undo  H.1.1.1) (fun _ c => pN_undo  c) (hj_undo_B R (by omega) (by omega) ) (fun _ ⟨a', e', w', kp', st, r⟩ => la_R.mk (Or.inr ⟨rfl, rfl⟩) r (by omega))
