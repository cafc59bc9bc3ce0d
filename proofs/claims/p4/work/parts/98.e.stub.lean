/-! scratch: stubs for 98.b, c, d, e -/
def jxe : jc_E := (jxa_D, jxa_F, jxa_P, jxa_G, [])
theorem jxs_X0 {tg x : Nat} {h : J_H} (h1 : ∃ y : Int32, jc_at h 29 1 = some (.int y) ∧ 0 ≤ y.toInt ∧ y.toInt ≤ 9) (h2 : ∃ y : Int32, jc_at h 29 2 = some (.int y) ∧ y.toInt = 0) : jxs_X tg x h := by
  obtain ⟨y, y1, y2, y3⟩ := h1
  obtain ⟨z, z1, z2⟩ := h2
  obtain ⟨n, hn⟩ := Int.eq_ofNat_of_zero_le y2
  exact ⟨n, 0, by omega, by decide, ⟨y, y1, hn⟩, ⟨z, z1, z2⟩, fun i hi => (nomatch hi), fun _ => [], fun f m _ ⟨i, hi, _⟩ => (nomatch hi)⟩
def i_ln (k : Nat) (n : Int32) : Nat := if 0 ≤ n.toInt ∧ n.toInt ≤ ((20 * k : Nat) : Int) then 0 else 20 * k


-- ---- world A
theorem i_ob {E : jc_E} {X : J_H → Prop} {r : jc_R} {t : jc_T} {A : jc_A} {h : J_H} {a ci n : Nat} {d : jc_Dd} (hg : jc_g E X r t A h) (hd : ja_n2 E.1 a = some d) (he : d.1 = (0, ci, n)) : ∃ fs : List Value, h[a]? = some (.inl (ci, fs)) ∧ fs.length = n ∧ ∀ i, jc_at h a i = fs[i]? := by
  obtain ⟨c, c1, c2, -⟩ := hg.2.1 a d hd
  rw [he] at c2
  rcases c with f | f | l | l
  · obtain ⟨k, fs⟩ := f
    have e1 : k = ci := congrArg (fun q => q.2.1) c2
    subst e1
    exact ⟨fs, c1, congrArg (fun q => q.2.2) c2, fun i => by rw [jc_at_of c1]; rfl⟩
  · cases c2
  · cases c2
  · cases c2
theorem i_ar {E : jc_E} {X : J_H → Prop} {r : jc_R} {t : jc_T} {A : jc_A} {h : J_H} {a kd n : Nat} {d : jc_Dd} (hg : jc_g E X r t A h) (hd : ja_n2 E.1 a = some d) (he : d.1 = (1, kd, n)) : ∃ l : List Int32, h[a]? = some (.inr (.inl (kd, l))) ∧ l.length = n := by
  obtain ⟨c, c1, c2, -⟩ := hg.2.1 a d hd
  rw [he] at c2
  rcases c with f | f | l | l
  · cases c2
  · obtain ⟨k, l⟩ := f
    have e1 : k = kd := congrArg (fun q => q.2.1) c2
    subst e1
    exact ⟨l, c1, congrArg (fun q => q.2.2) c2⟩
  · cases c2
  · cases c2
def i_fk (k : Nat) : Nat := if 20 * k + 20 ≤ 700 then k + 1 else k
def i_fa (k : Nat) : Int32 := if 20 * k + 20 ≤ 700 then nI (20 * k + 20) else -1
theorem i_fk_eq (k : Nat) : (if 20 * k + 20 ≤ 700 then 20 * k + 20 else 20 * k) = 20 * i_fk k := by
  unfold i_fk
  split <;> omega
theorem pX_feed {k : Nat} (hk : k < 36) (x1 x2 x3 x4 x5 : Int32) {h : J_H} (hI : IC h) (hL : jc_at h 1 1 = some (.int (nI (20 * k)))) : j_W jP 15 113 0 (lv_args 0 [.ref 0, .int x1, .int x2, .int x3, .int x4, .int x5]) [] h (fun rv h' => (rv = some (.int (i_fa k)) ∧ IC h' ∧ i_fx h h') ∧ jc_at h' 1 1 = some (.int (nI (20 * i_fk k)))) := sorry
theorem pM_feed {k : Nat} (hk : k < 36) (x1 x2 x3 x4 x5 : Int32) {h : J_H} (hI : IM h) (hL : jc_at h 359 9 = some (.int (nI (20 * k)))) : j_W jP 15 181 0 (lv_args 0 [.ref 359, .int x1, .int x2, .int x3, .int x4, .int x5]) [] h (fun rv h' => (rv = some (.int (i_fa k)) ∧ IM h' ∧ i_fm h h') ∧ jc_at h' 359 9 = some (.int (nI (20 * i_fk k)))) := sorry
theorem pX_load {n : Int32} {k : Nat} (hk : k < 36) {h : J_H} (hI : IC h) (hL : jc_at h 1 1 = some (.int (nI (20 * k)))) : j_W jP 15 114 0 (lv_args 0 [.ref 0, .int n]) [] h (fun rv h' => ((∃ v, rv = some (.int v)) ∧ IC h' ∧ i_fx h h') ∧ jc_at h' 1 1 = some (.int (nI (i_ln k n)))) := sorry
theorem pM_load {n : Int32} {k : Nat} (hk : k < 36) {h : J_H} (hI : IM h) (hL : jc_at h 359 9 = some (.int (nI (20 * k)))) : j_W jP 15 200 0 (lv_args 0 [.ref 359, .int n]) [] h (fun rv h' => ((∃ v, rv = some (.int v)) ∧ IM h' ∧ i_fm h h') ∧ jc_at h' 359 9 = some (.int (nI (i_ln k n)))) := sorry
theorem pX_status {h : J_H} (hI : IC h) : pX 112 [.ref 0] h := sorry
theorem pX_fault (x1 : Int32) {h : J_H} (hI : IC h) : pX 115 [.ref 0, .int (x1)] h := sorry
theorem pX_many (x1 : Int32) {h : J_H} (hI : IC h) : pX 116 [.ref 0, .int (x1)] h := sorry
theorem pX_station (x1 : Int32) (x2 : Int32) {h : J_H} (hI : IC h) : pX 117 [.ref 0, .int (x1), .int (x2)] h := sorry
theorem pX_track (x1 : Int32) (x2 : Int32) (x3 : Int32) {h : J_H} (hI : IC h) : pX 118 [.ref 0, .int (x1), .int (x2), .int (x3)] h := sorry
theorem pX_train (x1 : Int32) (x2 : Int32) {h : J_H} (hI : IC h) : pX 119 [.ref 0, .int (x1), .int (x2)] h := sorry
theorem pX_fits (x1 : Int32) {h : J_H} (hI : IC h) : pX 120 [.ref 0, .int (x1)] h := sorry
theorem pX_why (x1 : Int32) {h : J_H} (hI : IC h) : pX 121 [.ref 0, .int (x1)] h := sorry
theorem pX_through (x1 : Int32) {h : J_H} (hI : IC h) : pX 122 [.ref 0, .int (x1)] h := sorry
theorem pX_risks {h : J_H} (hI : IC h) : pX 123 [.ref 0] h := sorry
theorem pX_weak (x1 : Int32) {h : J_H} (hI : IC h) : pX 124 [.ref 0, .int (x1)] h := sorry
theorem pX_links (x1 : Int32) (x2 : Int32) {h : J_H} (hI : IC h) : pX 125 [.ref 0, .int (x1), .int (x2)] h := sorry
theorem pX_blocks (x1 : Int32) {h : J_H} (hI : IC h) : pX 126 [.ref 0, .int (x1)] h := sorry
theorem pX_ring {h : J_H} (hI : IC h) : pX 127 [.ref 0] h := sorry
theorem pX_section (x1 : Int32) {h : J_H} (hI : IC h) : pX 128 [.ref 0, .int (x1)] h := sorry
theorem pX_time (x1 : Int32) (x2 : Int32) (x3 : Bool) {h : J_H} (hI : IC h) : pX 129 [.ref 0, .int (x1), .int (x2), .int (i_b x3)] h := sorry
theorem pX_together (x1 : Int32) (x2 : Int32) (x3 : Bool) {h : J_H} (hI : IC h) : pX 130 [.ref 0, .int (x1), .int (x2), .int (i_b x3)] h := sorry
theorem pX_passes (x1 : Int32) (x2 : Int32) {h : J_H} (hI : IC h) : pX 131 [.ref 0, .int (x1), .int (x2)] h := sorry
theorem pX_stood (x1 : Int32) {h : J_H} (hI : IC h) : pX 132 [.ref 0, .int (x1)] h := sorry
theorem pX_late (x1 : Int32) (x2 : Int32) {h : J_H} (hI : IC h) : pX 133 [.ref 0, .int (x1), .int (x2)] h := sorry
theorem pX_event (x1 : Int32) (x2 : Int32) {h : J_H} (hI : IC h) : pX 134 [.ref 0, .int (x1), .int (x2)] h := sorry
theorem pX_use (x1 : Int32) {h : J_H} (hI : IC h) : pX 135 [.ref 0, .int (x1)] h := sorry
theorem pX_gone (x1 : Int32) (x2 : Int32) {h : J_H} (hI : IC h) : pX 136 [.ref 0, .int (x1), .int (x2)] h := sorry
theorem pX_waits (x1 : Int32) {h : J_H} (hI : IC h) : pX 137 [.ref 0, .int (x1)] h := sorry
theorem pX_ahead (x1 : Int32) (x2 : Bool) (x3 : Int32) {h : J_H} (hI : IC h) : pX 138 [.ref 0, .int (x1), .int (i_b x2), .int (x3)] h := sorry
theorem pX_ends (x1 : Bool) (x2 : Int32) {h : J_H} (hI : IC h) : pX 139 [.ref 0, .int (i_b x1), .int (x2)] h := sorry
theorem pX_when (x1 : Int32) {h : J_H} (hI : IC h) : pX 140 [.ref 0, .int (x1)] h := sorry
theorem pX_plan (x1 : Int32) {h : J_H} (hI : IC h) : pX 141 [.ref 0, .int (x1)] h := sorry
theorem pX_cost (x1 : Int32) (x2 : Int32) {h : J_H} (hI : IC h) : pX 142 [.ref 0, .int (x1), .int (x2)] h := sorry
theorem pX_slack (x1 : Int32) {h : J_H} (hI : IC h) : pX 143 [.ref 0, .int (x1)] h := sorry
theorem pX_band (x1 : Int32) (x2 : Bool) {h : J_H} (hI : IC h) : pX 144 [.ref 0, .int (x1), .int (i_b x2)] h := sorry
theorem pX_swap (x1 : Int32) (x2 : Int32) {h : J_H} (hI : IC h) : pX 145 [.ref 0, .int (x1), .int (x2)] h := sorry
theorem pX_burden (x1 : Bool) {h : J_H} (hI : IC h) : pX 146 [.ref 0, .int (i_b x1)] h := sorry
theorem pX_loop (x1 : Int32) (x2 : Int32) {h : J_H} (hI : IC h) : pX 147 [.ref 0, .int (x1), .int (x2)] h := sorry
theorem pX_build {h : J_H} (hI : IC h) : pX 148 [.ref 0] h := sorry
theorem pX_go (x1 : Int32) (x2 : Bool) {h : J_H} (hI : IC h) : pX 149 [.ref 0, .int (x1), .int (i_b x2)] h := sorry
theorem pX_hold (x1 : Int32) (x2 : Int32) {h : J_H} (hI : IC h) : pX 150 [.ref 0, .int (x1), .int (x2)] h := sorry
theorem pX_shut (x1 : Int32) (x2 : Int32) (x3 : Bool) {h : J_H} (hI : IC h) : pX 151 [.ref 0, .int (x1), .int (x2), .int (i_b x3)] h := sorry
theorem pX_rank (x1 : Int32) {h : J_H} (hI : IC h) : pX 152 [.ref 0, .int (x1)] h := sorry
theorem pX_start (x1 : Int32) (x2 : Int32) {h : J_H} (hI : IC h) : pX 153 [.ref 0, .int (x1), .int (x2)] h := sorry
theorem pX_stall (x1 : Int32) (x2 : Int32) {h : J_H} (hI : IC h) : pX 154 [.ref 0, .int (x1), .int (x2)] h := sorry
theorem pX_link (x1 : Int32) (x2 : Int32) (x3 : Int32) {h : J_H} (hI : IC h) : pX 155 [.ref 0, .int (x1), .int (x2), .int (x3)] h := sorry
theorem pX_cut (x1 : Int32) {h : J_H} (hI : IC h) : pX 156 [.ref 0, .int (x1)] h := sorry
theorem pX_undo {h : J_H} (hI : IC h) : pX 157 [.ref 0] h := sorry
theorem pX_print {h : J_H} (hI : IC h) : pX 158 [.ref 0] h := sorry
theorem pM_status {h : J_H} (hI : IM h) : pM 168 [.ref 359] h := sorry
theorem pM_fault (x1 : Int32) {h : J_H} (hI : IM h) : pM 202 [.ref 359, .int (x1)] h := sorry
theorem pM_many (x1 : Int32) {h : J_H} (hI : IM h) : pM 234 [.ref 359, .int (x1)] h := sorry
theorem pM_station (x1 : Int32) (x2 : Int32) {h : J_H} (hI : IM h) : pM 236 [.ref 359, .int (x1), .int (x2)] h := sorry
theorem pM_track (x1 : Int32) (x2 : Int32) (x3 : Int32) {h : J_H} (hI : IM h) : pM 237 [.ref 359, .int (x1), .int (x2), .int (x3)] h := sorry
theorem pM_train (x1 : Int32) (x2 : Int32) {h : J_H} (hI : IM h) : pM 240 [.ref 359, .int (x1), .int (x2)] h := sorry
theorem pM_fits (x1 : Int32) {h : J_H} (hI : IM h) : pM 242 [.ref 359, .int (x1)] h := sorry
theorem pM_why (x1 : Int32) {h : J_H} (hI : IM h) : pM 243 [.ref 359, .int (x1)] h := sorry
theorem pM_through (x1 : Int32) {h : J_H} (hI : IM h) : pM 248 [.ref 359, .int (x1)] h := sorry
theorem pM_risks {h : J_H} (hI : IM h) : pM 249 [.ref 359] h := sorry
theorem pM_weak (x1 : Int32) {h : J_H} (hI : IM h) : pM 250 [.ref 359, .int (x1)] h := sorry
theorem pM_links (x1 : Int32) (x2 : Int32) {h : J_H} (hI : IM h) : pM 251 [.ref 359, .int (x1), .int (x2)] h := sorry
theorem pM_blocks (x1 : Int32) {h : J_H} (hI : IM h) : pM 245 [.ref 359, .int (x1)] h := sorry
theorem pM_ring {h : J_H} (hI : IM h) : pM 246 [.ref 359] h := sorry
theorem pM_section (x1 : Int32) {h : J_H} (hI : IM h) : pM 247 [.ref 359, .int (x1)] h := sorry
theorem pM_time (x1 : Int32) (x2 : Int32) (x3 : Bool) {h : J_H} (hI : IM h) : pM 252 [.ref 359, .int (x1), .int (x2), .int (i_b x3)] h := sorry
theorem pM_together (x1 : Int32) (x2 : Int32) (x3 : Bool) {h : J_H} (hI : IM h) : pM 253 [.ref 359, .int (x1), .int (x2), .int (i_b x3)] h := sorry
theorem pM_passes (x1 : Int32) (x2 : Int32) {h : J_H} (hI : IM h) : pM 254 [.ref 359, .int (x1), .int (x2)] h := sorry
theorem pM_stood (x1 : Int32) {h : J_H} (hI : IM h) : pM 255 [.ref 359, .int (x1)] h := sorry
theorem pM_late (x1 : Int32) (x2 : Int32) {h : J_H} (hI : IM h) : pM 256 [.ref 359, .int (x1), .int (x2)] h := sorry
theorem pM_event (x1 : Int32) (x2 : Int32) {h : J_H} (hI : IM h) : pM 257 [.ref 359, .int (x1), .int (x2)] h := sorry
theorem pM_use (x1 : Int32) {h : J_H} (hI : IM h) : pM 258 [.ref 359, .int (x1)] h := sorry
theorem pM_gone (x1 : Int32) (x2 : Int32) {h : J_H} (hI : IM h) : pM 259 [.ref 359, .int (x1), .int (x2)] h := sorry
theorem pM_waits (x1 : Int32) {h : J_H} (hI : IM h) : pM 260 [.ref 359, .int (x1)] h := sorry
theorem pM_ahead (x1 : Int32) (x2 : Bool) (x3 : Int32) {h : J_H} (hI : IM h) : pM 262 [.ref 359, .int (x1), .int (i_b x2), .int (x3)] h := sorry
theorem pM_ends (x1 : Bool) (x2 : Int32) {h : J_H} (hI : IM h) : pM 264 [.ref 359, .int (i_b x1), .int (x2)] h := sorry
theorem pM_when (x1 : Int32) {h : J_H} (hI : IM h) : pM 265 [.ref 359, .int (x1)] h := sorry
theorem pM_plan (x1 : Int32) {h : J_H} (hI : IM h) : pM 268 [.ref 359, .int (x1)] h := sorry
theorem pM_cost (x1 : Int32) (x2 : Int32) {h : J_H} (hI : IM h) : pM 271 [.ref 359, .int (x1), .int (x2)] h := sorry
theorem pM_slack (x1 : Int32) {h : J_H} (hI : IM h) : pM 272 [.ref 359, .int (x1)] h := sorry
theorem pM_band (x1 : Int32) (x2 : Bool) {h : J_H} (hI : IM h) : pM 277 [.ref 359, .int (x1), .int (i_b x2)] h := sorry
theorem pM_burden (x1 : Bool) {h : J_H} (hI : IM h) : pM 276 [.ref 359, .int (i_b x1)] h := sorry
theorem pM_loop (x1 : Int32) (x2 : Int32) {h : J_H} (hI : IM h) : pM 279 [.ref 359, .int (x1), .int (x2)] h := sorry
theorem pM_build {h : J_H} (hI : IM h) : pM 280 [.ref 359] h := sorry
theorem pM_go (x1 : Int32) (x2 : Bool) {h : J_H} (hI : IM h) : pM 283 [.ref 359, .int (x1), .int (i_b x2)] h := sorry
theorem pM_hold (x1 : Int32) (x2 : Int32) {h : J_H} (hI : IM h) : pM 284 [.ref 359, .int (x1), .int (x2)] h := sorry
theorem pM_shut (x1 : Int32) (x2 : Int32) (x3 : Bool) {h : J_H} (hI : IM h) : pM 285 [.ref 359, .int (x1), .int (x2), .int (i_b x3)] h := sorry
theorem pM_rank (x1 : Int32) {h : J_H} (hI : IM h) : pM 286 [.ref 359, .int (x1)] h := sorry
theorem pM_start (x1 : Int32) (x2 : Int32) {h : J_H} (hI : IM h) : pM 287 [.ref 359, .int (x1), .int (x2)] h := sorry
theorem pM_stall (x1 : Int32) (x2 : Int32) {h : J_H} (hI : IM h) : pM 288 [.ref 359, .int (x1), .int (x2)] h := sorry
theorem pM_link (x1 : Int32) (x2 : Int32) (x3 : Int32) {h : J_H} (hI : IM h) : pM 289 [.ref 359, .int (x1), .int (x2), .int (x3)] h := sorry
theorem pM_cut (x1 : Int32) {h : J_H} (hI : IM h) : pM 290 [.ref 359, .int (x1)] h := sorry
theorem pM_print {h : J_H} (hI : IM h) : pM 296 [.ref 359] h := sorry
theorem pM_out (x1 : Int32) {h : J_H} (hI : IM h) : pM 297 [.ref 359, .int (x1)] h := sorry
theorem pM_undo {h : J_H} (hI : IM h) : pM 282 [.ref 359] h := sorry
theorem pM_swap (x1 : Int32) (x2 : Int32) {h : J_H} (hI : IM h) : pM 273 [.ref 359, .int (x1), .int (x2)] h := sorry
