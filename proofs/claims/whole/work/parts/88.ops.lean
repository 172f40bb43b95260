/-! the operations, one by one -/
theorem zv_nw2 {c : Int32} {n : Nat} {r x : Int32} (e : c = nI n) (h : ¬ zs_w2 n r x) : ¬ (zs_isr c r ∧ zs_p x) := by rw [e]; exact h
theorem zv_nis {c : Int32} {n : Nat} {r : Int32} (e : c = nI n) (h : ¬ zs_isr (nI n) r) : ¬ zs_isr c r := by rw [e]; exact h
theorem zv_neq {p q : Nat} (hp : p < 6) (hq : q < 6) (h : ¬ nI p = nI q) : ¬ p = q := fun e => h (by rw [e])
theorem zv_nat60 {t : Int32} {b : Int32} {m : Nat} (hb : b.toInt = m) (h0 : ¬ t < 0) (h6 : ¬ b < t) : ∃ j, j ≤ m ∧ t = nI j := nI_of2 hb h0 (Int32.not_lt.mp h6)
theorem zv_nat1 {t : Int32} {b : Int32} {m : Nat} (hb : b.toInt = m) (h0 : ¬ t < 1) (h6 : ¬ b < t) : ∃ j, 1 ≤ j ∧ j ≤ m ∧ t = nI j := by
  have e1 : (1 : Int32).toInt = 1 := rfl
  have e0 : (0 : Int32).toInt = 0 := rfl
  rw [Int32.lt_iff_toInt_lt] at h0
  obtain ⟨j, hj, rfl⟩ := nI_of2 hb (by rw [Int32.lt_iff_toInt_lt]; omega) (Int32.not_lt.mp h6)
  refine ⟨j, Classical.byContradiction (fun q => ?_), hj, rfl⟩
  rw [show j = 0 by omega] at h0
  exact h0 (by decide)
set_option maxRecDepth 100000 in
set_option maxHeartbeats 4000000 in
theorem o_letter {l : Launch} {M N : zk_M} (h : zR M N) {c : Int32} : zOi l muX4_letter muX5_letter [.int c] M N := by
  obtain ⟨k, hS, hL, hag⟩ := h.2.2.1
  by_cases c0 : c < 0
  · exact zOi.mk (fun L => qX4_letter_r4 hS c0) (fun L => qX5_letter_r4 c0) rfl (h.ref 4)
  by_cases c1 : 255 < c ∨ 96 ≤ k
  · exact zOi.mk (fun L => qX4_letter_r6 hS c0 c1) (fun L => qX5_letter_r6 hL c0 c1) rfl (h.ref 6)
  · have hk : k < 96 := by omega
    refine zOi.mk (fun L => qX4_letter_t hS c0 (fun q => c1 (Or.inl q)) hk) (fun L => qX5_letter_t hL c0 (fun q => c1 (Or.inl q)) hk) rfl ?_
    obtain ⟨⟨n, h1⟩, ⟨n', h2⟩, -, ⟨kk, h5, h6, h7⟩, h8, h9⟩ := h
    unfold zs_addM zs_ltM
    refine ⟨⟨n, ?_⟩, ⟨n', ?_⟩, ⟨k + 1, ⟨hk, by rw [zk_up_eq, zk_up_eq]⟩, ⟨hk, by rw [zk_up_eq, zk_up_eq]⟩, ?_⟩, ⟨kk, ?_, ?_, ?_⟩, ?_, ?_⟩
    · rw [zk_up_ne (by decide), zk_up_ne (by decide)]
      exact h1.cg (by rw [zk_up_ne (by decide), zk_up_ne (by decide)]) (by rw [zk_up_ne (by decide), zk_up_ne (by decide)]) (by rw [zk_up_ne (by decide), zk_up_ne (by decide)]; exact zs_ag.rf) (by rw [zk_up_ne (by decide), zk_up_ne (by decide)]; exact zs_ag.rf) (fun p hp => by show zs_ag 7 (va_up _ 39 _ (6 + p)) _; rw [zk_up_ne (by omega), zk_up_ne (by omega)]; exact zs_ag.rf)
    · rw [zk_up_ne (show 3 ≠ 0 by decide), zk_up_ne (show 3 ≠ 6 by decide)]
      exact h2.cg (by rw [zk_up_ne (by decide), zk_up_ne (by decide)]) (by rw [zk_up_ne (by decide), zk_up_ne (by decide)]) (by rw [zk_up_ne (by decide), zk_up_ne (by decide)]; exact zs_ag.rf) (by rw [zk_up_ne (by decide), zk_up_ne (by decide)]; exact zs_ag.rf) (fun p hp => by show zs_ag 7 (va_up _ 39 _ (17 + p)) _; rw [zk_up_ne (by omega), zk_up_ne (by omega)]; exact zs_ag.rf)
    · rw [zk_up_ne (show 40 ≠ 39 by decide), zk_up_eq, zk_up_ne (show 6 ≠ 0 by decide), zk_up_eq]
      exact hag.ups rfl
    · exact ⟨h5.1, by rw [zk_up_ne (by decide), zk_up_ne (by decide)]; exact h5.2⟩
    · exact ⟨h6.1, by rw [zk_up_eq, zk_up_ne (by decide)]; exact h6.2⟩
    · rw [zk_up_ne (show 41 ≠ 39 by decide), zk_up_ne (show 41 ≠ 40 by decide), zk_up_ne (show 7 ≠ 0 by decide), zk_up_ne (show 7 ≠ 6 by decide)]; exact h7
    · rw [zk_up_ne (show 42 ≠ 39 by decide), zk_up_ne (show 42 ≠ 40 by decide), zk_up_ne (show 8 ≠ 0 by decide), zk_up_ne (show 8 ≠ 6 by decide)]; exact h8
    · rw [zk_up_ne (show 0 ≠ 39 by decide), zk_up_ne (show 0 ≠ 40 by decide), zk_up_eq, zk_up_ne (by decide)]; exact h9
theorem o_rider {l : Launch} {M N : zk_M} (h : zR M N) {r x : Int32} : zOi l muX4_rider muX5_rider [.int r, .int x] M N := by
  obtain ⟨n, h1⟩ := h.1
  by_cases hr : zs_isr (nI n) r
  · obtain ⟨p, hp, rfl⟩ := zs_isr_nI h1.1.1 hr
    by_cases hx : zs_b8 x
    · have e := zs_riv_ag (h1.F (h1.lt hp)) hx
      rcases zs_b8_k hx with ⟨k, hk, rfl⟩ | rfl
      · exact zOi.mk (fun L => qX4_rider_t h1.I hp hx) (fun L => qX5_rider_k h1.1 hp hk) e h
      · exact zOi.mk (fun L => qX4_rider_t h1.I hp hx) (fun L => qX5_rider_7 h1.1 hp) e h
    · exact zOi.mk (fun L => qX4_rider_r2 h1.I hp hx) (fun L => qX5_rider_r2 h1.1 hp hx) rfl (h.ref 2)
  · exact zOi.mk (fun L => qX4_rider_r1 h1.I (zv_nis h1.2.1 hr)) (fun L => qX5_rider_r1 h1.1 hr) rfl (h.ref 1)
theorem o_steps {l : Launch} {M N : zk_M} (h : zR M N) {a b : Int32} : zOi l muX4_steps muX5_steps [.int a, .int b] M N := by
  obtain ⟨n, h1⟩ := h.1
  by_cases hx : zs_p a ∧ zs_p b
  · exact zOi.mk (fun L => qX4_steps_t hx.1 hx.2) (fun L => qX5_steps_t hx.1 hx.2) (e_steps h1 hx.1 hx.2) h
  · exact zOi.mk (fun L => qX4_steps_r hx) (fun L => qX5_steps_r hx) rfl (h.ref 1)
theorem o_pulls {l : Launch} {M N : zk_M} (h : zR M N) {r x : Int32} : zOi l muX4_pulls muX5_pulls [.int r, .int x] M N := by
  obtain ⟨n, h1⟩ := h.1
  by_cases hr : zs_w2 n r x
  · obtain ⟨p, hp, rfl⟩ := zs_isr_nI h1.1.1 hr.1
    exact zOi.mk (fun L => qX4_pulls_t h1.I hp hr.2) (fun L => qX5_pulls_t h1.1 hp hr.2) (e_pulls h1 (h1.lt hp) hr.2) h
  · exact zOi.mk (fun L => qX4_pulls_r h1.I (zv_nw2 h1.2.1 hr)) (fun L => qX5_pulls_r h1.1 hr) rfl (h.ref 1)
theorem zv_bit01 {x y : Int32} : (if x >>> y &&& 1 = 1 then (1 : Int32) else 0) = x >>> y &&& 1 := by
  by_cases c : x >>> y &&& 1 = 1
  · rw [if_pos c, c]
  · rw [if_neg c]
    generalize x >>> y = z at c ⊢
    have e : (z &&& 1).toBitVec = BitVec.setWidth 32 (BitVec.ofBool (z.toBitVec.getLsbD 0)) := by
      rw [Int32.toBitVec_and]
      exact BitVec.and_one_eq_setWidth_ofBool_getLsbD
    cases hb : z.toBitVec.getLsbD 0 with
    | true => rw [hb] at e; exact absurd (Int32.toBitVec_inj.mp e : z &&& 1 = 1) c
    | false => rw [hb] at e; exact (Int32.toBitVec_inj.mp e : z &&& 1 = 0).symm
theorem o_roads {l : Launch} {M N : zk_M} (h : zR M N) {a b : Int32} : zOi l muX4_roads muX5_roads [.int a, .int b] M N := by
  obtain ⟨n, h1⟩ := h.1
  by_cases hx : zs_p a ∧ zs_p b ∧ ¬ a = b
  · refine zOi.mk (fun L => qX4_roads_t hx.1 hx.2.1 hx.2.2) (fun L => qX5_roads_t hx.1 hx.2.1 hx.2.2) ?_ ?_
    · rw [zs_J_trn, ← zs_turn_ag h1.J hx.1 hx.2.1 _ (zs_p_tn hx.1)]
      exact zv_bit01
    · unfold zs_rdM
      refine h.main (n := n) ((h1.turn hx.1 hx.2.1 (T' := M 4)).cg ?_ ?_ ?_ ?_ (fun p hp => ?_)) (fun o ho => by rw [zk_up_ne (by omega), zk_up_ne (by omega)])
      · rw [zk_up_ne (by decide), zk_up_ne (by decide)]
      · rw [zk_up_ne (by decide), zk_up_ne (by decide)]
      · rw [zk_up_ne (by decide), zk_up_eq]; exact zs_ag.rf
      · rw [zk_up_eq]; exact zs_ag.rf
      · show zs_ag 7 (va_up _ 4 _ (6 + p)) _
        rw [zk_up_ne (by omega), zk_up_ne (by omega)]; exact zs_ag.rf
  · exact zOi.mk (fun L => qX4_roads_r hx) (fun L => qX5_roads_r hx) rfl (h.ref 1)
theorem o_shod {l : Launch} {M N : zk_M} (h : zR M N) {r : Int32} : zOi l muX4_shod muX5_shod [.int r] M N := by
  obtain ⟨n, h1⟩ := h.1
  by_cases hr : zs_isr (nI n) r
  · obtain ⟨p, hp, rfl⟩ := zs_isr_nI h1.1.1 hr
    exact zOi.mk (fun L => qX4_shod_t h1.I hp) (fun L => qX5_shod_t h1.1 hp) (zs_shod_ag (h1.F (h1.lt hp)) 5 (by decide)) (h.upR (h1.lt hp) (zs_shod_n h1 (h1.lt hp)))
  · exact zOi.mk (fun L => qX4_shod_r h1.I (zv_nis h1.2.1 hr)) (fun L => qX5_shod_r h1.1 hr) rfl (h.ref 1)
theorem o_wants {l : Launch} {M N : zk_M} (h : zR M N) {r x : Int32} : zOi l muX4_wants muX5_wants [.int r, .int x] M N := by
  obtain ⟨n, h1⟩ := h.1
  by_cases hr : zs_w2 n r x
  · obtain ⟨p, hp, rfl⟩ := zs_isr_nI h1.1.1 hr.1
    exact zOi.mk (fun L => qX4_wants_t h1.I hp hr.2) (fun L => qX5_wants_t h1.1 hp hr.2) (h1.F (h1.lt hp) 2 (by decide)) (h.upR (h1.lt hp) (zs_want_n h1 (h1.lt hp) hr.2))
  · exact zOi.mk (fun L => qX4_wants_r h1.I (zv_nw2 h1.2.1 hr)) (fun L => qX5_wants_r h1.1 hr) rfl (h.ref 1)
theorem o_stands {l : Launch} {M N : zk_M} (h : zR M N) {r x : Int32} : zOi l muX4_stands muX5_stands [.int r, .int x] M N := by
  obtain ⟨n, h1⟩ := h.1
  by_cases hr : zs_w2 n r x
  · obtain ⟨p, hp, rfl⟩ := zs_isr_nI h1.1.1 hr.1
    exact zOi.mk (fun L => qX4_stands_t h1.I hp hr.2) (fun L => qX5_stands_t h1.1 hp hr.2) (h1.F (h1.lt hp) 4 (by decide)) (h.upR (h1.lt hp) (zs_stand_n h1 (h1.lt hp) hr.2))
  · exact zOi.mk (fun L => qX4_stands_r h1.I (zv_nw2 h1.2.1 hr)) (fun L => qX5_stands_r h1.1 hr) rfl (h.ref 1)
theorem o_turn {l : Launch} {M N : zk_M} (h : zR M N) {r k g : Int32} : zOi l muX4_turn muX5_turn [.int r, .int k, .int g] M N := by
  obtain ⟨n, h1⟩ := h.1
  by_cases hr : zs_isr (nI n) r
  · obtain ⟨p, hp, rfl⟩ := zs_isr_nI h1.1.1 hr
    by_cases hk : 0 ≤ k ∧ k < 6
    · by_cases hg : g < 0
      · exact zOi.mk (fun L => qX4_turn_r4 h1.I hp hk hg) (fun L => qX5_turn_r4 h1.1 hp hk hg) rfl (h.ref 4)
      by_cases h9 : 9 < g
      · exact zOi.mk (fun L => qX4_turn_r6 h1.I hp hk hg h9) (fun L => qX5_turn_r6 h1.1 hp hk hg h9) rfl (h.ref 6)
      · exact zOi.mk (fun L => qX4_turn_t h1.I hp hk hg h9) (fun L => qX5_turn_t h1.1 hp hk hg h9) (by rw [h1.F (h1.lt hp) 0 (by decide), h1.F (h1.lt hp) 1 (by decide)]) (h.upR (h1.lt hp) (zs_kind_n h1 (h1.lt hp) hk))
    · exact zOi.mk (fun L => qX4_turn_r2 h1.I hp hk) (fun L => qX5_turn_r2 h1.1 hp hk) rfl (h.ref 2)
  · exact zOi.mk (fun L => qX4_turn_r1 h1.I (zv_nis h1.2.1 hr)) (fun L => qX5_turn_r1 h1.1 hr) rfl (h.ref 1)
theorem zr1.pass {M : zk_M} {a : Nat → Int32} {n t : Nat} (h : zr1 M a n) : zr1 (zs_pass zc 1 n t M) (zs_daysA (zs_FW (zs_J a)) n t a) n ∧ ∀ o, o ≠ 1 → (o < 6 ∨ 12 ≤ o) → zs_pass zc 1 n t M o = M o := by
  have P := fun o => zv_pass_at (b := 6) (j := 3) (s := 4) (c := 1) (n := n) (t := t) (M := M) (by decide) (by decide) (by decide) (by decide) (by decide) o
  have hn := h.1.1
  rw [zc_pass1]
  refine ⟨?_, fun o ho ho' => by rw [P, if_neg (by omega), if_neg ho]⟩
  refine (h.days (t := t) (R' := fun p => zv_pass 6 3 4 1 n t M (6 + p)) (fun p hp => ?_)).cg ?_ ?_ ?_ ?_ (fun p hp => zs_ag.rf)
  · show zv_pass 6 3 4 1 n t M (6 + p) = _
    rw [P]
    by_cases q : p < n
    · rw [if_pos (by omega), if_pos q]
    · rw [if_neg (by omega), if_neg (by omega), if_neg q]
  · rw [P, if_neg (by omega), if_pos rfl, zk_up_ne (by decide)]
  · rw [P, if_neg (by omega), if_pos rfl, zk_up_eq]
  · rw [P, if_neg (by omega), if_neg (by decide)]; exact zs_ag.rf
  · rw [P, if_neg (by omega), if_neg (by decide)]; exact zs_ag.rf
theorem o_days {l : Launch} {M N : zk_M} (h : zR M N) {t : Int32} : zOi l muX4_days muX5_days [.int t] M N := by
  obtain ⟨n, h1⟩ := h.1
  by_cases c1 : t < 1
  · exact zOi.mk (fun L => qX4_days_r4 c1) (fun L => qX5_days_r4 c1) rfl (h.ref 4)
  by_cases c6 : t ≤ 60 ∧ M 1 3 + t ≤ 999
  · obtain ⟨j, hj1, hj, rfl⟩ := zv_nat1 (b := 60) (m := 60) rfl c1 (Int32.not_lt.mpr c6.1)
    have c7 := c6.2
    rw [h1.2.2.1] at c7
    obtain ⟨h2, h3⟩ := h1.pass (t := j)
    refine zOi.mk (fun L => qX4_days_t h1.I hj1 hj c6.2) (fun L => qX5_days_t h1.1 hj1 hj c7) ?_ ?_
    · have := e_daysv h2
      unfold zs_dM
      rw [zk_up_eq]
      exact this
    · exact h.main h2 (fun o ho => h3 o (by omega) (by omega))
  · exact zOi.mk (fun L => qX4_days_r6 c1 c6) (fun L => qX5_days_r6 c1 (by rw [← h1.2.2.1]; exact c6)) rfl (h.ref 6)
theorem o_riderThen {l : Launch} {M N : zk_M} (h : zR M N) {r t x : Int32} : zOi l muX4_riderThen muX5_riderThen [.int r, .int t, .int x] M N := by
  obtain ⟨n, h1⟩ := h.1
  by_cases hr : zs_isr (nI n) r
  · obtain ⟨p, hp, rfl⟩ := zs_isr_nI h1.1.1 hr
    by_cases h0 : t < 0
    · exact zOi.mk (fun L => qX4_riderThen_r4 h1.I hp h0) (fun L => qX5_riderThen_r4 h1.1 hp h0) rfl (h.ref 4)
    by_cases h6 : 60 < t
    · exact zOi.mk (fun L => qX4_riderThen_r6 h1.I hp h0 h6) (fun L => qX5_riderThen_r6 h1.1 hp h0 h6) rfl (h.ref 6)
    by_cases hx : 0 ≤ x ∧ x < 2
    · obtain ⟨j, hj, rfl⟩ := zv_nat60 (b := 60) (m := 60) rfl h0 h6
      obtain ⟨k, hk, rfl⟩ : ∃ k, k < 2 ∧ x = nI k := by
        rcases zs_b2 hx with rfl | rfl
        · exact ⟨0, by decide, rfl⟩
        · exact ⟨1, by decide, rfl⟩
      exact zOi.mk (fun L => qX4_riderThen_t h1.I hp hj hx) (fun L => qX5_riderThen_t h1.1 hp hj hk) (e_th h1 (h1.lt hp) hk) h
    · exact zOi.mk (fun L => qX4_riderThen_r2 h1.I hp h0 h6 hx) (fun L => qX5_riderThen_r2 h1.1 hp h0 h6 hx) rfl (h.ref 2)
  · exact zOi.mk (fun L => qX4_riderThen_r1 h1.I (zv_nis h1.2.1 hr)) (fun L => qX5_riderThen_r1 h1.1 hr) rfl (h.ref 1)
theorem o_comes {l : Launch} {M N : zk_M} (h : zR M N) {r x : Int32} : zOi l muX4_comes muX5_comes [.int r, .int x] M N := by
  obtain ⟨n, h1⟩ := h.1
  by_cases hr : zs_w2 n r x
  · obtain ⟨p, hp, rfl⟩ := zs_isr_nI h1.1.1 hr.1
    exact zOi.mk (fun L => qX4_comes_t h1.I hp hr.2) (fun L => qX5_comes_t h1.1 hp hr.2) (e_comes h1 (h1.lt hp)) h
  · exact zOi.mk (fun L => qX4_comes_r h1.I (zv_nw2 h1.2.1 hr)) (fun L => qX5_comes_r h1.1 hr) rfl (h.ref 1)
theorem o_first {l : Launch} {M N : zk_M} (h : zR M N) {x : Int32} : zOi l muX4_first muX5_first [.int x] M N := by
  obtain ⟨n, h1⟩ := h.1
  by_cases hx : zs_p x
  · exact zOi.mk (fun L => qX4_first_t h1.I hx) (fun L => qX5_first_t h1.1 hx) (by rw [e_first h1]) h
  · exact zOi.mk (fun L => qX4_first_r h1.I hx) (fun L => qX5_first_r hx) rfl (h.ref 1)
theorem o_rests {l : Launch} {M N : zk_M} (h : zR M N) {r : Int32} : zOi l muX4_rests muX5_rests [.int r] M N := by
  obtain ⟨n, h1⟩ := h.1
  by_cases hr : zs_isr (nI n) r
  · obtain ⟨p, hp, rfl⟩ := zs_isr_nI h1.1.1 hr
    exact zOi.mk (fun L => qX4_rests_t h1.I hp) (fun L => qX5_rests_t h1.1 hp) (e_rests h1 (h1.lt hp)) h
  · exact zOi.mk (fun L => qX4_rests_r h1.I (zv_nis h1.2.1 hr)) (fun L => qX5_rests_r h1.1 hr) rfl (h.ref 1)
theorem o_meet {l : Launch} {M N : zk_M} (h : zR M N) {a b x : Int32} : zOi l muX4_meet muX5_meet [.int a, .int b, .int x] M N := by
  obtain ⟨n, h1⟩ := h.1
  by_cases hr : zs_isr (nI n) a ∧ zs_isr (nI n) b ∧ ¬ a = b
  · obtain ⟨p, hp, rfl⟩ := zs_isr_nI h1.1.1 hr.1
    obtain ⟨q, hq, rfl⟩ := zs_isr_nI h1.1.1 hr.2.1
    have hpq := zv_neq (h1.lt hp) (h1.lt hq) hr.2.2
    by_cases hx : 0 ≤ x ∧ x < 2
    · exact zOi.mk (fun L => qX4_meet_t h1.I hp hq hpq hx) (fun L => qX5_meet_t h1.1 hp hq hpq hx) (e_meet h1 (h1.lt hp) (h1.lt hq)) h
    · exact zOi.mk (fun L => qX4_meet_r2 h1.I hp hq hpq hx) (fun L => qX5_meet_r2 h1.1 hp hq hpq hx) rfl (h.ref 2)
  · exact zOi.mk (fun L => qX4_meet_r1 h1.I (by rw [h1.2.1]; exact hr)) (fun L => qX5_meet_r1 h1.1 hr) rfl (h.ref 1)
theorem o_arrived {l : Launch} {M N : zk_M} (h : zR M N) : zOi l muX4_arrived muX5_arrived [] M N := by
  obtain ⟨n, h1⟩ := h.1
  exact zOi.mk (fun L => qX4_arrived_t h1.I) (fun L => qX5_arrived_t h1.1) (e_arrived h1) h
theorem o_shoe {l : Launch} {M N : zk_M} (h : zR M N) {r y x : Int32} : zOi l muX4_shoe muX5_shoe [.int r, .int y, .int x] M N := by
  obtain ⟨n, h1⟩ := h.1
  by_cases hr : zs_w2 n r y
  · obtain ⟨p, hp, rfl⟩ := zs_isr_nI h1.1.1 hr.1
    by_cases hx : 0 ≤ x ∧ x < 2
    · have e := e_she h1 (h1.lt hp) (x := y)
      exact zOi.mk (fun L => qX4_shoe_t h1.I hp hr.2 hx) (fun L => qX5_shoe_t h1.1 hp hr.2 hx) (by rw [← e.1]; exact e_shv e.2) h
    · exact zOi.mk (fun L => qX4_shoe_r2 h1.I hp hr.2 hx) (fun L => qX5_shoe_r2 h1.1 hp hr.2 hx) rfl (h.ref 2)
  · exact zOi.mk (fun L => qX4_shoe_r1 h1.I (zv_nw2 h1.2.1 hr)) (fun L => qX5_shoe_r1 h1.1 hr) rfl (h.ref 1)
theorem o_wish {l : Launch} {M N : zk_M} (h : zR M N) {r x : Int32} : zOi l muX4_wish muX5_wish [.int r, .int x] M N := by
  obtain ⟨n, h1⟩ := h.1
  by_cases hr : zs_w2 n r x
  · obtain ⟨p, hp, rfl⟩ := zs_isr_nI h1.1.1 hr.1
    exact zOi.mk (fun L => qX4_wish_t h1.I hp hr.2) (fun L => qX5_wish_t h1.1 hp hr.2) (by rw [e_wish h1 (h1.lt hp)]) h
  · exact zOi.mk (fun L => qX4_wish_r h1.I (zv_nw2 h1.2.1 hr)) (fun L => qX5_wish_r h1.1 hr) rfl (h.ref 1)
theorem o_road {l : Launch} {M N : zk_M} (h : zR M N) {r x : Int32} : zOi l muX4_road muX5_road [.int r, .int x] M N := by
  obtain ⟨n, h1⟩ := h.1
  by_cases hr : zs_w2 n r x
  · obtain ⟨p, hp, rfl⟩ := zs_isr_nI h1.1.1 hr.1
    exact zOi.mk (fun L => qX4_road_t h1.I hp hr.2) (fun L => qX5_road_t h1.1 hp hr.2) (by rw [e_road h1 (h1.lt hp)]) h
  · exact zOi.mk (fun L => qX4_road_r h1.I (zv_nw2 h1.2.1 hr)) (fun L => qX5_road_r h1.1 hr) rfl (h.ref 1)
theorem o_cut {l : Launch} {M N : zk_M} (h : zR M N) {r x : Int32} : zOi l muX4_cut muX5_cut [.int r, .int x] M N := by
  obtain ⟨n, h1⟩ := h.1
  by_cases hr : zs_w2 n r x
  · obtain ⟨p, hp, rfl⟩ := zs_isr_nI h1.1.1 hr.1
    exact zOi.mk (fun L => qX4_cut_t h1.I hp hr.2) (fun L => qX5_cut_t h1.1 hp hr.2) (e_cut h1 (h1.lt hp)) h
  · exact zOi.mk (fun L => qX4_cut_r h1.I (zv_nw2 h1.2.1 hr)) (fun L => qX5_cut_r h1.1 hr) rfl (h.ref 1)
theorem o_inn {l : Launch} {M N : zk_M} (h : zR M N) {t x : Int32} : zOi l muX4_inn muX5_inn [.int t, .int x] M N := by
  obtain ⟨n, h1⟩ := h.1
  by_cases h0 : t < 0
  · exact zOi.mk (fun L => qX4_inn_r4 h0) (fun L => qX5_inn_r4 h0) rfl (h.ref 4)
  by_cases h6 : 30 < t
  · exact zOi.mk (fun L => qX4_inn_r6 h0 h6) (fun L => qX5_inn_r6 h0 h6) rfl (h.ref 6)
  by_cases hx : 0 ≤ x ∧ x < 2
  · obtain ⟨j, hj, rfl⟩ := zv_nat60 (b := 30) (m := 30) rfl h0 h6
    exact zOi.mk (fun L => qX4_inn_t h1.I hj hx) (fun L => qX5_inn_t h1.1 hj hx) (e_inn h1) h
  · exact zOi.mk (fun L => qX4_inn_r2 h0 h6 hx) (fun L => qX5_inn_r2 h0 h6 hx) rfl (h.ref 2)
theorem o_busiest {l : Launch} {M N : zk_M} (h : zR M N) : zOi l muX4_busiest muX5_busiest [] M N := by
  obtain ⟨n, h1⟩ := h.1
  exact zOi.mk (fun L => qX4_busiest_t) (fun L => qX5_busiest_t) (e_busiest h1) h
theorem o_near {l : Launch} {M N : zk_M} (h : zR M N) {x : Int32} : zOi l muX4_near muX5_near [.int x] M N := by
  obtain ⟨n, h1⟩ := h.1
  by_cases hx : zs_p x
  · exact zOi.mk (fun L => qX4_near_t hx) (fun L => qX5_near_t hx) (e_near h1 hx) h
  · exact zOi.mk (fun L => qX4_near_r hx) (fun L => qX5_near_r hx) rfl (h.ref 1)
theorem o_apart {l : Launch} {M N : zk_M} (h : zR M N) {x : Int32} : zOi l muX4_apart muX5_apart [.int x] M N := by
  obtain ⟨n, h1⟩ := h.1
  by_cases hx : zs_b4 x
  · have hx' := hx
    rcases hx' with rfl | rfl | rfl | rfl
    · exact zOi.mk (fun L => qX4_apart_t h1.I hx) (fun L => qX5_apart_0) (by rw [zs_apv0, e_apart0 h1]) h
    · exact zOi.mk (fun L => qX4_apart_t h1.I hx) (fun L => qX5_apart_1) (by rw [zs_apv1, e_apart1 h1]) h
    · exact zOi.mk (fun L => qX4_apart_t h1.I hx) (fun L => qX5_apart_2 h1.1) (by rw [zs_apv2, e_apart2 h1]) h
    · exact zOi.mk (fun L => qX4_apart_t h1.I hx) (fun L => qX5_apart_3 h1.1) (by rw [zs_apv3, e_apart3 h1]) h
  · exact zOi.mk (fun L => qX4_apart_r hx) (fun L => qX5_apart_r hx) rfl (h.ref 2)
theorem o_tired {l : Launch} {M N : zk_M} (h : zR M N) : zOi l muX4_tired muX5_tired [] M N := by
  obtain ⟨n, h1⟩ := h.1
  exact zOi.mk (fun L => qX4_tired_t h1.I) (fun L => qX5_tired_t h1.1) (e_tired h1) h
theorem o_truly {l : Launch} {M N : zk_M} (h : zR M N) {r : Int32} : zOi l muX4_truly muX5_truly [.int r] M N := by
  obtain ⟨n, h1⟩ := h.1
  by_cases hr : zs_isr (nI n) r
  · obtain ⟨p, hp, rfl⟩ := zs_isr_nI h1.1.1 hr
    exact zOi.mk (fun L => qX4_truly_t h1.I hp) (fun L => qX5_truly_t h1.1 hp) (e_truly h1 (h1.lt hp)) h
  · exact zOi.mk (fun L => qX4_truly_r h1.I (zv_nis h1.2.1 hr)) (fun L => qX5_truly_r h1.1 hr) rfl (h.ref 1)
theorem o_total {l : Launch} {M N : zk_M} (h : zR M N) {t : Int32} : zOi l muX4_total muX5_total [.int t] M N := by
  obtain ⟨n, h1⟩ := h.1
  by_cases h0 : t < 0
  · exact zOi.mk (fun L => qX4_total_r4 h0) (fun L => qX5_total_r4 h0) rfl (h.ref 4)
  by_cases h6 : 60 < t
  · exact zOi.mk (fun L => qX4_total_r6 h0 h6) (fun L => qX5_total_r6 h0 h6) rfl (h.ref 6)
  · obtain ⟨j, hj, rfl⟩ := zv_nat60 (b := 60) (m := 60) rfl h0 h6
    exact zOi.mk (fun L => qX4_total_t h1.I hj) (fun L => qX5_total_t h1.1 hj) (e_total h1) h
theorem o_bare {l : Launch} {M N : zk_M} (h : zR M N) {t : Int32} : zOi l muX4_bare muX5_bare [.int t] M N := by
  obtain ⟨n, h1⟩ := h.1
  by_cases h0 : t < 0
  · exact zOi.mk (fun L => qX4_bare_r4 h0) (fun L => qX5_bare_r4 h0) rfl (h.ref 4)
  by_cases h6 : 30 < t
  · exact zOi.mk (fun L => qX4_bare_r6 h0 h6) (fun L => qX5_bare_r6 h0 h6) rfl (h.ref 6)
  · obtain ⟨j, hj, rfl⟩ := zv_nat60 (b := 30) (m := 30) rfl h0 h6
    exact zOi.mk (fun L => qX4_bare_t h1.I hj) (fun L => qX5_bare_t h1.1 hj) (by rw [e_bare h1]) h
theorem o_two {l : Launch} {M N : zk_M} (h : zR M N) {a b t : Int32} : zOi l muX4_two muX5_two [.int a, .int b, .int t] M N := by
  obtain ⟨n, h1⟩ := h.1
  by_cases hr : zs_isr (nI n) a ∧ zs_isr (nI n) b ∧ ¬ a = b
  · obtain ⟨p, hp, rfl⟩ := zs_isr_nI h1.1.1 hr.1
    obtain ⟨q, hq, rfl⟩ := zs_isr_nI h1.1.1 hr.2.1
    have hpq := zv_neq (h1.lt hp) (h1.lt hq) hr.2.2
    by_cases h0 : t < 0
    · exact zOi.mk (fun L => qX4_two_r4 h1.I hp hq hpq h0) (fun L => qX5_two_r4 h1.1 hp hq hpq h0) rfl (h.ref 4)
    by_cases h6 : 30 < t
    · exact zOi.mk (fun L => qX4_two_r6 h1.I hp hq hpq h0 h6) (fun L => qX5_two_r6 h1.1 hp hq hpq h0 h6) rfl (h.ref 6)
    · obtain ⟨j, hj, rfl⟩ := zv_nat60 (b := 30) (m := 30) rfl h0 h6
      exact zOi.mk (fun L => qX4_two_t h1.I hp hq hpq hj) (fun L => qX5_two_t h1.1 hp hq hpq hj) (e_two h1 (h1.lt hp) (h1.lt hq)) h
  · exact zOi.mk (fun L => qX4_two_r1 h1.I (by rw [h1.2.1]; exact hr)) (fun L => qX5_two_r1 h1.1 hr) rfl (h.ref 1)
theorem o_mud {l : Launch} {M N : zk_M} (h : zR M N) {r x k o y : Int32} : zOl l muX4_mud muX5_mud [.int r, .int x, .int k, .int o, .int y] M N := by
  obtain ⟨n, h1⟩ := h.1
  by_cases hr : zs_w2 n r x
  · obtain ⟨p, hp, rfl⟩ := zs_isr_nI h1.1.1 hr.1
    by_cases h4 : k < 0 ∨ o < 2
    · exact zOl.mk (fun L => qX4_mud_r4 h1.I hp hr.2 h4) (fun L => qX5_mud_r4 h1.1 hp hr.2 h4) rfl (h.ref 4)
    have k0 : ¬ k < 0 := fun q => h4 (Or.inl q)
    have o2 : ¬ o < 2 := fun q => h4 (Or.inr q)
    by_cases h6 : 7 < k ∨ 20 < o
    · exact zOl.mk (fun L => qX4_mud_r6 h1.I hp hr.2 k0 o2 h6) (fun L => qX5_mud_r6 h1.1 hp hr.2 h4 h6) rfl (h.ref 6)
    have k7 : ¬ 7 < k := fun q => h6 (Or.inl q)
    have o20 : ¬ 20 < o := fun q => h6 (Or.inr q)
    by_cases hy : 0 ≤ y ∧ y < 2
    · obtain ⟨j, hj, rfl⟩ := zv_nat60 (b := 7) (m := 7) rfl k0 k7
      obtain ⟨e1, e2, e3⟩ := e_mud h1 (h1.lt hp) hr.2 hj o2 o20 hy
      exact zOl.mk (fun L => qX4_mud_t h1.I hp hr.2 hj o2 o20 hy) (fun L => qX5_mud_t h1.1 hp hr.2 hj o2 o20 hy e2 e3) e1 h
    · exact zOl.mk (fun L => qX4_mud_r2 h1.I hp hr.2 k0 o2 k7 o20 hy) (fun L => qX5_mud_r2 h1.1 hp hr.2 h4 h6 hy) rfl (h.ref 2)
  · exact zOl.mk (fun L => qX4_mud_r1 h1.I (zv_nw2 h1.2.1 hr)) (fun L => qX5_mud_r1 h1.1 hr) rfl (h.ref 1)
theorem o_mean {l : Launch} {M N : zk_M} (h : zR M N) {x : Int32} : zOl l muX4_mean muX5_mean [.int x] M N := by
  obtain ⟨n, h1⟩ := h.1
  by_cases hx : 0 ≤ x ∧ x < 2
  · obtain ⟨e1, e2⟩ := e_mean h1 hx
    exact zOl.mk (fun L => qX4_mean_t h1.I hx) (fun L => qX5_mean_t h1.1 hx e2) e1 h
  · exact zOl.mk (fun L => qX4_mean_r hx) (fun L => qX5_mean_r hx) rfl (h.ref 2)
theorem o_whatWanted {l : Launch} {M N : zk_M} (h : zR M N) {r x : Int32} : zOi l muX4_whatWanted muX5_whatWanted [.int r, .int x] M N := by
  obtain ⟨n, h1⟩ := h.1
  obtain ⟨kk, hK, hK', hR⟩ := h.2.2.2.1
  by_cases hr : zs_isr (nI n) r
  · obtain ⟨p, hp, rfl⟩ := zs_isr_nI h1.1.1 hr
    have hp6 := h1.lt hp
    by_cases hx : 0 ≤ x ∧ x < 2
    · rcases zs_b2 hx with rfl | rfl
      · exact zOi.mk (fun L => qX4_whatWanted_g h1.I hp hK) (fun L => qX5_whatWanted_g h1.1 hp hK') (e_ww h1 hR hp6 (fun i hi => zs_ok2 (h1.ok hp6) (zs_p_nI hi))) h
      · exact zOi.mk (fun L => qX4_whatWanted_k h1.I hp hK) (fun L => qX5_whatWanted_k h1.1 hp hK') (e_ww h1 hR hp6 (fun i hi => zs_ok_up (h1.ok hp6) (by decide) (by decide) (by decide))) h
    · exact zOi.mk (fun L => qX4_whatWanted_r2 h1.I hp hx) (fun L => qX5_whatWanted_r2 h1.1 hp hx) rfl (h.ref 2)
  · exact zOi.mk (fun L => qX4_whatWanted_r1 h1.I (zv_nis h1.2.1 hr)) (fun L => qX5_whatWanted_r1 h1.1 hr) rfl (h.ref 1)
theorem o_lots {l : Launch} {M N : zk_M} (h : zR M N) {t z x : Int32} : zOi l muX4_lots muX5_lots [.int t, .int z, .int x] M N := by
  obtain ⟨n, h1⟩ := h.1
  by_cases h0 : t < 1
  · exact zOi.mk (fun L => qX4_lots_r4 h0) (fun L => qX5_lots_r4 h0) rfl (h.ref 4)
  by_cases h6 : 20 < t
  · exact zOi.mk (fun L => qX4_lots_r6 h0 h6) (fun L => qX5_lots_r6 h0 h6) rfl (h.ref 6)
  by_cases hx : 0 ≤ x ∧ x < 2
  · obtain ⟨j, hj1, hj, rfl⟩ := zv_nat1 (b := 20) (m := 20) rfl h0 h6
    exact zOi.mk (fun L => qX4_lots_t h1.I hj1 hj hx) (fun L => qX5_lots_t h1.1 hj1 hj hx) (by rw [e_lots h1]) h
  · exact zOi.mk (fun L => qX4_lots_r2 h0 h6 hx) (fun L => qX5_lots_r2 h0 h6 hx) rfl (h.ref 2)
theorem o_count {l : Launch} {M N : zk_M} (h : zR M N) {x : Int32} : zOi l muX4_count muX5_count [.int x] M N := by
  obtain ⟨n, h1⟩ := h.1
  obtain ⟨k, hS, hL, -⟩ := h.2.2.1
  obtain ⟨kk, hK, hK', -⟩ := h.2.2.2.1
  by_cases hx : 11 ≤ x ∧ x ≤ 16
  · refine zOi.mk (fun L => qX4_count_t h1.I) (fun L => qX5_count_n hx) ?_ h
    obtain ⟨-, j, hj1, hj, rfl⟩ := zs_1116 hx
    have c : ∀ m : Nat, m < 11 → ¬ nI (j + 10) = nI m := fun m hm e => by have := zs_nI_inj (by omega) (by omega) e; omega
    unfold zs_cnv
    rw [if_neg (show ¬ nI (j + 10) = 0 from c 0 (by decide)), if_neg (show ¬ nI (j + 10) = 1 from c 1 (by decide)), if_neg (show ¬ nI (j + 10) = 2 from c 2 (by decide)), if_neg (show ¬ nI (j + 10) = 3 from c 3 (by decide)), if_neg (show ¬ nI (j + 10) = 4 from c 4 (by decide)), if_neg (show ¬ nI (j + 10) = 5 from c 5 (by decide)), if_neg (show ¬ nI (j + 10) = 6 from c 6 (by decide)), if_neg (show ¬ nI (j + 10) = 7 from c 7 (by decide)), if_pos ⟨hx.1, (zs_le_lt (b := 17) rfl).mp hx.2⟩]
    have e1 : nI (j + 10) - 11 + 1 = nI j := by
      rw [show (11 : Int32) = nI 10 + 1 from rfl, ← nI_add, show nI j + nI 10 - (nI 10 + 1) + 1 = nI j by grind]
    have e2 : nI (j + 10) - 10 = nI j := by
      rw [show (10 : Int32) = nI 10 from rfl, ← nI_add, show nI j + nI 10 - nI 10 = nI j by grind]
    rw [e1, e2, nI_clamp (by omega)]
    exact h.2.2.2.2.1 j hj
  · exact zOi.mk (fun L => qX4_count_t h1.I) (fun L => qX5_count_t h1.1 hx) (e_cnv h1 (hK.2.trans hK'.2.symm) (hS.2.trans hL.2.symm) (fun q => hx ⟨q.1, (zs_le_lt (b := 17) rfl).mpr q.2⟩)) h
