/-! row, clear, judge, image, on, county -/
set_option maxRecDepth 100000 in
set_option maxHeartbeats 4000000 in
theorem zR.row {M N : zk_M} (h : zR M N) {k k' : Nat} {f g : Nat → Int32} (hk : k' ≤ 16) (e : zs_ag k' f g) : zR (va_up (va_up M 41 f) 0 (va_up (M 0) 12 (nI k'))) (va_up (va_up N 7 g) 0 (va_up (N 0) 10 (nI k'))) := by
  obtain ⟨⟨n, h1⟩, ⟨n', h2⟩, ⟨k1, s1, s2, s3⟩, -, h8, h9⟩ := h
  refine ⟨⟨n, ?_⟩, ⟨n', ?_⟩, ⟨k1, ?_, ?_, ?_⟩, ⟨k', ⟨hk, by rw [zk_up_eq, zk_up_eq]⟩, ⟨hk, by rw [zk_up_eq, zk_up_eq]⟩, ?_⟩, ?_, ?_⟩
  · rw [zk_up_ne (by decide), zk_up_ne (by decide)]
    exact h1.cg (by rw [zk_up_ne (by decide), zk_up_ne (by decide)]) (by rw [zk_up_ne (by decide), zk_up_ne (by decide)]) (by rw [zk_up_ne (by decide), zk_up_ne (by decide)]; exact zs_ag.rf) (by rw [zk_up_ne (by decide), zk_up_ne (by decide)]; exact zs_ag.rf) (fun p hp => by show zs_ag 7 (va_up _ 0 _ (6 + p)) _; rw [zk_up_ne (by omega), zk_up_ne (by omega)]; exact zs_ag.rf)
  · rw [zk_up_ne (show 3 ≠ 0 by decide), zk_up_ne (show 3 ≠ 7 by decide)]
    exact h2.cg (by rw [zk_up_ne (by decide), zk_up_ne (by decide)]) (by rw [zk_up_ne (by decide), zk_up_ne (by decide)]) (by rw [zk_up_ne (by decide), zk_up_ne (by decide)]; exact zs_ag.rf) (by rw [zk_up_ne (by decide), zk_up_ne (by decide)]; exact zs_ag.rf) (fun p hp => by show zs_ag 7 (va_up _ 0 _ (17 + p)) _; rw [zk_up_ne (by omega), zk_up_ne (by omega)]; exact zs_ag.rf)
  · exact ⟨s1.1, by rw [zk_up_ne (by decide), zk_up_ne (by decide)]; exact s1.2⟩
  · exact ⟨s2.1, by rw [zk_up_eq, zk_up_ne (by decide)]; exact s2.2⟩
  · rw [zk_up_ne (show 40 ≠ 0 by decide), zk_up_ne (show 40 ≠ 41 by decide), zk_up_ne (show 6 ≠ 0 by decide), zk_up_ne (show 6 ≠ 7 by decide)]; exact s3
  · rw [zk_up_ne (show 41 ≠ 0 by decide), zk_up_eq, zk_up_ne (show 7 ≠ 0 by decide), zk_up_eq]; exact e
  · rw [zk_up_ne (show 42 ≠ 0 by decide), zk_up_ne (show 42 ≠ 41 by decide), zk_up_ne (show 8 ≠ 0 by decide), zk_up_ne (show 8 ≠ 7 by decide)]; exact h8
  · rw [zk_up_eq, zk_up_ne (show 13 ≠ 12 by decide), zk_up_eq, zk_up_ne (show 5 ≠ 10 by decide)]; exact h9
theorem o_row {l : Launch} {M N : zk_M} (h : zR M N) {v : Int32} : zOi l muX4_row muX5_row [.int v] M N := by
  obtain ⟨kk, hK, hK', hR⟩ := h.2.2.2.1
  by_cases c0 : v < 0
  · exact zOi.mk (fun L => qX4_row_r4 c0) (fun L => qX5_row_r4 c0) rfl (h.ref 4)
  by_cases c9 : 99 < v
  · exact zOi.mk (fun L => qX4_row_r6 c0 (fun q => absurd q.1 (Int32.not_le.mpr c9))) (fun L => qX5_row_r6 c0 c9) rfl (h.ref 6)
  by_cases c16 : kk < 16
  · exact zOi.mk (fun L => qX4_row_t hK.2 c16 c0 (Int32.not_lt.mp c9)) (fun L => qX5_row_t c0 c9 c16 hK'.2) rfl (h.row (k := kk) (by omega) (hR.ups rfl))
  · have e16 : kk = 16 := by have := hK.1; omega
    subst e16
    exact zOi.mk (fun L => qX4_row_r6 c0 (fun q => absurd q.2 (by rw [hK.2]; decide))) (fun L => qX5_row_r6f c0 c9 hK'.2) rfl (h.ref 6)
theorem zR.clear {M N : zk_M} (h : zR M N) : zR (zs_clM M) (zu_clM N) := by
  have := h.row (k := 0) (k' := 0) (f := M 41) (g := N 7) (by decide) (fun i hi => absurd hi (Nat.not_lt_zero i))
  rw [zs_up_self, zs_up_self] at this
  exact this
theorem o_clear {l : Launch} {M N : zk_M} (h : zR M N) : zOi l muX4_clear muX5_clear [] M N := by
  obtain ⟨kk, hK, hK', -⟩ := h.2.2.2.1
  exact zOi.mk (fun L => qX4_clear_t) (fun L => qX5_clear_t) (hK.2.trans hK'.2.symm) h.clear
theorem o_judge {l : Launch} {M N : zk_M} (h : zR M N) : zOi l muX4_judge muX5_judge [] M N := by
  obtain ⟨n, h1⟩ := h.1
  obtain ⟨kk, hK, hK', hR⟩ := h.2.2.2.1
  exact zOi.mk (fun L => qX4_judge_t h1.I hK) (fun L => qX5_judge_t h1.1 hK') (e_fwr h1 hR kk 0 (by omega)) h.clear
set_option maxRecDepth 100000 in
set_option maxHeartbeats 4000000 in
theorem o_image {l : Launch} {M N : zk_M} (h : zR M N) : zOi l muX4_image muX5_image [] M N := by
  have B := fun o => zv_bec_at (b := 17) (b' := 6) (j := 14) (j' := 3) (s := 15) (s' := 4) (c := 12) (c' := 1) (M := M) (by decide) (by decide) (by decide) (by decide) (by decide) (by decide) (by decide) o
  obtain ⟨⟨n, h1⟩, -, ⟨k1, s1, s2, s3⟩, ⟨kk, r1, r2, r3⟩, h8, h9⟩ := h
  have Bo : ∀ o, ¬ (17 ≤ o ∧ o < 23) → o ≠ 12 → o ≠ 15 → o ≠ 14 → zv_bec 17 6 14 3 15 4 12 1 M o = M o := fun o a b c d => by rw [B, if_neg a, if_neg b, if_neg c, if_neg d]
  refine zOi.mk (fun L => qX4_image_t) (fun L => qX5_image_t) ?_ ?_
  · unfold zs_imM
    rw [zc_bec12_1, zk_up_ne (by decide), Bo 1 (by decide) (by decide) (by decide) (by decide)]
    exact h1.2.2.1
  · unfold zs_imM zu_imM
    rw [zc_bec12_1]
    refine ⟨⟨n, ?_⟩, ⟨n, ?_⟩, ⟨k1, ?_, ?_, ?_⟩, ⟨kk, ?_, ?_, ?_⟩, ?_, ?_⟩
    · rw [zk_up_ne (show 1 ≠ 0 by decide), zk_up_ne (show 1 ≠ 3 by decide)]
      exact h1.cg (by rw [zk_up_ne (by decide), Bo 1 (by decide) (by decide) (by decide) (by decide)]) (by rw [zk_up_ne (by decide), Bo 1 (by decide) (by decide) (by decide) (by decide)]) (by rw [zk_up_ne (by decide), Bo 3 (by decide) (by decide) (by decide) (by decide)]; exact zs_ag.rf) (by rw [zk_up_ne (by decide), Bo 4 (by decide) (by decide) (by decide) (by decide)]; exact zs_ag.rf) (fun p hp => by show zs_ag 7 (va_up _ 0 _ (6 + p)) _; rw [zk_up_ne (by omega), Bo _ (by omega) (by omega) (by omega) (by omega)]; exact zs_ag.rf)
    · rw [zk_up_ne (show 3 ≠ 0 by decide), zk_up_eq]
      refine (h1.ag (zs_cp_ag (g := N 3)).sm).cg ?_ ?_ ?_ ?_ (fun p hp => ?_)
      · rw [zk_up_ne (by decide), B, if_neg (by decide), if_pos rfl, zk_up_ne (by decide), zk_up_eq]
      · rw [zk_up_ne (by decide), B, if_neg (by decide), if_pos rfl, zk_up_eq]
      · rw [zk_up_ne (by decide), B, if_neg (by decide), if_neg (by decide), if_neg (by decide), if_pos rfl]; exact zs_cp_ag
      · rw [zk_up_ne (by decide), B, if_neg (by decide), if_neg (by decide), if_pos rfl]; exact zs_cp_ag
      · show zs_ag 7 (va_up _ 0 _ (17 + p)) (M (6 + p))
        rw [zk_up_ne (by omega), B, if_pos (by omega), show 6 + (17 + p - 17) = 6 + p by omega]; exact zs_cp_ag
    · exact ⟨s1.1, by rw [zk_up_ne (by decide), Bo 39 (by decide) (by decide) (by decide) (by decide)]; exact s1.2⟩
    · exact ⟨s2.1, by rw [zk_up_eq, zk_up_ne (by decide)]; exact s2.2⟩
    · rw [zk_up_ne (show 40 ≠ 0 by decide), Bo 40 (by decide) (by decide) (by decide) (by decide), zk_up_ne (show 6 ≠ 0 by decide), zk_up_ne (show 6 ≠ 3 by decide)]; exact s3
    · exact ⟨r1.1, by rw [zk_up_eq, zk_up_ne (by decide), Bo 0 (by decide) (by decide) (by decide) (by decide)]; exact r1.2⟩
    · exact ⟨r2.1, by rw [zk_up_eq, zk_up_ne (by decide)]; exact r2.2⟩
    · rw [zk_up_ne (show 41 ≠ 0 by decide), Bo 41 (by decide) (by decide) (by decide) (by decide), zk_up_ne (show 7 ≠ 0 by decide), zk_up_ne (show 7 ≠ 3 by decide)]; exact r3
    · rw [zk_up_ne (show 42 ≠ 0 by decide), Bo 42 (by decide) (by decide) (by decide) (by decide), zk_up_ne (show 8 ≠ 0 by decide), zk_up_ne (show 8 ≠ 3 by decide)]; exact h8
    · rw [zk_up_eq, zk_up_eq, zk_up_eq, zk_up_eq]
set_option maxRecDepth 100000 in
set_option maxHeartbeats 4000000 in
theorem o_on {l : Launch} {M N : zk_M} (h : zR M N) : zOi l muX4_on muX5_on [] M N := by
  by_cases c : M 0 13 = 0
  · exact zOi.mk (fun L => qX4_on_r c) (fun L => qX5_on_r (h.2.2.2.2.2.mp c)) rfl (h.ref 3)
  have c' : ¬ N 0 5 = 0 := fun q => c (h.2.2.2.2.2.mpr q)
  have B := fun o => zv_bec_at (b := 6) (b' := 17) (j := 3) (j' := 14) (s := 4) (s' := 15) (c := 1) (c' := 12) (M := M) (by decide) (by decide) (by decide) (by decide) (by decide) (by decide) (by decide) o
  obtain ⟨n', h2⟩ := h.2.1
  refine zOi.mk (fun L => qX4_on_t c) (fun L => qX5_on_t c') ?_ ?_
  · rw [zc_bec1_12, B, if_neg (by decide), if_pos rfl, zk_up_eq]
    exact h2.2.2.1
  · unfold zu_onM
    rw [zc_bec1_12]
    refine h.main (n := n') ((h2.ag (zs_cp_ag (g := N 1)).sm).cg ?_ ?_ ?_ ?_ (fun p hp => ?_)) (fun o ho => by rw [B, if_neg (by omega), if_neg (by omega), if_neg (by omega), if_neg (by omega)])
    · rw [B, if_neg (by decide), if_pos rfl, zk_up_ne (by decide), zk_up_eq]
    · rw [B, if_neg (by decide), if_pos rfl, zk_up_eq]
    · rw [B, if_neg (by decide), if_neg (by decide), if_neg (by decide), if_pos rfl]; exact zs_cp_ag
    · rw [B, if_neg (by decide), if_neg (by decide), if_pos rfl]; exact zs_cp_ag
    · show zs_ag 7 (zv_bec 6 17 3 14 4 15 1 12 M (6 + p)) (M (17 + p))
      rw [B, if_pos (by omega), show 17 + (6 + p - 6) = 17 + p by omega]; exact zs_cp_ag
theorem e_tell {M : zk_M} {R a : Nat → Int32} {n k : Nat} (h : zr23 M a n) (hk : k ≤ 96) (e : zs_ag k (M 40) R) : (zs_tell M k).1 = (zu_ct (zu_h R k) k a).1 ∧ zv_fr M (zs_tell M k).2 ∧ ((0 ≤ (zs_tell M k).1 ∧ ∃ n', zr23 (zs_tell M k).2 (zu_ct (zu_h R k) k a).2 n') ∨ (¬ 0 ≤ (zs_tell M k).1 ∧ (zu_ct (zu_h R k) k a).2 = a)) := by
  have fault : ∀ i, i ≤ k → zs_fu (M 40) k k 0 0 = nI i → (zu_p1 (zu_h R k) k (k + 1) 0 0).1 = -1000 - nI i → (zs_tell M k).1 = (zu_ct (zu_h R k) k a).1 ∧ zv_fr M (zs_tell M k).2 ∧ ((0 ≤ (zs_tell M k).1 ∧ ∃ n', zr23 (zs_tell M k).2 (zu_ct (zu_h R k) k a).2 n') ∨ (¬ 0 ≤ (zs_tell M k).1 ∧ (zu_ct (zu_h R k) k a).2 = a)) := fun i hi e1 e2 => by
    unfold zs_tell zu_ct
    rw [e1, e2, if_neg (nI_pos (by omega)), if_neg (zs_mk (by omega)).1]
    exact ⟨rfl, fun _ _ => rfl, Or.inr ⟨Int32.not_le.mpr (zv_m2000 (by omega)).2, rfl⟩⟩
  by_cases k0 : k = 0
  · subst k0
    refine fault 0 (Nat.le_refl _) (by rw [zs_fu, if_neg (by omega)]) ?_
    have e1 : zu_h R 0 0 = -1 := rfl
    rw [zu_p1, zu_st_0 (by rw [e1]; decide) (by rw [e1]; decide) (by rw [e1]; decide) (by rw [e1]; decide) (by rw [e1]; decide) (by rw [e1]; decide), if_neg (by decide)]
  · rcases zv_p1 e (k + 1) 0 0 (by omega) (by omega) with ⟨e1, e2⟩ | ⟨i, hi, e1, e2⟩
    · rw [Nat.sub_zero] at e1
      unfold zs_tell zu_ct
      rw [e1, e2, if_pos (by decide), if_pos rfl]
      rcases zv_p2 hk e (k + 1) 0 0 M a n (by omega) (by omega) e2 h with ⟨r1, r2, r3, a2, n2, r4, r5, r6⟩ | ⟨r1, r2, r3, r4, r5⟩
      · rw [if_pos r1, r4]
        exact ⟨r2, r6, Or.inl ⟨by rw [r2]; exact nI_pos' (by omega), n2, r5⟩⟩
      · rw [if_neg r1, r4]
        exact ⟨r2, r5, Or.inr ⟨Int32.not_le.mpr r3, rfl⟩⟩
    · exact fault i hi (by rw [Nat.sub_zero] at e1; exact e1) e2
set_option maxRecDepth 100000 in
set_option maxHeartbeats 4000000 in
theorem zR.county {M N : zk_M} {a' : Nat → Int32} (h : zR M N) {k : Nat} (hS : zs_S M k) (hag : zs_ag k (M 40) (N 6)) (ha : zs_ag 52 a' (zu_ct (zu_h (N 6) k) k (N 1)).2) : (∃ n, zs_S (zs_ct1 M) k ∧ zs_I23 (zs_ct1 M) n) ∧ (zs_tell (zs_ct1 M) k).1 = (zu_ct (zu_h (N 6) k) k (N 1)).1 ∧ zR (zs_ctM M k) (va_up (va_up N 1 a') 0 (va_up (N 0) 9 0)) := by
  have B := fun o => zv_bec_at (b := 28) (b' := 6) (j := 25) (j' := 3) (s := 26) (s' := 4) (c := 23) (c' := 1) (M := M) (by decide) (by decide) (by decide) (by decide) (by decide) (by decide) (by decide) o
  have Bo : ∀ o, o < 23 ∨ 33 < o → zs_ct1 M o = M o := fun o ho => by
    unfold zs_ct1
    rw [zc_bec23_1, B, if_neg (by omega), if_neg (by omega), if_neg (by omega), if_neg (by omega)]
  obtain ⟨⟨n, h1⟩, hr⟩ := h
  have h23 : zr23 (zs_ct1 M) (N 1) n := by
    unfold zs_ct1
    rw [zc_bec23_1]
    refine h1.cg ?_ ?_ ?_ ?_ (fun p hp => ?_)
    · rw [B, if_neg (by decide), if_pos rfl, zk_up_ne (by decide), zk_up_eq]
    · rw [B, if_neg (by decide), if_pos rfl, zk_up_eq]
    · rw [B, if_neg (by decide), if_neg (by decide), if_neg (by decide), if_pos rfl]; exact zs_cp_ag
    · rw [B, if_neg (by decide), if_neg (by decide), if_pos rfl]; exact zs_cp_ag
    · show zs_ag 7 (zv_bec 28 6 25 3 26 4 23 1 M (28 + p)) (M (6 + p))
      rw [B, if_pos (by omega), show 6 + (28 + p - 28) = 6 + p by omega]; exact zs_cp_ag
  obtain ⟨e1, e2, e3⟩ := e_tell h23 hS.1 (R := N 6) (by rw [Bo 40 (by omega)]; exact hag)
  have e2' : ∀ o, o < 23 ∨ 33 < o → (zs_tell (zs_ct1 M) k).2 o = M o := fun o ho => (e2 o ho).trans (Bo o ho)
  refine ⟨⟨n, ⟨hS.1, by rw [Bo 39 (by omega)]; exact hS.2⟩, h23.1.1, h23.2.1, fun q hq => h23.ok hq⟩, e1, ?_⟩
  have key : ∃ X : zk_M, zs_ctM M k = zs_fgt X ∧ (∀ o, o = 0 ∨ (12 ≤ o ∧ o < 23) ∨ 39 ≤ o → X o = M o) ∧ ∃ n', zr1 X a' n' := by
    unfold zs_ctM
    rcases e3 with ⟨c, n', q⟩ | ⟨c, q⟩
    · rw [if_pos c]
      have D := fun o => zv_bec_at (b := 6) (b' := 28) (j := 3) (j' := 25) (s := 4) (s' := 26) (c := 1) (c' := 23) (M := (zs_tell (zs_ct1 M) k).2) (by decide) (by decide) (by decide) (by decide) (by decide) (by decide) (by decide) o
      refine ⟨_, rfl, fun o ho => ?_, n', ?_⟩
      · unfold zs_ct3
        rw [zc_bec1_23, D, if_neg (by omega), if_neg (by omega), if_neg (by omega), if_neg (by omega)]
        exact e2' o (by omega)
      · unfold zs_ct3
        rw [zc_bec1_23]
        refine (q.ag ha.sm).cg ?_ ?_ ?_ ?_ (fun p hp => ?_)
        · rw [D, if_neg (by decide), if_pos rfl, zk_up_ne (by decide), zk_up_eq]
        · rw [D, if_neg (by decide), if_pos rfl, zk_up_eq]
        · rw [D, if_neg (by decide), if_neg (by decide), if_neg (by decide), if_pos rfl]; exact zs_cp_ag
        · rw [D, if_neg (by decide), if_neg (by decide), if_pos rfl]; exact zs_cp_ag
        · show zs_ag 7 (zv_bec 6 28 3 25 4 26 1 23 (zs_tell (zs_ct1 M) k).2 (6 + p)) ((zs_tell (zs_ct1 M) k).2 (28 + p))
          rw [D, if_pos (by omega), show 28 + (6 + p - 6) = 28 + p by omega]; exact zs_cp_ag
    · rw [if_neg c]
      rw [q] at ha
      refine ⟨_, rfl, fun o ho => e2' o (by omega), n, (h1.ag ha.sm).cg ?_ ?_ ?_ ?_ (fun p hp => ?_)⟩
      · rw [e2' 1 (by omega)]
      · rw [e2' 1 (by omega)]
      · rw [e2' 3 (by omega)]; exact zs_ag.rf
      · rw [e2' 4 (by omega)]; exact zs_ag.rf
      · show zs_ag 7 ((zs_tell (zs_ct1 M) k).2 (6 + p)) _
        rw [e2' (6 + p) (by omega)]; exact zs_ag.rf
  obtain ⟨X, eX, oX, n', hX⟩ := key
  rw [eX]
  obtain ⟨⟨n'', h2⟩, -, ⟨kk, r1, r2, r3⟩, h8, h9⟩ := hr
  unfold zs_fgt
  refine ⟨⟨n', ?_⟩, ⟨n'', ?_⟩, ⟨0, ⟨by decide, by rw [zk_up_eq, zk_up_eq]; rfl⟩, ⟨by decide, by rw [zk_up_eq, zk_up_eq]; rfl⟩, fun i hi => absurd hi (Nat.not_lt_zero i)⟩, ⟨kk, ?_, ?_, ?_⟩, ?_, ?_⟩
  · rw [zk_up_ne (show 1 ≠ 0 by decide), zk_up_eq]
    exact hX.cg (by rw [zk_up_ne (by decide)]) (by rw [zk_up_ne (by decide)]) (by rw [zk_up_ne (by decide)]; exact zs_ag.rf) (by rw [zk_up_ne (by decide)]; exact zs_ag.rf) (fun p hp => by show zs_ag 7 (va_up _ 39 _ (6 + p)) _; rw [zk_up_ne (by omega)]; exact zs_ag.rf)
  · rw [zk_up_ne (show 3 ≠ 0 by decide), zk_up_ne (show 3 ≠ 1 by decide)]
    exact h2.cg (by rw [zk_up_ne (by decide), oX 12 (by omega)]) (by rw [zk_up_ne (by decide), oX 12 (by omega)]) (by rw [zk_up_ne (by decide), oX 14 (by omega)]; exact zs_ag.rf) (by rw [zk_up_ne (by decide), oX 15 (by omega)]; exact zs_ag.rf) (fun p hp => by show zs_ag 7 (va_up _ 39 _ (17 + p)) _; rw [zk_up_ne (by omega), oX _ (by omega)]; exact zs_ag.rf)
  · exact ⟨r1.1, by rw [zk_up_ne (by decide), oX 0 (by omega)]; exact r1.2⟩
  · exact ⟨r2.1, by rw [zk_up_eq, zk_up_ne (by decide)]; exact r2.2⟩
  · rw [zk_up_ne (show 41 ≠ 39 by decide), oX 41 (by omega), zk_up_ne (show 7 ≠ 0 by decide), zk_up_ne (show 7 ≠ 1 by decide)]; exact r3
  · rw [zk_up_ne (show 42 ≠ 39 by decide), oX 42 (by omega), zk_up_ne (show 8 ≠ 0 by decide), zk_up_ne (show 8 ≠ 1 by decide)]; exact h8
  · rw [zk_up_ne (show 0 ≠ 39 by decide), oX 0 (by omega), zk_up_eq, zk_up_ne (by decide)]; exact h9
theorem o_county {l : Launch} {M N : zk_M} (h : zR M N) : zOi l muX4_county muX5_county [] M N := by
  obtain ⟨n, h1⟩ := h.1
  obtain ⟨k, hS, hL, hag⟩ := h.2.2.1
  obtain ⟨⟨n1, q1, q2⟩, q3, -⟩ := h.county hS hag zs_ag.rf
  refine ⟨7, 6, (zs_tell (zs_ct1 M) k).1, zs_same (zs_ctM M k), fun N1 => ∃ a', zs_ag 52 a' (zu_ct (zu_h (N 6) k) k (N 1)).2 ∧ zs_sm (va_up (va_up N 1 a') 0 (va_up (N 0) 9 0)) N1, by decide, by decide, fun L => qX4_county_t q1 q2, fun L => by rw [q3]; exact qX5_county_t h1.1 hL, fun M' N' h1 h2 => ?_⟩
  obtain ⟨a', ha, hm⟩ := h2
  exact (h.county hS hag ha).2.2.same h1 hm
