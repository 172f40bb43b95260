/-! the relation between the class's memory and the reference's -/
def zRr (M N : zk_M) : Prop := (∃ n', zr (M 12 2) (M 12 3) (M 14) (M 15) (fun p => M (17 + p)) (N 3) n') ∧ (∃ k, zs_S M k ∧ zs_L N k ∧ zs_ag k (M 40) (N 6)) ∧ (∃ kk, zs_K M kk ∧ zs_KM N kk ∧ zs_ag kk (M 41) (N 7)) ∧ zs_ag 7 (M 42) (N 8) ∧ (M 0 13 = 0 ↔ N 0 5 = 0)
def zR (M N : zk_M) : Prop := (∃ n, zr1 M (N 1) n) ∧ zRr M N
theorem zRr.cg {M N M' N' : zk_M} (h : zRr M N) (e : ∀ o, o = 0 ∨ (12 ≤ o ∧ o < 23) ∨ (39 ≤ o ∧ o < 43) → M' o = M o) (e3 : N' 3 = N 3) (e6 : N' 6 = N 6) (e7 : N' 7 = N 7) (e8 : N' 8 = N 8) (e5 : N' 0 5 = N 0 5) (e9 : N' 0 9 = N 0 9) (e10 : N' 0 10 = N 0 10) : zRr M' N' := by
  obtain ⟨⟨n', h1⟩, ⟨k, h2, h3, h4⟩, ⟨kk, h5, h6, h7⟩, h8, h9⟩ := h
  have a0 := e 0 (by omega)
  have a12 := e 12 (by omega)
  have a14 := e 14 (by omega)
  have a15 := e 15 (by omega)
  have a39 := e 39 (by omega)
  have a40 := e 40 (by omega)
  have a41 := e 41 (by omega)
  have a42 := e 42 (by omega)
  refine ⟨⟨n', ?_⟩, ⟨k, ⟨h2.1, by rw [a39]; exact h2.2⟩, ⟨h3.1, by rw [e9]; exact h3.2⟩, by rw [a40, e6]; exact h4⟩, ⟨kk, ⟨h5.1, by rw [a0]; exact h5.2⟩, ⟨h6.1, by rw [e10]; exact h6.2⟩, by rw [a41, e7]; exact h7⟩, by rw [a42, e8]; exact h8, by rw [a0, e5]; exact h9⟩
  rw [a12, a14, a15, e3]
  exact h1.cg rfl rfl zs_ag.rf zs_ag.rf (fun p hp => by show zs_ag 7 (M' (17 + p)) (M (17 + p)); rw [e _ (by omega)]; exact zs_ag.rf)
theorem zR.same {M N M' N' : zk_M} (h : zR M N) (hs : zs_same M M') (hm : zs_sm N N') : zR M' N' := by
  obtain ⟨⟨n, h1⟩, h2⟩ := h
  refine ⟨⟨n, ?_⟩, h2.cg (fun o ho => hs o (by omega) (by omega)) hm.2.1 hm.2.2.1 hm.2.2.2.1 hm.2.2.2.2.1 hm.2.2.2.2.2.1 hm.2.2.2.2.2.2.1 hm.2.2.2.2.2.2.2⟩
  show zr (M' 1 2) (M' 1 3) (M' 3) (M' 4) (fun p => M' (6 + p)) (N' 1) n
  rw [hs 1 (by omega) (by omega), hs 3 (by omega) (by omega), hs 4 (by omega) (by omega), hm.1]
  exact h1.cg rfl rfl zs_ag.rf zs_ag.rf (fun p hp => by show zs_ag 7 (M' (6 + p)) (M (6 + p)); rw [hs _ (by omega) (by omega)]; exact zs_ag.rf)
/-- the present county changed, all else as it was -/
theorem zR.main {M N M' : zk_M} {b : Nat → Int32} {n : Nat} (h : zR M N) (hr : zr1 M' b n) (e : ∀ o, o = 0 ∨ (12 ≤ o ∧ o < 23) ∨ (39 ≤ o ∧ o < 43) → M' o = M o) : zR M' (va_up N 1 b) := by
  refine ⟨⟨n, by rw [zk_up_eq]; exact hr⟩, h.2.cg e ?_ ?_ ?_ ?_ ?_ ?_ ?_⟩ <;> rw [zk_up_ne (by decide)]
theorem zR.upR {M N : zk_M} {b f : Nat → Int32} {n p : Nat} (h : zR M N) (hp : p < 6) (hr : zr (M 1 2) (M 1 3) (M 3) (M 4) (va_up (fun p => M (6 + p)) p f) b n) : zR (va_up M (6 + p) f) (va_up N 1 b) := by
  refine h.main (n := n) ?_ (fun o ho => zk_up_ne (by omega))
  show zr (va_up M (6 + p) f 1 2) (va_up M (6 + p) f 1 3) (va_up M (6 + p) f 3) (va_up M (6 + p) f 4) (fun q => va_up M (6 + p) f (6 + q)) b n
  rw [zv_upR, zk_up_ne (by omega), zk_up_ne (by omega), zk_up_ne (by omega)]
  exact hr
theorem zR.ref {M N : zk_M} (h : zR M N) (k : Nat) (hk : k < 7 := by decide) : zR (zs_ref M k) (zs_nof N k) := by
  obtain ⟨⟨n, h1⟩, h2, h3, h4, h5, h6⟩ := h
  refine ⟨⟨n, ?_⟩, ?_⟩
  · show zr (zs_ref M k 1 2) (zs_ref M k 1 3) (zs_ref M k 3) (zs_ref M k 4) (fun p => zs_ref M k (6 + p)) (zs_nof N k 1) n
    unfold zs_ref zs_nof
    rw [zk_up_ne (by decide), zk_up_ne (by decide), zk_up_ne (by decide), zk_up_ne (by decide)]
    exact h1.cg rfl rfl zs_ag.rf zs_ag.rf (fun p hp => by show zs_ag 7 (va_up _ 42 _ (6 + p)) _; rw [zk_up_ne (by omega)]; exact zs_ag.rf)
  · unfold zs_ref zs_nof
    obtain ⟨k1, s1, s2, s3⟩ := h3
    obtain ⟨k2, r1, r2, r3⟩ := h4
    obtain ⟨n', q⟩ := h2
    refine ⟨⟨n', ?_⟩, ⟨k1, ⟨s1.1, by rw [zk_up_ne (by decide)]; exact s1.2⟩, ⟨s2.1, by rw [zk_up_ne (by decide)]; exact s2.2⟩, by rw [zk_up_ne (by decide), zk_up_ne (by decide)]; exact s3⟩, ⟨k2, ⟨r1.1, by rw [zk_up_ne (by decide)]; exact r1.2⟩, ⟨r2.1, by rw [zk_up_ne (by decide)]; exact r2.2⟩, by rw [zk_up_ne (by decide), zk_up_ne (by decide)]; exact r3⟩, ?_, by rw [zk_up_ne (by decide), zk_up_ne (by decide)]; exact h6⟩
    · rw [zk_up_ne (by decide), zk_up_ne (by decide), zk_up_ne (by decide), zk_up_ne (by decide)]
      exact q.cg rfl rfl zs_ag.rf zs_ag.rf (fun p hp => by show zs_ag 7 (va_up _ 42 _ (17 + p)) _; rw [zk_up_ne (by omega)]; exact zs_ag.rf)
    · rw [zk_up_eq, zk_up_eq]
      exact h5.up' (by rw [h5 k hk])
/-- both answer the same, and stand alike behind it -/
def zOi (l : Launch) (μ ν : zk_I) (as : List Value) (M N : zk_M) : Prop := ∃ (d d' : Nat) (x : Int32) (P P' : zk_M → Prop), d ≤ 7 ∧ d' ≤ 7 ∧ (∀ L, zk_C l zc d μ (.ref 0 :: as) M L (fun r M' _ => r = some (.int x) ∧ P M')) ∧ (∀ L, zk_C l zm d' ν (.ref 0 :: as) N L (fun r N' _ => r = some (.int x) ∧ P' N')) ∧ ∀ M' N', P M' → P' N' → zR M' N'
def zOl (l : Launch) (μ ν : zk_I) (as : List Value) (M N : zk_M) : Prop := ∃ (d d' : Nat) (x : Int64) (P P' : zk_M → Prop), d ≤ 7 ∧ d' ≤ 7 ∧ (∀ L, zk_C l zc d μ (.ref 0 :: as) M L (fun r M' _ => r = some (.long x) ∧ P M')) ∧ (∀ L, zk_C l zm d' ν (.ref 0 :: as) N L (fun r N' _ => r = some (.long x) ∧ P' N')) ∧ ∀ M' N', P M' → P' N' → zR M' N'
theorem zOi.mk {l : Launch} {μ ν : zk_I} {as : List Value} {M N M1 N1 : zk_M} {d d' : Nat} {x y : Int32} (hc : ∀ L, zk_C l zc d μ (.ref 0 :: as) M L (zq_i x M1)) (hm : ∀ L, zk_C l zm d' ν (.ref 0 :: as) N L (zp_i y N1)) (e : x = y) (hR : zR M1 N1) (hd : d ≤ 7 := by decide) (hd' : d' ≤ 7 := by decide) : zOi l μ ν as M N :=
  ⟨d, d', x, zs_same M1, zs_sm N1, hd, hd', hc, by subst e; exact hm, fun _ _ h h' => hR.same h h'⟩
theorem zOl.mk {l : Launch} {μ ν : zk_I} {as : List Value} {M N M1 N1 : zk_M} {d d' : Nat} {x y : Int64} (hc : ∀ L, zk_C l zc d μ (.ref 0 :: as) M L (zq_l x M1)) (hm : ∀ L, zk_C l zm d' ν (.ref 0 :: as) N L (zp_l y N1)) (e : x = y) (hR : zR M1 N1) (hd : d ≤ 7 := by decide) (hd' : d' ≤ 7 := by decide) : zOl l μ ν as M N :=
  ⟨d, d', x, zs_same M1, zs_sm N1, hd, hd', hc, by subst e; exact hm, fun _ _ h h' => hR.same h h'⟩
