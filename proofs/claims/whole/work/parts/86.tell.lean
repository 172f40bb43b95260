/-! the telling: the class's letters and the reference's -/
def zv_ck (h : Nat → Int32) (st : Nat) : Nat → Nat → Bool × Nat
  | 0, b => (true, st + b)
  | m + 1, b => if zs_fit (h st) (h (st + b)) b = true then zv_ck h st m (b + 1) else (false, st + b)
set_option maxRecDepth 100000 in
set_option maxHeartbeats 4000000 in
theorem zv_st {h : Nat → Int32} {st : Nat} : zu_st h st = zv_ck h st (zs_lt (h st) + 1) 0 := by
  by_cases h1 : h st = 97
  · rw [zu_st_A (Or.inl h1), h1]; simp [zu_chk, zv_ck, zs_fit, h1, zs_lt]
  by_cases h2 : h st = 114
  · rw [zu_st_A (Or.inr (Or.inl h2)), h2]; simp [zu_chk, zv_ck, zs_fit, h2, zs_lt]
  by_cases h3 : h st = 119
  · rw [zu_st_A (Or.inr (Or.inr (Or.inl h3))), h3]; simp [zu_chk, zv_ck, zs_fit, h3, zs_lt]
  by_cases h4 : h st = 100
  · rw [zu_st_A (Or.inr (Or.inr (Or.inr h4))), h4]; simp [zu_chk, zv_ck, zs_fit, h4, zs_lt]
  by_cases h5 : h st = 104
  · rw [zu_st_h h5, h5]; simp [zu_chk, zv_ck, zs_fit, h5, zs_lt]
  by_cases h6 : h st = 115
  · rw [zu_st_s h6, h6]; simp [zu_chk, zv_ck, zs_fit, h6, zs_lt]
  rw [zu_st_0 h1 h4 h5 h2 h6 h3]
  simp [zv_ck, zs_fit, zs_lt, h1, h2, h3, h4, h5, h6]
theorem zv_fit_m1 {o : Int32} {b : Nat} (h : b = 0 → o = -1) : ¬ zs_fit o (-1) b = true := by
  unfold zs_fit
  split
  · next c => rw [h c]; decide
  · split
    · decide
    · split <;> decide
theorem zv_fit_59 {o c : Int32} {b : Nat} (f : zs_fit o c b = true) (hb : b < zs_lt o) (h0 : b = 0 → c = o) : ¬ c = 59 := fun e => by
  subst e
  by_cases c0 : b = 0
  · have := h0 c0
    subst this
    exact absurd hb (by rw [show zs_lt 59 = 0 by decide]; omega)
  · by_cases c1 : b = 1 ∧ o = 104
    · exact absurd ((zs_fit_k c0 (by omega) c1).mp f) (by decide)
    · exact absurd ((zs_fit_d c0 (by omega) c1).mp f) (by decide)
theorem zv_h_hi {R : Nat → Int32} {k i : Nat} (h : ¬ i < k) : zu_h R k i = -1 := if_neg h
theorem zv_fit_lt {R : Nat → Int32} {k st b : Nat} (f : zs_fit (zu_h R k st) (zu_h R k (st + b)) b = true) : st + b < k := Classical.byContradiction (fun q => by
  rw [zv_h_hi q] at f
  exact zv_fit_m1 (fun e => zv_h_hi (by omega)) f)
theorem zv_ck_t {R : Nat → Int32} {k st : Nat} : ∀ (m b : Nat), (zv_ck (zu_h R k) st (m + 1) b).1 = true → (zv_ck (zu_h R k) st (m + 1) b).2 = st + b + m + 1 ∧ st + b + m < k
  | 0, b, e => by
    unfold zv_ck at e ⊢
    by_cases f : zs_fit (zu_h R k st) (zu_h R k (st + b)) b = true
    · rw [if_pos f]; exact ⟨rfl, by have := zv_fit_lt f; omega⟩
    · rw [if_neg f] at e; cases e
  | m + 1, b, e => by
    rw [zv_ck] at e ⊢
    by_cases f : zs_fit (zu_h R k st) (zu_h R k (st + b)) b = true
    · rw [if_pos f] at e ⊢
      obtain ⟨h1, h2⟩ := zv_ck_t m (b + 1) e
      exact ⟨by rw [h1]; omega, by omega⟩
    · rw [if_neg f] at e; cases e
theorem zv_ck_f {R : Nat → Int32} {k st : Nat} : ∀ (m b : Nat), st + b ≤ k → ¬ (zv_ck (zu_h R k) st m b).1 = true → (zv_ck (zu_h R k) st m b).2 ≤ k
  | 0, b, _, e => absurd rfl e
  | m + 1, b, hb, e => by
    unfold zv_ck at e ⊢
    by_cases f : zs_fit (zu_h R k st) (zu_h R k (st + b)) b = true
    · rw [if_pos f] at e ⊢
      exact zv_ck_f m (b + 1) (by have := zv_fit_lt f; omega) e
    · rw [if_neg f]; exact hb
theorem zv_sg {S R : Nat → Int32} {k i : Nat} (e : zs_ag k S R) (h : i < k) : zs_sg S k i = zu_h R k i := by
  rw [zs_sg, zu_h, if_pos h, if_pos h, e i h]
theorem zv_scan {S R : Nat → Int32} {k : Nat} (e : zs_ag k S R) {st : Nat} (hst : st < k) : ∀ (m b : Nat), b + m = zs_lt (zu_h R k st) → st + b ≤ k → zs_fu S k (k - (st + b)) (st + b) st = if (zv_ck (zu_h R k) st (m + 1) b).1 = true then zs_fu S k (k - (zv_ck (zu_h R k) st (m + 1) b).2) (zv_ck (zu_h R k) st (m + 1) b).2 (zv_ck (zu_h R k) st (m + 1) b).2 else nI (zv_ck (zu_h R k) st (m + 1) b).2
  | m, b, hm, hb => by
    by_cases hk : st + b < k
    · rw [show k - (st + b) = (k - (st + b + 1)) + 1 by omega, zs_fu, zv_sg e hst, zv_sg e hk, Nat.add_sub_cancel_left, zv_ck]
      by_cases f : zs_fit (zu_h R k st) (zu_h R k (st + b)) b = true
      · rw [if_pos f, if_pos f]
        cases m with
        | zero =>
          have b0 : ¬ b = 0 := fun c => by have := (zs_fit_0 c).mp f; omega
          have c59 := (zs_fit_l b0 (by omega)).mp f
          rw [if_pos c59]
          show _ = if true = true then zs_fu S k (k - (st + (b + 1))) (st + (b + 1)) (st + (b + 1)) else _
          rw [if_pos rfl]
          rfl
        | succ m =>
          rw [if_neg (zv_fit_59 f (by omega) (fun c => by subst c; rfl))]
          exact zv_scan e hst m (b + 1) (by omega) (by omega)
      · rw [if_neg f, if_neg f]
        show _ = if false = true then _ else nI (st + b)
        rw [if_neg (by decide)]
    · have ek : st + b = k := by omega
      have f : ¬ zs_fit (zu_h R k st) (zu_h R k (st + b)) b = true := fun f => hk (zv_fit_lt f)
      rw [zv_ck, if_neg f, ek, Nat.sub_self, zs_fu, if_neg (by omega)]
      show _ = if false = true then _ else nI k
      rw [if_neg (by decide)]
theorem zv_scan0 {S R : Nat → Int32} {k : Nat} (e : zs_ag k S R) {st : Nat} (hst : st < k) : zs_fu S k (k - st) st st = if (zu_st (zu_h R k) st).1 = true then zs_fu S k (k - (zu_st (zu_h R k) st).2) (zu_st (zu_h R k) st).2 (zu_st (zu_h R k) st).2 else nI (zu_st (zu_h R k) st).2 := by
  rw [zv_st]
  exact zv_scan e hst (zs_lt (zu_h R k st)) 0 (by omega) (by omega)
theorem zv_next {R : Nat → Int32} {k st : Nat} (f : (zu_st (zu_h R k) st).1 = true) : (zu_st (zu_h R k) st).2 = st + zs_lt (zu_h R k st) + 1 ∧ st + zs_lt (zu_h R k st) < k := by
  rw [zv_st] at f ⊢
  obtain ⟨h1, h2⟩ := zv_ck_t _ _ f
  exact ⟨by rw [h1]; omega, by omega⟩
theorem zv_fault {R : Nat → Int32} {k st : Nat} (hst : st ≤ k) (f : ¬ (zu_st (zu_h R k) st).1 = true) : (zu_st (zu_h R k) st).2 ≤ k := by
  rw [zv_st] at f ⊢
  exact zv_ck_f _ _ (by omega) f
theorem zv_p1 {S R : Nat → Int32} {k : Nat} (e : zs_ag k S R) : ∀ (m st c : Nat), st < k → k - st < m → (zs_fu S k (k - st) st st = -9 ∧ (zu_p1 (zu_h R k) k m st c).1 = -9) ∨ ∃ i, i ≤ k ∧ zs_fu S k (k - st) st st = nI i ∧ (zu_p1 (zu_h R k) k m st c).1 = -1000 - nI i
  | 0, st, c, _, hm => absurd hm (by omega)
  | m + 1, st, c, hst, hm => by
    rw [zv_scan0 e hst, zu_p1]
    by_cases f : (zu_st (zu_h R k) st).1 = true
    · rw [if_pos f, if_pos f]
      obtain ⟨h1, h2⟩ := zv_next f
      by_cases g : (zu_st (zu_h R k) st).2 < k
      · rw [if_pos g]
        exact zv_p1 e m _ (c + 1) g (by omega)
      · rw [if_neg g, show (zu_st (zu_h R k) st).2 = k by omega, Nat.sub_self]
        left
        exact ⟨by rw [zs_fu, if_pos ⟨by omega, rfl⟩], rfl⟩
    · rw [if_neg f, if_neg f]
      right
      exact ⟨_, zv_fault (by omega) f, rfl, rfl⟩
/-! a statement done -/
abbrev zr23 (M : zk_M) (a : Nat → Int32) (n : Nat) : Prop := zr (M 23 2) (M 23 3) (M 25) (M 26) (fun p => M (28 + p)) a n
def zv_fr (M M' : zk_M) : Prop := ∀ o, o < 23 ∨ 33 < o → M' o = M o
theorem zr23.upR {M : zk_M} {n p : Nat} (hp : p < 6) {f : Nat → Int32} {b : Nat → Int32} (h : zr (M 23 2) (M 23 3) (M 25) (M 26) (va_up (fun p => M (28 + p)) p f) b n) : zr23 (va_up M (28 + p) f) b n ∧ zv_fr M (va_up M (28 + p) f) := by
  refine ⟨?_, fun o ho => zk_up_ne (by omega)⟩
  show zr (va_up M (28 + p) f 23 2) (va_up M (28 + p) f 23 3) (va_up M (28 + p) f 25) (va_up M (28 + p) f 26) (fun q => va_up M (28 + p) f (28 + q)) b n
  rw [zv_upR, zk_up_ne (by omega), zk_up_ne (by omega), zk_up_ne (by omega)]
  exact h
theorem zv_do {M : zk_M} {S R a : Nat → Int32} {n k st : Nat} (h : zr23 M a n) (e : zs_ag k S R) (f : (zu_st (zu_h R k) st).1 = true) : (zs_ts M n S k st = none ∧ zu_do a n (zu_h R k st) (zu_nums (zu_h R k) st) = none) ∨ ∃ M' a' n', zs_ts M n S k st = some M' ∧ zu_do a n (zu_h R k st) (zu_nums (zu_h R k) st) = some a' ∧ zr23 M' a' n' ∧ zv_fr M M' := by
  have six := zu_st_six f
  obtain ⟨-, hl⟩ := zv_next f
  have kl := zu_st_kl f
  unfold zs_ts
  rw [zv_sg e (show st < k by omega)]
  generalize ho : zu_h R k st = o at six hl kl ⊢
  rcases six with rfl | rfl | rfl | rfl | rfl | rfl
  · rw [show zs_lt 97 = 3 by decide] at hl
    rw [zs_tsx_a, zu_do_a, zv_sg e (show st + 1 < k by omega), zv_sg e (show st + 2 < k by omega)]
    have n0 : zu_nums (zu_h R k) st 0 = zu_h R k (st + 1) - 48 := by rw [zu_nums, if_neg (by rw [ho]; decide), if_neg (by rw [ho]; decide)]
    have n1 : zu_nums (zu_h R k) st 1 = zu_h R k (st + 2) - 48 := by rw [zu_nums, if_neg (by rw [ho]; decide), if_neg (by rw [ho]; decide)]
    rw [n0, n1]
    by_cases c : zs_isr (nI n) (zu_h R k (st + 1) - 48) ∧ zs_p (zu_h R k (st + 2) - 48)
    · right
      rw [if_pos c, if_pos c]
      obtain ⟨p, hp, ep⟩ := zs_isr_nI h.1.1 c.1
      have hp6 := h.lt hp
      rw [ep, nI_clamp (by omega)]
      exact ⟨_, _, n, rfl, rfl, zr23.upR hp6 (zs_stand_n h hp6 c.2)⟩
    · left; rw [if_neg c, if_neg c]; exact ⟨rfl, rfl⟩
  · rw [show zs_lt 100 = 3 by decide] at hl
    rw [zs_tsx_d, zu_do_d, zv_sg e (show st + 1 < k by omega), zv_sg e (show st + 2 < k by omega)]
    have n0 : zu_nums (zu_h R k) st 0 = 10 * (zu_h R k (st + 1) - 48) + (zu_h R k (st + 2) - 48) := by rw [zu_nums, if_neg (by rw [ho]; decide), if_pos ho]
    rw [n0, h.2.2.1]
    by_cases c : 1 ≤ 10 * (zu_h R k (st + 1) - 48) + (zu_h R k (st + 2) - 48) ∧ 10 * (zu_h R k (st + 1) - 48) + (zu_h R k (st + 2) - 48) ≤ 60 ∧ a 1 + (10 * (zu_h R k (st + 1) - 48) + (zu_h R k (st + 2) - 48)) ≤ 999
    · right
      rw [if_pos c, if_pos c]
      refine ⟨_, _, n, rfl, rfl, ?_⟩
      generalize (10 * (zu_h R k (st + 1) - 48) + (zu_h R k (st + 2) - 48)).toNatClampNeg = t
      have P := fun o => zv_pass_at (b := 28) (j := 25) (s := 26) (c := 23) (n := n) (t := t) (M := M) (by decide) (by decide) (by decide) (by decide) (by decide) o
      have hn := h.1.1
      rw [zc_pass23]
      refine ⟨?_, fun o ho => by rw [P, if_neg (by omega), if_neg (by omega)]⟩
      refine (h.days (t := t) (R' := fun p => zv_pass 28 25 26 23 n t M (28 + p)) (fun p hp => ?_)).cg ?_ ?_ ?_ ?_ (fun p hp => zs_ag.rf)
      · show zv_pass 28 25 26 23 n t M (28 + p) = _
        rw [P]
        by_cases q : p < n
        · rw [if_pos (by omega), if_pos q]
        · rw [if_neg (by omega), if_neg (by omega), if_neg q]
      · rw [P, if_neg (by omega), if_pos rfl, zk_up_ne (by decide)]
      · rw [P, if_neg (by omega), if_pos rfl, zk_up_eq]
      · rw [P, if_neg (by omega), if_neg (by decide)]; exact zs_ag.rf
      · rw [P, if_neg (by omega), if_neg (by decide)]; exact zs_ag.rf
    · left; rw [if_neg c, if_neg c]; exact ⟨rfl, rfl⟩
  · rw [show zs_lt 104 = 6 by decide] at hl
    rw [zs_tsx_h, zu_do_h, zv_sg e (show st + 1 < k by omega), zv_sg e (show st + 2 < k by omega), zv_sg e (show st + 3 < k by omega), zv_sg e (show st + 4 < k by omega), zv_sg e (show st + 5 < k by omega)]
    have hk := zs_kl6 (kl rfl)
    have n0 : zu_nums (zu_h R k) st 0 = zs_kl (zu_h R k (st + 1)) := by rw [zu_nums, if_pos ho, if_pos rfl]
    have n1 : zu_nums (zu_h R k) st 1 = zu_h R k (st + 2) - 48 := by rw [zu_nums, if_pos ho, if_neg (by decide)]
    have n2 : zu_nums (zu_h R k) st 2 = zu_h R k (st + 3) - 48 := by rw [zu_nums, if_pos ho, if_neg (by decide)]
    have n3 : zu_nums (zu_h R k) st 3 = zu_h R k (st + 4) - 48 := by rw [zu_nums, if_pos ho, if_neg (by decide)]
    have n4 : zu_nums (zu_h R k) st 4 = zu_h R k (st + 5) - 48 := by rw [zu_nums, if_pos ho, if_neg (by decide)]
    unfold zu_new
    rw [n0, n1, n2, n3, n4]
    by_cases c : n < 6 ∧ zs_p (zu_h R k (st + 3) - 48) ∧ zs_p (zu_h R k (st + 4) - 48) ∧ zs_p (zu_h R k (st + 5) - 48)
    · right
      rw [if_pos c, if_pos ⟨c.2.1, c.2.2.1, c.2.2.2, c.1⟩]
      refine ⟨_, _, n + 1, rfl, rfl, ?_, fun o ho => by rw [zk_up_ne (by omega), zk_up_ne (by omega)]⟩
      have hh := h.new c.1 hk c.2.1 c.2.2.1 c.2.2.2 (g := zu_h R k (st + 2) - 48)
      refine hh.cg ?_ ?_ ?_ ?_ (fun p hp => ?_)
      · rw [zk_up_eq, zk_up_eq]
      · rw [zk_up_eq, zk_up_ne (by decide)]
      · rw [zk_up_ne (by decide), zk_up_ne (by omega)]; exact zs_ag.rf
      · rw [zk_up_ne (by decide), zk_up_ne (by omega)]; exact zs_ag.rf
      · show zs_ag 7 (va_up _ 23 _ (28 + p)) _
        rw [zk_up_ne (by omega), ← zv_upR]
        exact zs_ag.rf
    · left; rw [if_neg c, if_neg (fun q => c ⟨q.2.2.2, q.1, q.2.1, q.2.2.1⟩)]; exact ⟨rfl, rfl⟩
  · rw [show zs_lt 114 = 3 by decide] at hl
    rw [zs_tsx_r, zu_do_r, zv_sg e (show st + 1 < k by omega), zv_sg e (show st + 2 < k by omega)]
    have n0 : zu_nums (zu_h R k) st 0 = zu_h R k (st + 1) - 48 := by rw [zu_nums, if_neg (by rw [ho]; decide), if_neg (by rw [ho]; decide)]
    have n1 : zu_nums (zu_h R k) st 1 = zu_h R k (st + 2) - 48 := by rw [zu_nums, if_neg (by rw [ho]; decide), if_neg (by rw [ho]; decide)]
    rw [n0, n1]
    by_cases c : zs_p (zu_h R k (st + 1) - 48) ∧ zs_p (zu_h R k (st + 2) - 48) ∧ ¬ zu_h R k (st + 1) - 48 = zu_h R k (st + 2) - 48
    · right
      rw [if_pos c, if_pos c]
      refine ⟨_, _, n, rfl, rfl, ?_, fun o ho => by rw [zk_up_ne (by omega), zk_up_ne (by omega)]⟩
      refine (h.turn c.1 c.2.1 (T' := M 26)).cg ?_ ?_ ?_ ?_ (fun p hp => ?_)
      · rw [zk_up_ne (by decide), zk_up_ne (by decide)]
      · rw [zk_up_ne (by decide), zk_up_ne (by decide)]
      · rw [zk_up_ne (by decide), zk_up_eq]; exact zs_ag.rf
      · rw [zk_up_eq]; exact zs_ag.rf
      · show zs_ag 7 (va_up _ 26 _ (28 + p)) _
        rw [zk_up_ne (by omega), zk_up_ne (by omega)]; exact zs_ag.rf
    · left; rw [if_neg c, if_neg c]; exact ⟨rfl, rfl⟩
  · rw [show zs_lt 115 = 2 by decide] at hl
    rw [zs_tsx_s, zu_do_s, zv_sg e (show st + 1 < k by omega)]
    have n0 : zu_nums (zu_h R k) st 0 = zu_h R k (st + 1) - 48 := by rw [zu_nums, if_neg (by rw [ho]; decide), if_neg (by rw [ho]; decide)]
    rw [n0]
    by_cases c : zs_isr (nI n) (zu_h R k (st + 1) - 48)
    · right
      rw [if_pos c, if_pos c]
      obtain ⟨p, hp, ep⟩ := zs_isr_nI h.1.1 c
      have hp6 := h.lt hp
      rw [ep, nI_clamp (by omega)]
      exact ⟨_, _, n, rfl, rfl, zr23.upR hp6 (zs_shod_n h hp6)⟩
    · left; rw [if_neg c, if_neg c]; exact ⟨rfl, rfl⟩
  · rw [show zs_lt 119 = 3 by decide] at hl
    rw [zs_tsx_w, zu_do_w, zv_sg e (show st + 1 < k by omega), zv_sg e (show st + 2 < k by omega)]
    have n0 : zu_nums (zu_h R k) st 0 = zu_h R k (st + 1) - 48 := by rw [zu_nums, if_neg (by rw [ho]; decide), if_neg (by rw [ho]; decide)]
    have n1 : zu_nums (zu_h R k) st 1 = zu_h R k (st + 2) - 48 := by rw [zu_nums, if_neg (by rw [ho]; decide), if_neg (by rw [ho]; decide)]
    rw [n0, n1]
    by_cases c : zs_isr (nI n) (zu_h R k (st + 1) - 48) ∧ zs_p (zu_h R k (st + 2) - 48)
    · right
      rw [if_pos c, if_pos c]
      obtain ⟨p, hp, ep⟩ := zs_isr_nI h.1.1 c.1
      have hp6 := h.lt hp
      rw [ep, nI_clamp (by omega)]
      exact ⟨_, _, n, rfl, rfl, zr23.upR hp6 (zs_want_n h hp6 c.2)⟩
    · left; rw [if_neg c, if_neg c]; exact ⟨rfl, rfl⟩
theorem zv_fr.tr {M M' M'' : zk_M} (h : zv_fr M M') (h' : zv_fr M' M'') : zv_fr M M'' := fun o ho => (h' o ho).trans (h o ho)
theorem zv_m2000 {j : Nat} (h : j < 300) : ((-2000 : Int32) - nI j) < 0 ∧ ((-1000 : Int32) - nI j) < 0 := by
  have c1 : (-1000 : Int32).toInt = -1000 := by decide
  have c2 : (-2000 : Int32).toInt = -2000 := by decide
  have c0 : (0 : Int32).toInt = 0 := by decide
  refine ⟨?_, ?_⟩
  · rw [Int32.lt_iff_toInt_lt, Kit.i32_sub (by rw [nI_toInt (by omega), c2]; omega) (by rw [nI_toInt (by omega), c2]; omega), nI_toInt (by omega), c2, c0]; omega
  · rw [Int32.lt_iff_toInt_lt, Kit.i32_sub (by rw [nI_toInt (by omega), c1]; omega) (by rw [nI_toInt (by omega), c1]; omega), nI_toInt (by omega), c1, c0]; omega
theorem zv_tt_end {S : Nat → Int32} {k m c : Nat} {M : zk_M} : zs_tt S k m M k c = (nI c, M) := by
  cases m with
  | zero => rfl
  | succ m => rw [zs_tt, if_neg (by omega)]
theorem zv_p2_end {h : Nat → Int32} {k m : Nat} {a : Nat → Int32} : zu_p2 h k m k a = (-9, some a) := by
  cases m with
  | zero => rfl
  | succ m => rw [zu_p2, if_neg (by omega)]
theorem zv_p2 {S R : Nat → Int32} {k : Nat} (hk : k ≤ 96) (e : zs_ag k S R) : ∀ (m st c : Nat) (M : zk_M) (a : Nat → Int32) (n : Nat), st < k → k - st < m → (zu_p1 (zu_h R k) k m st c).1 = -9 → zr23 M a n →
    ((zu_p2 (zu_h R k) k m st a).1 = -9 ∧ (zs_tt S k m M st c).1 = nI (zu_p1 (zu_h R k) k m st c).2 ∧ (zu_p1 (zu_h R k) k m st c).2 ≤ c + m ∧ ∃ a' n', (zu_p2 (zu_h R k) k m st a).2 = some a' ∧ zr23 (zs_tt S k m M st c).2 a' n' ∧ zv_fr M (zs_tt S k m M st c).2) ∨
    (¬ (zu_p2 (zu_h R k) k m st a).1 = -9 ∧ (zs_tt S k m M st c).1 = (zu_p2 (zu_h R k) k m st a).1 ∧ (zs_tt S k m M st c).1 < 0 ∧ (zu_p2 (zu_h R k) k m st a).2 = none ∧ zv_fr M (zs_tt S k m M st c).2)
  | 0, st, c, _, _, _, _, hm, _, _ => absurd hm (by omega)
  | m + 1, st, c, M, a, n, hst, hm, hp, h => by
    rw [zu_p1] at hp ⊢
    by_cases f : (zu_st (zu_h R k) st).1 = true
    · rw [if_pos f] at hp ⊢
      obtain ⟨h1, h2⟩ := zv_next f
      have en : (M 23 2).toNatClampNeg = n := by rw [h.2.1, nI_clamp (by have := h.1.1; omega)]
      have en' := h.1.tn
      rcases zv_do h e f with ⟨q1, q2⟩ | ⟨M', a', n', q1, q2, hr, hf⟩
      · right
        rw [zs_tt_n hst (by rw [en]; exact q1), zu_p2_n hst (by rw [en']; exact q2)]
        exact ⟨(zs_mk (by omega)).2, rfl, (zv_m2000 (by omega)).1, rfl, fun _ _ => rfl⟩
      · rw [zs_tt_s hst (by rw [en]; exact q1), zu_p2_s hst (by rw [en']; exact q2), zv_sg e hst, ← h1]
        by_cases g : (zu_st (zu_h R k) st).2 < k
        · rw [if_pos g] at hp ⊢
          rcases zv_p2 hk e m _ (c + 1) M' a' n' g (by omega) hp hr with ⟨r1, r2, r3, a2, n2, r4, r5, r6⟩ | ⟨r1, r2, r3, r4, r5⟩
          · left; exact ⟨r1, r2, by omega, a2, n2, r4, r5, hf.tr r6⟩
          · right; exact ⟨r1, r2, r3, r4, hf.tr r5⟩
        · left
          rw [if_neg g, show (zu_st (zu_h R k) st).2 = k by omega, zv_tt_end, zv_p2_end]
          exact ⟨rfl, rfl, by show c + 1 ≤ _; omega, a', n', rfl, hr, hf⟩
    · rw [if_neg f] at hp
      exact absurd hp (zs_mk (by have := zv_fault (by omega) f; omega)).1
