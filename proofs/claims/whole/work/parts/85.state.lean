/-! the relation kept by what changes a county -/
theorem zr.cg {cnt day cnt' day' : Int32} {J T J' T' : Nat → Int32} {R R' : Nat → Nat → Int32} {a : Nat → Int32} {n : Nat} (h : zr cnt day J T R a n) (hc : cnt' = cnt) (hd : day' = day) (hJ : zs_ag 8 J' J) (hT : zs_ag 64 T' T) (hR : ∀ p, p < 6 → zs_ag 7 (R' p) (R p)) : zr cnt' day' J' T' R' a n :=
  ⟨h.1, hc.trans h.2.1, hd.trans h.2.2.1, hJ.tr h.J, hT.tr h.T, fun p hp => (hR p hp).tr (h.F hp), h.2.2.2.2.2.2.1, h.2.2.2.2.2.2.2⟩
theorem zv_ag52 {a a' : Nat → Int32} (e : zs_ag 52 a a') : zs_ag 8 (zs_J a) (zs_J a') ∧ ∀ p, p < 6 → zs_ag 7 (zs_get a p) (zs_get a' p) := ⟨fun i hi => e _ (by omega), fun p hp i hi => e _ (by omega)⟩
theorem zs_rg_ag {f g : Nat → Int32} (e : zs_ag 7 f g) (h : zs_rg f) : zs_rg g := by
  unfold zs_rg
  rw [← e 5 (by decide), ← e 6 (by decide)]
  exact h
theorem zr.ag {cnt day : Int32} {J T : Nat → Int32} {R : Nat → Nat → Int32} {a a' : Nat → Int32} {n : Nat} (h : zr cnt day J T R a n) (e : zs_ag 52 a a') : zr cnt day J T R a' n := by
  obtain ⟨eJ, eF⟩ := zv_ag52 e
  refine ⟨⟨h.1.1, by rw [← e 0 (by decide)]; exact h.1.2.1, fun p hp => zs_okk_ag (eF p hp) (h.1.2.2 p hp)⟩, h.2.1, by rw [← e 1 (by decide)]; exact h.2.2.1, h.J.tr eJ, h.T.tr (zs_fw_ag eJ _ _), fun p hp => (h.F hp).tr (eF p hp), fun i hi => by rw [← eJ i hi]; exact h.B hi, fun p hp => zs_rg_ag (eF p hp) (h.G hp)⟩
theorem zv_turn_lo {J : Nat → Int32} (hB : ∀ i, i < 8 → 0 ≤ J i ∧ J i < 256) {x y : Int32} (hx : zs_p x) (hy : zs_p y) : ∀ i, i < 8 → 0 ≤ zs_turn J x y i ∧ zs_turn J x y i < 256 := by
  obtain ⟨u, hu, rfl⟩ := zs_p_of hx
  obtain ⟨v, hv, rfl⟩ := zs_p_of hy
  have one : ∀ (z : Int32) (w : Nat), w < 8 → ((0 : Int32) ≤ z ∧ z < 256) → (0 : Int32) ≤ z ^^^ 1 <<< (nI w &&& 31) ∧ z ^^^ 1 <<< (nI w &&& 31) < 256 := fun z w hw hz => by
    obtain ⟨k, hk, rfl⟩ := zv_nIof hz
    rw [(zs_2k (k := w) (by omega)).1, zv_xorN]
    exact zv_256N (Nat.xor_lt_two_pow (n := 8) hk (by have := (zs_2k (k := w) (by omega)).2; omega))
  intro i hi
  unfold zs_turn
  rw [nI_clamp (by omega), nI_clamp (by omega)]
  have s1 : ∀ i, i < 8 → (0 : Int32) ≤ va_up J u (J u ^^^ 1 <<< (nI v &&& 31)) i ∧ va_up J u (J u ^^^ 1 <<< (nI v &&& 31)) i < 256 := fun i hi => by
    by_cases c : i = u
    · subst c; rw [zk_up_eq]; exact one _ _ hv (hB _ hi)
    · rw [zk_up_ne c]; exact hB i hi
  by_cases c : i = v
  · subst c; rw [zk_up_eq]; exact one _ _ hu (s1 _ hi)
  · rw [zk_up_ne c]; exact s1 i hi
theorem zv_trn1 {a : Nat → Int32} {x y : Int32} : zs_trn a x y 1 = a 1 := by
  unfold zs_trn
  rw [zk_up_ne (by omega), zk_up_ne (by omega)]
theorem zr.turn {cnt day : Int32} {J T : Nat → Int32} {R : Nat → Nat → Int32} {a : Nat → Int32} {n : Nat} (h : zr cnt day J T R a n) {x y : Int32} (hx : zs_p x) (hy : zs_p y) {T' : Nat → Int32} : zr cnt day (zs_turn J x y) (zs_fw (zs_turn J x y) T') R (zs_trn a x y) n := by
  refine ⟨h.1.trn hx hy, h.2.1, by rw [zv_trn1]; exact h.2.2.1, by rw [zs_J_trn]; exact zs_turn_ag h.J hx hy, by rw [zs_J_trn]; exact zs_fw_ag (zs_turn_ag h.J hx hy) _ _, fun p hp => by rw [zs_get_trn hx hy]; exact h.F hp, by rw [zs_J_trn]; exact zv_turn_lo (fun i hi => h.B hi) hx hy, fun p hp => by rw [zs_get_trn hx hy]; exact h.G hp⟩
theorem zr.put {cnt day : Int32} {J T : Nat → Int32} {R : Nat → Nat → Int32} {a : Nat → Int32} {n : Nat} (h : zr cnt day J T R a n) {p : Nat} {f g : Nat → Int32} (e : zs_ag 7 f g) (ok : zs_okk g) (rg : zs_rg g) : zr cnt day J T (va_up R p f) (zs_put a p g) n := by
  refine ⟨h.1.put ok, h.2.1, by rw [zs_put_lo (by decide)]; exact h.2.2.1, h.J.tr zs_J_put.sm, h.T.tr (zs_fw_ag zs_J_put.sm _ _), fun q hq => ?_, fun i hi => by rw [zs_J_put i hi]; exact h.B hi, fun q hq => ?_⟩
  · by_cases c : q = p
    · subst c; rw [zk_up_eq]; exact e.tr zs_get_put.sm
    · rw [zk_up_ne c]; exact (h.F hq).tr (zs_get_put_ne c).sm
  · by_cases c : q = p
    · subst c; exact zs_rg_ag zs_get_put.sm rg
    · exact zs_rg_ag (zs_get_put_ne c).sm (h.G hq)
theorem zv_upR {M : zk_M} {b p : Nat} {f : Nat → Int32} : (fun q => va_up M (b + p) f (b + q)) = va_up (fun q => M (b + q)) p f := by
  funext q
  by_cases c : q = p
  · subst c; rw [zk_up_eq, zk_up_eq]
  · rw [zk_up_ne c, zk_up_ne (by omega)]
theorem zv_upR' {M : zk_M} {b o : Nat} {f : Nat → Int32} (h : o < b) : (fun q => va_up M o f (b + q)) = fun q => M (b + q) := funext fun q => zk_up_ne (by omega)
theorem zs_sk_rg (k : Int32) : 0 ≤ zs_sk k ∧ zs_sk k ≤ 4 := by
  unfold zs_sk
  split
  · decide
  · split
    · decide
    · split
      · decide
      · split
        · decide
        · split <;> decide
theorem zs_shod_rg (f : Nat → Int32) : zs_rg (zs_shod f) := by
  unfold zs_rg zs_shod
  rw [show va_up (va_up f 5 (zs_sk (f 0))) 6 0 5 = zs_sk (f 0) by rw [zk_up_ne (by decide), zk_up_eq], show va_up (va_up f 5 (zs_sk (f 0))) 6 0 6 = 0 from zk_up_eq]
  exact ⟨zs_sk_rg _, by decide, by decide⟩
theorem zs_rg_up {f : Nat → Int32} {k : Nat} {v : Int32} (h : zs_rg f) (h5 : k ≠ 5) (h6 : k ≠ 6) : zs_rg (va_up f k v) := by
  unfold zs_rg
  rw [zk_up_ne h5.symm, zk_up_ne h6.symm]
  exact h
theorem zs_w_rg {x : Int32} (h0 : 0 ≤ x) (h9 : x ≤ 99) : 0 ≤ zs_w x ∧ zs_w x ≤ 99 := by
  obtain ⟨k, hk, rfl⟩ := nI_of2 (x := x) (M := 99) (n := 99) rfl (zs_nlt0 h0) h9
  unfold zs_w
  rw [nI_1]
  split
  · decide
  · next c =>
    have c' : k + 1 ≤ 99 := Classical.byContradiction (fun q => c (nI_lt (a := 99) (by omega) (by omega)))
    exact ⟨nI_pos' (by omega), nI_le (b := 99) c' (by decide)⟩
theorem zs_wear_rg {f : Nat → Int32} (h : zs_rg f) : zs_rg (zs_wear f) := by
  have hw := zs_w_rg h.2.1 h.2.2
  unfold zs_wear
  split
  · next c =>
    obtain ⟨k, hk, e⟩ := nI_of2 (x := f 5) (M := 4) (n := 4) rfl (zs_nlt0 h.1.1) h.1.2
    have k0 : 0 < k := Classical.byContradiction (fun q => by
      have c2 := c.2.2
      rw [e, show k = 0 by omega] at c2
      exact absurd c2 (by decide))
    have e5 : f 5 - 1 = nI (k - 1) := by rw [e, show k = (k - 1) + 1 by omega]; exact nI_pred _
    unfold zs_rg
    rw [zk_up_eq, zk_up_ne (by decide), zk_up_eq, e5]
    exact ⟨⟨nI_pos' (by omega), nI_le (b := 4) (by omega) (by decide)⟩, hw⟩
  · unfold zs_rg
    rw [zk_up_eq, zk_up_ne (by decide)]
    exact ⟨h.1, hw⟩
theorem zs_ride_rg {J T f : Nat → Int32} (h : zs_rg f) : zs_rg (zs_ride J T f) := zs_rg_up (zs_wear_rg h) (by decide) (by decide)
theorem zs_rides_rg {J T : Nat → Int32} : ∀ (n : Nat) (f : Nat → Int32), zs_rg f → zs_rg (zs_rides J T n f)
  | 0, _, h => h
  | n + 1, f, h => zs_rides_rg n _ (zs_ride_rg h)
theorem zs_shod_n {cnt day : Int32} {J T : Nat → Int32} {R : Nat → Nat → Int32} {a : Nat → Int32} {n : Nat} (h : zr cnt day J T R a n) {p : Nat} (hp : p < 6) : zr cnt day J T (va_up R p (zs_shod (R p))) (zs_put a p (zs_shod (zs_get a p))) n := h.put (zs_shod_ag (h.F hp)) (zs_shod_okk (h.1.2.2 p hp)) (zs_shod_rg _)
theorem zs_want_n {cnt day : Int32} {J T : Nat → Int32} {R : Nat → Nat → Int32} {a : Nat → Int32} {n : Nat} (h : zr cnt day J T R a n) {p : Nat} (hp : p < 6) {x : Int32} (hx : zs_p x) : zr cnt day J T (va_up R p (va_up (R p) 2 x)) (zs_put a p (va_up (zs_get a p) 2 x)) n := h.put (h.F hp).up (zs_okk2 (h.1.2.2 p hp) hx) (zs_rg_up (h.G hp) (by decide) (by decide))
theorem zs_stand_n {cnt day : Int32} {J T : Nat → Int32} {R : Nat → Nat → Int32} {a : Nat → Int32} {n : Nat} (h : zr cnt day J T R a n) {p : Nat} (hp : p < 6) {x : Int32} (hx : zs_p x) : zr cnt day J T (va_up R p (va_up (R p) 4 x)) (zs_put a p (va_up (zs_get a p) 4 x)) n := h.put (h.F hp).up (zs_okk4 (h.1.2.2 p hp) hx) (zs_rg_up (h.G hp) (by decide) (by decide))
theorem zs_kind_n {cnt day : Int32} {J T : Nat → Int32} {R : Nat → Nat → Int32} {a : Nat → Int32} {n : Nat} (h : zr cnt day J T R a n) {p : Nat} (hp : p < 6) {k g : Int32} (hk : 0 ≤ k ∧ k < 6) : zr cnt day J T (va_up R p (va_up (va_up (R p) 0 k) 1 g)) (zs_put a p (va_up (va_up (zs_get a p) 0 k) 1 g)) n := by
  have ok := h.1.2.2 p hp
  refine h.put (h.F hp).up.up ⟨zs_ok_up (zs_ok_up ok.1 (by decide) (by decide) (by decide)) (by decide) (by decide) (by decide), ?_⟩ (zs_rg_up (zs_rg_up (h.G hp) (by decide) (by decide)) (by decide) (by decide))
  rw [zk_up_ne (by decide), zk_up_eq]
  exact hk
/-! a new rider -/
theorem zs_new_ag {f f' : Nat → Int32} {k g x y z : Int32} : zs_ag 7 (zs_new f k g x y z) (zs_new f' k g x y z) := fun i hi => by
  rcases (show i = 0 ∨ i = 1 ∨ i = 2 ∨ i = 3 ∨ i = 4 ∨ i = 5 ∨ i = 6 by omega) with rfl | rfl | rfl | rfl | rfl | rfl | rfl <;> simp [zs_new, zs_shod, va_up]
theorem zr.up0 {cnt day : Int32} {J T : Nat → Int32} {R : Nat → Nat → Int32} {a : Nat → Int32} {n m : Nat} (h : zr cnt day J T R a n) (hm : m ≤ 6) : zr (nI m) day J T R (va_up a 0 (nI m)) m := by
  have eJ : zs_J (va_up a 0 (nI m)) = zs_J a := funext fun i => zk_up_ne (by omega)
  refine ⟨⟨hm, zk_up_eq, fun p hp => by rw [zs_get_up0]; exact h.1.2.2 p hp⟩, rfl, by rw [zk_up_ne (by decide)]; exact h.2.2.1, by rw [eJ]; exact h.J, by rw [eJ]; exact h.T, fun p hp => by rw [zs_get_up0]; exact h.F hp, fun i hi => by rw [eJ]; exact h.B hi, fun p hp => by rw [zs_get_up0]; exact h.G hp⟩
theorem zr.new {cnt day : Int32} {J T : Nat → Int32} {R : Nat → Nat → Int32} {a : Nat → Int32} {n : Nat} (h : zr cnt day J T R a n) (hn : n < 6) {k g x y z : Int32} (hk : 0 ≤ k ∧ k < 6) (hx : zs_p x) (hy : zs_p y) (hz : zs_p z) : zr (nI (n + 1)) day J T (va_up R n (zs_new (R n) k g x y z)) (va_up (zs_put a n (zs_new (zs_get a n) k g x y z)) 0 (nI (n + 1))) (n + 1) :=
  (h.put zs_new_ag (zs_new_okk hk hx hy hz) (zs_shod_rg _)).up0 (by omega)
/-! loops over the riders of a county -/
theorem zv_forup {b : Nat} {u : Nat → zk_M → Nat → Int32} : ∀ (n : Nat) (M : zk_M), (∀ p, p < n → ∀ M' : zk_M, (∀ o, o < b ∨ b + p ≤ o → M' o = M o) → u p M' = u p M) → ∀ o, zs_for (fun p M => va_up M (b + p) (u p M)) n 0 M o = if b ≤ o ∧ o < b + n then u (o - b) M else M o
  | 0, M, _, o => by rw [if_neg (by omega)]; rfl
  | n + 1, M, hu, o => by
    have ih := zv_forup n M (fun p hp => hu p (by omega))
    rw [zv_last, Nat.zero_add]
    show va_up _ (b + n) (u n _) o = _
    rw [hu n (by omega) _ (fun o ho => by rw [ih, if_neg (by omega)])]
    by_cases c : o = b + n
    · subst c
      rw [zk_up_eq, if_pos (by omega), Nat.add_sub_cancel_left]
    · rw [zk_up_ne c, ih]
      by_cases d : b ≤ o ∧ o < b + n
      · rw [if_pos d, if_pos (by omega)]
      · rw [if_neg d, if_neg (by omega)]
def zv_pass (b j s c n t : Nat) (M : zk_M) : zk_M := zs_for (fun p M => va_up M (b + p) (zs_rides (M j) (M s) t (M (b + p)))) n 0 (va_up M c (va_up (M c) 3 (M c 3 + nI t)))
theorem zv_pass_at {b j s c n t : Nat} {M : zk_M} (hj : j < b) (hs : s < b) (hc : c < b) (hjc : j ≠ c) (hsc : s ≠ c) (o : Nat) : zv_pass b j s c n t M o = if b ≤ o ∧ o < b + n then zs_rides (M j) (M s) t (M o) else if o = c then va_up (M c) 3 (M c 3 + nI t) else M o := by
  unfold zv_pass
  rw [zv_forup (u := fun p M => zs_rides (M j) (M s) t (M (b + p))) n _ (fun p hp M' hM => by rw [hM j (by omega), hM s (by omega), hM (b + p) (by omega)])]
  by_cases d : b ≤ o ∧ o < b + n
  · rw [if_pos d, if_pos d, zk_up_ne hjc, zk_up_ne hsc, show b + (o - b) = o by omega, zk_up_ne (by omega)]
  · rw [if_neg d, if_neg d]
    by_cases e : o = c
    · subst e; rw [if_pos rfl, zk_up_eq]
    · rw [if_neg e, zk_up_ne e]
def zv_bec (b b' j j' s s' c c' : Nat) (M : zk_M) : zk_M := va_up (zs_for (fun p M => va_up M (b + p) (zs_cp 7 (M (b' + p)) (M (b + p)))) 6 0 (va_up (va_up M j (zs_cp 8 (M j') (M j))) s (zs_cp 64 (M s') (M s)))) c (va_up (va_up ((zs_for (fun p M => va_up M (b + p) (zs_cp 7 (M (b' + p)) (M (b + p)))) 6 0 (va_up (va_up M j (zs_cp 8 (M j') (M j))) s (zs_cp 64 (M s') (M s)))) c) 2 ((zs_for (fun p M => va_up M (b + p) (zs_cp 7 (M (b' + p)) (M (b + p)))) 6 0 (va_up (va_up M j (zs_cp 8 (M j') (M j))) s (zs_cp 64 (M s') (M s)))) c' 2)) 3 ((zs_for (fun p M => va_up M (b + p) (zs_cp 7 (M (b' + p)) (M (b + p)))) 6 0 (va_up (va_up M j (zs_cp 8 (M j') (M j))) s (zs_cp 64 (M s') (M s)))) c' 3))
theorem zv_bec_at {b b' j j' s s' c c' : Nat} {M : zk_M} (hb : b' + 6 ≤ b ∨ b + 6 ≤ b') (hj : j < b ∧ (j < b' ∨ b' + 6 ≤ j)) (hs : s < b ∧ (s < b' ∨ b' + 6 ≤ s)) (hjs : s' ≠ j) (hc : c < b ∧ c ≠ j ∧ c ≠ s) (hc' : (c' < b ∨ b + 6 ≤ c') ∧ c' ≠ j ∧ c' ≠ s) (hne : j ≠ s) (o : Nat) : zv_bec b b' j j' s s' c c' M o = if b ≤ o ∧ o < b + 6 then zs_cp 7 (M (b' + (o - b))) (M o) else if o = c then va_up (va_up (M c) 2 (M c' 2)) 3 (M c' 3) else if o = s then zs_cp 64 (M s') (M s) else if o = j then zs_cp 8 (M j') (M j) else M o := by
  have F := zv_forup (b := b) (u := fun p M => zs_cp 7 (M (b' + p)) (M (b + p))) 6 (va_up (va_up M j (zs_cp 8 (M j') (M j))) s (zs_cp 64 (M s') (M s))) (fun p hp M' hM => by rw [hM (b' + p) (by omega), hM (b + p) (by omega)])
  unfold zv_bec
  rw [F c, if_neg (by omega), F c', if_neg (by omega), zk_up_ne hc.2.2, zk_up_ne hc.2.1, zk_up_ne hc'.2.2, zk_up_ne hc'.2.1]
  by_cases d : b ≤ o ∧ o < b + 6
  · rw [zk_up_ne (by omega), F o, if_pos d, if_pos d]
    show zs_cp 7 _ _ = _
    rw [zk_up_ne (by omega), zk_up_ne (by omega), show b + (o - b) = o by omega, zk_up_ne (by omega), zk_up_ne (by omega)]
  · rw [if_neg d]
    by_cases e : o = c
    · subst e; rw [if_pos rfl, zk_up_eq]
    · rw [if_neg e, zk_up_ne e, F o, if_neg d]
      by_cases e2 : o = s
      · subst e2; rw [if_pos rfl, zk_up_eq]
      · rw [if_neg e2, zk_up_ne e2]
        by_cases e3 : o = j
        · subst e3; rw [if_pos rfl, zk_up_eq]
        · rw [if_neg e3, zk_up_ne e3]
theorem zc_pass1 {n t : Nat} {M : zk_M} : zs_pass zc 1 n t M = zv_pass 6 3 4 1 n t M := rfl
theorem zc_pass23 {n t : Nat} {M : zk_M} : zs_pass zc 23 n t M = zv_pass 28 25 26 23 n t M := rfl
theorem zc_bec12_1 {M : zk_M} : zs_cbec2 zc 12 1 (zs_cbec zc 12 1 M) = zv_bec 17 6 14 3 15 4 12 1 M := rfl
theorem zc_bec1_12 {M : zk_M} : zs_cbec2 zc 1 12 (zs_cbec zc 1 12 M) = zv_bec 6 17 3 14 4 15 1 12 M := rfl
theorem zc_bec23_1 {M : zk_M} : zs_cbec2 zc 23 1 (zs_cbec zc 23 1 M) = zv_bec 28 6 25 3 26 4 23 1 M := rfl
theorem zc_bec1_23 {M : zk_M} : zs_cbec2 zc 1 23 (zs_cbec zc 1 23 M) = zv_bec 6 28 3 25 4 26 1 23 M := rfl
/-! days -/
theorem zv_get_hi {T : Nat → Int32} {n : Nat} (hn : n ≤ 6) : ∀ (t : Nat) (a : Nat → Int32) (p : Nat), n ≤ p → zs_ag 7 (zs_get (zs_daysA T n t a) p) (zs_get a p)
  | 0, a, p, _ => zs_ag.rf
  | t + 1, a, p, hp => by
    have e : zs_ag 7 (zs_get (zs_dayA T 0 n a) p) (zs_get a p) :=
      zs_ag.tr (zs_for_rel (f := zs_dput T 0) (g := fun _ t => t) (fun _ (c : Nat → Int32) (_ : Unit) => zs_ag 7 (zs_get c p) (zs_get (va_up a 1 (a 1 + 1)) p)) n 0 _ () (fun j c _ _ hj q => by
        rw [zs_dput_eq]
        exact (zs_get_put_ne (by omega)).tr q) zs_ag.rf) zs_get_day1
    exact (zv_get_hi hn t (zs_dayA T 0 n a) p hp).tr e
theorem zv_day_1 {T : Nat → Int32} {n : Nat} : ∀ (t : Nat) (a : Nat → Int32), zs_daysA T n t a 1 = a 1 + nI t
  | 0, a => by show a 1 = a 1 + 0; rw [Int32.add_zero]
  | t + 1, a => by
    have e : zs_dayA T 0 n a 1 = a 1 + 1 :=
      zs_for_rel (f := zs_dput T 0) (g := fun _ t => t) (fun _ (c : Nat → Int32) (_ : Unit) => c 1 = a 1 + 1) n 0 _ () (fun j c _ _ hj q => by
        rw [zs_dput_eq, zs_put_lo (by decide)]; exact q) zk_up_eq
    show zs_daysA T n t (zs_dayA T 0 n a) 1 = _
    rw [zv_day_1 t, e, Int32.add_assoc, Int32.add_comm 1, nI_1]
theorem zr.days {cnt day : Int32} {J T : Nat → Int32} {R R' : Nat → Nat → Int32} {a : Nat → Int32} {n : Nat} (h : zr cnt day J T R a n) {t : Nat} (hR : ∀ p, p < 6 → R' p = if p < n then zs_rides J T t (R p) else R p) : zr cnt (day + nI t) J T R' (zs_daysA (zs_FW (zs_J a)) n t a) n := by
  obtain ⟨vJ, vF⟩ := zs_daysV (T' := zs_FW (zs_J a)) (J := zs_J a) (T := zs_FW (zs_J a)) zs_ag.rf t a (fun p => zs_get a p) h.1 zs_ag.rf (fun p _ => zs_ag.rf)
  refine ⟨h.1.daysA t, h.2.1, by rw [zv_day_1, h.2.2.1], h.J.tr vJ.sm, h.T.tr (zs_fw_ag vJ.sm _ _), fun p hp => ?_, fun i hi => by rw [vJ i hi]; exact h.B hi, fun p hp => ?_⟩
  · rw [hR p hp]
    by_cases c : p < n
    · rw [if_pos c]; exact (zs_rides_ag h.J h.T t _ _ (h.F hp) (h.ok hp)).tr (vF p c).sm
    · rw [if_neg c]; exact (h.F hp).tr (zv_get_hi h.1.1 t a p (by omega)).sm
  · by_cases c : p < n
    · exact zs_rg_ag (vF p c).sm (zs_rides_rg t _ (h.G hp))
    · exact zs_rg_ag (zv_get_hi h.1.1 t a p (by omega)).sm (h.G hp)
