/-! whatWanted, judge -/
theorem zv_mfrR {J T R R' : Nat → Int32} : ∀ (m i : Nat) (f : Nat → Int32), zs_ag (i + m) R R' → zs_mfr J T R m i f = zs_mfr J T R' m i f
  | 0, _, _, _ => rfl
  | m + 1, i, f, hR => by
    unfold zs_mfr
    rw [hR i (by omega), zv_mfrR m (i + 1) _ (by rw [show i + 1 + m = i + (m + 1) by omega]; exact hR)]
theorem e_ww {M : zk_M} {a : Nat → Int32} {n : Nat} (h : zr1 M a n) {R : Nat → Int32} {kk : Nat} (hR : zs_ag kk (M 41) R) {p k m : Nat} (hp : p < 6) (ok : ∀ i, i < m → zs_ok (va_up (M (6 + p)) k (nI i))) : zs_for (zs_wwf M kk p k) m 0 0 = zs_for (zu_wwf (zs_J a) (zs_FW (zs_J a)) R (zs_get a p) kk k) m 0 0 := zv_fors (fun j hj s => by
  unfold zs_wwf zu_wwf
  rw [zv_orif, zs_mfr_ag h.J h.T kk 0 _ _ (h.F hp).up (ok j hj), zv_mfrR kk 0 _ (by rw [Nat.zero_add]; exact hR)])
theorem e_fwr {M : zk_M} {a : Nat → Int32} {n : Nat} (h : zr1 M a n) {R : Nat → Int32} {kk : Nat} (hR : zs_ag kk (M 41) R) : ∀ (m i : Nat), i + m ≤ kk → zs_fwr M n m i = zu_fwr (fun p => zs_get a p) R n m i
  | 0, _, _ => rfl
  | m + 1, i, hi => by
    unfold zs_fwr zu_fwr
    rw [e_fwr h hR m (i + 1) (by omega), hR i (by omega)]
    by_cases c : i < n
    · rw [h.F (h.lt c) 4 (by decide)]
    · rw [if_neg (fun q => c q.1), if_neg (fun q => c q.1)]
/-! lots -/
theorem e_ltg {M : zk_M} {a : Nat → Int32} {n : Nat} (h : zr1 M a n) {p : Nat} (hp : p < 6) {z : Int32} : zs_ag 7 (zs_ltg M p z) (zu_ltg (zs_get a p) z) := ((h.F hp).up).up
theorem zv_tot {J T : Nat → Int32} {F : Nat → Nat → Int32} {n : Nat} {z : Int32} : zu_tot T (fun q => zs_rides J T 10 (zu_ltF F z n q)) n = zs_for (fun p s => s + zu_tg T (zs_rides J T 10 (zu_ltg (F p) (zu_sd z p)))) n 0 0 := zv_fors (fun j hj s => by
  show s + zu_tg T (zs_rides J T 10 (if j < n then zu_ltg (F j) (zu_sd z j) else F j)) = _
  rw [if_pos hj])
theorem zv_cnt {J T : Nat → Int32} {F : Nat → Nat → Int32} {n : Nat} {z : Int32} : zs_for (zu_cnf (fun q => zs_rides J T 10 (zu_ltF F z n q))) n 0 0 = zs_for (zu_cnf (fun p => zs_rides J T 10 (zu_ltg (F p) (zu_sd z p)))) n 0 0 := zv_fors (fun j hj s => by
  unfold zu_cnf
  show (if zs_rides J T 10 (if j < n then zu_ltg (F j) (zu_sd z j) else F j) 4 = zs_rides J T 10 (if j < n then zu_ltg (F j) (zu_sd z j) else F j) 3 then s + 1 else s) = _
  rw [if_pos hj])
theorem e_lot {M : zk_M} {a : Nat → Int32} {n : Nat} (h : zr1 M a n) {x : Int32} (k : Nat) (s : Int32 × Int32) : zs_ltl M x n k s = zu_lot (zs_J a) (zs_FW (zs_J a)) (fun p => zs_get a p) n x k s := by
  unfold zs_ltl zu_lot zu_lv
  rw [zv_tot, zv_cnt]
  by_cases c : x = 0
  · rw [if_pos c]
    have := zs_for_rel (f := zs_ltr M x) (g := fun p t => t + zu_tg (zs_FW (zs_J a)) (zs_rides (zs_J a) (zs_FW (zs_J a)) 10 (zu_ltg (zs_get a p) (zu_sd s.1 p)))) (fun j (u : Int32 × Int32) (t : Int32) => u = (zu_sd s.1 j, s.2 + t)) n 0 s 0 (fun j u t _ hj q => by
      subst q
      unfold zs_ltr
      rw [if_pos c, e_tgr h (e_ltg h (h.lt (by omega))) (zs_ltg_ok (h.ok (h.lt (by omega)))), Int32.add_assoc]
      rfl) (by rw [Int32.add_zero]; rfl)
    rw [Nat.zero_add] at this
    exact this
  · rw [if_neg c]
    have := zs_for_rel (f := zs_ltr M x) (g := zu_cnf (fun p => zs_rides (zs_J a) (zs_FW (zs_J a)) 10 (zu_ltg (zs_get a p) (zu_sd s.1 p)))) (fun j (u : Int32 × Int32) (t : Int32) => u = (zu_sd s.1 j, s.2 + t)) n 0 s 0 (fun j u t _ hj q => by
      subst q
      have e := zs_rides_ag h.J h.T 10 _ _ (e_ltg h (h.lt (p := j) (by omega)) (z := zu_sd s.1 j)) (zs_ltg_ok (h.ok (h.lt (by omega))))
      unfold zs_ltr zu_cnf
      rw [if_neg c, e 4 (by decide), e 3 (by decide)]
      by_cases q : zs_rides (zs_J a) (zs_FW (zs_J a)) 10 (zu_ltg (zs_get a j) (zu_sd s.1 j)) 4 = zs_rides (zs_J a) (zs_FW (zs_J a)) 10 (zu_ltg (zs_get a j) (zu_sd s.1 j)) 3
      · rw [if_pos q, if_pos q, Int32.add_assoc]; rfl
      · rw [if_neg q, if_neg q]; rfl) (by rw [Int32.add_zero]; rfl)
    rw [Nat.zero_add] at this
    exact this
theorem e_lots {M : zk_M} {a : Nat → Int32} {n : Nat} (h : zr1 M a n) {x z : Int32} {t : Nat} : zs_for (zs_ltl M x n) t 0 (z, 0) = zs_for (zu_lot (zs_J a) (zs_FW (zs_J a)) (fun p => zs_get a p) n x) t 0 (z, 0) := zs_for_rel (fun _ (s u : Int32 × Int32) => s = u) t 0 _ _ (fun j s u _ hj q => by subst q; exact e_lot h j s) rfl
/-! days, count -/
theorem e_atb {M : zk_M} {a : Nat → Int32} {n : Nat} (h : zr1 M a n) : zs_atb M n = zs_for (zs_atf a) n 0 0 := zv_fors (fun j hj s => by
  show (if M (6 + j) 4 = M (6 + j) 3 then s ||| 1 <<< (nI j &&& 31) else s) = s ||| (if zs_get a j 4 = zs_get a j 3 then 1 <<< (nI j &&& 31) else 0)
  rw [zv_orif, h.F (h.lt hj) 4 (by decide), h.F (h.lt hj) 3 (by decide)])
theorem zv_atf {a : Nat → Int32} {n : Nat} (hn : n ≤ 6) : ∃ k, k < 256 ∧ zs_for (zs_atf a) n 0 0 = nI k :=
  zs_for_rel (f := zs_atf a) (g := fun _ t => t) (fun _ (x : Int32) (_ : Unit) => ∃ k, k < 256 ∧ x = nI k) n 0 0 () (fun j x _ _ hj q => by
    obtain ⟨k, hk, rfl⟩ := q
    unfold zs_atf
    split
    · rw [(zs_2k (k := j) (by omega)).1, zv_orN]
      exact ⟨_, Nat.or_lt_two_pow (n := 8) hk (by have := (zs_2k (k := j) (by omega)).2; omega), rfl⟩
    · exact ⟨k, hk, Int32.or_zero⟩) ⟨0, by decide, rfl⟩
theorem e_daysv {M : zk_M} {a : Nat → Int32} {n : Nat} (h : zr1 M a n) : zs_bc (zs_atb M n) = zs_bits (zs_for (zs_atf a) n 0 0) := by
  rw [e_atb h]
  obtain ⟨k, hk, e⟩ := zv_atf (a := a) h.1.1
  rw [e]
  exact zv_bc (zv_256N hk)
theorem e_sum {M : zk_M} {a : Nat → Int32} {n : Nat} (h : zr1 M a n) {k : Nat} (hk : k < 7) : zs_for (fun i x => x + M (6 + i) k) n 0 0 = zs_for (fun i s => s + zs_get a i k) n 0 0 := zv_fors (fun j hj s => by
  show s + M (6 + j) k = s + zs_get a j k
  rw [h.F (h.lt hj) k hk])
theorem e_roadc {M : zk_M} {a : Nat → Int32} {n : Nat} (h : zr1 M a n) : zs_for (fun i x => x + zs_bc (M 3 i)) 8 0 0 = zs_for (fun i s => s + zs_bits (zs_J a i)) 8 0 0 := zv_fors (fun j hj s => by
  show s + zs_bc (M 3 j) = s + zs_bits (zs_J a j)
  rw [h.J j hj, zv_bc (h.B hj)])
theorem e_cnv {M N : zk_M} {n : Nat} (h : zr1 M (N 1) n) (h12 : M 0 12 = N 0 10) (h39 : M 39 1 = N 0 9) {x : Int32} (hx : ¬ (11 ≤ x ∧ x < 17)) : zs_cnv M n x = zu_cnv N n x := by
  unfold zs_cnv zu_cnv
  rw [if_neg hx, e_atb h, e_sum h (by decide), e_sum h (by decide), e_roadc h, h12, h39, h.2.2.1, h.2.1, h.1.2.1]
/-! the greatest divisor -/
theorem zv_mod2 {x y : Int} (hx : 0 ≤ x) (hy : 0 < y) (hyx : y ≤ x) : 2 * (x % y) < x := by
  have h1 := Int.emod_lt_of_pos x hy
  have h2 := Int.emod_nonneg x (show y ≠ 0 by omega)
  have h3 := Int.mul_ediv_add_emod x y
  have h4 : 1 ≤ x / y := by
    have := Int.ediv_le_ediv hy hyx
    rw [Int.ediv_self (by omega)] at this
    exact this
  have h5 : y * 1 ≤ y * (x / y) := Int.mul_le_mul_of_nonneg_left h4 (by omega)
  omega
theorem zv_gcl : ∀ (k m : Nat) (x y : Int64), 2 * k ≤ m → 0 ≤ x.toInt → 0 ≤ y.toInt → y.toInt < 2 ^ k → zs_gcl m x y = zs_g x y
  | 0, m, x, y, hm, hx, hy, hk => by
    have : y = 0 := Int64.toInt_inj.mp (by show y.toInt = 0; omega)
    subst this
    rw [zs_g0 hx]
    cases m with
    | zero => rfl
    | succ m => rw [zs_gcl, if_neg (by decide)]
  | k + 1, m, x, y, hm, hx, hy, hk => by
    obtain ⟨m, rfl⟩ : ∃ m', m = m' + 1 + 1 := ⟨m - 2, by omega⟩
    have z0 : (0 : Int64).toInt = 0 := rfl
    rw [zs_gcl]
    by_cases c : 0 < y
    · have c' : 0 < y.toInt := by have := Int64.lt_iff_toInt_lt.mp c; omega
      rw [if_pos c, zs_g1 hx c']
      have hr := zs_rem64 hx c'
      have hr0 : 0 ≤ (x - x / y * y).toInt := by rw [hr]; exact Int.emod_nonneg _ (by omega)
      have hr1 : (x - x / y * y).toInt < y.toInt := by rw [hr]; exact Int.emod_lt_of_pos _ c'
      generalize x - x / y * y = r at hr hr0 hr1 ⊢
      rw [zs_gcl]
      by_cases d : 0 < r
      · have d' : 0 < r.toInt := by have := Int64.lt_iff_toInt_lt.mp d; omega
        rw [if_pos d, zs_g1 hy d']
        have hq := zs_rem64 hy d'
        have h2 := zv_mod2 hy d' (by omega)
        refine zv_gcl k m _ _ (by omega) hr0 ?_ ?_
        · rw [hq]; exact Int.emod_nonneg _ (by omega)
        · rw [hq]
          have : (2 : Int) ^ (k + 1) = 2 * 2 ^ k := by rw [Int.pow_succ, Int.mul_comm]
          omega
      · rw [if_neg d]
        have : r = 0 := Int64.toInt_inj.mp (by have : ¬ (0 : Int64).toInt < r.toInt := fun q => d (Int64.lt_iff_toInt_lt.mpr q); omega)
        rw [this, zs_g0 hy]
    · have : y = 0 := Int64.toInt_inj.mp (by have : ¬ (0 : Int64).toInt < y.toInt := fun q => c (Int64.lt_iff_toInt_lt.mpr q); omega)
      rw [if_neg c, this, zs_g0 hx]
theorem zv_gcd {x y : Int64} (hx : 0 < x.toInt) (hy : 0 < y.toInt) : zs_gcd x y = zs_g x y := by
  have h1 : y.toInt < 2 ^ 63 := Int64.toInt_lt y
  have e : zs_gcl 128 x y = zs_g x y := zv_gcl 63 128 x y (by decide) (by omega) (by omega) h1
  unfold zs_gcd
  rw [e, if_pos]
  have h := Int64.toInt_lt x
  have hg : Nat.gcd x.toInt.toNat y.toInt.toNat ≤ x.toInt.toNat := Nat.gcd_le_left _ (by omega)
  have hp : 0 < Nat.gcd x.toInt.toNat y.toInt.toNat := Nat.gcd_pos_of_pos_left _ (by omega)
  rw [Int64.lt_iff_toInt_lt]
  unfold zs_g
  rw [Int64.toInt_ofNat_of_lt (by omega), show (0 : Int64).toInt = 0 from rfl]
  omega
theorem zv_part {x y : Int64} (hx : 0 ≤ x.toInt) (hy : 0 ≤ y.toInt) (hxy : x = 0 ∨ 0 < y.toInt) {z : Int32} (hz : 0 ≤ z ∧ z < 2) : zs_frac x y z = zu_part x y z := by
  have z0 : (0 : Int64).toInt = 0 := rfl
  unfold zs_frac zu_part
  by_cases c : x = 0
  · subst c
    rw [if_neg (fun q => absurd q.1 (by decide)), if_pos rfl]
    rcases zs_b2 hz with rfl | rfl
    · decide
    · decide
  · have c1 := zs_ne64 hx c
    have c2 : 0 < y.toInt := hxy.elim (fun q => absurd q c) id
    rw [if_neg c, if_pos ⟨Int64.lt_iff_toInt_lt.mpr (by omega), Int64.lt_iff_toInt_lt.mpr (by omega)⟩, zv_gcd c1 c2]
/-! mean -/
theorem zv_sums {M : zk_M} {a : Nat → Int32} {n : Nat} (h : zr1 M a n) : ∃ k, k ≤ 4 * n ∧ zs_for (fun i s => s + zs_get a i 5) n 0 0 = nI k := by
  have := zs_for_rel (f := fun i s => s + zs_get a i 5) (g := fun _ t => t) (fun j (x : Int32) (_ : Unit) => ∃ k, k ≤ 4 * j ∧ x = nI k) n 0 0 () (fun j x _ _ hj q => by
    obtain ⟨k, hk, rfl⟩ := q
    obtain ⟨i, hi, e⟩ := nI_of2 (x := zs_get a j 5) (M := 4) (n := 4) rfl (zs_nlt0 (h.G (h.lt (p := j) (by omega))).1.1) (h.G (h.lt (p := j) (by omega))).1.2
    refine ⟨k + i, by omega, ?_⟩
    show nI k + zs_get a j 5 = _
    rw [e, nI_add]) ⟨0, by omega, rfl⟩
  rw [Nat.zero_add] at this
  exact this
theorem e_mean {M : zk_M} {a : Nat → Int32} {n : Nat} (h : zr1 M a n) {x : Int32} (hx : 0 ≤ x ∧ x < 2) : zs_frac (zs_for (fun i x => x + M (6 + i) 5) n 0 0).toInt64 (M 1 2).toInt64 x = zu_part (zs_for (fun i s => s + zs_get a i 5) n 0 0).toInt64 (nI n).toInt64 x ∧ 0 ≤ (zs_for (fun i s => s + zs_get a i 5) n 0 0).toInt64.toInt := by
  rw [e_sum h (by decide), h.2.1]
  obtain ⟨k, hk, e⟩ := zv_sums h
  have hn := h.1.1
  rw [e, Int32.toInt_toInt64, nI_toInt (by omega)]
  refine ⟨zv_part (by rw [Int32.toInt_toInt64, nI_toInt (by omega)]; omega) (by rw [Int32.toInt_toInt64, nI_toInt (by omega)]; omega) ?_ hx, by omega⟩
  by_cases c : n = 0
  · left
    rw [show k = 0 by omega]
    rfl
  · right
    rw [Int32.toInt_toInt64, nI_toInt (by omega)]; omega
