/-! fractions -/
theorem zs_rem64 {x y : Int64} (hx : 0 ≤ x.toInt) (hy : 0 < y.toInt) : (x - x / y * y).toInt = x.toInt % y.toInt := by
  have h1 := Int64.toInt_lt x
  have h2 := Int64.toInt_lt y
  have e1 : (x / y).toInt = x.toInt / y.toInt := by
    rw [Int64.toInt_div_of_ne_right (h := fun e => by rw [e] at hy; exact absurd hy (by decide)), Int.tdiv_eq_ediv_of_nonneg hx]
  have k0 : 0 ≤ x.toInt / y.toInt := Int.ediv_nonneg hx (by omega)
  have k1 : x.toInt / y.toInt * y.toInt ≤ x.toInt := Int.ediv_mul_le _ (by omega)
  have k2 : 0 ≤ x.toInt / y.toInt * y.toInt := Int.mul_nonneg k0 (by omega)
  have e2 : (x / y * y).toInt = x.toInt / y.toInt * y.toInt := by
    rw [Int64.toInt_mul, e1]
    exact Int.bmod_eq_of_le (by omega) (by omega)
  rw [Int64.toInt_sub, e2, Int.bmod_eq_of_le (by omega) (by omega)]
  have := Int.emod_add_mul_ediv x.toInt y.toInt
  rw [Int.mul_comm] at this
  omega
def zs_g (x y : Int64) : Int64 := Int64.ofNat (Nat.gcd x.toInt.toNat y.toInt.toNat)
theorem zs_g0 {x : Int64} (hx : 0 ≤ x.toInt) : zs_g x 0 = x := by
  have h := Int64.toInt_lt x
  unfold zs_g
  rw [show (0 : Int64).toInt.toNat = 0 from rfl, Nat.gcd_zero_right]
  apply Int64.toInt_inj.mp
  rw [Int64.toInt_ofNat_of_lt (by omega)]
  omega
theorem zs_g1 {x y : Int64} (hx : 0 ≤ x.toInt) (hy : 0 < y.toInt) : zs_g x y = zs_g y (x - x / y * y) := by
  unfold zs_g
  rw [zs_rem64 hx hy, Nat.gcd_comm, Nat.gcd_rec, Nat.gcd_comm, Int.toNat_emod hx (by omega)]
theorem zs_ne64 {y : Int64} (h0 : 0 ≤ y.toInt) (h : ¬ y = 0) : 0 < y.toInt := by
  have : y.toInt ≠ 0 := fun e => h (Int64.toInt_inj.mp e)
  omega
theorem zs_g_ne {x y : Int64} (hx : 0 ≤ x.toInt) (hne : ¬ x = 0) (hy : 0 ≤ y.toInt) : ¬ zs_g x y = 0 := fun e => by
  have h0 := zs_ne64 hx hne
  have h := Int64.toInt_lt x
  have hg : Nat.gcd x.toInt.toNat y.toInt.toNat ≤ x.toInt.toNat := Nat.gcd_le_left _ (by omega)
  have hp : 0 < Nat.gcd x.toInt.toNat y.toInt.toNat := Nat.gcd_pos_of_pos_left _ (by omega)
  have e2 := congrArg Int64.toInt e
  unfold zs_g at e2
  rw [Int64.toInt_ofNat_of_lt (by omega), show (0 : Int64).toInt = 0 from rfl] at e2
  omega
set_option maxRecDepth 100000 in
set_option maxHeartbeats 4000000 in
theorem lX5_gcd {l : Launch} {σ : zk_Sh} {M : zk_M} {L : zk_L} {a b v : Int64} : ∀ (N : Nat) (x y : Int64), 0 ≤ x.toInt → 0 ≤ y.toInt → y.toInt.toNat < N → v = zs_g x y → zk_R l σ 0 muX5_gcd 6 [some (.long a), none, some (.long b), none, some (.long x), none, some (.long y), none, none, none] [] M L (zk_El v M L) := by
  intro N
  induction N with
  | zero =>
    intro x y hx hy hN ev
    exact absurd hN (Nat.not_lt_zero _)
  | succ N ih =>
    intro x y hx hy hN ev
    refine zk_lload dX5_gcd_6 rfl ?_
    refine zk_lconst (v := 0) dX5_gcd_8 (by decide) ?_
    refine zk_lcmp dX5_gcd_9 ?_
    refine zk_if_eq (tgt := 31) dX5_gcd_10 (by decide) (fun h10 => ?_) (fun h10 => ?_)
    · have hy0 := zs_lcmp0 h10
      subst hy0
      refine zk_lload dX5_gcd_31 rfl ?_
      refine zk_lret rfl dX5_gcd_33 ?_
      exact ⟨by rw [ev, zs_g0 hx], rfl, rfl⟩
    · refine zk_lload dX5_gcd_13 rfl ?_
      refine zk_lload dX5_gcd_15 rfl ?_
      refine zk_lrem dX5_gcd_17 (zs_lcmpn h10) ?_
      refine zk_lstore dX5_gcd_18 zk_S2_8 ?_
      refine zk_lload dX5_gcd_20 rfl ?_
      refine zk_lstore dX5_gcd_22 zk_S2_4 ?_
      refine zk_lload dX5_gcd_24 rfl ?_
      refine zk_lstore dX5_gcd_26 zk_S2_6 ?_
      refine zk_goto (tgt := 6) dX5_gcd_28 (by decide) ?_
      have hy1 := zs_ne64 hy (zs_lcmpn h10)
      have hr := zs_rem64 hx hy1
      have hr0 : 0 ≤ (x - x / y * y).toInt := by rw [hr]; exact Int.emod_nonneg _ (by omega)
      have hr1 : (x - x / y * y).toInt < y.toInt := by rw [hr]; exact Int.emod_lt_of_pos _ hy1
      refine zk_forget (ls' := [some (.long a), none, some (.long b), none, some (.long y), none, some (.long (x - x / y * y)), none, none, none]) ⟨Or.inr rfl, Or.inl rfl, Or.inr rfl, Or.inl rfl, Or.inr rfl, Or.inl rfl, Or.inr rfl, Or.inl rfl, Or.inl rfl, Or.inl rfl, trivial⟩ (ih y (x - x / y * y) hy hr0 (by omega) ?_)
      rw [ev, zs_g1 hx hy1]
set_option maxRecDepth 100000 in
set_option maxHeartbeats 4000000 in
theorem qX5_gcd {l : Launch} {σ : zk_Sh} {M : zk_M} {L : zk_L} {a b : Int64} (ha : 0 ≤ a.toInt) (hb : 0 ≤ b.toInt) : zk_C l σ 0 muX5_gcd [.long a, .long b] M L (zk_El (zs_g a b) M L) := by
  refine zk_ofR (ls := [some (.long a), none, some (.long b), none, none, none, none, none, none, none]) (by decide) rfl (Nat.le_of_ble_eq_true rfl) rfl ?_
  refine zk_lload_n dX5_gcd_0 rfl ?_
  refine zk_lstore dX5_gcd_1 zk_S2_4 ?_
  refine zk_lload_n dX5_gcd_3 rfl ?_
  refine zk_lstore dX5_gcd_4 zk_S2_6 ?_
  exact lX5_gcd (b.toInt.toNat + 1) a b ha hb (Nat.lt_succ_self _) rfl
def zu_part (a b : Int64) (x : Int32) : Int64 := if a = 0 then x.toInt64 else (if x = 0 then a else b) / zs_g a b
set_option maxRecDepth 100000 in
set_option maxHeartbeats 4000000 in
theorem qX5_partOf {l : Launch} {σ : zk_Sh} {M : zk_M} {L : zk_L} {a b : Int64} (ha : 0 ≤ a.toInt) (hb : 0 ≤ b.toInt) {x : Int32} : zk_C l σ 1 muX5_partOf [.long a, .long b, .int x] M L (zk_El (zu_part a b x) M L) := by
  refine zk_ofR (ls := [some (.long a), none, some (.long b), none, some (.int x)]) (by decide) rfl (Nat.le_of_ble_eq_true rfl) rfl ?_
  refine zk_lload_n dX5_partOf_0 rfl ?_
  refine zk_lconst (v := 0) dX5_partOf_1 (by decide) ?_
  refine zk_lcmp dX5_partOf_2 ?_
  refine zk_if_ne (tgt := 10) dX5_partOf_3 (by decide) (fun h3 => ?_) (fun h3 => ?_)
  · refine zk_iload dX5_partOf_10 rfl ?_
    refine zk_if_ne (tgt := 19) dX5_partOf_12 (by decide) (fun h12 => ?_) (fun h12 => ?_)
    · refine zk_lload_n dX5_partOf_19 rfl ?_
      refine zk_lload_n dX5_partOf_20 rfl ?_
      refine zk_lload_n dX5_partOf_21 rfl ?_
      refine zk_cSl (qX5_gcd ha hb) dX5_partOf_22 miX5_gcd ml_X5_185 stX5_gcd rfl (by decide) rfl (Nat.le_of_ble_eq_true rfl) ?_
      refine zk_ldiv dX5_partOf_25 (zs_g_ne ha (zs_lcmpn h3) hb) ?_
      refine zk_lret rfl dX5_partOf_26 ?_
      refine ⟨congrArg (fun v => some (Value.long v)) ?_, rfl, rfl⟩
      unfold zu_part
      first
        | exact (if_pos (zs_lcmp0 h3)).symm
        | (rw [if_neg (zs_lcmpn h3), if_pos h12]; done)
        | (rw [if_neg (zs_lcmpn h3), if_neg h12]; done)
    · refine zk_lload_n dX5_partOf_15 rfl ?_
      refine zk_goto (tgt := 20) dX5_partOf_16 (by decide) ?_
      refine zk_lload_n dX5_partOf_20 rfl ?_
      refine zk_lload_n dX5_partOf_21 rfl ?_
      refine zk_cSl (qX5_gcd ha hb) dX5_partOf_22 miX5_gcd ml_X5_185 stX5_gcd rfl (by decide) rfl (Nat.le_of_ble_eq_true rfl) ?_
      refine zk_ldiv dX5_partOf_25 (zs_g_ne ha (zs_lcmpn h3) hb) ?_
      refine zk_lret rfl dX5_partOf_26 ?_
      refine ⟨congrArg (fun v => some (Value.long v)) ?_, rfl, rfl⟩
      unfold zu_part
      first
        | exact (if_pos (zs_lcmp0 h3)).symm
        | (rw [if_neg (zs_lcmpn h3), if_pos h12]; done)
        | (rw [if_neg (zs_lcmpn h3), if_neg h12]; done)
  · refine zk_iload dX5_partOf_6 rfl ?_
    refine zk_i2l dX5_partOf_8 ?_
    refine zk_lret rfl dX5_partOf_9 ?_
    refine ⟨congrArg (fun v => some (Value.long v)) ?_, rfl, rfl⟩
    unfold zu_part
    first
      | exact (if_pos (zs_lcmp0 h3)).symm
      | (rw [if_neg (zs_lcmpn h3), if_pos h12]; done)
      | (rw [if_neg (zs_lcmpn h3), if_neg h12]; done)
set_option maxRecDepth 100000 in
set_option maxHeartbeats 4000000 in
theorem lX5_sum {l : Launch} {M : zk_M} {L : zk_L} {n : Nat} (hA : zs_A (M 1) n) {j : Nat} (hj : j < 7) {Q : Option Value → zk_M → zk_L → Prop} : ∀ (m i : Nat) (s : Int32), i + m = n → zk_R l zm 1 muX5_sum 33 [some (.ref 0), some (.int (nI j)), some (.int (zs_for (fun i s => s + zs_get (M 1) i j) m i s)), none] [] M L Q → zk_R l zm 1 muX5_sum 4 [some (.ref 0), some (.int (nI j)), some (.int s), some (.int (nI i))] [] M L Q := by
  have hn6 := hA.1
  intro m
  induction m with
  | zero =>
    intro i s hi k
    obtain rfl : i = n := by omega
    refine zk_iload_n dX5_sum_4 rfl ?_
    refine zk_aload_n dX5_sum_5 rfl ?_
    refine zk_getRc (q := 1) dX5_sum_6 fl_X5_9 (by decide) rfl rfl rfl ?_
    refine zk_iconst dX5_sum_9 zc_0 ?_
    refine zk_iald (j := 0) dX5_sum_10 (by decide) rfl (zs_in rfl (vp_in_iff.mpr (by decide))) (by decide) ?_
    rw [hA.2.1]
    refine zk_icmp_ge (tgt := 33) dX5_sum_11 (by decide) (fun _ => ?_) (fun q => absurd (nI_le (Nat.le_refl _) (by omega)) q)
    refine zk_forget ?_ k
    exact ⟨Or.inr rfl, Or.inr rfl, Or.inr rfl, Or.inl rfl, trivial⟩
  | succ m ih =>
    intro i s him k
    have hi : i < n := by omega
    have hi6 : i < 6 := by omega
    refine zk_iload_n dX5_sum_4 rfl ?_
    refine zk_aload_n dX5_sum_5 rfl ?_
    refine zk_getRc (q := 1) dX5_sum_6 fl_X5_9 (by decide : 0 < zm.1) rfl rfl rfl ?_
    refine zk_iconst dX5_sum_9 zc_0 ?_
    refine zk_iald (j := 0) dX5_sum_10 (by decide : 1 < zm.1) rfl (zs_in rfl (vp_in_iff.mpr (by decide))) (by decide) ?_
    rw [hA.2.1]
    refine zk_icmp_ge (tgt := 33) dX5_sum_11 (by decide) (fun h11 => absurd h11 (nI_ge hi (by omega))) (fun _ => ?_)
    refine zk_iload_n dX5_sum_14 rfl ?_
    refine zk_aload_n dX5_sum_15 rfl ?_
    refine zk_getRc (q := 1) dX5_sum_16 fl_X5_9 (by decide : 0 < zm.1) rfl rfl rfl ?_
    refine zk_iload_n dX5_sum_19 rfl ?_
    refine zk_iload_n dX5_sum_20 rfl ?_
    refine zk_cSi (qX5_of (p := i) (k := j)) dX5_sum_21 miX5_of ml_X5_58 stX5_of rfl (by decide) rfl (Nat.le_of_ble_eq_true rfl) ?_
    refine zk_iald (j := 10 + 7 * i + j) dX5_sum_24 (by decide : 1 < zm.1) rfl (zs_in rfl (vp_in_nI (zs_7p hi6 hj) (by decide))) (nI_clamp (by omega)) ?_
    refine zk_iadd dX5_sum_25 ?_
    refine zk_istore_n dX5_sum_26 zk_S_2 ?_
    refine zk_iinc dX5_sum_27 zc_1 rfl zk_S_3 ?_
    refine zk_goto (tgt := 4) dX5_sum_30 (by decide) ?_
    rw [← nI_succ]
    exact ih (i + 1) _ (by omega) k
set_option maxRecDepth 100000 in
set_option maxHeartbeats 4000000 in
theorem qX5_sum {l : Launch} {M : zk_M} {L : zk_L} {n : Nat} (hA : zs_A (M 1) n) {j : Nat} (hj : j < 7) : zk_C l zm 1 muX5_sum [.ref 0, .int (nI j)] M L (zk_Ei (zs_for (fun i s => s + zs_get (M 1) i j) n 0 0) M L) := by
  refine zk_ofR (ls := [some (.ref 0), some (.int (nI j)), none, none]) (by decide) rfl (Nat.le_of_ble_eq_true rfl) rfl ?_
  refine zk_iconst dX5_sum_0 zc_0 ?_
  refine zk_istore_n dX5_sum_1 zk_S_2 ?_
  refine zk_iconst dX5_sum_2 zc_0 ?_
  refine zk_istore_n dX5_sum_3 zk_S_3 ?_
  refine lX5_sum hA hj n 0 0 (by omega) ?_
  refine zk_iload_n dX5_sum_33 rfl ?_
  refine zk_iret rfl dX5_sum_34 ?_
  exact ⟨rfl, rfl, rfl⟩
set_option maxRecDepth 100000 in
set_option maxHeartbeats 4000000 in
theorem qX5_mean_r {l : Launch} {M : zk_M} {L : zk_L} {x : Int32} (hx : ¬ (0 ≤ x ∧ x < 2)) : zk_C l zm 2 muX5_mean [.ref 0, .int x] M L (zp_l 4000000000000000002 (zs_nof M 2)) := by
  refine zk_ofR (ls := [some (.ref 0), some (.int x)]) (by decide) rfl (Nat.le_of_ble_eq_true rfl) rfl ?_
  refine zk_iload_n dX5_mean_0 rfl ?_
  refine zk_iconst dX5_mean_1 zc_0 ?_
  refine zk_iconst dX5_mean_2 zc_1 ?_
  refine zk_cSi (qX5_01_f hx) dX5_mean_3 miX5_isIn ml_X5_46 stX5_isIn rfl (by decide) rfl (Nat.le_of_ble_eq_true rfl) ?_
  refine zk_if_eq (tgt := 29) dX5_mean_6 (by decide) (fun _ => ?_) (fun h6 => absurd (rfl) h6)
  refine zk_aload_n dX5_mean_29 rfl ?_
  refine zk_bipush dX5_mean_30 zb_m2 ?_
  refine zk_cVl (qnl2) dX5_mean_32 mwX5_noWide ml_X5_189 (by decide : 0 < zm.1) rfl rfl (by decide) rfl (Nat.le_of_ble_eq_true rfl) ?_
  refine zk_lret rfl dX5_mean_35 ?_
  exact ⟨rfl, zs_sm.rf⟩
set_option maxRecDepth 100000 in
set_option maxHeartbeats 4000000 in
theorem qX5_mean_t {l : Launch} {M : zk_M} {L : zk_L} {n : Nat} (hA : zs_A (M 1) n) {x : Int32} (hx : 0 ≤ x ∧ x < 2) (hpos : 0 ≤ (zs_for (fun i s => s + zs_get (M 1) i 5) n 0 0).toInt64.toInt) : zk_C l zm 2 muX5_mean [.ref 0, .int x] M L (zp_l (zu_part (zs_for (fun i s => s + zs_get (M 1) i 5) n 0 0).toInt64 (nI n).toInt64 x) M) := by
  refine zk_ofR (ls := [some (.ref 0), some (.int x)]) (by decide) rfl (Nat.le_of_ble_eq_true rfl) rfl ?_
  refine zk_iload_n dX5_mean_0 rfl ?_
  refine zk_iconst dX5_mean_1 zc_0 ?_
  refine zk_iconst dX5_mean_2 zc_1 ?_
  refine zk_cSi (qX5_01_t hx) dX5_mean_3 miX5_isIn ml_X5_46 stX5_isIn rfl (by decide) rfl (Nat.le_of_ble_eq_true rfl) ?_
  refine zk_if_eq (tgt := 29) dX5_mean_6 (by decide) (fun h6 => absurd h6 (by decide)) (fun _ => ?_)
  refine zk_aload_n dX5_mean_9 rfl ?_
  refine zk_iconst dX5_mean_10 zc_5 ?_
  refine zk_cVi (qX5_sum (j := 5) hA (by decide)) dX5_mean_11 mwX5_sum ml_X5_197 (by decide : 0 < zm.1) rfl rfl (by decide) rfl (Nat.le_of_ble_eq_true rfl) ?_
  refine zk_i2l dX5_mean_14 ?_
  refine zk_aload_n dX5_mean_15 rfl ?_
  refine zk_getRc (q := 1) dX5_mean_16 fl_X5_9 (by decide : 0 < zm.1) rfl rfl rfl ?_
  refine zk_iconst dX5_mean_19 zc_0 ?_
  refine zk_iald (j := 0) dX5_mean_20 (by decide : 1 < zm.1) rfl (zs_in rfl (vp_in_iff.mpr (by decide))) (by decide) ?_
  rw [hA.2.1]
  refine zk_i2l dX5_mean_21 ?_
  refine zk_iload_n dX5_mean_22 rfl ?_
  refine zk_cSl (qX5_partOf hpos (by have := hA.1; rw [Int32.toInt_toInt64, nI_toInt (by omega)]; omega)) dX5_mean_23 miX5_partOf ml_X5_193 stX5_partOf rfl (by decide) rfl (Nat.le_of_ble_eq_true rfl) ?_
  refine zk_goto (tgt := 35) dX5_mean_26 (by decide) ?_
  refine zk_lret rfl dX5_mean_35 ?_
  exact ⟨rfl, zs_sm.rf⟩
abbrev zu_bit (s i : Nat) : Prop := nI s >>> (nI i &&& 31) &&& 1 = 1
def zu_sub (J T : Nat → Int32) (o : Int32) (s : Nat) : Nat → Nat → (Nat → Int32) → Int64 → (Nat → Int32) × Int64
  | 0, _, f, w => (f, w)
  | m + 1, i, f, w => zu_sub J T o s m (i + 1) (zs_dF J T (if zu_bit s i then 1 else 0) f) (w * (if zu_bit s i then 1 else (o - 1).toInt64))
def zu_mds (J T : Nat → Int32) (o pl : Int32) (k : Nat) (f : Nat → Int32) (s : Nat) (x : Int64) : Int64 := x + (if (zu_sub J T o s k 0 f 1).1 4 = pl then (zu_sub J T o s k 0 f 1).2 else 0)
def zu_pow (o : Int32) (k : Nat) : Int64 := zs_for (fun _ x => x * o.toInt64) k 0 1
def zu_mud (J T : Nat → Int32) (o pl : Int32) (k : Nat) (f : Nat → Int32) : Int64 := zs_for (zu_mds J T o pl k f) (2 ^ k) 0 0
theorem zs_2k {k : Nat} (h : k ≤ 7) : (1 : Int32) <<< (nI k &&& 31) = nI (2 ^ k) ∧ 2 ^ k ≤ 128 := by
  rcases (show k = 0 ∨ k = 1 ∨ k = 2 ∨ k = 3 ∨ k = 4 ∨ k = 5 ∨ k = 6 ∨ k = 7 by omega) with rfl | rfl | rfl | rfl | rfl | rfl | rfl | rfl <;> exact ⟨by decide, by decide⟩
set_option maxRecDepth 100000 in
set_option maxHeartbeats 4000000 in
theorem lX5_mud1 {l : Launch} {M : zk_M} {L : zk_L} {p k : Nat} (hk : k ≤ 7) {pl o x : Int32} {s : Int64} {Q : Option Value → zk_M → zk_L → Prop} : ∀ (m i : Nat) (y : Int64), i + m = k → zk_R l zm 6 muX5_mud 98 [some (.ref 0), some (.int (nI p)), some (.int pl), some (.int (nI k)), some (.int o), some (.int x), some (.long s), none, some (.long (zs_for (fun _ x => x * o.toInt64) m i y)), none, none, none, none, none] [] M L Q → zk_R l zm 6 muX5_mud 78 [some (.ref 0), some (.int (nI p)), some (.int pl), some (.int (nI k)), some (.int o), some (.int x), some (.long s), none, some (.long y), none, some (.int (nI i)), none, none, none] [] M L Q := by
  intro m
  induction m with
  | zero =>
    intro i y hi kk
    obtain rfl : i = k := by omega
    refine zk_iload dX5_mud_78 rfl ?_
    refine zk_iload_n dX5_mud_80 rfl ?_
    refine zk_icmp_ge (tgt := 98) dX5_mud_81 (by decide) (fun _ => ?_) (fun q => absurd (nI_le (Nat.le_refl _) (by omega)) q)
    refine zk_forget ?_ kk
    exact ⟨Or.inr rfl, Or.inr rfl, Or.inr rfl, Or.inr rfl, Or.inr rfl, Or.inr rfl, Or.inr rfl, Or.inl rfl, Or.inr rfl, Or.inl rfl, Or.inl rfl, Or.inl rfl, Or.inl rfl, Or.inl rfl, trivial⟩
  | succ m ih =>
    intro i y him kk
    have hi : i < k := by omega
    refine zk_iload dX5_mud_78 rfl ?_
    refine zk_iload_n dX5_mud_80 rfl ?_
    refine zk_icmp_ge (tgt := 98) dX5_mud_81 (by decide) (fun h81 => absurd h81 (nI_ge hi (by omega))) (fun _ => ?_)
    refine zk_lload dX5_mud_84 rfl ?_
    refine zk_iload dX5_mud_86 rfl ?_
    refine zk_i2l dX5_mud_88 ?_
    refine zk_lmul dX5_mud_89 ?_
    refine zk_lstore dX5_mud_90 zk_S2_8 ?_
    refine zk_iinc dX5_mud_92 zc_1 rfl zk_S_10 ?_
    refine zk_goto (tgt := 78) dX5_mud_95 (by decide) ?_
    rw [← nI_succ]
    exact ih (i + 1) _ (by omega) kk
set_option maxRecDepth 100000 in
set_option maxHeartbeats 4000000 in
theorem lX5_mud2 {l : Launch} {M0 : zk_M} {n p k c : Nat} (hk : k ≤ 7) {J T : Nat → Int32} {pl o x : Int32} {s y : Int64} {Q : Option Value → zk_M → zk_L → Prop} : ∀ (m i : Nat) (w : Int64) (F : Nat → Nat → Int32) (M : zk_M) (L : zk_L), i + m = k → zs_sm M0 M → zs_V M n J T F → (∀ M' L' F', zs_sm M0 M' → zs_V M' n J T F' → F' p = (zu_sub J T o c m i (F p) w).1 → zk_R l zm 6 muX5_mud 171 [some (.ref 0), some (.int (nI p)), some (.int pl), some (.int (nI k)), some (.int o), some (.int x), some (.long s), none, some (.long y), none, some (.int (nI c)), some (.long (zu_sub J T o c m i (F p) w).2), none, none] [] M' L' Q) → zk_R l zm 6 muX5_mud 120 [some (.ref 0), some (.int (nI p)), some (.int pl), some (.int (nI k)), some (.int o), some (.int x), some (.long s), none, some (.long y), none, some (.int (nI c)), some (.long w), none, some (.int (nI i))] [] M L Q := by
  intro m
  induction m with
  | zero =>
    intro i w F M L hi hs hV kk
    obtain rfl : i = k := by omega
    refine zk_iload dX5_mud_120 rfl ?_
    refine zk_iload_n dX5_mud_122 rfl ?_
    refine zk_icmp_ge (tgt := 171) dX5_mud_123 (by decide) (fun _ => ?_) (fun q => absurd (nI_le (Nat.le_refl _) (by omega)) q)
    refine zk_forget ?_ (kk M L F hs hV rfl)
    exact ⟨Or.inr rfl, Or.inr rfl, Or.inr rfl, Or.inr rfl, Or.inr rfl, Or.inr rfl, Or.inr rfl, Or.inl rfl, Or.inr rfl, Or.inl rfl, Or.inr rfl, Or.inr rfl, Or.inl rfl, Or.inl rfl, trivial⟩
  | succ m ih =>
    intro i w F M L him hs hV kk
    have hi : i < k := by omega
    refine zk_iload dX5_mud_120 rfl ?_
    refine zk_iload_n dX5_mud_122 rfl ?_
    refine zk_icmp_ge (tgt := 171) dX5_mud_123 (by decide) (fun h123 => absurd h123 (nI_ge hi (by omega))) (fun _ => ?_)
    refine zk_lload dX5_mud_126 rfl ?_
    refine zk_iload dX5_mud_128 rfl ?_
    refine zk_iload dX5_mud_130 rfl ?_
    refine zk_cSi (qX5_has) dX5_mud_132 miX5_has ml_X5_50 stX5_has rfl (by decide) rfl (Nat.le_of_ble_eq_true rfl) ?_
    refine zk_if_eq (tgt := 142) dX5_mud_135 (by decide) (fun h135 => ?_) (fun h135 => ?_)
    · have hb := zs_if0 h135
      refine zk_iload dX5_mud_142 rfl ?_
      refine zk_iconst dX5_mud_144 zc_1 ?_
      refine zk_isub dX5_mud_145 ?_
      refine zk_i2l dX5_mud_146 ?_
      refine zk_lmul dX5_mud_147 ?_
      refine zk_lstore dX5_mud_148 zk_S2_11 ?_
      refine zk_aload_n dX5_mud_150 rfl ?_
      refine zk_aload_n dX5_mud_151 rfl ?_
      refine zk_getRc (q := 2) dX5_mud_152 fl_X5_13 (by decide : 0 < zm.1) rfl rfl rfl ?_
      refine zk_iload dX5_mud_155 rfl ?_
      refine zk_iload dX5_mud_157 rfl ?_
      refine zk_cSi (qX5_has) dX5_mud_159 miX5_has ml_X5_50 stX5_has rfl (by decide) rfl (Nat.le_of_ble_eq_true rfl) ?_
      refine zk_callV (qd_day hs hV) dX5_mud_162 mwX5_day ml_X5_76 (by decide : 0 < zm.1) rfl rfl (by decide) rfl (Nat.le_of_ble_eq_true rfl) (fun r1 M1 L1 h1 => ?_)
      obtain ⟨rfl, hs1, hV1⟩ := h1
      refine zk_iinc dX5_mud_165 zc_1 rfl zk_S_13 ?_
      refine zk_goto (tgt := 120) dX5_mud_168 (by decide) ?_
      rw [← nI_succ]
      first
        | (refine ih (i + 1) _ _ M1 L1 (by omega) hs1 hV1 (fun M' L' F' h1 h2 h3 => ?_)
           have e : (if zu_bit c i then 1 else (o - 1).toInt64) = 1 := if_pos hb
           have := kk M' L' F' h1 h2 (by rw [h3, zu_sub, e])
           rw [zu_sub, e] at this
           exact this)
        | (refine ih (i + 1) _ _ M1 L1 (by omega) hs1 hV1 (fun M' L' F' h1 h2 h3 => ?_)
           have e : (if zu_bit c i then 1 else (o - 1).toInt64) = (o - 1).toInt64 := if_neg hb
           have := kk M' L' F' h1 h2 (by rw [h3, zu_sub, e])
           rw [zu_sub, e] at this
           exact this)
    · have hb := zs_if1 h135
      refine zk_lconst (v := 1) dX5_mud_138 (by decide) ?_
      refine zk_goto (tgt := 147) dX5_mud_139 (by decide) ?_
      refine zk_lmul dX5_mud_147 ?_
      refine zk_lstore dX5_mud_148 zk_S2_11 ?_
      refine zk_aload_n dX5_mud_150 rfl ?_
      refine zk_aload_n dX5_mud_151 rfl ?_
      refine zk_getRc (q := 2) dX5_mud_152 fl_X5_13 (by decide : 0 < zm.1) rfl rfl rfl ?_
      refine zk_iload dX5_mud_155 rfl ?_
      refine zk_iload dX5_mud_157 rfl ?_
      refine zk_cSi (qX5_has) dX5_mud_159 miX5_has ml_X5_50 stX5_has rfl (by decide) rfl (Nat.le_of_ble_eq_true rfl) ?_
      refine zk_callV (qd_day hs hV) dX5_mud_162 mwX5_day ml_X5_76 (by decide : 0 < zm.1) rfl rfl (by decide) rfl (Nat.le_of_ble_eq_true rfl) (fun r1 M1 L1 h1 => ?_)
      obtain ⟨rfl, hs1, hV1⟩ := h1
      refine zk_iinc dX5_mud_165 zc_1 rfl zk_S_13 ?_
      refine zk_goto (tgt := 120) dX5_mud_168 (by decide) ?_
      rw [← nI_succ]
      first
        | (refine ih (i + 1) _ _ M1 L1 (by omega) hs1 hV1 (fun M' L' F' h1 h2 h3 => ?_)
           have e : (if zu_bit c i then 1 else (o - 1).toInt64) = 1 := if_pos hb
           have := kk M' L' F' h1 h2 (by rw [h3, zu_sub, e])
           rw [zu_sub, e] at this
           exact this)
        | (refine ih (i + 1) _ _ M1 L1 (by omega) hs1 hV1 (fun M' L' F' h1 h2 h3 => ?_)
           have e : (if zu_bit c i then 1 else (o - 1).toInt64) = (o - 1).toInt64 := if_neg hb
           have := kk M' L' F' h1 h2 (by rw [h3, zu_sub, e])
           rw [zu_sub, e] at this
           exact this)
set_option maxRecDepth 100000 in
set_option maxHeartbeats 4000000 in
theorem lX5_mud3 {l : Launch} {M0 : zk_M} {n p k : Nat} (hA : zs_A (M0 1) n) (hp : p < n) (hk : k ≤ 7) {pl o x : Int32} {y : Int64} {Q : Option Value → zk_M → zk_L → Prop} : ∀ (m c : Nat) (s : Int64) (M : zk_M) (L : zk_L), c + m = 2 ^ k → zs_sm M0 M → (∀ M' L', zs_sm M0 M' → zk_R l zm 6 muX5_mud 202 [some (.ref 0), some (.int (nI p)), some (.int pl), some (.int (nI k)), some (.int o), some (.int x), some (.long (zs_for (zu_mds (zs_J (M0 1)) (zs_FW (zs_J (M0 1))) o pl k (zs_get (M0 1) p)) m c s)), none, some (.long y), none, none, none, none, none] [] M' L' Q) → zk_R l zm 6 muX5_mud 101 [some (.ref 0), some (.int (nI p)), some (.int pl), some (.int (nI k)), some (.int o), some (.int x), some (.long s), none, some (.long y), none, some (.int (nI c)), none, none, none] [] M L Q := by
  have hp6 : p < 6 := Nat.lt_of_lt_of_le hp hA.1
  intro m
  induction m with
  | zero =>
    intro c s M L hc hs kk
    obtain rfl : c = 2 ^ k := by omega
    refine zk_iload dX5_mud_101 rfl ?_
    refine zk_iconst dX5_mud_103 zc_1 ?_
    refine zk_iload_n dX5_mud_104 rfl ?_
    refine zk_ishl dX5_mud_105 ?_
    rw [(zs_2k hk).1]
    refine zk_icmp_ge (tgt := 202) dX5_mud_106 (by decide) (fun _ => ?_) (fun q => absurd (nI_le (Nat.le_refl _) (by have := (zs_2k hk).2; omega)) q)
    refine zk_forget ?_ (kk M L hs)
    exact ⟨Or.inr rfl, Or.inr rfl, Or.inr rfl, Or.inr rfl, Or.inr rfl, Or.inr rfl, Or.inr rfl, Or.inl rfl, Or.inr rfl, Or.inl rfl, Or.inl rfl, Or.inl rfl, Or.inl rfl, Or.inl rfl, trivial⟩
  | succ m ih =>
    intro c s M L hcm hs kk
    have hc : c < 2 ^ k := by omega
    refine zk_iload dX5_mud_101 rfl ?_
    refine zk_iconst dX5_mud_103 zc_1 ?_
    refine zk_iload_n dX5_mud_104 rfl ?_
    refine zk_ishl dX5_mud_105 ?_
    rw [(zs_2k hk).1]
    refine zk_icmp_ge (tgt := 202) dX5_mud_106 (by decide) (fun h106 => absurd h106 (nI_ge hc (by have := (zs_2k hk).2; omega))) (fun _ => ?_)
    refine zk_lconst (v := 1) dX5_mud_109 (by decide) ?_
    refine zk_lstore dX5_mud_110 zk_S2_11 ?_
    refine zk_aload_n dX5_mud_112 rfl ?_
    refine zk_iconst dX5_mud_113 zc_0 ?_
    refine zk_callV (qX5_takes (t := 0) hA hs (by decide)) dX5_mud_114 mwX5_takes ml_X5_148 (by decide : 0 < zm.1) rfl rfl (by decide) rfl (Nat.le_of_ble_eq_true rfl) (fun r1 M1 L1 h1 => ?_)
    obtain ⟨rfl, hs1, hV⟩ := h1
    refine zk_iconst dX5_mud_117 zc_0 ?_
    refine zk_istore dX5_mud_118 zk_S_13 ?_
    refine lX5_mud2 (n := n) hk k 0 1 _ M1 L1 (by omega) hs1 hV (fun M2 L2 F2 hs2 hV2 hF2 => ?_)
    have hF2 : F2 p = (zu_sub (zs_J (M0 1)) (zs_FW (zs_J (M0 1))) o c k 0 (zs_get (M0 1) p) 1).1 := hF2
    refine zk_lload dX5_mud_171 rfl ?_
    refine zk_aload_n dX5_mud_173 rfl ?_
    refine zk_getRc (q := 2) dX5_mud_174 fl_X5_13 (by decide : 0 < zm.1) rfl rfl rfl ?_
    refine zk_iload_n dX5_mud_177 rfl ?_
    refine zk_iconst dX5_mud_178 zc_4 ?_
    refine zk_cSi (qX5_of (p := p) (k := 4)) dX5_mud_179 miX5_of ml_X5_58 stX5_of rfl (by decide) rfl (Nat.le_of_ble_eq_true rfl) ?_
    refine zk_iald (j := 10 + 7 * p + 4) dX5_mud_182 (by decide : 2 < zm.1) rfl (zs_in rfl (vp_in_nI (zs_7p hp6 (show 4 < 7 by decide)) (by decide))) (nI_clamp (by omega)) ?_
    rw [hV2.at hp (by decide), hF2]
    refine zk_iload_n dX5_mud_183 rfl ?_
    refine zk_icmp_ne (tgt := 192) dX5_mud_184 (by decide) (fun h184 => ?_) (fun h184 => ?_)
    · refine zk_lconst (v := 0) dX5_mud_192 (by decide) ?_
      refine zk_ladd dX5_mud_193 ?_
      refine zk_lstore dX5_mud_194 zk_S2_6 ?_
      refine zk_iinc dX5_mud_196 zc_1 rfl zk_S_10 ?_
      refine zk_goto (tgt := 101) dX5_mud_199 (by decide) ?_
      rw [← nI_succ]
      first
        | exact zk_forget (ls' := [some (.ref 0), some (.int (nI p)), some (.int pl), some (.int (nI k)), some (.int o), some (.int x), some (.long (s + (zu_sub (zs_J (M0 1)) (zs_FW (zs_J (M0 1))) o c k 0 (zs_get (M0 1) p) 1).2)), none, some (.long y), none, some (.int (nI (c + 1))), none, none, none]) ⟨Or.inr rfl, Or.inr rfl, Or.inr rfl, Or.inr rfl, Or.inr rfl, Or.inr rfl, Or.inr rfl, Or.inl rfl, Or.inr rfl, Or.inl rfl, Or.inr rfl, Or.inl rfl, Or.inl rfl, Or.inl rfl, trivial⟩ (ih (c + 1) _ M2 L2 (by omega) hs2 (fun M' L' h' => by
            have e : (zu_mds (zs_J (M0 1)) (zs_FW (zs_J (M0 1))) o pl k (zs_get (M0 1) p)) c s = s + (zu_sub (zs_J (M0 1)) (zs_FW (zs_J (M0 1))) o c k 0 (zs_get (M0 1) p) 1).2 := by rw [zu_mds, if_pos h184]
            have := kk M' L' h'
            rw [zs_for, e] at this
            exact this))
        | exact zk_forget (ls' := [some (.ref 0), some (.int (nI p)), some (.int pl), some (.int (nI k)), some (.int o), some (.int x), some (.long (s + 0)), none, some (.long y), none, some (.int (nI (c + 1))), none, none, none]) ⟨Or.inr rfl, Or.inr rfl, Or.inr rfl, Or.inr rfl, Or.inr rfl, Or.inr rfl, Or.inr rfl, Or.inl rfl, Or.inr rfl, Or.inl rfl, Or.inr rfl, Or.inl rfl, Or.inl rfl, Or.inl rfl, trivial⟩ (ih (c + 1) _ M2 L2 (by omega) hs2 (fun M' L' h' => by
            have e : (zu_mds (zs_J (M0 1)) (zs_FW (zs_J (M0 1))) o pl k (zs_get (M0 1) p)) c s = s + 0 := by rw [zu_mds, if_neg h184]
            have := kk M' L' h'
            rw [zs_for, e] at this
            exact this))
    · refine zk_lload dX5_mud_187 rfl ?_
      refine zk_goto (tgt := 193) dX5_mud_189 (by decide) ?_
      refine zk_ladd dX5_mud_193 ?_
      refine zk_lstore dX5_mud_194 zk_S2_6 ?_
      refine zk_iinc dX5_mud_196 zc_1 rfl zk_S_10 ?_
      refine zk_goto (tgt := 101) dX5_mud_199 (by decide) ?_
      rw [← nI_succ]
      first
        | exact zk_forget (ls' := [some (.ref 0), some (.int (nI p)), some (.int pl), some (.int (nI k)), some (.int o), some (.int x), some (.long (s + (zu_sub (zs_J (M0 1)) (zs_FW (zs_J (M0 1))) o c k 0 (zs_get (M0 1) p) 1).2)), none, some (.long y), none, some (.int (nI (c + 1))), none, none, none]) ⟨Or.inr rfl, Or.inr rfl, Or.inr rfl, Or.inr rfl, Or.inr rfl, Or.inr rfl, Or.inr rfl, Or.inl rfl, Or.inr rfl, Or.inl rfl, Or.inr rfl, Or.inl rfl, Or.inl rfl, Or.inl rfl, trivial⟩ (ih (c + 1) _ M2 L2 (by omega) hs2 (fun M' L' h' => by
            have e : (zu_mds (zs_J (M0 1)) (zs_FW (zs_J (M0 1))) o pl k (zs_get (M0 1) p)) c s = s + (zu_sub (zs_J (M0 1)) (zs_FW (zs_J (M0 1))) o c k 0 (zs_get (M0 1) p) 1).2 := by rw [zu_mds, if_pos h184]
            have := kk M' L' h'
            rw [zs_for, e] at this
            exact this))
        | exact zk_forget (ls' := [some (.ref 0), some (.int (nI p)), some (.int pl), some (.int (nI k)), some (.int o), some (.int x), some (.long (s + 0)), none, some (.long y), none, some (.int (nI (c + 1))), none, none, none]) ⟨Or.inr rfl, Or.inr rfl, Or.inr rfl, Or.inr rfl, Or.inr rfl, Or.inr rfl, Or.inr rfl, Or.inl rfl, Or.inr rfl, Or.inl rfl, Or.inr rfl, Or.inl rfl, Or.inl rfl, Or.inl rfl, trivial⟩ (ih (c + 1) _ M2 L2 (by omega) hs2 (fun M' L' h' => by
            have e : (zu_mds (zs_J (M0 1)) (zs_FW (zs_J (M0 1))) o pl k (zs_get (M0 1) p)) c s = s + 0 := by rw [zu_mds, if_neg h184]
            have := kk M' L' h'
            rw [zs_for, e] at this
            exact this))
set_option maxRecDepth 100000 in
set_option maxHeartbeats 4000000 in
theorem qX5_mud_r1 {l : Launch} {M : zk_M} {L : zk_L} {n : Nat} (hA : zs_A (M 1) n) {r x k o y : Int32} (hn : ¬ zs_w2 n r x) : zk_C l zm 6 muX5_mud [.ref 0, .int r, .int x, .int k, .int o, .int y] M L (zp_l 4000000000000000001 (zs_nof M 1)) := by
  refine zk_ofR (ls := [some (.ref 0), some (.int r), some (.int x), some (.int k), some (.int o), some (.int y), none, none, none, none, none, none, none, none]) (by decide) rfl (Nat.le_of_ble_eq_true rfl) rfl ?_
  refine zk_aload_n dX5_mud_0 rfl ?_
  refine zk_iload_n dX5_mud_1 rfl ?_
  refine zk_iload_n dX5_mud_2 rfl ?_
  refine zk_cVi (qX5_areWrong hA.1 hA.2.1) dX5_mud_3 mwX5_areWrong ml_X5_155 (by decide : 0 < zm.1) rfl rfl (by decide) rfl (Nat.le_of_ble_eq_true rfl) ?_
  rw [if_pos hn]
  refine zk_if_eq (tgt := 15) dX5_mud_6 (by decide) (fun h6 => absurd h6 (by decide)) (fun _ => ?_)
  refine zk_aload_n dX5_mud_9 rfl ?_
  refine zk_iconst dX5_mud_10 zc_m1 ?_
  refine zk_cVl (qnl1) dX5_mud_11 mwX5_noWide ml_X5_189 (by decide : 0 < zm.1) rfl rfl (by decide) rfl (Nat.le_of_ble_eq_true rfl) ?_
  refine zk_lret rfl dX5_mud_14 ?_
  exact ⟨rfl, zs_sm.rf⟩
set_option maxRecDepth 100000 in
set_option maxHeartbeats 4000000 in
theorem qX5_mud_r4 {l : Launch} {M : zk_M} {L : zk_L} {n : Nat} (hA : zs_A (M 1) n) {p : Nat} (hp : p < n) {x : Int32} (hx : zs_p x) {k o y : Int32} (h4 : k < 0 ∨ o < 2) : zk_C l zm 6 muX5_mud [.ref 0, .int (nI p), .int x, .int k, .int o, .int y] M L (zp_l 4000000000000000004 (zs_nof M 4)) := by
  refine zk_ofR (ls := [some (.ref 0), some (.int (nI p)), some (.int x), some (.int k), some (.int o), some (.int y), none, none, none, none, none, none, none, none]) (by decide) rfl (Nat.le_of_ble_eq_true rfl) rfl ?_
  refine zk_aload_n dX5_mud_0 rfl ?_
  refine zk_iload_n dX5_mud_1 rfl ?_
  refine zk_iload_n dX5_mud_2 rfl ?_
  refine zk_cVi (qX5_areWrong hA.1 hA.2.1) dX5_mud_3 mwX5_areWrong ml_X5_155 (by decide : 0 < zm.1) rfl rfl (by decide) rfl (Nat.le_of_ble_eq_true rfl) ?_
  rw [if_neg (zs_w2_t hp hA.1 hx)]
  refine zk_if_eq (tgt := 15) dX5_mud_6 (by decide) (fun _ => ?_) (fun h6 => absurd (rfl) h6)
  refine zk_iload_n dX5_mud_15 rfl ?_
  refine zk_if_lt (tgt := 25) dX5_mud_16 (by decide) (fun h16 => ?_) (fun h16 => ?_)
  · refine zk_aload_n dX5_mud_25 rfl ?_
    refine zk_bipush dX5_mud_26 zb_m4 ?_
    refine zk_cVl (qnl4) dX5_mud_28 mwX5_noWide ml_X5_189 (by decide : 0 < zm.1) rfl rfl (by decide) rfl (Nat.le_of_ble_eq_true rfl) ?_
    refine zk_lret rfl dX5_mud_31 ?_
    exact ⟨rfl, zs_sm.rf⟩
  · refine zk_iload dX5_mud_19 rfl ?_
    refine zk_iconst dX5_mud_21 zc_2 ?_
    refine zk_icmp_ge (tgt := 32) dX5_mud_22 (by decide) (fun h22 => ?_) (fun h22 => ?_)
    · exact absurd h4 (fun q => q.elim h16 (fun q => absurd q (Int32.not_lt.mpr h22)))
    · refine zk_aload_n dX5_mud_25 rfl ?_
      refine zk_bipush dX5_mud_26 zb_m4 ?_
      refine zk_cVl (qnl4) dX5_mud_28 mwX5_noWide ml_X5_189 (by decide : 0 < zm.1) rfl rfl (by decide) rfl (Nat.le_of_ble_eq_true rfl) ?_
      refine zk_lret rfl dX5_mud_31 ?_
      exact ⟨rfl, zs_sm.rf⟩
set_option maxRecDepth 100000 in
set_option maxHeartbeats 4000000 in
theorem qX5_mud_r6 {l : Launch} {M : zk_M} {L : zk_L} {n : Nat} (hA : zs_A (M 1) n) {p : Nat} (hp : p < n) {x : Int32} (hx : zs_p x) {k o y : Int32} (h4 : ¬ (k < 0 ∨ o < 2)) (h6 : 7 < k ∨ 20 < o) : zk_C l zm 6 muX5_mud [.ref 0, .int (nI p), .int x, .int k, .int o, .int y] M L (zp_l 4000000000000000006 (zs_nof M 6)) := by
  refine zk_ofR (ls := [some (.ref 0), some (.int (nI p)), some (.int x), some (.int k), some (.int o), some (.int y), none, none, none, none, none, none, none, none]) (by decide) rfl (Nat.le_of_ble_eq_true rfl) rfl ?_
  refine zk_aload_n dX5_mud_0 rfl ?_
  refine zk_iload_n dX5_mud_1 rfl ?_
  refine zk_iload_n dX5_mud_2 rfl ?_
  refine zk_cVi (qX5_areWrong hA.1 hA.2.1) dX5_mud_3 mwX5_areWrong ml_X5_155 (by decide : 0 < zm.1) rfl rfl (by decide) rfl (Nat.le_of_ble_eq_true rfl) ?_
  rw [if_neg (zs_w2_t hp hA.1 hx)]
  refine zk_if_eq (tgt := 15) dX5_mud_6 (by decide) (fun _ => ?_) (fun h6 => absurd (rfl) h6)
  refine zk_iload_n dX5_mud_15 rfl ?_
  refine zk_if_lt (tgt := 25) dX5_mud_16 (by decide) (fun h16 => absurd h16 (fun q => h4 (Or.inl q))) (fun _ => ?_)
  refine zk_iload dX5_mud_19 rfl ?_
  refine zk_iconst dX5_mud_21 zc_2 ?_
  refine zk_icmp_ge (tgt := 32) dX5_mud_22 (by decide) (fun _ => ?_) (fun h22 => absurd (Int32.not_lt.mp (fun q => h4 (Or.inr q))) h22)
  refine zk_iload_n dX5_mud_32 rfl ?_
  refine zk_bipush dX5_mud_33 zb_7 ?_
  refine zk_icmp_gt (tgt := 45) dX5_mud_35 (by decide) (fun h35 => ?_) (fun h35 => ?_)
  · refine zk_aload_n dX5_mud_45 rfl ?_
    refine zk_bipush dX5_mud_46 zb_m6 ?_
    refine zk_cVl (qnl6) dX5_mud_48 mwX5_noWide ml_X5_189 (by decide : 0 < zm.1) rfl rfl (by decide) rfl (Nat.le_of_ble_eq_true rfl) ?_
    refine zk_lret rfl dX5_mud_51 ?_
    exact ⟨rfl, zs_sm.rf⟩
  · refine zk_iload dX5_mud_38 rfl ?_
    refine zk_bipush dX5_mud_40 zb_20 ?_
    refine zk_icmp_le (tgt := 52) dX5_mud_42 (by decide) (fun h42 => ?_) (fun h42 => ?_)
    · exact absurd h6 (fun q => q.elim h35 (fun q => absurd q (Int32.not_lt.mpr h42)))
    · refine zk_aload_n dX5_mud_45 rfl ?_
      refine zk_bipush dX5_mud_46 zb_m6 ?_
      refine zk_cVl (qnl6) dX5_mud_48 mwX5_noWide ml_X5_189 (by decide : 0 < zm.1) rfl rfl (by decide) rfl (Nat.le_of_ble_eq_true rfl) ?_
      refine zk_lret rfl dX5_mud_51 ?_
      exact ⟨rfl, zs_sm.rf⟩
set_option maxRecDepth 100000 in
set_option maxHeartbeats 4000000 in
theorem qX5_mud_r2 {l : Launch} {M : zk_M} {L : zk_L} {n : Nat} (hA : zs_A (M 1) n) {p : Nat} (hp : p < n) {x : Int32} (hx : zs_p x) {k o y : Int32} (h4 : ¬ (k < 0 ∨ o < 2)) (h6 : ¬ (7 < k ∨ 20 < o)) (hy : ¬ (0 ≤ y ∧ y < 2)) : zk_C l zm 6 muX5_mud [.ref 0, .int (nI p), .int x, .int k, .int o, .int y] M L (zp_l 4000000000000000002 (zs_nof M 2)) := by
  refine zk_ofR (ls := [some (.ref 0), some (.int (nI p)), some (.int x), some (.int k), some (.int o), some (.int y), none, none, none, none, none, none, none, none]) (by decide) rfl (Nat.le_of_ble_eq_true rfl) rfl ?_
  refine zk_aload_n dX5_mud_0 rfl ?_
  refine zk_iload_n dX5_mud_1 rfl ?_
  refine zk_iload_n dX5_mud_2 rfl ?_
  refine zk_cVi (qX5_areWrong hA.1 hA.2.1) dX5_mud_3 mwX5_areWrong ml_X5_155 (by decide : 0 < zm.1) rfl rfl (by decide) rfl (Nat.le_of_ble_eq_true rfl) ?_
  rw [if_neg (zs_w2_t hp hA.1 hx)]
  refine zk_if_eq (tgt := 15) dX5_mud_6 (by decide) (fun _ => ?_) (fun h6 => absurd (rfl) h6)
  refine zk_iload_n dX5_mud_15 rfl ?_
  refine zk_if_lt (tgt := 25) dX5_mud_16 (by decide) (fun h16 => absurd h16 (fun q => h4 (Or.inl q))) (fun _ => ?_)
  refine zk_iload dX5_mud_19 rfl ?_
  refine zk_iconst dX5_mud_21 zc_2 ?_
  refine zk_icmp_ge (tgt := 32) dX5_mud_22 (by decide) (fun _ => ?_) (fun h22 => absurd (Int32.not_lt.mp (fun q => h4 (Or.inr q))) h22)
  refine zk_iload_n dX5_mud_32 rfl ?_
  refine zk_bipush dX5_mud_33 zb_7 ?_
  refine zk_icmp_gt (tgt := 45) dX5_mud_35 (by decide) (fun h35 => absurd h35 (fun q => h6 (Or.inl q))) (fun _ => ?_)
  refine zk_iload dX5_mud_38 rfl ?_
  refine zk_bipush dX5_mud_40 zb_20 ?_
  refine zk_icmp_le (tgt := 52) dX5_mud_42 (by decide) (fun _ => ?_) (fun h42 => absurd (Int32.not_lt.mp (fun q => h6 (Or.inr q))) h42)
  refine zk_iload dX5_mud_52 rfl ?_
  refine zk_iconst dX5_mud_54 zc_0 ?_
  refine zk_iconst dX5_mud_55 zc_1 ?_
  refine zk_cSi (qX5_01_f hy) dX5_mud_56 miX5_isIn ml_X5_46 stX5_isIn rfl (by decide) rfl (Nat.le_of_ble_eq_true rfl) ?_
  refine zk_if_ne (tgt := 69) dX5_mud_59 (by decide) (fun h59 => absurd (rfl) h59) (fun _ => ?_)
  refine zk_aload_n dX5_mud_62 rfl ?_
  refine zk_bipush dX5_mud_63 zb_m2 ?_
  refine zk_cVl (qnl2) dX5_mud_65 mwX5_noWide ml_X5_189 (by decide : 0 < zm.1) rfl rfl (by decide) rfl (Nat.le_of_ble_eq_true rfl) ?_
  refine zk_lret rfl dX5_mud_68 ?_
  exact ⟨rfl, zs_sm.rf⟩
set_option maxRecDepth 100000 in
set_option maxHeartbeats 4000000 in
theorem qX5_mud_t {l : Launch} {M : zk_M} {L : zk_L} {n : Nat} (hA : zs_A (M 1) n) {p : Nat} (hp : p < n) {x : Int32} (hx : zs_p x) {k : Nat} (hk : k ≤ 7) {o y : Int32} (ho2 : ¬ o < 2) (ho20 : ¬ 20 < o) (hy : 0 ≤ y ∧ y < 2) (ha : 0 ≤ (zu_mud (zs_J (M 1)) (zs_FW (zs_J (M 1))) o x k (zs_get (M 1) p)).toInt) (hb : 0 ≤ (zu_pow o k).toInt) : zk_C l zm 6 muX5_mud [.ref 0, .int (nI p), .int x, .int (nI k), .int o, .int y] M L (zp_l (zu_part (zu_mud (zs_J (M 1)) (zs_FW (zs_J (M 1))) o x k (zs_get (M 1) p)) (zu_pow o k) y) M) := by
  refine zk_ofR (ls := [some (.ref 0), some (.int (nI p)), some (.int x), some (.int (nI k)), some (.int o), some (.int y), none, none, none, none, none, none, none, none]) (by decide) rfl (Nat.le_of_ble_eq_true rfl) rfl ?_
  refine zk_aload_n dX5_mud_0 rfl ?_
  refine zk_iload_n dX5_mud_1 rfl ?_
  refine zk_iload_n dX5_mud_2 rfl ?_
  refine zk_cVi (qX5_areWrong hA.1 hA.2.1) dX5_mud_3 mwX5_areWrong ml_X5_155 (by decide : 0 < zm.1) rfl rfl (by decide) rfl (Nat.le_of_ble_eq_true rfl) ?_
  rw [if_neg (zs_w2_t hp hA.1 hx)]
  refine zk_if_eq (tgt := 15) dX5_mud_6 (by decide) (fun _ => ?_) (fun h6 => absurd (rfl) h6)
  refine zk_iload_n dX5_mud_15 rfl ?_
  refine zk_if_lt (tgt := 25) dX5_mud_16 (by decide) (fun h16 => absurd h16 (nI_pos (by omega))) (fun _ => ?_)
  refine zk_iload dX5_mud_19 rfl ?_
  refine zk_iconst dX5_mud_21 zc_2 ?_
  refine zk_icmp_ge (tgt := 32) dX5_mud_22 (by decide) (fun _ => ?_) (fun h22 => absurd (Int32.not_lt.mp ho2) h22)
  refine zk_iload_n dX5_mud_32 rfl ?_
  refine zk_bipush dX5_mud_33 zb_7 ?_
  refine zk_icmp_gt (tgt := 45) dX5_mud_35 (by decide) (fun h35 => absurd h35 (nI_nlt (a := 7) hk (by decide))) (fun _ => ?_)
  refine zk_iload dX5_mud_38 rfl ?_
  refine zk_bipush dX5_mud_40 zb_20 ?_
  refine zk_icmp_le (tgt := 52) dX5_mud_42 (by decide) (fun _ => ?_) (fun h42 => absurd (Int32.not_lt.mp ho20) h42)
  refine zk_iload dX5_mud_52 rfl ?_
  refine zk_iconst dX5_mud_54 zc_0 ?_
  refine zk_iconst dX5_mud_55 zc_1 ?_
  refine zk_cSi (qX5_01_t hy) dX5_mud_56 miX5_isIn ml_X5_46 stX5_isIn rfl (by decide) rfl (Nat.le_of_ble_eq_true rfl) ?_
  refine zk_if_ne (tgt := 69) dX5_mud_59 (by decide) (fun _ => ?_) (fun h59 => absurd h59 (by decide))
  refine zk_lconst (v := 0) dX5_mud_69 (by decide) ?_
  refine zk_lstore dX5_mud_70 zk_S2_6 ?_
  refine zk_lconst (v := 1) dX5_mud_72 (by decide) ?_
  refine zk_lstore dX5_mud_73 zk_S2_8 ?_
  refine zk_iconst dX5_mud_75 zc_0 ?_
  refine zk_istore dX5_mud_76 zk_S_10 ?_
  refine zk_forget (ls' := [some (.ref 0), some (.int (nI p)), some (.int x), some (.int (nI k)), some (.int o), some (.int y), some (.long 0), none, some (.long 1), none, some (.int (nI 0)), none, none, none]) ⟨Or.inr rfl, Or.inr rfl, Or.inr rfl, Or.inr rfl, Or.inr rfl, Or.inr rfl, Or.inr rfl, Or.inl rfl, Or.inr rfl, Or.inl rfl, Or.inr rfl, Or.inl rfl, Or.inl rfl, Or.inl rfl, trivial⟩ (lX5_mud1 hk k 0 1 (by omega) ?_)
  refine zk_iconst dX5_mud_98 zc_0 ?_
  refine zk_istore dX5_mud_99 zk_S_10 ?_
  refine lX5_mud3 hA hp hk (2 ^ k) 0 0 M L (by omega) zs_sm.rf (fun M1 L1 hs1 => ?_)
  refine zk_lload dX5_mud_202 rfl ?_
  refine zk_lload dX5_mud_204 rfl ?_
  refine zk_iload dX5_mud_206 rfl ?_
  refine zk_cSl (qX5_partOf ha hb) dX5_mud_208 miX5_partOf ml_X5_193 stX5_partOf rfl (by decide) rfl (Nat.le_of_ble_eq_true rfl) ?_
  refine zk_lret rfl dX5_mud_211 ?_
  exact ⟨rfl, hs1⟩
