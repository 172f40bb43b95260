theorem zb_52 : (Int8.ofInt 52).toInt32 = (52 : Int32) := by decide +kernel
theorem zs_for_cp {F : Nat → Int32} : ∀ (m i : Nat) (T : Nat → Int32), zs_for (fun i T => va_up T i (F i)) m i T = fun j => if i ≤ j ∧ j < i + m then F j else T j
  | 0, i, T => by
    funext j
    rw [if_neg (by omega)]
    rfl
  | m + 1, i, T => by
    rw [zs_for, zs_for_cp m (i + 1)]
    funext j
    simp only [va_up]
    by_cases h : i + 1 ≤ j ∧ j < i + 1 + m
    · rw [if_pos h, if_pos (by omega)]
    · rw [if_neg h]
      by_cases e : j = i
      · rw [if_pos e, if_pos (by omega), e]
      · rw [if_neg e, if_neg (by omega)]
theorem zs_for_cp0 {F : Nat → Int32} {m : Nat} {T : Nat → Int32} : zs_for (fun i T => va_up T i (F i)) m 0 T = zs_cp m F T := by
  rw [zs_for_cp]
  funext j
  simp [zs_cp]
set_option maxRecDepth 100000 in
set_option maxHeartbeats 4000000 in
theorem lX5_copies {l : Launch} {σ : zk_Sh} {L : zk_L} {f t : Nat} (hf : zs_a σ f 52) (ht : zs_a σ t 52) (hne : f ≠ t) {Q : Option Value → zk_M → zk_L → Prop} : ∀ (m i : Nat) (M : zk_M), i + m = 52 → zk_R l σ 0 muX5_copies 20 [some (.ref f), some (.ref t), none] [] (va_up M t (zs_for (fun i T => va_up T i (M f i)) m i (M t))) L Q → zk_R l σ 0 muX5_copies 2 [some (.ref f), some (.ref t), some (.int (nI i))] [] M L Q := by
  intro m
  induction m with
  | zero =>
    intro i M hi k
    obtain rfl : i = 52 := by omega
    refine zk_iload_n dX5_copies_2 rfl ?_
    refine zk_bipush (v := 52) dX5_copies_3 (by decide) ?_
    refine zk_icmp_ge (tgt := 20) dX5_copies_5 (by decide) (fun _ => ?_) (fun q => absurd (by decide) q)
    rw [zs_for, zs_up_self] at k
    refine zk_forget ?_ k
    exact ⟨Or.inr rfl, Or.inr rfl, Or.inl rfl, trivial⟩
  | succ m ih =>
    intro i M hi k
    have hi : i < 52 := by omega
    refine zk_iload_n dX5_copies_2 rfl ?_
    refine zk_bipush dX5_copies_3 zb_52 ?_
    refine zk_icmp_ge (tgt := 20) dX5_copies_5 (by decide) (fun h5 => absurd h5 (nI_ge (b := 52) hi (by decide))) (fun _ => ?_)
    refine zk_aload_n dX5_copies_8 rfl ?_
    refine zk_iload_n dX5_copies_9 rfl ?_
    refine zk_aload_n dX5_copies_10 rfl ?_
    refine zk_iload_n dX5_copies_11 rfl ?_
    refine zk_iald (j := i) dX5_copies_12 hf.1 hf.2.1 (zs_in hf.2.2 (vp_in_nI hi (by decide))) (nI_clamp (Nat.lt_trans hi (by decide))) ?_
    refine zk_iast (j := i) dX5_copies_13 ht.1 ht.2.1 (zs_in ht.2.2 (vp_in_nI hi (by decide))) (nI_clamp (Nat.lt_trans hi (by decide))) ?_
    refine zk_iinc dX5_copies_14 zc_1 rfl zk_S_2 ?_
    refine zk_goto (tgt := 2) dX5_copies_17 (by decide) ?_
    rw [← nI_succ]
    refine ih (i + 1) _ (by omega) ?_
    rw [zs_up2, zk_up_eq, zk_up_ne hne]
    exact k
set_option maxRecDepth 100000 in
set_option maxHeartbeats 4000000 in
theorem qX5_copies {l : Launch} {σ : zk_Sh} {M : zk_M} {L : zk_L} {f t : Nat} (hf : zs_a σ f 52) (ht : zs_a σ t 52) (hne : f ≠ t) : zk_C l σ 0 muX5_copies [.ref f, .ref t] M L (zk_Ev (va_up M t (zs_cp 52 (M f) (M t))) L) := by
  refine zk_ofR (ls := [some (.ref f), some (.ref t), none]) (by decide) rfl (Nat.le_of_ble_eq_true rfl) rfl ?_
  refine zk_iconst dX5_copies_0 zc_0 ?_
  refine zk_istore_n dX5_copies_1 zk_S_2 ?_
  refine lX5_copies hf ht hne 52 0 M rfl ?_
  rw [zs_for_cp0]
  refine zk_vret rfl dX5_copies_20 ?_
  exact ⟨rfl, rfl, rfl⟩
def zs_nof (M : zk_M) (k : Nat) : zk_M := va_up M 8 (va_up (M 8) k (M 8 k + 1))
set_option maxRecDepth 100000 in
set_option maxHeartbeats 4000000 in
theorem qX5_no {l : Launch} {M : zk_M} {L : zk_L} {x : Int32} {k : Nat} (hin : vp_in (-x) 7) (hk : (-x).toNatClampNeg = k) : zk_C l zm 0 muX5_no [.ref 0, .int x] M L (zk_Ei x (zs_nof M k) L) := by
  refine zk_ofR (ls := [some (.ref 0), some (.int x)]) (by decide) rfl (Nat.le_of_ble_eq_true rfl) rfl ?_
  refine zk_aload_n dX5_no_0 rfl ?_
  refine zk_getRc (q := 8) dX5_no_1 fl_X5_31 (by decide : 0 < zm.1) rfl rfl rfl ?_
  refine zk_iload_n dX5_no_4 rfl ?_
  refine zk_ineg dX5_no_5 ?_
  refine zk_dup2 dX5_no_6 rfl rfl ?_
  refine zk_iald (j := k) dX5_no_7 (by decide : 8 < zm.1) rfl (zs_in rfl hin) hk ?_
  refine zk_iconst dX5_no_8 zc_1 ?_
  refine zk_iadd dX5_no_9 ?_
  refine zk_iast (j := k) dX5_no_10 (by decide : 8 < zm.1) rfl (zs_in rfl hin) hk ?_
  refine zk_iload_n dX5_no_11 rfl ?_
  refine zk_iret rfl dX5_no_12 ?_
  exact ⟨rfl, rfl, rfl⟩
set_option maxRecDepth 100000 in
set_option maxHeartbeats 4000000 in
theorem qX5_noWide {l : Launch} {M : zk_M} {L : zk_L} {x : Int32} {k : Nat} (hin : vp_in (-x) 7) (hk : (-x).toNatClampNeg = k) : zk_C l zm 1 muX5_noWide [.ref 0, .int x] M L (zk_El (4000000000000000000 - x.toInt64) (zs_nof M k) L) := by
  refine zk_ofR (ls := [some (.ref 0), some (.int x)]) (by decide) rfl (Nat.le_of_ble_eq_true rfl) rfl ?_
  refine zk_ldc2 dX5_noWide_0 ct_X5_40 ?_
  refine zk_aload_n dX5_noWide_3 rfl ?_
  refine zk_iload_n dX5_noWide_4 rfl ?_
  refine zk_cVi (qX5_no hin hk) dX5_noWide_5 mwX5_no ml_X5_42 (by decide : 0 < zm.1) rfl rfl (by decide) rfl (Nat.le_of_ble_eq_true rfl) ?_
  refine zk_i2l dX5_noWide_8 ?_
  refine zk_lsub dX5_noWide_9 ?_
  refine zk_lret rfl dX5_noWide_10 ?_
  exact ⟨rfl, rfl, rfl⟩
theorem qno1 {l : Launch} {M : zk_M} {L : zk_L} : zk_C l zm 0 muX5_no [.ref 0, .int (-1)] M L (zk_Ei (-1) (zs_nof M 1) L) := qX5_no (vp_in_iff.mpr (by decide)) (by decide)
theorem qnl1 {l : Launch} {M : zk_M} {L : zk_L} : zk_C l zm 1 muX5_noWide [.ref 0, .int (-1)] M L (zk_El (4000000000000000001) (zs_nof M 1) L) := by
  have := qX5_noWide (l := l) (M := M) (L := L) (x := -1) (k := 1) (vp_in_iff.mpr (by decide)) (by decide)
  rwa [show (4000000000000000000 : Int64) - (-1 : Int32).toInt64 = 4000000000000000001 by decide] at this
theorem qno2 {l : Launch} {M : zk_M} {L : zk_L} : zk_C l zm 0 muX5_no [.ref 0, .int (-2)] M L (zk_Ei (-2) (zs_nof M 2) L) := qX5_no (vp_in_iff.mpr (by decide)) (by decide)
theorem qnl2 {l : Launch} {M : zk_M} {L : zk_L} : zk_C l zm 1 muX5_noWide [.ref 0, .int (-2)] M L (zk_El (4000000000000000002) (zs_nof M 2) L) := by
  have := qX5_noWide (l := l) (M := M) (L := L) (x := -2) (k := 2) (vp_in_iff.mpr (by decide)) (by decide)
  rwa [show (4000000000000000000 : Int64) - (-2 : Int32).toInt64 = 4000000000000000002 by decide] at this
theorem qno3 {l : Launch} {M : zk_M} {L : zk_L} : zk_C l zm 0 muX5_no [.ref 0, .int (-3)] M L (zk_Ei (-3) (zs_nof M 3) L) := qX5_no (vp_in_iff.mpr (by decide)) (by decide)
theorem qnl3 {l : Launch} {M : zk_M} {L : zk_L} : zk_C l zm 1 muX5_noWide [.ref 0, .int (-3)] M L (zk_El (4000000000000000003) (zs_nof M 3) L) := by
  have := qX5_noWide (l := l) (M := M) (L := L) (x := -3) (k := 3) (vp_in_iff.mpr (by decide)) (by decide)
  rwa [show (4000000000000000000 : Int64) - (-3 : Int32).toInt64 = 4000000000000000003 by decide] at this
theorem qno4 {l : Launch} {M : zk_M} {L : zk_L} : zk_C l zm 0 muX5_no [.ref 0, .int (-4)] M L (zk_Ei (-4) (zs_nof M 4) L) := qX5_no (vp_in_iff.mpr (by decide)) (by decide)
theorem qnl4 {l : Launch} {M : zk_M} {L : zk_L} : zk_C l zm 1 muX5_noWide [.ref 0, .int (-4)] M L (zk_El (4000000000000000004) (zs_nof M 4) L) := by
  have := qX5_noWide (l := l) (M := M) (L := L) (x := -4) (k := 4) (vp_in_iff.mpr (by decide)) (by decide)
  rwa [show (4000000000000000000 : Int64) - (-4 : Int32).toInt64 = 4000000000000000004 by decide] at this
theorem qno6 {l : Launch} {M : zk_M} {L : zk_L} : zk_C l zm 0 muX5_no [.ref 0, .int (-6)] M L (zk_Ei (-6) (zs_nof M 6) L) := qX5_no (vp_in_iff.mpr (by decide)) (by decide)
theorem qnl6 {l : Launch} {M : zk_M} {L : zk_L} : zk_C l zm 1 muX5_noWide [.ref 0, .int (-6)] M L (zk_El (4000000000000000006) (zs_nof M 6) L) := by
  have := qX5_noWide (l := l) (M := M) (L := L) (x := -6) (k := 6) (vp_in_iff.mpr (by decide)) (by decide)
  rwa [show (4000000000000000000 : Int64) - (-6 : Int32).toInt64 = 4000000000000000006 by decide] at this
theorem zs_isr_le {n : Nat} (hn : n ≤ 6) {r : Int32} : (0 ≤ r ∧ r ≤ nI n - 1) ↔ zs_isr (nI n) r := by
  refine and_congr Iff.rfl ?_
  rw [Int32.le_iff_toInt_le, Int32.lt_iff_toInt_lt, Kit.i32_sub (by rw [nI_toInt (by omega)]; show _ ≤ _ - (1 : Int32).toInt; have e : (1 : Int32).toInt = 1 := rfl; omega) (by rw [nI_toInt (by omega)]; have e : (1 : Int32).toInt = 1 := rfl; omega), nI_toInt (by omega)]
  have e : (1 : Int32).toInt = 1 := rfl
  rw [e]
  omega
set_option maxRecDepth 100000 in
set_option maxHeartbeats 4000000 in
theorem qX5_isRider {l : Launch} {M : zk_M} {L : zk_L} {n : Nat} (hn : n ≤ 6) (hc : M 1 0 = nI n) {r : Int32} : zk_C l zm 1 muX5_isRider [.ref 0, .int r] M L (zk_Ei (if zs_isr (nI n) r then 1 else 0) M L) := by
  refine zk_ofR (ls := [some (.ref 0), some (.int r)]) (by decide) rfl (Nat.le_of_ble_eq_true rfl) rfl ?_
  refine zk_iload_n dX5_isRider_0 rfl ?_
  refine zk_iconst dX5_isRider_1 zc_0 ?_
  refine zk_aload_n dX5_isRider_2 rfl ?_
  refine zk_getRc (q := 1) dX5_isRider_3 fl_X5_9 (by decide : 0 < zm.1) rfl rfl rfl ?_
  refine zk_iconst dX5_isRider_6 zc_0 ?_
  refine zk_iald (j := 0) dX5_isRider_7 (by decide : 1 < zm.1) rfl (zs_in rfl (vp_in_iff.mpr (by decide))) (by decide) ?_
  rw [hc]
  refine zk_iconst dX5_isRider_8 zc_1 ?_
  refine zk_isub dX5_isRider_9 ?_
  refine zk_cSi (qX5_isIn) dX5_isRider_10 miX5_isIn ml_X5_46 stX5_isIn rfl (by decide) rfl (Nat.le_of_ble_eq_true rfl) ?_
  refine zk_zret rfl zs_nar dX5_isRider_13 ?_
  exact zk_Ei_of (by by_cases h : zs_isr (nI n) r <;> first | exact (if_pos ((zs_isr_le hn).mpr h)).trans (if_pos h).symm | exact (if_neg (fun q => h ((zs_isr_le hn).mp q))).trans (if_neg h).symm) rfl rfl
theorem qX5_isRider_t {l : Launch} {M : zk_M} {L : zk_L} {n : Nat} (hn : n ≤ 6) (hc : M 1 0 = nI n) {p : Nat} (hp : p < n) : zk_C l zm 1 muX5_isRider [.ref 0, .int (nI p)] M L (zk_Ei 1 M L) := by
  have := qX5_isRider (l := l) (L := L) hn hc (r := nI p)
  rwa [if_pos ⟨nI_pos' (by omega), nI_lt hp (by omega)⟩] at this
theorem qX5_isRider_f {l : Launch} {M : zk_M} {L : zk_L} {n : Nat} (hn : n ≤ 6) (hc : M 1 0 = nI n) {r : Int32} (hr : ¬ zs_isr (nI n) r) : zk_C l zm 1 muX5_isRider [.ref 0, .int r] M L (zk_Ei 0 M L) := by
  have := qX5_isRider (l := l) (L := L) hn hc (r := r)
  rwa [if_neg hr] at this
theorem zs_jx {a b : Nat} (ha : a < 8) (hb : b < 8) : 8 * nI a + nI b = nI (a * 8 + b) := by rw [Int32.mul_comm]; exact zs_ix ha hb
theorem zs_jxin {a b : Nat} (ha : a < 8) (hb : b < 8) : vp_in (8 * nI a + nI b) 64 := by rw [zs_jx ha hb]; exact vp_in_nI (by omega) (by decide)
theorem zs_jxj {a b : Nat} (ha : a < 8) (hb : b < 8) : (8 * nI a + nI b).toNatClampNeg = a * 8 + b := by rw [zs_jx ha hb]; exact nI_clamp (by omega)
set_option maxRecDepth 100000 in
set_option maxHeartbeats 4000000 in
theorem lX5_ms1 {l : Launch} {L : zk_L} {r : Nat} (hr : zs_a zm r 52) (hr5 : r ≠ 5) {Q : Option Value → zk_M → zk_L → Prop} {a : Nat} (ha : a < 8) : ∀ (m b : Nat) (M : zk_M), b + m = 8 → zk_R l zm 1 muX5_measures 60 [some (.ref 0), some (.ref r), some (.int (nI a)), none, none] [] (va_up M 5 (zs_for (fun b T => va_up T (a * 8 + b) (zs_d0 (zs_J (M r)) a b)) m b (M 5))) L Q → zk_R l zm 1 muX5_measures 10 [some (.ref 0), some (.ref r), some (.int (nI a)), some (.int (nI b)), none] [] M L Q := by
  intro m
  induction m with
  | zero =>
    intro b M hi k
    obtain rfl : b = 8 := by omega
    refine zk_iload_n dX5_measures_10 rfl ?_
    refine zk_bipush (v := 8) dX5_measures_11 (by decide) ?_
    refine zk_icmp_ge (tgt := 60) dX5_measures_13 (by decide) (fun _ => ?_) (fun q => absurd (by decide) q)
    rw [zs_for, zs_up_self] at k
    refine zk_forget ?_ k
    exact ⟨Or.inr rfl, Or.inr rfl, Or.inr rfl, Or.inl rfl, Or.inl rfl, trivial⟩
  | succ m ih =>
    intro b M hi k
    have h8 : b < 8 := by omega
    refine zk_iload_n dX5_measures_10 rfl ?_
    refine zk_bipush dX5_measures_11 zb_8 ?_
    refine zk_icmp_ge (tgt := 60) dX5_measures_13 (by decide) (fun h13 => absurd h13 (nI_ge h8 (by decide))) (fun _ => ?_)
    refine zk_aload_n dX5_measures_16 rfl ?_
    refine zk_getRc (q := 5) dX5_measures_17 fl_X5_22 (by decide : 0 < zm.1) rfl rfl rfl ?_
    refine zk_bipush dX5_measures_20 zb_8 ?_
    refine zk_iload_n dX5_measures_22 rfl ?_
    refine zk_imul dX5_measures_23 ?_
    refine zk_iload_n dX5_measures_24 rfl ?_
    refine zk_iadd dX5_measures_25 ?_
    refine zk_iload_n dX5_measures_26 rfl ?_
    refine zk_iload_n dX5_measures_27 rfl ?_
    refine zk_icmp_ne (tgt := 35) dX5_measures_28 (by decide) (fun h28 => ?_) (fun h28 => ?_)
    · have hab : ¬ a = b := fun q => h28 (by rw [q])
      refine zk_aload_n dX5_measures_35 rfl ?_
      refine zk_iconst dX5_measures_36 zc_2 ?_
      refine zk_iload_n dX5_measures_37 rfl ?_
      refine zk_iadd dX5_measures_38 ?_
      rw [show 2 + nI a = nI (2 + a) from zs_nI_add 2 a]
      refine zk_iald (j := 2 + a) dX5_measures_39 hr.1 hr.2.1 (zs_in hr.2.2 (vp_in_nI (show 2 + a < 52 by omega) (by decide))) (nI_clamp (by omega)) ?_
      refine zk_iload_n dX5_measures_40 rfl ?_
      refine zk_cSi (qX5_has) dX5_measures_41 miX5_has ml_X5_50 stX5_has rfl (by decide) rfl (Nat.le_of_ble_eq_true rfl) ?_
      refine zk_if_eq (tgt := 51) dX5_measures_44 (by decide) (fun h44 => ?_) (fun h44 => ?_)
      · have hj0 := zs_if0 h44
        have hj : ¬ zs_j (zs_J (M r)) (nI a) (nI b) := by unfold zs_j zs_J; rw [nI_clamp (by omega)]; exact hj0
        refine zk_bipush dX5_measures_51 zb_9 ?_
        refine zk_iast (j := a * 8 + b) dX5_measures_53 (by decide : 5 < zm.1) rfl (zs_in rfl (zs_jxin ha h8)) (zs_jxj ha h8) ?_
        refine zk_iinc dX5_measures_54 zc_1 rfl zk_S_3 ?_
        refine zk_goto (tgt := 10) dX5_measures_57 (by decide) ?_
        rw [← nI_succ]
        refine zk_post (M' := va_up M 5 (va_up (M 5) (a * 8 + b) (zs_d0 (zs_J (M r)) a b))) (congrArg (fun v => va_up M 5 (va_up (M 5) (a * 8 + b) v)) (by first | exact (zs_d0_0 hab).symm | exact (zs_d0_1 hab hj).symm | exact (zs_d0_9 hab hj).symm)) rfl ?_
        refine ih (b + 1) _ (by omega) ?_
        rw [zs_up2, zk_up_eq, zk_up_ne hr5]
        exact k
      · have hj0 := zs_if1 h44
        have hj : zs_j (zs_J (M r)) (nI a) (nI b) := by unfold zs_j zs_J; rw [nI_clamp (by omega)]; exact hj0
        refine zk_iconst dX5_measures_47 zc_1 ?_
        refine zk_goto (tgt := 53) dX5_measures_48 (by decide) ?_
        refine zk_iast (j := a * 8 + b) dX5_measures_53 (by decide : 5 < zm.1) rfl (zs_in rfl (zs_jxin ha h8)) (zs_jxj ha h8) ?_
        refine zk_iinc dX5_measures_54 zc_1 rfl zk_S_3 ?_
        refine zk_goto (tgt := 10) dX5_measures_57 (by decide) ?_
        rw [← nI_succ]
        refine zk_post (M' := va_up M 5 (va_up (M 5) (a * 8 + b) (zs_d0 (zs_J (M r)) a b))) (congrArg (fun v => va_up M 5 (va_up (M 5) (a * 8 + b) v)) (by first | exact (zs_d0_0 hab).symm | exact (zs_d0_1 hab hj).symm | exact (zs_d0_9 hab hj).symm)) rfl ?_
        refine ih (b + 1) _ (by omega) ?_
        rw [zs_up2, zk_up_eq, zk_up_ne hr5]
        exact k
    · have hab : a = b := zs_nI_inj (by omega) (by omega) h28
      refine zk_iconst dX5_measures_31 zc_0 ?_
      refine zk_goto (tgt := 53) dX5_measures_32 (by decide) ?_
      refine zk_iast (j := a * 8 + b) dX5_measures_53 (by decide : 5 < zm.1) rfl (zs_in rfl (zs_jxin ha h8)) (zs_jxj ha h8) ?_
      refine zk_iinc dX5_measures_54 zc_1 rfl zk_S_3 ?_
      refine zk_goto (tgt := 10) dX5_measures_57 (by decide) ?_
      rw [← nI_succ]
      refine zk_post (M' := va_up M 5 (va_up (M 5) (a * 8 + b) (zs_d0 (zs_J (M r)) a b))) (congrArg (fun v => va_up M 5 (va_up (M 5) (a * 8 + b) v)) (by first | exact (zs_d0_0 hab).symm | exact (zs_d0_1 hab hj).symm | exact (zs_d0_9 hab hj).symm)) rfl ?_
      refine ih (b + 1) _ (by omega) ?_
      rw [zs_up2, zk_up_eq, zk_up_ne hr5]
      exact k
set_option maxRecDepth 100000 in
set_option maxHeartbeats 4000000 in
theorem lX5_ms2 {l : Launch} {L : zk_L} {r : Nat} (hr : zs_a zm r 52) (hr5 : r ≠ 5) {Q : Option Value → zk_M → zk_L → Prop}  : ∀ (m a : Nat) (M : zk_M), a + m = 8 → zk_R l zm 1 muX5_measures 66 [some (.ref 0), some (.ref r), none, none, none] [] (va_up M 5 (zs_for (fun a T => zs_for (fun b T => va_up T (a * 8 + b) (zs_d0 (zs_J (M r)) a b)) 8 0 T) m a (M 5))) L Q → zk_R l zm 1 muX5_measures 2 [some (.ref 0), some (.ref r), some (.int (nI a)), none, none] [] M L Q := by
  intro m
  induction m with
  | zero =>
    intro a M hi k
    obtain rfl : a = 8 := by omega
    refine zk_iload_n dX5_measures_2 rfl ?_
    refine zk_bipush (v := 8) dX5_measures_3 (by decide) ?_
    refine zk_icmp_ge (tgt := 66) dX5_measures_5 (by decide) (fun _ => ?_) (fun q => absurd (by decide) q)
    rw [zs_for, zs_up_self] at k
    refine zk_forget ?_ k
    exact ⟨Or.inr rfl, Or.inr rfl, Or.inl rfl, Or.inl rfl, Or.inl rfl, trivial⟩
  | succ m ih =>
    intro a M hi k
    have h8 : a < 8 := by omega
    refine zk_iload_n dX5_measures_2 rfl ?_
    refine zk_bipush dX5_measures_3 zb_8 ?_
    refine zk_icmp_ge (tgt := 66) dX5_measures_5 (by decide) (fun h5 => absurd h5 (nI_ge h8 (by decide))) (fun _ => ?_)
    refine zk_iconst dX5_measures_8 zc_0 ?_
    refine zk_istore_n dX5_measures_9 zk_S_3 ?_
    refine lX5_ms1 hr hr5 h8 8 0 M rfl ?_
    refine zk_iinc dX5_measures_60 zc_1 rfl zk_S_2 ?_
    refine zk_goto (tgt := 2) dX5_measures_63 (by decide) ?_
    rw [← nI_succ]
    refine ih (a + 1) _ (by omega) ?_
    rw [zs_up2, zk_up_eq, zk_up_ne hr5]
    exact k
set_option maxRecDepth 100000 in
set_option maxHeartbeats 4000000 in
theorem lX5_ms3 {l : Launch} {L : zk_L} {r : Nat} (hr : zs_a zm r 52) (hr5 : r ≠ 5) {Q : Option Value → zk_M → zk_L → Prop} {a kk : Nat} (ha : a < 8) (hk : kk < 8) : ∀ (m b : Nat) (M : zk_M), b + m = 8 → zk_R l zm 1 muX5_measures 149 [some (.ref 0), some (.ref r), some (.int (nI kk)), some (.int (nI a)), none] [] (va_up M 5 (zs_for (fun b T => va_up T (a * 8 + b) (zs_min (T (a * 8 + b)) (T (a * 8 + kk) + T (kk * 8 + b)))) m b (M 5))) L Q → zk_R l zm 1 muX5_measures 85 [some (.ref 0), some (.ref r), some (.int (nI kk)), some (.int (nI a)), some (.int (nI b))] [] M L Q := by
  intro m
  induction m with
  | zero =>
    intro b M hi k
    obtain rfl : b = 8 := by omega
    refine zk_iload dX5_measures_85 rfl ?_
    refine zk_bipush (v := 8) dX5_measures_87 (by decide) ?_
    refine zk_icmp_ge (tgt := 149) dX5_measures_89 (by decide) (fun _ => ?_) (fun q => absurd (by decide) q)
    rw [zs_for, zs_up_self] at k
    refine zk_forget ?_ k
    exact ⟨Or.inr rfl, Or.inr rfl, Or.inr rfl, Or.inr rfl, Or.inl rfl, trivial⟩
  | succ m ih =>
    intro b M hi k
    have h8 : b < 8 := by omega
    refine zk_iload dX5_measures_85 rfl ?_
    refine zk_bipush dX5_measures_87 zb_8 ?_
    refine zk_icmp_ge (tgt := 149) dX5_measures_89 (by decide) (fun h89 => absurd h89 (nI_ge h8 (by decide))) (fun _ => ?_)
    refine zk_aload_n dX5_measures_92 rfl ?_
    refine zk_getRc (q := 5) dX5_measures_93 fl_X5_22 (by decide : 0 < zm.1) rfl rfl rfl ?_
    refine zk_bipush dX5_measures_96 zb_8 ?_
    refine zk_iload_n dX5_measures_98 rfl ?_
    refine zk_imul dX5_measures_99 ?_
    refine zk_iload dX5_measures_100 rfl ?_
    refine zk_iadd dX5_measures_102 ?_
    refine zk_aload_n dX5_measures_103 rfl ?_
    refine zk_getRc (q := 5) dX5_measures_104 fl_X5_22 (by decide : 0 < zm.1) rfl rfl rfl ?_
    refine zk_bipush dX5_measures_107 zb_8 ?_
    refine zk_iload_n dX5_measures_109 rfl ?_
    refine zk_imul dX5_measures_110 ?_
    refine zk_iload dX5_measures_111 rfl ?_
    refine zk_iadd dX5_measures_113 ?_
    refine zk_iald (j := a * 8 + b) dX5_measures_114 (by decide : 5 < zm.1) rfl (zs_in rfl (zs_jxin ha h8)) (zs_jxj ha h8) ?_
    refine zk_aload_n dX5_measures_115 rfl ?_
    refine zk_getRc (q := 5) dX5_measures_116 fl_X5_22 (by decide : 0 < zm.1) rfl rfl rfl ?_
    refine zk_bipush dX5_measures_119 zb_8 ?_
    refine zk_iload_n dX5_measures_121 rfl ?_
    refine zk_imul dX5_measures_122 ?_
    refine zk_iload_n dX5_measures_123 rfl ?_
    refine zk_iadd dX5_measures_124 ?_
    refine zk_iald (j := a * 8 + kk) dX5_measures_125 (by decide : 5 < zm.1) rfl (zs_in rfl (zs_jxin ha hk)) (zs_jxj ha hk) ?_
    refine zk_aload_n dX5_measures_126 rfl ?_
    refine zk_getRc (q := 5) dX5_measures_127 fl_X5_22 (by decide : 0 < zm.1) rfl rfl rfl ?_
    refine zk_bipush dX5_measures_130 zb_8 ?_
    refine zk_iload_n dX5_measures_132 rfl ?_
    refine zk_imul dX5_measures_133 ?_
    refine zk_iload dX5_measures_134 rfl ?_
    refine zk_iadd dX5_measures_136 ?_
    refine zk_iald (j := kk * 8 + b) dX5_measures_137 (by decide : 5 < zm.1) rfl (zs_in rfl (zs_jxin hk h8)) (zs_jxj hk h8) ?_
    refine zk_iadd dX5_measures_138 ?_
    refine zk_cSi (qX5_least') dX5_measures_139 miX5_least ml_X5_54 stX5_least rfl (by decide) rfl (Nat.le_of_ble_eq_true rfl) ?_
    refine zk_iast (j := a * 8 + b) dX5_measures_142 (by decide : 5 < zm.1) rfl (zs_in rfl (zs_jxin ha h8)) (zs_jxj ha h8) ?_
    refine zk_iinc dX5_measures_143 zc_1 rfl zk_S_4 ?_
    refine zk_goto (tgt := 85) dX5_measures_146 (by decide) ?_
    rw [← nI_succ]
    refine ih (b + 1) _ (by omega) ?_
    rw [zs_up2, zk_up_eq]
    exact k
set_option maxRecDepth 100000 in
set_option maxHeartbeats 4000000 in
theorem lX5_ms4 {l : Launch} {L : zk_L} {r : Nat} (hr : zs_a zm r 52) (hr5 : r ≠ 5) {Q : Option Value → zk_M → zk_L → Prop} {kk : Nat} (hk : kk < 8) : ∀ (m a : Nat) (M : zk_M), a + m = 8 → zk_R l zm 1 muX5_measures 155 [some (.ref 0), some (.ref r), some (.int (nI kk)), none, none] [] (va_up M 5 (zs_for (fun a T => zs_for (fun b T => va_up T (a * 8 + b) (zs_min (T (a * 8 + b)) (T (a * 8 + kk) + T (kk * 8 + b)))) 8 0 T) m a (M 5))) L Q → zk_R l zm 1 muX5_measures 76 [some (.ref 0), some (.ref r), some (.int (nI kk)), some (.int (nI a)), none] [] M L Q := by
  intro m
  induction m with
  | zero =>
    intro a M hi k
    obtain rfl : a = 8 := by omega
    refine zk_iload_n dX5_measures_76 rfl ?_
    refine zk_bipush (v := 8) dX5_measures_77 (by decide) ?_
    refine zk_icmp_ge (tgt := 155) dX5_measures_79 (by decide) (fun _ => ?_) (fun q => absurd (by decide) q)
    rw [zs_for, zs_up_self] at k
    refine zk_forget ?_ k
    exact ⟨Or.inr rfl, Or.inr rfl, Or.inr rfl, Or.inl rfl, Or.inl rfl, trivial⟩
  | succ m ih =>
    intro a M hi k
    have h8 : a < 8 := by omega
    refine zk_iload_n dX5_measures_76 rfl ?_
    refine zk_bipush dX5_measures_77 zb_8 ?_
    refine zk_icmp_ge (tgt := 155) dX5_measures_79 (by decide) (fun h79 => absurd h79 (nI_ge h8 (by decide))) (fun _ => ?_)
    refine zk_iconst dX5_measures_82 zc_0 ?_
    refine zk_istore dX5_measures_83 zk_S_4 ?_
    refine lX5_ms3 hr hr5 h8 hk 8 0 M rfl ?_
    refine zk_iinc dX5_measures_149 zc_1 rfl zk_S_3 ?_
    refine zk_goto (tgt := 76) dX5_measures_152 (by decide) ?_
    rw [← nI_succ]
    refine ih (a + 1) _ (by omega) ?_
    rw [zs_up2, zk_up_eq]
    exact k
set_option maxRecDepth 100000 in
set_option maxHeartbeats 4000000 in
theorem lX5_ms5 {l : Launch} {L : zk_L} {r : Nat} (hr : zs_a zm r 52) (hr5 : r ≠ 5) {Q : Option Value → zk_M → zk_L → Prop}  : ∀ (m kk : Nat) (M : zk_M), kk + m = 8 → zk_R l zm 1 muX5_measures 161 [some (.ref 0), some (.ref r), none, none, none] [] (va_up M 5 (zs_for (fun kk T => zs_for (fun a T => zs_for (fun b T => va_up T (a * 8 + b) (zs_min (T (a * 8 + b)) (T (a * 8 + kk) + T (kk * 8 + b)))) 8 0 T) 8 0 T) m kk (M 5))) L Q → zk_R l zm 1 muX5_measures 68 [some (.ref 0), some (.ref r), some (.int (nI kk)), none, none] [] M L Q := by
  intro m
  induction m with
  | zero =>
    intro kk M hi k
    obtain rfl : kk = 8 := by omega
    refine zk_iload_n dX5_measures_68 rfl ?_
    refine zk_bipush (v := 8) dX5_measures_69 (by decide) ?_
    refine zk_icmp_ge (tgt := 161) dX5_measures_71 (by decide) (fun _ => ?_) (fun q => absurd (by decide) q)
    rw [zs_for, zs_up_self] at k
    refine zk_forget ?_ k
    exact ⟨Or.inr rfl, Or.inr rfl, Or.inl rfl, Or.inl rfl, Or.inl rfl, trivial⟩
  | succ m ih =>
    intro kk M hi k
    have h8 : kk < 8 := by omega
    refine zk_iload_n dX5_measures_68 rfl ?_
    refine zk_bipush dX5_measures_69 zb_8 ?_
    refine zk_icmp_ge (tgt := 161) dX5_measures_71 (by decide) (fun h71 => absurd h71 (nI_ge h8 (by decide))) (fun _ => ?_)
    refine zk_iconst dX5_measures_74 zc_0 ?_
    refine zk_istore_n dX5_measures_75 zk_S_3 ?_
    refine lX5_ms4 hr hr5 h8 8 0 M rfl ?_
    refine zk_iinc dX5_measures_155 zc_1 rfl zk_S_2 ?_
    refine zk_goto (tgt := 68) dX5_measures_158 (by decide) ?_
    rw [← nI_succ]
    refine ih (kk + 1) _ (by omega) ?_
    rw [zs_up2, zk_up_eq]
    exact k
set_option maxRecDepth 100000 in
set_option maxHeartbeats 4000000 in
theorem qX5_measures {l : Launch} {M : zk_M} {L : zk_L} {r : Nat} (hr : zs_a zm r 52) (hr5 : r ≠ 5) : zk_C l zm 1 muX5_measures [.ref 0, .ref r] M L (zk_Ev (va_up M 5 (zs_fw (zs_J (M r)) (M 5))) L) := by
  refine zk_ofR (ls := [some (.ref 0), some (.ref r), none, none, none]) (by decide) rfl (Nat.le_of_ble_eq_true rfl) rfl ?_
  refine zk_iconst dX5_measures_0 zc_0 ?_
  refine zk_istore_n dX5_measures_1 zk_S_2 ?_
  refine lX5_ms2 hr hr5 8 0 M rfl ?_
  refine zk_iconst dX5_measures_66 zc_0 ?_
  refine zk_istore_n dX5_measures_67 zk_S_2 ?_
  refine lX5_ms5 hr hr5 8 0 _ rfl ?_
  refine zk_vret rfl dX5_measures_161 ?_
  exact zk_Ev_of (by rw [zs_up2, zk_up_eq]; rfl) rfl
theorem zs_7p {p k : Nat} (hp : p < 6) (hk : k < 7) : 10 + 7 * p + k < 52 := by omega
theorem zs_pull8 {T f : Nat → Int32} {a : Int32} : f 5 * T (8 * a + f 2).toNatClampNeg + (4 - f 5) * T (8 * a + f 3).toNatClampNeg = zs_pull T f a := by unfold zs_pull; rw [Int32.mul_comm 8 a]
theorem zs_jx64 {a b : Int32} (ha : zs_p a) (hb : zs_p b) : vp_in (8 * a + b) 64 := by rw [Int32.mul_comm]; exact zs_ix64 ha hb
theorem zs_2in {x : Int32} (h : zs_p x) : vp_in (2 + x) 52 := by
  obtain ⟨i, hi, rfl⟩ := zs_p_of h
  rw [show 2 + nI i = nI (2 + i) from zs_nI_add 2 i]
  exact vp_in_nI (by omega) (by decide)
theorem zs_2tn {x : Int32} (h : zs_p x) : (2 + x).toNatClampNeg = 2 + x.toNatClampNeg := by
  obtain ⟨i, hi, rfl⟩ := zs_p_of h
  rw [show 2 + nI i = nI (2 + i) from zs_nI_add 2 i, nI_clamp (by omega), nI_clamp (by omega)]
set_option maxRecDepth 100000 in
set_option maxHeartbeats 4000000 in
theorem qX5_pull {l : Launch} {M : zk_M} {L : zk_L} {r : Nat} (hr : zs_a zm r 52) {p : Nat} (hp : p < 6) (ok : zs_ok (zs_get (M r) p)) {x : Int32} (hx : zs_p x) : zk_C l zm 1 muX5_pull [.ref 0, .ref r, .int (nI p), .int x] M L (zk_Ei (zs_pull (M 5) (zs_get (M r) p) x) M L) := by
  refine zk_ofR (ls := [some (.ref 0), some (.ref r), some (.int (nI p)), some (.int x)]) (by decide) rfl (Nat.le_of_ble_eq_true rfl) rfl ?_
  refine zk_aload_n dX5_pull_0 rfl ?_
  refine zk_iload_n dX5_pull_1 rfl ?_
  refine zk_iconst dX5_pull_2 zc_5 ?_
  refine zk_cSi (qX5_of (p := p) (k := 5)) dX5_pull_3 miX5_of ml_X5_58 stX5_of rfl (by decide) rfl (Nat.le_of_ble_eq_true rfl) ?_
  refine zk_iald (j := 10 + 7 * p + 5) dX5_pull_6 hr.1 hr.2.1 (zs_in hr.2.2 (vp_in_nI (zs_7p hp (show 5 < 7 by decide)) (by decide))) (nI_clamp (by omega)) ?_
  refine zk_aload_n dX5_pull_7 rfl ?_
  refine zk_getRc (q := 5) dX5_pull_8 fl_X5_22 (by decide : 0 < zm.1) rfl rfl rfl ?_
  refine zk_bipush dX5_pull_11 zb_8 ?_
  refine zk_iload_n dX5_pull_13 rfl ?_
  refine zk_imul dX5_pull_14 ?_
  refine zk_aload_n dX5_pull_15 rfl ?_
  refine zk_iload_n dX5_pull_16 rfl ?_
  refine zk_iconst dX5_pull_17 zc_2 ?_
  refine zk_cSi (qX5_of (p := p) (k := 2)) dX5_pull_18 miX5_of ml_X5_58 stX5_of rfl (by decide) rfl (Nat.le_of_ble_eq_true rfl) ?_
  refine zk_iald (j := 10 + 7 * p + 2) dX5_pull_21 hr.1 hr.2.1 (zs_in hr.2.2 (vp_in_nI (zs_7p hp (show 2 < 7 by decide)) (by decide))) (nI_clamp (by omega)) ?_
  refine zk_iadd dX5_pull_22 ?_
  refine zk_iald (j := _) dX5_pull_23 (by decide : 5 < zm.1) rfl (zs_in rfl (zs_jx64 hx ok.1)) rfl ?_
  refine zk_imul dX5_pull_24 ?_
  refine zk_iconst dX5_pull_25 zc_4 ?_
  refine zk_aload_n dX5_pull_26 rfl ?_
  refine zk_iload_n dX5_pull_27 rfl ?_
  refine zk_iconst dX5_pull_28 zc_5 ?_
  refine zk_cSi (qX5_of (p := p) (k := 5)) dX5_pull_29 miX5_of ml_X5_58 stX5_of rfl (by decide) rfl (Nat.le_of_ble_eq_true rfl) ?_
  refine zk_iald (j := 10 + 7 * p + 5) dX5_pull_32 hr.1 hr.2.1 (zs_in hr.2.2 (vp_in_nI (zs_7p hp (show 5 < 7 by decide)) (by decide))) (nI_clamp (by omega)) ?_
  refine zk_isub dX5_pull_33 ?_
  refine zk_aload_n dX5_pull_34 rfl ?_
  refine zk_getRc (q := 5) dX5_pull_35 fl_X5_22 (by decide : 0 < zm.1) rfl rfl rfl ?_
  refine zk_bipush dX5_pull_38 zb_8 ?_
  refine zk_iload_n dX5_pull_40 rfl ?_
  refine zk_imul dX5_pull_41 ?_
  refine zk_aload_n dX5_pull_42 rfl ?_
  refine zk_iload_n dX5_pull_43 rfl ?_
  refine zk_iconst dX5_pull_44 zc_3 ?_
  refine zk_cSi (qX5_of (p := p) (k := 3)) dX5_pull_45 miX5_of ml_X5_58 stX5_of rfl (by decide) rfl (Nat.le_of_ble_eq_true rfl) ?_
  refine zk_iald (j := 10 + 7 * p + 3) dX5_pull_48 hr.1 hr.2.1 (zs_in hr.2.2 (vp_in_nI (zs_7p hp (show 3 < 7 by decide)) (by decide))) (nI_clamp (by omega)) ?_
  refine zk_iadd dX5_pull_49 ?_
  refine zk_iald (j := _) dX5_pull_50 (by decide : 5 < zm.1) rfl (zs_in rfl (zs_jx64 hx ok.2.1)) rfl ?_
  refine zk_imul dX5_pull_51 ?_
  refine zk_iadd dX5_pull_52 ?_
  refine zk_iret rfl dX5_pull_53 ?_
  exact zk_Ei_of (zs_pull8 (T := M 5) (f := zs_get (M r) p) (a := x)) rfl rfl
set_option maxRecDepth 100000 in
set_option maxHeartbeats 4000000 in
theorem lX5_goes {l : Launch} {M : zk_M} {L : zk_L} {r : Nat} (hr : zs_a zm r 52) {p : Nat} (hp : p < 6) (ok : zs_ok (zs_get (M r) p)) {x : Int32} (hx : zs_p x) {Q : Option Value → zk_M → zk_L → Prop} : ∀ (m i : Nat) (b : Int32), i + m = 8 → zs_p b → zk_R l zm 2 muX5_goes 63 [some (.ref 0), some (.ref r), some (.int (nI p)), some (.int x), some (.int (zs_nx (zs_J (M r)) (M 5) (zs_get (M r) p) x m i b)), none] [] M L Q → zk_R l zm 2 muX5_goes 14 [some (.ref 0), some (.ref r), some (.int (nI p)), some (.int x), some (.int b), some (.int (nI i))] [] M L Q := by
  intro m
  induction m with
  | zero =>
    intro i b hi hb k
    obtain rfl : i = 8 := by omega
    refine zk_iload dX5_goes_14 rfl ?_
    refine zk_bipush (v := 8) dX5_goes_16 (by decide) ?_
    refine zk_icmp_ge (tgt := 63) dX5_goes_18 (by decide) (fun _ => ?_) (fun q => absurd (by decide) q)
    refine zk_forget ?_ k
    exact ⟨Or.inr rfl, Or.inr rfl, Or.inr rfl, Or.inr rfl, Or.inr rfl, Or.inl rfl, trivial⟩
  | succ m ih =>
    intro i b hi hb k
    have hi8 : i < 8 := by omega
    refine zk_iload dX5_goes_14 rfl ?_
    refine zk_bipush dX5_goes_16 zb_8 ?_
    refine zk_icmp_ge (tgt := 63) dX5_goes_18 (by decide) (fun h18 => absurd h18 (nI_ge (b := 8) hi8 (by decide))) (fun _ => ?_)
    refine zk_aload_n dX5_goes_21 rfl ?_
    refine zk_iconst dX5_goes_22 zc_2 ?_
    refine zk_iload_n dX5_goes_23 rfl ?_
    refine zk_iadd dX5_goes_24 ?_
    refine zk_iald (j := 2 + x.toNatClampNeg) dX5_goes_25 hr.1 hr.2.1 (zs_in hr.2.2 (zs_2in hx)) (zs_2tn hx) ?_
    refine zk_iload dX5_goes_26 rfl ?_
    refine zk_cSi (qX5_has) dX5_goes_28 miX5_has ml_X5_50 stX5_has rfl (by decide) rfl (Nat.le_of_ble_eq_true rfl) ?_
    refine zk_if_eq (tgt := 57) dX5_goes_31 (by decide) (fun h31 => ?_) (fun h31 => ?_)
    · have hj := zs_if0 h31
      refine zk_iinc dX5_goes_57 zc_1 rfl zk_S_5 ?_
      refine zk_goto (tgt := 14) dX5_goes_60 (by decide) ?_
      rw [← nI_succ]
      first
        | (refine ih (i + 1) (nI i) (by omega) (zs_p_nI hi8) ?_
           rw [zs_nx_s, if_pos ⟨hj, Int32.not_le.mp h50⟩] at k
           exact k)
        | (refine ih (i + 1) b (by omega) hb ?_
           rw [zs_nx_s, if_neg (by first | exact fun q => hj q.1 | exact fun q => absurd q.2 (Int32.not_lt.mpr h50))] at k
           exact k)
    · have hj := zs_if1 h31
      refine zk_aload_n dX5_goes_34 rfl ?_
      refine zk_aload_n dX5_goes_35 rfl ?_
      refine zk_iload_n dX5_goes_36 rfl ?_
      refine zk_iload dX5_goes_37 rfl ?_
      refine zk_cVi (qX5_pull hr hp ok (zs_p_nI hi8)) dX5_goes_39 mwX5_pull ml_X5_61 (by decide : 0 < zm.1) rfl rfl (by decide) rfl (Nat.le_of_ble_eq_true rfl) ?_
      refine zk_aload_n dX5_goes_42 rfl ?_
      refine zk_aload_n dX5_goes_43 rfl ?_
      refine zk_iload_n dX5_goes_44 rfl ?_
      refine zk_iload dX5_goes_45 rfl ?_
      refine zk_cVi (qX5_pull hr hp ok hb) dX5_goes_47 mwX5_pull ml_X5_61 (by decide : 0 < zm.1) rfl rfl (by decide) rfl (Nat.le_of_ble_eq_true rfl) ?_
      refine zk_icmp_ge (tgt := 57) dX5_goes_50 (by decide) (fun h50 => ?_) (fun h50 => ?_)
      · refine zk_iinc dX5_goes_57 zc_1 rfl zk_S_5 ?_
        refine zk_goto (tgt := 14) dX5_goes_60 (by decide) ?_
        rw [← nI_succ]
        first
          | (refine ih (i + 1) (nI i) (by omega) (zs_p_nI hi8) ?_
             rw [zs_nx_s, if_pos ⟨hj, Int32.not_le.mp h50⟩] at k
             exact k)
          | (refine ih (i + 1) b (by omega) hb ?_
             rw [zs_nx_s, if_neg (by first | exact fun q => hj q.1 | exact fun q => absurd q.2 (Int32.not_lt.mpr h50))] at k
             exact k)
      · refine zk_iload dX5_goes_53 rfl ?_
        refine zk_istore dX5_goes_55 zk_S_4 ?_
        refine zk_iinc dX5_goes_57 zc_1 rfl zk_S_5 ?_
        refine zk_goto (tgt := 14) dX5_goes_60 (by decide) ?_
        rw [← nI_succ]
        first
          | (refine ih (i + 1) (nI i) (by omega) (zs_p_nI hi8) ?_
             rw [zs_nx_s, if_pos ⟨hj, Int32.not_le.mp h50⟩] at k
             exact k)
          | (refine ih (i + 1) b (by omega) hb ?_
             rw [zs_nx_s, if_neg (by first | exact fun q => hj q.1 | exact fun q => absurd q.2 (Int32.not_lt.mpr h50))] at k
             exact k)
set_option maxRecDepth 100000 in
set_option maxHeartbeats 4000000 in
theorem qX5_goes {l : Launch} {M : zk_M} {L : zk_L} {r : Nat} (hr : zs_a zm r 52) {p : Nat} (hp : p < 6) (ok : zs_ok (zs_get (M r) p)) : zk_C l zm 2 muX5_goes [.ref 0, .ref r, .int (nI p)] M L (zk_Ev (va_up M r (va_up (M r) (10 + 7 * p + 4) (zs_nx (zs_J (M r)) (M 5) (zs_get (M r) p) ((zs_get (M r) p) 4) 8 0 ((zs_get (M r) p) 4)))) L) := by
  refine zk_ofR (ls := [some (.ref 0), some (.ref r), some (.int (nI p)), none, none, none]) (by decide) rfl (Nat.le_of_ble_eq_true rfl) rfl ?_
  refine zk_aload_n dX5_goes_0 rfl ?_
  refine zk_iload_n dX5_goes_1 rfl ?_
  refine zk_iconst dX5_goes_2 zc_4 ?_
  refine zk_cSi (qX5_of (p := p) (k := 4)) dX5_goes_3 miX5_of ml_X5_58 stX5_of rfl (by decide) rfl (Nat.le_of_ble_eq_true rfl) ?_
  refine zk_iald (j := 10 + 7 * p + 4) dX5_goes_6 hr.1 hr.2.1 (zs_in hr.2.2 (vp_in_nI (zs_7p hp (show 4 < 7 by decide)) (by decide))) (nI_clamp (by omega)) ?_
  refine zk_istore_n dX5_goes_7 zk_S_3 ?_
  refine zk_iload_n dX5_goes_8 rfl ?_
  refine zk_istore dX5_goes_9 zk_S_4 ?_
  refine zk_iconst dX5_goes_11 zc_0 ?_
  refine zk_istore dX5_goes_12 zk_S_5 ?_
  refine lX5_goes hr hp ok (x := (zs_get (M r) p) 4) ok.2.2 8 0 ((zs_get (M r) p) 4) rfl ok.2.2 ?_
  refine zk_aload_n dX5_goes_63 rfl ?_
  refine zk_iload_n dX5_goes_64 rfl ?_
  refine zk_iconst dX5_goes_65 zc_4 ?_
  refine zk_cSi (qX5_of (p := p) (k := 4)) dX5_goes_66 miX5_of ml_X5_58 stX5_of rfl (by decide) rfl (Nat.le_of_ble_eq_true rfl) ?_
  refine zk_iload dX5_goes_69 rfl ?_
  refine zk_iast (j := 10 + 7 * p + 4) dX5_goes_71 hr.1 hr.2.1 (zs_in hr.2.2 (vp_in_nI (zs_7p hp (show 4 < 7 by decide)) (by decide))) (nI_clamp (by omega)) ?_
  refine zk_vret rfl dX5_goes_72 ?_
  exact ⟨rfl, rfl, rfl⟩
