theorem zb_11 : (Int8.ofInt 11).toInt32 = (11 : Int32) := by decide +kernel
theorem zb_17 : (Int8.ofInt 17).toInt32 = (17 : Int32) := by decide +kernel
theorem zb_m4 : (Int8.ofInt (-4)).toInt32 = (-4 : Int32) := by decide +kernel
theorem zb_m6 : (Int8.ofInt (-6)).toInt32 = (-6 : Int32) := by decide +kernel
theorem zb_m9 : (Int8.ofInt (-9)).toInt32 = (-9 : Int32) := by decide +kernel
theorem zc_5 : Int32.ofInt 5 = (5 : Int32) := by decide +kernel
theorem zs_256 : (Int16.ofInt 256).toInt32 = (256 : Int32) := by decide +kernel
set_option maxRecDepth 100000 in
set_option maxHeartbeats 4000000 in
theorem qX4_refusalOfNumber {l : Launch} {σ : zk_Sh} {M : zk_M} {L : zk_L} {x a b : Int32} : zk_C l σ 0 muX4_refusalOfNumber [.int x, .int a, .int b] M L (zk_Ei (if x < a then -4 else if b < x then -6 else 0) M L) := by
  refine zk_ofR (ls := [some (.int x), some (.int a), some (.int b)]) (by decide) rfl (Nat.le_of_ble_eq_true rfl) rfl ?_
  refine zk_iload_n dX4_refusalOfNumber_0 rfl ?_
  refine zk_iload_n dX4_refusalOfNumber_1 rfl ?_
  refine zk_icmp_ge (tgt := 8) dX4_refusalOfNumber_2 (by decide) (fun h2 => ?_) (fun h2 => ?_)
  · refine zk_iload_n dX4_refusalOfNumber_8 rfl ?_
    refine zk_iload_n dX4_refusalOfNumber_9 rfl ?_
    refine zk_icmp_le (tgt := 18) dX4_refusalOfNumber_10 (by decide) (fun h10 => ?_) (fun h10 => ?_)
    · refine zk_iconst dX4_refusalOfNumber_18 zc_0 ?_
      refine zk_iret rfl dX4_refusalOfNumber_19 ?_
      exact zk_Ei_of (by first | (rw [if_pos (Int32.not_le.mp h2)]; done) | (rw [if_neg (Int32.not_lt.mpr h2), if_neg (Int32.not_lt.mpr h10)]; done) | (rw [if_neg (Int32.not_lt.mpr h2), if_pos (Int32.not_le.mp h10)]; done)) rfl rfl
    · refine zk_bipush dX4_refusalOfNumber_13 zb_m6 ?_
      refine zk_goto (tgt := 19) dX4_refusalOfNumber_15 (by decide) ?_
      refine zk_iret rfl dX4_refusalOfNumber_19 ?_
      exact zk_Ei_of (by first | (rw [if_pos (Int32.not_le.mp h2)]; done) | (rw [if_neg (Int32.not_lt.mpr h2), if_neg (Int32.not_lt.mpr h10)]; done) | (rw [if_neg (Int32.not_lt.mpr h2), if_pos (Int32.not_le.mp h10)]; done)) rfl rfl
  · refine zk_bipush dX4_refusalOfNumber_5 zb_m4 ?_
    refine zk_iret rfl dX4_refusalOfNumber_7 ?_
    exact zk_Ei_of (by first | (rw [if_pos (Int32.not_le.mp h2)]; done) | (rw [if_neg (Int32.not_lt.mpr h2), if_neg (Int32.not_lt.mpr h10)]; done) | (rw [if_neg (Int32.not_lt.mpr h2), if_pos (Int32.not_le.mp h10)]; done)) rfl rfl
set_option maxRecDepth 100000 in
set_option maxHeartbeats 4000000 in
theorem qX4_dayOrNone {l : Launch} {σ : zk_Sh} {M : zk_M} {L : zk_L} {x : Int32} : zk_C l σ 0 muX4_dayOrNone [.int x] M L (zk_Ei (if 60 < x then -9 else x) M L) := by
  refine zk_ofR (ls := [some (.int x)]) (by decide) rfl (Nat.le_of_ble_eq_true rfl) rfl ?_
  refine zk_iload_n dX4_dayOrNone_0 rfl ?_
  refine zk_bipush dX4_dayOrNone_1 zb_60 ?_
  refine zk_icmp_le (tgt := 11) dX4_dayOrNone_3 (by decide) (fun h3 => ?_) (fun h3 => ?_)
  · refine zk_iload_n dX4_dayOrNone_11 rfl ?_
    refine zk_iret rfl dX4_dayOrNone_12 ?_
    exact zk_Ei_of (by first | exact (if_neg (Int32.not_lt.mpr h3)).symm | exact (if_pos (Int32.not_le.mp h3)).symm) rfl rfl
  · refine zk_bipush dX4_dayOrNone_6 zb_m9 ?_
    refine zk_goto (tgt := 12) dX4_dayOrNone_8 (by decide) ?_
    refine zk_iret rfl dX4_dayOrNone_12 ?_
    exact zk_Ei_of (by first | exact (if_neg (Int32.not_lt.mpr h3)).symm | exact (if_pos (Int32.not_le.mp h3)).symm) rfl rfl
set_option maxRecDepth 100000 in
set_option maxHeartbeats 4000000 in
theorem qX4_nextSeed {l : Launch} {σ : zk_Sh} {M : zk_M} {L : zk_L} {x : Int32} : zk_C l σ 0 muX4_nextSeed [.int x] M L (zk_Ei (x * 1664525 + 1013904223) M L) := by
  refine zk_ofR (ls := [some (.int x)]) (by decide) rfl (Nat.le_of_ble_eq_true rfl) rfl ?_
  refine zk_iload_n dX4_nextSeed_0 rfl ?_
  refine zk_ldcw dX4_nextSeed_1 ct_X4_306 ?_
  refine zk_imul dX4_nextSeed_4 ?_
  refine zk_ldcw dX4_nextSeed_5 ct_X4_307 ?_
  refine zk_iadd dX4_nextSeed_8 ?_
  refine zk_iret rfl dX4_nextSeed_9 ?_
  exact ⟨rfl, rfl, rfl⟩
set_option maxRecDepth 100000 in
set_option maxHeartbeats 4000000 in
theorem qX4_drawn {l : Launch} {σ : zk_Sh} {M : zk_M} {L : zk_L} {x b : Int32} (hb : 0 < b) : zk_C l σ 0 muX4_drawn [.int x, .int b] M L (zk_Ei ((x &&& 2147483647) / 256 - (x &&& 2147483647) / 256 / b * b) M L) := by
  refine zk_ofR (ls := [some (.int x), some (.int b)]) (by decide) rfl (Nat.le_of_ble_eq_true rfl) rfl ?_
  refine zk_iload_n dX4_drawn_0 rfl ?_
  refine zk_if_le (tgt := 18) dX4_drawn_1 (by decide) (fun h1 => absurd h1 (Int32.not_le.mpr hb)) (fun _ => ?_)
  refine zk_iload_n dX4_drawn_4 rfl ?_
  refine zk_ldcw dX4_drawn_5 ct_X4_308 ?_
  refine zk_iand dX4_drawn_8 ?_
  refine zk_sipush dX4_drawn_9 zs_256 ?_
  refine zk_idiv dX4_drawn_12 (by decide) ?_
  refine zk_iload_n dX4_drawn_13 rfl ?_
  refine zk_irem dX4_drawn_14 (fun e => by rw [e] at hb; exact absurd hb (by decide)) ?_
  refine zk_goto (tgt := 19) dX4_drawn_15 (by decide) ?_
  refine zk_iret rfl dX4_drawn_19 ?_
  exact ⟨rfl, rfl, rfl⟩
def zs_kl (c : Int32) : Int32 := if c = 98 then 1 else if c = 109 then 3 else if c = 112 then 4 else if c = 114 then 0 else if c = 117 then 2 else if c = 120 then 5 else -9
set_option maxRecDepth 100000 in
set_option maxHeartbeats 4000000 in
theorem qX4_kindOfLetter {l : Launch} {σ : zk_Sh} {M : zk_M} {L : zk_L} {c : Int32} : zk_C l σ 0 muX4_kindOfLetter [.int c] M L (zk_Ei (zs_kl c) M L) := by
  refine zk_ofR (ls := [some (.int c)]) (by decide) rfl (Nat.le_of_ble_eq_true rfl) rfl ?_
  refine zk_iload_n dX4_kindOfLetter_0 rfl ?_
  by_cases hx98 : c = 98
  · rw [hx98]
    refine zk_lookup (off := 61) (tgt := 62) dX4_kindOfLetter_1 (by decide) (by decide) (by decide) ?_
    refine zk_iconst dX4_kindOfLetter_62 zc_1 ?_
    refine zk_iret rfl dX4_kindOfLetter_63 ?_
    exact zk_Ei_of (by simp_all [zs_kl]) rfl rfl
  by_cases hx109 : c = 109
  · rw [hx109]
    refine zk_lookup (off := 65) (tgt := 66) dX4_kindOfLetter_1 (by decide) (by decide) (by decide) ?_
    refine zk_iconst dX4_kindOfLetter_66 zc_3 ?_
    refine zk_iret rfl dX4_kindOfLetter_67 ?_
    exact zk_Ei_of (by simp_all [zs_kl]) rfl rfl
  by_cases hx112 : c = 112
  · rw [hx112]
    refine zk_lookup (off := 67) (tgt := 68) dX4_kindOfLetter_1 (by decide) (by decide) (by decide) ?_
    refine zk_iconst dX4_kindOfLetter_68 zc_4 ?_
    refine zk_iret rfl dX4_kindOfLetter_69 ?_
    exact zk_Ei_of (by simp_all [zs_kl]) rfl rfl
  by_cases hx114 : c = 114
  · rw [hx114]
    refine zk_lookup (off := 59) (tgt := 60) dX4_kindOfLetter_1 (by decide) (by decide) (by decide) ?_
    refine zk_iconst dX4_kindOfLetter_60 zc_0 ?_
    refine zk_iret rfl dX4_kindOfLetter_61 ?_
    exact zk_Ei_of (by simp_all [zs_kl]) rfl rfl
  by_cases hx117 : c = 117
  · rw [hx117]
    refine zk_lookup (off := 63) (tgt := 64) dX4_kindOfLetter_1 (by decide) (by decide) (by decide) ?_
    refine zk_iconst dX4_kindOfLetter_64 zc_2 ?_
    refine zk_iret rfl dX4_kindOfLetter_65 ?_
    exact zk_Ei_of (by simp_all [zs_kl]) rfl rfl
  by_cases hx120 : c = 120
  · rw [hx120]
    refine zk_lookup (off := 69) (tgt := 70) dX4_kindOfLetter_1 (by decide) (by decide) (by decide) ?_
    refine zk_iconst dX4_kindOfLetter_70 zc_5 ?_
    refine zk_iret rfl dX4_kindOfLetter_71 ?_
    exact zk_Ei_of (by simp_all [zs_kl]) rfl rfl
  refine zk_lookup (off := 71) (tgt := 72) dX4_kindOfLetter_1 (by decide) (by rw [lv_osw hx98 (by decide), lv_osw hx109 (by decide), lv_osw hx112 (by decide), lv_osw hx114 (by decide), lv_osw hx117 (by decide), lv_osw hx120 (by decide)]; rfl) (by decide) ?_
  refine zk_bipush dX4_kindOfLetter_72 zb_m9 ?_
  refine zk_iret rfl dX4_kindOfLetter_74 ?_
  exact zk_Ei_of (by simp_all [zs_kl]) rfl rfl
def zs_ref (M : zk_M) (k : Nat) : zk_M := va_up M 42 (va_up (M 42) k (M 42 k + 1))
set_option maxRecDepth 100000 in
set_option maxHeartbeats 4000000 in
theorem qX4_refuse {l : Launch} {M : zk_M} {L : zk_L} {x : Int32} {k : Nat} (h0 : ¬ 0 ≤ x) (h6 : ¬ x < -6) (hin : vp_in (-x) 7) (hk : (-x).toNatClampNeg = k) : zk_C l zc 0 muX4_refuse [.ref 0, .int x] M L (zk_Ei x (zs_ref M k) L) := by
  refine zk_ofR (ls := [some (.ref 0), some (.int x)]) (by decide) rfl (Nat.le_of_ble_eq_true rfl) rfl ?_
  refine zk_iload_n dX4_refuse_0 rfl ?_
  refine zk_if_ge (tgt := 21) dX4_refuse_1 (by decide) (fun h1 => absurd h1 (h0)) (fun _ => ?_)
  refine zk_iload_n dX4_refuse_4 rfl ?_
  refine zk_bipush dX4_refuse_5 zb_m6 ?_
  refine zk_icmp_lt (tgt := 21) dX4_refuse_7 (by decide) (fun h7 => absurd h7 (h6)) (fun _ => ?_)
  refine zk_aload_n dX4_refuse_10 rfl ?_
  refine zk_getRc (q := 42) dX4_refuse_11 fl_X4_50 (by decide : 0 < zc.1) rfl rfl rfl ?_
  refine zk_iload_n dX4_refuse_14 rfl ?_
  refine zk_ineg dX4_refuse_15 ?_
  refine zk_dup2 dX4_refuse_16 rfl rfl ?_
  refine zk_iald (j := k) dX4_refuse_17 (by decide : 42 < zc.1) rfl (zs_in rfl hin) hk ?_
  refine zk_iconst dX4_refuse_18 zc_1 ?_
  refine zk_iadd dX4_refuse_19 ?_
  refine zk_iast (j := k) dX4_refuse_20 (by decide : 42 < zc.1) rfl (zs_in rfl hin) hk ?_
  refine zk_iload_n dX4_refuse_21 rfl ?_
  refine zk_iret rfl dX4_refuse_22 ?_
  exact ⟨rfl, rfl, rfl⟩
set_option maxRecDepth 100000 in
set_option maxHeartbeats 4000000 in
theorem qX4_refuseLong {l : Launch} {M : zk_M} {L : zk_L} {x : Int32} {k : Nat} (h0 : ¬ 0 ≤ x) (h6 : ¬ x < -6) (hin : vp_in (-x) 7) (hk : (-x).toNatClampNeg = k) : zk_C l zc 1 muX4_refuseLong [.ref 0, .int x] M L (zk_El (4000000000000000000 - x.toInt64) (zs_ref M k) L) := by
  refine zk_ofR (ls := [some (.ref 0), some (.int x)]) (by decide) rfl (Nat.le_of_ble_eq_true rfl) rfl ?_
  refine zk_ldc2 dX4_refuseLong_0 ct_X4_289 ?_
  refine zk_aload_n dX4_refuseLong_3 rfl ?_
  refine zk_iload_n dX4_refuseLong_4 rfl ?_
  refine zk_cVi (qX4_refuse h0 h6 hin hk) dX4_refuseLong_5 mwX4_refuse ml_X4_63 (by decide : 0 < zc.1) rfl rfl (by decide) rfl (Nat.le_of_ble_eq_true rfl) ?_
  refine zk_i2l dX4_refuseLong_8 ?_
  refine zk_lsub dX4_refuseLong_9 ?_
  refine zk_lret rfl dX4_refuseLong_10 ?_
  exact ⟨rfl, rfl, rfl⟩
theorem qrf1 {l : Launch} {M : zk_M} {L : zk_L} : zk_C l zc 0 muX4_refuse [.ref 0, .int (-1)] M L (zk_Ei (-1) (zs_ref M 1) L) := qX4_refuse (by decide) (by decide) (vp_in_iff.mpr (by decide)) (by decide)
theorem qrl1 {l : Launch} {M : zk_M} {L : zk_L} : zk_C l zc 1 muX4_refuseLong [.ref 0, .int (-1)] M L (zk_El (4000000000000000001) (zs_ref M 1) L) := by
  have := qX4_refuseLong (l := l) (M := M) (L := L) (x := -1) (k := 1) (by decide) (by decide) (vp_in_iff.mpr (by decide)) (by decide)
  rwa [show (4000000000000000000 : Int64) - (-1 : Int32).toInt64 = 4000000000000000001 by decide] at this
theorem qrf2 {l : Launch} {M : zk_M} {L : zk_L} : zk_C l zc 0 muX4_refuse [.ref 0, .int (-2)] M L (zk_Ei (-2) (zs_ref M 2) L) := qX4_refuse (by decide) (by decide) (vp_in_iff.mpr (by decide)) (by decide)
theorem qrl2 {l : Launch} {M : zk_M} {L : zk_L} : zk_C l zc 1 muX4_refuseLong [.ref 0, .int (-2)] M L (zk_El (4000000000000000002) (zs_ref M 2) L) := by
  have := qX4_refuseLong (l := l) (M := M) (L := L) (x := -2) (k := 2) (by decide) (by decide) (vp_in_iff.mpr (by decide)) (by decide)
  rwa [show (4000000000000000000 : Int64) - (-2 : Int32).toInt64 = 4000000000000000002 by decide] at this
theorem qrf3 {l : Launch} {M : zk_M} {L : zk_L} : zk_C l zc 0 muX4_refuse [.ref 0, .int (-3)] M L (zk_Ei (-3) (zs_ref M 3) L) := qX4_refuse (by decide) (by decide) (vp_in_iff.mpr (by decide)) (by decide)
theorem qrl3 {l : Launch} {M : zk_M} {L : zk_L} : zk_C l zc 1 muX4_refuseLong [.ref 0, .int (-3)] M L (zk_El (4000000000000000003) (zs_ref M 3) L) := by
  have := qX4_refuseLong (l := l) (M := M) (L := L) (x := -3) (k := 3) (by decide) (by decide) (vp_in_iff.mpr (by decide)) (by decide)
  rwa [show (4000000000000000000 : Int64) - (-3 : Int32).toInt64 = 4000000000000000003 by decide] at this
theorem qrf4 {l : Launch} {M : zk_M} {L : zk_L} : zk_C l zc 0 muX4_refuse [.ref 0, .int (-4)] M L (zk_Ei (-4) (zs_ref M 4) L) := qX4_refuse (by decide) (by decide) (vp_in_iff.mpr (by decide)) (by decide)
theorem qrl4 {l : Launch} {M : zk_M} {L : zk_L} : zk_C l zc 1 muX4_refuseLong [.ref 0, .int (-4)] M L (zk_El (4000000000000000004) (zs_ref M 4) L) := by
  have := qX4_refuseLong (l := l) (M := M) (L := L) (x := -4) (k := 4) (by decide) (by decide) (vp_in_iff.mpr (by decide)) (by decide)
  rwa [show (4000000000000000000 : Int64) - (-4 : Int32).toInt64 = 4000000000000000004 by decide] at this
theorem qrf6 {l : Launch} {M : zk_M} {L : zk_L} : zk_C l zc 0 muX4_refuse [.ref 0, .int (-6)] M L (zk_Ei (-6) (zs_ref M 6) L) := qX4_refuse (by decide) (by decide) (vp_in_iff.mpr (by decide)) (by decide)
theorem qrl6 {l : Launch} {M : zk_M} {L : zk_L} : zk_C l zc 1 muX4_refuseLong [.ref 0, .int (-6)] M L (zk_El (4000000000000000006) (zs_ref M 6) L) := by
  have := qX4_refuseLong (l := l) (M := M) (L := L) (x := -6) (k := 6) (by decide) (by decide) (vp_in_iff.mpr (by decide)) (by decide)
  rwa [show (4000000000000000000 : Int64) - (-6 : Int32).toInt64 = 4000000000000000006 by decide] at this
theorem zs_rc_of {x : Int32} (h1 : 11 ≤ x) (h2 : x < 17) : ∃ j, j < 6 ∧ x = nI (11 + j) := by
  rw [Int32.le_iff_toInt_le] at h1
  rw [Int32.lt_iff_toInt_lt] at h2
  have e1 : (11 : Int32).toInt = 11 := rfl
  have e2 : (17 : Int32).toInt = 17 := rfl
  refine ⟨x.toInt.toNat - 11, by omega, Int32.toInt_inj.mp ?_⟩
  rw [nI_toInt (by omega)]
  omega
theorem zs_rc_in {x : Int32} (h1 : 11 ≤ x) (h2 : x < 17) : vp_in (x - 11 + 1) 7 := by
  obtain ⟨j, hj, rfl⟩ := zs_rc_of h1 h2
  rcases (show j = 0 ∨ j = 1 ∨ j = 2 ∨ j = 3 ∨ j = 4 ∨ j = 5 by omega) with rfl | rfl | rfl | rfl | rfl | rfl <;> exact vp_in_iff.mpr (by decide)
set_option maxRecDepth 100000 in
set_option maxHeartbeats 4000000 in
theorem qX4_refusalCount {l : Launch} {M : zk_M} {L : zk_L} {x : Int32} : zk_C l zc 0 muX4_refusalCount [.ref 0, .int x] M L (zk_Ei (if 11 ≤ x ∧ x < 17 then M 42 (x - 11 + 1).toNatClampNeg else -9) M L) := by
  refine zk_ofR (ls := [some (.ref 0), some (.int x)]) (by decide) rfl (Nat.le_of_ble_eq_true rfl) rfl ?_
  refine zk_iload_n dX4_refusalCount_0 rfl ?_
  refine zk_bipush dX4_refusalCount_1 zb_11 ?_
  refine zk_icmp_lt (tgt := 12) dX4_refusalCount_3 (by decide) (fun h3 => ?_) (fun h3 => ?_)
  · refine zk_bipush dX4_refusalCount_12 zb_m9 ?_
    refine zk_iret rfl dX4_refusalCount_14 ?_
    exact zk_Ei_of (by first | exact (if_pos ⟨Int32.not_lt.mp h3, h9⟩).symm | exact (if_neg (fun q => absurd q.1 (Int32.not_le.mpr h3))).symm | exact (if_neg (fun q => h9 q.2)).symm) rfl rfl
  · refine zk_iload_n dX4_refusalCount_6 rfl ?_
    refine zk_bipush dX4_refusalCount_7 zb_17 ?_
    refine zk_icmp_lt (tgt := 15) dX4_refusalCount_9 (by decide) (fun h9 => ?_) (fun h9 => ?_)
    · refine zk_aload_n dX4_refusalCount_15 rfl ?_
      refine zk_getRc (q := 42) dX4_refusalCount_16 fl_X4_50 (by decide : 0 < zc.1) rfl rfl rfl ?_
      refine zk_iload_n dX4_refusalCount_19 rfl ?_
      refine zk_bipush dX4_refusalCount_20 zb_11 ?_
      refine zk_isub dX4_refusalCount_22 ?_
      refine zk_iconst dX4_refusalCount_23 zc_1 ?_
      refine zk_iadd dX4_refusalCount_24 ?_
      refine zk_iald (j := _) dX4_refusalCount_25 (by decide : 42 < zc.1) rfl (zs_in rfl (zs_rc_in (Int32.not_lt.mp h3) h9)) rfl ?_
      refine zk_iret rfl dX4_refusalCount_26 ?_
      exact zk_Ei_of (by first | exact (if_pos ⟨Int32.not_lt.mp h3, h9⟩).symm | exact (if_neg (fun q => absurd q.1 (Int32.not_le.mpr h3))).symm | exact (if_neg (fun q => h9 q.2)).symm) rfl rfl
    · refine zk_bipush dX4_refusalCount_12 zb_m9 ?_
      refine zk_iret rfl dX4_refusalCount_14 ?_
      exact zk_Ei_of (by first | exact (if_pos ⟨Int32.not_lt.mp h3, h9⟩).symm | exact (if_neg (fun q => absurd q.1 (Int32.not_le.mpr h3))).symm | exact (if_neg (fun q => h9 q.2)).symm) rfl rfl
theorem q1_hasRider {l : Launch} {M : zk_M} {L : zk_L} {n : Nat} (hI : zs_I M n) {r : Int32} : zk_C l zc 0 muX0_hasRider [.ref 1, .int r] M L (zk_Ei (if zs_isr (M 1 2) r then 1 else 0) M L) := qX0_hasRider zc_c1 hI.le6
theorem q1_hasRider_t {l : Launch} {M : zk_M} {L : zk_L} {n : Nat} (hI : zs_I M n) {p : Nat} (hp : p < n) : zk_C l zc 0 muX0_hasRider [.ref 1, .int (nI p)] M L (zk_Ei 1 M L) := qX0_hasRider_t zc_c1 hI.le6 (hI.isr hp)
theorem q1_hasRider_f {l : Launch} {M : zk_M} {L : zk_L} {n : Nat} (hI : zs_I M n) {r : Int32} (hr : ¬ zs_isr (M 1 2) r) : zk_C l zc 0 muX0_hasRider [.ref 1, .int r] M L (zk_Ei 0 M L) := qX0_hasRider_f zc_c1 hI.le6 hr
theorem q37_becomes {l : Launch} {M : zk_M} {L : zk_L} {p : Nat} (hp : p < 6) : zk_C l zc 0 muX1_becomes [.ref 37, .ref (6 + p)] M L (zk_Ev (va_up M 37 (zs_cp 7 (M (6 + p)) (M 37))) L) := qX1_becomes zc_h37 (zc_h6 hp) (by omega)
theorem q38_becomes {l : Launch} {M : zk_M} {L : zk_L} {p : Nat} (hp : p < 6) : zk_C l zc 0 muX1_becomes [.ref 38, .ref (6 + p)] M L (zk_Ev (va_up M 38 (zs_cp 7 (M (6 + p)) (M 38))) L) := qX1_becomes zc_h38 (zc_h6 hp) (by omega)
theorem q37_rideDay {l : Launch} {M : zk_M} {L : zk_L} (ok : zs_ok (M 37)) : zk_C l zc 3 muX1_rideDay [.ref 37, .ref 2] M L (zk_Ev (va_up M 37 (zs_ride (M 3) (M 4) (M 37))) L) := qX1_rideDay zc_h37 zc_r2 ok
theorem q38_rideDay {l : Launch} {M : zk_M} {L : zk_L} (ok : zs_ok (M 38)) : zk_C l zc 3 muX1_rideDay [.ref 38, .ref 2] M L (zk_Ev (va_up M 38 (zs_ride (M 3) (M 4) (M 38))) L) := qX1_rideDay zc_h38 zc_r2 ok
theorem q37_rideDays {l : Launch} {M : zk_M} {L : zk_L} (ok : zs_ok (M 37)) {t : Nat} (ht : t < 2 ^ 31) : zk_C l zc 4 muX1_rideDays [.ref 37, .ref 2, .int (nI t)] M L (zk_Ev (va_up M 37 (zs_rides (M 3) (M 4) t (M 37))) L) := qX1_rideDays zc_h37 zc_r2 ok ht
theorem q37_until {l : Launch} {M : zk_M} {L : zk_L} (ok : zs_ok (M 37)) {p : Int32} : zk_C l zc 4 muX1_daysUntilAt [.ref 37, .ref 2, .int p] M L (zk_Ei (zs_until (M 3) (M 4) p 61 0 (M 37)).1 (va_up M 37 (zs_until (M 3) (M 4) p 61 0 (M 37)).2) L) := qX1_daysUntilAt zc_h37 zc_r2 ok
theorem q37_until34 {l : Launch} {M : zk_M} {L : zk_L} (ok : zs_ok (M 37)) {p : Int32} : zk_C l zc 4 muX1_daysUntilAt [.ref 37, .ref 34, .int p] M L (zk_Ei (zs_until (M 35) (M 36) p 61 0 (M 37)).1 (va_up M 37 (zs_until (M 35) (M 36) p 61 0 (M 37)).2) L) := qX1_daysUntilAt zc_h37 zc_r34 ok
theorem q37_togo {l : Launch} {M : zk_M} {L : zk_L} (ok : zs_ok (M 37)) : zk_C l zc 1 muX1_stepsToGo [.ref 37, .ref 2] M L (zk_Ei (M 4 (M 37 4 * 8 + M 37 3).toNatClampNeg) M L) := qX1_stepsToGo zc_h37 zc_r2 ok.2.2 ok.2.1
theorem q34_becomes {l : Launch} {M : zk_M} {L : zk_L}  : zk_C l zc 1 muX2_becomes [.ref 34, .ref 2] M L (zk_Ev (va_up (va_up M 35 (zs_cp 8 (M 3) (M 35))) 36 (zs_cp 64 (M 4) (M 36))) L) := qX2_becomes zc_r34 zc_r2 (by decide)
theorem q34_change {l : Launch} {M : zk_M} {L : zk_L} {a b : Int32} (ha : zs_p a) (hb : zs_p b) (hab : ¬ a = b) : zk_C l zc 3 muX2_change [.ref 34, .int a, .int b] M L (zk_Ev (va_up (va_up M 35 (zs_turn (M 35) a b)) 36 (zs_fw (zs_turn (M 35) a b) (M 36))) L) := qX2_change zc_r34 ha hb hab
set_option maxRecDepth 100000 in
set_option maxHeartbeats 4000000 in
theorem qX4_thinkOf {l : Launch} {M : zk_M} {L : zk_L} {n : Nat} (hI : zs_I M n) {p : Nat} (hp : p < n) : zk_C l zc 1 muX4_thinkOf [.ref 0, .int (nI p)] M L (zk_Ev (va_up M 37 (zs_cp 7 (M (6 + p)) (M 37))) L) := by
  refine zk_ofR (ls := [some (.ref 0), some (.int (nI p))]) (by decide) rfl (Nat.le_of_ble_eq_true rfl) rfl ?_
  refine zk_aload_n dX4_thinkOf_0 rfl ?_
  refine zk_getRc (q := 1) dX4_thinkOf_1 fl_X4_12 (by decide : 0 < zc.1) rfl rfl rfl ?_
  refine zk_iload_n dX4_thinkOf_4 rfl ?_
  have hp6 : p < 6 := Nat.lt_of_lt_of_le hp hI.1
  refine zk_cVi (q1_hasRider_t hI hp) dX4_thinkOf_5 mwX0_hasRider ml_X4_85 (by decide : 1 < zc.1) rfl rfl (by decide) rfl (Nat.le_of_ble_eq_true rfl) ?_
  refine zk_if_eq (tgt := 27) dX4_thinkOf_8 (by decide) (fun h8 => absurd h8 (by decide)) (fun _ => ?_)
  refine zk_aload_n dX4_thinkOf_11 rfl ?_
  refine zk_getRc (q := 37) dX4_thinkOf_12 fl_X4_32 (by decide : 0 < zc.1) rfl rfl rfl ?_
  refine zk_aload_n dX4_thinkOf_15 rfl ?_
  refine zk_getRc (q := 1) dX4_thinkOf_16 fl_X4_12 (by decide : 0 < zc.1) rfl rfl rfl ?_
  refine zk_getRc (q := 5) dX4_thinkOf_19 fl_X4_89 (by decide : 1 < zc.1) rfl rfl rfl ?_
  refine zk_iload_n dX4_thinkOf_22 rfl ?_
  refine zk_aald (j := p) (q := (6 + p)) dX4_thinkOf_23 (by decide : 5 < zc.1) rfl (zs_in rfl (vp_in_nI hp6 (by decide))) (nI_clamp (by omega)) rfl ?_
  refine zk_cVv (q37_becomes hp6) dX4_thinkOf_24 mwX1_becomes ml_X4_188 (by decide : 37 < zc.1) rfl rfl (by decide) rfl (Nat.le_of_ble_eq_true rfl) ?_
  refine zk_vret rfl dX4_thinkOf_27 ?_
  exact ⟨rfl, rfl, rfl⟩
/-- behind how many days rider p is at a place -/
def zs_cm (M : zk_M) (p : Nat) (pl : Int32) : Int32 := (zs_until (M 3) (M 4) pl 61 0 (M (6 + p))).1
theorem zs_for_rel {α β : Type} {f : Nat → α → α} {g : Nat → β → β} (R : Nat → α → β → Prop) : ∀ (n i : Nat) (s : α) (t : β), (∀ j s t, i ≤ j → j < i + n → R j s t → R (j + 1) (f j s) (g j t)) → R i s t → R (i + n) (zs_for f n i s) (zs_for g n i t)
  | 0, i, s, t, _, h => h
  | n + 1, i, s, t, hs, h => by
    have := zs_for_rel R n (i + 1) (f i s) (g i t) (fun j s t h1 h2 => hs j s t (by omega) (by omega)) (hs i s t (Nat.le_refl _) (by omega) h)
    rw [show i + (n + 1) = i + 1 + n by omega]
    exact this
theorem zs_d0_ag {J J' : Nat → Int32} (h : zs_ag 8 J J') {a b : Nat} (ha : a < 8) : zs_d0 J a b = zs_d0 J' a b := by
  unfold zs_d0 zs_j
  rw [nI_clamp (by omega), h a ha]
theorem zs_ag.up' {n k : Nat} {f g : Nat → Int32} {v v' : Int32} (h : zs_ag n f g) (hv : v = v') : zs_ag n (va_up f k v) (va_up g k v') := hv ▸ h.up
theorem zs_ag.ups {n : Nat} {f g : Nat → Int32} {v v' : Int32} (h : zs_ag n f g) (hv : v = v') : zs_ag (n + 1) (va_up f n v) (va_up g n v') := fun i hi => by
  simp only [va_up]
  split
  · exact hv
  · exact h i (by omega)
theorem zs_fw1_ag {J J' : Nat → Int32} (h : zs_ag 8 J J') (T T' : Nat → Int32) : zs_ag 64 (zs_fw1 J T) (zs_fw1 J' T') := by
  have := zs_for_rel (fun a T T' => zs_ag (a * 8) T T') 8 0 T T' (f := fun a T => zs_for (fun b T => va_up T (a * 8 + b) (zs_d0 J a b)) 8 0 T) (g := fun a T => zs_for (fun b T => va_up T (a * 8 + b) (zs_d0 J' a b)) 8 0 T) (fun a s t _ ha hr => ?_) (fun i hi => by omega)
  · exact this
  · have h2 := zs_for_rel (fun b T T' => zs_ag (a * 8 + b) T T') 8 0 s t (f := fun b T => va_up T (a * 8 + b) (zs_d0 J a b)) (g := fun b T => va_up T (a * 8 + b) (zs_d0 J' a b)) (fun b s t _ hb hr => zs_ag.ups hr (zs_d0_ag h (by omega))) hr
    rw [show (a + 1) * 8 = a * 8 + (0 + 8) by omega]
    exact h2
theorem zs_fw2_ag {T T' : Nat → Int32} (h : zs_ag 64 T T') : zs_ag 64 (zs_fw2 T) (zs_fw2 T') := by
  refine zs_for_rel (fun _ T T' => zs_ag 64 T T') 8 0 T T' (fun k s t _ hk hr => ?_) h
  refine zs_for_rel (fun _ T T' => zs_ag 64 T T') 8 0 s t (fun a s t _ ha hr => ?_) hr
  refine zs_for_rel (fun _ T T' => zs_ag 64 T T') 8 0 s t (fun b s t _ hb hr => ?_) hr
  exact hr.up' (by rw [hr _ (by omega), hr (a * 8 + k) (by omega), hr (k * 8 + b) (by omega)])
theorem zs_fw_ag {J J' : Nat → Int32} (h : zs_ag 8 J J') (T T' : Nat → Int32) : zs_ag 64 (zs_fw J T) (zs_fw J' T') := zs_fw2_ag (zs_fw1_ag h T T')
def zs_FW (J : Nat → Int32) : Nat → Int32 := zs_fw J (fun _ => 0)
theorem zs_turn_ag {J J' : Nat → Int32} (h : zs_ag 8 J J') {a b : Int32} (ha : zs_p a) (hb : zs_p b) : zs_ag 8 (zs_turn J a b) (zs_turn J' a b) := by
  unfold zs_turn
  have h1 : zs_ag 8 (va_up J a.toNatClampNeg (J a.toNatClampNeg ^^^ 1 <<< (b &&& 31))) (va_up J' a.toNatClampNeg (J' a.toNatClampNeg ^^^ 1 <<< (b &&& 31))) := h.up' (by rw [h _ (zs_p_tn ha)])
  exact h1.up' (by rw [h1 _ (zs_p_tn hb)])
def zs_cmc (M : zk_M) (p : Nat) (pl a b : Int32) : Int32 := (zs_until (zs_turn (M 3) a b) (zs_FW (zs_turn (M 3) a b)) pl 61 0 (M (6 + p))).1
theorem zk_gen {l : Launch} {σ : zk_Sh} {d : Nat} {μ : zk_I} {pc : Nat} {ls : List (Option Value)} {st : List Value} {M : zk_M} {L : zk_L} {Q : Option Value → zk_M → zk_L → Prop} (P : zk_M → Prop) (h : P M) (k : ∀ M2 : zk_M, P M2 → zk_R l σ d μ pc ls st M2 L Q) : zk_R l σ d μ pc ls st M L Q := k M h
set_option maxRecDepth 100000 in
set_option maxHeartbeats 4000000 in
theorem qX4_comesNow {l : Launch} {M : zk_M} {L : zk_L} {M0 : zk_M} {n : Nat} (hI : zs_I M0 n) (hs : zs_same M0 M) {p : Nat} (hp : p < n) {pl : Int32} : zk_C l zc 5 muX4_comesNow [.ref 0, .int (nI p), .int pl] M L (zq_i (zs_cm M0 p pl) M0) := by
  refine zk_ofR (ls := [some (.ref 0), some (.int (nI p)), some (.int pl)]) (by decide) rfl (Nat.le_of_ble_eq_true rfl) rfl ?_
  have hp6 : p < 6 := Nat.lt_of_lt_of_le hp hI.1
  have e6 : M (6 + p) = M0 (6 + p) := hs (6 + p) (by omega) (by omega)
  have ok6 : zs_ok (M0 (6 + p)) := hI.2.2 p hp6
  refine zk_aload_n dX4_comesNow_0 rfl ?_
  refine zk_iload_n dX4_comesNow_1 rfl ?_
  refine zk_cVv (qX4_thinkOf (hI.sm hs) hp) dX4_comesNow_2 mwX4_thinkOf ml_X4_167 (by decide : 0 < zc.1) rfl rfl (by decide) rfl (Nat.le_of_ble_eq_true rfl) ?_
  refine zk_aload_n dX4_comesNow_5 rfl ?_
  refine zk_getRc (q := 37) dX4_comesNow_6 fl_X4_32 (by decide : 0 < zc.1) rfl rfl rfl ?_
  refine zk_aload_n dX4_comesNow_9 rfl ?_
  refine zk_getRc (q := 1) dX4_comesNow_10 fl_X4_12 (by decide : 0 < zc.1) rfl rfl rfl ?_
  refine zk_getRc (q := 2) dX4_comesNow_13 fl_X4_122 (by decide : 1 < zc.1) rfl rfl rfl ?_
  refine zk_iload_n dX4_comesNow_16 rfl ?_
  refine zk_cVi (q37_until (by rw [zk_up_eq]; exact zs_ok_ag zs_cp_ag.sm (by rw [e6]; exact ok6))) dX4_comesNow_17 mwX1_daysUntilAt ml_X4_197 (by decide : 37 < zc.1) rfl rfl (by decide) rfl (Nat.le_of_ble_eq_true rfl) ?_
  refine zk_iret rfl dX4_comesNow_20 ?_
  refine ⟨congrArg (fun v => some (Value.int v)) ?_, (hs.up (by omega)).up (by omega)⟩
  rw [zk_up_eq, zk_up_ne (by decide), zk_up_ne (by decide), hs 3 (by decide) (by decide), hs 4 (by decide) (by decide), e6]
  exact zs_until_ag zs_ag.rf zs_ag.rf 61 0 _ _ zs_cp_ag (zs_ok_ag zs_cp_ag.sm ok6)
set_option maxRecDepth 100000 in
set_option maxHeartbeats 4000000 in
theorem qX4_comesWithChange {l : Launch} {M : zk_M} {L : zk_L} {M0 : zk_M} {n : Nat} (hI : zs_I M0 n) (hs : zs_same M0 M) {p : Nat} (hp : p < n) {pl a b : Int32} (ha : zs_p a) (hb : zs_p b) (hab : ¬ a = b) : zk_C l zc 5 muX4_comesWithChange [.ref 0, .int (nI p), .int pl, .int a, .int b] M L (zq_i (zs_cmc M0 p pl a b) M0) := by
  refine zk_ofR (ls := [some (.ref 0), some (.int (nI p)), some (.int pl), some (.int a), some (.int b)]) (by decide) rfl (Nat.le_of_ble_eq_true rfl) rfl ?_
  have hp6 : p < 6 := Nat.lt_of_lt_of_le hp hI.1
  have e6 : M (6 + p) = M0 (6 + p) := hs (6 + p) (by omega) (by omega)
  have ok6 : zs_ok (M0 (6 + p)) := hI.2.2 p hp6
  refine zk_aload_n dX4_comesWithChange_0 rfl ?_
  refine zk_getRc (q := 34) dX4_comesWithChange_1 fl_X4_25 (by decide : 0 < zc.1) rfl rfl rfl ?_
  refine zk_aload_n dX4_comesWithChange_4 rfl ?_
  refine zk_getRc (q := 1) dX4_comesWithChange_5 fl_X4_12 (by decide : 0 < zc.1) rfl rfl rfl ?_
  refine zk_getRc (q := 2) dX4_comesWithChange_8 fl_X4_122 (by decide : 1 < zc.1) rfl rfl rfl ?_
  refine zk_cVv (q34_becomes) dX4_comesWithChange_11 mwX2_becomes ml_X4_291 (by decide : 34 < zc.1) rfl rfl (by decide) rfl (Nat.le_of_ble_eq_true rfl) ?_
  refine zk_aload_n dX4_comesWithChange_14 rfl ?_
  refine zk_getRc (q := 34) dX4_comesWithChange_15 fl_X4_25 (by decide : 0 < zc.1) rfl rfl rfl ?_
  refine zk_iload_n dX4_comesWithChange_18 rfl ?_
  refine zk_iload dX4_comesWithChange_19 rfl ?_
  refine zk_cVv (q34_change ha hb hab) dX4_comesWithChange_21 mwX2_change ml_X4_293 (by decide : 34 < zc.1) rfl rfl (by decide) rfl (Nat.le_of_ble_eq_true rfl) ?_
  refine zk_gen (fun M2 => M2 35 = zs_turn (zs_cp 8 (M 3) (M 35)) a b ∧ M2 36 = zs_fw (zs_turn (zs_cp 8 (M 3) (M 35)) a b) (zs_cp 64 (M 4) (M 36)) ∧ zs_same M0 M2) ⟨by simp only [zk_up_eq, zk_up_ne (show (35 : Nat) ≠ 36 by decide)], by simp only [zk_up_eq, zk_up_ne (show (35 : Nat) ≠ 36 by decide), zk_up_ne (show (36 : Nat) ≠ 35 by decide)], (((hs.up (by omega)).up (by omega)).up (by omega)).up (by omega)⟩ (fun M2 hM2 => ?_)
  obtain ⟨h35, h36, hs2⟩ := hM2
  have e7 := hs2 (6 + p) (by omega) (by omega)
  refine zk_aload_n dX4_comesWithChange_24 rfl ?_
  refine zk_iload_n dX4_comesWithChange_25 rfl ?_
  refine zk_cVv (qX4_thinkOf (hI.sm hs2) hp) dX4_comesWithChange_26 mwX4_thinkOf ml_X4_167 (by decide : 0 < zc.1) rfl rfl (by decide) rfl (Nat.le_of_ble_eq_true rfl) ?_
  refine zk_aload_n dX4_comesWithChange_29 rfl ?_
  refine zk_getRc (q := 37) dX4_comesWithChange_30 fl_X4_32 (by decide : 0 < zc.1) rfl rfl rfl ?_
  refine zk_aload_n dX4_comesWithChange_33 rfl ?_
  refine zk_getRc (q := 34) dX4_comesWithChange_34 fl_X4_25 (by decide : 0 < zc.1) rfl rfl rfl ?_
  refine zk_iload_n dX4_comesWithChange_37 rfl ?_
  refine zk_cVi (q37_until34 (by rw [zk_up_eq]; exact zs_ok_ag zs_cp_ag.sm (by rw [e7]; exact ok6))) dX4_comesWithChange_38 mwX1_daysUntilAt ml_X4_197 (by decide : 37 < zc.1) rfl rfl (by decide) rfl (Nat.le_of_ble_eq_true rfl) ?_
  refine zk_iret rfl dX4_comesWithChange_41 ?_
  refine ⟨congrArg (fun v => some (Value.int v)) ?_, (hs2.up (by omega)).up (by omega)⟩
  rw [zk_up_eq, zk_up_ne (show (35 : Nat) ≠ 37 by decide), zk_up_ne (show (36 : Nat) ≠ 37 by decide), e7, h35, h36]
  have hJ : zs_ag 8 (zs_turn (zs_cp 8 (M 3) (M 35)) a b) (zs_turn (M0 3) a b) := zs_turn_ag (by rw [hs 3 (by decide) (by decide)]; exact zs_cp_ag) ha hb
  exact zs_until_ag hJ (zs_fw_ag hJ _ _) 61 0 _ _ zs_cp_ag (zs_ok_ag zs_cp_ag.sm ok6)
