theorem zb_60 : (Int8.ofInt 60).toInt32 = (60 : Int32) := by decide +kernel
theorem zb_99 : (Int8.ofInt 99).toInt32 = (99 : Int32) := by decide +kernel
set_option maxRecDepth 100000 in
set_option maxHeartbeats 4000000 in
theorem qX2_stepsBetween {l : Launch} {σ : zk_Sh} {M : zk_M} {L : zk_L} {n : Nat} (hn : zs_r σ n) {a b : Int32} (ha : zs_p a) (hb : zs_p b) : zk_C l σ 0 muX2_stepsBetween [.ref n, .int a, .int b] M L (zk_Ei (M (σ.2.2.2 n 1) (a * 8 + b).toNatClampNeg) M L) := by
  refine zk_ofR (ls := [some (.ref n), some (.int a), some (.int b)]) (by decide) rfl (Nat.le_of_ble_eq_true rfl) rfl ?_
  refine zk_iload_n dX2_stepsBetween_0 rfl ?_
  refine zk_if_lt (tgt := 20) dX2_stepsBetween_1 (by decide) (fun h1 => absurd h1 (zs_nlt0 ha.1)) (fun _ => ?_)
  refine zk_iload_n dX2_stepsBetween_4 rfl ?_
  refine zk_bipush dX2_stepsBetween_5 zb_8 ?_
  refine zk_icmp_ge (tgt := 20) dX2_stepsBetween_7 (by decide) (fun h7 => absurd h7 (zs_nge ha.2)) (fun _ => ?_)
  refine zk_iload_n dX2_stepsBetween_10 rfl ?_
  refine zk_if_lt (tgt := 20) dX2_stepsBetween_11 (by decide) (fun h11 => absurd h11 (zs_nlt0 hb.1)) (fun _ => ?_)
  refine zk_iload_n dX2_stepsBetween_14 rfl ?_
  refine zk_bipush dX2_stepsBetween_15 zb_8 ?_
  refine zk_icmp_lt (tgt := 23) dX2_stepsBetween_17 (by decide) (fun _ => ?_) (fun h17 => absurd (hb.2) h17)
  refine zk_aload_n dX2_stepsBetween_23 rfl ?_
  refine zk_getR dX2_stepsBetween_24 fl_X2_15 hn.1 hn.2.1 rfl ?_
  refine zk_iload_n dX2_stepsBetween_27 rfl ?_
  refine zk_bipush dX2_stepsBetween_28 zb_8 ?_
  refine zk_imul dX2_stepsBetween_30 ?_
  refine zk_iload_n dX2_stepsBetween_31 rfl ?_
  refine zk_iadd dX2_stepsBetween_32 ?_
  refine zk_iald (j := _) dX2_stepsBetween_33 hn.2.2.2.1.1 hn.2.2.2.1.2.1 (zs_in hn.2.2.2.1.2.2 (zs_ix64 ha hb)) rfl ?_
  refine zk_iret rfl dX2_stepsBetween_34 ?_
  exact ⟨rfl, rfl, rfl⟩
set_option maxRecDepth 100000 in
set_option maxHeartbeats 4000000 in
theorem qX2_joins {l : Launch} {σ : zk_Sh} {M : zk_M} {L : zk_L} {n : Nat} (hn : zs_r σ n) {a b : Int32} (ha : zs_p a) (hb : zs_p b) : zk_C l σ 1 muX2_joins [.ref n, .int a, .int b] M L (zk_Ei (if zs_j (M (σ.2.2.2 n 0)) a b then 1 else 0) M L) := by
  refine zk_ofR (ls := [some (.ref n), some (.int a), some (.int b)]) (by decide) rfl (Nat.le_of_ble_eq_true rfl) rfl ?_
  refine zk_iload_n dX2_joins_0 rfl ?_
  refine zk_cNi (qX4_isPlace_t ha) dX2_joins_1 miX4_isPlace nl_X2_27 stX4_isPlace rfl (by decide) rfl (Nat.le_of_ble_eq_true rfl) ?_
  refine zk_if_eq (tgt := 32) dX2_joins_4 (by decide) (fun h4 => absurd h4 (by decide)) (fun _ => ?_)
  refine zk_iload_n dX2_joins_7 rfl ?_
  refine zk_cNi (qX4_isPlace_t hb) dX2_joins_8 miX4_isPlace nl_X2_27 stX4_isPlace rfl (by decide) rfl (Nat.le_of_ble_eq_true rfl) ?_
  refine zk_if_eq (tgt := 32) dX2_joins_11 (by decide) (fun h11 => absurd h11 (by decide)) (fun _ => ?_)
  refine zk_aload_n dX2_joins_14 rfl ?_
  refine zk_getR dX2_joins_15 fl_X2_9 hn.1 hn.2.1 rfl ?_
  refine zk_iload_n dX2_joins_18 rfl ?_
  refine zk_iald (j := _) dX2_joins_19 hn.2.2.1.1 hn.2.2.1.2.1 (zs_in hn.2.2.1.2.2 (zs_pin ha)) rfl ?_
  refine zk_iload_n dX2_joins_20 rfl ?_
  refine zk_ishr dX2_joins_21 ?_
  refine zk_iconst dX2_joins_22 zc_1 ?_
  refine zk_iand dX2_joins_23 ?_
  refine zk_iconst dX2_joins_24 zc_1 ?_
  refine zk_icmp_ne (tgt := 32) dX2_joins_25 (by decide) (fun h25 => ?_) (fun h25 => ?_)
  · refine zk_iconst dX2_joins_32 zc_0 ?_
    refine zk_zret rfl (by decide) dX2_joins_33 ?_
    exact zk_Ei_of (by first | exact (if_pos h25).symm | exact (if_neg h25).symm) rfl rfl
  · refine zk_iconst dX2_joins_28 zc_1 ?_
    refine zk_goto (tgt := 33) dX2_joins_29 (by decide) ?_
    refine zk_zret rfl (by decide) dX2_joins_33 ?_
    exact zk_Ei_of (by first | exact (if_pos h25).symm | exact (if_neg h25).symm) rfl rfl
set_option maxRecDepth 100000 in
set_option maxHeartbeats 4000000 in
theorem qX1_becomes {l : Launch} {σ : zk_Sh} {M : zk_M} {L : zk_L} {h : Nat} (hh : zs_h σ h) {g : Nat} (hg : zs_h σ g) (hne : g ≠ h) : zk_C l σ 0 muX1_becomes [.ref h, .ref g] M L (zk_Ev (va_up M h (zs_cp 7 (M g) (M h))) L) := by
  refine zk_ofR (ls := [some (.ref h), some (.ref g)]) (by decide) rfl (Nat.le_of_ble_eq_true rfl) rfl ?_
  refine zk_aload_n dX1_becomes_0 rfl ?_
  refine zk_aload_n dX1_becomes_1 rfl ?_
  refine zk_getI dX1_becomes_2 fl_X1_9 hg.1 hg.2 rfl ?_
  refine zk_putG dX1_becomes_5 fl_X1_9 ft_1_0 rfl rfl hh.1 hh.2 rfl ?_
  refine zk_aload_n dX1_becomes_8 rfl ?_
  refine zk_aload_n dX1_becomes_9 rfl ?_
  refine zk_getI dX1_becomes_10 fl_X1_15 hg.1 hg.2 rfl ?_
  refine zk_putG dX1_becomes_13 fl_X1_15 ft_1_1 rfl rfl hh.1 hh.2 rfl ?_
  refine zk_aload_n dX1_becomes_16 rfl ?_
  refine zk_aload_n dX1_becomes_17 rfl ?_
  refine zk_getI dX1_becomes_18 fl_X1_18 hg.1 hg.2 rfl ?_
  refine zk_putG dX1_becomes_21 fl_X1_18 ft_1_2 rfl rfl hh.1 hh.2 rfl ?_
  refine zk_aload_n dX1_becomes_24 rfl ?_
  refine zk_aload_n dX1_becomes_25 rfl ?_
  refine zk_getI dX1_becomes_26 fl_X1_21 hg.1 hg.2 rfl ?_
  refine zk_putG dX1_becomes_29 fl_X1_21 ft_1_3 rfl rfl hh.1 hh.2 rfl ?_
  refine zk_aload_n dX1_becomes_32 rfl ?_
  refine zk_aload_n dX1_becomes_33 rfl ?_
  refine zk_getI dX1_becomes_34 fl_X1_24 hg.1 hg.2 rfl ?_
  refine zk_putG dX1_becomes_37 fl_X1_24 ft_1_4 rfl rfl hh.1 hh.2 rfl ?_
  refine zk_aload_n dX1_becomes_40 rfl ?_
  refine zk_aload_n dX1_becomes_41 rfl ?_
  refine zk_getI dX1_becomes_42 fl_X1_27 hg.1 hg.2 rfl ?_
  refine zk_putG dX1_becomes_45 fl_X1_27 ft_1_5 rfl rfl hh.1 hh.2 rfl ?_
  refine zk_aload_n dX1_becomes_48 rfl ?_
  refine zk_aload_n dX1_becomes_49 rfl ?_
  refine zk_getI dX1_becomes_50 fl_X1_30 hg.1 hg.2 rfl ?_
  refine zk_putG dX1_becomes_53 fl_X1_30 ft_1_6 rfl rfl hh.1 hh.2 rfl ?_
  refine zk_vret rfl dX1_becomes_56 ?_
  refine zk_Ev_of ?_ rfl
  simp only [zk_up_eq, zs_up2, zk_up_ne hne]
  congr 1
  funext i
  simp only [va_up, zs_cp]
  by_cases h7 : i < 7
  · rw [if_pos h7]
    rcases (show i = 0 ∨ i = 1 ∨ i = 2 ∨ i = 3 ∨ i = 4 ∨ i = 5 ∨ i = 6 by omega) with rfl | rfl | rfl | rfl | rfl | rfl | rfl <;> rfl
  · rw [if_neg h7]
    repeat rw [if_neg (by omega)]
set_option maxRecDepth 100000 in
set_option maxHeartbeats 4000000 in
theorem qX1_shoeAnew {l : Launch} {σ : zk_Sh} {M : zk_M} {L : zk_L} {h : Nat} (hh : zs_h σ h) : zk_C l σ 1 muX1_shoeAnew [.ref h] M L (zk_Ev (va_up M h (va_up (va_up (M h) 5 (zs_sk (M h 0))) 6 0)) L) := by
  refine zk_ofR (ls := [some (.ref h)]) (by decide) rfl (Nat.le_of_ble_eq_true rfl) rfl ?_
  refine zk_aload_n dX1_shoeAnew_0 rfl ?_
  refine zk_aload_n dX1_shoeAnew_1 rfl ?_
  refine zk_getI dX1_shoeAnew_2 fl_X1_9 hh.1 hh.2 rfl ?_
  refine zk_cNi (qX4_shoesOfKind) dX1_shoeAnew_5 miX4_shoesOfKind nl_X1_33 stX4_shoesOfKind rfl (by decide) rfl (Nat.le_of_ble_eq_true rfl) ?_
  refine zk_putG dX1_shoeAnew_8 fl_X1_27 ft_1_5 rfl rfl hh.1 hh.2 rfl ?_
  refine zk_aload_n dX1_shoeAnew_11 rfl ?_
  refine zk_iconst dX1_shoeAnew_12 zc_0 ?_
  refine zk_putG dX1_shoeAnew_13 fl_X1_30 ft_1_6 rfl rfl hh.1 hh.2 rfl ?_
  refine zk_vret rfl dX1_shoeAnew_16 ?_
  exact zk_Ev_of (by simp only [zk_up_eq, zs_up2]) rfl
set_option maxRecDepth 100000 in
set_option maxHeartbeats 4000000 in
theorem qX1_daysForShoe {l : Launch} {σ : zk_Sh} {M : zk_M} {L : zk_L} {h : Nat} (hh : zs_h σ h) : zk_C l σ 1 muX1_daysForShoe [.ref h] M L (zk_Ei (zs_dk (M h 0) (M h 1)) M L) := by
  refine zk_ofR (ls := [some (.ref h)]) (by decide) rfl (Nat.le_of_ble_eq_true rfl) rfl ?_
  refine zk_aload_n dX1_daysForShoe_0 rfl ?_
  refine zk_getI dX1_daysForShoe_1 fl_X1_9 hh.1 hh.2 rfl ?_
  refine zk_aload_n dX1_daysForShoe_4 rfl ?_
  refine zk_getI dX1_daysForShoe_5 fl_X1_15 hh.1 hh.2 rfl ?_
  refine zk_cNi (qX4_daysOfKind) dX1_daysForShoe_8 miX4_daysOfKind nl_X1_37 stX4_daysOfKind rfl (by decide) rfl (Nat.le_of_ble_eq_true rfl) ?_
  refine zk_iret rfl dX1_daysForShoe_11 ?_
  exact ⟨rfl, rfl, rfl⟩
set_option maxRecDepth 100000 in
set_option maxHeartbeats 4000000 in
theorem qX1_wearIron {l : Launch} {σ : zk_Sh} {M : zk_M} {L : zk_L} {h : Nat} (hh : zs_h σ h) : zk_C l σ 2 muX1_wearIron [.ref h] M L (zk_Ev (va_up M h (zs_wear (M h))) L) := by
  refine zk_ofR (ls := [some (.ref h), none]) (by decide) rfl (Nat.le_of_ble_eq_true rfl) rfl ?_
  refine zk_aload_n dX1_wearIron_0 rfl ?_
  refine zk_aload_n dX1_wearIron_1 rfl ?_
  refine zk_getI dX1_wearIron_2 fl_X1_30 hh.1 hh.2 rfl ?_
  refine zk_iconst dX1_wearIron_5 zc_1 ?_
  refine zk_iadd dX1_wearIron_6 ?_
  refine zk_bipush dX1_wearIron_7 zb_99 ?_
  refine zk_mmin dX1_wearIron_9 ml_X1_41 st_mmin in_J9 co_mmin (by decide) (Nat.le_of_ble_eq_true rfl) ?_
  refine zk_putG dX1_wearIron_12 fl_X1_30 ft_1_6 rfl rfl hh.1 hh.2 rfl ?_
  have hw : (if (99 : Int32) < M h 6 + 1 then 99 else M h 6 + 1) = zs_w (M h 6) := rfl
  rw [hw]
  refine zk_aload_n dX1_wearIron_15 rfl ?_
  refine zk_cVi (qX1_daysForShoe hh) dX1_wearIron_16 mwX1_daysForShoe ml_X1_46 hh.1 hh.2 rfl (by decide) rfl (Nat.le_of_ble_eq_true rfl) ?_
  simp only [zk_up_eq]
  rw [zk_up_ne (show (0 : Nat) ≠ 6 by decide), zk_up_ne (show (1 : Nat) ≠ 6 by decide)]
  refine zk_istore_n dX1_wearIron_19 zk_S_1 ?_
  refine zk_iload_n dX1_wearIron_20 rfl ?_
  refine zk_if_le (tgt := 50) dX1_wearIron_21 (by decide) (fun h21 => ?_) (fun h21 => ?_)
  · refine zk_vret rfl dX1_wearIron_50 ?_
    refine zk_Ev_of ?_ rfl
    try simp only [zk_up_eq, zs_up2]
    congr 1
    first | exact (if_neg (fun q => absurd q.1 (Int32.not_lt.mpr h21))).symm | exact (if_neg (fun q => h30 q.2.1)).symm | exact (if_neg (fun q => absurd q.2.2 (Int32.not_lt.mpr h37))).symm | exact (if_pos ⟨Int32.not_le.mp h21, h30, Int32.not_le.mp h37⟩).symm
  · refine zk_aload_n dX1_wearIron_24 rfl ?_
    refine zk_getI dX1_wearIron_25 fl_X1_30 hh.1 hh.2 rfl ?_
    refine zk_iload_n dX1_wearIron_28 rfl ?_
    refine zk_irem dX1_wearIron_29 (fun e => h21 (by rw [e]; decide)) ?_
    simp only [zk_up_eq]
    refine zk_if_ne (tgt := 50) dX1_wearIron_30 (by decide) (fun h30 => ?_) (fun h30 => ?_)
    · refine zk_vret rfl dX1_wearIron_50 ?_
      refine zk_Ev_of ?_ rfl
      try simp only [zk_up_eq, zs_up2]
      congr 1
      first | exact (if_neg (fun q => absurd q.1 (Int32.not_lt.mpr h21))).symm | exact (if_neg (fun q => h30 q.2.1)).symm | exact (if_neg (fun q => absurd q.2.2 (Int32.not_lt.mpr h37))).symm | exact (if_pos ⟨Int32.not_le.mp h21, h30, Int32.not_le.mp h37⟩).symm
    · refine zk_aload_n dX1_wearIron_33 rfl ?_
      refine zk_getI dX1_wearIron_34 fl_X1_27 hh.1 hh.2 rfl ?_
      simp only [zk_up_eq]
      rw [zk_up_ne (show (5 : Nat) ≠ 6 by decide)]
      refine zk_if_le (tgt := 50) dX1_wearIron_37 (by decide) (fun h37 => ?_) (fun h37 => ?_)
      · refine zk_vret rfl dX1_wearIron_50 ?_
        refine zk_Ev_of ?_ rfl
        try simp only [zk_up_eq, zs_up2]
        congr 1
        first | exact (if_neg (fun q => absurd q.1 (Int32.not_lt.mpr h21))).symm | exact (if_neg (fun q => h30 q.2.1)).symm | exact (if_neg (fun q => absurd q.2.2 (Int32.not_lt.mpr h37))).symm | exact (if_pos ⟨Int32.not_le.mp h21, h30, Int32.not_le.mp h37⟩).symm
      · refine zk_aload_n dX1_wearIron_40 rfl ?_
        refine zk_dup dX1_wearIron_41 rfl ?_
        refine zk_getI dX1_wearIron_42 fl_X1_27 hh.1 hh.2 rfl ?_
        simp only [zk_up_eq]
        rw [zk_up_ne (show (5 : Nat) ≠ 6 by decide)]
        refine zk_iconst dX1_wearIron_45 zc_1 ?_
        refine zk_isub dX1_wearIron_46 ?_
        refine zk_putG dX1_wearIron_47 fl_X1_27 ft_1_5 rfl rfl hh.1 hh.2 rfl ?_
        refine zk_vret rfl dX1_wearIron_50 ?_
        refine zk_Ev_of ?_ rfl
        try simp only [zk_up_eq, zs_up2]
        congr 1
        first | exact (if_neg (fun q => absurd q.1 (Int32.not_lt.mpr h21))).symm | exact (if_neg (fun q => h30 q.2.1)).symm | exact (if_neg (fun q => absurd q.2.2 (Int32.not_lt.mpr h37))).symm | exact (if_pos ⟨Int32.not_le.mp h21, h30, Int32.not_le.mp h37⟩).symm
set_option maxRecDepth 100000 in
set_option maxHeartbeats 4000000 in
theorem qX1_pullOf {l : Launch} {σ : zk_Sh} {M : zk_M} {L : zk_L} {h : Nat} (hh : zs_h σ h) {n : Nat} (hn : zs_r σ n) {a : Int32} (ha : zs_p a) (h2 : zs_p (M h 2)) (h3 : zs_p (M h 3)) : zk_C l σ 1 muX1_pullOf [.ref h, .ref n, .int a] M L (zk_Ei (zs_pull (M (σ.2.2.2 n 1)) (M h) a) M L) := by
  refine zk_ofR (ls := [some (.ref h), some (.ref n), some (.int a)]) (by decide) rfl (Nat.le_of_ble_eq_true rfl) rfl ?_
  refine zk_aload_n dX1_pullOf_0 rfl ?_
  refine zk_getI dX1_pullOf_1 fl_X1_27 hh.1 hh.2 rfl ?_
  refine zk_aload_n dX1_pullOf_4 rfl ?_
  refine zk_iload_n dX1_pullOf_5 rfl ?_
  refine zk_aload_n dX1_pullOf_6 rfl ?_
  refine zk_getI dX1_pullOf_7 fl_X1_18 hh.1 hh.2 rfl ?_
  refine zk_cVi (qX2_stepsBetween hn ha h2) dX1_pullOf_10 mwX2_stepsBetween ml_X1_50 hn.1 hn.2.1 rfl (by decide) rfl (Nat.le_of_ble_eq_true rfl) ?_
  refine zk_imul dX1_pullOf_13 ?_
  refine zk_iconst dX1_pullOf_14 zc_4 ?_
  refine zk_aload_n dX1_pullOf_15 rfl ?_
  refine zk_getI dX1_pullOf_16 fl_X1_27 hh.1 hh.2 rfl ?_
  refine zk_isub dX1_pullOf_19 ?_
  refine zk_aload_n dX1_pullOf_20 rfl ?_
  refine zk_iload_n dX1_pullOf_21 rfl ?_
  refine zk_aload_n dX1_pullOf_22 rfl ?_
  refine zk_getI dX1_pullOf_23 fl_X1_21 hh.1 hh.2 rfl ?_
  refine zk_cVi (qX2_stepsBetween hn ha h3) dX1_pullOf_26 mwX2_stepsBetween ml_X1_50 hn.1 hn.2.1 rfl (by decide) rfl (Nat.le_of_ble_eq_true rfl) ?_
  refine zk_imul dX1_pullOf_29 ?_
  refine zk_iadd dX1_pullOf_30 ?_
  refine zk_iret rfl dX1_pullOf_31 ?_
  exact ⟨rfl, rfl, rfl⟩
set_option maxRecDepth 100000 in
set_option maxHeartbeats 4000000 in
theorem qX1_stepsToGo {l : Launch} {σ : zk_Sh} {M : zk_M} {L : zk_L} {h : Nat} (hh : zs_h σ h) {n : Nat} (hn : zs_r σ n) (h4 : zs_p (M h 4)) (h3 : zs_p (M h 3)) : zk_C l σ 1 muX1_stepsToGo [.ref h, .ref n] M L (zk_Ei (M (σ.2.2.2 n 1) (M h 4 * 8 + M h 3).toNatClampNeg) M L) := by
  refine zk_ofR (ls := [some (.ref h), some (.ref n)]) (by decide) rfl (Nat.le_of_ble_eq_true rfl) rfl ?_
  refine zk_aload_n dX1_stepsToGo_0 rfl ?_
  refine zk_aload_n dX1_stepsToGo_1 rfl ?_
  refine zk_getI dX1_stepsToGo_2 fl_X1_24 hh.1 hh.2 rfl ?_
  refine zk_aload_n dX1_stepsToGo_5 rfl ?_
  refine zk_getI dX1_stepsToGo_6 fl_X1_21 hh.1 hh.2 rfl ?_
  refine zk_cVi (qX2_stepsBetween hn h4 h3) dX1_stepsToGo_9 mwX2_stepsBetween ml_X1_50 hn.1 hn.2.1 rfl (by decide) rfl (Nat.le_of_ble_eq_true rfl) ?_
  refine zk_iret rfl dX1_stepsToGo_12 ?_
  exact ⟨rfl, rfl, rfl⟩
set_option maxRecDepth 100000 in
set_option maxHeartbeats 4000000 in
theorem qX1_isWhereHeSays {l : Launch} {σ : zk_Sh} {M : zk_M} {L : zk_L} {h : Nat} (hh : zs_h σ h) : zk_C l σ 0 muX1_isWhereHeSays [.ref h] M L (zk_Ei (if M h 4 = M h 3 then 1 else 0) M L) := by
  refine zk_ofR (ls := [some (.ref h)]) (by decide) rfl (Nat.le_of_ble_eq_true rfl) rfl ?_
  refine zk_aload_n dX1_isWhereHeSays_0 rfl ?_
  refine zk_getI dX1_isWhereHeSays_1 fl_X1_24 hh.1 hh.2 rfl ?_
  refine zk_aload_n dX1_isWhereHeSays_4 rfl ?_
  refine zk_getI dX1_isWhereHeSays_5 fl_X1_21 hh.1 hh.2 rfl ?_
  refine zk_icmp_ne (tgt := 15) dX1_isWhereHeSays_8 (by decide) (fun h8 => ?_) (fun h8 => ?_)
  · refine zk_iconst dX1_isWhereHeSays_15 zc_0 ?_
    refine zk_zret rfl (by decide) dX1_isWhereHeSays_16 ?_
    exact zk_Ei_of (by first | exact (if_pos h8).symm | exact (if_neg h8).symm) rfl rfl
  · refine zk_iconst dX1_isWhereHeSays_11 zc_1 ?_
    refine zk_goto (tgt := 16) dX1_isWhereHeSays_12 (by decide) ?_
    refine zk_zret rfl (by decide) dX1_isWhereHeSays_16 ?_
    exact zk_Ei_of (by first | exact (if_pos h8).symm | exact (if_neg h8).symm) rfl rfl
set_option maxRecDepth 100000 in
set_option maxHeartbeats 4000000 in
theorem lX1_nextFrom {l : Launch} {σ : zk_Sh} {M : zk_M} {L : zk_L} {h : Nat} (hh : zs_h σ h) {n : Nat} (hn : zs_r σ n) {a : Int32} (ha : zs_p a) (h2 : zs_p (M h 2)) (h3 : zs_p (M h 3)) {Q : Option Value → zk_M → zk_L → Prop} : ∀ (m i : Nat) (b : Int32), i + m = 8 → zs_p b → zk_R l σ 2 muX1_nextFrom 60 [some (.ref h), some (.ref n), some (.int a), some (.int (zs_nx (M (σ.2.2.2 n 0)) (M (σ.2.2.2 n 1)) (M h) a m i b)), none, none] [] M L Q → zk_R l σ 2 muX1_nextFrom 13 [some (.ref h), some (.ref n), some (.int a), some (.int b), some (.int (zs_pull (M (σ.2.2.2 n 1)) (M h) b)), some (.int (nI i))] [] M L Q := by
  intro m
  induction m with
  | zero =>
    intro i b hi hb k
    obtain rfl : i = 8 := by omega
    refine zk_iload dX1_nextFrom_13 rfl ?_
    refine zk_bipush dX1_nextFrom_15 zb_8 ?_
    refine zk_icmp_ge (tgt := 60) dX1_nextFrom_17 (by decide) (fun _ => ?_) (fun q => absurd (by decide) q)
    refine zk_forget ?_ k
    exact ⟨Or.inr rfl, Or.inr rfl, Or.inr rfl, Or.inr rfl, Or.inl rfl, Or.inl rfl, trivial⟩
  | succ m ih =>
    intro i b hi hb k
    have hi8 : i < 8 := by omega
    refine zk_iload dX1_nextFrom_13 rfl ?_
    refine zk_bipush dX1_nextFrom_15 zb_8 ?_
    refine zk_icmp_ge (tgt := 60) dX1_nextFrom_17 (by decide) (fun h17 => absurd h17 (nI_ge hi8 (by decide))) (fun _ => ?_)
    refine zk_aload_n dX1_nextFrom_20 rfl ?_
    refine zk_iload_n dX1_nextFrom_21 rfl ?_
    refine zk_iload dX1_nextFrom_22 rfl ?_
    refine zk_cVi (qX2_joins hn ha (zs_p_nI hi8)) dX1_nextFrom_24 mwX2_joins ml_X1_59 hn.1 hn.2.1 rfl (by decide) rfl (Nat.le_of_ble_eq_true rfl) ?_
    refine zk_if_eq (tgt := 54) dX1_nextFrom_27 (by decide) (fun h27 => ?_) (fun h27 => ?_)
    · have hj : ¬ zs_j (M (σ.2.2.2 n 0)) a (nI i) := fun q => absurd h27 (by rw [if_pos q]; decide)
      refine zk_iinc dX1_nextFrom_54 zc_1 rfl zk_S_5 ?_
      refine zk_goto (tgt := 13) dX1_nextFrom_57 (by decide) ?_
      rw [← nI_succ]
      first
        | (refine ih (i + 1) (nI i) (by omega) (zs_p_nI hi8) ?_
           have e : (if zs_j (M (σ.2.2.2 n 0)) a (nI i) ∧ zs_pull (M (σ.2.2.2 n 1)) (M h) (nI i) < zs_pull (M (σ.2.2.2 n 1)) (M h) b then nI i else b) = nI i := if_pos ⟨hj, Int32.not_le.mp h39⟩
           rw [zs_nx, zs_for, e] at k
           exact k)
        | (refine ih (i + 1) b (by omega) hb ?_
           have e : (if zs_j (M (σ.2.2.2 n 0)) a (nI i) ∧ zs_pull (M (σ.2.2.2 n 1)) (M h) (nI i) < zs_pull (M (σ.2.2.2 n 1)) (M h) b then nI i else b) = b := by first | exact if_neg (fun q => hj q.1) | exact if_neg (fun q => absurd q.2 (Int32.not_lt.mpr h39))
           rw [zs_nx, zs_for, e] at k
           exact k)
    · have hj : zs_j (M (σ.2.2.2 n 0)) a (nI i) := Classical.byContradiction (fun q => h27 (by rw [if_neg q]))
      refine zk_aload_n dX1_nextFrom_30 rfl ?_
      refine zk_aload_n dX1_nextFrom_31 rfl ?_
      refine zk_iload dX1_nextFrom_32 rfl ?_
      refine zk_cVi (qX1_pullOf hh hn (zs_p_nI hi8) h2 h3) dX1_nextFrom_34 mwX1_pullOf ml_X1_55 hh.1 hh.2 rfl (by decide) rfl (Nat.le_of_ble_eq_true rfl) ?_
      refine zk_iload dX1_nextFrom_37 rfl ?_
      refine zk_icmp_ge (tgt := 54) dX1_nextFrom_39 (by decide) (fun h39 => ?_) (fun h39 => ?_)
      · refine zk_iinc dX1_nextFrom_54 zc_1 rfl zk_S_5 ?_
        refine zk_goto (tgt := 13) dX1_nextFrom_57 (by decide) ?_
        rw [← nI_succ]
        first
          | (refine ih (i + 1) (nI i) (by omega) (zs_p_nI hi8) ?_
             have e : (if zs_j (M (σ.2.2.2 n 0)) a (nI i) ∧ zs_pull (M (σ.2.2.2 n 1)) (M h) (nI i) < zs_pull (M (σ.2.2.2 n 1)) (M h) b then nI i else b) = nI i := if_pos ⟨hj, Int32.not_le.mp h39⟩
             rw [zs_nx, zs_for, e] at k
             exact k)
          | (refine ih (i + 1) b (by omega) hb ?_
             have e : (if zs_j (M (σ.2.2.2 n 0)) a (nI i) ∧ zs_pull (M (σ.2.2.2 n 1)) (M h) (nI i) < zs_pull (M (σ.2.2.2 n 1)) (M h) b then nI i else b) = b := by first | exact if_neg (fun q => hj q.1) | exact if_neg (fun q => absurd q.2 (Int32.not_lt.mpr h39))
             rw [zs_nx, zs_for, e] at k
             exact k)
      · refine zk_aload_n dX1_nextFrom_42 rfl ?_
        refine zk_aload_n dX1_nextFrom_43 rfl ?_
        refine zk_iload dX1_nextFrom_44 rfl ?_
        refine zk_cVi (qX1_pullOf hh hn (zs_p_nI hi8) h2 h3) dX1_nextFrom_46 mwX1_pullOf ml_X1_55 hh.1 hh.2 rfl (by decide) rfl (Nat.le_of_ble_eq_true rfl) ?_
        refine zk_istore dX1_nextFrom_49 zk_S_4 ?_
        refine zk_iload dX1_nextFrom_51 rfl ?_
        refine zk_istore_n dX1_nextFrom_53 zk_S_3 ?_
        refine zk_iinc dX1_nextFrom_54 zc_1 rfl zk_S_5 ?_
        refine zk_goto (tgt := 13) dX1_nextFrom_57 (by decide) ?_
        rw [← nI_succ]
        first
          | (refine ih (i + 1) (nI i) (by omega) (zs_p_nI hi8) ?_
             have e : (if zs_j (M (σ.2.2.2 n 0)) a (nI i) ∧ zs_pull (M (σ.2.2.2 n 1)) (M h) (nI i) < zs_pull (M (σ.2.2.2 n 1)) (M h) b then nI i else b) = nI i := if_pos ⟨hj, Int32.not_le.mp h39⟩
             rw [zs_nx, zs_for, e] at k
             exact k)
          | (refine ih (i + 1) b (by omega) hb ?_
             have e : (if zs_j (M (σ.2.2.2 n 0)) a (nI i) ∧ zs_pull (M (σ.2.2.2 n 1)) (M h) (nI i) < zs_pull (M (σ.2.2.2 n 1)) (M h) b then nI i else b) = b := by first | exact if_neg (fun q => hj q.1) | exact if_neg (fun q => absurd q.2 (Int32.not_lt.mpr h39))
             rw [zs_nx, zs_for, e] at k
             exact k)
set_option maxRecDepth 100000 in
set_option maxHeartbeats 4000000 in
theorem qX1_nextFrom {l : Launch} {σ : zk_Sh} {M : zk_M} {L : zk_L} {h : Nat} (hh : zs_h σ h) {n : Nat} (hn : zs_r σ n) {a : Int32} (ha : zs_p a) (h2 : zs_p (M h 2)) (h3 : zs_p (M h 3)) : zk_C l σ 2 muX1_nextFrom [.ref h, .ref n, .int a] M L (zk_Ei (zs_nx (M (σ.2.2.2 n 0)) (M (σ.2.2.2 n 1)) (M h) a 8 0 a) M L) := by
  refine zk_ofR (ls := [some (.ref h), some (.ref n), some (.int a), none, none, none]) (by decide) rfl (Nat.le_of_ble_eq_true rfl) rfl ?_
  refine zk_iload_n dX1_nextFrom_0 rfl ?_
  refine zk_istore_n dX1_nextFrom_1 zk_S_3 ?_
  refine zk_aload_n dX1_nextFrom_2 rfl ?_
  refine zk_aload_n dX1_nextFrom_3 rfl ?_
  refine zk_iload_n dX1_nextFrom_4 rfl ?_
  refine zk_cVi (qX1_pullOf hh hn ha h2 h3) dX1_nextFrom_5 mwX1_pullOf ml_X1_55 hh.1 hh.2 rfl (by decide) rfl (Nat.le_of_ble_eq_true rfl) ?_
  refine zk_istore dX1_nextFrom_8 zk_S_4 ?_
  refine zk_iconst dX1_nextFrom_10 zc_0 ?_
  refine zk_istore dX1_nextFrom_11 zk_S_5 ?_
  refine lX1_nextFrom hh hn ha h2 h3 8 0 a rfl ha ?_
  refine zk_iload_n dX1_nextFrom_60 rfl ?_
  refine zk_iret rfl dX1_nextFrom_61 ?_
  exact ⟨rfl, rfl, rfl⟩
theorem zs_wear_ne {f : Nat → Int32} {k : Nat} (h5 : k ≠ 5) (h6 : k ≠ 6) : zs_wear f k = f k := by
  unfold zs_wear
  split
  · rw [zk_up_ne h5, zk_up_ne h6]
  · rw [zk_up_ne h6]
theorem zs_for_p {J T f : Nat → Int32} {a : Int32} : ∀ (n i : Nat) (b : Int32), i + n ≤ 8 → zs_p b → zs_p (zs_nx J T f a n i b) := by
  intro n
  induction n with
  | zero => intro i b _ hb; exact hb
  | succ n ih =>
    intro i b hi hb
    show zs_p (zs_nx J T f a n (i + 1) _)
    apply ih (i + 1) _ (by omega)
    dsimp only
    split
    · exact zs_p_nI (by omega)
    · exact hb
theorem zs_ride_ne {J T f : Nat → Int32} {k : Nat} (h4 : k ≠ 4) (h5 : k ≠ 5) (h6 : k ≠ 6) : zs_ride J T f k = f k := by
  unfold zs_ride
  rw [zk_up_ne h4, zs_wear_ne h5 h6]
theorem zs_ride_ok {J T f : Nat → Int32} (h : zs_ok f) : zs_ok (zs_ride J T f) := by
  refine ⟨?_, ?_, ?_⟩
  · rw [zs_ride_ne (by decide) (by decide) (by decide)]; exact h.1
  · rw [zs_ride_ne (by decide) (by decide) (by decide)]; exact h.2.1
  · unfold zs_ride
    rw [zk_up_eq]
    exact zs_for_p 8 0 _ (by decide) (by rw [zs_wear_ne (by decide) (by decide)]; exact h.2.2)
theorem zs_hr {σ : zk_Sh} {h n : Nat} (hh : zs_h σ h) (hn : zs_r σ n) : σ.2.2.2 n 0 ≠ h ∧ σ.2.2.2 n 1 ≠ h := by
  refine ⟨fun e => ?_, fun e => ?_⟩
  · have := hn.2.2.1.2.1; rw [e, hh.2] at this; cases this
  · have := hn.2.2.2.1.2.1; rw [e, hh.2] at this; cases this
set_option maxRecDepth 100000 in
set_option maxHeartbeats 4000000 in
theorem qX1_rideDay {l : Launch} {σ : zk_Sh} {M : zk_M} {L : zk_L} {h : Nat} (hh : zs_h σ h) {n : Nat} (hn : zs_r σ n) (ok : zs_ok (M h)) : zk_C l σ 3 muX1_rideDay [.ref h, .ref n] M L (zk_Ev (va_up M h (zs_ride (M (σ.2.2.2 n 0)) (M (σ.2.2.2 n 1)) (M h))) L) := by
  refine zk_ofR (ls := [some (.ref h), some (.ref n)]) (by decide) rfl (Nat.le_of_ble_eq_true rfl) rfl ?_
  refine zk_aload_n dX1_rideDay_0 rfl ?_
  refine zk_cVv (qX1_wearIron hh) dX1_rideDay_1 mwX1_wearIron ml_X1_63 hh.1 hh.2 rfl (by decide) rfl (Nat.le_of_ble_eq_true rfl) ?_
  refine zk_aload_n dX1_rideDay_4 rfl ?_
  refine zk_aload_n dX1_rideDay_5 rfl ?_
  refine zk_aload_n dX1_rideDay_6 rfl ?_
  refine zk_aload_n dX1_rideDay_7 rfl ?_
  refine zk_getI dX1_rideDay_8 fl_X1_24 hh.1 hh.2 rfl ?_
  simp only [zk_up_eq]
  refine zk_cVi (qX1_nextFrom hh hn (by rw [zs_wear_ne (by decide) (by decide)]; exact ok.2.2) (by rw [zk_up_eq, zs_wear_ne (by decide) (by decide)]; exact ok.1) (by rw [zk_up_eq, zs_wear_ne (by decide) (by decide)]; exact ok.2.1)) dX1_rideDay_11 mwX1_nextFrom ml_X1_66 hh.1 hh.2 rfl (by decide) rfl (Nat.le_of_ble_eq_true rfl) ?_
  refine zk_putG dX1_rideDay_14 fl_X1_24 ft_1_4 rfl rfl hh.1 hh.2 rfl ?_
  refine zk_vret rfl dX1_rideDay_17 ?_
  refine zk_Ev_of ?_ rfl
  simp only [zk_up_eq, zs_up2, zk_up_ne (zs_hr hh hn).1, zk_up_ne (zs_hr hh hn).2]
  rfl
set_option maxRecDepth 100000 in
set_option maxHeartbeats 4000000 in
theorem lX1_rideDays {l : Launch} {σ : zk_Sh} {L : zk_L} {h : Nat} (hh : zs_h σ h) {n : Nat} (hn : zs_r σ n) {t : Nat} (ht : t < 2 ^ 31) {Q : Option Value → zk_M → zk_L → Prop} : ∀ (m i : Nat) (M : zk_M), i + m = t → zs_ok (M h) → zk_R l σ 4 muX1_rideDays 18 [some (.ref h), some (.ref n), none, none] [] (va_up M h (zs_rides (M (σ.2.2.2 n 0)) (M (σ.2.2.2 n 1)) m (M h))) L Q → zk_R l σ 4 muX1_rideDays 2 [some (.ref h), some (.ref n), some (.int (nI t)), some (.int (nI i))] [] M L Q := by
  intro m
  induction m with
  | zero =>
    intro i M hi ok k
    obtain rfl : i = t := by omega
    refine zk_iload_n dX1_rideDays_2 rfl ?_
    refine zk_iload_n dX1_rideDays_3 rfl ?_
    refine zk_icmp_ge (tgt := 18) dX1_rideDays_4 (by decide) (fun _ => ?_) (fun q => absurd (nI_le (Nat.le_refl _) ht) q)
    rw [zs_rides, zs_up_self] at k
    refine zk_forget ?_ k
    exact ⟨Or.inr rfl, Or.inr rfl, Or.inl rfl, Or.inl rfl, trivial⟩
  | succ m ih =>
    intro i M hi ok k
    have hi : i < t := by omega
    refine zk_iload_n dX1_rideDays_2 rfl ?_
    refine zk_iload_n dX1_rideDays_3 rfl ?_
    refine zk_icmp_ge (tgt := 18) dX1_rideDays_4 (by decide) (fun h4 => absurd h4 (nI_ge hi (by omega))) (fun _ => ?_)
    refine zk_aload_n dX1_rideDays_7 rfl ?_
    refine zk_aload_n dX1_rideDays_8 rfl ?_
    refine zk_cVv (qX1_rideDay hh hn ok) dX1_rideDays_9 mwX1_rideDay ml_X1_69 hh.1 hh.2 rfl (by decide) rfl (Nat.le_of_ble_eq_true rfl) ?_
    refine zk_iinc dX1_rideDays_12 zc_1 rfl zk_S_3 ?_
    refine zk_goto (tgt := 2) dX1_rideDays_15 (by decide) ?_
    rw [← nI_succ]
    refine ih (i + 1) _ (by omega) (by rw [zk_up_eq]; exact zs_ride_ok ok) ?_
    rw [zs_up2, zk_up_eq, zk_up_ne (zs_hr hh hn).1, zk_up_ne (zs_hr hh hn).2]
    exact k
set_option maxRecDepth 100000 in
set_option maxHeartbeats 4000000 in
theorem qX1_rideDays {l : Launch} {σ : zk_Sh} {M : zk_M} {L : zk_L} {h : Nat} (hh : zs_h σ h) {n : Nat} (hn : zs_r σ n) (ok : zs_ok (M h)) {t : Nat} (ht : t < 2 ^ 31) : zk_C l σ 4 muX1_rideDays [.ref h, .ref n, .int (nI t)] M L (zk_Ev (va_up M h (zs_rides (M (σ.2.2.2 n 0)) (M (σ.2.2.2 n 1)) t (M h))) L) := by
  refine zk_ofR (ls := [some (.ref h), some (.ref n), some (.int (nI t)), none]) (by decide) rfl (Nat.le_of_ble_eq_true rfl) rfl ?_
  refine zk_iconst dX1_rideDays_0 zc_0 ?_
  refine zk_istore_n dX1_rideDays_1 zk_S_3 ?_
  refine lX1_rideDays hh hn ht t 0 M (by omega) ok ?_
  refine zk_vret rfl dX1_rideDays_18 ?_
  exact ⟨rfl, rfl, rfl⟩
set_option maxRecDepth 100000 in
set_option maxHeartbeats 4000000 in
theorem lX1_daysUntilAt {l : Launch} {σ : zk_Sh} {L : zk_L} {h : Nat} (hh : zs_h σ h) {n : Nat} (hn : zs_r σ n) {p : Int32} {Q : Option Value → zk_M → zk_L → Prop} : ∀ (m i : Nat) (M : zk_M), i + m = 61 → zs_ok (M h) → Q (some (.int (zs_until (M (σ.2.2.2 n 0)) (M (σ.2.2.2 n 1)) p m i (M h)).1)) (va_up M h (zs_until (M (σ.2.2.2 n 0)) (M (σ.2.2.2 n 1)) p m i (M h)).2) L → zk_R l σ 4 muX1_daysUntilAt 2 [some (.ref h), some (.ref n), some (.int p), some (.int (nI i))] [] M L Q := by
  intro m
  induction m with
  | zero =>
    intro i M hi ok k
    obtain rfl : i = 61 := by omega
    refine zk_iload_n dX1_daysUntilAt_2 rfl ?_
    refine zk_bipush dX1_daysUntilAt_3 zb_60 ?_
    refine zk_icmp_gt (tgt := 29) dX1_daysUntilAt_5 (by decide) (fun _ => ?_) (fun q => absurd (by decide) q)
    refine zk_bipush (v := 61) dX1_daysUntilAt_29 (by decide) ?_
    refine zk_iret (v := 61) rfl dX1_daysUntilAt_31 ?_
    simp only [zs_until] at k
    rw [zs_up_self] at k
    exact k
  | succ m ih =>
    intro i M hi ok k
    refine zk_iload_n dX1_daysUntilAt_2 rfl ?_
    refine zk_bipush dX1_daysUntilAt_3 zb_60 ?_
    refine zk_icmp_gt (tgt := 29) dX1_daysUntilAt_5 (by decide) (fun h5 => absurd h5 (nI_nlt (show i ≤ 60 by omega) (by decide))) (fun _ => ?_)
    refine zk_aload_n dX1_daysUntilAt_8 rfl ?_
    refine zk_getI dX1_daysUntilAt_9 fl_X1_24 hh.1 hh.2 rfl ?_
    refine zk_iload_n dX1_daysUntilAt_12 rfl ?_
    refine zk_icmp_ne (tgt := 18) dX1_daysUntilAt_13 (by decide) (fun h13 => ?_) (fun h13 => ?_)
    · refine zk_aload_n dX1_daysUntilAt_18 rfl ?_
      refine zk_aload_n dX1_daysUntilAt_19 rfl ?_
      refine zk_cVv (qX1_rideDay hh hn ok) dX1_daysUntilAt_20 mwX1_rideDay ml_X1_69 hh.1 hh.2 rfl (by decide) rfl (Nat.le_of_ble_eq_true rfl) ?_
      refine zk_iinc dX1_daysUntilAt_23 zc_1 rfl zk_S_3 ?_
      refine zk_goto (tgt := 2) dX1_daysUntilAt_26 (by decide) ?_
      rw [← nI_succ]
      refine ih (i + 1) _ (by omega) (by rw [zk_up_eq]; exact zs_ride_ok ok) ?_
      have e : zs_until (M (σ.2.2.2 n 0)) (M (σ.2.2.2 n 1)) p (m + 1) i (M h) = zs_until (M (σ.2.2.2 n 0)) (M (σ.2.2.2 n 1)) p m (i + 1) (zs_ride (M (σ.2.2.2 n 0)) (M (σ.2.2.2 n 1)) (M h)) := if_neg h13
      rw [e] at k
      rw [zk_up_eq, zk_up_ne (zs_hr hh hn).1, zk_up_ne (zs_hr hh hn).2, zs_up2]
      exact k
    · refine zk_iload_n dX1_daysUntilAt_16 rfl ?_
      refine zk_iret rfl dX1_daysUntilAt_17 ?_
      have e : zs_until (M (σ.2.2.2 n 0)) (M (σ.2.2.2 n 1)) p (m + 1) i (M h) = (nI i, M h) := if_pos h13
      rw [e] at k
      rw [zs_up_self] at k
      exact k
set_option maxRecDepth 100000 in
set_option maxHeartbeats 4000000 in
theorem qX1_daysUntilAt {l : Launch} {σ : zk_Sh} {M : zk_M} {L : zk_L} {h : Nat} (hh : zs_h σ h) {n : Nat} (hn : zs_r σ n) (ok : zs_ok (M h)) {p : Int32} : zk_C l σ 4 muX1_daysUntilAt [.ref h, .ref n, .int p] M L (zk_Ei (zs_until (M (σ.2.2.2 n 0)) (M (σ.2.2.2 n 1)) p 61 0 (M h)).1 (va_up M h (zs_until (M (σ.2.2.2 n 0)) (M (σ.2.2.2 n 1)) p 61 0 (M h)).2) L) := by
  refine zk_ofR (ls := [some (.ref h), some (.ref n), some (.int p), none]) (by decide) rfl (Nat.le_of_ble_eq_true rfl) rfl ?_
  refine zk_iconst dX1_daysUntilAt_0 zc_0 ?_
  refine zk_istore_n dX1_daysUntilAt_1 zk_S_3 ?_
  exact lX1_daysUntilAt hh hn 61 0 M rfl ok ⟨rfl, rfl, rfl⟩
