theorem zb_119 : (Int8.ofInt 119).toInt32 = (119 : Int32) := by decide +kernel
def zu_do (a : Nat → Int32) (n : Nat) (o : Int32) (N : Nat → Int32) : Option (Nat → Int32) :=
  if o = 114 then (if zs_p (N 0) ∧ zs_p (N 1) ∧ ¬ N 0 = N 1 then some (zs_trn a (N 0) (N 1)) else none)
  else if o = 104 then (if zs_p (N 2) ∧ zs_p (N 3) ∧ zs_p (N 4) ∧ n < 6 then some (zu_new a n N) else none)
  else if o = 115 then (if zs_isr (nI n) (N 0) then some (zs_put a (N 0).toNatClampNeg (zs_shod (zs_get a (N 0).toNatClampNeg))) else none)
  else if o = 97 then (if zs_isr (nI n) (N 0) ∧ zs_p (N 1) then some (zs_put a (N 0).toNatClampNeg (va_up (zs_get a (N 0).toNatClampNeg) 4 (N 1))) else none)
  else if o = 119 then (if zs_isr (nI n) (N 0) ∧ zs_p (N 1) then some (zs_put a (N 0).toNatClampNeg (va_up (zs_get a (N 0).toNatClampNeg) 2 (N 1))) else none)
  else (if 1 ≤ N 0 ∧ N 0 ≤ 60 ∧ a 1 + N 0 ≤ 999 then some (zs_daysA (zs_FW (zs_J a)) n (N 0).toNatClampNeg a) else none)
theorem zu_do_r {a N : Nat → Int32} {n : Nat} : zu_do a n 114 N = (if zs_p (N 0) ∧ zs_p (N 1) ∧ ¬ N 0 = N 1 then some (zs_trn a (N 0) (N 1)) else none) := by rw [zu_do, if_pos rfl]
theorem zu_do_h {a N : Nat → Int32} {n : Nat} : zu_do a n 104 N = (if zs_p (N 2) ∧ zs_p (N 3) ∧ zs_p (N 4) ∧ n < 6 then some (zu_new a n N) else none) := by rw [zu_do, if_neg (by decide), if_pos rfl]
theorem zu_do_s {a N : Nat → Int32} {n : Nat} : zu_do a n 115 N = (if zs_isr (nI n) (N 0) then some (zs_put a (N 0).toNatClampNeg (zs_shod (zs_get a (N 0).toNatClampNeg))) else none) := by rw [zu_do, if_neg (by decide), if_neg (by decide), if_pos rfl]
theorem zu_do_a {a N : Nat → Int32} {n : Nat} : zu_do a n 97 N = (if zs_isr (nI n) (N 0) ∧ zs_p (N 1) then some (zs_put a (N 0).toNatClampNeg (va_up (zs_get a (N 0).toNatClampNeg) 4 (N 1))) else none) := by rw [zu_do, if_neg (by decide), if_neg (by decide), if_neg (by decide), if_pos rfl]
theorem zu_do_w {a N : Nat → Int32} {n : Nat} : zu_do a n 119 N = (if zs_isr (nI n) (N 0) ∧ zs_p (N 1) then some (zs_put a (N 0).toNatClampNeg (va_up (zs_get a (N 0).toNatClampNeg) 2 (N 1))) else none) := by rw [zu_do, if_neg (by decide), if_neg (by decide), if_neg (by decide), if_neg (by decide), if_pos rfl]
theorem zu_do_d {a N : Nat → Int32} {n : Nat} : zu_do a n 100 N = (if 1 ≤ N 0 ∧ N 0 ≤ 60 ∧ a 1 + N 0 ≤ 999 then some (zs_daysA (zs_FW (zs_J a)) n (N 0).toNatClampNeg a) else none) := by rw [zu_do, if_neg (by decide), if_neg (by decide), if_neg (by decide), if_neg (by decide), if_neg (by decide)]
set_option maxRecDepth 100000 in
set_option maxHeartbeats 4000000 in
theorem qX5_do_r {l : Launch} {M : zk_M} {L : zk_L} {n : Nat} (hA : zs_A (M 1) n) : zk_C l zm 5 muX5_isDone [.ref 0, .int 114] M L (fun r M1 _ => r = some (.int (zs_bi (zu_do (M 1) n 114 (M 9)).isSome)) ∧ M1 1 = (zu_do (M 1) n 114 (M 9)).getD (M 1) ∧ zs_dn M M1) := by
  refine zk_ofR (ls := [some (.ref 0), some (.int 114), none, none]) (by decide) rfl (Nat.le_of_ble_eq_true rfl) rfl ?_
  refine zk_aload_n dX5_isDone_0 rfl ?_
  refine zk_getRc (q := 9) dX5_isDone_1 fl_X5_34 (by decide : 0 < zm.1) rfl rfl rfl ?_
  refine zk_iconst dX5_isDone_4 zc_0 ?_
  refine zk_iald (j := 0) dX5_isDone_5 (by decide : 9 < zm.1) rfl (zs_in rfl (vp_in_iff.mpr (by decide))) (by decide) ?_
  refine zk_istore_n dX5_isDone_6 zk_S_2 ?_
  refine zk_aload_n dX5_isDone_7 rfl ?_
  refine zk_getRc (q := 9) dX5_isDone_8 fl_X5_34 (by decide : 0 < zm.1) rfl rfl rfl ?_
  refine zk_iconst dX5_isDone_11 zc_1 ?_
  refine zk_iald (j := 1) dX5_isDone_12 (by decide : 9 < zm.1) rfl (zs_in rfl (vp_in_iff.mpr (by decide))) (by decide) ?_
  refine zk_istore_n dX5_isDone_13 zk_S_3 ?_
  refine zk_iload_n dX5_isDone_14 rfl ?_
  refine zk_lookup (off := 49) (tgt := 64) dX5_isDone_15 (by decide) (by decide) (by decide) ?_
  refine zk_iload_n dX5_isDone_64 rfl ?_
  refine zk_cSi (qX5_isPlace) dX5_isDone_65 miX5_isPlace ml_X5_104 stX5_isPlace rfl (by decide) rfl (Nat.le_of_ble_eq_true rfl) ?_
  refine zk_if_eq (tgt := 83) dX5_isDone_68 (by decide) (fun h68 => ?_) (fun h68 => ?_)
  · have ha := zs_if0 h68
    refine zk_iconst dX5_isDone_83 zc_0 ?_
    refine zk_zret rfl (by decide) dX5_isDone_84 ?_
    first | exact ⟨by rw [zu_do_r, if_neg (fun q => ha q.1)]; rfl, by rw [zu_do_r, if_neg (fun q => ha q.1)]; rfl, fun _ _ _ => rfl⟩ | exact ⟨by rw [zu_do_r, if_neg (fun q => hb q.2.1)]; rfl, by rw [zu_do_r, if_neg (fun q => hb q.2.1)]; rfl, fun _ _ _ => rfl⟩ | exact ⟨by rw [zu_do_r, if_neg (fun q => q.2.2 h80)]; rfl, by rw [zu_do_r, if_neg (fun q => q.2.2 h80)]; rfl, fun _ _ _ => rfl⟩
  · have ha := zs_if1 h68
    refine zk_iload_n dX5_isDone_71 rfl ?_
    refine zk_cSi (qX5_isPlace) dX5_isDone_72 miX5_isPlace ml_X5_104 stX5_isPlace rfl (by decide) rfl (Nat.le_of_ble_eq_true rfl) ?_
    refine zk_if_eq (tgt := 83) dX5_isDone_75 (by decide) (fun h75 => ?_) (fun h75 => ?_)
    · have hb := zs_if0 h75
      refine zk_iconst dX5_isDone_83 zc_0 ?_
      refine zk_zret rfl (by decide) dX5_isDone_84 ?_
      first | exact ⟨by rw [zu_do_r, if_neg (fun q => ha q.1)]; rfl, by rw [zu_do_r, if_neg (fun q => ha q.1)]; rfl, fun _ _ _ => rfl⟩ | exact ⟨by rw [zu_do_r, if_neg (fun q => hb q.2.1)]; rfl, by rw [zu_do_r, if_neg (fun q => hb q.2.1)]; rfl, fun _ _ _ => rfl⟩ | exact ⟨by rw [zu_do_r, if_neg (fun q => q.2.2 h80)]; rfl, by rw [zu_do_r, if_neg (fun q => q.2.2 h80)]; rfl, fun _ _ _ => rfl⟩
    · have hb := zs_if1 h75
      refine zk_iload_n dX5_isDone_78 rfl ?_
      refine zk_iload_n dX5_isDone_79 rfl ?_
      refine zk_icmp_ne (tgt := 85) dX5_isDone_80 (by decide) (fun h80 => ?_) (fun h80 => ?_)
      · refine zk_aload_n dX5_isDone_85 rfl ?_
        refine zk_getRc (q := 1) dX5_isDone_86 fl_X5_9 (by decide : 0 < zm.1) rfl rfl rfl ?_
        refine zk_iload_n dX5_isDone_89 rfl ?_
        refine zk_iload_n dX5_isDone_90 rfl ?_
        refine zk_cSv (qX5_turnsRoad zm_a1 ha hb) dX5_isDone_91 miX5_turnsRoad ml_X5_111 stX5_turnsRoad rfl (by decide) rfl (Nat.le_of_ble_eq_true rfl) ?_
        refine zk_iconst dX5_isDone_94 zc_1 ?_
        refine zk_zret rfl (by decide) dX5_isDone_95 ?_
        exact ⟨by rw [zu_do_r, if_pos ⟨ha, hb, h80⟩]; rfl, by rw [zu_do_r, if_pos ⟨ha, hb, h80⟩]; exact zk_up_eq, fun o h1 h5 => zk_up_ne h1⟩
      · refine zk_iconst dX5_isDone_83 zc_0 ?_
        refine zk_zret rfl (by decide) dX5_isDone_84 ?_
        first | exact ⟨by rw [zu_do_r, if_neg (fun q => ha q.1)]; rfl, by rw [zu_do_r, if_neg (fun q => ha q.1)]; rfl, fun _ _ _ => rfl⟩ | exact ⟨by rw [zu_do_r, if_neg (fun q => hb q.2.1)]; rfl, by rw [zu_do_r, if_neg (fun q => hb q.2.1)]; rfl, fun _ _ _ => rfl⟩ | exact ⟨by rw [zu_do_r, if_neg (fun q => q.2.2 h80)]; rfl, by rw [zu_do_r, if_neg (fun q => q.2.2 h80)]; rfl, fun _ _ _ => rfl⟩
set_option maxRecDepth 100000 in
set_option maxHeartbeats 4000000 in
theorem qX5_do_h {l : Launch} {M : zk_M} {L : zk_L} {n : Nat} (hA : zs_A (M 1) n) (hk : 0 ≤ M 9 0 ∧ M 9 0 < 6) : zk_C l zm 5 muX5_isDone [.ref 0, .int 104] M L (fun r M1 _ => r = some (.int (zs_bi (zu_do (M 1) n 104 (M 9)).isSome)) ∧ M1 1 = (zu_do (M 1) n 104 (M 9)).getD (M 1) ∧ zs_dn M M1) := by
  refine zk_ofR (ls := [some (.ref 0), some (.int 104), none, none]) (by decide) rfl (Nat.le_of_ble_eq_true rfl) rfl ?_
  refine zk_aload_n dX5_isDone_0 rfl ?_
  refine zk_getRc (q := 9) dX5_isDone_1 fl_X5_34 (by decide : 0 < zm.1) rfl rfl rfl ?_
  refine zk_iconst dX5_isDone_4 zc_0 ?_
  refine zk_iald (j := 0) dX5_isDone_5 (by decide : 9 < zm.1) rfl (zs_in rfl (vp_in_iff.mpr (by decide))) (by decide) ?_
  refine zk_istore_n dX5_isDone_6 zk_S_2 ?_
  refine zk_aload_n dX5_isDone_7 rfl ?_
  refine zk_getRc (q := 9) dX5_isDone_8 fl_X5_34 (by decide : 0 < zm.1) rfl rfl rfl ?_
  refine zk_iconst dX5_isDone_11 zc_1 ?_
  refine zk_iald (j := 1) dX5_isDone_12 (by decide : 9 < zm.1) rfl (zs_in rfl (vp_in_iff.mpr (by decide))) (by decide) ?_
  refine zk_istore_n dX5_isDone_13 zk_S_3 ?_
  refine zk_iload_n dX5_isDone_14 rfl ?_
  refine zk_lookup (off := 81) (tgt := 96) dX5_isDone_15 (by decide) (by decide) (by decide) ?_
  by_cases hc : zs_p (M 9 2) ∧ zs_p (M 9 3) ∧ zs_p (M 9 4) ∧ n < 6
  · refine zk_aload_n dX5_isDone_96 rfl ?_
    refine zk_callV (qX5_addsRider_t hA hk hc.1 hc.2.1 hc.2.2.1 hc.2.2.2) dX5_isDone_97 mwX5_addsRider ml_X5_115 (by decide : 0 < zm.1) rfl rfl (by decide) rfl (Nat.le_of_ble_eq_true rfl) (fun r1 M1 L1 h1 => ?_)
    obtain ⟨rfl, e1, hd⟩ := h1
    refine zk_zret rfl (by decide) dX5_isDone_100 ?_
    exact ⟨by rw [zu_do_h, if_pos hc]; rfl, by rw [zu_do_h, if_pos hc]; exact e1, hd⟩
  · refine zk_aload_n dX5_isDone_96 rfl ?_
    refine zk_cVi (qX5_addsRider_f hA hc) dX5_isDone_97 mwX5_addsRider ml_X5_115 (by decide : 0 < zm.1) rfl rfl (by decide) rfl (Nat.le_of_ble_eq_true rfl) ?_
    refine zk_zret rfl (by decide) dX5_isDone_100 ?_
    exact ⟨by rw [zu_do_h, if_neg hc]; rfl, by rw [zu_do_h, if_neg hc]; rfl, fun _ _ _ => rfl⟩
set_option maxRecDepth 100000 in
set_option maxHeartbeats 4000000 in
theorem qX5_do_s {l : Launch} {M : zk_M} {L : zk_L} {n : Nat} (hA : zs_A (M 1) n) : zk_C l zm 5 muX5_isDone [.ref 0, .int 115] M L (fun r M1 _ => r = some (.int (zs_bi (zu_do (M 1) n 115 (M 9)).isSome)) ∧ M1 1 = (zu_do (M 1) n 115 (M 9)).getD (M 1) ∧ zs_dn M M1) := by
  refine zk_ofR (ls := [some (.ref 0), some (.int 115), none, none]) (by decide) rfl (Nat.le_of_ble_eq_true rfl) rfl ?_
  refine zk_aload_n dX5_isDone_0 rfl ?_
  refine zk_getRc (q := 9) dX5_isDone_1 fl_X5_34 (by decide : 0 < zm.1) rfl rfl rfl ?_
  refine zk_iconst dX5_isDone_4 zc_0 ?_
  refine zk_iald (j := 0) dX5_isDone_5 (by decide : 9 < zm.1) rfl (zs_in rfl (vp_in_iff.mpr (by decide))) (by decide) ?_
  refine zk_istore_n dX5_isDone_6 zk_S_2 ?_
  refine zk_aload_n dX5_isDone_7 rfl ?_
  refine zk_getRc (q := 9) dX5_isDone_8 fl_X5_34 (by decide : 0 < zm.1) rfl rfl rfl ?_
  refine zk_iconst dX5_isDone_11 zc_1 ?_
  refine zk_iald (j := 1) dX5_isDone_12 (by decide : 9 < zm.1) rfl (zs_in rfl (vp_in_iff.mpr (by decide))) (by decide) ?_
  refine zk_istore_n dX5_isDone_13 zk_S_3 ?_
  refine zk_iload_n dX5_isDone_14 rfl ?_
  refine zk_lookup (off := 86) (tgt := 101) dX5_isDone_15 (by decide) (by decide) (by decide) ?_
  refine zk_aload_n dX5_isDone_101 rfl ?_
  refine zk_iload_n dX5_isDone_102 rfl ?_
  refine zk_cVi (qX5_isRider hA.1 hA.2.1) dX5_isDone_103 mwX5_isRider ml_X5_118 (by decide : 0 < zm.1) rfl rfl (by decide) rfl (Nat.le_of_ble_eq_true rfl) ?_
  refine zk_if_ne (tgt := 111) dX5_isDone_106 (by decide) (fun h106 => ?_) (fun h106 => ?_)
  · have hr := zs_if1 h106
    obtain ⟨p, hp, ep⟩ := zs_isr_nI hA.1 hr
    have hp6 : p < 6 := Nat.lt_of_lt_of_le hp hA.1
    have ec : (M 9 0).toNatClampNeg = p := by rw [ep, nI_clamp (by omega)]
    rw [ep]
    refine zk_aload_n dX5_isDone_111 rfl ?_
    refine zk_getRc (q := 1) dX5_isDone_112 fl_X5_9 (by decide : 0 < zm.1) rfl rfl rfl ?_
    refine zk_iload_n dX5_isDone_115 rfl ?_
    refine zk_cSv (qX5_isShod zm_a1 hp6 (hA.2.2 p hp6).2) dX5_isDone_116 miX5_isShod ml_X5_108 stX5_isShod rfl (by decide) rfl (Nat.le_of_ble_eq_true rfl) ?_
    refine zk_iconst dX5_isDone_119 zc_1 ?_
    refine zk_zret rfl (by decide) dX5_isDone_120 ?_
    exact ⟨by rw [zu_do_s, if_pos hr]; rfl, by rw [zu_do_s, if_pos hr]; rw [ec]; exact zk_up_eq, fun o h1 h5 => zk_up_ne h1⟩
  · have hr := zs_if0 h106
    refine zk_iconst dX5_isDone_109 zc_0 ?_
    refine zk_zret rfl (by decide) dX5_isDone_110 ?_
    exact ⟨by rw [zu_do_s, if_neg (hr)]; rfl, by rw [zu_do_s, if_neg (hr)]; rfl, fun _ _ _ => rfl⟩
set_option maxRecDepth 100000 in
set_option maxHeartbeats 4000000 in
theorem qX5_do_a {l : Launch} {M : zk_M} {L : zk_L} {n : Nat} (hA : zs_A (M 1) n) : zk_C l zm 5 muX5_isDone [.ref 0, .int 97] M L (fun r M1 _ => r = some (.int (zs_bi (zu_do (M 1) n 97 (M 9)).isSome)) ∧ M1 1 = (zu_do (M 1) n 97 (M 9)).getD (M 1) ∧ zs_dn M M1) := by
  refine zk_ofR (ls := [some (.ref 0), some (.int 97), none, none]) (by decide) rfl (Nat.le_of_ble_eq_true rfl) rfl ?_
  refine zk_aload_n dX5_isDone_0 rfl ?_
  refine zk_getRc (q := 9) dX5_isDone_1 fl_X5_34 (by decide : 0 < zm.1) rfl rfl rfl ?_
  refine zk_iconst dX5_isDone_4 zc_0 ?_
  refine zk_iald (j := 0) dX5_isDone_5 (by decide : 9 < zm.1) rfl (zs_in rfl (vp_in_iff.mpr (by decide))) (by decide) ?_
  refine zk_istore_n dX5_isDone_6 zk_S_2 ?_
  refine zk_aload_n dX5_isDone_7 rfl ?_
  refine zk_getRc (q := 9) dX5_isDone_8 fl_X5_34 (by decide : 0 < zm.1) rfl rfl rfl ?_
  refine zk_iconst dX5_isDone_11 zc_1 ?_
  refine zk_iald (j := 1) dX5_isDone_12 (by decide : 9 < zm.1) rfl (zs_in rfl (vp_in_iff.mpr (by decide))) (by decide) ?_
  refine zk_istore_n dX5_isDone_13 zk_S_3 ?_
  refine zk_iload_n dX5_isDone_14 rfl ?_
  refine zk_lookup (off := 106) (tgt := 121) dX5_isDone_15 (by decide) (by decide) (by decide) ?_
  refine zk_aload_n dX5_isDone_121 rfl ?_
  refine zk_iload_n dX5_isDone_122 rfl ?_
  refine zk_cVi (qX5_isRider hA.1 hA.2.1) dX5_isDone_123 mwX5_isRider ml_X5_118 (by decide : 0 < zm.1) rfl rfl (by decide) rfl (Nat.le_of_ble_eq_true rfl) ?_
  refine zk_if_eq (tgt := 136) dX5_isDone_126 (by decide) (fun h126 => ?_) (fun h126 => ?_)
  · have hr := zs_if0 h126
    refine zk_iconst dX5_isDone_136 zc_0 ?_
    refine zk_zret rfl (by decide) dX5_isDone_137 ?_
    first | exact ⟨by rw [zu_do_a, if_neg (fun q => hr q.1)]; rfl, by rw [zu_do_a, if_neg (fun q => hr q.1)]; rfl, fun _ _ _ => rfl⟩ | exact ⟨by rw [zu_do_a, if_neg (fun q => hx q.2)]; rfl, by rw [zu_do_a, if_neg (fun q => hx q.2)]; rfl, fun _ _ _ => rfl⟩
  · have hr := zs_if1 h126
    obtain ⟨p, hp, ep⟩ := zs_isr_nI hA.1 hr
    have hp6 : p < 6 := Nat.lt_of_lt_of_le hp hA.1
    have ec : (M 9 0).toNatClampNeg = p := by rw [ep, nI_clamp (by omega)]
    refine zk_iload_n dX5_isDone_129 rfl ?_
    refine zk_cSi (qX5_isPlace) dX5_isDone_130 miX5_isPlace ml_X5_104 stX5_isPlace rfl (by decide) rfl (Nat.le_of_ble_eq_true rfl) ?_
    refine zk_if_ne (tgt := 138) dX5_isDone_133 (by decide) (fun h133 => ?_) (fun h133 => ?_)
    · have hx := zs_if1 h133
      rw [ep]
      refine zk_aload_n dX5_isDone_138 rfl ?_
      refine zk_getRc (q := 1) dX5_isDone_139 fl_X5_9 (by decide : 0 < zm.1) rfl rfl rfl ?_
      refine zk_iload_n dX5_isDone_142 rfl ?_
      refine zk_iload_n dX5_isDone_143 rfl ?_
      refine zk_bipush dX5_isDone_144 zb_119 ?_
      refine zk_icmp_ne (tgt := 153) dX5_isDone_146 (by decide) (fun _ => ?_) (fun h146 => absurd h146 (by decide))
      refine zk_iconst dX5_isDone_153 zc_4 ?_
      refine zk_cSi (qX5_of (p := p) (k := 4)) dX5_isDone_154 miX5_of ml_X5_58 stX5_of rfl (by decide) rfl (Nat.le_of_ble_eq_true rfl) ?_
      refine zk_iload_n dX5_isDone_157 rfl ?_
      refine zk_iast (j := 10 + 7 * p + 4) dX5_isDone_158 (by decide : 1 < zm.1) rfl (zs_in rfl (vp_in_nI (zs_7p hp6 (show 4 < 7 by decide)) (by decide))) (nI_clamp (by omega)) ?_
      rw [zs_put1 (by decide)]
      refine zk_iconst dX5_isDone_159 zc_1 ?_
      refine zk_zret rfl (by decide) dX5_isDone_160 ?_
      exact ⟨by rw [zu_do_a, if_pos ⟨hr, hx⟩]; rfl, by rw [zu_do_a, if_pos ⟨hr, hx⟩]; rw [ec]; exact zk_up_eq, fun o h1 h5 => zk_up_ne h1⟩
    · have hx := zs_if0 h133
      refine zk_iconst dX5_isDone_136 zc_0 ?_
      refine zk_zret rfl (by decide) dX5_isDone_137 ?_
      first | exact ⟨by rw [zu_do_a, if_neg (fun q => hr q.1)]; rfl, by rw [zu_do_a, if_neg (fun q => hr q.1)]; rfl, fun _ _ _ => rfl⟩ | exact ⟨by rw [zu_do_a, if_neg (fun q => hx q.2)]; rfl, by rw [zu_do_a, if_neg (fun q => hx q.2)]; rfl, fun _ _ _ => rfl⟩
set_option maxRecDepth 100000 in
set_option maxHeartbeats 4000000 in
theorem qX5_do_w {l : Launch} {M : zk_M} {L : zk_L} {n : Nat} (hA : zs_A (M 1) n) : zk_C l zm 5 muX5_isDone [.ref 0, .int 119] M L (fun r M1 _ => r = some (.int (zs_bi (zu_do (M 1) n 119 (M 9)).isSome)) ∧ M1 1 = (zu_do (M 1) n 119 (M 9)).getD (M 1) ∧ zs_dn M M1) := by
  refine zk_ofR (ls := [some (.ref 0), some (.int 119), none, none]) (by decide) rfl (Nat.le_of_ble_eq_true rfl) rfl ?_
  refine zk_aload_n dX5_isDone_0 rfl ?_
  refine zk_getRc (q := 9) dX5_isDone_1 fl_X5_34 (by decide : 0 < zm.1) rfl rfl rfl ?_
  refine zk_iconst dX5_isDone_4 zc_0 ?_
  refine zk_iald (j := 0) dX5_isDone_5 (by decide : 9 < zm.1) rfl (zs_in rfl (vp_in_iff.mpr (by decide))) (by decide) ?_
  refine zk_istore_n dX5_isDone_6 zk_S_2 ?_
  refine zk_aload_n dX5_isDone_7 rfl ?_
  refine zk_getRc (q := 9) dX5_isDone_8 fl_X5_34 (by decide : 0 < zm.1) rfl rfl rfl ?_
  refine zk_iconst dX5_isDone_11 zc_1 ?_
  refine zk_iald (j := 1) dX5_isDone_12 (by decide : 9 < zm.1) rfl (zs_in rfl (vp_in_iff.mpr (by decide))) (by decide) ?_
  refine zk_istore_n dX5_isDone_13 zk_S_3 ?_
  refine zk_iload_n dX5_isDone_14 rfl ?_
  refine zk_lookup (off := 106) (tgt := 121) dX5_isDone_15 (by decide) (by decide) (by decide) ?_
  refine zk_aload_n dX5_isDone_121 rfl ?_
  refine zk_iload_n dX5_isDone_122 rfl ?_
  refine zk_cVi (qX5_isRider hA.1 hA.2.1) dX5_isDone_123 mwX5_isRider ml_X5_118 (by decide : 0 < zm.1) rfl rfl (by decide) rfl (Nat.le_of_ble_eq_true rfl) ?_
  refine zk_if_eq (tgt := 136) dX5_isDone_126 (by decide) (fun h126 => ?_) (fun h126 => ?_)
  · have hr := zs_if0 h126
    refine zk_iconst dX5_isDone_136 zc_0 ?_
    refine zk_zret rfl (by decide) dX5_isDone_137 ?_
    first | exact ⟨by rw [zu_do_w, if_neg (fun q => hr q.1)]; rfl, by rw [zu_do_w, if_neg (fun q => hr q.1)]; rfl, fun _ _ _ => rfl⟩ | exact ⟨by rw [zu_do_w, if_neg (fun q => hx q.2)]; rfl, by rw [zu_do_w, if_neg (fun q => hx q.2)]; rfl, fun _ _ _ => rfl⟩
  · have hr := zs_if1 h126
    obtain ⟨p, hp, ep⟩ := zs_isr_nI hA.1 hr
    have hp6 : p < 6 := Nat.lt_of_lt_of_le hp hA.1
    have ec : (M 9 0).toNatClampNeg = p := by rw [ep, nI_clamp (by omega)]
    refine zk_iload_n dX5_isDone_129 rfl ?_
    refine zk_cSi (qX5_isPlace) dX5_isDone_130 miX5_isPlace ml_X5_104 stX5_isPlace rfl (by decide) rfl (Nat.le_of_ble_eq_true rfl) ?_
    refine zk_if_ne (tgt := 138) dX5_isDone_133 (by decide) (fun h133 => ?_) (fun h133 => ?_)
    · have hx := zs_if1 h133
      rw [ep]
      refine zk_aload_n dX5_isDone_138 rfl ?_
      refine zk_getRc (q := 1) dX5_isDone_139 fl_X5_9 (by decide : 0 < zm.1) rfl rfl rfl ?_
      refine zk_iload_n dX5_isDone_142 rfl ?_
      refine zk_iload_n dX5_isDone_143 rfl ?_
      refine zk_bipush dX5_isDone_144 zb_119 ?_
      refine zk_icmp_ne (tgt := 153) dX5_isDone_146 (by decide) (fun h146 => absurd (rfl) h146) (fun _ => ?_)
      refine zk_iconst dX5_isDone_149 zc_2 ?_
      refine zk_goto (tgt := 154) dX5_isDone_150 (by decide) ?_
      refine zk_cSi (qX5_of (p := p) (k := 2)) dX5_isDone_154 miX5_of ml_X5_58 stX5_of rfl (by decide) rfl (Nat.le_of_ble_eq_true rfl) ?_
      refine zk_iload_n dX5_isDone_157 rfl ?_
      refine zk_iast (j := 10 + 7 * p + 2) dX5_isDone_158 (by decide : 1 < zm.1) rfl (zs_in rfl (vp_in_nI (zs_7p hp6 (show 2 < 7 by decide)) (by decide))) (nI_clamp (by omega)) ?_
      rw [zs_put1 (by decide)]
      refine zk_iconst dX5_isDone_159 zc_1 ?_
      refine zk_zret rfl (by decide) dX5_isDone_160 ?_
      exact ⟨by rw [zu_do_w, if_pos ⟨hr, hx⟩]; rfl, by rw [zu_do_w, if_pos ⟨hr, hx⟩]; rw [ec]; exact zk_up_eq, fun o h1 h5 => zk_up_ne h1⟩
    · have hx := zs_if0 h133
      refine zk_iconst dX5_isDone_136 zc_0 ?_
      refine zk_zret rfl (by decide) dX5_isDone_137 ?_
      first | exact ⟨by rw [zu_do_w, if_neg (fun q => hr q.1)]; rfl, by rw [zu_do_w, if_neg (fun q => hr q.1)]; rfl, fun _ _ _ => rfl⟩ | exact ⟨by rw [zu_do_w, if_neg (fun q => hx q.2)]; rfl, by rw [zu_do_w, if_neg (fun q => hx q.2)]; rfl, fun _ _ _ => rfl⟩
set_option maxRecDepth 100000 in
set_option maxHeartbeats 4000000 in
theorem qX5_do_d {l : Launch} {M : zk_M} {L : zk_L} {n : Nat} (hA : zs_A (M 1) n) : zk_C l zm 5 muX5_isDone [.ref 0, .int 100] M L (fun r M1 _ => r = some (.int (zs_bi (zu_do (M 1) n 100 (M 9)).isSome)) ∧ M1 1 = (zu_do (M 1) n 100 (M 9)).getD (M 1) ∧ zs_dn M M1) := by
  refine zk_ofR (ls := [some (.ref 0), some (.int 100), none, none]) (by decide) rfl (Nat.le_of_ble_eq_true rfl) rfl ?_
  refine zk_aload_n dX5_isDone_0 rfl ?_
  refine zk_getRc (q := 9) dX5_isDone_1 fl_X5_34 (by decide : 0 < zm.1) rfl rfl rfl ?_
  refine zk_iconst dX5_isDone_4 zc_0 ?_
  refine zk_iald (j := 0) dX5_isDone_5 (by decide : 9 < zm.1) rfl (zs_in rfl (vp_in_iff.mpr (by decide))) (by decide) ?_
  refine zk_istore_n dX5_isDone_6 zk_S_2 ?_
  refine zk_aload_n dX5_isDone_7 rfl ?_
  refine zk_getRc (q := 9) dX5_isDone_8 fl_X5_34 (by decide : 0 < zm.1) rfl rfl rfl ?_
  refine zk_iconst dX5_isDone_11 zc_1 ?_
  refine zk_iald (j := 1) dX5_isDone_12 (by decide : 9 < zm.1) rfl (zs_in rfl (vp_in_iff.mpr (by decide))) (by decide) ?_
  refine zk_istore_n dX5_isDone_13 zk_S_3 ?_
  refine zk_iload_n dX5_isDone_14 rfl ?_
  refine zk_lookup (off := 146) (tgt := 161) dX5_isDone_15 (by decide) (by decide) (by decide) ?_
  refine zk_iload_n dX5_isDone_161 rfl ?_
  refine zk_iconst dX5_isDone_162 zc_1 ?_
  refine zk_bipush dX5_isDone_163 zb_60 ?_
  refine zk_cSi (qX5_isIn) dX5_isDone_165 miX5_isIn ml_X5_46 stX5_isIn rfl (by decide) rfl (Nat.le_of_ble_eq_true rfl) ?_
  refine zk_if_eq (tgt := 185) dX5_isDone_168 (by decide) (fun h168 => ?_) (fun h168 => ?_)
  · have hi := zs_if0 h168
    refine zk_iconst dX5_isDone_185 zc_0 ?_
    refine zk_zret rfl (by decide) dX5_isDone_186 ?_
    first | exact ⟨by rw [zu_do_d, if_neg (fun q => hi ⟨q.1, q.2.1⟩)]; rfl, by rw [zu_do_d, if_neg (fun q => hi ⟨q.1, q.2.1⟩)]; rfl, fun _ _ _ => rfl⟩ | exact ⟨by rw [zu_do_d, if_neg (fun q => absurd q.2.2 h182)]; rfl, by rw [zu_do_d, if_neg (fun q => absurd q.2.2 h182)]; rfl, fun _ _ _ => rfl⟩
  · have hi := zs_if1 h168
    refine zk_aload_n dX5_isDone_171 rfl ?_
    refine zk_getRc (q := 1) dX5_isDone_172 fl_X5_9 (by decide : 0 < zm.1) rfl rfl rfl ?_
    refine zk_iconst dX5_isDone_175 zc_1 ?_
    refine zk_iald (j := 1) dX5_isDone_176 (by decide : 1 < zm.1) rfl (zs_in rfl (vp_in_iff.mpr (by decide))) (by decide) ?_
    refine zk_iload_n dX5_isDone_177 rfl ?_
    refine zk_iadd dX5_isDone_178 ?_
    refine zk_sipush dX5_isDone_179 zs_999 ?_
    refine zk_icmp_le (tgt := 187) dX5_isDone_182 (by decide) (fun h182 => ?_) (fun h182 => ?_)
    · obtain ⟨t, ht1, ht2, et⟩ := zs_days_of hi.1 hi.2
      rw [et]
      refine zk_aload_n dX5_isDone_187 rfl ?_
      refine zk_aload_n dX5_isDone_188 rfl ?_
      refine zk_getRc (q := 1) dX5_isDone_189 fl_X5_9 (by decide : 0 < zm.1) rfl rfl rfl ?_
      refine zk_iload_n dX5_isDone_192 rfl ?_
      refine zk_cVv (qX5_daysOn zm_a1 (by decide) hA (by omega)) dX5_isDone_193 mwX5_daysOn ml_X5_121 (by decide : 0 < zm.1) rfl rfl (by decide) rfl (Nat.le_of_ble_eq_true rfl) ?_
      refine zk_iconst dX5_isDone_196 zc_1 ?_
      refine zk_zret rfl (by decide) dX5_isDone_197 ?_
      have hd : 1 ≤ M 9 0 ∧ M 9 0 ≤ 60 ∧ M 1 1 + M 9 0 ≤ 999 := ⟨hi.1, hi.2, h182⟩
      refine ⟨by rw [zu_do_d, if_pos hd]; rfl, ?_, fun o h1 h5 => by rw [zk_up_ne h1, zk_up_ne h5]⟩
      rw [zu_do_d, if_pos hd, zk_up_eq, et, nI_clamp (by omega)]
      exact zs_daysA_T (zs_fw_ag zs_ag.rf _ _) t _ hA
    · refine zk_iconst dX5_isDone_185 zc_0 ?_
      refine zk_zret rfl (by decide) dX5_isDone_186 ?_
      first | exact ⟨by rw [zu_do_d, if_neg (fun q => hi ⟨q.1, q.2.1⟩)]; rfl, by rw [zu_do_d, if_neg (fun q => hi ⟨q.1, q.2.1⟩)]; rfl, fun _ _ _ => rfl⟩ | exact ⟨by rw [zu_do_d, if_neg (fun q => absurd q.2.2 h182)]; rfl, by rw [zu_do_d, if_neg (fun q => absurd q.2.2 h182)]; rfl, fun _ _ _ => rfl⟩
