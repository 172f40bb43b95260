def zu_ct (h : Nat → Int32) (k : Nat) (a : Nat → Int32) : Int32 × (Nat → Int32) :=
  if (zu_p1 h k (k + 1) 0 0).1 = -9 then (if (zu_p2 h k (k + 1) 0 a).1 = -9 then (nI (zu_p1 h k (k + 1) 0 0).2, (zu_p2 h k (k + 1) 0 a).2.getD a) else ((zu_p2 h k (k + 1) 0 a).1, (zu_p2 h k (k + 1) 0 a).2.getD a)) else ((zu_p1 h k (k + 1) 0 0).1, a)
theorem zs_getD_ag {o : Option (Nat → Int32)} {x a W : Nat → Int32} {n : Nat} (h : zs_ag n x (o.getD W)) (hw : zs_ag n W a) : zs_ag n x (o.getD a) := by
  cases o with
  | none => exact h.tr hw
  | some y => exact h
set_option maxRecDepth 100000 in
set_option maxHeartbeats 4000000 in
theorem qX5_county_t {l : Launch} {M : zk_M} {L : zk_L} {n : Nat} (hA : zs_A (M 1) n) {k : Nat} (hL : zs_L M k) : zk_C l zm 6 muX5_county [.ref 0] M L (fun r M1 _ => r = some (.int (zu_ct (zu_h (M 6) k) k (M 1)).1) ∧ ∃ a', zs_ag 52 a' (zu_ct (zu_h (M 6) k) k (M 1)).2 ∧ zs_sm (va_up (va_up M 1 a') 0 (va_up (M 0) 9 0)) M1) := by
  refine zk_ofR (ls := [some (.ref 0), none, none, none, none, none]) (by decide) rfl (Nat.le_of_ble_eq_true rfl) rfl ?_
  have hk96 := hL.1
  refine zk_aload_n dX5_county_0 rfl ?_
  refine zk_iconst dX5_county_1 zc_0 ?_
  refine zk_putG dX5_county_2 fl_X5_87 ft_5_11 rfl rfl (by decide : 0 < zm.1) rfl rfl ?_
  refine zk_iconst dX5_county_5 zc_0 ?_
  refine zk_istore_n dX5_county_6 zk_S_1 ?_
  refine zk_bipush dX5_county_7 zb_m9 ?_
  refine zk_istore_n dX5_county_9 zk_S_2 ?_
  refine lX5_ct1 (M0 := M) hL (k + 1) 0 0 _ L (by omega) (by omega) (Or.inr rfl) zs_pr.rf.up11 (by rw [zk_up_eq, zk_up_eq]; rfl) (fun M1 L1 hpr => ?_)
  refine zk_aload_n dX5_county_46 rfl ?_
  refine zk_getRc (q := 1) dX5_county_47 fl_X5_9 (by decide : 0 < zm.1) rfl rfl rfl ?_
  refine zk_aload_n dX5_county_50 rfl ?_
  refine zk_getRc (q := 4) dX5_county_51 fl_X5_19 (by decide : 0 < zm.1) rfl rfl rfl ?_
  refine zk_cSv (qX5_copies zm_a1 zm_a4 (by decide)) dX5_county_54 miX5_copies ml_X5_127 stX5_copies rfl (by decide) rfl (Nat.le_of_ble_eq_true rfl) ?_
  refine zk_aload_n dX5_county_57 rfl ?_
  refine zk_iconst dX5_county_58 zc_0 ?_
  refine zk_putG dX5_county_59 fl_X5_87 ft_5_11 rfl rfl (by decide : 0 < zm.1) rfl rfl ?_
  have e1 : M1 1 = M 1 := hpr.1 1 (by decide) (by decide)
  have hM2 : va_up (va_up M1 4 (zs_cp 52 (M1 1) (M1 4))) 0 (va_up ((va_up M1 4 (zs_cp 52 (M1 1) (M1 4))) 0) 11 0) = va_up (va_up M1 4 (zs_cp 52 (M1 1) (M1 4))) 0 (va_up (M1 0) 11 0) := by rw [show (va_up M1 4 (zs_cp 52 (M1 1) (M1 4))) 0 = M1 0 from zk_up_ne (by decide)]
  try rw [hM2]
  generalize hM2 : va_up (va_up M1 4 (zs_cp 52 (M1 1) (M1 4))) 0 (va_up (M1 0) 11 0) = M2
  have f1 : M2 1 = M 1 := by rw [← hM2, zk_up_ne (by decide), zk_up_ne (by decide)]; exact e1
  have f4 : zs_ag 52 (M2 4) (M 1) := by rw [← hM2, zk_up_ne (by decide), zk_up_eq, e1]; exact fun i hi => if_pos hi
  have q3 : M2 3 = M 3 := by rw [← hM2, zk_up_ne (by decide), zk_up_ne (by decide)]; exact hpr.1 3 (by decide) (by decide)
  have q6 : M2 6 = M 6 := by rw [← hM2, zk_up_ne (by decide), zk_up_ne (by decide)]; exact hpr.1 6 (by decide) (by decide)
  have q7 : M2 7 = M 7 := by rw [← hM2, zk_up_ne (by decide), zk_up_ne (by decide)]; exact hpr.1 7 (by decide) (by decide)
  have q8 : M2 8 = M 8 := by rw [← hM2, zk_up_ne (by decide), zk_up_ne (by decide)]; exact hpr.1 8 (by decide) (by decide)
  have qf : ∀ j, j ≠ 11 → M2 0 j = M 0 j := fun j hj => by rw [← hM2, zk_up_eq, zk_up_ne hj]; exact hpr.2 j hj
  have hq : M2 0 11 = nI 0 := by rw [← hM2, zk_up_eq, zk_up_eq]; rfl
  have hL2 : zs_L M2 k := ⟨hL.1, by rw [qf 9 (by decide)]; exact hL.2⟩
  by_cases hp1 : (zu_p1 (zu_h (M 6) k) k (k + 1) 0 0).1 = -9
  · have hal := zu_p1_all (k + 1) 0 0 (by omega) hk96 hp1
    rw [hp1]
    refine lX5_ct2 hL2 (k + 1) 0 M2 L1 n (by omega) (by omega) (by rw [f1]; exact hA) zs_q2.rf hq (by rw [q6]; exact hal) (fun M3 L3 q2 qa => ?_)
    rw [q6, f1] at qa ⊢
    have qa := zs_getD_ag qa f4
    by_cases hp2 : (zu_p2 (zu_h (M 6) k) k (k + 1) 0 (M 1)).1 = -9
    · have e : zu_ct (zu_h (M 6) k) k (M 1) = (nI (zu_p1 (zu_h (M 6) k) k (k + 1) 0 0).2, (zu_p2 (zu_h (M 6) k) k (k + 1) 0 (M 1)).2.getD (M 1)) := by rw [zu_ct, if_pos hp1, if_pos hp2]
      rw [hp2]
      refine zk_aload_n dX5_county_128 rfl ?_
      refine zk_iconst dX5_county_129 zc_0 ?_
      refine zk_putG dX5_county_130 fl_X5_83 ft_5_9 rfl rfl (by decide : 0 < zm.1) rfl rfl ?_
      refine zk_iload_n dX5_county_133 rfl ?_
      refine zk_bipush dX5_county_134 zb_m9 ?_
      refine zk_icmp_ne (tgt := 143) dX5_county_136 (by decide) (fun h136 => absurd (rfl) h136) (fun _ => ?_)
      refine zk_iload_n dX5_county_139 rfl ?_
      refine zk_goto (tgt := 144) dX5_county_140 (by decide) ?_
      refine zk_iret rfl dX5_county_144 ?_
      refine ⟨by rw [e], M3 1, by rw [e]; exact qa, ?_⟩
      refine ⟨?_, ?_, ?_, ?_, ?_, ?_, ?_, ?_⟩
      · rw [zk_up_ne (by decide), zk_up_ne (by decide), zk_up_eq]
      · rw [zk_up_ne (by decide), zk_up_ne (by decide), zk_up_ne (by decide)]; exact q2.1.trans q3
      · rw [zk_up_ne (by decide), zk_up_ne (by decide), zk_up_ne (by decide)]; exact q2.2.2.1.trans q6
      · rw [zk_up_ne (by decide), zk_up_ne (by decide), zk_up_ne (by decide)]; exact q2.2.2.2.1.trans q7
      · rw [zk_up_ne (by decide), zk_up_ne (by decide), zk_up_ne (by decide)]; exact q2.2.2.2.2.1.trans q8
      · rw [zk_up_eq, zk_up_eq, zk_up_ne (by decide), zk_up_ne (by decide)]; exact (q2.2.2.2.2.2 5 (by decide)).trans (qf 5 (by decide))
      · rw [zk_up_eq, zk_up_eq, zk_up_eq, zk_up_eq]
      · rw [zk_up_eq, zk_up_eq, zk_up_ne (by decide), zk_up_ne (by decide)]; exact (q2.2.2.2.2.2 10 (by decide)).trans (qf 10 (by decide))
    · have e : zu_ct (zu_h (M 6) k) k (M 1) = ((zu_p2 (zu_h (M 6) k) k (k + 1) 0 (M 1)).1, (zu_p2 (zu_h (M 6) k) k (k + 1) 0 (M 1)).2.getD (M 1)) := by rw [zu_ct, if_pos hp1, if_neg hp2]
      refine zk_aload_n dX5_county_128 rfl ?_
      refine zk_iconst dX5_county_129 zc_0 ?_
      refine zk_putG dX5_county_130 fl_X5_83 ft_5_9 rfl rfl (by decide : 0 < zm.1) rfl rfl ?_
      refine zk_iload_n dX5_county_133 rfl ?_
      refine zk_bipush dX5_county_134 zb_m9 ?_
      refine zk_icmp_ne (tgt := 143) dX5_county_136 (by decide) (fun _ => ?_) (fun h136 => absurd h136 (hp2))
      refine zk_iload_n dX5_county_143 rfl ?_
      refine zk_iret rfl dX5_county_144 ?_
      refine ⟨by rw [e], M3 1, by rw [e]; exact qa, ?_⟩
      refine ⟨?_, ?_, ?_, ?_, ?_, ?_, ?_, ?_⟩
      · rw [zk_up_ne (by decide), zk_up_ne (by decide), zk_up_eq]
      · rw [zk_up_ne (by decide), zk_up_ne (by decide), zk_up_ne (by decide)]; exact q2.1.trans q3
      · rw [zk_up_ne (by decide), zk_up_ne (by decide), zk_up_ne (by decide)]; exact q2.2.2.1.trans q6
      · rw [zk_up_ne (by decide), zk_up_ne (by decide), zk_up_ne (by decide)]; exact q2.2.2.2.1.trans q7
      · rw [zk_up_ne (by decide), zk_up_ne (by decide), zk_up_ne (by decide)]; exact q2.2.2.2.2.1.trans q8
      · rw [zk_up_eq, zk_up_eq, zk_up_ne (by decide), zk_up_ne (by decide)]; exact (q2.2.2.2.2.2 5 (by decide)).trans (qf 5 (by decide))
      · rw [zk_up_eq, zk_up_eq, zk_up_eq, zk_up_eq]
      · rw [zk_up_eq, zk_up_eq, zk_up_ne (by decide), zk_up_ne (by decide)]; exact (q2.2.2.2.2.2 10 (by decide)).trans (qf 10 (by decide))
  · have e : zu_ct (zu_h (M 6) k) k (M 1) = ((zu_p1 (zu_h (M 6) k) k (k + 1) 0 0).1, M 1) := by rw [zu_ct, if_neg hp1]
    refine zk_iload_n dX5_county_62 rfl ?_
    refine zk_bipush (v := -9) dX5_county_63 (by decide) ?_
    refine zk_icmp_ne (tgt := 128) dX5_county_65 (by decide) (fun _ => ?_) (fun q => absurd q hp1)
    have q2 : zs_q2 M2 M2 := zs_q2.rf
    generalize hM3 : M2 = M3 at q2 ⊢
    have g1 : M3 1 = M 1 := by rw [← hM3]; exact f1
    rw [hM3] at q3 q6 q7 q8 qf
    refine zk_aload_n dX5_county_128 rfl ?_
    refine zk_iconst dX5_county_129 zc_0 ?_
    refine zk_putG dX5_county_130 fl_X5_83 ft_5_9 rfl rfl (by decide : 0 < zm.1) rfl rfl ?_
    refine zk_iload_n dX5_county_133 rfl ?_
    refine zk_bipush dX5_county_134 zb_m9 ?_
    refine zk_icmp_ne (tgt := 143) dX5_county_136 (by decide) (fun _ => ?_) (fun h136 => absurd h136 (hp1))
    refine zk_iload_n dX5_county_143 rfl ?_
    refine zk_iret rfl dX5_county_144 ?_
    refine ⟨by rw [e], M3 1, by rw [e, g1]; exact zs_ag.rf, ?_⟩
    refine ⟨?_, ?_, ?_, ?_, ?_, ?_, ?_, ?_⟩
    · rw [zk_up_ne (by decide), zk_up_ne (by decide), zk_up_eq]
    · rw [zk_up_ne (by decide), zk_up_ne (by decide), zk_up_ne (by decide)]; exact q2.1.trans q3
    · rw [zk_up_ne (by decide), zk_up_ne (by decide), zk_up_ne (by decide)]; exact q2.2.2.1.trans q6
    · rw [zk_up_ne (by decide), zk_up_ne (by decide), zk_up_ne (by decide)]; exact q2.2.2.2.1.trans q7
    · rw [zk_up_ne (by decide), zk_up_ne (by decide), zk_up_ne (by decide)]; exact q2.2.2.2.2.1.trans q8
    · rw [zk_up_eq, zk_up_eq, zk_up_ne (by decide), zk_up_ne (by decide)]; exact (q2.2.2.2.2.2 5 (by decide)).trans (qf 5 (by decide))
    · rw [zk_up_eq, zk_up_eq, zk_up_eq, zk_up_eq]
    · rw [zk_up_eq, zk_up_eq, zk_up_ne (by decide), zk_up_ne (by decide)]; exact (q2.2.2.2.2.2 10 (by decide)).trans (qf 10 (by decide))
