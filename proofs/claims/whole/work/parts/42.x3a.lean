theorem zb_104 : (Int8.ofInt 104).toInt32 = (104 : Int32) := by decide +kernel
theorem zb_48 : (Int8.ofInt 48).toInt32 = (48 : Int32) := by decide +kernel
theorem zb_57 : (Int8.ofInt 57).toInt32 = (57 : Int32) := by decide +kernel
theorem zb_59 : (Int8.ofInt 59).toInt32 = (59 : Int32) := by decide +kernel
theorem zb_96 : (Int8.ofInt 96).toInt32 = (96 : Int32) := by decide +kernel
/-- the letters: k of them -/
def zs_S (M : zk_M) (k : Nat) : Prop := k ≤ 96 ∧ M 39 1 = nI k
def zs_sg (S : Nat → Int32) (k i : Nat) : Int32 := if i < k then S i else -9
def zs_lt (c : Int32) : Nat := if c = 97 then 3 else if c = 100 then 3 else if c = 104 then 6 else if c = 114 then 3 else if c = 115 then 2 else if c = 119 then 3 else 0
set_option maxRecDepth 100000 in
set_option maxHeartbeats 4000000 in
theorem qX3_isFull {l : Launch} {M : zk_M} {L : zk_L} {k : Nat} (hS : zs_S M k) : zk_C l zc 0 muX3_isFull [.ref 39] M L (zk_Ei (if 96 ≤ k then 1 else 0) M L) := by
  refine zk_ofR (ls := [some (.ref 39)]) (by decide) rfl (Nat.le_of_ble_eq_true rfl) rfl ?_
  refine zk_aload_n dX3_isFull_0 rfl ?_
  refine zk_getI dX3_isFull_1 fl_X3_15 (by decide : 39 < zc.1) rfl rfl ?_
  refine zk_bipush dX3_isFull_4 zb_96 ?_
  rw [hS.2]
  refine zk_icmp_lt (tgt := 13) dX3_isFull_6 (by decide) (fun h6 => ?_) (fun h6 => ?_)
  · have hk : ¬ 96 ≤ k := fun q => absurd h6 (nI_nlt (b := 96) q (by have := hS.1; omega))
    refine zk_iconst dX3_isFull_13 zc_0 ?_
    refine zk_zret rfl (by decide) dX3_isFull_14 ?_
    exact zk_Ei_of (by first | exact (if_pos hk).symm | exact (if_neg hk).symm) rfl rfl
  · have hk : 96 ≤ k := Nat.not_lt.mp (fun q => h6 (nI_lt (b := 96) q (by decide)))
    refine zk_iconst dX3_isFull_9 zc_1 ?_
    refine zk_goto (tgt := 14) dX3_isFull_10 (by decide) ?_
    refine zk_zret rfl (by decide) dX3_isFull_14 ?_
    exact zk_Ei_of (by first | exact (if_pos hk).symm | exact (if_neg hk).symm) rfl rfl
def zs_addM (M : zk_M) (k : Nat) (c : Int32) : zk_M := va_up (va_up M 40 (va_up (M 40) k c)) 39 (va_up (M 39) 1 (nI (k + 1)))
set_option maxRecDepth 100000 in
set_option maxHeartbeats 4000000 in
theorem qX3_add {l : Launch} {M : zk_M} {L : zk_L} {k : Nat} (hS : zs_S M k) (hk : k < 96) {c : Int32} : zk_C l zc 1 muX3_add [.ref 39, .int c] M L (zk_Ei (nI (k + 1)) (zs_addM M k c) L) := by
  refine zk_ofR (ls := [some (.ref 39), some (.int c)]) (by decide) rfl (Nat.le_of_ble_eq_true rfl) rfl ?_
  refine zk_aload_n dX3_add_0 rfl ?_
  refine zk_cVi (qX3_isFull hS) dX3_add_1 mwX3_isFull ml_X3_19 (by decide : 39 < zc.1) rfl rfl (by decide) rfl (Nat.le_of_ble_eq_true rfl) ?_
  refine zk_if_ne (tgt := 27) dX3_add_4 (by decide) (fun h4 => absurd (if_neg (by omega)) h4) (fun _ => ?_)
  refine zk_aload_n dX3_add_7 rfl ?_
  refine zk_getRc (q := 40) dX3_add_8 fl_X3_9 (by decide : 39 < zc.1) rfl rfl rfl ?_
  refine zk_aload_n dX3_add_11 rfl ?_
  refine zk_getI dX3_add_12 fl_X3_15 (by decide : 39 < zc.1) rfl rfl ?_
  refine zk_iload_n dX3_add_15 rfl ?_
  rw [hS.2]
  refine zk_iast (j := k) dX3_add_16 (by decide : 40 < zc.1) rfl (zs_in rfl (vp_in_nI hk (by decide))) (nI_clamp (by omega)) ?_
  refine zk_aload_n dX3_add_17 rfl ?_
  refine zk_dup dX3_add_18 rfl ?_
  refine zk_getI dX3_add_19 fl_X3_15 (by decide : 39 < zc.1) rfl rfl ?_
  rw [zk_up_ne (by decide), hS.2]
  refine zk_iconst dX3_add_22 zc_1 ?_
  refine zk_iadd dX3_add_23 ?_
  rw [← nI_succ]
  refine zk_putG dX3_add_24 fl_X3_15 ft_3_1 rfl rfl (by decide : 39 < zc.1) rfl rfl ?_
  refine zk_aload_n dX3_add_27 rfl ?_
  refine zk_getI dX3_add_28 fl_X3_15 (by decide : 39 < zc.1) rfl rfl ?_
  rw [zk_up_eq, zk_up_eq]
  refine zk_iret rfl dX3_add_31 ?_
  refine zk_Ei_of rfl ?_ rfl
  rw [zk_up_ne (show (39 : Nat) ≠ 40 by decide)]
  rfl
set_option maxRecDepth 100000 in
set_option maxHeartbeats 4000000 in
theorem qX3_forget {l : Launch} {M : zk_M} {L : zk_L}  : zk_C l zc 0 muX3_forget [.ref 39] M L (zk_Ev (va_up M 39 (va_up (M 39) 1 0)) L) := by
  refine zk_ofR (ls := [some (.ref 39)]) (by decide) rfl (Nat.le_of_ble_eq_true rfl) rfl ?_
  refine zk_aload_n dX3_forget_0 rfl ?_
  refine zk_iconst dX3_forget_1 zc_0 ?_
  refine zk_putG dX3_forget_2 fl_X3_15 ft_3_1 rfl rfl (by decide : 39 < zc.1) rfl rfl ?_
  refine zk_vret rfl dX3_forget_5 ?_
  exact ⟨rfl, rfl, rfl⟩
theorem zs_nI_lt_iff {i k : Nat} (hi : i < 2 ^ 31) (hk : k < 2 ^ 31) : (0 ≤ nI i ∧ nI i < nI k) ↔ i < k := ⟨fun h => by
  have := h.2
  rw [Int32.lt_iff_toInt_lt, nI_toInt hi, nI_toInt hk] at this
  omega, fun h => ⟨nI_pos' hi, nI_lt h hk⟩⟩
set_option maxRecDepth 100000 in
set_option maxHeartbeats 4000000 in
theorem qX3_signAt {l : Launch} {M : zk_M} {L : zk_L} {k : Nat} (hS : zs_S M k) {i : Nat} (hi : i < 2 ^ 31) : zk_C l zc 1 muX3_signAt [.ref 39, .int (nI i)] M L (zk_Ei (zs_sg (M 40) k i) M L) := by
  refine zk_ofR (ls := [some (.ref 39), some (.int (nI i))]) (by decide) rfl (Nat.le_of_ble_eq_true rfl) rfl ?_
  refine zk_iload_n dX3_signAt_0 rfl ?_
  refine zk_aload_n dX3_signAt_1 rfl ?_
  refine zk_getI dX3_signAt_2 fl_X3_15 (by decide : 39 < zc.1) rfl rfl ?_
  have hk96 := hS.1
  rw [hS.2]
  refine zk_cNi (qX4_isBelow) dX3_signAt_5 miX4_isBelow nl_X3_38 stX4_isBelow rfl (by decide) rfl (Nat.le_of_ble_eq_true rfl) ?_
  refine zk_if_eq (tgt := 26) dX3_signAt_8 (by decide) (fun h8 => ?_) (fun h8 => ?_)
  · have hb := zs_if0 h8
    refine zk_bipush dX3_signAt_26 zb_m9 ?_
    refine zk_iret rfl dX3_signAt_28 ?_
    exact zk_Ei_of (by first | exact (if_pos hik).symm | exact (if_neg (fun q => hb ((zs_nI_lt_iff hi (by omega)).mpr q))).symm) rfl rfl
  · have hb := zs_if1 h8
    have hik : i < k := (zs_nI_lt_iff hi (by omega)).mp hb
    have hi96 : i < 96 := by omega
    refine zk_iload_n dX3_signAt_11 rfl ?_
    refine zk_bipush dX3_signAt_12 zb_96 ?_
    refine zk_icmp_ge (tgt := 26) dX3_signAt_14 (by decide) (fun h14 => absurd h14 (nI_ge (b := 96) hi96 (by decide))) (fun _ => ?_)
    refine zk_aload_n dX3_signAt_17 rfl ?_
    refine zk_getRc (q := 40) dX3_signAt_18 fl_X3_9 (by decide : 39 < zc.1) rfl rfl rfl ?_
    refine zk_iload_n dX3_signAt_21 rfl ?_
    refine zk_iald (j := i) dX3_signAt_22 (by decide : 40 < zc.1) rfl (zs_in rfl (vp_in_nI hi96 (by decide))) (nI_clamp hi) ?_
    refine zk_goto (tgt := 28) dX3_signAt_23 (by decide) ?_
    refine zk_iret rfl dX3_signAt_28 ?_
    exact zk_Ei_of (by first | exact (if_pos hik).symm | exact (if_neg (fun q => hb ((zs_nI_lt_iff hi (by omega)).mpr q))).symm) rfl rfl
set_option maxRecDepth 100000 in
set_option maxHeartbeats 4000000 in
theorem qX3_digitAt {l : Launch} {M : zk_M} {L : zk_L} {k : Nat} (hS : zs_S M k) {i : Nat} (hi : i < 2 ^ 31) : zk_C l zc 2 muX3_digitAt [.ref 39, .int (nI i)] M L (zk_Ei (zs_sg (M 40) k i - 48) M L) := by
  refine zk_ofR (ls := [some (.ref 39), some (.int (nI i))]) (by decide) rfl (Nat.le_of_ble_eq_true rfl) rfl ?_
  refine zk_aload_n dX3_digitAt_0 rfl ?_
  refine zk_iload_n dX3_digitAt_1 rfl ?_
  refine zk_cVi (qX3_signAt hS hi) dX3_digitAt_2 mwX3_signAt ml_X3_31 (by decide : 39 < zc.1) rfl rfl (by decide) rfl (Nat.le_of_ble_eq_true rfl) ?_
  refine zk_bipush dX3_digitAt_5 zb_48 ?_
  refine zk_isub dX3_digitAt_7 ?_
  refine zk_iret rfl dX3_digitAt_8 ?_
  exact ⟨rfl, rfl, rfl⟩
set_option maxRecDepth 100000 in
set_option maxHeartbeats 4000000 in
theorem qX3_lettersOf {l : Launch} {σ : zk_Sh} {M : zk_M} {L : zk_L} {c : Int32} : zk_C l σ 0 muX3_lettersOf [.int c] M L (zk_Ei (nI (zs_lt c)) M L) := by
  refine zk_ofR (ls := [some (.int c)]) (by decide) rfl (Nat.le_of_ble_eq_true rfl) rfl ?_
  refine zk_iload_n dX3_lettersOf_0 rfl ?_
  by_cases hx97 : c = 97
  · rw [hx97]
    refine zk_lookup (off := 68) (tgt := 69) dX3_lettersOf_1 (by decide) (by decide) (by decide) ?_
    refine zk_iconst dX3_lettersOf_69 zc_3 ?_
    refine zk_iret rfl dX3_lettersOf_70 ?_
    exact zk_Ei_of (by first | rfl | (simp [zs_lt]; done) | (rw [show zs_lt c = 0 by simp [zs_lt, hx97, hx100, hx104, hx114, hx115, hx119]]; rfl)) rfl rfl
  by_cases hx100 : c = 100
  · rw [hx100]
    refine zk_lookup (off := 70) (tgt := 71) dX3_lettersOf_1 (by decide) (by decide) (by decide) ?_
    refine zk_iconst dX3_lettersOf_71 zc_3 ?_
    refine zk_iret rfl dX3_lettersOf_72 ?_
    exact zk_Ei_of (by first | rfl | (simp [zs_lt]; done) | (rw [show zs_lt c = 0 by simp [zs_lt, hx97, hx100, hx104, hx114, hx115, hx119]]; rfl)) rfl rfl
  by_cases hx104 : c = 104
  · rw [hx104]
    refine zk_lookup (off := 61) (tgt := 62) dX3_lettersOf_1 (by decide) (by decide) (by decide) ?_
    refine zk_bipush dX3_lettersOf_62 zb_6 ?_
    refine zk_iret rfl dX3_lettersOf_64 ?_
    exact zk_Ei_of (by first | rfl | (simp [zs_lt]; done) | (rw [show zs_lt c = 0 by simp [zs_lt, hx97, hx100, hx104, hx114, hx115, hx119]]; rfl)) rfl rfl
  by_cases hx114 : c = 114
  · rw [hx114]
    refine zk_lookup (off := 59) (tgt := 60) dX3_lettersOf_1 (by decide) (by decide) (by decide) ?_
    refine zk_iconst dX3_lettersOf_60 zc_3 ?_
    refine zk_iret rfl dX3_lettersOf_61 ?_
    exact zk_Ei_of (by first | rfl | (simp [zs_lt]; done) | (rw [show zs_lt c = 0 by simp [zs_lt, hx97, hx100, hx104, hx114, hx115, hx119]]; rfl)) rfl rfl
  by_cases hx115 : c = 115
  · rw [hx115]
    refine zk_lookup (off := 64) (tgt := 65) dX3_lettersOf_1 (by decide) (by decide) (by decide) ?_
    refine zk_iconst dX3_lettersOf_65 zc_2 ?_
    refine zk_iret rfl dX3_lettersOf_66 ?_
    exact zk_Ei_of (by first | rfl | (simp [zs_lt]; done) | (rw [show zs_lt c = 0 by simp [zs_lt, hx97, hx100, hx104, hx114, hx115, hx119]]; rfl)) rfl rfl
  by_cases hx119 : c = 119
  · rw [hx119]
    refine zk_lookup (off := 66) (tgt := 67) dX3_lettersOf_1 (by decide) (by decide) (by decide) ?_
    refine zk_iconst dX3_lettersOf_67 zc_3 ?_
    refine zk_iret rfl dX3_lettersOf_68 ?_
    exact zk_Ei_of (by first | rfl | (simp [zs_lt]; done) | (rw [show zs_lt c = 0 by simp [zs_lt, hx97, hx100, hx104, hx114, hx115, hx119]]; rfl)) rfl rfl
  refine zk_lookup (off := 72) (tgt := 73) dX3_lettersOf_1 (by decide) (by rw [lv_osw hx97 (by decide), lv_osw hx100 (by decide), lv_osw hx104 (by decide), lv_osw hx114 (by decide), lv_osw hx115 (by decide), lv_osw hx119 (by decide)]; rfl) (by decide) ?_
  refine zk_iconst dX3_lettersOf_73 zc_0 ?_
  refine zk_iret rfl dX3_lettersOf_74 ?_
  exact zk_Ei_of (by first | rfl | (simp [zs_lt]; done) | (rw [show zs_lt c = 0 by simp [zs_lt, hx97, hx100, hx104, hx114, hx115, hx119]]; rfl)) rfl rfl
def zs_fit (o c : Int32) (b : Nat) : Bool := if b = 0 then decide (0 < zs_lt o) else if b = zs_lt o then decide (c = 59) else if b = 1 ∧ o = 104 then decide (0 ≤ zs_kl c) else decide (48 ≤ c ∧ c ≤ 57)
theorem zs_lt_6 (c : Int32) : zs_lt c ≤ 6 := by
  unfold zs_lt
  repeat' split
  all_goals decide
theorem zs_fit_0 {o c : Int32} {b : Nat} (h0 : b = 0) : zs_fit o c b = true ↔ 0 < zs_lt o := by rw [zs_fit, if_pos h0, decide_eq_true_eq]
theorem zs_fit_l {o c : Int32} {b : Nat} (h0 : ¬ b = 0) (hl : b = zs_lt o) : zs_fit o c b = true ↔ c = 59 := by rw [zs_fit, if_neg h0, if_pos hl, decide_eq_true_eq]
theorem zs_fit_k {o c : Int32} {b : Nat} (h0 : ¬ b = 0) (hl : ¬ b = zs_lt o) (hk : b = 1 ∧ o = 104) : zs_fit o c b = true ↔ 0 ≤ zs_kl c := by rw [zs_fit, if_neg h0, if_neg hl, if_pos hk, decide_eq_true_eq]
theorem zs_fit_d {o c : Int32} {b : Nat} (h0 : ¬ b = 0) (hl : ¬ b = zs_lt o) (hk : ¬ (b = 1 ∧ o = 104)) : zs_fit o c b = true ↔ (48 ≤ c ∧ c ≤ 57) := by rw [zs_fit, if_neg h0, if_neg hl, if_neg hk, decide_eq_true_eq]
theorem zs_nI_sub {a b : Nat} (h : b ≤ a) (ha : a < 2 ^ 31) : nI a - nI b = nI (a - b) := by
  rw [← Int32.toInt_inj, Kit.i32_sub (by rw [nI_toInt ha, nI_toInt (by omega)]; omega) (by rw [nI_toInt ha, nI_toInt (by omega)]; omega), nI_toInt ha, nI_toInt (by omega), nI_toInt (by omega)]
  omega
set_option maxRecDepth 100000 in
set_option maxHeartbeats 4000000 in
theorem qX3_fits {l : Launch} {M : zk_M} {L : zk_L} {k : Nat} (hS : zs_S M k) {s i : Nat} (hsi : s ≤ i) (hi : i < 2 ^ 31) : zk_C l zc 2 muX3_fits [.ref 39, .int (nI s), .int (nI i)] M L (zk_Ei (if zs_fit (zs_sg (M 40) k s) (zs_sg (M 40) k i) (i - s) = true then 1 else 0) M L) := by
  refine zk_ofR (ls := [some (.ref 39), some (.int (nI s)), some (.int (nI i)), none, none, none]) (by decide) rfl (Nat.le_of_ble_eq_true rfl) rfl ?_
  refine zk_aload_n dX3_fits_0 rfl ?_
  refine zk_iload_n dX3_fits_1 rfl ?_
  refine zk_cVi (qX3_signAt hS (by omega)) dX3_fits_2 mwX3_signAt ml_X3_31 (by decide : 39 < zc.1) rfl rfl (by decide) rfl (Nat.le_of_ble_eq_true rfl) ?_
  refine zk_istore_n dX3_fits_5 zk_S_3 ?_
  refine zk_aload_n dX3_fits_6 rfl ?_
  refine zk_iload_n dX3_fits_7 rfl ?_
  refine zk_cVi (qX3_signAt hS hi) dX3_fits_8 mwX3_signAt ml_X3_31 (by decide : 39 < zc.1) rfl rfl (by decide) rfl (Nat.le_of_ble_eq_true rfl) ?_
  refine zk_istore dX3_fits_11 zk_S_4 ?_
  refine zk_iload_n dX3_fits_13 rfl ?_
  refine zk_iload_n dX3_fits_14 rfl ?_
  refine zk_isub dX3_fits_15 ?_
  rw [zs_nI_sub hsi hi]
  have hl6 := zs_lt_6 (zs_sg (M 40) k s)
  refine zk_istore dX3_fits_16 zk_S_5 ?_
  refine zk_iload dX3_fits_18 rfl ?_
  refine zk_if_ne (tgt := 36) dX3_fits_20 (by decide) (fun h20 => ?_) (fun h20 => ?_)
  · have hb0 : ¬ i - s = 0 := fun q => h20 (by rw [q]; rfl)
    refine zk_iload dX3_fits_36 rfl ?_
    refine zk_iload_n dX3_fits_38 rfl ?_
    refine zk_cSi (qX3_lettersOf) dX3_fits_39 miX3_lettersOf ml_X3_35 stX3_lettersOf rfl (by decide) rfl (Nat.le_of_ble_eq_true rfl) ?_
    refine zk_icmp_ne (tgt := 58) dX3_fits_42 (by decide) (fun h42 => ?_) (fun h42 => ?_)
    · have hbl : ¬ i - s = zs_lt (zs_sg (M 40) k s) := fun q => h42 (by rw [q])
      refine zk_iload dX3_fits_58 rfl ?_
      refine zk_iconst dX3_fits_60 zc_1 ?_
      refine zk_icmp_ne (tgt := 84) dX3_fits_61 (by decide) (fun h61 => ?_) (fun h61 => ?_)
      · have hb1 : ¬ i - s = 1 := fun q => h61 (by rw [q]; rfl)
        have hnk : ¬ (i - s = 1 ∧ zs_sg (M 40) k s = 104) := fun q => hb1 q.1
        refine zk_iload dX3_fits_84 rfl ?_
        refine zk_bipush dX3_fits_86 zb_48 ?_
        refine zk_icmp_lt (tgt := 102) dX3_fits_88 (by decide) (fun h88 => ?_) (fun h88 => ?_)
        · refine zk_iconst dX3_fits_102 zc_0 ?_
          refine zk_zret rfl (by decide) dX3_fits_103 ?_
          exact zk_Ei_of (by first | exact (if_pos ((zs_fit_d hb0 hbl hnk).mpr ⟨Int32.not_lt.mp h88, Int32.not_lt.mp h95⟩)).symm | exact (if_neg (fun q => absurd ((zs_fit_d hb0 hbl hnk).mp q).1 (Int32.not_le.mpr h88))).symm | exact (if_neg (fun q => absurd ((zs_fit_d hb0 hbl hnk).mp q).2 (Int32.not_le.mpr h95))).symm) rfl rfl
        · refine zk_iload dX3_fits_91 rfl ?_
          refine zk_bipush dX3_fits_93 zb_57 ?_
          refine zk_icmp_gt (tgt := 102) dX3_fits_95 (by decide) (fun h95 => ?_) (fun h95 => ?_)
          · refine zk_iconst dX3_fits_102 zc_0 ?_
            refine zk_zret rfl (by decide) dX3_fits_103 ?_
            exact zk_Ei_of (by first | exact (if_pos ((zs_fit_d hb0 hbl hnk).mpr ⟨Int32.not_lt.mp h88, Int32.not_lt.mp h95⟩)).symm | exact (if_neg (fun q => absurd ((zs_fit_d hb0 hbl hnk).mp q).1 (Int32.not_le.mpr h88))).symm | exact (if_neg (fun q => absurd ((zs_fit_d hb0 hbl hnk).mp q).2 (Int32.not_le.mpr h95))).symm) rfl rfl
          · refine zk_iconst dX3_fits_98 zc_1 ?_
            refine zk_goto (tgt := 103) dX3_fits_99 (by decide) ?_
            refine zk_zret rfl (by decide) dX3_fits_103 ?_
            exact zk_Ei_of (by first | exact (if_pos ((zs_fit_d hb0 hbl hnk).mpr ⟨Int32.not_lt.mp h88, Int32.not_lt.mp h95⟩)).symm | exact (if_neg (fun q => absurd ((zs_fit_d hb0 hbl hnk).mp q).1 (Int32.not_le.mpr h88))).symm | exact (if_neg (fun q => absurd ((zs_fit_d hb0 hbl hnk).mp q).2 (Int32.not_le.mpr h95))).symm) rfl rfl
      · have hb1 : i - s = 1 := zs_nI_inj (by omega) (by omega) h61
        refine zk_iload_n dX3_fits_64 rfl ?_
        refine zk_bipush dX3_fits_65 zb_104 ?_
        refine zk_icmp_ne (tgt := 84) dX3_fits_67 (by decide) (fun h67 => ?_) (fun h67 => ?_)
        · have hnk : ¬ (i - s = 1 ∧ zs_sg (M 40) k s = 104) := fun q => h67 q.2
          refine zk_iload dX3_fits_84 rfl ?_
          refine zk_bipush dX3_fits_86 zb_48 ?_
          refine zk_icmp_lt (tgt := 102) dX3_fits_88 (by decide) (fun h88 => ?_) (fun h88 => ?_)
          · refine zk_iconst dX3_fits_102 zc_0 ?_
            refine zk_zret rfl (by decide) dX3_fits_103 ?_
            exact zk_Ei_of (by first | exact (if_pos ((zs_fit_d hb0 hbl hnk).mpr ⟨Int32.not_lt.mp h88, Int32.not_lt.mp h95⟩)).symm | exact (if_neg (fun q => absurd ((zs_fit_d hb0 hbl hnk).mp q).1 (Int32.not_le.mpr h88))).symm | exact (if_neg (fun q => absurd ((zs_fit_d hb0 hbl hnk).mp q).2 (Int32.not_le.mpr h95))).symm) rfl rfl
          · refine zk_iload dX3_fits_91 rfl ?_
            refine zk_bipush dX3_fits_93 zb_57 ?_
            refine zk_icmp_gt (tgt := 102) dX3_fits_95 (by decide) (fun h95 => ?_) (fun h95 => ?_)
            · refine zk_iconst dX3_fits_102 zc_0 ?_
              refine zk_zret rfl (by decide) dX3_fits_103 ?_
              exact zk_Ei_of (by first | exact (if_pos ((zs_fit_d hb0 hbl hnk).mpr ⟨Int32.not_lt.mp h88, Int32.not_lt.mp h95⟩)).symm | exact (if_neg (fun q => absurd ((zs_fit_d hb0 hbl hnk).mp q).1 (Int32.not_le.mpr h88))).symm | exact (if_neg (fun q => absurd ((zs_fit_d hb0 hbl hnk).mp q).2 (Int32.not_le.mpr h95))).symm) rfl rfl
            · refine zk_iconst dX3_fits_98 zc_1 ?_
              refine zk_goto (tgt := 103) dX3_fits_99 (by decide) ?_
              refine zk_zret rfl (by decide) dX3_fits_103 ?_
              exact zk_Ei_of (by first | exact (if_pos ((zs_fit_d hb0 hbl hnk).mpr ⟨Int32.not_lt.mp h88, Int32.not_lt.mp h95⟩)).symm | exact (if_neg (fun q => absurd ((zs_fit_d hb0 hbl hnk).mp q).1 (Int32.not_le.mpr h88))).symm | exact (if_neg (fun q => absurd ((zs_fit_d hb0 hbl hnk).mp q).2 (Int32.not_le.mpr h95))).symm) rfl rfl
        · refine zk_iload dX3_fits_70 rfl ?_
          refine zk_cNi (qX4_kindOfLetter) dX3_fits_72 miX4_kindOfLetter nl_X3_45 stX4_kindOfLetter rfl (by decide) rfl (Nat.le_of_ble_eq_true rfl) ?_
          refine zk_if_lt (tgt := 82) dX3_fits_75 (by decide) (fun h75 => ?_) (fun h75 => ?_)
          · refine zk_iconst dX3_fits_82 zc_0 ?_
            refine zk_zret rfl (by decide) dX3_fits_83 ?_
            exact zk_Ei_of (by first | exact (if_pos ((zs_fit_k hb0 hbl ⟨hb1, h67⟩).mpr (Int32.not_lt.mp h75))).symm | exact (if_neg (fun q => absurd ((zs_fit_k hb0 hbl ⟨hb1, h67⟩).mp q) (Int32.not_le.mpr h75))).symm) rfl rfl
          · refine zk_iconst dX3_fits_78 zc_1 ?_
            refine zk_goto (tgt := 83) dX3_fits_79 (by decide) ?_
            refine zk_zret rfl (by decide) dX3_fits_83 ?_
            exact zk_Ei_of (by first | exact (if_pos ((zs_fit_k hb0 hbl ⟨hb1, h67⟩).mpr (Int32.not_lt.mp h75))).symm | exact (if_neg (fun q => absurd ((zs_fit_k hb0 hbl ⟨hb1, h67⟩).mp q) (Int32.not_le.mpr h75))).symm) rfl rfl
    · have hbl : i - s = zs_lt (zs_sg (M 40) k s) := zs_nI_inj (by omega) (by omega) h42
      refine zk_iload dX3_fits_45 rfl ?_
      refine zk_bipush dX3_fits_47 zb_59 ?_
      refine zk_icmp_ne (tgt := 56) dX3_fits_49 (by decide) (fun h49 => ?_) (fun h49 => ?_)
      · refine zk_iconst dX3_fits_56 zc_0 ?_
        refine zk_zret rfl (by decide) dX3_fits_57 ?_
        exact zk_Ei_of (by first | exact (if_pos ((zs_fit_l hb0 hbl).mpr h49)).symm | exact (if_neg (fun q => h49 ((zs_fit_l hb0 hbl).mp q))).symm) rfl rfl
      · refine zk_iconst dX3_fits_52 zc_1 ?_
        refine zk_goto (tgt := 57) dX3_fits_53 (by decide) ?_
        refine zk_zret rfl (by decide) dX3_fits_57 ?_
        exact zk_Ei_of (by first | exact (if_pos ((zs_fit_l hb0 hbl).mpr h49)).symm | exact (if_neg (fun q => h49 ((zs_fit_l hb0 hbl).mp q))).symm) rfl rfl
  · have hb0 : i - s = 0 := zs_nI_inj (by omega) (by omega) h20
    refine zk_iload_n dX3_fits_23 rfl ?_
    refine zk_cSi (qX3_lettersOf) dX3_fits_24 miX3_lettersOf ml_X3_35 stX3_lettersOf rfl (by decide) rfl (Nat.le_of_ble_eq_true rfl) ?_
    refine zk_if_le (tgt := 34) dX3_fits_27 (by decide) (fun h27 => ?_) (fun h27 => ?_)
    · have hl : ¬ 0 < zs_lt (zs_sg (M 40) k s) := fun q => absurd h27 (Int32.not_le.mpr (nI_lt (a := 0) q (by omega)))
      refine zk_iconst dX3_fits_34 zc_0 ?_
      refine zk_zret rfl (by decide) dX3_fits_35 ?_
      exact zk_Ei_of (by first | exact (if_pos ((zs_fit_0 hb0).mpr hl)).symm | exact (if_neg (fun q => hl ((zs_fit_0 hb0).mp q))).symm) rfl rfl
    · have hl : 0 < zs_lt (zs_sg (M 40) k s) := Nat.not_le.mp (fun q => h27 (nI_le (b := 0) q (by decide)))
      refine zk_iconst dX3_fits_30 zc_1 ?_
      refine zk_goto (tgt := 35) dX3_fits_31 (by decide) ?_
      refine zk_zret rfl (by decide) dX3_fits_35 ?_
      exact zk_Ei_of (by first | exact (if_pos ((zs_fit_0 hb0).mpr hl)).symm | exact (if_neg (fun q => hl ((zs_fit_0 hb0).mp q))).symm) rfl rfl
def zs_fu (S : Nat → Int32) (k : Nat) : Nat → Nat → Nat → Int32
  | 0, _, s => if 0 < k ∧ s = k then -9 else nI k
  | m + 1, i, s => if zs_fit (zs_sg S k s) (zs_sg S k i) (i - s) = true then zs_fu S k m (i + 1) (if zs_sg S k i = 59 then i + 1 else s) else nI i
set_option maxRecDepth 100000 in
set_option maxHeartbeats 4000000 in
theorem lX3_fu {l : Launch} {M : zk_M} {L : zk_L} {k : Nat} (hS : zs_S M k) {v : Int32} : ∀ (m i s : Nat), i + m = k → s ≤ i → v = zs_fu (M 40) k m i s → zk_R l zc 3 muX3_firstUnfit 4 [some (.ref 39), some (.int (nI s)), some (.int (nI i))] [] M L (zk_Ei v M L) := by
  have hk96 := hS.1
  intro m
  induction m with
  | zero =>
    intro i s hi hsi ek
    obtain rfl : i = k := by omega
    refine zk_iload_n dX3_firstUnfit_4 rfl ?_
    refine zk_aload_n dX3_firstUnfit_5 rfl ?_
    refine zk_getI dX3_firstUnfit_6 fl_X3_15 (by decide) rfl rfl ?_
    rw [hS.2]
    refine zk_icmp_ge (tgt := 43) dX3_firstUnfit_9 (by decide) (fun _ => ?_) (fun q => absurd (nI_le (Nat.le_refl _) (by omega)) q)
    refine zk_aload_n dX3_firstUnfit_43 rfl ?_
    refine zk_getI dX3_firstUnfit_44 fl_X3_15 (by decide : 39 < zc.1) rfl rfl ?_
    rw [hS.2]
    refine zk_if_le (tgt := 63) dX3_firstUnfit_47 (by decide) (fun h47 => ?_) (fun h47 => ?_)
    · have hk0 : ¬ 0 < i := fun q => absurd h47 (Int32.not_le.mpr (nI_lt (a := 0) q (by omega)))
      refine zk_aload_n dX3_firstUnfit_63 rfl ?_
      refine zk_getI dX3_firstUnfit_64 fl_X3_15 (by decide : 39 < zc.1) rfl rfl ?_
      rw [hS.2]
      refine zk_iret rfl dX3_firstUnfit_67 ?_
      exact zk_Ei_of (by rw [ek]; first | exact (if_pos ⟨hk0, hsk⟩).symm | exact (if_neg (fun q => hk0 q.1)).symm | exact (if_neg (fun q => hsk q.2)).symm) rfl rfl
    · have hk0 : 0 < i := Nat.not_le.mp (fun q => h47 (nI_le (b := 0) q (by decide)))
      refine zk_iload_n dX3_firstUnfit_50 rfl ?_
      refine zk_aload_n dX3_firstUnfit_51 rfl ?_
      refine zk_getI dX3_firstUnfit_52 fl_X3_15 (by decide : 39 < zc.1) rfl rfl ?_
      rw [hS.2]
      refine zk_icmp_ne (tgt := 63) dX3_firstUnfit_55 (by decide) (fun h55 => ?_) (fun h55 => ?_)
      · have hsk : ¬ s = i := fun q => h55 (by rw [q])
        refine zk_aload_n dX3_firstUnfit_63 rfl ?_
        refine zk_getI dX3_firstUnfit_64 fl_X3_15 (by decide : 39 < zc.1) rfl rfl ?_
        rw [hS.2]
        refine zk_iret rfl dX3_firstUnfit_67 ?_
        exact zk_Ei_of (by rw [ek]; first | exact (if_pos ⟨hk0, hsk⟩).symm | exact (if_neg (fun q => hk0 q.1)).symm | exact (if_neg (fun q => hsk q.2)).symm) rfl rfl
      · have hsk : s = i := zs_nI_inj (by omega) (by omega) h55
        refine zk_bipush dX3_firstUnfit_58 zb_m9 ?_
        refine zk_goto (tgt := 67) dX3_firstUnfit_60 (by decide) ?_
        refine zk_iret rfl dX3_firstUnfit_67 ?_
        exact zk_Ei_of (by rw [ek]; first | exact (if_pos ⟨hk0, hsk⟩).symm | exact (if_neg (fun q => hk0 q.1)).symm | exact (if_neg (fun q => hsk q.2)).symm) rfl rfl
  | succ m ih =>
    intro i s hi hsi ek
    have hik : i < k := by omega
    refine zk_iload_n dX3_firstUnfit_4 rfl ?_
    refine zk_aload_n dX3_firstUnfit_5 rfl ?_
    refine zk_getI dX3_firstUnfit_6 fl_X3_15 (by decide : 39 < zc.1) rfl rfl ?_
    rw [hS.2]
    refine zk_icmp_ge (tgt := 43) dX3_firstUnfit_9 (by decide) (fun h9 => absurd h9 (nI_ge hik (by omega))) (fun _ => ?_)
    refine zk_aload_n dX3_firstUnfit_12 rfl ?_
    refine zk_iload_n dX3_firstUnfit_13 rfl ?_
    refine zk_iload_n dX3_firstUnfit_14 rfl ?_
    refine zk_cVi (qX3_fits hS hsi (by omega)) dX3_firstUnfit_15 mwX3_fits ml_X3_42 (by decide : 39 < zc.1) rfl rfl (by decide) rfl (Nat.le_of_ble_eq_true rfl) ?_
    refine zk_if_ne (tgt := 23) dX3_firstUnfit_18 (by decide) (fun h18 => ?_) (fun h18 => ?_)
    · have hf := zs_if1 h18
      refine zk_aload_n dX3_firstUnfit_23 rfl ?_
      refine zk_iload_n dX3_firstUnfit_24 rfl ?_
      refine zk_cVi (qX3_signAt hS (by omega)) dX3_firstUnfit_25 mwX3_signAt ml_X3_31 (by decide : 39 < zc.1) rfl rfl (by decide) rfl (Nat.le_of_ble_eq_true rfl) ?_
      refine zk_bipush dX3_firstUnfit_28 zb_59 ?_
      refine zk_icmp_ne (tgt := 37) dX3_firstUnfit_30 (by decide) (fun h30 => ?_) (fun h30 => ?_)
      · refine zk_iinc dX3_firstUnfit_37 zc_1 rfl zk_S_2 ?_
        refine zk_goto (tgt := 4) dX3_firstUnfit_40 (by decide) ?_
        rw [← nI_succ]
        first
          | exact ih (i + 1) (i + 1) (by omega) (by omega) (by rw [ek, zs_fu, if_pos hf, if_pos h30])
          | exact ih (i + 1) s (by omega) (by omega) (by rw [ek, zs_fu, if_pos hf, if_neg h30])
      · refine zk_iload_n dX3_firstUnfit_33 rfl ?_
        refine zk_iconst dX3_firstUnfit_34 zc_1 ?_
        refine zk_iadd dX3_firstUnfit_35 ?_
        refine zk_istore_n dX3_firstUnfit_36 zk_S_1 ?_
        refine zk_iinc dX3_firstUnfit_37 zc_1 rfl zk_S_2 ?_
        refine zk_goto (tgt := 4) dX3_firstUnfit_40 (by decide) ?_
        rw [← nI_succ]
        first
          | exact ih (i + 1) (i + 1) (by omega) (by omega) (by rw [ek, zs_fu, if_pos hf, if_pos h30])
          | exact ih (i + 1) s (by omega) (by omega) (by rw [ek, zs_fu, if_pos hf, if_neg h30])
    · have hf := zs_if0 h18
      refine zk_iload_n dX3_firstUnfit_21 rfl ?_
      refine zk_iret rfl dX3_firstUnfit_22 ?_
      exact zk_Ei_of (by rw [ek, zs_fu, if_neg hf]) rfl rfl
set_option maxRecDepth 100000 in
set_option maxHeartbeats 4000000 in
theorem qX3_firstUnfit {l : Launch} {M : zk_M} {L : zk_L} {k : Nat} (hS : zs_S M k) : zk_C l zc 3 muX3_firstUnfit [.ref 39] M L (zk_Ei (zs_fu (M 40) k k 0 0) M L) := by
  refine zk_ofR (ls := [some (.ref 39), none, none]) (by decide) rfl (Nat.le_of_ble_eq_true rfl) rfl ?_
  refine zk_iconst dX3_firstUnfit_0 zc_0 ?_
  refine zk_istore_n dX3_firstUnfit_1 zk_S_1 ?_
  refine zk_iconst dX3_firstUnfit_2 zc_0 ?_
  refine zk_istore_n dX3_firstUnfit_3 zk_S_2 ?_
  exact lX3_fu hS k 0 0 (by omega) (by omega) rfl
