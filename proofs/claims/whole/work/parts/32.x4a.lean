theorem zb_10 : (Int8.ofInt 10).toInt32 = (10 : Int32) := by decide +kernel
theorem zb_m2 : (Int8.ofInt (-2)).toInt32 = (-2 : Int32) := by decide +kernel
theorem zc_m1 : Int32.ofInt (-1) = (-1 : Int32) := by decide +kernel
set_option maxRecDepth 100000 in
set_option maxHeartbeats 4000000 in
theorem qX4_steps_r {l : Launch} {M : zk_M} {L : zk_L} {a b : Int32} (hn : ¬ (zs_p a ∧ zs_p b)) : zk_C l zc 1 muX4_steps [.ref 0, .int a, .int b] M L (zq_i (-1) (zs_ref M 1)) := by
  refine zk_ofR (ls := [some (.ref 0), some (.int a), some (.int b)]) (by decide) rfl (Nat.le_of_ble_eq_true rfl) rfl ?_
  refine zk_iload_n dX4_steps_0 rfl ?_
  refine zk_cSi (qX4_isPlace) dX4_steps_1 miX4_isPlace ml_X4_119 stX4_isPlace rfl (by decide) rfl (Nat.le_of_ble_eq_true rfl) ?_
  refine zk_if_eq (tgt := 14) dX4_steps_4 (by decide) (fun h4 => ?_) (fun h4 => ?_)
  · have ha := zs_if0 h4
    refine zk_aload_n dX4_steps_14 rfl ?_
    refine zk_iconst dX4_steps_15 zc_m1 ?_
    refine zk_cVi (qrf1) dX4_steps_16 mwX4_refuse ml_X4_63 (by decide : 0 < zc.1) rfl rfl (by decide) rfl (Nat.le_of_ble_eq_true rfl) ?_
    refine zk_iret rfl dX4_steps_19 ?_
    exact ⟨rfl, zs_same.rf⟩
  · have ha := zs_if1 h4
    refine zk_iload_n dX4_steps_7 rfl ?_
    refine zk_cSi (qX4_isPlace) dX4_steps_8 miX4_isPlace ml_X4_119 stX4_isPlace rfl (by decide) rfl (Nat.le_of_ble_eq_true rfl) ?_
    refine zk_if_ne (tgt := 20) dX4_steps_11 (by decide) (fun h11 => ?_) (fun h11 => ?_)
    · have hb := zs_if1 h11
      exact absurd ⟨ha, hb⟩ hn
    · have hb := zs_if0 h11
      refine zk_aload_n dX4_steps_14 rfl ?_
      refine zk_iconst dX4_steps_15 zc_m1 ?_
      refine zk_cVi (qrf1) dX4_steps_16 mwX4_refuse ml_X4_63 (by decide : 0 < zc.1) rfl rfl (by decide) rfl (Nat.le_of_ble_eq_true rfl) ?_
      refine zk_iret rfl dX4_steps_19 ?_
      exact ⟨rfl, zs_same.rf⟩
theorem q2_steps {l : Launch} {M : zk_M} {L : zk_L} {a b : Int32} (ha : zs_p a) (hb : zs_p b) : zk_C l zc 0 muX2_stepsBetween [.ref 2, .int a, .int b] M L (zk_Ei (M 4 (a * 8 + b).toNatClampNeg) M L) := qX2_stepsBetween zc_r2 ha hb
set_option maxRecDepth 100000 in
set_option maxHeartbeats 4000000 in
theorem qX4_steps_t {l : Launch} {M : zk_M} {L : zk_L} {a b : Int32} (ha : zs_p a) (hb : zs_p b) : zk_C l zc 1 muX4_steps [.ref 0, .int a, .int b] M L (zq_i (M 4 (a * 8 + b).toNatClampNeg) M) := by
  refine zk_ofR (ls := [some (.ref 0), some (.int a), some (.int b)]) (by decide) rfl (Nat.le_of_ble_eq_true rfl) rfl ?_
  refine zk_iload_n dX4_steps_0 rfl ?_
  refine zk_cSi (qX4_isPlace_t ha) dX4_steps_1 miX4_isPlace ml_X4_119 stX4_isPlace rfl (by decide) rfl (Nat.le_of_ble_eq_true rfl) ?_
  refine zk_if_eq (tgt := 14) dX4_steps_4 (by decide) (fun h4 => absurd h4 (by decide)) (fun _ => ?_)
  refine zk_iload_n dX4_steps_7 rfl ?_
  refine zk_cSi (qX4_isPlace_t hb) dX4_steps_8 miX4_isPlace ml_X4_119 stX4_isPlace rfl (by decide) rfl (Nat.le_of_ble_eq_true rfl) ?_
  refine zk_if_ne (tgt := 20) dX4_steps_11 (by decide) (fun _ => ?_) (fun h11 => absurd h11 (by decide))
  refine zk_aload_n dX4_steps_20 rfl ?_
  refine zk_getRc (q := 1) dX4_steps_21 fl_X4_12 (by decide : 0 < zc.1) rfl rfl rfl ?_
  refine zk_getRc (q := 2) dX4_steps_24 fl_X4_122 (by decide : 1 < zc.1) rfl rfl rfl ?_
  refine zk_iload_n dX4_steps_27 rfl ?_
  refine zk_iload_n dX4_steps_28 rfl ?_
  refine zk_cVi (q2_steps ha hb) dX4_steps_29 mwX2_stepsBetween ml_X4_125 (by decide : 2 < zc.1) rfl rfl (by decide) rfl (Nat.le_of_ble_eq_true rfl) ?_
  refine zk_iret rfl dX4_steps_32 ?_
  exact ⟨rfl, zs_same.rf⟩
theorem q6_pullOf {l : Launch} {M : zk_M} {L : zk_L} {p : Nat} (hp : p < 6) (ok : zs_ok (M (6 + p))) {a : Int32} (ha : zs_p a) : zk_C l zc 1 muX1_pullOf [.ref (6 + p), .ref 2, .int a] M L (zk_Ei (zs_pull (M 4) (M (6 + p)) a) M L) := qX1_pullOf (zc_h6 hp) zc_r2 ha ok.1 ok.2.1
set_option maxRecDepth 100000 in
set_option maxHeartbeats 4000000 in
theorem qX4_pulls_r {l : Launch} {M : zk_M} {L : zk_L} {n : Nat} (hI : zs_I M n) {r x : Int32} (hn : ¬ (zs_isr (M 1 2) r ∧ zs_p x)) : zk_C l zc 2 muX4_pulls [.ref 0, .int r, .int x] M L (zq_i (-1) (zs_ref M 1)) := by
  refine zk_ofR (ls := [some (.ref 0), some (.int r), some (.int x)]) (by decide) rfl (Nat.le_of_ble_eq_true rfl) rfl ?_
  refine zk_aload_n dX4_pulls_0 rfl ?_
  refine zk_getRc (q := 1) dX4_pulls_1 fl_X4_12 (by decide : 0 < zc.1) rfl rfl rfl ?_
  refine zk_iload_n dX4_pulls_4 rfl ?_
  refine zk_cVi (q1_hasRider hI) dX4_pulls_5 mwX0_hasRider ml_X4_85 (by decide : 1 < zc.1) rfl rfl (by decide) rfl (Nat.le_of_ble_eq_true rfl) ?_
  refine zk_if_eq (tgt := 18) dX4_pulls_8 (by decide) (fun h8 => ?_) (fun h8 => ?_)
  · have hr := zs_if0 h8
    refine zk_aload_n dX4_pulls_18 rfl ?_
    refine zk_iconst dX4_pulls_19 zc_m1 ?_
    refine zk_cVi (qrf1) dX4_pulls_20 mwX4_refuse ml_X4_63 (by decide : 0 < zc.1) rfl rfl (by decide) rfl (Nat.le_of_ble_eq_true rfl) ?_
    refine zk_iret rfl dX4_pulls_23 ?_
    exact ⟨rfl, zs_same.rf⟩
  · have hr := zs_if1 h8
    refine zk_iload_n dX4_pulls_11 rfl ?_
    refine zk_cSi (qX4_isPlace) dX4_pulls_12 miX4_isPlace ml_X4_119 stX4_isPlace rfl (by decide) rfl (Nat.le_of_ble_eq_true rfl) ?_
    refine zk_if_ne (tgt := 24) dX4_pulls_15 (by decide) (fun h15 => ?_) (fun h15 => ?_)
    · have hx := zs_if1 h15
      exact absurd ⟨hr, hx⟩ hn
    · have hx := zs_if0 h15
      refine zk_aload_n dX4_pulls_18 rfl ?_
      refine zk_iconst dX4_pulls_19 zc_m1 ?_
      refine zk_cVi (qrf1) dX4_pulls_20 mwX4_refuse ml_X4_63 (by decide : 0 < zc.1) rfl rfl (by decide) rfl (Nat.le_of_ble_eq_true rfl) ?_
      refine zk_iret rfl dX4_pulls_23 ?_
      exact ⟨rfl, zs_same.rf⟩
set_option maxRecDepth 100000 in
set_option maxHeartbeats 4000000 in
theorem qX4_pulls_t {l : Launch} {M : zk_M} {L : zk_L} {n : Nat} (hI : zs_I M n) {p : Nat} (hp : p < n) {x : Int32} (hx : zs_p x) : zk_C l zc 2 muX4_pulls [.ref 0, .int (nI p), .int x] M L (zq_i (zs_pull (M 4) (M (6 + p)) x) M) := by
  refine zk_ofR (ls := [some (.ref 0), some (.int (nI p)), some (.int x)]) (by decide) rfl (Nat.le_of_ble_eq_true rfl) rfl ?_
  have hp6 : p < 6 := Nat.lt_of_lt_of_le hp hI.1
  refine zk_aload_n dX4_pulls_0 rfl ?_
  refine zk_getRc (q := 1) dX4_pulls_1 fl_X4_12 (by decide : 0 < zc.1) rfl rfl rfl ?_
  refine zk_iload_n dX4_pulls_4 rfl ?_
  refine zk_cVi (q1_hasRider_t hI hp) dX4_pulls_5 mwX0_hasRider ml_X4_85 (by decide : 1 < zc.1) rfl rfl (by decide) rfl (Nat.le_of_ble_eq_true rfl) ?_
  refine zk_if_eq (tgt := 18) dX4_pulls_8 (by decide) (fun h8 => absurd h8 (by decide)) (fun _ => ?_)
  refine zk_iload_n dX4_pulls_11 rfl ?_
  refine zk_cSi (qX4_isPlace_t hx) dX4_pulls_12 miX4_isPlace ml_X4_119 stX4_isPlace rfl (by decide) rfl (Nat.le_of_ble_eq_true rfl) ?_
  refine zk_if_ne (tgt := 24) dX4_pulls_15 (by decide) (fun _ => ?_) (fun h15 => absurd h15 (by decide))
  refine zk_aload_n dX4_pulls_24 rfl ?_
  refine zk_getRc (q := 1) dX4_pulls_25 fl_X4_12 (by decide : 0 < zc.1) rfl rfl rfl ?_
  refine zk_getRc (q := 5) dX4_pulls_28 fl_X4_89 (by decide : 1 < zc.1) rfl rfl rfl ?_
  refine zk_iload_n dX4_pulls_31 rfl ?_
  refine zk_aald (j := p) (q := (6 + p)) dX4_pulls_32 (by decide : 5 < zc.1) rfl (zs_in rfl (vp_in_nI hp6 (by decide))) (nI_clamp (by omega)) rfl ?_
  refine zk_aload_n dX4_pulls_33 rfl ?_
  refine zk_getRc (q := 1) dX4_pulls_34 fl_X4_12 (by decide : 0 < zc.1) rfl rfl rfl ?_
  refine zk_getRc (q := 2) dX4_pulls_37 fl_X4_122 (by decide : 1 < zc.1) rfl rfl rfl ?_
  refine zk_iload_n dX4_pulls_40 rfl ?_
  refine zk_cVi (q6_pullOf hp6 (hI.2.2 p hp6) hx) dX4_pulls_41 mwX1_pullOf ml_X4_129 (zc_h6 hp6).1 (zc_h6 hp6).2 rfl (by decide) rfl (Nat.le_of_ble_eq_true rfl) ?_
  refine zk_iret rfl dX4_pulls_44 ?_
  exact ⟨rfl, zs_same.rf⟩
theorem q1_change_t {l : Launch} {M : zk_M} {L : zk_L} {a b : Int32} (ha : zs_p a) (hb : zs_p b) (hab : ¬ a = b) : zk_C l zc 4 muX0_changeRoad [.ref 1, .int a, .int b] M L (zk_Ei 1 (va_up (va_up M 3 (zs_turn (M 3) a b)) 4 (zs_fw (zs_turn (M 3) a b) (M 4))) L) := qX0_changeRoad_t zc_c1 ha hb hab
theorem q1_change_f {l : Launch} {M : zk_M} {L : zk_L} {a b : Int32} (hn : ¬ (zs_p a ∧ zs_p b ∧ ¬ a = b)) : zk_C l zc 4 muX0_changeRoad [.ref 1, .int a, .int b] M L (zk_Ei 0 M L) := qX0_changeRoad_f zc_c1 hn
theorem q2_joins {l : Launch} {M : zk_M} {L : zk_L} {a b : Int32} (ha : zs_p a) (hb : zs_p b) : zk_C l zc 1 muX2_joins [.ref 2, .int a, .int b] M L (zk_Ei (if zs_j (M 3) a b then 1 else 0) M L) := qX2_joins zc_r2 ha hb
def zs_rdM (M : zk_M) (a b : Int32) : zk_M := va_up (va_up M 3 (zs_turn (M 3) a b)) 4 (zs_fw (zs_turn (M 3) a b) (M 4))
set_option maxRecDepth 100000 in
set_option maxHeartbeats 4000000 in
theorem qX4_roads_r {l : Launch} {M : zk_M} {L : zk_L} {a b : Int32} (hn : ¬ (zs_p a ∧ zs_p b ∧ ¬ a = b)) : zk_C l zc 5 muX4_roads [.ref 0, .int a, .int b] M L (zq_i (-1) (zs_ref M 1)) := by
  refine zk_ofR (ls := [some (.ref 0), some (.int a), some (.int b)]) (by decide) rfl (Nat.le_of_ble_eq_true rfl) rfl ?_
  refine zk_aload_n dX4_roads_0 rfl ?_
  refine zk_getRc (q := 1) dX4_roads_1 fl_X4_12 (by decide : 0 < zc.1) rfl rfl rfl ?_
  refine zk_iload_n dX4_roads_4 rfl ?_
  refine zk_iload_n dX4_roads_5 rfl ?_
  refine zk_cVi (q1_change_f hn) dX4_roads_6 mwX0_changeRoad ml_X4_133 (by decide : 1 < zc.1) rfl rfl (by decide) rfl (Nat.le_of_ble_eq_true rfl) ?_
  refine zk_if_ne (tgt := 18) dX4_roads_9 (by decide) (fun h9 => absurd (by decide) h9) (fun _ => ?_)
  refine zk_aload_n dX4_roads_12 rfl ?_
  refine zk_iconst dX4_roads_13 zc_m1 ?_
  refine zk_cVi (qrf1) dX4_roads_14 mwX4_refuse ml_X4_63 (by decide : 0 < zc.1) rfl rfl (by decide) rfl (Nat.le_of_ble_eq_true rfl) ?_
  refine zk_iret rfl dX4_roads_17 ?_
  exact ⟨rfl, zs_same.rf⟩
set_option maxRecDepth 100000 in
set_option maxHeartbeats 4000000 in
theorem qX4_roads_t {l : Launch} {M : zk_M} {L : zk_L} {a b : Int32} (ha : zs_p a) (hb : zs_p b) (hab : ¬ a = b) : zk_C l zc 5 muX4_roads [.ref 0, .int a, .int b] M L (zq_i (if zs_j (zs_turn (M 3) a b) a b then 1 else 0) (zs_rdM M a b)) := by
  refine zk_ofR (ls := [some (.ref 0), some (.int a), some (.int b)]) (by decide) rfl (Nat.le_of_ble_eq_true rfl) rfl ?_
  refine zk_aload_n dX4_roads_0 rfl ?_
  refine zk_getRc (q := 1) dX4_roads_1 fl_X4_12 (by decide : 0 < zc.1) rfl rfl rfl ?_
  refine zk_iload_n dX4_roads_4 rfl ?_
  refine zk_iload_n dX4_roads_5 rfl ?_
  refine zk_cVi (q1_change_t ha hb hab) dX4_roads_6 mwX0_changeRoad ml_X4_133 (by decide : 1 < zc.1) rfl rfl (by decide) rfl (Nat.le_of_ble_eq_true rfl) ?_
  refine zk_if_ne (tgt := 18) dX4_roads_9 (by decide) (fun _ => ?_) (fun h9 => absurd h9 (by decide))
  refine zk_aload_n dX4_roads_18 rfl ?_
  refine zk_getRc (q := 1) dX4_roads_19 fl_X4_12 (by decide : 0 < zc.1) rfl rfl rfl ?_
  refine zk_getRc (q := 2) dX4_roads_22 fl_X4_122 (by decide : 1 < zc.1) rfl rfl rfl ?_
  refine zk_iload_n dX4_roads_25 rfl ?_
  refine zk_iload_n dX4_roads_26 rfl ?_
  refine zk_cVi (q2_joins ha hb) dX4_roads_27 mwX2_joins ml_X4_137 (by decide : 2 < zc.1) rfl rfl (by decide) rfl (Nat.le_of_ble_eq_true rfl) ?_
  rw [zk_up_ne (show (3 : Nat) ≠ 4 by decide), zk_up_eq]
  refine zk_if_eq (tgt := 37) dX4_roads_30 (by decide) (fun h30 => ?_) (fun h30 => ?_)
  · have hj := zs_if0 h30
    refine zk_iconst dX4_roads_37 zc_0 ?_
    refine zk_iret rfl dX4_roads_38 ?_
    exact ⟨congrArg (fun v => some (Value.int v)) (by first | exact (if_pos hj).symm | exact (if_neg hj).symm), zs_same.rf⟩
  · have hj := zs_if1 h30
    refine zk_iconst dX4_roads_33 zc_1 ?_
    refine zk_goto (tgt := 38) dX4_roads_34 (by decide) ?_
    refine zk_iret rfl dX4_roads_38 ?_
    exact ⟨congrArg (fun v => some (Value.int v)) (by first | exact (if_pos hj).symm | exact (if_neg hj).symm), zs_same.rf⟩
theorem q1_shoe_t {l : Launch} {M : zk_M} {L : zk_L} {n : Nat} (hI : zs_I M n) {p : Nat} (hp : p < n) : zk_C l zc 2 muX0_shoeAnew [.ref 1, .int (nI p)] M L (zk_Ei 1 (va_up M (6 + p) (zs_shod (M (6 + p)))) L) := qX0_shoeAnew_t zc_c1 (Nat.lt_of_lt_of_le hp hI.1) hI.le6 (hI.isr hp)
theorem q1_shoe_f {l : Launch} {M : zk_M} {L : zk_L} {n : Nat} (hI : zs_I M n) {r : Int32} (hr : ¬ zs_isr (M 1 2) r) : zk_C l zc 2 muX0_shoeAnew [.ref 1, .int r] M L (zk_Ei 0 M L) := qX0_shoeAnew_f zc_c1 hI.le6 hr
set_option maxRecDepth 100000 in
set_option maxHeartbeats 4000000 in
theorem qX4_shod_r {l : Launch} {M : zk_M} {L : zk_L} {n : Nat} (hI : zs_I M n) {r : Int32} (hr : ¬ zs_isr (M 1 2) r) : zk_C l zc 3 muX4_shod [.ref 0, .int r] M L (zq_i (-1) (zs_ref M 1)) := by
  refine zk_ofR (ls := [some (.ref 0), some (.int r)]) (by decide) rfl (Nat.le_of_ble_eq_true rfl) rfl ?_
  refine zk_aload_n dX4_shod_0 rfl ?_
  refine zk_getRc (q := 1) dX4_shod_1 fl_X4_12 (by decide : 0 < zc.1) rfl rfl rfl ?_
  refine zk_iload_n dX4_shod_4 rfl ?_
  refine zk_cVi (q1_shoe_f hI hr) dX4_shod_5 mwX0_shoeAnew ml_X4_140 (by decide : 1 < zc.1) rfl rfl (by decide) rfl (Nat.le_of_ble_eq_true rfl) ?_
  refine zk_if_ne (tgt := 17) dX4_shod_8 (by decide) (fun h8 => absurd (by decide) h8) (fun _ => ?_)
  refine zk_aload_n dX4_shod_11 rfl ?_
  refine zk_iconst dX4_shod_12 zc_m1 ?_
  refine zk_cVi (qrf1) dX4_shod_13 mwX4_refuse ml_X4_63 (by decide : 0 < zc.1) rfl rfl (by decide) rfl (Nat.le_of_ble_eq_true rfl) ?_
  refine zk_iret rfl dX4_shod_16 ?_
  exact ⟨rfl, zs_same.rf⟩
set_option maxRecDepth 100000 in
set_option maxHeartbeats 4000000 in
theorem qX4_shod_t {l : Launch} {M : zk_M} {L : zk_L} {n : Nat} (hI : zs_I M n) {p : Nat} (hp : p < n) : zk_C l zc 3 muX4_shod [.ref 0, .int (nI p)] M L (zq_i (zs_shod (M (6 + p)) 5) (va_up M (6 + p) (zs_shod (M (6 + p))))) := by
  refine zk_ofR (ls := [some (.ref 0), some (.int (nI p))]) (by decide) rfl (Nat.le_of_ble_eq_true rfl) rfl ?_
  have hp6 : p < 6 := Nat.lt_of_lt_of_le hp hI.1
  refine zk_aload_n dX4_shod_0 rfl ?_
  refine zk_getRc (q := 1) dX4_shod_1 fl_X4_12 (by decide : 0 < zc.1) rfl rfl rfl ?_
  refine zk_iload_n dX4_shod_4 rfl ?_
  refine zk_cVi (q1_shoe_t hI hp) dX4_shod_5 mwX0_shoeAnew ml_X4_140 (by decide : 1 < zc.1) rfl rfl (by decide) rfl (Nat.le_of_ble_eq_true rfl) ?_
  refine zk_if_ne (tgt := 17) dX4_shod_8 (by decide) (fun _ => ?_) (fun h8 => absurd h8 (by decide))
  refine zk_aload_n dX4_shod_17 rfl ?_
  refine zk_getRc (q := 1) dX4_shod_18 fl_X4_12 (by decide : 0 < zc.1) rfl rfl rfl ?_
  refine zk_getRc (q := 5) dX4_shod_21 fl_X4_89 (by decide : 1 < zc.1) rfl rfl rfl ?_
  refine zk_iload_n dX4_shod_24 rfl ?_
  refine zk_aald (j := p) (q := (6 + p)) dX4_shod_25 (by decide : 5 < zc.1) rfl (zs_in rfl (vp_in_nI hp6 (by decide))) (nI_clamp (by omega)) rfl ?_
  refine zk_getI dX4_shod_26 fl_X4_109 (zc_h6 hp6).1 (zc_h6 hp6).2 rfl ?_
  rw [zk_up_eq]
  refine zk_iret rfl dX4_shod_29 ?_
  exact ⟨rfl, zs_same.rf⟩
theorem q1_setGoal {l : Launch} {M : zk_M} {L : zk_L} {n : Nat} (hI : zs_I M n) {p : Nat} (hp : p < n) {x : Int32} (hx : zs_p x) : zk_C l zc 1 muX0_setGoal [.ref 1, .int (nI p), .int x] M L (zk_Ei 1 (va_up M (6 + p) (va_up (M (6 + p)) 2 x)) L) := qX0_setGoal_t zc_c1 (Nat.lt_of_lt_of_le hp hI.1) hI.le6 (hI.isr hp) hx
set_option maxRecDepth 100000 in
set_option maxHeartbeats 4000000 in
theorem qX4_wants_r {l : Launch} {M : zk_M} {L : zk_L} {n : Nat} (hI : zs_I M n) {r x : Int32} (hn : ¬ (zs_isr (M 1 2) r ∧ zs_p x)) : zk_C l zc 2 muX4_wants [.ref 0, .int r, .int x] M L (zq_i (-1) (zs_ref M 1)) := by
  refine zk_ofR (ls := [some (.ref 0), some (.int r), some (.int x), none]) (by decide) rfl (Nat.le_of_ble_eq_true rfl) rfl ?_
  refine zk_aload_n dX4_wants_0 rfl ?_
  refine zk_getRc (q := 1) dX4_wants_1 fl_X4_12 (by decide : 0 < zc.1) rfl rfl rfl ?_
  refine zk_iload_n dX4_wants_4 rfl ?_
  refine zk_cVi (q1_hasRider hI) dX4_wants_5 mwX0_hasRider ml_X4_85 (by decide : 1 < zc.1) rfl rfl (by decide) rfl (Nat.le_of_ble_eq_true rfl) ?_
  refine zk_if_eq (tgt := 18) dX4_wants_8 (by decide) (fun h8 => ?_) (fun h8 => ?_)
  · have hr := zs_if0 h8
    refine zk_aload_n dX4_wants_18 rfl ?_
    refine zk_iconst dX4_wants_19 zc_m1 ?_
    refine zk_cVi (qrf1) dX4_wants_20 mwX4_refuse ml_X4_63 (by decide : 0 < zc.1) rfl rfl (by decide) rfl (Nat.le_of_ble_eq_true rfl) ?_
    refine zk_iret rfl dX4_wants_23 ?_
    exact ⟨rfl, zs_same.rf⟩
  · have hr := zs_if1 h8
    refine zk_iload_n dX4_wants_11 rfl ?_
    refine zk_cSi (qX4_isPlace) dX4_wants_12 miX4_isPlace ml_X4_119 stX4_isPlace rfl (by decide) rfl (Nat.le_of_ble_eq_true rfl) ?_
    refine zk_if_ne (tgt := 24) dX4_wants_15 (by decide) (fun h15 => ?_) (fun h15 => ?_)
    · have hx := zs_if1 h15
      exact absurd ⟨hr, hx⟩ hn
    · have hx := zs_if0 h15
      refine zk_aload_n dX4_wants_18 rfl ?_
      refine zk_iconst dX4_wants_19 zc_m1 ?_
      refine zk_cVi (qrf1) dX4_wants_20 mwX4_refuse ml_X4_63 (by decide : 0 < zc.1) rfl rfl (by decide) rfl (Nat.le_of_ble_eq_true rfl) ?_
      refine zk_iret rfl dX4_wants_23 ?_
      exact ⟨rfl, zs_same.rf⟩
set_option maxRecDepth 100000 in
set_option maxHeartbeats 4000000 in
theorem qX4_wants_t {l : Launch} {M : zk_M} {L : zk_L} {n : Nat} (hI : zs_I M n) {p : Nat} (hp : p < n) {x : Int32} (hx : zs_p x) : zk_C l zc 2 muX4_wants [.ref 0, .int (nI p), .int x] M L (zq_i (M (6 + p) 2) (va_up M (6 + p) (va_up (M (6 + p)) 2 x))) := by
  refine zk_ofR (ls := [some (.ref 0), some (.int (nI p)), some (.int x), none]) (by decide) rfl (Nat.le_of_ble_eq_true rfl) rfl ?_
  have hp6 : p < 6 := Nat.lt_of_lt_of_le hp hI.1
  refine zk_aload_n dX4_wants_0 rfl ?_
  refine zk_getRc (q := 1) dX4_wants_1 fl_X4_12 (by decide : 0 < zc.1) rfl rfl rfl ?_
  refine zk_iload_n dX4_wants_4 rfl ?_
  refine zk_cVi (q1_hasRider_t hI hp) dX4_wants_5 mwX0_hasRider ml_X4_85 (by decide : 1 < zc.1) rfl rfl (by decide) rfl (Nat.le_of_ble_eq_true rfl) ?_
  refine zk_if_eq (tgt := 18) dX4_wants_8 (by decide) (fun h8 => absurd h8 (by decide)) (fun _ => ?_)
  refine zk_iload_n dX4_wants_11 rfl ?_
  refine zk_cSi (qX4_isPlace_t hx) dX4_wants_12 miX4_isPlace ml_X4_119 stX4_isPlace rfl (by decide) rfl (Nat.le_of_ble_eq_true rfl) ?_
  refine zk_if_ne (tgt := 24) dX4_wants_15 (by decide) (fun _ => ?_) (fun h15 => absurd h15 (by decide))
  refine zk_aload_n dX4_wants_24 rfl ?_
  refine zk_getRc (q := 1) dX4_wants_25 fl_X4_12 (by decide : 0 < zc.1) rfl rfl rfl ?_
  refine zk_getRc (q := 5) dX4_wants_28 fl_X4_89 (by decide : 1 < zc.1) rfl rfl rfl ?_
  refine zk_iload_n dX4_wants_31 rfl ?_
  refine zk_aald (j := p) (q := (6 + p)) dX4_wants_32 (by decide : 5 < zc.1) rfl (zs_in rfl (vp_in_nI hp6 (by decide))) (nI_clamp (by omega)) rfl ?_
  refine zk_getI dX4_wants_33 fl_X4_100 (zc_h6 hp6).1 (zc_h6 hp6).2 rfl ?_
  refine zk_istore_n dX4_wants_36 zk_S_3 ?_
  refine zk_aload_n dX4_wants_37 rfl ?_
  refine zk_getRc (q := 1) dX4_wants_38 fl_X4_12 (by decide : 0 < zc.1) rfl rfl rfl ?_
  refine zk_iload_n dX4_wants_41 rfl ?_
  refine zk_iload_n dX4_wants_42 rfl ?_
  refine zk_cVi (q1_setGoal hI hp hx) dX4_wants_43 mwX0_setGoal ml_X4_143 (by decide : 1 < zc.1) rfl rfl (by decide) rfl (Nat.le_of_ble_eq_true rfl) ?_
  refine zk_pop dX4_wants_46 rfl ?_
  refine zk_iload_n dX4_wants_47 rfl ?_
  refine zk_iret rfl dX4_wants_48 ?_
  exact ⟨rfl, zs_same.rf⟩
theorem q1_setAt {l : Launch} {M : zk_M} {L : zk_L} {n : Nat} (hI : zs_I M n) {p : Nat} (hp : p < n) {x : Int32} (hx : zs_p x) : zk_C l zc 1 muX0_setAt [.ref 1, .int (nI p), .int x] M L (zk_Ei 1 (va_up M (6 + p) (va_up (M (6 + p)) 4 x)) L) := qX0_setAt_t zc_c1 (Nat.lt_of_lt_of_le hp hI.1) hI.le6 (hI.isr hp) hx
set_option maxRecDepth 100000 in
set_option maxHeartbeats 4000000 in
theorem qX4_stands_r {l : Launch} {M : zk_M} {L : zk_L} {n : Nat} (hI : zs_I M n) {r x : Int32} (hn : ¬ (zs_isr (M 1 2) r ∧ zs_p x)) : zk_C l zc 2 muX4_stands [.ref 0, .int r, .int x] M L (zq_i (-1) (zs_ref M 1)) := by
  refine zk_ofR (ls := [some (.ref 0), some (.int r), some (.int x), none]) (by decide) rfl (Nat.le_of_ble_eq_true rfl) rfl ?_
  refine zk_aload_n dX4_stands_0 rfl ?_
  refine zk_getRc (q := 1) dX4_stands_1 fl_X4_12 (by decide : 0 < zc.1) rfl rfl rfl ?_
  refine zk_iload_n dX4_stands_4 rfl ?_
  refine zk_cVi (q1_hasRider hI) dX4_stands_5 mwX0_hasRider ml_X4_85 (by decide : 1 < zc.1) rfl rfl (by decide) rfl (Nat.le_of_ble_eq_true rfl) ?_
  refine zk_if_eq (tgt := 18) dX4_stands_8 (by decide) (fun h8 => ?_) (fun h8 => ?_)
  · have hr := zs_if0 h8
    refine zk_aload_n dX4_stands_18 rfl ?_
    refine zk_iconst dX4_stands_19 zc_m1 ?_
    refine zk_cVi (qrf1) dX4_stands_20 mwX4_refuse ml_X4_63 (by decide : 0 < zc.1) rfl rfl (by decide) rfl (Nat.le_of_ble_eq_true rfl) ?_
    refine zk_iret rfl dX4_stands_23 ?_
    exact ⟨rfl, zs_same.rf⟩
  · have hr := zs_if1 h8
    refine zk_iload_n dX4_stands_11 rfl ?_
    refine zk_cSi (qX4_isPlace) dX4_stands_12 miX4_isPlace ml_X4_119 stX4_isPlace rfl (by decide) rfl (Nat.le_of_ble_eq_true rfl) ?_
    refine zk_if_ne (tgt := 24) dX4_stands_15 (by decide) (fun h15 => ?_) (fun h15 => ?_)
    · have hx := zs_if1 h15
      exact absurd ⟨hr, hx⟩ hn
    · have hx := zs_if0 h15
      refine zk_aload_n dX4_stands_18 rfl ?_
      refine zk_iconst dX4_stands_19 zc_m1 ?_
      refine zk_cVi (qrf1) dX4_stands_20 mwX4_refuse ml_X4_63 (by decide : 0 < zc.1) rfl rfl (by decide) rfl (Nat.le_of_ble_eq_true rfl) ?_
      refine zk_iret rfl dX4_stands_23 ?_
      exact ⟨rfl, zs_same.rf⟩
set_option maxRecDepth 100000 in
set_option maxHeartbeats 4000000 in
theorem qX4_stands_t {l : Launch} {M : zk_M} {L : zk_L} {n : Nat} (hI : zs_I M n) {p : Nat} (hp : p < n) {x : Int32} (hx : zs_p x) : zk_C l zc 2 muX4_stands [.ref 0, .int (nI p), .int x] M L (zq_i (M (6 + p) 4) (va_up M (6 + p) (va_up (M (6 + p)) 4 x))) := by
  refine zk_ofR (ls := [some (.ref 0), some (.int (nI p)), some (.int x), none]) (by decide) rfl (Nat.le_of_ble_eq_true rfl) rfl ?_
  have hp6 : p < 6 := Nat.lt_of_lt_of_le hp hI.1
  refine zk_aload_n dX4_stands_0 rfl ?_
  refine zk_getRc (q := 1) dX4_stands_1 fl_X4_12 (by decide : 0 < zc.1) rfl rfl rfl ?_
  refine zk_iload_n dX4_stands_4 rfl ?_
  refine zk_cVi (q1_hasRider_t hI hp) dX4_stands_5 mwX0_hasRider ml_X4_85 (by decide : 1 < zc.1) rfl rfl (by decide) rfl (Nat.le_of_ble_eq_true rfl) ?_
  refine zk_if_eq (tgt := 18) dX4_stands_8 (by decide) (fun h8 => absurd h8 (by decide)) (fun _ => ?_)
  refine zk_iload_n dX4_stands_11 rfl ?_
  refine zk_cSi (qX4_isPlace_t hx) dX4_stands_12 miX4_isPlace ml_X4_119 stX4_isPlace rfl (by decide) rfl (Nat.le_of_ble_eq_true rfl) ?_
  refine zk_if_ne (tgt := 24) dX4_stands_15 (by decide) (fun _ => ?_) (fun h15 => absurd h15 (by decide))
  refine zk_aload_n dX4_stands_24 rfl ?_
  refine zk_getRc (q := 1) dX4_stands_25 fl_X4_12 (by decide : 0 < zc.1) rfl rfl rfl ?_
  refine zk_getRc (q := 5) dX4_stands_28 fl_X4_89 (by decide : 1 < zc.1) rfl rfl rfl ?_
  refine zk_iload_n dX4_stands_31 rfl ?_
  refine zk_aald (j := p) (q := (6 + p)) dX4_stands_32 (by decide : 5 < zc.1) rfl (zs_in rfl (vp_in_nI hp6 (by decide))) (nI_clamp (by omega)) rfl ?_
  refine zk_getI dX4_stands_33 fl_X4_106 (zc_h6 hp6).1 (zc_h6 hp6).2 rfl ?_
  refine zk_istore_n dX4_stands_36 zk_S_3 ?_
  refine zk_aload_n dX4_stands_37 rfl ?_
  refine zk_getRc (q := 1) dX4_stands_38 fl_X4_12 (by decide : 0 < zc.1) rfl rfl rfl ?_
  refine zk_iload_n dX4_stands_41 rfl ?_
  refine zk_iload_n dX4_stands_42 rfl ?_
  refine zk_cVi (q1_setAt hI hp hx) dX4_stands_43 mwX0_setAt ml_X4_146 (by decide : 1 < zc.1) rfl rfl (by decide) rfl (Nat.le_of_ble_eq_true rfl) ?_
  refine zk_pop dX4_stands_46 rfl ?_
  refine zk_iload_n dX4_stands_47 rfl ?_
  refine zk_iret rfl dX4_stands_48 ?_
  exact ⟨rfl, zs_same.rf⟩
set_option maxRecDepth 100000 in
set_option maxHeartbeats 4000000 in
theorem qX4_turn_r1 {l : Launch} {M : zk_M} {L : zk_L} {n : Nat} (hI : zs_I M n) {r k g : Int32} (hr : ¬ zs_isr (M 1 2) r) : zk_C l zc 1 muX4_turn [.ref 0, .int r, .int k, .int g] M L (zq_i (-1) (zs_ref M 1)) := by
  refine zk_ofR (ls := [some (.ref 0), some (.int r), some (.int k), some (.int g), none, none]) (by decide) rfl (Nat.le_of_ble_eq_true rfl) rfl ?_
  refine zk_aload_n dX4_turn_0 rfl ?_
  refine zk_getRc (q := 1) dX4_turn_1 fl_X4_12 (by decide : 0 < zc.1) rfl rfl rfl ?_
  refine zk_iload_n dX4_turn_4 rfl ?_
  refine zk_cVi (q1_hasRider_f hI hr) dX4_turn_5 mwX0_hasRider ml_X4_85 (by decide : 1 < zc.1) rfl rfl (by decide) rfl (Nat.le_of_ble_eq_true rfl) ?_
  refine zk_if_ne (tgt := 17) dX4_turn_8 (by decide) (fun h8 => absurd (by decide) h8) (fun _ => ?_)
  refine zk_aload_n dX4_turn_11 rfl ?_
  refine zk_iconst dX4_turn_12 zc_m1 ?_
  refine zk_cVi (qrf1) dX4_turn_13 mwX4_refuse ml_X4_63 (by decide : 0 < zc.1) rfl rfl (by decide) rfl (Nat.le_of_ble_eq_true rfl) ?_
  refine zk_iret rfl dX4_turn_16 ?_
  exact ⟨rfl, zs_same.rf⟩
set_option maxRecDepth 100000 in
set_option maxHeartbeats 4000000 in
theorem qX4_turn_r2 {l : Launch} {M : zk_M} {L : zk_L} {n : Nat} (hI : zs_I M n) {p : Nat} (hp : p < n) {k g : Int32} (hk : ¬ (0 ≤ k ∧ k < 6)) : zk_C l zc 1 muX4_turn [.ref 0, .int (nI p), .int k, .int g] M L (zq_i (-2) (zs_ref M 2)) := by
  refine zk_ofR (ls := [some (.ref 0), some (.int (nI p)), some (.int k), some (.int g), none, none]) (by decide) rfl (Nat.le_of_ble_eq_true rfl) rfl ?_
  refine zk_aload_n dX4_turn_0 rfl ?_
  refine zk_getRc (q := 1) dX4_turn_1 fl_X4_12 (by decide : 0 < zc.1) rfl rfl rfl ?_
  refine zk_iload_n dX4_turn_4 rfl ?_
  refine zk_cVi (q1_hasRider_t hI hp) dX4_turn_5 mwX0_hasRider ml_X4_85 (by decide : 1 < zc.1) rfl rfl (by decide) rfl (Nat.le_of_ble_eq_true rfl) ?_
  refine zk_if_ne (tgt := 17) dX4_turn_8 (by decide) (fun _ => ?_) (fun h8 => absurd h8 (by decide))
  refine zk_iload_n dX4_turn_17 rfl ?_
  refine zk_bipush dX4_turn_18 zb_6 ?_
  refine zk_cSi (qX4_isBelow) dX4_turn_20 miX4_isBelow ml_X4_149 stX4_isBelow rfl (by decide) rfl (Nat.le_of_ble_eq_true rfl) ?_
  refine zk_if_ne (tgt := 33) dX4_turn_23 (by decide) (fun h23 => ?_) (fun h23 => ?_)
  · have hb := zs_if1 h23
    exact absurd hb hk
  · have hb := zs_if0 h23
    refine zk_aload_n dX4_turn_26 rfl ?_
    refine zk_bipush dX4_turn_27 zb_m2 ?_
    refine zk_cVi (qrf2) dX4_turn_29 mwX4_refuse ml_X4_63 (by decide : 0 < zc.1) rfl rfl (by decide) rfl (Nat.le_of_ble_eq_true rfl) ?_
    refine zk_iret rfl dX4_turn_32 ?_
    exact ⟨rfl, zs_same.rf⟩
set_option maxRecDepth 100000 in
set_option maxHeartbeats 4000000 in
theorem qX4_turn_r4 {l : Launch} {M : zk_M} {L : zk_L} {n : Nat} (hI : zs_I M n) {p : Nat} (hp : p < n) {k g : Int32} (hk : 0 ≤ k ∧ k < 6) (hg : g < 0) : zk_C l zc 1 muX4_turn [.ref 0, .int (nI p), .int k, .int g] M L (zq_i (-4) (zs_ref M 4)) := by
  refine zk_ofR (ls := [some (.ref 0), some (.int (nI p)), some (.int k), some (.int g), none, none]) (by decide) rfl (Nat.le_of_ble_eq_true rfl) rfl ?_
  refine zk_aload_n dX4_turn_0 rfl ?_
  refine zk_getRc (q := 1) dX4_turn_1 fl_X4_12 (by decide : 0 < zc.1) rfl rfl rfl ?_
  refine zk_iload_n dX4_turn_4 rfl ?_
  refine zk_cVi (q1_hasRider_t hI hp) dX4_turn_5 mwX0_hasRider ml_X4_85 (by decide : 1 < zc.1) rfl rfl (by decide) rfl (Nat.le_of_ble_eq_true rfl) ?_
  refine zk_if_ne (tgt := 17) dX4_turn_8 (by decide) (fun _ => ?_) (fun h8 => absurd h8 (by decide))
  refine zk_iload_n dX4_turn_17 rfl ?_
  refine zk_bipush dX4_turn_18 zb_6 ?_
  refine zk_cSi (qX4_isBelow) dX4_turn_20 miX4_isBelow ml_X4_149 stX4_isBelow rfl (by decide) rfl (Nat.le_of_ble_eq_true rfl) ?_
  refine zk_if_ne (tgt := 33) dX4_turn_23 (by decide) (fun h23 => ?_) (fun h23 => ?_)
  · have hb := zs_if1 h23
    refine zk_iload_n dX4_turn_33 rfl ?_
    refine zk_if_ge (tgt := 44) dX4_turn_34 (by decide) (fun h34 => absurd h34 (Int32.not_le.mpr hg)) (fun _ => ?_)
    refine zk_aload_n dX4_turn_37 rfl ?_
    refine zk_bipush dX4_turn_38 zb_m4 ?_
    refine zk_cVi (qrf4) dX4_turn_40 mwX4_refuse ml_X4_63 (by decide : 0 < zc.1) rfl rfl (by decide) rfl (Nat.le_of_ble_eq_true rfl) ?_
    refine zk_iret rfl dX4_turn_43 ?_
    exact ⟨rfl, zs_same.rf⟩
  · have hb := zs_if0 h23
    exact absurd hk hb
set_option maxRecDepth 100000 in
set_option maxHeartbeats 4000000 in
theorem qX4_turn_r6 {l : Launch} {M : zk_M} {L : zk_L} {n : Nat} (hI : zs_I M n) {p : Nat} (hp : p < n) {k g : Int32} (hk : 0 ≤ k ∧ k < 6) (hg : ¬ g < 0) (h9 : 9 < g) : zk_C l zc 1 muX4_turn [.ref 0, .int (nI p), .int k, .int g] M L (zq_i (-6) (zs_ref M 6)) := by
  refine zk_ofR (ls := [some (.ref 0), some (.int (nI p)), some (.int k), some (.int g), none, none]) (by decide) rfl (Nat.le_of_ble_eq_true rfl) rfl ?_
  refine zk_aload_n dX4_turn_0 rfl ?_
  refine zk_getRc (q := 1) dX4_turn_1 fl_X4_12 (by decide : 0 < zc.1) rfl rfl rfl ?_
  refine zk_iload_n dX4_turn_4 rfl ?_
  refine zk_cVi (q1_hasRider_t hI hp) dX4_turn_5 mwX0_hasRider ml_X4_85 (by decide : 1 < zc.1) rfl rfl (by decide) rfl (Nat.le_of_ble_eq_true rfl) ?_
  refine zk_if_ne (tgt := 17) dX4_turn_8 (by decide) (fun _ => ?_) (fun h8 => absurd h8 (by decide))
  refine zk_iload_n dX4_turn_17 rfl ?_
  refine zk_bipush dX4_turn_18 zb_6 ?_
  refine zk_cSi (qX4_isBelow) dX4_turn_20 miX4_isBelow ml_X4_149 stX4_isBelow rfl (by decide) rfl (Nat.le_of_ble_eq_true rfl) ?_
  refine zk_if_ne (tgt := 33) dX4_turn_23 (by decide) (fun h23 => ?_) (fun h23 => ?_)
  · have hb := zs_if1 h23
    refine zk_iload_n dX4_turn_33 rfl ?_
    refine zk_if_ge (tgt := 44) dX4_turn_34 (by decide) (fun _ => ?_) (fun h34 => absurd (Int32.not_lt.mp hg) h34)
    refine zk_iload_n dX4_turn_44 rfl ?_
    refine zk_bipush dX4_turn_45 zb_9 ?_
    refine zk_icmp_le (tgt := 57) dX4_turn_47 (by decide) (fun h47 => absurd h47 (Int32.not_le.mpr h9)) (fun _ => ?_)
    refine zk_aload_n dX4_turn_50 rfl ?_
    refine zk_bipush dX4_turn_51 zb_m6 ?_
    refine zk_cVi (qrf6) dX4_turn_53 mwX4_refuse ml_X4_63 (by decide : 0 < zc.1) rfl rfl (by decide) rfl (Nat.le_of_ble_eq_true rfl) ?_
    refine zk_iret rfl dX4_turn_56 ?_
    exact ⟨rfl, zs_same.rf⟩
  · have hb := zs_if0 h23
    exact absurd hk hb
set_option maxRecDepth 100000 in
set_option maxHeartbeats 4000000 in
theorem qX4_turn_t {l : Launch} {M : zk_M} {L : zk_L} {n : Nat} (hI : zs_I M n) {p : Nat} (hp : p < n) {k g : Int32} (hk : 0 ≤ k ∧ k < 6) (hg : ¬ g < 0) (h9 : ¬ 9 < g) : zk_C l zc 1 muX4_turn [.ref 0, .int (nI p), .int k, .int g] M L (zq_i (10 * M (6 + p) 0 + M (6 + p) 1) (va_up M (6 + p) (va_up (va_up (M (6 + p)) 0 k) 1 g))) := by
  refine zk_ofR (ls := [some (.ref 0), some (.int (nI p)), some (.int k), some (.int g), none, none]) (by decide) rfl (Nat.le_of_ble_eq_true rfl) rfl ?_
  have hp6 : p < 6 := Nat.lt_of_lt_of_le hp hI.1
  refine zk_aload_n dX4_turn_0 rfl ?_
  refine zk_getRc (q := 1) dX4_turn_1 fl_X4_12 (by decide : 0 < zc.1) rfl rfl rfl ?_
  refine zk_iload_n dX4_turn_4 rfl ?_
  refine zk_cVi (q1_hasRider_t hI hp) dX4_turn_5 mwX0_hasRider ml_X4_85 (by decide : 1 < zc.1) rfl rfl (by decide) rfl (Nat.le_of_ble_eq_true rfl) ?_
  refine zk_if_ne (tgt := 17) dX4_turn_8 (by decide) (fun _ => ?_) (fun h8 => absurd h8 (by decide))
  refine zk_iload_n dX4_turn_17 rfl ?_
  refine zk_bipush dX4_turn_18 zb_6 ?_
  refine zk_cSi (qX4_isBelow) dX4_turn_20 miX4_isBelow ml_X4_149 stX4_isBelow rfl (by decide) rfl (Nat.le_of_ble_eq_true rfl) ?_
  refine zk_if_ne (tgt := 33) dX4_turn_23 (by decide) (fun h23 => ?_) (fun h23 => ?_)
  · have hb := zs_if1 h23
    refine zk_iload_n dX4_turn_33 rfl ?_
    refine zk_if_ge (tgt := 44) dX4_turn_34 (by decide) (fun _ => ?_) (fun h34 => absurd (Int32.not_lt.mp hg) h34)
    refine zk_iload_n dX4_turn_44 rfl ?_
    refine zk_bipush dX4_turn_45 zb_9 ?_
    refine zk_icmp_le (tgt := 57) dX4_turn_47 (by decide) (fun _ => ?_) (fun h47 => absurd (Int32.not_lt.mp h9) h47)
    refine zk_aload_n dX4_turn_57 rfl ?_
    refine zk_getRc (q := 1) dX4_turn_58 fl_X4_12 (by decide : 0 < zc.1) rfl rfl rfl ?_
    refine zk_getRc (q := 5) dX4_turn_61 fl_X4_89 (by decide : 1 < zc.1) rfl rfl rfl ?_
    refine zk_iload_n dX4_turn_64 rfl ?_
    refine zk_aald (j := p) (q := (6 + p)) dX4_turn_65 (by decide : 5 < zc.1) rfl (zs_in rfl (vp_in_nI hp6 (by decide))) (nI_clamp (by omega)) rfl ?_
    refine zk_astore dX4_turn_66 zk_S_4 ?_
    refine zk_bipush dX4_turn_68 zb_10 ?_
    refine zk_aload dX4_turn_70 rfl ?_
    refine zk_getI dX4_turn_72 fl_X4_93 (zc_h6 hp6).1 (zc_h6 hp6).2 rfl ?_
    refine zk_imul dX4_turn_75 ?_
    refine zk_aload dX4_turn_76 rfl ?_
    refine zk_getI dX4_turn_78 fl_X4_97 (zc_h6 hp6).1 (zc_h6 hp6).2 rfl ?_
    refine zk_iadd dX4_turn_81 ?_
    refine zk_istore dX4_turn_82 zk_S_5 ?_
    refine zk_aload dX4_turn_84 rfl ?_
    refine zk_iload_n dX4_turn_86 rfl ?_
    refine zk_putG dX4_turn_87 fl_X4_93 ft_1_0 rfl rfl (zc_h6 hp6).1 (zc_h6 hp6).2 rfl ?_
    refine zk_aload dX4_turn_90 rfl ?_
    refine zk_iload_n dX4_turn_92 rfl ?_
    refine zk_putG dX4_turn_93 fl_X4_97 ft_1_1 rfl rfl (zc_h6 hp6).1 (zc_h6 hp6).2 rfl ?_
    refine zk_iload dX4_turn_96 rfl ?_
    refine zk_iret rfl dX4_turn_98 ?_
    refine ⟨rfl, ?_⟩
    simp only [zk_up_eq, zs_up2]
    exact zs_same.rf
  · have hb := zs_if0 h23
    exact absurd hk hb
theorem q1_pass_t {l : Launch} {M : zk_M} {L : zk_L} {n : Nat} (hI : zs_I M n) {t : Nat} (h1 : 1 ≤ t) (h60 : t ≤ 60) (hday : M 1 3 + nI t ≤ 999) : zk_C l zc 4 muX0_passDays [.ref 1, .int (nI t)] M L (zk_Ei 1 (zs_pass zc 1 n t M) L) := qX0_passDays_t zc_c1 hI.1 hI.2.1 hI.2.2 h1 h60 hday
theorem q1_pass_f {l : Launch} {M : zk_M} {L : zk_L} {t : Int32} (hn : ¬ (1 ≤ t ∧ t ≤ 60 ∧ M 1 3 + t ≤ 999)) : zk_C l zc 4 muX0_passDays [.ref 1, .int t] M L (zk_Ei 0 M L) := qX0_passDays_f zc_c1 hn
def zs_atb (M : zk_M) (n : Nat) : Int32 := zs_for (fun i x => if M (6 + i) 4 = M (6 + i) 3 then x ||| 1 <<< (nI i &&& 31) else x) n 0 0
theorem zs_pass_I {M : zk_M} {n t : Nat} (hI : zs_I M n) : zs_I (zs_pass zc 1 n t M) n ∧ (zs_pass zc 1 n t M) 1 2 = M 1 2 := by
  have key := zs_for_rel (fun _ (A : zk_M) (_ : Unit) => zs_I A n ∧ A 1 2 = M 1 2) n 0 (va_up M 1 (va_up (M 1) 3 (M 1 3 + nI t))) () (f := fun p M => va_up M (6 + p) (zs_rides (M 3) (M 4) t (M (6 + p)))) (g := fun _ u => u) (fun j A _ _ hj h => ?_) ⟨⟨hI.1, ?_, fun q hq => ?_⟩, ?_⟩
  · exact key
  · have hj6 : j < 6 := Nat.lt_of_lt_of_le (by omega) hI.1
    refine ⟨⟨hI.1, by rw [zk_up_ne (by omega)]; exact h.1.2.1, fun q hq => ?_⟩, by rw [zk_up_ne (by omega)]; exact h.2⟩
    by_cases e : q = j
    · subst e
      rw [zk_up_eq]
      exact zs_rides_ok _ _ (h.1.2.2 q hq)
    · rw [zk_up_ne (by omega)]
      exact h.1.2.2 q hq
  · rw [zk_up_eq, zk_up_ne (by decide)]
    exact hI.2.1
  · rw [zk_up_ne (by omega)]
    exact hI.2.2 q hq
  · rw [zk_up_eq, zk_up_ne (by decide)]
theorem q1_arrived {l : Launch} {M : zk_M} {L : zk_L} {n : Nat} (hI : zs_I M n) : zk_C l zc 2 muX0_arrivedBits [.ref 1] M L (zk_Ei (zs_atb M n) M L) := qX0_arrivedBits zc_c1 hI.1 hI.2.1
theorem q1_honest {l : Launch} {M : zk_M} {L : zk_L} {n : Nat} (hI : zs_I M n) : zk_C l zc 2 muX0_honestBits [.ref 1] M L (zk_Ei (zs_for (fun i x => if M (6 + i) 2 = M (6 + i) 3 then x ||| 1 <<< (nI i &&& 31) else x) n 0 0) M L) := qX0_honestBits zc_c1 hI.1 hI.2.1
theorem q1_lost {l : Launch} {M : zk_M} {L : zk_L} {n : Nat} (hI : zs_I M n) : zk_C l zc 2 muX0_lostBits [.ref 1] M L (zk_Ei (zs_for (fun i x => if M 4 (M (6 + i) 4 * 8 + M (6 + i) 3).toNatClampNeg = 9 then x ||| 1 <<< (nI i &&& 31) else x) n 0 0) M L) := qX0_lostBits zc_c1 hI.1 hI.2.1 hI.2.2
theorem q1_shoes {l : Launch} {M : zk_M} {L : zk_L} {n : Nat} (hI : zs_I M n) : zk_C l zc 2 muX0_allShoes [.ref 1] M L (zk_Ei (zs_for (fun i x => x + M (6 + i) 5) n 0 0) M L) := qX0_allShoes zc_c1 hI.1 hI.2.1
theorem q1_worn {l : Launch} {M : zk_M} {L : zk_L} {n : Nat} (hI : zs_I M n) : zk_C l zc 2 muX0_allWorn [.ref 1] M L (zk_Ei (zs_for (fun i x => x + M (6 + i) 6) n 0 0) M L) := qX0_allWorn zc_c1 hI.1 hI.2.1
set_option maxRecDepth 100000 in
set_option maxHeartbeats 4000000 in
theorem qX4_days_r4 {l : Launch} {M : zk_M} {L : zk_L} {t : Int32} (ht : t < 1) : zk_C l zc 5 muX4_days [.ref 0, .int t] M L (zq_i (-4) (zs_ref M 4)) := by
  refine zk_ofR (ls := [some (.ref 0), some (.int t)]) (by decide) rfl (Nat.le_of_ble_eq_true rfl) rfl ?_
  refine zk_iload_n dX4_days_0 rfl ?_
  refine zk_iconst dX4_days_1 zc_1 ?_
  refine zk_icmp_ge (tgt := 12) dX4_days_2 (by decide) (fun h2 => absurd h2 (Int32.not_le.mpr ht)) (fun _ => ?_)
  refine zk_aload_n dX4_days_5 rfl ?_
  refine zk_bipush dX4_days_6 zb_m4 ?_
  refine zk_cVi (qrf4) dX4_days_8 mwX4_refuse ml_X4_63 (by decide : 0 < zc.1) rfl rfl (by decide) rfl (Nat.le_of_ble_eq_true rfl) ?_
  refine zk_iret rfl dX4_days_11 ?_
  exact ⟨rfl, zs_same.rf⟩
set_option maxRecDepth 100000 in
set_option maxHeartbeats 4000000 in
theorem qX4_days_r6 {l : Launch} {M : zk_M} {L : zk_L} {t : Int32} (ht : ¬ t < 1) (hn : ¬ (t ≤ 60 ∧ M 1 3 + t ≤ 999)) : zk_C l zc 5 muX4_days [.ref 0, .int t] M L (zq_i (-6) (zs_ref M 6)) := by
  refine zk_ofR (ls := [some (.ref 0), some (.int t)]) (by decide) rfl (Nat.le_of_ble_eq_true rfl) rfl ?_
  refine zk_iload_n dX4_days_0 rfl ?_
  refine zk_iconst dX4_days_1 zc_1 ?_
  refine zk_icmp_ge (tgt := 12) dX4_days_2 (by decide) (fun _ => ?_) (fun h2 => absurd (Int32.not_lt.mp ht) h2)
  refine zk_aload_n dX4_days_12 rfl ?_
  refine zk_getRc (q := 1) dX4_days_13 fl_X4_12 (by decide : 0 < zc.1) rfl rfl rfl ?_
  refine zk_iload_n dX4_days_16 rfl ?_
  refine zk_cVi (q1_pass_f (fun q => hn q.2)) dX4_days_17 mwX0_passDays ml_X4_152 (by decide : 1 < zc.1) rfl rfl (by decide) rfl (Nat.le_of_ble_eq_true rfl) ?_
  refine zk_if_ne (tgt := 30) dX4_days_20 (by decide) (fun h20 => absurd (by decide) h20) (fun _ => ?_)
  refine zk_aload_n dX4_days_23 rfl ?_
  refine zk_bipush dX4_days_24 zb_m6 ?_
  refine zk_cVi (qrf6) dX4_days_26 mwX4_refuse ml_X4_63 (by decide : 0 < zc.1) rfl rfl (by decide) rfl (Nat.le_of_ble_eq_true rfl) ?_
  refine zk_iret rfl dX4_days_29 ?_
  exact ⟨rfl, zs_same.rf⟩
set_option maxRecDepth 100000 in
set_option maxHeartbeats 4000000 in
theorem qX4_days_t {l : Launch} {M : zk_M} {L : zk_L} {n : Nat} (hI : zs_I M n) {t : Nat} (h1 : 1 ≤ t) (h60 : t ≤ 60) (hday : M 1 3 + nI t ≤ 999) : zk_C l zc 5 muX4_days [.ref 0, .int (nI t)] M L (zq_i (zs_bc (zs_atb (zs_pass zc 1 n t M) n)) (zs_pass zc 1 n t M)) := by
  refine zk_ofR (ls := [some (.ref 0), some (.int (nI t))]) (by decide) rfl (Nat.le_of_ble_eq_true rfl) rfl ?_
  refine zk_iload_n dX4_days_0 rfl ?_
  refine zk_iconst dX4_days_1 zc_1 ?_
  refine zk_icmp_ge (tgt := 12) dX4_days_2 (by decide) (fun _ => ?_) (fun h2 => absurd (nI_le (a := 1) h1 (by omega)) h2)
  refine zk_aload_n dX4_days_12 rfl ?_
  refine zk_getRc (q := 1) dX4_days_13 fl_X4_12 (by decide : 0 < zc.1) rfl rfl rfl ?_
  refine zk_iload_n dX4_days_16 rfl ?_
  refine zk_cVi (q1_pass_t hI h1 h60 hday) dX4_days_17 mwX0_passDays ml_X4_152 (by decide : 1 < zc.1) rfl rfl (by decide) rfl (Nat.le_of_ble_eq_true rfl) ?_
  refine zk_if_ne (tgt := 30) dX4_days_20 (by decide) (fun _ => ?_) (fun h20 => absurd h20 (by decide))
  refine zk_aload_n dX4_days_30 rfl ?_
  refine zk_getRc (q := 1) dX4_days_31 fl_X4_12 (by decide : 0 < zc.1) rfl rfl rfl ?_
  refine zk_cVi (q1_arrived (zs_pass_I hI).1) dX4_days_34 mwX0_arrivedBits ml_X4_155 (by decide : 1 < zc.1) rfl rfl (by decide) rfl (Nat.le_of_ble_eq_true rfl) ?_
  refine zk_cSi (qJ6_bitCount_0f7a4) dX4_days_37 miJ6_bitCount_0f7a4 ml_X4_158 stJ6_bitCount_0f7a4 rfl (by decide) rfl (Nat.le_of_ble_eq_true rfl) ?_
  refine zk_iret rfl dX4_days_40 ?_
  exact ⟨rfl, zs_same.rf⟩
set_option maxRecDepth 100000 in
set_option maxHeartbeats 4000000 in
theorem qX4_rider_r1 {l : Launch} {M : zk_M} {L : zk_L} {n : Nat} (hI : zs_I M n) {r x : Int32} (hr : ¬ zs_isr (M 1 2) r) : zk_C l zc 2 muX4_rider [.ref 0, .int r, .int x] M L (zq_i (-1) (zs_ref M 1)) := by
  refine zk_ofR (ls := [some (.ref 0), some (.int r), some (.int x), none]) (by decide) rfl (Nat.le_of_ble_eq_true rfl) rfl ?_
  refine zk_aload_n dX4_rider_0 rfl ?_
  refine zk_getRc (q := 1) dX4_rider_1 fl_X4_12 (by decide : 0 < zc.1) rfl rfl rfl ?_
  refine zk_iload_n dX4_rider_4 rfl ?_
  refine zk_cVi (q1_hasRider_f hI hr) dX4_rider_5 mwX0_hasRider ml_X4_85 (by decide : 1 < zc.1) rfl rfl (by decide) rfl (Nat.le_of_ble_eq_true rfl) ?_
  refine zk_if_ne (tgt := 17) dX4_rider_8 (by decide) (fun h8 => absurd (by decide) h8) (fun _ => ?_)
  refine zk_aload_n dX4_rider_11 rfl ?_
  refine zk_iconst dX4_rider_12 zc_m1 ?_
  refine zk_cVi (qrf1) dX4_rider_13 mwX4_refuse ml_X4_63 (by decide : 0 < zc.1) rfl rfl (by decide) rfl (Nat.le_of_ble_eq_true rfl) ?_
  refine zk_iret rfl dX4_rider_16 ?_
  exact ⟨rfl, zs_same.rf⟩
theorem zs_out07 {x : Int32} (h0 : ¬ x = 0) (h1 : ¬ x = 1) (h2 : ¬ x = 2) (h3 : ¬ x = 3) (h4 : ¬ x = 4) (h5 : ¬ x = 5) (h6 : ¬ x = 6) (h7 : ¬ x = 7) : x.toInt < 0 ∨ 7 < x.toInt := by
  simp only [← Int32.toInt_inj] at *
  have e0 : (0 : Int32).toInt = 0 := rfl
  have e1 : (1 : Int32).toInt = 1 := rfl
  have e2 : (2 : Int32).toInt = 2 := rfl
  have e3 : (3 : Int32).toInt = 3 := rfl
  have e4 : (4 : Int32).toInt = 4 := rfl
  have e5 : (5 : Int32).toInt = 5 := rfl
  have e6 : (6 : Int32).toInt = 6 := rfl
  have e7 : (7 : Int32).toInt = 7 := rfl
  omega
theorem zs_out03 {x : Int32} (h0 : ¬ x = 0) (h1 : ¬ x = 1) (h2 : ¬ x = 2) (h3 : ¬ x = 3) : x.toInt < 0 ∨ 3 < x.toInt := by
  simp only [← Int32.toInt_inj] at *
  have e0 : (0 : Int32).toInt = 0 := rfl
  have e1 : (1 : Int32).toInt = 1 := rfl
  have e2 : (2 : Int32).toInt = 2 := rfl
  have e3 : (3 : Int32).toInt = 3 := rfl
  omega
abbrev zs_b8 (x : Int32) : Prop := x = 0 ∨ x = 1 ∨ x = 2 ∨ x = 3 ∨ x = 4 ∨ x = 5 ∨ x = 6 ∨ x = 7
def zs_riv (f : Nat → Int32) (x : Int32) : Int32 := if x = 7 then zs_dk (f 0) (f 1) else f x.toNatClampNeg
set_option maxRecDepth 100000 in
set_option maxHeartbeats 4000000 in
theorem qX4_rider_t {l : Launch} {M : zk_M} {L : zk_L} {n : Nat} (hI : zs_I M n) {p : Nat} (hp : p < n) {x : Int32} (hx : zs_b8 x) : zk_C l zc 2 muX4_rider [.ref 0, .int (nI p), .int x] M L (zq_i (zs_riv (M (6 + p)) x) M) := by
  refine zk_ofR (ls := [some (.ref 0), some (.int (nI p)), some (.int x), none]) (by decide) rfl (Nat.le_of_ble_eq_true rfl) rfl ?_
  have hp6 : p < 6 := Nat.lt_of_lt_of_le hp hI.1
  refine zk_aload_n dX4_rider_0 rfl ?_
  refine zk_getRc (q := 1) dX4_rider_1 fl_X4_12 (by decide : 0 < zc.1) rfl rfl rfl ?_
  refine zk_iload_n dX4_rider_4 rfl ?_
  refine zk_cVi (q1_hasRider_t hI hp) dX4_rider_5 mwX0_hasRider ml_X4_85 (by decide : 1 < zc.1) rfl rfl (by decide) rfl (Nat.le_of_ble_eq_true rfl) ?_
  refine zk_if_ne (tgt := 17) dX4_rider_8 (by decide) (fun _ => ?_) (fun h8 => absurd h8 (by decide))
  refine zk_aload_n dX4_rider_17 rfl ?_
  refine zk_getRc (q := 1) dX4_rider_18 fl_X4_12 (by decide : 0 < zc.1) rfl rfl rfl ?_
  refine zk_getRc (q := 5) dX4_rider_21 fl_X4_89 (by decide : 1 < zc.1) rfl rfl rfl ?_
  refine zk_iload_n dX4_rider_24 rfl ?_
  refine zk_aald (j := p) (q := (6 + p)) dX4_rider_25 (by decide : 5 < zc.1) rfl (zs_in rfl (vp_in_nI hp6 (by decide))) (nI_clamp (by omega)) rfl ?_
  refine zk_astore_n dX4_rider_26 zk_S_3 ?_
  refine zk_iload_n dX4_rider_27 rfl ?_
  by_cases hx0 : x = 0
  · rw [hx0]
    refine zk_tabIn (off := 48) (tgt := 76) dX4_rider_28 (by decide) (by decide) (by decide) (by decide) ?_
    refine zk_aload_n dX4_rider_76 rfl ?_
    refine zk_getI dX4_rider_77 fl_X4_93 (zc_h6 hp6).1 (zc_h6 hp6).2 rfl ?_
    refine zk_iret rfl dX4_rider_80 ?_
    exact ⟨by first | rfl | simp [zs_riv], zs_same.rf⟩
  by_cases hx1 : x = 1
  · rw [hx1]
    refine zk_tabIn (off := 53) (tgt := 81) dX4_rider_28 (by decide) (by decide) (by decide) (by decide) ?_
    refine zk_aload_n dX4_rider_81 rfl ?_
    refine zk_getI dX4_rider_82 fl_X4_97 (zc_h6 hp6).1 (zc_h6 hp6).2 rfl ?_
    refine zk_iret rfl dX4_rider_85 ?_
    exact ⟨by first | rfl | simp [zs_riv], zs_same.rf⟩
  by_cases hx2 : x = 2
  · rw [hx2]
    refine zk_tabIn (off := 58) (tgt := 86) dX4_rider_28 (by decide) (by decide) (by decide) (by decide) ?_
    refine zk_aload_n dX4_rider_86 rfl ?_
    refine zk_getI dX4_rider_87 fl_X4_100 (zc_h6 hp6).1 (zc_h6 hp6).2 rfl ?_
    refine zk_iret rfl dX4_rider_90 ?_
    exact ⟨by first | rfl | simp [zs_riv], zs_same.rf⟩
  by_cases hx3 : x = 3
  · rw [hx3]
    refine zk_tabIn (off := 63) (tgt := 91) dX4_rider_28 (by decide) (by decide) (by decide) (by decide) ?_
    refine zk_aload_n dX4_rider_91 rfl ?_
    refine zk_getI dX4_rider_92 fl_X4_103 (zc_h6 hp6).1 (zc_h6 hp6).2 rfl ?_
    refine zk_iret rfl dX4_rider_95 ?_
    exact ⟨by first | rfl | simp [zs_riv], zs_same.rf⟩
  by_cases hx4 : x = 4
  · rw [hx4]
    refine zk_tabIn (off := 68) (tgt := 96) dX4_rider_28 (by decide) (by decide) (by decide) (by decide) ?_
    refine zk_aload_n dX4_rider_96 rfl ?_
    refine zk_getI dX4_rider_97 fl_X4_106 (zc_h6 hp6).1 (zc_h6 hp6).2 rfl ?_
    refine zk_iret rfl dX4_rider_100 ?_
    exact ⟨by first | rfl | simp [zs_riv], zs_same.rf⟩
  by_cases hx5 : x = 5
  · rw [hx5]
    refine zk_tabIn (off := 73) (tgt := 101) dX4_rider_28 (by decide) (by decide) (by decide) (by decide) ?_
    refine zk_aload_n dX4_rider_101 rfl ?_
    refine zk_getI dX4_rider_102 fl_X4_109 (zc_h6 hp6).1 (zc_h6 hp6).2 rfl ?_
    refine zk_iret rfl dX4_rider_105 ?_
    exact ⟨by first | rfl | simp [zs_riv], zs_same.rf⟩
  by_cases hx6 : x = 6
  · rw [hx6]
    refine zk_tabIn (off := 78) (tgt := 106) dX4_rider_28 (by decide) (by decide) (by decide) (by decide) ?_
    refine zk_aload_n dX4_rider_106 rfl ?_
    refine zk_getI dX4_rider_107 fl_X4_112 (zc_h6 hp6).1 (zc_h6 hp6).2 rfl ?_
    refine zk_iret rfl dX4_rider_110 ?_
    exact ⟨by first | rfl | simp [zs_riv], zs_same.rf⟩
  by_cases hx7 : x = 7
  · rw [hx7]
    refine zk_tabIn (off := 83) (tgt := 111) dX4_rider_28 (by decide) (by decide) (by decide) (by decide) ?_
    refine zk_aload_n dX4_rider_111 rfl ?_
    refine zk_cVi (qX1_daysForShoe (zc_h6 hp6)) dX4_rider_112 mwX1_daysForShoe ml_X4_115 (zc_h6 hp6).1 (zc_h6 hp6).2 rfl (by decide) rfl (Nat.le_of_ble_eq_true rfl) ?_
    refine zk_iret rfl dX4_rider_115 ?_
    exact ⟨by first | rfl | simp [zs_riv], zs_same.rf⟩
  refine zk_tabOut (tgt := 116) dX4_rider_28 (zs_out07 hx0 hx1 hx2 hx3 hx4 hx5 hx6 hx7) (by decide) ?_
  rcases hx with q | q | q | q | q | q | q | q <;> exact absurd q (by assumption)
set_option maxRecDepth 100000 in
set_option maxHeartbeats 4000000 in
theorem qX4_rider_r2 {l : Launch} {M : zk_M} {L : zk_L} {n : Nat} (hI : zs_I M n) {p : Nat} (hp : p < n) {x : Int32} (hx : ¬ zs_b8 x) : zk_C l zc 2 muX4_rider [.ref 0, .int (nI p), .int x] M L (zq_i (-2) (zs_ref M 2)) := by
  refine zk_ofR (ls := [some (.ref 0), some (.int (nI p)), some (.int x), none]) (by decide) rfl (Nat.le_of_ble_eq_true rfl) rfl ?_
  have hp6 : p < 6 := Nat.lt_of_lt_of_le hp hI.1
  refine zk_aload_n dX4_rider_0 rfl ?_
  refine zk_getRc (q := 1) dX4_rider_1 fl_X4_12 (by decide : 0 < zc.1) rfl rfl rfl ?_
  refine zk_iload_n dX4_rider_4 rfl ?_
  refine zk_cVi (q1_hasRider_t hI hp) dX4_rider_5 mwX0_hasRider ml_X4_85 (by decide : 1 < zc.1) rfl rfl (by decide) rfl (Nat.le_of_ble_eq_true rfl) ?_
  refine zk_if_ne (tgt := 17) dX4_rider_8 (by decide) (fun _ => ?_) (fun h8 => absurd h8 (by decide))
  refine zk_aload_n dX4_rider_17 rfl ?_
  refine zk_getRc (q := 1) dX4_rider_18 fl_X4_12 (by decide : 0 < zc.1) rfl rfl rfl ?_
  refine zk_getRc (q := 5) dX4_rider_21 fl_X4_89 (by decide : 1 < zc.1) rfl rfl rfl ?_
  refine zk_iload_n dX4_rider_24 rfl ?_
  refine zk_aald (j := p) (q := (6 + p)) dX4_rider_25 (by decide : 5 < zc.1) rfl (zs_in rfl (vp_in_nI hp6 (by decide))) (nI_clamp (by omega)) rfl ?_
  refine zk_astore_n dX4_rider_26 zk_S_3 ?_
  refine zk_iload_n dX4_rider_27 rfl ?_
  by_cases hx0 : x = 0
  · rw [hx0]
    refine zk_tabIn (off := 48) (tgt := 76) dX4_rider_28 (by decide) (by decide) (by decide) (by decide) ?_
    exact absurd (by simp_all) hx
  by_cases hx1 : x = 1
  · rw [hx1]
    refine zk_tabIn (off := 53) (tgt := 81) dX4_rider_28 (by decide) (by decide) (by decide) (by decide) ?_
    exact absurd (by simp_all) hx
  by_cases hx2 : x = 2
  · rw [hx2]
    refine zk_tabIn (off := 58) (tgt := 86) dX4_rider_28 (by decide) (by decide) (by decide) (by decide) ?_
    exact absurd (by simp_all) hx
  by_cases hx3 : x = 3
  · rw [hx3]
    refine zk_tabIn (off := 63) (tgt := 91) dX4_rider_28 (by decide) (by decide) (by decide) (by decide) ?_
    exact absurd (by simp_all) hx
  by_cases hx4 : x = 4
  · rw [hx4]
    refine zk_tabIn (off := 68) (tgt := 96) dX4_rider_28 (by decide) (by decide) (by decide) (by decide) ?_
    exact absurd (by simp_all) hx
  by_cases hx5 : x = 5
  · rw [hx5]
    refine zk_tabIn (off := 73) (tgt := 101) dX4_rider_28 (by decide) (by decide) (by decide) (by decide) ?_
    exact absurd (by simp_all) hx
  by_cases hx6 : x = 6
  · rw [hx6]
    refine zk_tabIn (off := 78) (tgt := 106) dX4_rider_28 (by decide) (by decide) (by decide) (by decide) ?_
    exact absurd (by simp_all) hx
  by_cases hx7 : x = 7
  · rw [hx7]
    refine zk_tabIn (off := 83) (tgt := 111) dX4_rider_28 (by decide) (by decide) (by decide) (by decide) ?_
    exact absurd (by simp_all) hx
  refine zk_tabOut (tgt := 116) dX4_rider_28 (zs_out07 hx0 hx1 hx2 hx3 hx4 hx5 hx6 hx7) (by decide) ?_
  refine zk_aload_n dX4_rider_116 rfl ?_
  refine zk_bipush dX4_rider_117 zb_m2 ?_
  refine zk_cVi (qrf2) dX4_rider_119 mwX4_refuse ml_X4_63 (by decide : 0 < zc.1) rfl rfl (by decide) rfl (Nat.le_of_ble_eq_true rfl) ?_
  refine zk_iret rfl dX4_rider_122 ?_
  exact ⟨rfl, zs_same.rf⟩
set_option maxRecDepth 100000 in
set_option maxHeartbeats 4000000 in
theorem qX4_comes_r {l : Launch} {M : zk_M} {L : zk_L} {n : Nat} (hI : zs_I M n) {r x : Int32} (hn : ¬ (zs_isr (M 1 2) r ∧ zs_p x)) : zk_C l zc 6 muX4_comes [.ref 0, .int r, .int x] M L (zq_i (-1) (zs_ref M 1)) := by
  refine zk_ofR (ls := [some (.ref 0), some (.int r), some (.int x)]) (by decide) rfl (Nat.le_of_ble_eq_true rfl) rfl ?_
  refine zk_aload_n dX4_comes_0 rfl ?_
  refine zk_getRc (q := 1) dX4_comes_1 fl_X4_12 (by decide : 0 < zc.1) rfl rfl rfl ?_
  refine zk_iload_n dX4_comes_4 rfl ?_
  refine zk_cVi (q1_hasRider hI) dX4_comes_5 mwX0_hasRider ml_X4_85 (by decide : 1 < zc.1) rfl rfl (by decide) rfl (Nat.le_of_ble_eq_true rfl) ?_
  refine zk_if_eq (tgt := 18) dX4_comes_8 (by decide) (fun h8 => ?_) (fun h8 => ?_)
  · have hr := zs_if0 h8
    refine zk_aload_n dX4_comes_18 rfl ?_
    refine zk_iconst dX4_comes_19 zc_m1 ?_
    refine zk_cVi (qrf1) dX4_comes_20 mwX4_refuse ml_X4_63 (by decide : 0 < zc.1) rfl rfl (by decide) rfl (Nat.le_of_ble_eq_true rfl) ?_
    refine zk_iret rfl dX4_comes_23 ?_
    exact ⟨rfl, zs_same.rf⟩
  · have hr := zs_if1 h8
    refine zk_iload_n dX4_comes_11 rfl ?_
    refine zk_cSi (qX4_isPlace) dX4_comes_12 miX4_isPlace ml_X4_119 stX4_isPlace rfl (by decide) rfl (Nat.le_of_ble_eq_true rfl) ?_
    refine zk_if_ne (tgt := 24) dX4_comes_15 (by decide) (fun h15 => ?_) (fun h15 => ?_)
    · have hx := zs_if1 h15
      exact absurd ⟨hr, hx⟩ hn
    · have hx := zs_if0 h15
      refine zk_aload_n dX4_comes_18 rfl ?_
      refine zk_iconst dX4_comes_19 zc_m1 ?_
      refine zk_cVi (qrf1) dX4_comes_20 mwX4_refuse ml_X4_63 (by decide : 0 < zc.1) rfl rfl (by decide) rfl (Nat.le_of_ble_eq_true rfl) ?_
      refine zk_iret rfl dX4_comes_23 ?_
      exact ⟨rfl, zs_same.rf⟩
set_option maxRecDepth 100000 in
set_option maxHeartbeats 4000000 in
theorem qX4_comes_t {l : Launch} {M : zk_M} {L : zk_L} {n : Nat} (hI : zs_I M n) {p : Nat} (hp : p < n) {x : Int32} (hx : zs_p x) : zk_C l zc 6 muX4_comes [.ref 0, .int (nI p), .int x] M L (zq_i (if 60 < zs_cm M p x then -9 else zs_cm M p x) M) := by
  refine zk_ofR (ls := [some (.ref 0), some (.int (nI p)), some (.int x)]) (by decide) rfl (Nat.le_of_ble_eq_true rfl) rfl ?_
  refine zk_aload_n dX4_comes_0 rfl ?_
  refine zk_getRc (q := 1) dX4_comes_1 fl_X4_12 (by decide : 0 < zc.1) rfl rfl rfl ?_
  refine zk_iload_n dX4_comes_4 rfl ?_
  refine zk_cVi (q1_hasRider_t hI hp) dX4_comes_5 mwX0_hasRider ml_X4_85 (by decide : 1 < zc.1) rfl rfl (by decide) rfl (Nat.le_of_ble_eq_true rfl) ?_
  refine zk_if_eq (tgt := 18) dX4_comes_8 (by decide) (fun h8 => absurd h8 (by decide)) (fun _ => ?_)
  refine zk_iload_n dX4_comes_11 rfl ?_
  refine zk_cSi (qX4_isPlace_t hx) dX4_comes_12 miX4_isPlace ml_X4_119 stX4_isPlace rfl (by decide) rfl (Nat.le_of_ble_eq_true rfl) ?_
  refine zk_if_ne (tgt := 24) dX4_comes_15 (by decide) (fun _ => ?_) (fun h15 => absurd h15 (by decide))
  refine zk_aload_n dX4_comes_24 rfl ?_
  refine zk_iload_n dX4_comes_25 rfl ?_
  refine zk_iload_n dX4_comes_26 rfl ?_
  refine zk_cVqi (qX4_comesNow hI zs_same.rf hp) dX4_comes_27 mwX4_comesNow ml_X4_175 (by decide : 0 < zc.1) rfl rfl (by decide) rfl (Nat.le_of_ble_eq_true rfl) (fun M1 L1 hs1 => ?_)
  refine zk_cSi (qX4_dayOrNone) dX4_comes_30 miX4_dayOrNone ml_X4_178 stX4_dayOrNone rfl (by decide) rfl (Nat.le_of_ble_eq_true rfl) ?_
  refine zk_iret rfl dX4_comes_33 ?_
  exact ⟨rfl, hs1⟩
