def zs_meet (J T : Nat → Int32) (x : Int32) : Nat → Nat → (Nat → Int32) → (Nat → Int32) → Int32
  | 0, _, _, _ => -9
  | m + 1, day, f, g => if f 4 = g 4 then (if x = 0 then nI day else f 4) else zs_meet J T x m (day + 1) (zs_ride J T f) (zs_ride J T g)
theorem zs_meet_ag {J J' T T' : Nat → Int32} {x : Int32} (hJ : zs_ag 8 J J') (hT : zs_ag 64 T T') : ∀ (m day : Nat) (f g f' g' : Nat → Int32), zs_ag 7 f f' → zs_ag 7 g g' → zs_ok f → zs_ok g → zs_meet J T x m day f g = zs_meet J' T' x m day f' g'
  | 0, _, _, _, _, _, _, _, _, _ => rfl
  | m + 1, day, f, g, f', g', h, h', ok, ok' => by
    unfold zs_meet
    rw [h 4 (by decide), h' 4 (by decide), zs_meet_ag hJ hT m (day + 1) _ _ _ _ (zs_ride_ag hJ hT h ok) (zs_ride_ag hJ hT h' ok') (zs_ride_ok ok) (zs_ride_ok ok')]
set_option maxRecDepth 100000 in
set_option maxHeartbeats 4000000 in
theorem lX4_meet {l : Launch} {L : zk_L} {M0 : zk_M} {r r' x v : Int32} : ∀ (m i : Nat) (M : zk_M), i + m = 61 → zs_same M0 M → zs_ok (M 37) → zs_ok (M 38) → v = zs_meet (M0 3) (M0 4) x m i (M 37) (M 38) → zk_R l zc 4 muX4_meet 72 [some (.ref 0), some (.int r), some (.int r'), some (.int x), some (.int (nI i))] [] M L (zq_i v M0) := by
  intro m
  induction m with
  | zero =>
    intro i M hi hs ok ok' ek
    obtain rfl : i = 61 := by omega
    refine zk_iload dX4_meet_72 rfl ?_
    refine zk_bipush (v := 60) dX4_meet_74 (by decide) ?_
    refine zk_icmp_gt (tgt := 147) dX4_meet_76 (by decide) (fun _ => ?_) (fun q => absurd (by decide) q)
    refine zk_bipush (v := -9) dX4_meet_147 (by decide) ?_
    refine zk_iret rfl dX4_meet_149 ?_
    exact ⟨by rw [ek]; rfl, hs⟩
  | succ m ih =>
    intro i M hi hs ok ok' ek
    refine zk_iload dX4_meet_72 rfl ?_
    refine zk_bipush dX4_meet_74 zb_60 ?_
    refine zk_icmp_gt (tgt := 147) dX4_meet_76 (by decide) (fun h76 => absurd h76 (nI_nlt (a := 60) (show i ≤ 60 by omega) (by decide))) (fun _ => ?_)
    refine zk_aload_n dX4_meet_79 rfl ?_
    refine zk_getRc (q := 37) dX4_meet_80 fl_X4_32 (by decide : 0 < zc.1) rfl rfl rfl ?_
    refine zk_getI dX4_meet_83 fl_X4_106 (by decide : 37 < zc.1) rfl rfl ?_
    refine zk_aload_n dX4_meet_86 rfl ?_
    refine zk_getRc (q := 38) dX4_meet_87 fl_X4_36 (by decide : 0 < zc.1) rfl rfl rfl ?_
    refine zk_getI dX4_meet_90 fl_X4_106 (by decide : 38 < zc.1) rfl rfl ?_
    refine zk_icmp_ne (tgt := 113) dX4_meet_93 (by decide) (fun h93 => ?_) (fun h93 => ?_)
    · refine zk_aload_n dX4_meet_113 rfl ?_
      refine zk_getRc (q := 37) dX4_meet_114 fl_X4_32 (by decide : 0 < zc.1) rfl rfl rfl ?_
      refine zk_aload_n dX4_meet_117 rfl ?_
      refine zk_getRc (q := 1) dX4_meet_118 fl_X4_12 (by decide : 0 < zc.1) rfl rfl rfl ?_
      refine zk_getRc (q := 2) dX4_meet_121 fl_X4_122 (by decide : 1 < zc.1) rfl rfl rfl ?_
      refine zk_cVv (q37_rideDay ok) dX4_meet_124 mwX1_rideDay ml_X4_184 (by decide : 37 < zc.1) rfl rfl (by decide) rfl (Nat.le_of_ble_eq_true rfl) ?_
      refine zk_aload_n dX4_meet_127 rfl ?_
      refine zk_getRc (q := 38) dX4_meet_128 fl_X4_36 (by decide : 0 < zc.1) rfl rfl rfl ?_
      refine zk_aload_n dX4_meet_131 rfl ?_
      refine zk_getRc (q := 1) dX4_meet_132 fl_X4_12 (by decide : 0 < zc.1) rfl rfl rfl ?_
      refine zk_getRc (q := 2) dX4_meet_135 fl_X4_122 (by decide : 1 < zc.1) rfl rfl rfl ?_
      refine zk_cVv (q38_rideDay (by rw [zk_up_ne (by decide)]; exact ok')) dX4_meet_138 mwX1_rideDay ml_X4_184 (by decide : 38 < zc.1) rfl rfl (by decide) rfl (Nat.le_of_ble_eq_true rfl) ?_
      refine zk_gen (fun M2 => M2 37 = zs_ride (M0 3) (M0 4) (M 37) ∧ M2 38 = zs_ride (M0 3) (M0 4) (M 38) ∧ zs_same M0 M2) ⟨by rw [zk_up_ne (by decide), zk_up_eq, hs 3 (by decide) (by decide), hs 4 (by decide) (by decide)], by rw [zk_up_eq, zk_up_ne (by decide), zk_up_ne (by decide), zk_up_ne (by decide), hs 3 (by decide) (by decide), hs 4 (by decide) (by decide)], (hs.up (by omega)).up (by omega)⟩ (fun M2 hM2 => ?_)
      obtain ⟨h37, h38, hs2⟩ := hM2
      refine zk_iinc dX4_meet_141 zc_1 rfl zk_S_4 ?_
      refine zk_goto (tgt := 72) dX4_meet_144 (by decide) ?_
      rw [← nI_succ]
      refine ih (i + 1) _ (by omega) hs2 (by rw [h37]; exact zs_ride_ok ok) (by rw [h38]; exact zs_ride_ok ok') ?_
      rw [h37, h38, ek, zs_meet, if_neg h93]
    · refine zk_iload_n dX4_meet_96 rfl ?_
      refine zk_if_ne (tgt := 105) dX4_meet_97 (by decide) (fun h97 => ?_) (fun h97 => ?_)
      · refine zk_aload_n dX4_meet_105 rfl ?_
        refine zk_getRc (q := 37) dX4_meet_106 fl_X4_32 (by decide : 0 < zc.1) rfl rfl rfl ?_
        refine zk_getI dX4_meet_109 fl_X4_106 (by decide : 37 < zc.1) rfl rfl ?_
        refine zk_iret rfl dX4_meet_112 ?_
        exact ⟨by rw [ek, zs_meet, if_pos h93]; first | exact congrArg (fun v => some (Value.int v)) (if_pos h97).symm | exact congrArg (fun v => some (Value.int v)) (if_neg h97).symm, hs⟩
      · refine zk_iload dX4_meet_100 rfl ?_
        refine zk_goto (tgt := 112) dX4_meet_102 (by decide) ?_
        refine zk_iret rfl dX4_meet_112 ?_
        exact ⟨by rw [ek, zs_meet, if_pos h93]; first | exact congrArg (fun v => some (Value.int v)) (if_pos h97).symm | exact congrArg (fun v => some (Value.int v)) (if_neg h97).symm, hs⟩
set_option maxRecDepth 100000 in
set_option maxHeartbeats 4000000 in
theorem qX4_meet_r1 {l : Launch} {M : zk_M} {L : zk_L} {n : Nat} (hI : zs_I M n) {a b x : Int32} (hn : ¬ (zs_isr (M 1 2) a ∧ zs_isr (M 1 2) b ∧ ¬ a = b)) : zk_C l zc 4 muX4_meet [.ref 0, .int a, .int b, .int x] M L (zq_i (-1) (zs_ref M 1)) := by
  refine zk_ofR (ls := [some (.ref 0), some (.int a), some (.int b), some (.int x), none]) (by decide) rfl (Nat.le_of_ble_eq_true rfl) rfl ?_
  refine zk_aload_n dX4_meet_0 rfl ?_
  refine zk_getRc (q := 1) dX4_meet_1 fl_X4_12 (by decide : 0 < zc.1) rfl rfl rfl ?_
  refine zk_iload_n dX4_meet_4 rfl ?_
  refine zk_cVi (q1_hasRider hI) dX4_meet_5 mwX0_hasRider ml_X4_85 (by decide : 1 < zc.1) rfl rfl (by decide) rfl (Nat.le_of_ble_eq_true rfl) ?_
  refine zk_if_eq (tgt := 27) dX4_meet_8 (by decide) (fun h8 => ?_) (fun h8 => ?_)
  · have ha := zs_if0 h8
    refine zk_aload_n dX4_meet_27 rfl ?_
    refine zk_iconst dX4_meet_28 zc_m1 ?_
    refine zk_cVi (qrf1) dX4_meet_29 mwX4_refuse ml_X4_63 (by decide : 0 < zc.1) rfl rfl (by decide) rfl (Nat.le_of_ble_eq_true rfl) ?_
    refine zk_iret rfl dX4_meet_32 ?_
    exact ⟨rfl, zs_same.rf⟩
  · have ha := zs_if1 h8
    refine zk_aload_n dX4_meet_11 rfl ?_
    refine zk_getRc (q := 1) dX4_meet_12 fl_X4_12 (by decide : 0 < zc.1) rfl rfl rfl ?_
    refine zk_iload_n dX4_meet_15 rfl ?_
    refine zk_cVi (q1_hasRider hI) dX4_meet_16 mwX0_hasRider ml_X4_85 (by decide : 1 < zc.1) rfl rfl (by decide) rfl (Nat.le_of_ble_eq_true rfl) ?_
    refine zk_if_eq (tgt := 27) dX4_meet_19 (by decide) (fun h19 => ?_) (fun h19 => ?_)
    · have hb := zs_if0 h19
      refine zk_aload_n dX4_meet_27 rfl ?_
      refine zk_iconst dX4_meet_28 zc_m1 ?_
      refine zk_cVi (qrf1) dX4_meet_29 mwX4_refuse ml_X4_63 (by decide : 0 < zc.1) rfl rfl (by decide) rfl (Nat.le_of_ble_eq_true rfl) ?_
      refine zk_iret rfl dX4_meet_32 ?_
      exact ⟨rfl, zs_same.rf⟩
    · have hb := zs_if1 h19
      refine zk_iload_n dX4_meet_22 rfl ?_
      refine zk_iload_n dX4_meet_23 rfl ?_
      refine zk_icmp_ne (tgt := 33) dX4_meet_24 (by decide) (fun h24 => ?_) (fun h24 => ?_)
      · exact absurd ⟨ha, hb, h24⟩ hn
      · refine zk_aload_n dX4_meet_27 rfl ?_
        refine zk_iconst dX4_meet_28 zc_m1 ?_
        refine zk_cVi (qrf1) dX4_meet_29 mwX4_refuse ml_X4_63 (by decide : 0 < zc.1) rfl rfl (by decide) rfl (Nat.le_of_ble_eq_true rfl) ?_
        refine zk_iret rfl dX4_meet_32 ?_
        exact ⟨rfl, zs_same.rf⟩
set_option maxRecDepth 100000 in
set_option maxHeartbeats 4000000 in
theorem qX4_meet_r2 {l : Launch} {M : zk_M} {L : zk_L} {n : Nat} (hI : zs_I M n) {p q : Nat} (hp : p < n) (hq : q < n) (hpq : ¬ p = q) {x : Int32} (hx : ¬ (0 ≤ x ∧ x < 2)) : zk_C l zc 4 muX4_meet [.ref 0, .int (nI p), .int (nI q), .int x] M L (zq_i (-2) (zs_ref M 2)) := by
  refine zk_ofR (ls := [some (.ref 0), some (.int (nI p)), some (.int (nI q)), some (.int x), none]) (by decide) rfl (Nat.le_of_ble_eq_true rfl) rfl ?_
  have hn6 := hI.1
  have hp6 : p < 6 := Nat.lt_of_lt_of_le hp hI.1
  have hq6 : q < 6 := Nat.lt_of_lt_of_le hq hI.1
  refine zk_aload_n dX4_meet_0 rfl ?_
  refine zk_getRc (q := 1) dX4_meet_1 fl_X4_12 (by decide : 0 < zc.1) rfl rfl rfl ?_
  refine zk_iload_n dX4_meet_4 rfl ?_
  refine zk_cVi (q1_hasRider_t hI hp) dX4_meet_5 mwX0_hasRider ml_X4_85 (by decide : 1 < zc.1) rfl rfl (by decide) rfl (Nat.le_of_ble_eq_true rfl) ?_
  refine zk_if_eq (tgt := 27) dX4_meet_8 (by decide) (fun h8 => absurd h8 (by decide)) (fun _ => ?_)
  refine zk_aload_n dX4_meet_11 rfl ?_
  refine zk_getRc (q := 1) dX4_meet_12 fl_X4_12 (by decide : 0 < zc.1) rfl rfl rfl ?_
  refine zk_iload_n dX4_meet_15 rfl ?_
  refine zk_cVi (q1_hasRider_t hI hq) dX4_meet_16 mwX0_hasRider ml_X4_85 (by decide : 1 < zc.1) rfl rfl (by decide) rfl (Nat.le_of_ble_eq_true rfl) ?_
  refine zk_if_eq (tgt := 27) dX4_meet_19 (by decide) (fun h19 => absurd h19 (by decide)) (fun _ => ?_)
  refine zk_iload_n dX4_meet_22 rfl ?_
  refine zk_iload_n dX4_meet_23 rfl ?_
  refine zk_icmp_ne (tgt := 33) dX4_meet_24 (by decide) (fun _ => ?_) (fun h24 => absurd h24 (fun e => hpq (zs_nI_inj (by omega) (by omega) e)))
  refine zk_iload_n dX4_meet_33 rfl ?_
  refine zk_iconst dX4_meet_34 zc_2 ?_
  refine zk_cSi (qX4_isBelow_f hx) dX4_meet_35 miX4_isBelow ml_X4_149 stX4_isBelow rfl (by decide) rfl (Nat.le_of_ble_eq_true rfl) ?_
  refine zk_if_ne (tgt := 48) dX4_meet_38 (by decide) (fun h38 => absurd (rfl) h38) (fun _ => ?_)
  refine zk_aload_n dX4_meet_41 rfl ?_
  refine zk_bipush dX4_meet_42 zb_m2 ?_
  refine zk_cVi (qrf2) dX4_meet_44 mwX4_refuse ml_X4_63 (by decide : 0 < zc.1) rfl rfl (by decide) rfl (Nat.le_of_ble_eq_true rfl) ?_
  refine zk_iret rfl dX4_meet_47 ?_
  exact ⟨rfl, zs_same.rf⟩
set_option maxRecDepth 100000 in
set_option maxHeartbeats 4000000 in
theorem qX4_meet_t {l : Launch} {M : zk_M} {L : zk_L} {n : Nat} (hI : zs_I M n) {p q : Nat} (hp : p < n) (hq : q < n) (hpq : ¬ p = q) {x : Int32} (hx : 0 ≤ x ∧ x < 2) : zk_C l zc 4 muX4_meet [.ref 0, .int (nI p), .int (nI q), .int x] M L (zq_i (zs_meet (M 3) (M 4) x 61 0 (M (6 + p)) (M (6 + q))) M) := by
  refine zk_ofR (ls := [some (.ref 0), some (.int (nI p)), some (.int (nI q)), some (.int x), none]) (by decide) rfl (Nat.le_of_ble_eq_true rfl) rfl ?_
  have hn6 := hI.1
  have hp6 : p < 6 := Nat.lt_of_lt_of_le hp hI.1
  have hq6 : q < 6 := Nat.lt_of_lt_of_le hq hI.1
  refine zk_aload_n dX4_meet_0 rfl ?_
  refine zk_getRc (q := 1) dX4_meet_1 fl_X4_12 (by decide : 0 < zc.1) rfl rfl rfl ?_
  refine zk_iload_n dX4_meet_4 rfl ?_
  refine zk_cVi (q1_hasRider_t hI hp) dX4_meet_5 mwX0_hasRider ml_X4_85 (by decide : 1 < zc.1) rfl rfl (by decide) rfl (Nat.le_of_ble_eq_true rfl) ?_
  refine zk_if_eq (tgt := 27) dX4_meet_8 (by decide) (fun h8 => absurd h8 (by decide)) (fun _ => ?_)
  refine zk_aload_n dX4_meet_11 rfl ?_
  refine zk_getRc (q := 1) dX4_meet_12 fl_X4_12 (by decide : 0 < zc.1) rfl rfl rfl ?_
  refine zk_iload_n dX4_meet_15 rfl ?_
  refine zk_cVi (q1_hasRider_t hI hq) dX4_meet_16 mwX0_hasRider ml_X4_85 (by decide : 1 < zc.1) rfl rfl (by decide) rfl (Nat.le_of_ble_eq_true rfl) ?_
  refine zk_if_eq (tgt := 27) dX4_meet_19 (by decide) (fun h19 => absurd h19 (by decide)) (fun _ => ?_)
  refine zk_iload_n dX4_meet_22 rfl ?_
  refine zk_iload_n dX4_meet_23 rfl ?_
  refine zk_icmp_ne (tgt := 33) dX4_meet_24 (by decide) (fun _ => ?_) (fun h24 => absurd h24 (fun e => hpq (zs_nI_inj (by omega) (by omega) e)))
  refine zk_iload_n dX4_meet_33 rfl ?_
  refine zk_iconst dX4_meet_34 zc_2 ?_
  refine zk_cSi (qX4_isBelow_t hx) dX4_meet_35 miX4_isBelow ml_X4_149 stX4_isBelow rfl (by decide) rfl (Nat.le_of_ble_eq_true rfl) ?_
  refine zk_if_ne (tgt := 48) dX4_meet_38 (by decide) (fun _ => ?_) (fun h38 => absurd h38 (by decide))
  refine zk_aload_n dX4_meet_48 rfl ?_
  refine zk_iload_n dX4_meet_49 rfl ?_
  refine zk_cVv (qX4_thinkOf hI hp) dX4_meet_50 mwX4_thinkOf ml_X4_167 (by decide : 0 < zc.1) rfl rfl (by decide) rfl (Nat.le_of_ble_eq_true rfl) ?_
  refine zk_aload_n dX4_meet_53 rfl ?_
  refine zk_getRc (q := 38) dX4_meet_54 fl_X4_36 (by decide : 0 < zc.1) rfl rfl rfl ?_
  refine zk_aload_n dX4_meet_57 rfl ?_
  refine zk_getRc (q := 1) dX4_meet_58 fl_X4_12 (by decide : 0 < zc.1) rfl rfl rfl ?_
  refine zk_getRc (q := 5) dX4_meet_61 fl_X4_89 (by decide : 1 < zc.1) rfl rfl rfl ?_
  refine zk_iload_n dX4_meet_64 rfl ?_
  refine zk_aald (j := q) (q := (6 + q)) dX4_meet_65 (by decide : 5 < zc.1) rfl (zs_in rfl (vp_in_nI hq6 (by decide))) (nI_clamp (by omega)) rfl ?_
  refine zk_cVv (q38_becomes hq6) dX4_meet_66 mwX1_becomes ml_X4_188 (by decide : 38 < zc.1) rfl rfl (by decide) rfl (Nat.le_of_ble_eq_true rfl) ?_
  refine zk_iconst dX4_meet_69 zc_0 ?_
  refine zk_istore dX4_meet_70 zk_S_4 ?_
  refine lX4_meet 61 0 _ rfl ((zs_same.rf.up (by omega)).up (by omega)) (by rw [zk_up_ne (by decide)]; exact hI.ok37 hp) (by rw [zk_up_eq, zk_up_ne (by omega)]; exact zs_ok_ag zs_cp_ag.sm (hI.2.2 q hq6)) ?_
  rw [zk_up_eq, zk_up_ne (show (37 : Nat) ≠ 38 by decide), zk_up_eq, zk_up_ne (show 6 + q ≠ 37 by omega), zk_up_ne (show (38 : Nat) ≠ 37 by decide)]
  exact zs_meet_ag zs_ag.rf zs_ag.rf 61 0 _ _ _ _ zs_cp_ag.sm zs_cp_ag.sm (hI.2.2 p hp6) (hI.2.2 q hq6)
def zs_dw (J T : Nat → Int32) : Nat → Nat → (Nat → Int32) → Int64 → Int64
  | 0, _, _, x => x
  | m + 1, day, f, x => zs_dw J T m (day + 1) (zs_ride J T f) (if f 4 = f 3 then x ||| 1 <<< ((nI day).toInt64 &&& 63) else x)
theorem zs_dw_ag {J J' T T' : Nat → Int32} (hJ : zs_ag 8 J J') (hT : zs_ag 64 T T') : ∀ (m day : Nat) (f g : Nat → Int32) (x : Int64), zs_ag 7 f g → zs_ok f → zs_dw J T m day f x = zs_dw J' T' m day g x
  | 0, _, _, _, _, _, _ => rfl
  | m + 1, day, f, g, x, h, ok => by
    unfold zs_dw
    rw [h 4 (by decide), h 3 (by decide)]
    exact zs_dw_ag hJ hT m (day + 1) _ _ _ (zs_ride_ag hJ hT h ok) (zs_ride_ok ok)
theorem zs_lcmp0 {x y : Int64} (h : lg_cmp x y = 0) : x = y := by
  unfold lg_cmp at h
  split at h
  · exact absurd h (by decide)
  · split at h
    · assumption
    · exact absurd h (by decide)
theorem zs_lcmpn {x y : Int64} (h : ¬ lg_cmp x y = 0) : ¬ x = y := fun e => h (by subst e; simp [lg_cmp])
def zs_bday (x : Int64) : Nat → Nat → Int32
  | 0, _ => -9
  | m + 1, day => if x >>> ((nI day).toInt64 &&& 63) &&& 1 = 1 then nI day else zs_bday x m (day + 1)
set_option maxRecDepth 100000 in
set_option maxHeartbeats 4000000 in
theorem lX4_mdw {l : Launch} {L : zk_L} {M0 : zk_M} {v : Int64} : ∀ (m i : Nat) (x : Int64) (M : zk_M), i + m = 61 → zs_same M0 M → zs_ok (M 37) → v = zs_dw (M0 3) (M0 4) m i (M 37) x → zk_R l zc 4 muX4_mindDaysWhereHeSays 4 [some (.ref 0), some (.long x), none, some (.int (nI i))] [] M L (zq_l v M0) := by
  intro m
  induction m with
  | zero =>
    intro i x M hi hs ok ek
    obtain rfl : i = 61 := by omega
    refine zk_iload_n dX4_mindDaysWhereHeSays_4 rfl ?_
    refine zk_bipush (v := 60) dX4_mindDaysWhereHeSays_5 (by decide) ?_
    refine zk_icmp_gt (tgt := 46) dX4_mindDaysWhereHeSays_7 (by decide) (fun _ => ?_) (fun q => absurd (by decide) q)
    refine zk_lload_n dX4_mindDaysWhereHeSays_46 rfl ?_
    refine zk_lret rfl dX4_mindDaysWhereHeSays_47 ?_
    exact ⟨by rw [ek]; rfl, hs⟩
  | succ m ih =>
    intro i x M hi hs ok ek
    refine zk_iload_n dX4_mindDaysWhereHeSays_4 rfl ?_
    refine zk_bipush dX4_mindDaysWhereHeSays_5 zb_60 ?_
    refine zk_icmp_gt (tgt := 46) dX4_mindDaysWhereHeSays_7 (by decide) (fun h7 => absurd h7 (nI_nlt (a := 60) (show i ≤ 60 by omega) (by decide))) (fun _ => ?_)
    refine zk_aload_n dX4_mindDaysWhereHeSays_10 rfl ?_
    refine zk_getRc (q := 37) dX4_mindDaysWhereHeSays_11 fl_X4_32 (by decide : 0 < zc.1) rfl rfl rfl ?_
    refine zk_cVi (qX1_isWhereHeSays zc_h37) dX4_mindDaysWhereHeSays_14 mwX1_isWhereHeSays ml_X4_267 (by decide : 37 < zc.1) rfl rfl (by decide) rfl (Nat.le_of_ble_eq_true rfl) ?_
    refine zk_if_eq (tgt := 26) dX4_mindDaysWhereHeSays_17 (by decide) (fun h17 => ?_) (fun h17 => ?_)
    · have hq := zs_if0 h17
      refine zk_aload_n dX4_mindDaysWhereHeSays_26 rfl ?_
      refine zk_getRc (q := 37) dX4_mindDaysWhereHeSays_27 fl_X4_32 (by decide : 0 < zc.1) rfl rfl rfl ?_
      refine zk_aload_n dX4_mindDaysWhereHeSays_30 rfl ?_
      refine zk_getRc (q := 1) dX4_mindDaysWhereHeSays_31 fl_X4_12 (by decide : 0 < zc.1) rfl rfl rfl ?_
      refine zk_getRc (q := 2) dX4_mindDaysWhereHeSays_34 fl_X4_122 (by decide : 1 < zc.1) rfl rfl rfl ?_
      refine zk_cVv (q37_rideDay ok) dX4_mindDaysWhereHeSays_37 mwX1_rideDay ml_X4_184 (by decide : 37 < zc.1) rfl rfl (by decide) rfl (Nat.le_of_ble_eq_true rfl) ?_
      refine zk_iinc dX4_mindDaysWhereHeSays_40 zc_1 rfl zk_S_3 ?_
      refine zk_goto (tgt := 4) dX4_mindDaysWhereHeSays_43 (by decide) ?_
      rw [← nI_succ]
      first
        | (refine ih (i + 1) _ _ (by omega) (hs.up (by omega)) (by rw [zk_up_eq]; exact zs_ride_ok ok) ?_
           rw [zk_up_eq, ek, zs_dw, if_pos hq, hs 3 (by decide) (by decide), hs 4 (by decide) (by decide)])
        | (refine ih (i + 1) _ _ (by omega) (hs.up (by omega)) (by rw [zk_up_eq]; exact zs_ride_ok ok) ?_
           rw [zk_up_eq, ek, zs_dw, if_neg hq, hs 3 (by decide) (by decide), hs 4 (by decide) (by decide)])
    · have hq := zs_if1 h17
      refine zk_lload_n dX4_mindDaysWhereHeSays_20 rfl ?_
      refine zk_lconst (v := 1) dX4_mindDaysWhereHeSays_21 (by decide) ?_
      refine zk_iload_n dX4_mindDaysWhereHeSays_22 rfl ?_
      refine zk_lshl dX4_mindDaysWhereHeSays_23 ?_
      refine zk_lor dX4_mindDaysWhereHeSays_24 ?_
      refine zk_lstore_n dX4_mindDaysWhereHeSays_25 zk_S2_1 ?_
      refine zk_aload_n dX4_mindDaysWhereHeSays_26 rfl ?_
      refine zk_getRc (q := 37) dX4_mindDaysWhereHeSays_27 fl_X4_32 (by decide : 0 < zc.1) rfl rfl rfl ?_
      refine zk_aload_n dX4_mindDaysWhereHeSays_30 rfl ?_
      refine zk_getRc (q := 1) dX4_mindDaysWhereHeSays_31 fl_X4_12 (by decide : 0 < zc.1) rfl rfl rfl ?_
      refine zk_getRc (q := 2) dX4_mindDaysWhereHeSays_34 fl_X4_122 (by decide : 1 < zc.1) rfl rfl rfl ?_
      refine zk_cVv (q37_rideDay ok) dX4_mindDaysWhereHeSays_37 mwX1_rideDay ml_X4_184 (by decide : 37 < zc.1) rfl rfl (by decide) rfl (Nat.le_of_ble_eq_true rfl) ?_
      refine zk_iinc dX4_mindDaysWhereHeSays_40 zc_1 rfl zk_S_3 ?_
      refine zk_goto (tgt := 4) dX4_mindDaysWhereHeSays_43 (by decide) ?_
      rw [← nI_succ]
      first
        | (refine ih (i + 1) _ _ (by omega) (hs.up (by omega)) (by rw [zk_up_eq]; exact zs_ride_ok ok) ?_
           rw [zk_up_eq, ek, zs_dw, if_pos hq, hs 3 (by decide) (by decide), hs 4 (by decide) (by decide)])
        | (refine ih (i + 1) _ _ (by omega) (hs.up (by omega)) (by rw [zk_up_eq]; exact zs_ride_ok ok) ?_
           rw [zk_up_eq, ek, zs_dw, if_neg hq, hs 3 (by decide) (by decide), hs 4 (by decide) (by decide)])
set_option maxRecDepth 100000 in
set_option maxHeartbeats 4000000 in
theorem qX4_mindDaysWhereHeSays {l : Launch} {M : zk_M} {L : zk_L} {M0 : zk_M} (hs : zs_same M0 M) {f : Nat → Int32} (hf : zs_ag 7 (M 37) f) (okf : zs_ok f) : zk_C l zc 4 muX4_mindDaysWhereHeSays [.ref 0] M L (zq_l (zs_dw (M0 3) (M0 4) 61 0 f 0) M0) := by
  refine zk_ofR (ls := [some (.ref 0), none, none, none]) (by decide) rfl (Nat.le_of_ble_eq_true rfl) rfl ?_
  refine zk_lconst (v := 0) dX4_mindDaysWhereHeSays_0 (by decide) ?_
  refine zk_lstore_n dX4_mindDaysWhereHeSays_1 zk_S2_1 ?_
  refine zk_iconst dX4_mindDaysWhereHeSays_2 zc_0 ?_
  refine zk_istore_n dX4_mindDaysWhereHeSays_3 zk_S_3 ?_
  exact lX4_mdw 61 0 0 M rfl hs (zs_ok_ag hf.sm okf) (zs_dw_ag zs_ag.rf zs_ag.rf 61 0 _ _ 0 hf.sm okf)
def zs_arb (M : zk_M) (p : Nat) (x : Int64) : Int64 := x &&& zs_dw (M 3) (M 4) 61 0 (M (6 + p)) 0
set_option maxRecDepth 100000 in
set_option maxHeartbeats 4000000 in
theorem lX4_arr1 {l : Launch} {M0 : zk_M} {n : Nat} (hI : zs_I M0 n) {Q : Option Value → zk_M → zk_L → Prop} : ∀ (m p : Nat) (x : Int64) (M : zk_M) (L : zk_L), p + m = n → zs_same M0 M → (∀ M' L', zs_same M0 M' → zk_R l zc 5 muX4_arrived 35 [some (.ref 0), some (.long (zs_for (zs_arb M0) m p x)), none, none] [] M' L' Q) → zk_R l zc 5 muX4_arrived 6 [some (.ref 0), some (.long x), none, some (.int (nI p))] [] M L Q := by
  have hn6 := hI.1
  intro m
  induction m with
  | zero =>
    intro p x M L hpm hs k
    obtain rfl : p = n := by omega
    refine zk_iload_n dX4_arrived_6 rfl ?_
    refine zk_aload_n dX4_arrived_7 rfl ?_
    refine zk_getRc (q := 1) dX4_arrived_8 fl_X4_12 (by decide) rfl rfl rfl ?_
    refine zk_getI dX4_arrived_11 fl_X4_181 (by decide) rfl rfl ?_
    rw [(hI.sm hs).2.1]
    refine zk_icmp_ge (tgt := 35) dX4_arrived_14 (by decide) (fun _ => ?_) (fun q => absurd (nI_le (Nat.le_refl _) (by omega)) q)
    refine zk_forget ?_ (k M L hs)
    exact ⟨Or.inr rfl, Or.inr rfl, Or.inl rfl, Or.inl rfl, trivial⟩
  | succ m ih =>
    intro p x M L hpm hs k
    have hp : p < n := by omega
    refine zk_iload_n dX4_arrived_6 rfl ?_
    refine zk_aload_n dX4_arrived_7 rfl ?_
    refine zk_getRc (q := 1) dX4_arrived_8 fl_X4_12 (by decide : 0 < zc.1) rfl rfl rfl ?_
    refine zk_getI dX4_arrived_11 fl_X4_181 (by decide : 1 < zc.1) rfl rfl ?_
    rw [(hI.sm hs).2.1]
    refine zk_icmp_ge (tgt := 35) dX4_arrived_14 (by decide) (fun h14 => absurd h14 (nI_ge hp (by omega))) (fun _ => ?_)
    have hp6 : p < 6 := Nat.lt_of_lt_of_le hp hI.1
    have e6 : M (6 + p) = M0 (6 + p) := hs (6 + p) (by omega) (by omega)
    have ok6 : zs_ok (M0 (6 + p)) := hI.2.2 p hp6
    refine zk_aload_n dX4_arrived_17 rfl ?_
    refine zk_iload_n dX4_arrived_18 rfl ?_
    refine zk_cVv (qX4_thinkOf (hI.sm hs) hp) dX4_arrived_19 mwX4_thinkOf ml_X4_167 (by decide : 0 < zc.1) rfl rfl (by decide) rfl (Nat.le_of_ble_eq_true rfl) ?_
    refine zk_lload_n dX4_arrived_22 rfl ?_
    refine zk_aload_n dX4_arrived_23 rfl ?_
    refine zk_cVql (qX4_mindDaysWhereHeSays (f := M0 (6 + p)) (hs.up (by omega)) (by rw [zk_up_eq, e6]; exact zs_cp_ag) ok6) dX4_arrived_24 mwX4_mindDaysWhereHeSays ml_X4_193 (by decide : 0 < zc.1) rfl rfl (by decide) rfl (Nat.le_of_ble_eq_true rfl) (fun M1 L1 hs1 => ?_)
    refine zk_land dX4_arrived_27 ?_
    refine zk_lstore_n dX4_arrived_28 zk_S2_1 ?_
    refine zk_iinc dX4_arrived_29 zc_1 rfl zk_S_3 ?_
    refine zk_goto (tgt := 6) dX4_arrived_32 (by decide) ?_
    rw [← nI_succ]
    exact ih (p + 1) _ M1 L1 (by omega) hs1 k
set_option maxRecDepth 100000 in
set_option maxHeartbeats 4000000 in
theorem lX4_arr2 {l : Launch} {M M0 : zk_M} {L : zk_L} {x : Int64} {v : Int32} (hs : zs_same M0 M) : ∀ (m i : Nat), i + m = 61 → v = zs_bday x m i → zk_R l zc 5 muX4_arrived 37 [some (.ref 0), some (.long x), none, some (.int (nI i))] [] M L (zq_i v M0) := by
  intro m
  induction m with
  | zero =>
    intro i hi ek
    obtain rfl : i = 61 := by omega
    refine zk_iload_n dX4_arrived_37 rfl ?_
    refine zk_bipush (v := 60) dX4_arrived_38 (by decide) ?_
    refine zk_icmp_gt (tgt := 61) dX4_arrived_40 (by decide) (fun _ => ?_) (fun q => absurd (by decide) q)
    refine zk_bipush (v := -9) dX4_arrived_61 (by decide) ?_
    refine zk_iret rfl dX4_arrived_63 ?_
    exact ⟨by rw [ek]; rfl, hs⟩
  | succ m ih =>
    intro i hi ek
    refine zk_iload_n dX4_arrived_37 rfl ?_
    refine zk_bipush dX4_arrived_38 zb_60 ?_
    refine zk_icmp_gt (tgt := 61) dX4_arrived_40 (by decide) (fun h40 => absurd h40 (nI_nlt (a := 60) (show i ≤ 60 by omega) (by decide))) (fun _ => ?_)
    refine zk_lload_n dX4_arrived_43 rfl ?_
    refine zk_iload_n dX4_arrived_44 rfl ?_
    refine zk_lshr dX4_arrived_45 ?_
    refine zk_lconst (v := 1) dX4_arrived_46 (by decide) ?_
    refine zk_land dX4_arrived_47 ?_
    refine zk_lconst (v := 1) dX4_arrived_48 (by decide) ?_
    refine zk_lcmp dX4_arrived_49 ?_
    refine zk_if_ne (tgt := 55) dX4_arrived_50 (by decide) (fun h50 => ?_) (fun h50 => ?_)
    · refine zk_iinc dX4_arrived_55 zc_1 rfl zk_S_3 ?_
      refine zk_goto (tgt := 37) dX4_arrived_58 (by decide) ?_
      rw [← nI_succ]
      exact ih (i + 1) (by omega) (by rw [ek, zs_bday, if_neg (zs_lcmpn h50)])
    · refine zk_iload_n dX4_arrived_53 rfl ?_
      refine zk_iret rfl dX4_arrived_54 ?_
      exact ⟨by rw [ek, zs_bday, if_pos (zs_lcmp0 h50)], hs⟩
set_option maxRecDepth 100000 in
set_option maxHeartbeats 4000000 in
theorem qX4_arrived_t {l : Launch} {M : zk_M} {L : zk_L} {n : Nat} (hI : zs_I M n) : zk_C l zc 5 muX4_arrived [.ref 0] M L (zq_i (zs_bday (zs_for (zs_arb M) n 0 (-1)) 61 0) M) := by
  refine zk_ofR (ls := [some (.ref 0), none, none, none]) (by decide) rfl (Nat.le_of_ble_eq_true rfl) rfl ?_
  refine zk_ldc2 dX4_arrived_0 ct_X4_191 ?_
  refine zk_lstore_n dX4_arrived_3 zk_S2_1 ?_
  refine zk_iconst dX4_arrived_4 zc_0 ?_
  refine zk_istore_n dX4_arrived_5 zk_S_3 ?_
  refine lX4_arr1 hI n 0 (-1) M L (by omega) zs_same.rf (fun M' L' h' => ?_)
  refine zk_iconst dX4_arrived_35 zc_0 ?_
  refine zk_istore_n dX4_arrived_36 zk_S_3 ?_
  exact lX4_arr2 h' 61 0 rfl rfl
theorem zk_C_mono {l : Launch} {σ : zk_Sh} {d : Nat} {μ : zk_I} {as : List Value} {M : zk_M} {L : zk_L} {Q Q' : Option Value → zk_M → zk_L → Prop} (h : zk_C l σ d μ as M L Q) (hq : ∀ r M' L', Q r M' L' → Q' r M' L') : zk_C l σ d μ as M L Q' := by
  intro ad cs D sz
  intro p e ha hc hk s m args below hf happ hP hK
  obtain ⟨k, o, h1, h2, h3, h4⟩ := h ad cs D sz p e ha hc hk s m args below hf happ hP hK
  refine ⟨k, o, h1, h2, h3, ?_⟩
  obtain ⟨⟨⟨r, M', L', e1, e2, e3⟩, hF⟩, hL⟩ := h4
  exact ⟨⟨⟨r, M', L', e1, hq _ _ _ e2, e3⟩, hF⟩, hL⟩
def zs_cmf (M : zk_M) (pl : Int32) (f : Nat → Int32) : Int32 := (zs_until (M 3) (M 4) pl 61 0 f).1
theorem qb_until {l : Launch} {M : zk_M} {L : zk_L} {M0 : zk_M} {f : Nat → Int32} {pl : Int32} (hs : zs_same M0 M) (hf : zs_ag 7 (M 37) f) (okf : zs_ok f) : zk_C l zc 4 muX1_daysUntilAt [.ref 37, .ref 2, .int pl] M L (zq_i (zs_cmf M0 pl f) M0) := by
  have h := q37_until (l := l) (M := M) (L := L) (p := pl) (zs_ok_ag hf.sm okf)
  intro ad cs D sz
  refine zk_C_mono h ?_ ad cs D sz
  intro r M' L' q
  obtain ⟨rfl, rfl, rfl⟩ := q
  refine ⟨congrArg (fun v => some (Value.int v)) ?_, hs.up (by omega)⟩
  rw [hs 3 (by decide) (by decide), hs 4 (by decide) (by decide)]
  exact zs_until_ag zs_ag.rf zs_ag.rf 61 0 _ _ hf (zs_ok_ag hf.sm okf)
def zs_she (M : zk_M) (pl : Int32) (p v : Nat) (s : Int32 × Int32) : Int32 × Int32 := if zs_cmf M pl (va_up (M (6 + p)) 5 (nI v)) < s.2 then (nI v, zs_cmf M pl (va_up (M (6 + p)) 5 (nI v))) else s
def zs_wis (M : zk_M) (pl : Int32) (p v : Nat) (s : Int32 × Int32) : Int32 × Int32 := if zs_cmf M pl (va_up (M (6 + p)) 2 (nI v)) < s.2 then (nI v, zs_cmf M pl (va_up (M (6 + p)) 2 (nI v))) else s
set_option maxRecDepth 100000 in
set_option maxHeartbeats 4000000 in
theorem lX4_shoe {l : Launch} {M0 : zk_M} {n : Nat} (hI : zs_I M0 n) {p : Nat} (hp : p < n) {pl x : Int32} {Q : Option Value → zk_M → zk_L → Prop} : ∀ (m i : Nat) (b s : Int32) (M : zk_M) (L : zk_L), i + m = 5 → zs_same M0 M → (∀ M' L', zs_same M0 M' → zk_R l zc 5 muX4_shoe 108 [some (.ref 0), some (.int (nI p)), some (.int pl), some (.int x), some (.int (zs_for (zs_she M0 pl p) m i (b, s)).1), some (.int (zs_for (zs_she M0 pl p) m i (b, s)).2), none, none] [] M' L' Q) → zk_R l zc 5 muX4_shoe 50 [some (.ref 0), some (.int (nI p)), some (.int pl), some (.int x), some (.int b), some (.int s), some (.int (nI i)), none] [] M L Q := by
  intro m
  induction m with
  | zero =>
    intro i b s M L hi hs k
    obtain rfl : i = 5 := by omega
    refine zk_iload dX4_shoe_50 rfl ?_
    refine zk_iconst dX4_shoe_52 zc_4 ?_
    refine zk_icmp_gt (tgt := 108) dX4_shoe_53 (by decide) (fun _ => ?_) (fun h53 => absurd (nI_lt (a := 4) (b := 5) (by decide) (by decide)) h53)
    refine zk_forget ?_ (k M L hs)
    exact ⟨Or.inr rfl, Or.inr rfl, Or.inr rfl, Or.inr rfl, Or.inr rfl, Or.inr rfl, Or.inl rfl, Or.inl rfl, trivial⟩
  | succ m ih =>
    intro i b s M L hi hs k
    have hi8 : i < 5 := by omega
    have hp6 : p < 6 := Nat.lt_of_lt_of_le hp hI.1
    have e6 : M (6 + p) = M0 (6 + p) := hs (6 + p) (by omega) (by omega)
    have ok6 : zs_ok (M0 (6 + p)) := hI.2.2 p hp6
    refine zk_iload dX4_shoe_50 rfl ?_
    refine zk_iconst dX4_shoe_52 zc_4 ?_
    refine zk_icmp_gt (tgt := 108) dX4_shoe_53 (by decide) (fun h53 => absurd h53 (nI_nlt (a := 4) (show i ≤ 4 by omega) (by decide))) (fun _ => ?_)
    refine zk_aload_n dX4_shoe_56 rfl ?_
    refine zk_iload_n dX4_shoe_57 rfl ?_
    refine zk_cVv (qX4_thinkOf (hI.sm hs) hp) dX4_shoe_58 mwX4_thinkOf ml_X4_167 (by decide : 0 < zc.1) rfl rfl (by decide) rfl (Nat.le_of_ble_eq_true rfl) ?_
    refine zk_aload_n dX4_shoe_61 rfl ?_
    refine zk_getRc (q := 37) dX4_shoe_62 fl_X4_32 (by decide : 0 < zc.1) rfl rfl rfl ?_
    refine zk_iload dX4_shoe_65 rfl ?_
    refine zk_putG dX4_shoe_67 fl_X4_109 ft_1_5 rfl rfl (by decide : 37 < zc.1) rfl rfl ?_
    refine zk_aload_n dX4_shoe_70 rfl ?_
    refine zk_getRc (q := 37) dX4_shoe_71 fl_X4_32 (by decide : 0 < zc.1) rfl rfl rfl ?_
    refine zk_aload_n dX4_shoe_74 rfl ?_
    refine zk_getRc (q := 1) dX4_shoe_75 fl_X4_12 (by decide : 0 < zc.1) rfl rfl rfl ?_
    refine zk_getRc (q := 2) dX4_shoe_78 fl_X4_122 (by decide : 1 < zc.1) rfl rfl rfl ?_
    refine zk_iload_n dX4_shoe_81 rfl ?_
    refine zk_cVqi (qb_until (f := va_up (M0 (6 + p)) 5 (nI i)) ((hs.up (by omega)).up (by omega)) (by rw [zk_up_eq, zk_up_eq, e6]; exact zs_ag.up zs_cp_ag) (⟨by rw [zk_up_ne (by decide)]; exact ok6.1, by rw [zk_up_ne (by decide)]; exact ok6.2.1, by rw [zk_up_ne (by decide)]; exact ok6.2.2⟩)) dX4_shoe_82 mwX1_daysUntilAt ml_X4_197 (by decide : 37 < zc.1) rfl rfl (by decide) rfl (Nat.le_of_ble_eq_true rfl) (fun M1 L1 hs1 => ?_)
    refine zk_istore dX4_shoe_85 zk_S_7 ?_
    refine zk_iload dX4_shoe_87 rfl ?_
    refine zk_iload dX4_shoe_89 rfl ?_
    refine zk_icmp_ge (tgt := 102) dX4_shoe_91 (by decide) (fun h91 => ?_) (fun h91 => ?_)
    · refine zk_iinc dX4_shoe_102 zc_1 rfl zk_S_6 ?_
      refine zk_goto (tgt := 50) dX4_shoe_105 (by decide) ?_
      rw [← nI_succ]
      first
        | exact zk_forget (ls' := [some (.ref 0), some (.int (nI p)), some (.int pl), some (.int x), some (.int (nI i)), some (.int (zs_cmf M0 pl (va_up (M0 (6 + p)) 5 (nI i)))), some (.int (nI (i + 1))), none]) ⟨Or.inr rfl, Or.inr rfl, Or.inr rfl, Or.inr rfl, Or.inr rfl, Or.inr rfl, Or.inr rfl, Or.inl rfl, trivial⟩ (ih (i + 1) (nI i) (zs_cmf M0 pl (va_up (M0 (6 + p)) 5 (nI i))) M1 L1 (by omega) hs1 (fun M' L' h' => by
            have e : zs_she M0 pl p i (b, s) = (nI i, (zs_cmf M0 pl (va_up (M0 (6 + p)) 5 (nI i)))) := if_pos (Int32.not_le.mp h91)
            have := k M' L' h'
            rw [zs_for, e] at this
            exact this))
        | exact zk_forget (ls' := [some (.ref 0), some (.int (nI p)), some (.int pl), some (.int x), some (.int b), some (.int s), some (.int (nI (i + 1))), none]) ⟨Or.inr rfl, Or.inr rfl, Or.inr rfl, Or.inr rfl, Or.inr rfl, Or.inr rfl, Or.inr rfl, Or.inl rfl, trivial⟩ (ih (i + 1) b s M1 L1 (by omega) hs1 (fun M' L' h' => by
            have e : zs_she M0 pl p i (b, s) = (b, s) := if_neg (Int32.not_lt.mpr h91)
            have := k M' L' h'
            rw [zs_for, e] at this
            exact this))
    · refine zk_iload dX4_shoe_94 rfl ?_
      refine zk_istore dX4_shoe_96 zk_S_5 ?_
      refine zk_iload dX4_shoe_98 rfl ?_
      refine zk_istore dX4_shoe_100 zk_S_4 ?_
      refine zk_iinc dX4_shoe_102 zc_1 rfl zk_S_6 ?_
      refine zk_goto (tgt := 50) dX4_shoe_105 (by decide) ?_
      rw [← nI_succ]
      first
        | exact zk_forget (ls' := [some (.ref 0), some (.int (nI p)), some (.int pl), some (.int x), some (.int (nI i)), some (.int (zs_cmf M0 pl (va_up (M0 (6 + p)) 5 (nI i)))), some (.int (nI (i + 1))), none]) ⟨Or.inr rfl, Or.inr rfl, Or.inr rfl, Or.inr rfl, Or.inr rfl, Or.inr rfl, Or.inr rfl, Or.inl rfl, trivial⟩ (ih (i + 1) (nI i) (zs_cmf M0 pl (va_up (M0 (6 + p)) 5 (nI i))) M1 L1 (by omega) hs1 (fun M' L' h' => by
            have e : zs_she M0 pl p i (b, s) = (nI i, (zs_cmf M0 pl (va_up (M0 (6 + p)) 5 (nI i)))) := if_pos (Int32.not_le.mp h91)
            have := k M' L' h'
            rw [zs_for, e] at this
            exact this))
        | exact zk_forget (ls' := [some (.ref 0), some (.int (nI p)), some (.int pl), some (.int x), some (.int b), some (.int s), some (.int (nI (i + 1))), none]) ⟨Or.inr rfl, Or.inr rfl, Or.inr rfl, Or.inr rfl, Or.inr rfl, Or.inr rfl, Or.inr rfl, Or.inl rfl, trivial⟩ (ih (i + 1) b s M1 L1 (by omega) hs1 (fun M' L' h' => by
            have e : zs_she M0 pl p i (b, s) = (b, s) := if_neg (Int32.not_lt.mpr h91)
            have := k M' L' h'
            rw [zs_for, e] at this
            exact this))
set_option maxRecDepth 100000 in
set_option maxHeartbeats 4000000 in
theorem lX4_wish {l : Launch} {M0 : zk_M} {n : Nat} (hI : zs_I M0 n) {p : Nat} (hp : p < n) {pl x : Int32} {Q : Option Value → zk_M → zk_L → Prop} : ∀ (m i : Nat) (b s : Int32) (M : zk_M) (L : zk_L), i + m = 8 → zs_same M0 M → (∀ M' L', zs_same M0 M' → zk_R l zc 6 muX4_wish 96 [some (.ref 0), some (.int (nI p)), some (.int pl), some (.int (zs_for (zs_wis M0 pl p) m i (b, s)).1), some (.int (zs_for (zs_wis M0 pl p) m i (b, s)).2), none, none] [] M' L' Q) → zk_R l zc 6 muX4_wish 38 [some (.ref 0), some (.int (nI p)), some (.int pl), some (.int b), some (.int s), some (.int (nI i)), none] [] M L Q := by
  intro m
  induction m with
  | zero =>
    intro i b s M L hi hs k
    obtain rfl : i = 8 := by omega
    refine zk_iload dX4_wish_38 rfl ?_
    refine zk_bipush dX4_wish_40 zb_8 ?_
    refine zk_icmp_ge (tgt := 96) dX4_wish_42 (by decide) (fun _ => ?_) (fun h42 => absurd (nI_le (b := 8) (Nat.le_refl _) (by decide)) h42)
    refine zk_forget ?_ (k M L hs)
    exact ⟨Or.inr rfl, Or.inr rfl, Or.inr rfl, Or.inr rfl, Or.inr rfl, Or.inl rfl, Or.inl rfl, trivial⟩
  | succ m ih =>
    intro i b s M L hi hs k
    have hi8 : i < 8 := by omega
    have hp6 : p < 6 := Nat.lt_of_lt_of_le hp hI.1
    have e6 : M (6 + p) = M0 (6 + p) := hs (6 + p) (by omega) (by omega)
    have ok6 : zs_ok (M0 (6 + p)) := hI.2.2 p hp6
    refine zk_iload dX4_wish_38 rfl ?_
    refine zk_bipush dX4_wish_40 zb_8 ?_
    refine zk_icmp_ge (tgt := 96) dX4_wish_42 (by decide) (fun h42 => absurd h42 (nI_ge (b := 8) hi8 (by decide))) (fun _ => ?_)
    refine zk_aload_n dX4_wish_45 rfl ?_
    refine zk_iload_n dX4_wish_46 rfl ?_
    refine zk_cVv (qX4_thinkOf (hI.sm hs) hp) dX4_wish_47 mwX4_thinkOf ml_X4_167 (by decide : 0 < zc.1) rfl rfl (by decide) rfl (Nat.le_of_ble_eq_true rfl) ?_
    refine zk_aload_n dX4_wish_50 rfl ?_
    refine zk_getRc (q := 37) dX4_wish_51 fl_X4_32 (by decide : 0 < zc.1) rfl rfl rfl ?_
    refine zk_iload dX4_wish_54 rfl ?_
    refine zk_putG dX4_wish_56 fl_X4_100 ft_1_2 rfl rfl (by decide : 37 < zc.1) rfl rfl ?_
    refine zk_aload_n dX4_wish_59 rfl ?_
    refine zk_getRc (q := 37) dX4_wish_60 fl_X4_32 (by decide : 0 < zc.1) rfl rfl rfl ?_
    refine zk_aload_n dX4_wish_63 rfl ?_
    refine zk_getRc (q := 1) dX4_wish_64 fl_X4_12 (by decide : 0 < zc.1) rfl rfl rfl ?_
    refine zk_getRc (q := 2) dX4_wish_67 fl_X4_122 (by decide : 1 < zc.1) rfl rfl rfl ?_
    refine zk_iload_n dX4_wish_70 rfl ?_
    refine zk_cVqi (qb_until (f := va_up (M0 (6 + p)) 2 (nI i)) ((hs.up (by omega)).up (by omega)) (by rw [zk_up_eq, zk_up_eq, e6]; exact zs_ag.up zs_cp_ag) (⟨by rw [zk_up_eq]; exact zs_p_nI hi8, by rw [zk_up_ne (by decide)]; exact ok6.2.1, by rw [zk_up_ne (by decide)]; exact ok6.2.2⟩)) dX4_wish_71 mwX1_daysUntilAt ml_X4_197 (by decide : 37 < zc.1) rfl rfl (by decide) rfl (Nat.le_of_ble_eq_true rfl) (fun M1 L1 hs1 => ?_)
    refine zk_istore dX4_wish_74 zk_S_6 ?_
    refine zk_iload dX4_wish_76 rfl ?_
    refine zk_iload dX4_wish_78 rfl ?_
    refine zk_icmp_ge (tgt := 90) dX4_wish_80 (by decide) (fun h80 => ?_) (fun h80 => ?_)
    · refine zk_iinc dX4_wish_90 zc_1 rfl zk_S_5 ?_
      refine zk_goto (tgt := 38) dX4_wish_93 (by decide) ?_
      rw [← nI_succ]
      first
        | exact zk_forget (ls' := [some (.ref 0), some (.int (nI p)), some (.int pl), some (.int (nI i)), some (.int (zs_cmf M0 pl (va_up (M0 (6 + p)) 2 (nI i)))), some (.int (nI (i + 1))), none]) ⟨Or.inr rfl, Or.inr rfl, Or.inr rfl, Or.inr rfl, Or.inr rfl, Or.inr rfl, Or.inl rfl, trivial⟩ (ih (i + 1) (nI i) (zs_cmf M0 pl (va_up (M0 (6 + p)) 2 (nI i))) M1 L1 (by omega) hs1 (fun M' L' h' => by
            have e : zs_wis M0 pl p i (b, s) = (nI i, (zs_cmf M0 pl (va_up (M0 (6 + p)) 2 (nI i)))) := if_pos (Int32.not_le.mp h80)
            have := k M' L' h'
            rw [zs_for, e] at this
            exact this))
        | exact zk_forget (ls' := [some (.ref 0), some (.int (nI p)), some (.int pl), some (.int b), some (.int s), some (.int (nI (i + 1))), none]) ⟨Or.inr rfl, Or.inr rfl, Or.inr rfl, Or.inr rfl, Or.inr rfl, Or.inr rfl, Or.inl rfl, trivial⟩ (ih (i + 1) b s M1 L1 (by omega) hs1 (fun M' L' h' => by
            have e : zs_wis M0 pl p i (b, s) = (b, s) := if_neg (Int32.not_lt.mpr h80)
            have := k M' L' h'
            rw [zs_for, e] at this
            exact this))
    · refine zk_iload dX4_wish_83 rfl ?_
      refine zk_istore dX4_wish_85 zk_S_4 ?_
      refine zk_iload dX4_wish_87 rfl ?_
      refine zk_istore_n dX4_wish_89 zk_S_3 ?_
      refine zk_iinc dX4_wish_90 zc_1 rfl zk_S_5 ?_
      refine zk_goto (tgt := 38) dX4_wish_93 (by decide) ?_
      rw [← nI_succ]
      first
        | exact zk_forget (ls' := [some (.ref 0), some (.int (nI p)), some (.int pl), some (.int (nI i)), some (.int (zs_cmf M0 pl (va_up (M0 (6 + p)) 2 (nI i)))), some (.int (nI (i + 1))), none]) ⟨Or.inr rfl, Or.inr rfl, Or.inr rfl, Or.inr rfl, Or.inr rfl, Or.inr rfl, Or.inl rfl, trivial⟩ (ih (i + 1) (nI i) (zs_cmf M0 pl (va_up (M0 (6 + p)) 2 (nI i))) M1 L1 (by omega) hs1 (fun M' L' h' => by
            have e : zs_wis M0 pl p i (b, s) = (nI i, (zs_cmf M0 pl (va_up (M0 (6 + p)) 2 (nI i)))) := if_pos (Int32.not_le.mp h80)
            have := k M' L' h'
            rw [zs_for, e] at this
            exact this))
        | exact zk_forget (ls' := [some (.ref 0), some (.int (nI p)), some (.int pl), some (.int b), some (.int s), some (.int (nI (i + 1))), none]) ⟨Or.inr rfl, Or.inr rfl, Or.inr rfl, Or.inr rfl, Or.inr rfl, Or.inr rfl, Or.inl rfl, trivial⟩ (ih (i + 1) b s M1 L1 (by omega) hs1 (fun M' L' h' => by
            have e : zs_wis M0 pl p i (b, s) = (b, s) := if_neg (Int32.not_lt.mpr h80)
            have := k M' L' h'
            rw [zs_for, e] at this
            exact this))
set_option maxRecDepth 100000 in
set_option maxHeartbeats 4000000 in
theorem qX4_shoe_r1 {l : Launch} {M : zk_M} {L : zk_L} {n : Nat} (hI : zs_I M n) {r y x : Int32} (hn : ¬ (zs_isr (M 1 2) r ∧ zs_p y)) : zk_C l zc 5 muX4_shoe [.ref 0, .int r, .int y, .int x] M L (zq_i (-1) (zs_ref M 1)) := by
  refine zk_ofR (ls := [some (.ref 0), some (.int r), some (.int y), some (.int x), none, none, none, none]) (by decide) rfl (Nat.le_of_ble_eq_true rfl) rfl ?_
  refine zk_aload_n dX4_shoe_0 rfl ?_
  refine zk_getRc (q := 1) dX4_shoe_1 fl_X4_12 (by decide : 0 < zc.1) rfl rfl rfl ?_
  refine zk_iload_n dX4_shoe_4 rfl ?_
  refine zk_cVi (q1_hasRider hI) dX4_shoe_5 mwX0_hasRider ml_X4_85 (by decide : 1 < zc.1) rfl rfl (by decide) rfl (Nat.le_of_ble_eq_true rfl) ?_
  refine zk_if_eq (tgt := 18) dX4_shoe_8 (by decide) (fun h8 => ?_) (fun h8 => ?_)
  · have hr := zs_if0 h8
    refine zk_aload_n dX4_shoe_18 rfl ?_
    refine zk_iconst dX4_shoe_19 zc_m1 ?_
    refine zk_cVi (qrf1) dX4_shoe_20 mwX4_refuse ml_X4_63 (by decide : 0 < zc.1) rfl rfl (by decide) rfl (Nat.le_of_ble_eq_true rfl) ?_
    refine zk_iret rfl dX4_shoe_23 ?_
    exact ⟨rfl, zs_same.rf⟩
  · have hr := zs_if1 h8
    refine zk_iload_n dX4_shoe_11 rfl ?_
    refine zk_cSi (qX4_isPlace) dX4_shoe_12 miX4_isPlace ml_X4_119 stX4_isPlace rfl (by decide) rfl (Nat.le_of_ble_eq_true rfl) ?_
    refine zk_if_ne (tgt := 24) dX4_shoe_15 (by decide) (fun h15 => ?_) (fun h15 => ?_)
    · have hx := zs_if1 h15
      exact absurd ⟨hr, hx⟩ hn
    · have hx := zs_if0 h15
      refine zk_aload_n dX4_shoe_18 rfl ?_
      refine zk_iconst dX4_shoe_19 zc_m1 ?_
      refine zk_cVi (qrf1) dX4_shoe_20 mwX4_refuse ml_X4_63 (by decide : 0 < zc.1) rfl rfl (by decide) rfl (Nat.le_of_ble_eq_true rfl) ?_
      refine zk_iret rfl dX4_shoe_23 ?_
      exact ⟨rfl, zs_same.rf⟩
set_option maxRecDepth 100000 in
set_option maxHeartbeats 4000000 in
theorem qX4_shoe_r2 {l : Launch} {M : zk_M} {L : zk_L} {n : Nat} (hI : zs_I M n) {p : Nat} (hp : p < n) {y : Int32} (hx : zs_p y) {x : Int32} (hw : ¬ (0 ≤ x ∧ x < 2)) : zk_C l zc 5 muX4_shoe [.ref 0, .int (nI p), .int y, .int x] M L (zq_i (-2) (zs_ref M 2)) := by
  refine zk_ofR (ls := [some (.ref 0), some (.int (nI p)), some (.int y), some (.int x), none, none, none, none]) (by decide) rfl (Nat.le_of_ble_eq_true rfl) rfl ?_
  refine zk_aload_n dX4_shoe_0 rfl ?_
  refine zk_getRc (q := 1) dX4_shoe_1 fl_X4_12 (by decide : 0 < zc.1) rfl rfl rfl ?_
  refine zk_iload_n dX4_shoe_4 rfl ?_
  refine zk_cVi (q1_hasRider_t hI hp) dX4_shoe_5 mwX0_hasRider ml_X4_85 (by decide : 1 < zc.1) rfl rfl (by decide) rfl (Nat.le_of_ble_eq_true rfl) ?_
  refine zk_if_eq (tgt := 18) dX4_shoe_8 (by decide) (fun h8 => absurd h8 (by decide)) (fun _ => ?_)
  refine zk_iload_n dX4_shoe_11 rfl ?_
  refine zk_cSi (qX4_isPlace_t hx) dX4_shoe_12 miX4_isPlace ml_X4_119 stX4_isPlace rfl (by decide) rfl (Nat.le_of_ble_eq_true rfl) ?_
  refine zk_if_ne (tgt := 24) dX4_shoe_15 (by decide) (fun _ => ?_) (fun h15 => absurd h15 (by decide))
  refine zk_iload_n dX4_shoe_24 rfl ?_
  refine zk_iconst dX4_shoe_25 zc_2 ?_
  refine zk_cSi (qX4_isBelow_f hw) dX4_shoe_26 miX4_isBelow ml_X4_149 stX4_isBelow rfl (by decide) rfl (Nat.le_of_ble_eq_true rfl) ?_
  refine zk_if_ne (tgt := 39) dX4_shoe_29 (by decide) (fun h29 => absurd (rfl) h29) (fun _ => ?_)
  refine zk_aload_n dX4_shoe_32 rfl ?_
  refine zk_bipush dX4_shoe_33 zb_m2 ?_
  refine zk_cVi (qrf2) dX4_shoe_35 mwX4_refuse ml_X4_63 (by decide : 0 < zc.1) rfl rfl (by decide) rfl (Nat.le_of_ble_eq_true rfl) ?_
  refine zk_iret rfl dX4_shoe_38 ?_
  exact ⟨rfl, zs_same.rf⟩
def zs_shv (s : Int32 × Int32) (x : Int32) : Int32 := if x = 0 then s.1 else if 60 < s.2 then -9 else s.2
set_option maxRecDepth 100000 in
set_option maxHeartbeats 4000000 in
theorem qX4_shoe_t {l : Launch} {M : zk_M} {L : zk_L} {n : Nat} (hI : zs_I M n) {p : Nat} (hp : p < n) {y : Int32} (hx : zs_p y) {x : Int32} (hw : 0 ≤ x ∧ x < 2) : zk_C l zc 5 muX4_shoe [.ref 0, .int (nI p), .int y, .int x] M L (zq_i (zs_shv (zs_for (zs_she M y p) 5 0 (-9, 61)) x) M) := by
  refine zk_ofR (ls := [some (.ref 0), some (.int (nI p)), some (.int y), some (.int x), none, none, none, none]) (by decide) rfl (Nat.le_of_ble_eq_true rfl) rfl ?_
  refine zk_aload_n dX4_shoe_0 rfl ?_
  refine zk_getRc (q := 1) dX4_shoe_1 fl_X4_12 (by decide : 0 < zc.1) rfl rfl rfl ?_
  refine zk_iload_n dX4_shoe_4 rfl ?_
  refine zk_cVi (q1_hasRider_t hI hp) dX4_shoe_5 mwX0_hasRider ml_X4_85 (by decide : 1 < zc.1) rfl rfl (by decide) rfl (Nat.le_of_ble_eq_true rfl) ?_
  refine zk_if_eq (tgt := 18) dX4_shoe_8 (by decide) (fun h8 => absurd h8 (by decide)) (fun _ => ?_)
  refine zk_iload_n dX4_shoe_11 rfl ?_
  refine zk_cSi (qX4_isPlace_t hx) dX4_shoe_12 miX4_isPlace ml_X4_119 stX4_isPlace rfl (by decide) rfl (Nat.le_of_ble_eq_true rfl) ?_
  refine zk_if_ne (tgt := 24) dX4_shoe_15 (by decide) (fun _ => ?_) (fun h15 => absurd h15 (by decide))
  refine zk_iload_n dX4_shoe_24 rfl ?_
  refine zk_iconst dX4_shoe_25 zc_2 ?_
  refine zk_cSi (qX4_isBelow_t hw) dX4_shoe_26 miX4_isBelow ml_X4_149 stX4_isBelow rfl (by decide) rfl (Nat.le_of_ble_eq_true rfl) ?_
  refine zk_if_ne (tgt := 39) dX4_shoe_29 (by decide) (fun _ => ?_) (fun h29 => absurd h29 (by decide))
  refine zk_bipush dX4_shoe_39 zb_m9 ?_
  refine zk_istore dX4_shoe_41 zk_S_4 ?_
  refine zk_bipush dX4_shoe_43 zb_61 ?_
  refine zk_istore dX4_shoe_45 zk_S_5 ?_
  refine zk_iconst dX4_shoe_47 zc_0 ?_
  refine zk_istore dX4_shoe_48 zk_S_6 ?_
  refine lX4_shoe hI hp 5 0 (-9) 61 M L rfl zs_same.rf (fun M' L' h' => ?_)
  refine zk_iload_n dX4_shoe_108 rfl ?_
  refine zk_if_ne (tgt := 117) dX4_shoe_109 (by decide) (fun h109 => ?_) (fun h109 => ?_)
  · refine zk_iload dX4_shoe_117 rfl ?_
    refine zk_cSi (qX4_dayOrNone) dX4_shoe_119 miX4_dayOrNone ml_X4_178 stX4_dayOrNone rfl (by decide) rfl (Nat.le_of_ble_eq_true rfl) ?_
    refine zk_iret rfl dX4_shoe_122 ?_
    exact ⟨congrArg (fun v => some (Value.int v)) (by first | exact (if_pos h109).symm | exact (if_neg h109).symm), h'⟩
  · refine zk_iload dX4_shoe_112 rfl ?_
    refine zk_goto (tgt := 122) dX4_shoe_114 (by decide) ?_
    refine zk_iret rfl dX4_shoe_122 ?_
    exact ⟨congrArg (fun v => some (Value.int v)) (by first | exact (if_pos h109).symm | exact (if_neg h109).symm), h'⟩
set_option maxRecDepth 100000 in
set_option maxHeartbeats 4000000 in
theorem qX4_wish_r {l : Launch} {M : zk_M} {L : zk_L} {n : Nat} (hI : zs_I M n) {r x : Int32} (hn : ¬ (zs_isr (M 1 2) r ∧ zs_p x)) : zk_C l zc 6 muX4_wish [.ref 0, .int r, .int x] M L (zq_i (-1) (zs_ref M 1)) := by
  refine zk_ofR (ls := [some (.ref 0), some (.int r), some (.int x), none, none, none, none]) (by decide) rfl (Nat.le_of_ble_eq_true rfl) rfl ?_
  refine zk_aload_n dX4_wish_0 rfl ?_
  refine zk_getRc (q := 1) dX4_wish_1 fl_X4_12 (by decide : 0 < zc.1) rfl rfl rfl ?_
  refine zk_iload_n dX4_wish_4 rfl ?_
  refine zk_cVi (q1_hasRider hI) dX4_wish_5 mwX0_hasRider ml_X4_85 (by decide : 1 < zc.1) rfl rfl (by decide) rfl (Nat.le_of_ble_eq_true rfl) ?_
  refine zk_if_eq (tgt := 18) dX4_wish_8 (by decide) (fun h8 => ?_) (fun h8 => ?_)
  · have hr := zs_if0 h8
    refine zk_aload_n dX4_wish_18 rfl ?_
    refine zk_iconst dX4_wish_19 zc_m1 ?_
    refine zk_cVi (qrf1) dX4_wish_20 mwX4_refuse ml_X4_63 (by decide : 0 < zc.1) rfl rfl (by decide) rfl (Nat.le_of_ble_eq_true rfl) ?_
    refine zk_iret rfl dX4_wish_23 ?_
    exact ⟨rfl, zs_same.rf⟩
  · have hr := zs_if1 h8
    refine zk_iload_n dX4_wish_11 rfl ?_
    refine zk_cSi (qX4_isPlace) dX4_wish_12 miX4_isPlace ml_X4_119 stX4_isPlace rfl (by decide) rfl (Nat.le_of_ble_eq_true rfl) ?_
    refine zk_if_ne (tgt := 24) dX4_wish_15 (by decide) (fun h15 => ?_) (fun h15 => ?_)
    · have hx := zs_if1 h15
      exact absurd ⟨hr, hx⟩ hn
    · have hx := zs_if0 h15
      refine zk_aload_n dX4_wish_18 rfl ?_
      refine zk_iconst dX4_wish_19 zc_m1 ?_
      refine zk_cVi (qrf1) dX4_wish_20 mwX4_refuse ml_X4_63 (by decide : 0 < zc.1) rfl rfl (by decide) rfl (Nat.le_of_ble_eq_true rfl) ?_
      refine zk_iret rfl dX4_wish_23 ?_
      exact ⟨rfl, zs_same.rf⟩
