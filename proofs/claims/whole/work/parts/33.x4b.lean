theorem zb_61 : (Int8.ofInt 61).toInt32 = (61 : Int32) := by decide +kernel
theorem zb_65 : (Int8.ofInt 65).toInt32 = (65 : Int32) := by decide +kernel
set_option maxRecDepth 100000 in
set_option maxHeartbeats 4000000 in
theorem qX4_riderThen_r1 {l : Launch} {M : zk_M} {L : zk_L} {n : Nat} (hI : zs_I M n) {r t x : Int32} (hr : ¬ zs_isr (M 1 2) r) : zk_C l zc 5 muX4_riderThen [.ref 0, .int r, .int t, .int x] M L (zq_i (-1) (zs_ref M 1)) := by
  refine zk_ofR (ls := [some (.ref 0), some (.int r), some (.int t), some (.int x), none]) (by decide) rfl (Nat.le_of_ble_eq_true rfl) rfl ?_
  refine zk_aload_n dX4_riderThen_0 rfl ?_
  refine zk_getRc (q := 1) dX4_riderThen_1 fl_X4_12 (by decide : 0 < zc.1) rfl rfl rfl ?_
  refine zk_iload_n dX4_riderThen_4 rfl ?_
  refine zk_cVi (q1_hasRider_f hI hr) dX4_riderThen_5 mwX0_hasRider ml_X4_85 (by decide : 1 < zc.1) rfl rfl (by decide) rfl (Nat.le_of_ble_eq_true rfl) ?_
  refine zk_if_ne (tgt := 17) dX4_riderThen_8 (by decide) (fun h8 => absurd (by decide) h8) (fun _ => ?_)
  refine zk_aload_n dX4_riderThen_11 rfl ?_
  refine zk_iconst dX4_riderThen_12 zc_m1 ?_
  refine zk_cVi (qrf1) dX4_riderThen_13 mwX4_refuse ml_X4_63 (by decide : 0 < zc.1) rfl rfl (by decide) rfl (Nat.le_of_ble_eq_true rfl) ?_
  refine zk_iret rfl dX4_riderThen_16 ?_
  exact ⟨rfl, zs_same.rf⟩
set_option maxRecDepth 100000 in
set_option maxHeartbeats 4000000 in
theorem qX4_riderThen_r4 {l : Launch} {M : zk_M} {L : zk_L} {n : Nat} (hI : zs_I M n) {p : Nat} (hp : p < n) {t x : Int32} (ht : t < 0) : zk_C l zc 5 muX4_riderThen [.ref 0, .int (nI p), .int t, .int x] M L (zq_i (-4) (zs_ref M 4)) := by
  refine zk_ofR (ls := [some (.ref 0), some (.int (nI p)), some (.int t), some (.int x), none]) (by decide) rfl (Nat.le_of_ble_eq_true rfl) rfl ?_
  refine zk_aload_n dX4_riderThen_0 rfl ?_
  refine zk_getRc (q := 1) dX4_riderThen_1 fl_X4_12 (by decide : 0 < zc.1) rfl rfl rfl ?_
  refine zk_iload_n dX4_riderThen_4 rfl ?_
  refine zk_cVi (q1_hasRider_t hI hp) dX4_riderThen_5 mwX0_hasRider ml_X4_85 (by decide : 1 < zc.1) rfl rfl (by decide) rfl (Nat.le_of_ble_eq_true rfl) ?_
  refine zk_if_ne (tgt := 17) dX4_riderThen_8 (by decide) (fun _ => ?_) (fun h8 => absurd h8 (by decide))
  refine zk_iload_n dX4_riderThen_17 rfl ?_
  refine zk_iconst dX4_riderThen_18 zc_0 ?_
  refine zk_bipush dX4_riderThen_19 zb_60 ?_
  refine zk_cSi (qX4_refusalOfNumber) dX4_riderThen_21 miX4_refusalOfNumber ml_X4_163 stX4_refusalOfNumber rfl (by decide) rfl (Nat.le_of_ble_eq_true rfl) ?_
  rw [if_pos ht]
  refine zk_istore dX4_riderThen_24 zk_S_4 ?_
  refine zk_iload dX4_riderThen_26 rfl ?_
  refine zk_if_eq (tgt := 38) dX4_riderThen_28 (by decide) (fun h28 => absurd h28 (by decide)) (fun _ => ?_)
  refine zk_aload_n dX4_riderThen_31 rfl ?_
  refine zk_iload dX4_riderThen_32 rfl ?_
  refine zk_cVi (qrf4) dX4_riderThen_34 mwX4_refuse ml_X4_63 (by decide : 0 < zc.1) rfl rfl (by decide) rfl (Nat.le_of_ble_eq_true rfl) ?_
  refine zk_iret rfl dX4_riderThen_37 ?_
  exact ⟨rfl, zs_same.rf⟩
set_option maxRecDepth 100000 in
set_option maxHeartbeats 4000000 in
theorem qX4_riderThen_r6 {l : Launch} {M : zk_M} {L : zk_L} {n : Nat} (hI : zs_I M n) {p : Nat} (hp : p < n) {t x : Int32} (ht : ¬ t < 0) (h6 : 60 < t) : zk_C l zc 5 muX4_riderThen [.ref 0, .int (nI p), .int t, .int x] M L (zq_i (-6) (zs_ref M 6)) := by
  refine zk_ofR (ls := [some (.ref 0), some (.int (nI p)), some (.int t), some (.int x), none]) (by decide) rfl (Nat.le_of_ble_eq_true rfl) rfl ?_
  refine zk_aload_n dX4_riderThen_0 rfl ?_
  refine zk_getRc (q := 1) dX4_riderThen_1 fl_X4_12 (by decide : 0 < zc.1) rfl rfl rfl ?_
  refine zk_iload_n dX4_riderThen_4 rfl ?_
  refine zk_cVi (q1_hasRider_t hI hp) dX4_riderThen_5 mwX0_hasRider ml_X4_85 (by decide : 1 < zc.1) rfl rfl (by decide) rfl (Nat.le_of_ble_eq_true rfl) ?_
  refine zk_if_ne (tgt := 17) dX4_riderThen_8 (by decide) (fun _ => ?_) (fun h8 => absurd h8 (by decide))
  refine zk_iload_n dX4_riderThen_17 rfl ?_
  refine zk_iconst dX4_riderThen_18 zc_0 ?_
  refine zk_bipush dX4_riderThen_19 zb_60 ?_
  refine zk_cSi (qX4_refusalOfNumber) dX4_riderThen_21 miX4_refusalOfNumber ml_X4_163 stX4_refusalOfNumber rfl (by decide) rfl (Nat.le_of_ble_eq_true rfl) ?_
  rw [if_neg ht, if_pos h6]
  refine zk_istore dX4_riderThen_24 zk_S_4 ?_
  refine zk_iload dX4_riderThen_26 rfl ?_
  refine zk_if_eq (tgt := 38) dX4_riderThen_28 (by decide) (fun h28 => absurd h28 (by decide)) (fun _ => ?_)
  refine zk_aload_n dX4_riderThen_31 rfl ?_
  refine zk_iload dX4_riderThen_32 rfl ?_
  refine zk_cVi (qrf6) dX4_riderThen_34 mwX4_refuse ml_X4_63 (by decide : 0 < zc.1) rfl rfl (by decide) rfl (Nat.le_of_ble_eq_true rfl) ?_
  refine zk_iret rfl dX4_riderThen_37 ?_
  exact ⟨rfl, zs_same.rf⟩
set_option maxRecDepth 100000 in
set_option maxHeartbeats 4000000 in
theorem qX4_riderThen_r2 {l : Launch} {M : zk_M} {L : zk_L} {n : Nat} (hI : zs_I M n) {p : Nat} (hp : p < n) {t x : Int32} (ht : ¬ t < 0) (h6 : ¬ 60 < t) (hx : ¬ (0 ≤ x ∧ x < 2)) : zk_C l zc 5 muX4_riderThen [.ref 0, .int (nI p), .int t, .int x] M L (zq_i (-2) (zs_ref M 2)) := by
  refine zk_ofR (ls := [some (.ref 0), some (.int (nI p)), some (.int t), some (.int x), none]) (by decide) rfl (Nat.le_of_ble_eq_true rfl) rfl ?_
  refine zk_aload_n dX4_riderThen_0 rfl ?_
  refine zk_getRc (q := 1) dX4_riderThen_1 fl_X4_12 (by decide : 0 < zc.1) rfl rfl rfl ?_
  refine zk_iload_n dX4_riderThen_4 rfl ?_
  refine zk_cVi (q1_hasRider_t hI hp) dX4_riderThen_5 mwX0_hasRider ml_X4_85 (by decide : 1 < zc.1) rfl rfl (by decide) rfl (Nat.le_of_ble_eq_true rfl) ?_
  refine zk_if_ne (tgt := 17) dX4_riderThen_8 (by decide) (fun _ => ?_) (fun h8 => absurd h8 (by decide))
  refine zk_iload_n dX4_riderThen_17 rfl ?_
  refine zk_iconst dX4_riderThen_18 zc_0 ?_
  refine zk_bipush dX4_riderThen_19 zb_60 ?_
  refine zk_cSi (qX4_refusalOfNumber) dX4_riderThen_21 miX4_refusalOfNumber ml_X4_163 stX4_refusalOfNumber rfl (by decide) rfl (Nat.le_of_ble_eq_true rfl) ?_
  rw [if_neg ht, if_neg h6]
  refine zk_istore dX4_riderThen_24 zk_S_4 ?_
  refine zk_iload dX4_riderThen_26 rfl ?_
  refine zk_if_eq (tgt := 38) dX4_riderThen_28 (by decide) (fun _ => ?_) (fun h28 => absurd (rfl) h28)
  refine zk_iload_n dX4_riderThen_38 rfl ?_
  refine zk_iconst dX4_riderThen_39 zc_2 ?_
  refine zk_cSi (qX4_isBelow) dX4_riderThen_40 miX4_isBelow ml_X4_149 stX4_isBelow rfl (by decide) rfl (Nat.le_of_ble_eq_true rfl) ?_
  refine zk_if_ne (tgt := 53) dX4_riderThen_43 (by decide) (fun h43 => ?_) (fun h43 => ?_)
  · have hb := zs_if1 h43
    exact absurd hb hx
  · have hb := zs_if0 h43
    refine zk_aload_n dX4_riderThen_46 rfl ?_
    refine zk_bipush dX4_riderThen_47 zb_m2 ?_
    refine zk_cVi (qrf2) dX4_riderThen_49 mwX4_refuse ml_X4_63 (by decide : 0 < zc.1) rfl rfl (by decide) rfl (Nat.le_of_ble_eq_true rfl) ?_
    refine zk_iret rfl dX4_riderThen_52 ?_
    exact ⟨rfl, zs_same.rf⟩
theorem zs_b2 {x : Int32} (h : 0 ≤ x ∧ x < 2) : x = 0 ∨ x = 1 := by
  have h1 := h.1
  have h2 := h.2
  rw [Int32.le_iff_toInt_le] at h1
  rw [Int32.lt_iff_toInt_lt] at h2
  have e0 : (0 : Int32).toInt = 0 := rfl
  have e1 : (1 : Int32).toInt = 1 := rfl
  have e2 : (2 : Int32).toInt = 2 := rfl
  rw [← Int32.toInt_inj, ← Int32.toInt_inj]
  omega
theorem qX4_isBelow_t {l : Launch} {σ : zk_Sh} {M : zk_M} {L : zk_L} {x y : Int32} (h : 0 ≤ x ∧ x < y) : zk_C l σ 0 muX4_isBelow [.int x, .int y] M L (zk_Ei 1 M L) := by
  have := qX4_isBelow (l := l) (σ := σ) (M := M) (L := L) (x := x) (y := y)
  rwa [if_pos h] at this
theorem qX4_isBelow_f {l : Launch} {σ : zk_Sh} {M : zk_M} {L : zk_L} {x y : Int32} (h : ¬ (0 ≤ x ∧ x < y)) : zk_C l σ 0 muX4_isBelow [.int x, .int y] M L (zk_Ei 0 M L) := by
  have := qX4_isBelow (l := l) (σ := σ) (M := M) (L := L) (x := x) (y := y)
  rwa [if_neg h] at this
def zs_th (M : zk_M) (p t : Nat) (x : Int32) : Int32 := if x = 0 then zs_rides (M 3) (M 4) t (M (6 + p)) 4 else zs_rides (M 3) (M 4) t (M (6 + p)) 5
theorem zs_I.ok37 {M : zk_M} {n p : Nat} (hI : zs_I M n) (hp : p < n) : zs_ok (va_up M 37 (zs_cp 7 (M (6 + p)) (M 37)) 37) := by
  have h6 := hI.1
  rw [zk_up_eq]
  exact zs_ok_ag zs_cp_ag.sm (hI.2.2 p (by omega))
set_option maxRecDepth 100000 in
set_option maxHeartbeats 4000000 in
theorem qX4_riderThen_t {l : Launch} {M : zk_M} {L : zk_L} {n : Nat} (hI : zs_I M n) {p : Nat} (hp : p < n) {t : Nat} (ht : t ≤ 60) {x : Int32} (hx : 0 ≤ x ∧ x < 2) : zk_C l zc 5 muX4_riderThen [.ref 0, .int (nI p), .int (nI t), .int x] M L (zq_i (zs_th M p t x) M) := by
  refine zk_ofR (ls := [some (.ref 0), some (.int (nI p)), some (.int (nI t)), some (.int x), none]) (by decide) rfl (Nat.le_of_ble_eq_true rfl) rfl ?_
  have hp6 : p < 6 := Nat.lt_of_lt_of_le hp hI.1
  refine zk_aload_n dX4_riderThen_0 rfl ?_
  refine zk_getRc (q := 1) dX4_riderThen_1 fl_X4_12 (by decide : 0 < zc.1) rfl rfl rfl ?_
  refine zk_iload_n dX4_riderThen_4 rfl ?_
  refine zk_cVi (q1_hasRider_t hI hp) dX4_riderThen_5 mwX0_hasRider ml_X4_85 (by decide : 1 < zc.1) rfl rfl (by decide) rfl (Nat.le_of_ble_eq_true rfl) ?_
  refine zk_if_ne (tgt := 17) dX4_riderThen_8 (by decide) (fun _ => ?_) (fun h8 => absurd h8 (by decide))
  refine zk_iload_n dX4_riderThen_17 rfl ?_
  refine zk_iconst dX4_riderThen_18 zc_0 ?_
  refine zk_bipush dX4_riderThen_19 zb_60 ?_
  refine zk_cSi (qX4_refusalOfNumber) dX4_riderThen_21 miX4_refusalOfNumber ml_X4_163 stX4_refusalOfNumber rfl (by decide) rfl (Nat.le_of_ble_eq_true rfl) ?_
  rw [if_neg (nI_pos (by omega)), if_neg (show ¬ (60 : Int32) < nI t from nI_nlt (a := 60) ht (by decide))]
  refine zk_istore dX4_riderThen_24 zk_S_4 ?_
  refine zk_iload dX4_riderThen_26 rfl ?_
  refine zk_if_eq (tgt := 38) dX4_riderThen_28 (by decide) (fun _ => ?_) (fun h28 => absurd (rfl) h28)
  refine zk_iload_n dX4_riderThen_38 rfl ?_
  refine zk_iconst dX4_riderThen_39 zc_2 ?_
  refine zk_cSi (qX4_isBelow_t hx) dX4_riderThen_40 miX4_isBelow ml_X4_149 stX4_isBelow rfl (by decide) rfl (Nat.le_of_ble_eq_true rfl) ?_
  refine zk_if_ne (tgt := 53) dX4_riderThen_43 (by decide) (fun _ => ?_) (fun h43 => absurd h43 (by decide))
  refine zk_aload_n dX4_riderThen_53 rfl ?_
  refine zk_iload_n dX4_riderThen_54 rfl ?_
  refine zk_cVv (qX4_thinkOf hI hp) dX4_riderThen_55 mwX4_thinkOf ml_X4_167 (by decide : 0 < zc.1) rfl rfl (by decide) rfl (Nat.le_of_ble_eq_true rfl) ?_
  refine zk_aload_n dX4_riderThen_58 rfl ?_
  refine zk_getRc (q := 37) dX4_riderThen_59 fl_X4_32 (by decide : 0 < zc.1) rfl rfl rfl ?_
  refine zk_aload_n dX4_riderThen_62 rfl ?_
  refine zk_getRc (q := 1) dX4_riderThen_63 fl_X4_12 (by decide : 0 < zc.1) rfl rfl rfl ?_
  refine zk_getRc (q := 2) dX4_riderThen_66 fl_X4_122 (by decide : 1 < zc.1) rfl rfl rfl ?_
  refine zk_iload_n dX4_riderThen_69 rfl ?_
  refine zk_cVv (q37_rideDays (hI.ok37 hp) (by omega)) dX4_riderThen_70 mwX1_rideDays ml_X4_171 (by decide : 37 < zc.1) rfl rfl (by decide) rfl (Nat.le_of_ble_eq_true rfl) ?_
  refine zk_iload_n dX4_riderThen_73 rfl ?_
  refine zk_if_ne (tgt := 87) dX4_riderThen_74 (by decide) (fun h74 => ?_) (fun h74 => ?_)
  · refine zk_aload_n dX4_riderThen_87 rfl ?_
    refine zk_getRc (q := 37) dX4_riderThen_88 fl_X4_32 (by decide : 0 < zc.1) rfl rfl rfl ?_
    refine zk_getI dX4_riderThen_91 fl_X4_109 (by decide : 37 < zc.1) rfl rfl ?_
    refine zk_iret rfl dX4_riderThen_94 ?_
    refine ⟨congrArg (fun v => some (Value.int v)) ?_, (zs_same.rf.up (by omega)).up (by omega)⟩
    rw [zk_up_eq, zk_up_eq, zk_up_ne (by decide), zk_up_ne (by decide)]
    have ha := zs_rides_ag (J := M 3) (T := M 4) zs_ag.rf zs_ag.rf t _ _ (zs_cp_ag (n := 7) (f := M (6 + p)) (g := M 37)) (zs_ok_ag zs_cp_ag.sm (hI.2.2 p hp6))
    first | exact (ha 4 (by decide)).trans (if_pos h74).symm | exact (ha 5 (by decide)).trans (if_neg h74).symm
  · refine zk_aload_n dX4_riderThen_77 rfl ?_
    refine zk_getRc (q := 37) dX4_riderThen_78 fl_X4_32 (by decide : 0 < zc.1) rfl rfl rfl ?_
    refine zk_getI dX4_riderThen_81 fl_X4_106 (by decide : 37 < zc.1) rfl rfl ?_
    refine zk_goto (tgt := 94) dX4_riderThen_84 (by decide) ?_
    refine zk_iret rfl dX4_riderThen_94 ?_
    refine ⟨congrArg (fun v => some (Value.int v)) ?_, (zs_same.rf.up (by omega)).up (by omega)⟩
    rw [zk_up_eq, zk_up_eq, zk_up_ne (by decide), zk_up_ne (by decide)]
    have ha := zs_rides_ag (J := M 3) (T := M 4) zs_ag.rf zs_ag.rf t _ _ (zs_cp_ag (n := 7) (f := M (6 + p)) (g := M 37)) (zs_ok_ag zs_cp_ag.sm (hI.2.2 p hp6))
    first | exact (ha 4 (by decide)).trans (if_pos h74).symm | exact (ha 5 (by decide)).trans (if_neg h74).symm
def zs_fst (M : zk_M) (pl : Int32) (p : Nat) (s : Int32 × Int32) : Int32 × Int32 := if zs_cm M p pl < s.2 then (nI p, zs_cm M p pl) else s
set_option maxRecDepth 100000 in
set_option maxHeartbeats 4000000 in
theorem lX4_first {l : Launch} {M0 : zk_M} {n : Nat} (hI : zs_I M0 n) {pl : Int32} {Q : Option Value → zk_M → zk_L → Prop} : ∀ (m p : Nat) (b s : Int32) (M : zk_M) (L : zk_L), p + m = n → zs_same M0 M → (∀ M' L', zs_same M0 M' → zk_R l zc 6 muX4_first 61 [some (.ref 0), some (.int pl), some (.int (zs_for (zs_fst M0 pl) m p (b, s)).1), none, none, none] [] M' L' Q) → zk_R l zc 6 muX4_first 22 [some (.ref 0), some (.int pl), some (.int b), some (.int s), some (.int (nI p)), none] [] M L Q := by
  have hn6 := hI.1
  intro m
  induction m with
  | zero =>
    intro p b s M L hpm hs k
    obtain rfl : p = n := by omega
    refine zk_iload dX4_first_22 rfl ?_
    refine zk_aload_n dX4_first_24 rfl ?_
    refine zk_getRc (q := 1) dX4_first_25 fl_X4_12 (by decide) rfl rfl rfl ?_
    refine zk_getI dX4_first_28 fl_X4_181 (by decide) rfl rfl ?_
    rw [(hI.sm hs).2.1]
    refine zk_icmp_ge (tgt := 61) dX4_first_31 (by decide) (fun _ => ?_) (fun q => absurd (nI_le (Nat.le_refl _) (by omega)) q)
    refine zk_forget ?_ (k M L hs)
    exact ⟨Or.inr rfl, Or.inr rfl, Or.inr rfl, Or.inl rfl, Or.inl rfl, Or.inl rfl, trivial⟩
  | succ m ih =>
    intro p b s M L hpm hs k
    have hp : p < n := by omega
    refine zk_iload dX4_first_22 rfl ?_
    refine zk_aload_n dX4_first_24 rfl ?_
    refine zk_getRc (q := 1) dX4_first_25 fl_X4_12 (by decide : 0 < zc.1) rfl rfl rfl ?_
    refine zk_getI dX4_first_28 fl_X4_181 (by decide : 1 < zc.1) rfl rfl ?_
    rw [(hI.sm hs).2.1]
    refine zk_icmp_ge (tgt := 61) dX4_first_31 (by decide) (fun h31 => absurd h31 (nI_ge hp (by omega))) (fun _ => ?_)
    refine zk_aload_n dX4_first_34 rfl ?_
    refine zk_iload dX4_first_35 rfl ?_
    refine zk_iload_n dX4_first_37 rfl ?_
    refine zk_cVqi (qX4_comesNow hI hs hp) dX4_first_38 mwX4_comesNow ml_X4_175 (by decide : 0 < zc.1) rfl rfl (by decide) rfl (Nat.le_of_ble_eq_true rfl) (fun M1 L1 hs1 => ?_)
    refine zk_istore dX4_first_41 zk_S_5 ?_
    refine zk_iload dX4_first_43 rfl ?_
    refine zk_iload_n dX4_first_45 rfl ?_
    refine zk_icmp_ge (tgt := 55) dX4_first_46 (by decide) (fun h46 => ?_) (fun h46 => ?_)
    · refine zk_iinc dX4_first_55 zc_1 rfl zk_S_4 ?_
      refine zk_goto (tgt := 22) dX4_first_58 (by decide) ?_
      rw [← nI_succ]
      first
        | exact zk_forget (ls' := [some (.ref 0), some (.int pl), some (.int (nI p)), some (.int (zs_cm M0 p pl)), some (.int (nI (p + 1))), none]) ⟨Or.inr rfl, Or.inr rfl, Or.inr rfl, Or.inr rfl, Or.inr rfl, Or.inl rfl, trivial⟩ (ih (p + 1) (nI p) (zs_cm M0 p pl) M1 L1 (by omega) hs1 (fun M' L' h' => by
            have e : zs_fst M0 pl p (b, s) = (nI p, zs_cm M0 p pl) := if_pos (Int32.not_le.mp h46)
            have := k M' L' h'
            rw [zs_for, e] at this
            exact this))
        | exact zk_forget (ls' := [some (.ref 0), some (.int pl), some (.int b), some (.int s), some (.int (nI (p + 1))), none]) ⟨Or.inr rfl, Or.inr rfl, Or.inr rfl, Or.inr rfl, Or.inr rfl, Or.inl rfl, trivial⟩ (ih (p + 1) b s M1 L1 (by omega) hs1 (fun M' L' h' => by
            have e : zs_fst M0 pl p (b, s) = (b, s) := if_neg (Int32.not_lt.mpr h46)
            have := k M' L' h'
            rw [zs_for, e] at this
            exact this))
    · refine zk_iload dX4_first_49 rfl ?_
      refine zk_istore_n dX4_first_51 zk_S_3 ?_
      refine zk_iload dX4_first_52 rfl ?_
      refine zk_istore_n dX4_first_54 zk_S_2 ?_
      refine zk_iinc dX4_first_55 zc_1 rfl zk_S_4 ?_
      refine zk_goto (tgt := 22) dX4_first_58 (by decide) ?_
      rw [← nI_succ]
      first
        | exact zk_forget (ls' := [some (.ref 0), some (.int pl), some (.int (nI p)), some (.int (zs_cm M0 p pl)), some (.int (nI (p + 1))), none]) ⟨Or.inr rfl, Or.inr rfl, Or.inr rfl, Or.inr rfl, Or.inr rfl, Or.inl rfl, trivial⟩ (ih (p + 1) (nI p) (zs_cm M0 p pl) M1 L1 (by omega) hs1 (fun M' L' h' => by
            have e : zs_fst M0 pl p (b, s) = (nI p, zs_cm M0 p pl) := if_pos (Int32.not_le.mp h46)
            have := k M' L' h'
            rw [zs_for, e] at this
            exact this))
        | exact zk_forget (ls' := [some (.ref 0), some (.int pl), some (.int b), some (.int s), some (.int (nI (p + 1))), none]) ⟨Or.inr rfl, Or.inr rfl, Or.inr rfl, Or.inr rfl, Or.inr rfl, Or.inl rfl, trivial⟩ (ih (p + 1) b s M1 L1 (by omega) hs1 (fun M' L' h' => by
            have e : zs_fst M0 pl p (b, s) = (b, s) := if_neg (Int32.not_lt.mpr h46)
            have := k M' L' h'
            rw [zs_for, e] at this
            exact this))
set_option maxRecDepth 100000 in
set_option maxHeartbeats 4000000 in
theorem qX4_first_r {l : Launch} {M : zk_M} {L : zk_L} {n : Nat} (hI : zs_I M n) {x : Int32} (hx : ¬ zs_p x) : zk_C l zc 6 muX4_first [.ref 0, .int x] M L (zq_i (-1) (zs_ref M 1)) := by
  refine zk_ofR (ls := [some (.ref 0), some (.int x), none, none, none, none]) (by decide) rfl (Nat.le_of_ble_eq_true rfl) rfl ?_
  refine zk_iload_n dX4_first_0 rfl ?_
  refine zk_cSi (qX4_isPlace) dX4_first_1 miX4_isPlace ml_X4_119 stX4_isPlace rfl (by decide) rfl (Nat.le_of_ble_eq_true rfl) ?_
  refine zk_if_ne (tgt := 13) dX4_first_4 (by decide) (fun h4 => ?_) (fun h4 => ?_)
  · have hb := zs_if1 h4
    exact absurd hb hx
  · have hb := zs_if0 h4
    refine zk_aload_n dX4_first_7 rfl ?_
    refine zk_iconst dX4_first_8 zc_m1 ?_
    refine zk_cVi (qrf1) dX4_first_9 mwX4_refuse ml_X4_63 (by decide : 0 < zc.1) rfl rfl (by decide) rfl (Nat.le_of_ble_eq_true rfl) ?_
    refine zk_iret rfl dX4_first_12 ?_
    exact ⟨rfl, zs_same.rf⟩
set_option maxRecDepth 100000 in
set_option maxHeartbeats 4000000 in
theorem qX4_first_t {l : Launch} {M : zk_M} {L : zk_L} {n : Nat} (hI : zs_I M n) {x : Int32} (hx : zs_p x) : zk_C l zc 6 muX4_first [.ref 0, .int x] M L (zq_i (zs_for (zs_fst M x) n 0 (-9, 61)).1 M) := by
  refine zk_ofR (ls := [some (.ref 0), some (.int x), none, none, none, none]) (by decide) rfl (Nat.le_of_ble_eq_true rfl) rfl ?_
  refine zk_iload_n dX4_first_0 rfl ?_
  refine zk_cSi (qX4_isPlace_t hx) dX4_first_1 miX4_isPlace ml_X4_119 stX4_isPlace rfl (by decide) rfl (Nat.le_of_ble_eq_true rfl) ?_
  refine zk_if_ne (tgt := 13) dX4_first_4 (by decide) (fun _ => ?_) (fun h4 => absurd h4 (by decide))
  refine zk_bipush dX4_first_13 zb_m9 ?_
  refine zk_istore_n dX4_first_15 zk_S_2 ?_
  refine zk_bipush dX4_first_16 zb_61 ?_
  refine zk_istore_n dX4_first_18 zk_S_3 ?_
  refine zk_iconst dX4_first_19 zc_0 ?_
  refine zk_istore dX4_first_20 zk_S_4 ?_
  refine lX4_first hI n 0 (-9) 61 M L (by omega) zs_same.rf (fun M' L' h' => ?_)
  refine zk_iload_n dX4_first_61 rfl ?_
  refine zk_iret rfl dX4_first_62 ?_
  exact ⟨rfl, h'⟩
def zs_rest (J T : Nat → Int32) : Nat → Nat → Nat → (Nat → Int32) → Int32
  | 0, _, _, _ => -9
  | m + 1, day, since, f => if nI day - nI since = 5 then nI since else zs_rest J T m (day + 1) (if zs_ride J T f 4 = f 4 then since else day + 1) (zs_ride J T f)
theorem zs_rest_ag {J J' T T' : Nat → Int32} (hJ : zs_ag 8 J J') (hT : zs_ag 64 T T') : ∀ (m day since : Nat) (f g : Nat → Int32), zs_ag 7 f g → zs_ok f → zs_rest J T m day since f = zs_rest J' T' m day since g
  | 0, _, _, _, _, _, _ => rfl
  | m + 1, day, since, f, g, h, ok => by
    have hr := zs_ride_ag hJ hT h ok
    unfold zs_rest
    rw [hr 4 (by decide), h 4 (by decide)]
    split
    · rfl
    · exact zs_rest_ag hJ hT m _ _ _ _ hr (zs_ride_ok ok)
set_option maxRecDepth 100000 in
set_option maxHeartbeats 4000000 in
theorem lX4_rests {l : Launch} {L : zk_L} {M0 : zk_M} {r v : Int32} : ∀ (m i since : Nat) (M : zk_M), i + m = 66 → zs_same M0 M → zs_ok (M 37) → v = zs_rest (M0 3) (M0 4) m i since (M 37) → zk_R l zc 4 muX4_rests 26 [some (.ref 0), some (.int r), some (.int (nI since)), some (.int (nI i)), none] [] M L (zq_i v M0) := by
  intro m
  induction m with
  | zero =>
    intro i since M hi hs ok ek
    obtain rfl : i = 66 := by omega
    refine zk_iload_n dX4_rests_26 rfl ?_
    refine zk_bipush (v := 65) dX4_rests_27 (by decide) ?_
    refine zk_icmp_gt (tgt := 86) dX4_rests_29 (by decide) (fun _ => ?_) (fun q => absurd (by decide) q)
    refine zk_bipush (v := -9) dX4_rests_86 (by decide) ?_
    refine zk_iret rfl dX4_rests_88 ?_
    exact ⟨by rw [ek]; rfl, hs⟩
  | succ m ih =>
    intro i since M hi hs ok ek
    refine zk_iload_n dX4_rests_26 rfl ?_
    refine zk_bipush dX4_rests_27 zb_65 ?_
    refine zk_icmp_gt (tgt := 86) dX4_rests_29 (by decide) (fun h29 => absurd h29 (nI_nlt (a := 65) (show i ≤ 65 by omega) (by decide))) (fun _ => ?_)
    refine zk_iload_n dX4_rests_32 rfl ?_
    refine zk_iload_n dX4_rests_33 rfl ?_
    refine zk_isub dX4_rests_34 ?_
    refine zk_iconst dX4_rests_35 zc_5 ?_
    refine zk_icmp_ne (tgt := 41) dX4_rests_36 (by decide) (fun h36 => ?_) (fun h36 => ?_)
    · refine zk_aload_n dX4_rests_41 rfl ?_
      refine zk_getRc (q := 37) dX4_rests_42 fl_X4_32 (by decide : 0 < zc.1) rfl rfl rfl ?_
      refine zk_getI dX4_rests_45 fl_X4_106 (by decide : 37 < zc.1) rfl rfl ?_
      refine zk_istore dX4_rests_48 zk_S_4 ?_
      refine zk_aload_n dX4_rests_50 rfl ?_
      refine zk_getRc (q := 37) dX4_rests_51 fl_X4_32 (by decide : 0 < zc.1) rfl rfl rfl ?_
      refine zk_aload_n dX4_rests_54 rfl ?_
      refine zk_getRc (q := 1) dX4_rests_55 fl_X4_12 (by decide : 0 < zc.1) rfl rfl rfl ?_
      refine zk_getRc (q := 2) dX4_rests_58 fl_X4_122 (by decide : 1 < zc.1) rfl rfl rfl ?_
      refine zk_cVv (q37_rideDay ok) dX4_rests_61 mwX1_rideDay ml_X4_184 (by decide : 37 < zc.1) rfl rfl (by decide) rfl (Nat.le_of_ble_eq_true rfl) ?_
      refine zk_aload_n dX4_rests_64 rfl ?_
      refine zk_getRc (q := 37) dX4_rests_65 fl_X4_32 (by decide : 0 < zc.1) rfl rfl rfl ?_
      refine zk_getI dX4_rests_68 fl_X4_106 (by decide : 37 < zc.1) rfl rfl ?_
      refine zk_iload dX4_rests_71 rfl ?_
      rw [zk_up_eq, hs 3 (by decide) (by decide), hs 4 (by decide) (by decide)]
      refine zk_icmp_eq (tgt := 80) dX4_rests_73 (by decide) (fun h73 => ?_) (fun h73 => ?_)
      · refine zk_iinc dX4_rests_80 zc_1 rfl zk_S_3 ?_
        refine zk_goto (tgt := 26) dX4_rests_83 (by decide) ?_
        first
          | (rw [← nI_succ]
             refine zk_forget (ls' := [some (.ref 0), some (.int r), some (.int (nI (i + 1))), some (.int (nI (i + 1))), none]) ⟨Or.inr rfl, Or.inr rfl, Or.inr rfl, Or.inr rfl, Or.inl rfl, trivial⟩ (ih (i + 1) (i + 1) _ (by omega) (hs.up (by omega)) (by rw [zk_up_eq]; exact zs_ride_ok ok) ?_)
             rw [zk_up_eq, ek, zs_rest, if_neg h36, if_neg h73])
          | (rw [← nI_succ]
             refine zk_forget (ls' := [some (.ref 0), some (.int r), some (.int (nI since)), some (.int (nI (i + 1))), none]) ⟨Or.inr rfl, Or.inr rfl, Or.inr rfl, Or.inr rfl, Or.inl rfl, trivial⟩ (ih (i + 1) since _ (by omega) (hs.up (by omega)) (by rw [zk_up_eq]; exact zs_ride_ok ok) ?_)
             rw [zk_up_eq, ek, zs_rest, if_neg h36, if_pos h73])
      · refine zk_iload_n dX4_rests_76 rfl ?_
        refine zk_iconst dX4_rests_77 zc_1 ?_
        refine zk_iadd dX4_rests_78 ?_
        refine zk_istore_n dX4_rests_79 zk_S_2 ?_
        refine zk_iinc dX4_rests_80 zc_1 rfl zk_S_3 ?_
        refine zk_goto (tgt := 26) dX4_rests_83 (by decide) ?_
        first
          | (rw [← nI_succ]
             refine zk_forget (ls' := [some (.ref 0), some (.int r), some (.int (nI (i + 1))), some (.int (nI (i + 1))), none]) ⟨Or.inr rfl, Or.inr rfl, Or.inr rfl, Or.inr rfl, Or.inl rfl, trivial⟩ (ih (i + 1) (i + 1) _ (by omega) (hs.up (by omega)) (by rw [zk_up_eq]; exact zs_ride_ok ok) ?_)
             rw [zk_up_eq, ek, zs_rest, if_neg h36, if_neg h73])
          | (rw [← nI_succ]
             refine zk_forget (ls' := [some (.ref 0), some (.int r), some (.int (nI since)), some (.int (nI (i + 1))), none]) ⟨Or.inr rfl, Or.inr rfl, Or.inr rfl, Or.inr rfl, Or.inl rfl, trivial⟩ (ih (i + 1) since _ (by omega) (hs.up (by omega)) (by rw [zk_up_eq]; exact zs_ride_ok ok) ?_)
             rw [zk_up_eq, ek, zs_rest, if_neg h36, if_pos h73])
    · refine zk_iload_n dX4_rests_39 rfl ?_
      refine zk_iret rfl dX4_rests_40 ?_
      exact ⟨by rw [ek, zs_rest, if_pos h36], hs⟩
set_option maxRecDepth 100000 in
set_option maxHeartbeats 4000000 in
theorem qX4_rests_r {l : Launch} {M : zk_M} {L : zk_L} {n : Nat} (hI : zs_I M n) {r : Int32} (hr : ¬ zs_isr (M 1 2) r) : zk_C l zc 4 muX4_rests [.ref 0, .int r] M L (zq_i (-1) (zs_ref M 1)) := by
  refine zk_ofR (ls := [some (.ref 0), some (.int r), none, none, none]) (by decide) rfl (Nat.le_of_ble_eq_true rfl) rfl ?_
  refine zk_aload_n dX4_rests_0 rfl ?_
  refine zk_getRc (q := 1) dX4_rests_1 fl_X4_12 (by decide : 0 < zc.1) rfl rfl rfl ?_
  refine zk_iload_n dX4_rests_4 rfl ?_
  refine zk_cVi (q1_hasRider_f hI hr) dX4_rests_5 mwX0_hasRider ml_X4_85 (by decide : 1 < zc.1) rfl rfl (by decide) rfl (Nat.le_of_ble_eq_true rfl) ?_
  refine zk_if_ne (tgt := 17) dX4_rests_8 (by decide) (fun h8 => absurd (by decide) h8) (fun _ => ?_)
  refine zk_aload_n dX4_rests_11 rfl ?_
  refine zk_iconst dX4_rests_12 zc_m1 ?_
  refine zk_cVi (qrf1) dX4_rests_13 mwX4_refuse ml_X4_63 (by decide : 0 < zc.1) rfl rfl (by decide) rfl (Nat.le_of_ble_eq_true rfl) ?_
  refine zk_iret rfl dX4_rests_16 ?_
  exact ⟨rfl, zs_same.rf⟩
set_option maxRecDepth 100000 in
set_option maxHeartbeats 4000000 in
theorem qX4_rests_t {l : Launch} {M : zk_M} {L : zk_L} {n : Nat} (hI : zs_I M n) {p : Nat} (hp : p < n) : zk_C l zc 4 muX4_rests [.ref 0, .int (nI p)] M L (zq_i (zs_rest (M 3) (M 4) 66 0 0 (M (6 + p))) M) := by
  refine zk_ofR (ls := [some (.ref 0), some (.int (nI p)), none, none, none]) (by decide) rfl (Nat.le_of_ble_eq_true rfl) rfl ?_
  have hp6 : p < 6 := Nat.lt_of_lt_of_le hp hI.1
  refine zk_aload_n dX4_rests_0 rfl ?_
  refine zk_getRc (q := 1) dX4_rests_1 fl_X4_12 (by decide : 0 < zc.1) rfl rfl rfl ?_
  refine zk_iload_n dX4_rests_4 rfl ?_
  refine zk_cVi (q1_hasRider_t hI hp) dX4_rests_5 mwX0_hasRider ml_X4_85 (by decide : 1 < zc.1) rfl rfl (by decide) rfl (Nat.le_of_ble_eq_true rfl) ?_
  refine zk_if_ne (tgt := 17) dX4_rests_8 (by decide) (fun _ => ?_) (fun h8 => absurd h8 (by decide))
  refine zk_aload_n dX4_rests_17 rfl ?_
  refine zk_iload_n dX4_rests_18 rfl ?_
  refine zk_cVv (qX4_thinkOf hI hp) dX4_rests_19 mwX4_thinkOf ml_X4_167 (by decide : 0 < zc.1) rfl rfl (by decide) rfl (Nat.le_of_ble_eq_true rfl) ?_
  refine zk_iconst dX4_rests_22 zc_0 ?_
  refine zk_istore_n dX4_rests_23 zk_S_2 ?_
  refine zk_iconst dX4_rests_24 zc_0 ?_
  refine zk_istore_n dX4_rests_25 zk_S_3 ?_
  refine lX4_rests 66 0 0 _ rfl (zs_same.rf.up (by omega)) (hI.ok37 hp) ?_
  rw [zk_up_eq]
  exact zs_rest_ag zs_ag.rf zs_ag.rf 66 0 0 _ _ zs_cp_ag.sm (hI.2.2 p hp6)
