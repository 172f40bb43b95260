theorem zb_6 : (Int8.ofInt 6).toInt32 = (6 : Int32) := by decide +kernel
theorem zs_999 : (Int16.ofInt 999).toInt32 = (999 : Int32) := by decide +kernel
def zs_c (σ : zk_Sh) (c : Nat) : Prop := c < σ.1 ∧ σ.2.1 c = 0 ∧ zs_r σ (σ.2.2.2 c 0) ∧ (σ.2.2.2 c 1 < σ.1 ∧ σ.2.1 (σ.2.2.2 c 1) = 102 ∧ σ.2.2.1 (σ.2.2.2 c 1) = 6) ∧ (∀ p, p < 6 → zs_h σ (σ.2.2.2 (σ.2.2.2 c 1) p)) ∧ ∀ p q, p < 6 → q < 6 → σ.2.2.2 (σ.2.2.2 c 1) p = σ.2.2.2 (σ.2.2.2 c 1) q → p = q
abbrev zs_isr (n r : Int32) : Prop := 0 ≤ r ∧ r < n
theorem zs_if0 {P : Prop} [Decidable P] (h : (if P then (1 : Int32) else 0) = 0) : ¬ P := fun q => absurd (h.symm.trans (if_pos q)) (by decide)
theorem zs_if1 {P : Prop} [Decidable P] (h : ¬ (if P then (1 : Int32) else 0) = 0) : P := Classical.byContradiction (fun q => h (if_neg q))
theorem zs_nar {P : Prop} [Decidable P] : narrow .boolean (.int (if P then (1 : Int32) else 0)) = .int (if P then (1 : Int32) else 0) := by split <;> decide
theorem zs_lt6 {n r : Int32} (h : r < n) (h6 : n ≤ 6) : ¬ 6 ≤ r := by
  rw [Int32.le_iff_toInt_le] at h6 ⊢
  rw [Int32.lt_iff_toInt_lt] at h
  omega
theorem zs_isr_of {n r : Int32} (h : zs_isr n r) (h6 : n ≤ 6) : ∃ p, p < 6 ∧ r = nI p := by
  have hl := zs_lt6 h.2 h6
  refine vp_in_of (vp_in_iff.mpr ⟨by simpa [Int32.le_iff_toInt_le] using h.1, ?_⟩) (by decide)
  rw [Int32.le_iff_toInt_le] at hl
  have e : (6 : Int32).toInt = 6 := rfl
  omega
theorem zs_ne_ch {σ : zk_Sh} {c h : Nat} (hc : σ.2.1 c = 0) (hh : zs_h σ h) : c ≠ h := fun e => by have := hh.2; rw [← e, hc] at this; cases this
set_option maxRecDepth 100000 in
set_option maxHeartbeats 4000000 in
theorem qX0_hasRider {l : Launch} {σ : zk_Sh} {M : zk_M} {L : zk_L} {c : Nat} (hc : zs_c σ c) {r : Int32} (h6 : M c 2 ≤ 6) : zk_C l σ 0 muX0_hasRider [.ref c, .int r] M L (zk_Ei (if zs_isr (M c 2) r then 1 else 0) M L) := by
  refine zk_ofR (ls := [some (.ref c), some (.int r)]) (by decide) rfl (Nat.le_of_ble_eq_true rfl) rfl ?_
  refine zk_iload_n dX0_hasRider_0 rfl ?_
  refine zk_if_lt (tgt := 22) dX0_hasRider_1 (by decide) (fun h1 => ?_) (fun h1 => ?_)
  · refine zk_iconst dX0_hasRider_22 zc_0 ?_
    refine zk_zret rfl (by decide) dX0_hasRider_23 ?_
    exact zk_Ei_of (by first | exact (if_pos ⟨Int32.not_lt.mp h1, Int32.not_le.mp h9⟩).symm | exact (if_neg (fun q => absurd q.1 (Int32.not_le.mpr h1))).symm | exact (if_neg (fun q => absurd q.2 (Int32.not_lt.mpr h9))).symm) rfl rfl
  · refine zk_iload_n dX0_hasRider_4 rfl ?_
    refine zk_aload_n dX0_hasRider_5 rfl ?_
    refine zk_getI dX0_hasRider_6 fl_X0_32 hc.1 hc.2.1 rfl ?_
    refine zk_icmp_ge (tgt := 22) dX0_hasRider_9 (by decide) (fun h9 => ?_) (fun h9 => ?_)
    · refine zk_iconst dX0_hasRider_22 zc_0 ?_
      refine zk_zret rfl (by decide) dX0_hasRider_23 ?_
      exact zk_Ei_of (by first | exact (if_pos ⟨Int32.not_lt.mp h1, Int32.not_le.mp h9⟩).symm | exact (if_neg (fun q => absurd q.1 (Int32.not_le.mpr h1))).symm | exact (if_neg (fun q => absurd q.2 (Int32.not_lt.mpr h9))).symm) rfl rfl
    · refine zk_iload_n dX0_hasRider_12 rfl ?_
      refine zk_bipush dX0_hasRider_13 zb_6 ?_
      refine zk_icmp_ge (tgt := 22) dX0_hasRider_15 (by decide) (fun h15 => absurd h15 (zs_lt6 (Int32.not_le.mp h9) h6)) (fun _ => ?_)
      refine zk_iconst dX0_hasRider_18 zc_1 ?_
      refine zk_goto (tgt := 23) dX0_hasRider_19 (by decide) ?_
      refine zk_zret rfl (by decide) dX0_hasRider_23 ?_
      exact zk_Ei_of (by first | exact (if_pos ⟨Int32.not_lt.mp h1, Int32.not_le.mp h9⟩).symm | exact (if_neg (fun q => absurd q.1 (Int32.not_le.mpr h1))).symm | exact (if_neg (fun q => absurd q.2 (Int32.not_lt.mpr h9))).symm) rfl rfl
set_option maxRecDepth 100000 in
set_option maxHeartbeats 4000000 in
theorem qX0_changeRoad_t {l : Launch} {σ : zk_Sh} {M : zk_M} {L : zk_L} {c : Nat} (hc : zs_c σ c) {a b : Int32} (ha : zs_p a) (hb : zs_p b) (hab : ¬ a = b) : zk_C l σ 4 muX0_changeRoad [.ref c, .int a, .int b] M L (zk_Ei 1 (va_up (va_up M (σ.2.2.2 (σ.2.2.2 c 0) 0) (zs_turn (M (σ.2.2.2 (σ.2.2.2 c 0) 0)) a b)) (σ.2.2.2 (σ.2.2.2 c 0) 1) (zs_fw (zs_turn (M (σ.2.2.2 (σ.2.2.2 c 0) 0)) a b) (M (σ.2.2.2 (σ.2.2.2 c 0) 1)))) L) := by
  refine zk_ofR (ls := [some (.ref c), some (.int a), some (.int b)]) (by decide) rfl (Nat.le_of_ble_eq_true rfl) rfl ?_
  refine zk_iload_n dX0_changeRoad_0 rfl ?_
  refine zk_cNi (qX4_isPlace_t ha) dX0_changeRoad_1 miX4_isPlace nl_X0_39 stX4_isPlace rfl (by decide) rfl (Nat.le_of_ble_eq_true rfl) ?_
  refine zk_if_eq (tgt := 19) dX0_changeRoad_4 (by decide) (fun h4 => absurd h4 (by decide)) (fun _ => ?_)
  refine zk_iload_n dX0_changeRoad_7 rfl ?_
  refine zk_cNi (qX4_isPlace_t hb) dX0_changeRoad_8 miX4_isPlace nl_X0_39 stX4_isPlace rfl (by decide) rfl (Nat.le_of_ble_eq_true rfl) ?_
  refine zk_if_eq (tgt := 19) dX0_changeRoad_11 (by decide) (fun h11 => absurd h11 (by decide)) (fun _ => ?_)
  refine zk_iload_n dX0_changeRoad_14 rfl ?_
  refine zk_iload_n dX0_changeRoad_15 rfl ?_
  refine zk_icmp_ne (tgt := 21) dX0_changeRoad_16 (by decide) (fun _ => ?_) (fun h16 => absurd h16 (hab))
  refine zk_aload_n dX0_changeRoad_21 rfl ?_
  refine zk_getR dX0_changeRoad_22 fl_X0_12 hc.1 hc.2.1 rfl ?_
  refine zk_iload_n dX0_changeRoad_25 rfl ?_
  refine zk_iload_n dX0_changeRoad_26 rfl ?_
  refine zk_cVv (qX2_change hc.2.2.1 ha hb hab) dX0_changeRoad_27 mwX2_change ml_X0_43 hc.2.2.1.1 hc.2.2.1.2.1 rfl (by decide) rfl (Nat.le_of_ble_eq_true rfl) ?_
  refine zk_iconst dX0_changeRoad_30 zc_1 ?_
  refine zk_zret rfl (by decide) dX0_changeRoad_31 ?_
  exact ⟨rfl, rfl, rfl⟩
set_option maxRecDepth 100000 in
set_option maxHeartbeats 4000000 in
theorem qX0_changeRoad_f {l : Launch} {σ : zk_Sh} {M : zk_M} {L : zk_L} {c : Nat} (hc : zs_c σ c) {a b : Int32} (hn : ¬ (zs_p a ∧ zs_p b ∧ ¬ a = b)) : zk_C l σ 4 muX0_changeRoad [.ref c, .int a, .int b] M L (zk_Ei 0 M L) := by
  refine zk_ofR (ls := [some (.ref c), some (.int a), some (.int b)]) (by decide) rfl (Nat.le_of_ble_eq_true rfl) rfl ?_
  refine zk_iload_n dX0_changeRoad_0 rfl ?_
  refine zk_cNi (qX4_isPlace) dX0_changeRoad_1 miX4_isPlace nl_X0_39 stX4_isPlace rfl (by decide) rfl (Nat.le_of_ble_eq_true rfl) ?_
  refine zk_if_eq (tgt := 19) dX0_changeRoad_4 (by decide) (fun h4 => ?_) (fun h4 => ?_)
  · have ha := zs_if0 h4
    refine zk_iconst dX0_changeRoad_19 zc_0 ?_
    refine zk_zret rfl (by decide) dX0_changeRoad_20 ?_
    exact ⟨rfl, rfl, rfl⟩
  · have ha := zs_if1 h4
    refine zk_iload_n dX0_changeRoad_7 rfl ?_
    refine zk_cNi (qX4_isPlace) dX0_changeRoad_8 miX4_isPlace nl_X0_39 stX4_isPlace rfl (by decide) rfl (Nat.le_of_ble_eq_true rfl) ?_
    refine zk_if_eq (tgt := 19) dX0_changeRoad_11 (by decide) (fun h11 => ?_) (fun h11 => ?_)
    · have hb := zs_if0 h11
      refine zk_iconst dX0_changeRoad_19 zc_0 ?_
      refine zk_zret rfl (by decide) dX0_changeRoad_20 ?_
      exact ⟨rfl, rfl, rfl⟩
    · have hb := zs_if1 h11
      refine zk_iload_n dX0_changeRoad_14 rfl ?_
      refine zk_iload_n dX0_changeRoad_15 rfl ?_
      refine zk_icmp_ne (tgt := 21) dX0_changeRoad_16 (by decide) (fun h16 => absurd (Classical.byContradiction (fun q => hn ⟨ha, hb, q⟩)) h16) (fun _ => ?_)
      refine zk_iconst dX0_changeRoad_19 zc_0 ?_
      refine zk_zret rfl (by decide) dX0_changeRoad_20 ?_
      exact ⟨rfl, rfl, rfl⟩
theorem qX0_hasRider_t {l : Launch} {σ : zk_Sh} {M : zk_M} {L : zk_L} {c : Nat} (hc : zs_c σ c) {r : Int32} (h6 : M c 2 ≤ 6) (hr : zs_isr (M c 2) r) : zk_C l σ 0 muX0_hasRider [.ref c, .int r] M L (zk_Ei 1 M L) := by
  have := qX0_hasRider (l := l) (L := L) hc (r := r) h6
  rwa [if_pos hr] at this
theorem qX0_hasRider_f {l : Launch} {σ : zk_Sh} {M : zk_M} {L : zk_L} {c : Nat} (hc : zs_c σ c) {r : Int32} (h6 : M c 2 ≤ 6) (hr : ¬ zs_isr (M c 2) r) : zk_C l σ 0 muX0_hasRider [.ref c, .int r] M L (zk_Ei 0 M L) := by
  have := qX0_hasRider (l := l) (L := L) hc (r := r) h6
  rwa [if_neg hr] at this
def zs_shod (f : Nat → Int32) : Nat → Int32 := va_up (va_up f 5 (zs_sk (f 0))) 6 0
set_option maxRecDepth 100000 in
set_option maxHeartbeats 4000000 in
theorem qX0_shoeAnew_t {l : Launch} {σ : zk_Sh} {M : zk_M} {L : zk_L} {c : Nat} (hc : zs_c σ c) {p : Nat} (hp : p < 6) (h6 : M c 2 ≤ 6) (hr : zs_isr (M c 2) (nI p)) : zk_C l σ 2 muX0_shoeAnew [.ref c, .int (nI p)] M L (zk_Ei 1 (va_up M (σ.2.2.2 (σ.2.2.2 c 1) p) (zs_shod (M (σ.2.2.2 (σ.2.2.2 c 1) p)))) L) := by
  refine zk_ofR (ls := [some (.ref c), some (.int (nI p))]) (by decide) rfl (Nat.le_of_ble_eq_true rfl) rfl ?_
  refine zk_aload_n dX0_shoeAnew_0 rfl ?_
  refine zk_iload_n dX0_shoeAnew_1 rfl ?_
  refine zk_cVi (qX0_hasRider_t hc h6 hr) dX0_shoeAnew_2 mwX0_hasRider ml_X0_65 hc.1 hc.2.1 rfl (by decide) rfl (Nat.le_of_ble_eq_true rfl) ?_
  refine zk_if_ne (tgt := 10) dX0_shoeAnew_5 (by decide) (fun _ => ?_) (fun h5 => absurd h5 (by decide))
  refine zk_aload_n dX0_shoeAnew_10 rfl ?_
  refine zk_getR dX0_shoeAnew_11 fl_X0_20 hc.1 hc.2.1 rfl ?_
  refine zk_iload_n dX0_shoeAnew_14 rfl ?_
  refine zk_aald (j := p) (q := (σ.2.2.2 (σ.2.2.2 c 1) p)) dX0_shoeAnew_15 hc.2.2.2.1.1 hc.2.2.2.1.2.1 (zs_in hc.2.2.2.1.2.2 (vp_in_nI hp (by decide))) (nI_clamp (by omega)) rfl ?_
  refine zk_cVv (qX1_shoeAnew (hc.2.2.2.2.1 p hp)) dX0_shoeAnew_16 mwX1_shoeAnew ml_X0_62 (hc.2.2.2.2.1 p hp).1 (hc.2.2.2.2.1 p hp).2 rfl (by decide) rfl (Nat.le_of_ble_eq_true rfl) ?_
  refine zk_iconst dX0_shoeAnew_19 zc_1 ?_
  refine zk_zret rfl (by decide) dX0_shoeAnew_20 ?_
  exact ⟨rfl, rfl, rfl⟩
set_option maxRecDepth 100000 in
set_option maxHeartbeats 4000000 in
theorem qX0_shoeAnew_f {l : Launch} {σ : zk_Sh} {M : zk_M} {L : zk_L} {c : Nat} (hc : zs_c σ c) {r : Int32} (h6 : M c 2 ≤ 6) (hr : ¬ zs_isr (M c 2) r) : zk_C l σ 2 muX0_shoeAnew [.ref c, .int r] M L (zk_Ei 0 M L) := by
  refine zk_ofR (ls := [some (.ref c), some (.int r)]) (by decide) rfl (Nat.le_of_ble_eq_true rfl) rfl ?_
  refine zk_aload_n dX0_shoeAnew_0 rfl ?_
  refine zk_iload_n dX0_shoeAnew_1 rfl ?_
  refine zk_cVi (qX0_hasRider_f hc h6 hr) dX0_shoeAnew_2 mwX0_hasRider ml_X0_65 hc.1 hc.2.1 rfl (by decide) rfl (Nat.le_of_ble_eq_true rfl) ?_
  refine zk_if_ne (tgt := 10) dX0_shoeAnew_5 (by decide) (fun h5 => absurd (by decide) h5) (fun _ => ?_)
  refine zk_iconst dX0_shoeAnew_8 zc_0 ?_
  refine zk_zret rfl (by decide) dX0_shoeAnew_9 ?_
  exact ⟨rfl, rfl, rfl⟩
set_option maxRecDepth 100000 in
set_option maxHeartbeats 4000000 in
theorem qX0_setGoal_t {l : Launch} {σ : zk_Sh} {M : zk_M} {L : zk_L} {c : Nat} (hc : zs_c σ c) {p : Nat} (hp : p < 6) (h6 : M c 2 ≤ 6) (hr : zs_isr (M c 2) (nI p)) {x : Int32} (hx : zs_p x) : zk_C l σ 1 muX0_setGoal [.ref c, .int (nI p), .int x] M L (zk_Ei 1 (va_up M (σ.2.2.2 (σ.2.2.2 c 1) p) (va_up (M (σ.2.2.2 (σ.2.2.2 c 1) p)) 2 x)) L) := by
  refine zk_ofR (ls := [some (.ref c), some (.int (nI p)), some (.int x)]) (by decide) rfl (Nat.le_of_ble_eq_true rfl) rfl ?_
  refine zk_aload_n dX0_setGoal_0 rfl ?_
  refine zk_iload_n dX0_setGoal_1 rfl ?_
  refine zk_cVi (qX0_hasRider_t hc h6 hr) dX0_setGoal_2 mwX0_hasRider ml_X0_65 hc.1 hc.2.1 rfl (by decide) rfl (Nat.le_of_ble_eq_true rfl) ?_
  refine zk_if_eq (tgt := 15) dX0_setGoal_5 (by decide) (fun h5 => absurd h5 (by decide)) (fun _ => ?_)
  refine zk_iload_n dX0_setGoal_8 rfl ?_
  refine zk_cNi (qX4_isPlace_t hx) dX0_setGoal_9 miX4_isPlace nl_X0_39 stX4_isPlace rfl (by decide) rfl (Nat.le_of_ble_eq_true rfl) ?_
  refine zk_if_ne (tgt := 17) dX0_setGoal_12 (by decide) (fun _ => ?_) (fun h12 => absurd h12 (by decide))
  refine zk_aload_n dX0_setGoal_17 rfl ?_
  refine zk_getR dX0_setGoal_18 fl_X0_20 hc.1 hc.2.1 rfl ?_
  refine zk_iload_n dX0_setGoal_21 rfl ?_
  refine zk_aald (j := p) (q := (σ.2.2.2 (σ.2.2.2 c 1) p)) dX0_setGoal_22 hc.2.2.2.1.1 hc.2.2.2.1.2.1 (zs_in hc.2.2.2.1.2.2 (vp_in_nI hp (by decide))) (nI_clamp (by omega)) rfl ?_
  refine zk_iload_n dX0_setGoal_23 rfl ?_
  refine zk_putG dX0_setGoal_24 fl_X0_53 ft_1_2 rfl rfl (hc.2.2.2.2.1 p hp).1 (hc.2.2.2.2.1 p hp).2 rfl ?_
  refine zk_iconst dX0_setGoal_27 zc_1 ?_
  refine zk_zret rfl (by decide) dX0_setGoal_28 ?_
  exact ⟨rfl, rfl, rfl⟩
set_option maxRecDepth 100000 in
set_option maxHeartbeats 4000000 in
theorem qX0_setGoal_f {l : Launch} {σ : zk_Sh} {M : zk_M} {L : zk_L} {c : Nat} (hc : zs_c σ c) {r x : Int32} (h6 : M c 2 ≤ 6) (hn : ¬ (zs_isr (M c 2) r ∧ zs_p x)) : zk_C l σ 1 muX0_setGoal [.ref c, .int r, .int x] M L (zk_Ei 0 M L) := by
  refine zk_ofR (ls := [some (.ref c), some (.int r), some (.int x)]) (by decide) rfl (Nat.le_of_ble_eq_true rfl) rfl ?_
  refine zk_aload_n dX0_setGoal_0 rfl ?_
  refine zk_iload_n dX0_setGoal_1 rfl ?_
  refine zk_cVi (qX0_hasRider hc h6) dX0_setGoal_2 mwX0_hasRider ml_X0_65 hc.1 hc.2.1 rfl (by decide) rfl (Nat.le_of_ble_eq_true rfl) ?_
  refine zk_if_eq (tgt := 15) dX0_setGoal_5 (by decide) (fun h5 => ?_) (fun h5 => ?_)
  · have hr := zs_if0 h5
    refine zk_iconst dX0_setGoal_15 zc_0 ?_
    refine zk_zret rfl (by decide) dX0_setGoal_16 ?_
    exact ⟨rfl, rfl, rfl⟩
  · have hr := zs_if1 h5
    refine zk_iload_n dX0_setGoal_8 rfl ?_
    refine zk_cNi (qX4_isPlace) dX0_setGoal_9 miX4_isPlace nl_X0_39 stX4_isPlace rfl (by decide) rfl (Nat.le_of_ble_eq_true rfl) ?_
    refine zk_if_ne (tgt := 17) dX0_setGoal_12 (by decide) (fun h12 => ?_) (fun h12 => ?_)
    · have hx := zs_if1 h12
      exact absurd ⟨hr, hx⟩ hn
    · have hx := zs_if0 h12
      refine zk_iconst dX0_setGoal_15 zc_0 ?_
      refine zk_zret rfl (by decide) dX0_setGoal_16 ?_
      exact ⟨rfl, rfl, rfl⟩
set_option maxRecDepth 100000 in
set_option maxHeartbeats 4000000 in
theorem qX0_setAt_t {l : Launch} {σ : zk_Sh} {M : zk_M} {L : zk_L} {c : Nat} (hc : zs_c σ c) {p : Nat} (hp : p < 6) (h6 : M c 2 ≤ 6) (hr : zs_isr (M c 2) (nI p)) {x : Int32} (hx : zs_p x) : zk_C l σ 1 muX0_setAt [.ref c, .int (nI p), .int x] M L (zk_Ei 1 (va_up M (σ.2.2.2 (σ.2.2.2 c 1) p) (va_up (M (σ.2.2.2 (σ.2.2.2 c 1) p)) 4 x)) L) := by
  refine zk_ofR (ls := [some (.ref c), some (.int (nI p)), some (.int x)]) (by decide) rfl (Nat.le_of_ble_eq_true rfl) rfl ?_
  refine zk_aload_n dX0_setAt_0 rfl ?_
  refine zk_iload_n dX0_setAt_1 rfl ?_
  refine zk_cVi (qX0_hasRider_t hc h6 hr) dX0_setAt_2 mwX0_hasRider ml_X0_65 hc.1 hc.2.1 rfl (by decide) rfl (Nat.le_of_ble_eq_true rfl) ?_
  refine zk_if_eq (tgt := 15) dX0_setAt_5 (by decide) (fun h5 => absurd h5 (by decide)) (fun _ => ?_)
  refine zk_iload_n dX0_setAt_8 rfl ?_
  refine zk_cNi (qX4_isPlace_t hx) dX0_setAt_9 miX4_isPlace nl_X0_39 stX4_isPlace rfl (by decide) rfl (Nat.le_of_ble_eq_true rfl) ?_
  refine zk_if_ne (tgt := 17) dX0_setAt_12 (by decide) (fun _ => ?_) (fun h12 => absurd h12 (by decide))
  refine zk_aload_n dX0_setAt_17 rfl ?_
  refine zk_getR dX0_setAt_18 fl_X0_20 hc.1 hc.2.1 rfl ?_
  refine zk_iload_n dX0_setAt_21 rfl ?_
  refine zk_aald (j := p) (q := (σ.2.2.2 (σ.2.2.2 c 1) p)) dX0_setAt_22 hc.2.2.2.1.1 hc.2.2.2.1.2.1 (zs_in hc.2.2.2.1.2.2 (vp_in_nI hp (by decide))) (nI_clamp (by omega)) rfl ?_
  refine zk_iload_n dX0_setAt_23 rfl ?_
  refine zk_putG dX0_setAt_24 fl_X0_59 ft_1_4 rfl rfl (hc.2.2.2.2.1 p hp).1 (hc.2.2.2.2.1 p hp).2 rfl ?_
  refine zk_iconst dX0_setAt_27 zc_1 ?_
  refine zk_zret rfl (by decide) dX0_setAt_28 ?_
  exact ⟨rfl, rfl, rfl⟩
set_option maxRecDepth 100000 in
set_option maxHeartbeats 4000000 in
theorem qX0_setAt_f {l : Launch} {σ : zk_Sh} {M : zk_M} {L : zk_L} {c : Nat} (hc : zs_c σ c) {r x : Int32} (h6 : M c 2 ≤ 6) (hn : ¬ (zs_isr (M c 2) r ∧ zs_p x)) : zk_C l σ 1 muX0_setAt [.ref c, .int r, .int x] M L (zk_Ei 0 M L) := by
  refine zk_ofR (ls := [some (.ref c), some (.int r), some (.int x)]) (by decide) rfl (Nat.le_of_ble_eq_true rfl) rfl ?_
  refine zk_aload_n dX0_setAt_0 rfl ?_
  refine zk_iload_n dX0_setAt_1 rfl ?_
  refine zk_cVi (qX0_hasRider hc h6) dX0_setAt_2 mwX0_hasRider ml_X0_65 hc.1 hc.2.1 rfl (by decide) rfl (Nat.le_of_ble_eq_true rfl) ?_
  refine zk_if_eq (tgt := 15) dX0_setAt_5 (by decide) (fun h5 => ?_) (fun h5 => ?_)
  · have hr := zs_if0 h5
    refine zk_iconst dX0_setAt_15 zc_0 ?_
    refine zk_zret rfl (by decide) dX0_setAt_16 ?_
    exact ⟨rfl, rfl, rfl⟩
  · have hr := zs_if1 h5
    refine zk_iload_n dX0_setAt_8 rfl ?_
    refine zk_cNi (qX4_isPlace) dX0_setAt_9 miX4_isPlace nl_X0_39 stX4_isPlace rfl (by decide) rfl (Nat.le_of_ble_eq_true rfl) ?_
    refine zk_if_ne (tgt := 17) dX0_setAt_12 (by decide) (fun h12 => ?_) (fun h12 => ?_)
    · have hx := zs_if1 h12
      exact absurd ⟨hr, hx⟩ hn
    · have hx := zs_if0 h12
      refine zk_iconst dX0_setAt_15 zc_0 ?_
      refine zk_zret rfl (by decide) dX0_setAt_16 ?_
      exact ⟨rfl, rfl, rfl⟩
def zs_new (f : Nat → Int32) (k g w s a : Int32) : Nat → Int32 := zs_shod (va_up (va_up (va_up (va_up (va_up f 0 k) 1 g) 2 w) 3 s) 4 a)
set_option maxRecDepth 100000 in
set_option maxHeartbeats 4000000 in
theorem qX0_addRider_t {l : Launch} {σ : zk_Sh} {M : zk_M} {L : zk_L} {c : Nat} (hc : zs_c σ c) {p : Nat} (hp : p < 6) (hcnt : M c 2 = nI p) {kd g x y z : Int32} (hx : zs_p x) (hy : zs_p y) (hz : zs_p z) : zk_C l σ 2 muX0_addRider [.ref c, .int kd, .int g, .int x, .int y, .int z] M L (zk_Ei 1 (va_up (va_up M (σ.2.2.2 (σ.2.2.2 c 1) p) (zs_new (M (σ.2.2.2 (σ.2.2.2 c 1) p)) kd g x y z)) c (va_up (M c) 2 (M c 2 + 1))) L) := by
  refine zk_ofR (ls := [some (.ref c), some (.int kd), some (.int g), some (.int x), some (.int y), some (.int z), none]) (by decide) rfl (Nat.le_of_ble_eq_true rfl) rfl ?_
  refine zk_aload_n dX0_addRider_0 rfl ?_
  refine zk_getI dX0_addRider_1 fl_X0_32 hc.1 hc.2.1 rfl ?_
  refine zk_bipush dX0_addRider_4 zb_6 ?_
  refine zk_icmp_ge (tgt := 32) dX0_addRider_6 (by decide) (fun h6 => absurd h6 (by rw [hcnt]; exact nI_ge hp (by decide))) (fun _ => ?_)
  refine zk_iload_n dX0_addRider_9 rfl ?_
  refine zk_cNi (qX4_isPlace_t hx) dX0_addRider_10 miX4_isPlace nl_X0_39 stX4_isPlace rfl (by decide) rfl (Nat.le_of_ble_eq_true rfl) ?_
  refine zk_if_eq (tgt := 32) dX0_addRider_13 (by decide) (fun h13 => absurd h13 (by decide)) (fun _ => ?_)
  refine zk_iload dX0_addRider_16 rfl ?_
  refine zk_cNi (qX4_isPlace_t hy) dX0_addRider_18 miX4_isPlace nl_X0_39 stX4_isPlace rfl (by decide) rfl (Nat.le_of_ble_eq_true rfl) ?_
  refine zk_if_eq (tgt := 32) dX0_addRider_21 (by decide) (fun h21 => absurd h21 (by decide)) (fun _ => ?_)
  refine zk_iload dX0_addRider_24 rfl ?_
  refine zk_cNi (qX4_isPlace_t hz) dX0_addRider_26 miX4_isPlace nl_X0_39 stX4_isPlace rfl (by decide) rfl (Nat.le_of_ble_eq_true rfl) ?_
  refine zk_if_ne (tgt := 34) dX0_addRider_29 (by decide) (fun _ => ?_) (fun h29 => absurd h29 (by decide))
  refine zk_aload_n dX0_addRider_34 rfl ?_
  refine zk_getR dX0_addRider_35 fl_X0_20 hc.1 hc.2.1 rfl ?_
  refine zk_aload_n dX0_addRider_38 rfl ?_
  refine zk_getI dX0_addRider_39 fl_X0_32 hc.1 hc.2.1 rfl ?_
  rw [hcnt]
  refine zk_aald (j := p) (q := (σ.2.2.2 (σ.2.2.2 c 1) p)) dX0_addRider_42 hc.2.2.2.1.1 hc.2.2.2.1.2.1 (zs_in hc.2.2.2.1.2.2 (vp_in_nI hp (by decide))) (nI_clamp (by omega)) rfl ?_
  refine zk_astore dX0_addRider_43 zk_S_6 ?_
  refine zk_aload dX0_addRider_45 rfl ?_
  refine zk_iload_n dX0_addRider_47 rfl ?_
  refine zk_putG dX0_addRider_48 fl_X0_47 ft_1_0 rfl rfl (hc.2.2.2.2.1 p hp).1 (hc.2.2.2.2.1 p hp).2 rfl ?_
  refine zk_aload dX0_addRider_51 rfl ?_
  refine zk_iload_n dX0_addRider_53 rfl ?_
  refine zk_putG dX0_addRider_54 fl_X0_50 ft_1_1 rfl rfl (hc.2.2.2.2.1 p hp).1 (hc.2.2.2.2.1 p hp).2 rfl ?_
  refine zk_aload dX0_addRider_57 rfl ?_
  refine zk_iload_n dX0_addRider_59 rfl ?_
  refine zk_putG dX0_addRider_60 fl_X0_53 ft_1_2 rfl rfl (hc.2.2.2.2.1 p hp).1 (hc.2.2.2.2.1 p hp).2 rfl ?_
  refine zk_aload dX0_addRider_63 rfl ?_
  refine zk_iload dX0_addRider_65 rfl ?_
  refine zk_putG dX0_addRider_67 fl_X0_56 ft_1_3 rfl rfl (hc.2.2.2.2.1 p hp).1 (hc.2.2.2.2.1 p hp).2 rfl ?_
  refine zk_aload dX0_addRider_70 rfl ?_
  refine zk_iload dX0_addRider_72 rfl ?_
  refine zk_putG dX0_addRider_74 fl_X0_59 ft_1_4 rfl rfl (hc.2.2.2.2.1 p hp).1 (hc.2.2.2.2.1 p hp).2 rfl ?_
  refine zk_aload dX0_addRider_77 rfl ?_
  refine zk_cVv (qX1_shoeAnew (hc.2.2.2.2.1 p hp)) dX0_addRider_79 mwX1_shoeAnew ml_X0_62 (hc.2.2.2.2.1 p hp).1 (hc.2.2.2.2.1 p hp).2 rfl (by decide) rfl (Nat.le_of_ble_eq_true rfl) ?_
  refine zk_aload_n dX0_addRider_82 rfl ?_
  refine zk_dup dX0_addRider_83 rfl ?_
  refine zk_getI dX0_addRider_84 fl_X0_32 hc.1 hc.2.1 rfl ?_
  refine zk_iconst dX0_addRider_87 zc_1 ?_
  refine zk_iadd dX0_addRider_88 ?_
  refine zk_putG dX0_addRider_89 fl_X0_32 ft_0_2 rfl rfl hc.1 hc.2.1 rfl ?_
  refine zk_iconst dX0_addRider_92 zc_1 ?_
  refine zk_zret rfl (by decide) dX0_addRider_93 ?_
  refine zk_Ei_of rfl ?_ rfl
  simp only [zk_up_eq, zs_up2, zk_up_ne (zs_ne_ch hc.2.1 (hc.2.2.2.2.1 p hp)), zs_new, zs_shod]
  rw [hcnt]
set_option maxRecDepth 100000 in
set_option maxHeartbeats 4000000 in
theorem qX0_addRider_f {l : Launch} {σ : zk_Sh} {M : zk_M} {L : zk_L} {c : Nat} (hc : zs_c σ c) {kd g x y z : Int32} (hn : ¬ (M c 2 < 6 ∧ zs_p x ∧ zs_p y ∧ zs_p z)) : zk_C l σ 2 muX0_addRider [.ref c, .int kd, .int g, .int x, .int y, .int z] M L (zk_Ei 0 M L) := by
  refine zk_ofR (ls := [some (.ref c), some (.int kd), some (.int g), some (.int x), some (.int y), some (.int z), none]) (by decide) rfl (Nat.le_of_ble_eq_true rfl) rfl ?_
  refine zk_aload_n dX0_addRider_0 rfl ?_
  refine zk_getI dX0_addRider_1 fl_X0_32 hc.1 hc.2.1 rfl ?_
  refine zk_bipush dX0_addRider_4 zb_6 ?_
  refine zk_icmp_ge (tgt := 32) dX0_addRider_6 (by decide) (fun h6 => ?_) (fun h6 => ?_)
  · refine zk_iconst dX0_addRider_32 zc_0 ?_
    refine zk_zret rfl (by decide) dX0_addRider_33 ?_
    exact ⟨rfl, rfl, rfl⟩
  · refine zk_iload_n dX0_addRider_9 rfl ?_
    refine zk_cNi (qX4_isPlace) dX0_addRider_10 miX4_isPlace nl_X0_39 stX4_isPlace rfl (by decide) rfl (Nat.le_of_ble_eq_true rfl) ?_
    refine zk_if_eq (tgt := 32) dX0_addRider_13 (by decide) (fun h13 => ?_) (fun h13 => ?_)
    · have hx := zs_if0 h13
      refine zk_iconst dX0_addRider_32 zc_0 ?_
      refine zk_zret rfl (by decide) dX0_addRider_33 ?_
      exact ⟨rfl, rfl, rfl⟩
    · have hx := zs_if1 h13
      refine zk_iload dX0_addRider_16 rfl ?_
      refine zk_cNi (qX4_isPlace) dX0_addRider_18 miX4_isPlace nl_X0_39 stX4_isPlace rfl (by decide) rfl (Nat.le_of_ble_eq_true rfl) ?_
      refine zk_if_eq (tgt := 32) dX0_addRider_21 (by decide) (fun h21 => ?_) (fun h21 => ?_)
      · have hy := zs_if0 h21
        refine zk_iconst dX0_addRider_32 zc_0 ?_
        refine zk_zret rfl (by decide) dX0_addRider_33 ?_
        exact ⟨rfl, rfl, rfl⟩
      · have hy := zs_if1 h21
        refine zk_iload dX0_addRider_24 rfl ?_
        refine zk_cNi (qX4_isPlace) dX0_addRider_26 miX4_isPlace nl_X0_39 stX4_isPlace rfl (by decide) rfl (Nat.le_of_ble_eq_true rfl) ?_
        refine zk_if_ne (tgt := 34) dX0_addRider_29 (by decide) (fun h29 => ?_) (fun h29 => ?_)
        · have hz := zs_if1 h29
          exact absurd ⟨Int32.not_le.mp h6, hx, hy, hz⟩ hn
        · have hz := zs_if0 h29
          refine zk_iconst dX0_addRider_32 zc_0 ?_
          refine zk_zret rfl (by decide) dX0_addRider_33 ?_
          exact ⟨rfl, rfl, rfl⟩
def zs_dis (σ : zk_Sh) (c g : Nat) : Prop := c ≠ g ∧ (∀ p q, p < 6 → q < 6 → σ.2.2.2 (σ.2.2.2 g 1) q ≠ σ.2.2.2 (σ.2.2.2 c 1) p) ∧ σ.2.2.2 (σ.2.2.2 g 0) 1 ≠ σ.2.2.2 (σ.2.2.2 c 0) 0
set_option maxRecDepth 100000 in
set_option maxHeartbeats 4000000 in
theorem lX0_becomes {l : Launch} {σ : zk_Sh} {L : zk_L} {c : Nat} (hc : zs_c σ c) {g : Nat} (hg : zs_c σ g) (hd : zs_dis σ c g) {Q : Option Value → zk_M → zk_L → Prop} : ∀ (m p : Nat) (M : zk_M), p + m = 6 → zk_R l σ 2 muX0_becomes 40 [some (.ref c), some (.ref g), none] [] (zs_for (fun p M => va_up M (σ.2.2.2 (σ.2.2.2 c 1) p) (zs_cp 7 (M (σ.2.2.2 (σ.2.2.2 g 1) p)) (M (σ.2.2.2 (σ.2.2.2 c 1) p)))) m p M) L Q → zk_R l σ 2 muX0_becomes 13 [some (.ref c), some (.ref g), some (.int (nI p))] [] M L Q := by
  intro m
  induction m with
  | zero =>
    intro p M hi k
    obtain rfl : p = 6 := by omega
    refine zk_iload_n dX0_becomes_13 rfl ?_
    refine zk_bipush (v := 6) dX0_becomes_14 (by decide) ?_
    refine zk_icmp_ge (tgt := 40) dX0_becomes_16 (by decide) (fun _ => ?_) (fun q => absurd (by decide) q)
    refine zk_forget ?_ k
    exact ⟨Or.inr rfl, Or.inr rfl, Or.inl rfl, trivial⟩
  | succ m ih =>
    intro p M hi k
    have hp : p < 6 := by omega
    refine zk_iload_n dX0_becomes_13 rfl ?_
    refine zk_bipush dX0_becomes_14 zb_6 ?_
    refine zk_icmp_ge (tgt := 40) dX0_becomes_16 (by decide) (fun h16 => absurd h16 (nI_ge hp (by decide))) (fun _ => ?_)
    refine zk_aload_n dX0_becomes_19 rfl ?_
    refine zk_getR dX0_becomes_20 fl_X0_20 hc.1 hc.2.1 rfl ?_
    refine zk_iload_n dX0_becomes_23 rfl ?_
    refine zk_aald (j := p) (q := (σ.2.2.2 (σ.2.2.2 c 1) p)) dX0_becomes_24 hc.2.2.2.1.1 hc.2.2.2.1.2.1 (zs_in hc.2.2.2.1.2.2 (vp_in_nI hp (by decide))) (nI_clamp (by omega)) rfl ?_
    refine zk_aload_n dX0_becomes_25 rfl ?_
    refine zk_getR dX0_becomes_26 fl_X0_20 hg.1 hg.2.1 rfl ?_
    refine zk_iload_n dX0_becomes_29 rfl ?_
    refine zk_aald (j := p) (q := (σ.2.2.2 (σ.2.2.2 g 1) p)) dX0_becomes_30 hg.2.2.2.1.1 hg.2.2.2.1.2.1 (zs_in hg.2.2.2.1.2.2 (vp_in_nI hp (by decide))) (nI_clamp (by omega)) rfl ?_
    refine zk_cVv (qX1_becomes (hc.2.2.2.2.1 p hp) (hg.2.2.2.2.1 p hp) (hd.2.1 p p hp hp)) dX0_becomes_31 mwX1_becomes ml_X0_29 (hc.2.2.2.2.1 p hp).1 (hc.2.2.2.2.1 p hp).2 rfl (by decide) rfl (Nat.le_of_ble_eq_true rfl) ?_
    refine zk_iinc dX0_becomes_34 zc_1 rfl zk_S_2 ?_
    refine zk_goto (tgt := 13) dX0_becomes_37 (by decide) ?_
    rw [← nI_succ]
    refine ih (p + 1) _ (by omega) ?_
    exact k
def zs_cbec (σ : zk_Sh) (c g : Nat) (M : zk_M) : zk_M := zs_for (fun p M => va_up M (σ.2.2.2 (σ.2.2.2 c 1) p) (zs_cp 7 (M (σ.2.2.2 (σ.2.2.2 g 1) p)) (M (σ.2.2.2 (σ.2.2.2 c 1) p)))) 6 0 (va_up (va_up M (σ.2.2.2 (σ.2.2.2 c 0) 0) (zs_cp 8 (M (σ.2.2.2 (σ.2.2.2 g 0) 0)) (M (σ.2.2.2 (σ.2.2.2 c 0) 0)))) (σ.2.2.2 (σ.2.2.2 c 0) 1) (zs_cp 64 (M (σ.2.2.2 (σ.2.2.2 g 0) 1)) (M (σ.2.2.2 (σ.2.2.2 c 0) 1))))
def zs_cbec2 (σ : zk_Sh) (c g : Nat) (M : zk_M) : zk_M := va_up M c (va_up (va_up (M c) 2 (M g 2)) 3 (M g 3))
set_option maxRecDepth 100000 in
set_option maxHeartbeats 4000000 in
theorem qX0_becomes {l : Launch} {σ : zk_Sh} {M : zk_M} {L : zk_L} {c : Nat} (hc : zs_c σ c) {g : Nat} (hg : zs_c σ g) (hd : zs_dis σ c g) : zk_C l σ 2 muX0_becomes [.ref c, .ref g] M L (zk_Ev (zs_cbec2 σ c g (zs_cbec σ c g M)) L) := by
  refine zk_ofR (ls := [some (.ref c), some (.ref g), none]) (by decide) rfl (Nat.le_of_ble_eq_true rfl) rfl ?_
  refine zk_aload_n dX0_becomes_0 rfl ?_
  refine zk_getR dX0_becomes_1 fl_X0_12 hc.1 hc.2.1 rfl ?_
  refine zk_aload_n dX0_becomes_4 rfl ?_
  refine zk_getR dX0_becomes_5 fl_X0_12 hg.1 hg.2.1 rfl ?_
  refine zk_cVv (qX2_becomes hc.2.2.1 hg.2.2.1 hd.2.2) dX0_becomes_8 mwX2_becomes ml_X0_25 hc.2.2.1.1 hc.2.2.1.2.1 rfl (by decide) rfl (Nat.le_of_ble_eq_true rfl) ?_
  refine zk_iconst dX0_becomes_11 zc_0 ?_
  refine zk_istore_n dX0_becomes_12 zk_S_2 ?_
  refine lX0_becomes hc hg hd 6 0 _ rfl ?_
  refine zk_aload_n dX0_becomes_40 rfl ?_
  refine zk_aload_n dX0_becomes_41 rfl ?_
  refine zk_getI dX0_becomes_42 fl_X0_32 hg.1 hg.2.1 rfl ?_
  refine zk_putG dX0_becomes_45 fl_X0_32 ft_0_2 rfl rfl hc.1 hc.2.1 rfl ?_
  refine zk_aload_n dX0_becomes_48 rfl ?_
  refine zk_aload_n dX0_becomes_49 rfl ?_
  refine zk_getI dX0_becomes_50 fl_X0_36 hg.1 hg.2.1 rfl ?_
  refine zk_putG dX0_becomes_53 fl_X0_36 ft_0_3 rfl rfl hc.1 hc.2.1 rfl ?_
  refine zk_vret rfl dX0_becomes_56 ?_
  refine zk_Ev_of ?_ rfl
  simp only [zk_up_eq, zs_up2, zk_up_ne hd.1.symm]
  rfl
set_option maxRecDepth 100000 in
set_option maxHeartbeats 4000000 in
theorem lX0_pass1 {l : Launch} {σ : zk_Sh} {L : zk_L} {c : Nat} (hc : zs_c σ c) {p : Nat} (hp : p < 6) {t : Nat} (ht : t < 2 ^ 31) {Q : Option Value → zk_M → zk_L → Prop} : ∀ (m i : Nat) (M : zk_M), i + m = t → zs_ok (M (σ.2.2.2 (σ.2.2.2 c 1) p)) → zk_R l σ 4 muX0_passDays 71 [some (.ref c), some (.int (nI t)), some (.int (nI p)), none] [] (va_up M (σ.2.2.2 (σ.2.2.2 c 1) p) (zs_rides (M (σ.2.2.2 (σ.2.2.2 c 0) 0)) (M (σ.2.2.2 (σ.2.2.2 c 0) 1)) m (M (σ.2.2.2 (σ.2.2.2 c 1) p)))) L Q → zk_R l σ 4 muX0_passDays 47 [some (.ref c), some (.int (nI t)), some (.int (nI p)), some (.int (nI i))] [] M L Q := by
  intro m
  induction m with
  | zero =>
    intro i M hi ok k
    obtain rfl : i = t := by omega
    refine zk_iload_n dX0_passDays_47 rfl ?_
    refine zk_iload_n dX0_passDays_48 rfl ?_
    refine zk_icmp_ge (tgt := 71) dX0_passDays_49 (by decide) (fun _ => ?_) (fun q => absurd (nI_le (Nat.le_refl _) ht) q)
    rw [zs_rides, zs_up_self] at k
    refine zk_forget ?_ k
    exact ⟨Or.inr rfl, Or.inr rfl, Or.inr rfl, Or.inl rfl, trivial⟩
  | succ m ih =>
    intro i M hi ok k
    have hi : i < t := by omega
    refine zk_iload_n dX0_passDays_47 rfl ?_
    refine zk_iload_n dX0_passDays_48 rfl ?_
    refine zk_icmp_ge (tgt := 71) dX0_passDays_49 (by decide) (fun h49 => absurd h49 (nI_ge hi (by omega))) (fun _ => ?_)
    refine zk_aload_n dX0_passDays_52 rfl ?_
    refine zk_getR dX0_passDays_53 fl_X0_20 hc.1 hc.2.1 rfl ?_
    refine zk_iload_n dX0_passDays_56 rfl ?_
    refine zk_aald (j := p) (q := (σ.2.2.2 (σ.2.2.2 c 1) p)) dX0_passDays_57 hc.2.2.2.1.1 hc.2.2.2.1.2.1 (zs_in hc.2.2.2.1.2.2 (vp_in_nI hp (by decide))) (nI_clamp (by omega)) rfl ?_
    refine zk_aload_n dX0_passDays_58 rfl ?_
    refine zk_getR dX0_passDays_59 fl_X0_12 hc.1 hc.2.1 rfl ?_
    refine zk_cVv (qX1_rideDay (hc.2.2.2.2.1 p hp) hc.2.2.1 ok) dX0_passDays_62 mwX1_rideDay ml_X0_68 (hc.2.2.2.2.1 p hp).1 (hc.2.2.2.2.1 p hp).2 rfl (by decide) rfl (Nat.le_of_ble_eq_true rfl) ?_
    refine zk_iinc dX0_passDays_65 zc_1 rfl zk_S_3 ?_
    refine zk_goto (tgt := 47) dX0_passDays_68 (by decide) ?_
    rw [← nI_succ]
    refine ih (i + 1) _ (by omega) (by rw [zk_up_eq]; exact zs_ride_ok ok) ?_
    rw [zs_up2, zk_up_eq, zk_up_ne (zs_hr (hc.2.2.2.2.1 p hp) hc.2.2.1).1, zk_up_ne (zs_hr (hc.2.2.2.2.1 p hp) hc.2.2.1).2]
    exact k
theorem zs_rides_ok {J T : Nat → Int32} : ∀ (n : Nat) (f : Nat → Int32), zs_ok f → zs_ok (zs_rides J T n f)
  | 0, _, h => h
  | n + 1, f, h => zs_rides_ok n _ (zs_ride_ok h)
set_option maxRecDepth 100000 in
set_option maxHeartbeats 4000000 in
theorem lX0_pass2 {l : Launch} {σ : zk_Sh} {L : zk_L} {c : Nat} (hc : zs_c σ c) {n : Nat} (hn : n ≤ 6) {t : Nat} (ht : t < 2 ^ 31) {Q : Option Value → zk_M → zk_L → Prop} : ∀ (m p : Nat) (M : zk_M), p + m = n → M c 2 = nI n → (∀ q, q < 6 → zs_ok (M (σ.2.2.2 (σ.2.2.2 c 1) q))) → zk_R l σ 4 muX0_passDays 77 [some (.ref c), some (.int (nI t)), none, none] [] (zs_for (fun p M => va_up M (σ.2.2.2 (σ.2.2.2 c 1) p) (zs_rides (M (σ.2.2.2 (σ.2.2.2 c 0) 0)) (M (σ.2.2.2 (σ.2.2.2 c 0) 1)) t (M (σ.2.2.2 (σ.2.2.2 c 1) p)))) m p M) L Q → zk_R l σ 4 muX0_passDays 37 [some (.ref c), some (.int (nI t)), some (.int (nI p)), none] [] M L Q := by
  intro m
  induction m with
  | zero =>
    intro p M hi hcnt ok k
    obtain rfl : p = n := by omega
    refine zk_iload_n dX0_passDays_37 rfl ?_
    refine zk_aload_n dX0_passDays_38 rfl ?_
    refine zk_getI dX0_passDays_39 fl_X0_32 hc.1 hc.2.1 rfl ?_
    rw [hcnt]
    refine zk_icmp_ge (tgt := 77) dX0_passDays_42 (by decide) (fun _ => ?_) (fun q => absurd (nI_le (Nat.le_refl _) (by omega)) q)
    refine zk_forget ?_ k
    exact ⟨Or.inr rfl, Or.inr rfl, Or.inl rfl, Or.inl rfl, trivial⟩
  | succ m ih =>
    intro p M hi hcnt ok k
    have hpc : p < n := by omega
    have hp : p < 6 := by omega
    refine zk_iload_n dX0_passDays_37 rfl ?_
    refine zk_aload_n dX0_passDays_38 rfl ?_
    refine zk_getI dX0_passDays_39 fl_X0_32 hc.1 hc.2.1 rfl ?_
    rw [hcnt]
    refine zk_icmp_ge (tgt := 77) dX0_passDays_42 (by decide) (fun h42 => absurd h42 (nI_ge hpc (by omega))) (fun _ => ?_)
    refine zk_iconst dX0_passDays_45 zc_0 ?_
    refine zk_istore_n dX0_passDays_46 zk_S_3 ?_
    refine lX0_pass1 hc hp ht t 0 M (by omega) (ok p hp) ?_
    refine zk_iinc dX0_passDays_71 zc_1 rfl zk_S_2 ?_
    refine zk_goto (tgt := 37) dX0_passDays_74 (by decide) ?_
    rw [← nI_succ]
    refine zk_forget ?_ (ih (p + 1) _ (by omega) (by rw [zk_up_ne (zs_ne_ch hc.2.1 (hc.2.2.2.2.1 p hp))]; exact hcnt) (fun q hq => ?_) ?_)
    · exact ⟨Or.inr rfl, Or.inr rfl, Or.inr rfl, Or.inl rfl, trivial⟩
    · by_cases e : q = p
      · subst e
        rw [zk_up_eq]
        exact zs_rides_ok _ _ (ok q hq)
      · rw [zk_up_ne (fun z => e (hc.2.2.2.2.2 q p hq hp z))]
        exact ok q hq
    · exact k
def zs_pass (σ : zk_Sh) (c n t : Nat) (M : zk_M) : zk_M := zs_for (fun p M => va_up M (σ.2.2.2 (σ.2.2.2 c 1) p) (zs_rides (M (σ.2.2.2 (σ.2.2.2 c 0) 0)) (M (σ.2.2.2 (σ.2.2.2 c 0) 1)) t (M (σ.2.2.2 (σ.2.2.2 c 1) p)))) n 0 (va_up M c (va_up (M c) 3 (M c 3 + nI t)))
set_option maxRecDepth 100000 in
set_option maxHeartbeats 4000000 in
theorem qX0_passDays_t {l : Launch} {σ : zk_Sh} {M : zk_M} {L : zk_L} {c : Nat} (hc : zs_c σ c) {n : Nat} (hn : n ≤ 6) (hcnt : M c 2 = nI n) (ok : ∀ q, q < 6 → zs_ok (M (σ.2.2.2 (σ.2.2.2 c 1) q))) {t : Nat} (h1 : 1 ≤ t) (h60 : t ≤ 60) (hday : M c 3 + nI t ≤ 999) : zk_C l σ 4 muX0_passDays [.ref c, .int (nI t)] M L (zk_Ei 1 (zs_pass σ c n t M) L) := by
  refine zk_ofR (ls := [some (.ref c), some (.int (nI t)), none, none]) (by decide) rfl (Nat.le_of_ble_eq_true rfl) rfl ?_
  refine zk_iload_n dX0_passDays_0 rfl ?_
  refine zk_iconst dX0_passDays_1 zc_1 ?_
  refine zk_icmp_lt (tgt := 23) dX0_passDays_2 (by decide) (fun h2 => absurd h2 (nI_nlt (show 1 ≤ t by omega) (by omega))) (fun _ => ?_)
  refine zk_iload_n dX0_passDays_5 rfl ?_
  refine zk_bipush dX0_passDays_6 zb_60 ?_
  refine zk_icmp_gt (tgt := 23) dX0_passDays_8 (by decide) (fun h8 => absurd h8 (nI_nlt (a := 60) (show t ≤ 60 by omega) (by decide))) (fun _ => ?_)
  refine zk_aload_n dX0_passDays_11 rfl ?_
  refine zk_getI dX0_passDays_12 fl_X0_36 hc.1 hc.2.1 rfl ?_
  refine zk_iload_n dX0_passDays_15 rfl ?_
  refine zk_iadd dX0_passDays_16 ?_
  refine zk_sipush dX0_passDays_17 zs_999 ?_
  refine zk_icmp_le (tgt := 25) dX0_passDays_20 (by decide) (fun _ => ?_) (fun h20 => absurd (hday) h20)
  refine zk_aload_n dX0_passDays_25 rfl ?_
  refine zk_dup dX0_passDays_26 rfl ?_
  refine zk_getI dX0_passDays_27 fl_X0_36 hc.1 hc.2.1 rfl ?_
  refine zk_iload_n dX0_passDays_30 rfl ?_
  refine zk_iadd dX0_passDays_31 ?_
  refine zk_putG dX0_passDays_32 fl_X0_36 ft_0_3 rfl rfl hc.1 hc.2.1 rfl ?_
  refine zk_iconst dX0_passDays_35 zc_0 ?_
  refine zk_istore_n dX0_passDays_36 zk_S_2 ?_
  refine lX0_pass2 hc hn (by omega) n 0 _ (by omega) (by rw [zk_up_eq, zk_up_ne (by decide)]; exact hcnt) (fun q hq => by rw [zk_up_ne (zs_ne_ch hc.2.1 (hc.2.2.2.2.1 q hq)).symm]; exact ok q hq) ?_
  refine zk_iconst dX0_passDays_77 zc_1 ?_
  refine zk_zret rfl (by decide) dX0_passDays_78 ?_
  exact ⟨rfl, rfl, rfl⟩
set_option maxRecDepth 100000 in
set_option maxHeartbeats 4000000 in
theorem qX0_passDays_f {l : Launch} {σ : zk_Sh} {M : zk_M} {L : zk_L} {c : Nat} (hc : zs_c σ c) {t : Int32} (hn : ¬ (1 ≤ t ∧ t ≤ 60 ∧ M c 3 + t ≤ 999)) : zk_C l σ 4 muX0_passDays [.ref c, .int t] M L (zk_Ei 0 M L) := by
  refine zk_ofR (ls := [some (.ref c), some (.int t), none, none]) (by decide) rfl (Nat.le_of_ble_eq_true rfl) rfl ?_
  refine zk_iload_n dX0_passDays_0 rfl ?_
  refine zk_iconst dX0_passDays_1 zc_1 ?_
  refine zk_icmp_lt (tgt := 23) dX0_passDays_2 (by decide) (fun h2 => ?_) (fun h2 => ?_)
  · refine zk_iconst dX0_passDays_23 zc_0 ?_
    refine zk_zret rfl (by decide) dX0_passDays_24 ?_
    exact ⟨rfl, rfl, rfl⟩
  · refine zk_iload_n dX0_passDays_5 rfl ?_
    refine zk_bipush dX0_passDays_6 zb_60 ?_
    refine zk_icmp_gt (tgt := 23) dX0_passDays_8 (by decide) (fun h8 => ?_) (fun h8 => ?_)
    · refine zk_iconst dX0_passDays_23 zc_0 ?_
      refine zk_zret rfl (by decide) dX0_passDays_24 ?_
      exact ⟨rfl, rfl, rfl⟩
    · refine zk_aload_n dX0_passDays_11 rfl ?_
      refine zk_getI dX0_passDays_12 fl_X0_36 hc.1 hc.2.1 rfl ?_
      refine zk_iload_n dX0_passDays_15 rfl ?_
      refine zk_iadd dX0_passDays_16 ?_
      refine zk_sipush dX0_passDays_17 zs_999 ?_
      refine zk_icmp_le (tgt := 25) dX0_passDays_20 (by decide) (fun h20 => absurd h20 (fun q => hn ⟨Int32.not_lt.mp h2, Int32.not_lt.mp h8, q⟩)) (fun _ => ?_)
      refine zk_iconst dX0_passDays_23 zc_0 ?_
      refine zk_zret rfl (by decide) dX0_passDays_24 ?_
      exact ⟨rfl, rfl, rfl⟩
