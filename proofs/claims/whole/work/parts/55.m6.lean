set_option maxRecDepth 100000 in
set_option maxHeartbeats 4000000 in
theorem qX5_riderThen_r1 {l : Launch} {M : zk_M} {L : zk_L} {n : Nat} (hA : zs_A (M 1) n) {r t x : Int32} (hr : ¬ zs_isr (nI n) r) : zk_C l zm 6 muX5_riderThen [.ref 0, .int r, .int t, .int x] M L (zp_i (-1) (zs_nof M 1)) := by
  refine zk_ofR (ls := [some (.ref 0), some (.int r), some (.int t), some (.int x), none]) (by decide) rfl (Nat.le_of_ble_eq_true rfl) rfl ?_
  refine zk_aload_n dX5_riderThen_0 rfl ?_
  refine zk_iload_n dX5_riderThen_1 rfl ?_
  refine zk_cVi (qX5_isRider_f hA.1 hA.2.1 hr) dX5_riderThen_2 mwX5_isRider ml_X5_118 (by decide : 0 < zm.1) rfl rfl (by decide) rfl (Nat.le_of_ble_eq_true rfl) ?_
  refine zk_if_eq (tgt := 18) dX5_riderThen_5 (by decide) (fun _ => ?_) (fun h5 => absurd (rfl) h5)
  refine zk_iconst dX5_riderThen_18 zc_m1 ?_
  refine zk_istore dX5_riderThen_19 zk_S_4 ?_
  refine zk_iload dX5_riderThen_21 rfl ?_
  refine zk_if_ne (tgt := 39) dX5_riderThen_23 (by decide) (fun _ => ?_) (fun h23 => absurd h23 (by decide))
  refine zk_iload dX5_riderThen_39 rfl ?_
  refine zk_if_eq (tgt := 51) dX5_riderThen_41 (by decide) (fun h41 => absurd h41 (by decide)) (fun _ => ?_)
  refine zk_aload_n dX5_riderThen_44 rfl ?_
  refine zk_iload dX5_riderThen_45 rfl ?_
  refine zk_cVi (qno1) dX5_riderThen_47 mwX5_no ml_X5_42 (by decide : 0 < zm.1) rfl rfl (by decide) rfl (Nat.le_of_ble_eq_true rfl) ?_
  refine zk_iret rfl dX5_riderThen_50 ?_
  exact ⟨rfl, zs_sm.rf⟩
set_option maxRecDepth 100000 in
set_option maxHeartbeats 4000000 in
theorem qX5_riderThen_r4 {l : Launch} {M : zk_M} {L : zk_L} {n : Nat} (hA : zs_A (M 1) n) {p : Nat} (hp : p < n) {t x : Int32} (ht : t < 0) : zk_C l zm 6 muX5_riderThen [.ref 0, .int (nI p), .int t, .int x] M L (zp_i (-4) (zs_nof M 4)) := by
  refine zk_ofR (ls := [some (.ref 0), some (.int (nI p)), some (.int t), some (.int x), none]) (by decide) rfl (Nat.le_of_ble_eq_true rfl) rfl ?_
  refine zk_aload_n dX5_riderThen_0 rfl ?_
  refine zk_iload_n dX5_riderThen_1 rfl ?_
  refine zk_cVi (qX5_isRider_t hA.1 hA.2.1 hp) dX5_riderThen_2 mwX5_isRider ml_X5_118 (by decide : 0 < zm.1) rfl rfl (by decide) rfl (Nat.le_of_ble_eq_true rfl) ?_
  refine zk_if_eq (tgt := 18) dX5_riderThen_5 (by decide) (fun h5 => absurd h5 (by decide)) (fun _ => ?_)
  refine zk_iload_n dX5_riderThen_8 rfl ?_
  refine zk_iconst dX5_riderThen_9 zc_0 ?_
  refine zk_bipush dX5_riderThen_10 zb_60 ?_
  refine zk_cSi (qX5_wrongBy) dX5_riderThen_12 miX5_wrongBy ml_X5_138 stX5_wrongBy rfl (by decide) rfl (Nat.le_of_ble_eq_true rfl) ?_
  rw [if_pos ht]
  refine zk_goto (tgt := 19) dX5_riderThen_15 (by decide) ?_
  refine zk_istore dX5_riderThen_19 zk_S_4 ?_
  refine zk_iload dX5_riderThen_21 rfl ?_
  refine zk_if_ne (tgt := 39) dX5_riderThen_23 (by decide) (fun _ => ?_) (fun h23 => absurd h23 (by decide))
  refine zk_iload dX5_riderThen_39 rfl ?_
  refine zk_if_eq (tgt := 51) dX5_riderThen_41 (by decide) (fun h41 => absurd h41 (by decide)) (fun _ => ?_)
  refine zk_aload_n dX5_riderThen_44 rfl ?_
  refine zk_iload dX5_riderThen_45 rfl ?_
  refine zk_cVi (qno4) dX5_riderThen_47 mwX5_no ml_X5_42 (by decide : 0 < zm.1) rfl rfl (by decide) rfl (Nat.le_of_ble_eq_true rfl) ?_
  refine zk_iret rfl dX5_riderThen_50 ?_
  exact ⟨rfl, zs_sm.rf⟩
set_option maxRecDepth 100000 in
set_option maxHeartbeats 4000000 in
theorem qX5_riderThen_r6 {l : Launch} {M : zk_M} {L : zk_L} {n : Nat} (hA : zs_A (M 1) n) {p : Nat} (hp : p < n) {t x : Int32} (ht : ¬ t < 0) (h6 : 60 < t) : zk_C l zm 6 muX5_riderThen [.ref 0, .int (nI p), .int t, .int x] M L (zp_i (-6) (zs_nof M 6)) := by
  refine zk_ofR (ls := [some (.ref 0), some (.int (nI p)), some (.int t), some (.int x), none]) (by decide) rfl (Nat.le_of_ble_eq_true rfl) rfl ?_
  refine zk_aload_n dX5_riderThen_0 rfl ?_
  refine zk_iload_n dX5_riderThen_1 rfl ?_
  refine zk_cVi (qX5_isRider_t hA.1 hA.2.1 hp) dX5_riderThen_2 mwX5_isRider ml_X5_118 (by decide : 0 < zm.1) rfl rfl (by decide) rfl (Nat.le_of_ble_eq_true rfl) ?_
  refine zk_if_eq (tgt := 18) dX5_riderThen_5 (by decide) (fun h5 => absurd h5 (by decide)) (fun _ => ?_)
  refine zk_iload_n dX5_riderThen_8 rfl ?_
  refine zk_iconst dX5_riderThen_9 zc_0 ?_
  refine zk_bipush dX5_riderThen_10 zb_60 ?_
  refine zk_cSi (qX5_wrongBy) dX5_riderThen_12 miX5_wrongBy ml_X5_138 stX5_wrongBy rfl (by decide) rfl (Nat.le_of_ble_eq_true rfl) ?_
  rw [if_neg ht, if_pos h6]
  refine zk_goto (tgt := 19) dX5_riderThen_15 (by decide) ?_
  refine zk_istore dX5_riderThen_19 zk_S_4 ?_
  refine zk_iload dX5_riderThen_21 rfl ?_
  refine zk_if_ne (tgt := 39) dX5_riderThen_23 (by decide) (fun _ => ?_) (fun h23 => absurd h23 (by decide))
  refine zk_iload dX5_riderThen_39 rfl ?_
  refine zk_if_eq (tgt := 51) dX5_riderThen_41 (by decide) (fun h41 => absurd h41 (by decide)) (fun _ => ?_)
  refine zk_aload_n dX5_riderThen_44 rfl ?_
  refine zk_iload dX5_riderThen_45 rfl ?_
  refine zk_cVi (qno6) dX5_riderThen_47 mwX5_no ml_X5_42 (by decide : 0 < zm.1) rfl rfl (by decide) rfl (Nat.le_of_ble_eq_true rfl) ?_
  refine zk_iret rfl dX5_riderThen_50 ?_
  exact ⟨rfl, zs_sm.rf⟩
set_option maxRecDepth 100000 in
set_option maxHeartbeats 4000000 in
theorem qX5_riderThen_r2 {l : Launch} {M : zk_M} {L : zk_L} {n : Nat} (hA : zs_A (M 1) n) {p : Nat} (hp : p < n) {t x : Int32} (ht : ¬ t < 0) (h6 : ¬ 60 < t) (hx : ¬ (0 ≤ x ∧ x < 2)) : zk_C l zm 6 muX5_riderThen [.ref 0, .int (nI p), .int t, .int x] M L (zp_i (-2) (zs_nof M 2)) := by
  refine zk_ofR (ls := [some (.ref 0), some (.int (nI p)), some (.int t), some (.int x), none]) (by decide) rfl (Nat.le_of_ble_eq_true rfl) rfl ?_
  refine zk_aload_n dX5_riderThen_0 rfl ?_
  refine zk_iload_n dX5_riderThen_1 rfl ?_
  refine zk_cVi (qX5_isRider_t hA.1 hA.2.1 hp) dX5_riderThen_2 mwX5_isRider ml_X5_118 (by decide : 0 < zm.1) rfl rfl (by decide) rfl (Nat.le_of_ble_eq_true rfl) ?_
  refine zk_if_eq (tgt := 18) dX5_riderThen_5 (by decide) (fun h5 => absurd h5 (by decide)) (fun _ => ?_)
  refine zk_iload_n dX5_riderThen_8 rfl ?_
  refine zk_iconst dX5_riderThen_9 zc_0 ?_
  refine zk_bipush dX5_riderThen_10 zb_60 ?_
  refine zk_cSi (qX5_wrongBy) dX5_riderThen_12 miX5_wrongBy ml_X5_138 stX5_wrongBy rfl (by decide) rfl (Nat.le_of_ble_eq_true rfl) ?_
  rw [if_neg ht, if_neg h6]
  refine zk_goto (tgt := 19) dX5_riderThen_15 (by decide) ?_
  refine zk_istore dX5_riderThen_19 zk_S_4 ?_
  refine zk_iload dX5_riderThen_21 rfl ?_
  refine zk_if_ne (tgt := 39) dX5_riderThen_23 (by decide) (fun h23 => absurd (rfl) h23) (fun _ => ?_)
  refine zk_iload_n dX5_riderThen_26 rfl ?_
  refine zk_iconst dX5_riderThen_27 zc_0 ?_
  refine zk_iconst dX5_riderThen_28 zc_1 ?_
  refine zk_cSi (qX5_01_f hx) dX5_riderThen_29 miX5_isIn ml_X5_46 stX5_isIn rfl (by decide) rfl (Nat.le_of_ble_eq_true rfl) ?_
  refine zk_if_ne (tgt := 39) dX5_riderThen_32 (by decide) (fun h32 => absurd (rfl) h32) (fun _ => ?_)
  refine zk_bipush dX5_riderThen_35 zb_m2 ?_
  refine zk_istore dX5_riderThen_37 zk_S_4 ?_
  refine zk_iload dX5_riderThen_39 rfl ?_
  refine zk_if_eq (tgt := 51) dX5_riderThen_41 (by decide) (fun h41 => absurd h41 (by decide)) (fun _ => ?_)
  refine zk_aload_n dX5_riderThen_44 rfl ?_
  refine zk_iload dX5_riderThen_45 rfl ?_
  refine zk_cVi (qno2) dX5_riderThen_47 mwX5_no ml_X5_42 (by decide : 0 < zm.1) rfl rfl (by decide) rfl (Nat.le_of_ble_eq_true rfl) ?_
  refine zk_iret rfl dX5_riderThen_50 ?_
  exact ⟨rfl, zs_sm.rf⟩
set_option maxRecDepth 100000 in
set_option maxHeartbeats 4000000 in
theorem qX5_riderThen_t {l : Launch} {M : zk_M} {L : zk_L} {n : Nat} (hA : zs_A (M 1) n) {p : Nat} (hp : p < n) {t : Nat} (ht : t ≤ 60) {k : Nat} (hk : k < 2) : zk_C l zm 6 muX5_riderThen [.ref 0, .int (nI p), .int (nI t), .int (nI k)] M L (zp_i (zs_rides (zs_J (M 1)) (zs_FW (zs_J (M 1))) t (zs_get (M 1) p) (4 + k)) M) := by
  refine zk_ofR (ls := [some (.ref 0), some (.int (nI p)), some (.int (nI t)), some (.int (nI k)), none]) (by decide) rfl (Nat.le_of_ble_eq_true rfl) rfl ?_
  have hp6 : p < 6 := Nat.lt_of_lt_of_le hp hA.1
  refine zk_aload_n dX5_riderThen_0 rfl ?_
  refine zk_iload_n dX5_riderThen_1 rfl ?_
  refine zk_cVi (qX5_isRider_t hA.1 hA.2.1 hp) dX5_riderThen_2 mwX5_isRider ml_X5_118 (by decide : 0 < zm.1) rfl rfl (by decide) rfl (Nat.le_of_ble_eq_true rfl) ?_
  refine zk_if_eq (tgt := 18) dX5_riderThen_5 (by decide) (fun h5 => absurd h5 (by decide)) (fun _ => ?_)
  refine zk_iload_n dX5_riderThen_8 rfl ?_
  refine zk_iconst dX5_riderThen_9 zc_0 ?_
  refine zk_bipush dX5_riderThen_10 zb_60 ?_
  refine zk_cSi (qX5_wrongBy) dX5_riderThen_12 miX5_wrongBy ml_X5_138 stX5_wrongBy rfl (by decide) rfl (Nat.le_of_ble_eq_true rfl) ?_
  rw [if_neg (nI_pos (by omega)), if_neg (show ¬ (60 : Int32) < nI t from nI_nlt (a := 60) ht (by decide))]
  refine zk_goto (tgt := 19) dX5_riderThen_15 (by decide) ?_
  refine zk_istore dX5_riderThen_19 zk_S_4 ?_
  refine zk_iload dX5_riderThen_21 rfl ?_
  refine zk_if_ne (tgt := 39) dX5_riderThen_23 (by decide) (fun h23 => absurd (rfl) h23) (fun _ => ?_)
  refine zk_iload_n dX5_riderThen_26 rfl ?_
  refine zk_iconst dX5_riderThen_27 zc_0 ?_
  refine zk_iconst dX5_riderThen_28 zc_1 ?_
  refine zk_cSi (qX5_01_t ⟨nI_pos' (by omega), nI_lt (b := 2) hk (by decide)⟩) dX5_riderThen_29 miX5_isIn ml_X5_46 stX5_isIn rfl (by decide) rfl (Nat.le_of_ble_eq_true rfl) ?_
  refine zk_if_ne (tgt := 39) dX5_riderThen_32 (by decide) (fun _ => ?_) (fun h32 => absurd h32 (by decide))
  refine zk_iload dX5_riderThen_39 rfl ?_
  refine zk_if_eq (tgt := 51) dX5_riderThen_41 (by decide) (fun _ => ?_) (fun h41 => absurd (rfl) h41)
  refine zk_aload_n dX5_riderThen_51 rfl ?_
  refine zk_iload_n dX5_riderThen_52 rfl ?_
  refine zk_callV (qX5_takes hA zs_sm.rf (by omega)) dX5_riderThen_53 mwX5_takes ml_X5_148 (by decide : 0 < zm.1) rfl rfl (by decide) rfl (Nat.le_of_ble_eq_true rfl) (fun r1 M1 L1 h1 => ?_)
  obtain ⟨rfl, hs1, hV⟩ := h1
  refine zk_aload_n dX5_riderThen_56 rfl ?_
  refine zk_getRc (q := 2) dX5_riderThen_57 fl_X5_13 (by decide : 0 < zm.1) rfl rfl rfl ?_
  refine zk_iload_n dX5_riderThen_60 rfl ?_
  refine zk_iconst dX5_riderThen_61 zc_4 ?_
  refine zk_iload_n dX5_riderThen_62 rfl ?_
  refine zk_iadd dX5_riderThen_63 ?_
  rw [show 4 + nI k = nI (4 + k) from zs_nI_add 4 k]
  refine zk_cSi (qX5_of) dX5_riderThen_64 miX5_of ml_X5_58 stX5_of rfl (by decide) rfl (Nat.le_of_ble_eq_true rfl) ?_
  refine zk_iald (j := 10 + 7 * p + (4 + k)) dX5_riderThen_67 (by decide : 2 < zm.1) rfl (zs_in rfl (vp_in_nI (zs_7p hp6 (show 4 + k < 7 by omega)) (by decide))) (nI_clamp (by omega)) ?_
  rw [hV.at hp (by omega)]
  refine zk_iret rfl dX5_riderThen_68 ?_
  exact ⟨rfl, hs1⟩
set_option maxRecDepth 100000 in
set_option maxHeartbeats 4000000 in
theorem qX5_comes_r {l : Launch} {M : zk_M} {L : zk_L} {n : Nat} (hA : zs_A (M 1) n) {r x : Int32} (hn : ¬ zs_w2 n r x) : zk_C l zm 6 muX5_comes [.ref 0, .int r, .int x] M L (zp_i (-1) (zs_nof M 1)) := by
  refine zk_ofR (ls := [some (.ref 0), some (.int r), some (.int x)]) (by decide) rfl (Nat.le_of_ble_eq_true rfl) rfl ?_
  refine zk_aload_n dX5_comes_0 rfl ?_
  refine zk_iload_n dX5_comes_1 rfl ?_
  refine zk_iload_n dX5_comes_2 rfl ?_
  refine zk_cVi (qX5_areWrong hA.1 hA.2.1) dX5_comes_3 mwX5_areWrong ml_X5_155 (by decide : 0 < zm.1) rfl rfl (by decide) rfl (Nat.le_of_ble_eq_true rfl) ?_
  rw [if_pos hn]
  refine zk_if_eq (tgt := 17) dX5_comes_6 (by decide) (fun h6 => absurd h6 (by decide)) (fun _ => ?_)
  refine zk_aload_n dX5_comes_9 rfl ?_
  refine zk_iconst dX5_comes_10 zc_m1 ?_
  refine zk_cVi (qno1) dX5_comes_11 mwX5_no ml_X5_42 (by decide : 0 < zm.1) rfl rfl (by decide) rfl (Nat.le_of_ble_eq_true rfl) ?_
  refine zk_goto (tgt := 23) dX5_comes_14 (by decide) ?_
  refine zk_iret rfl dX5_comes_23 ?_
  exact ⟨rfl, zs_sm.rf⟩
theorem zs_w2_t {n p : Nat} (hp : p < n) (hn : n ≤ 6) {x : Int32} (hx : zs_p x) : ¬ ¬ zs_w2 n (nI p) x := fun q => q ⟨⟨nI_pos' (by omega), nI_lt hp (by omega)⟩, hx⟩
set_option maxRecDepth 100000 in
set_option maxHeartbeats 4000000 in
theorem qX5_comes_t {l : Launch} {M : zk_M} {L : zk_L} {n : Nat} (hA : zs_A (M 1) n) {p : Nat} (hp : p < n) {x : Int32} (hx : zs_p x) : zk_C l zm 6 muX5_comes [.ref 0, .int (nI p), .int x] M L (zp_i (zs_cmv (zs_J (M 1)) (zs_FW (zs_J (M 1))) x 61 0 (zs_get (M 1) p)) M) := by
  refine zk_ofR (ls := [some (.ref 0), some (.int (nI p)), some (.int x)]) (by decide) rfl (Nat.le_of_ble_eq_true rfl) rfl ?_
  refine zk_aload_n dX5_comes_0 rfl ?_
  refine zk_iload_n dX5_comes_1 rfl ?_
  refine zk_iload_n dX5_comes_2 rfl ?_
  refine zk_cVi (qX5_areWrong hA.1 hA.2.1) dX5_comes_3 mwX5_areWrong ml_X5_155 (by decide : 0 < zm.1) rfl rfl (by decide) rfl (Nat.le_of_ble_eq_true rfl) ?_
  rw [if_neg (zs_w2_t hp hA.1 hx)]
  refine zk_if_eq (tgt := 17) dX5_comes_6 (by decide) (fun _ => ?_) (fun h6 => absurd (rfl) h6)
  refine zk_aload_n dX5_comes_17 rfl ?_
  refine zk_iload_n dX5_comes_18 rfl ?_
  refine zk_iload_n dX5_comes_19 rfl ?_
  refine zk_cVpi (qX5_comesNow hA zs_sm.rf hp) dX5_comes_20 mwX5_comesNow ml_X5_158 (by decide : 0 < zm.1) rfl rfl (by decide) rfl (Nat.le_of_ble_eq_true rfl) (fun M1 L1 hs1 => ?_)
  refine zk_iret rfl dX5_comes_23 ?_
  exact ⟨rfl, hs1⟩
def zu_cm (J T : Nat → Int32) (pl : Int32) (f : Nat → Int32) : Int32 := (zs_until J T pl 61 0 f).1
def zu_fst (J T : Nat → Int32) (pl : Int32) (F : Nat → Nat → Int32) (p : Nat) (s : Int32 × Int32) : Int32 × Int32 := if zu_cm J T pl (F p) < s.2 then (nI p, zu_cm J T pl (F p)) else s
set_option maxRecDepth 100000 in
set_option maxHeartbeats 4000000 in
theorem lX5_first {l : Launch} {M0 : zk_M} {n : Nat} (hA : zs_A (M0 1) n) {pl : Int32} {Q : Option Value → zk_M → zk_L → Prop} : ∀ (m p : Nat) (b s : Int32) (M : zk_M) (L : zk_L), p + m = n → zs_sm M0 M → (∀ M' L', zs_sm M0 M' → zk_R l zm 6 muX5_first 66 [some (.ref 0), some (.int pl), some (.int (zs_for (zu_fst (zs_J (M0 1)) (zs_FW (zs_J (M0 1))) pl (fun p => zs_get (M0 1) p)) m p (b, s)).1), none, none, none] [] M' L' Q) → zk_R l zm 6 muX5_first 22 [some (.ref 0), some (.int pl), some (.int b), some (.int s), some (.int (nI p)), none] [] M L Q := by
  have hn6 := hA.1
  intro m
  induction m with
  | zero =>
    intro p b s M L hpm hs k
    obtain rfl : p = n := by omega
    refine zk_iload dX5_first_22 rfl ?_
    refine zk_aload_n dX5_first_24 rfl ?_
    refine zk_getRc (q := 1) dX5_first_25 fl_X5_9 (by decide) rfl rfl rfl ?_
    refine zk_iconst dX5_first_28 zc_0 ?_
    refine zk_iald (j := 0) dX5_first_29 (by decide) rfl (zs_in rfl (vp_in_iff.mpr (by decide))) (by decide) ?_
    rw [hs.1, hA.2.1]
    refine zk_icmp_ge (tgt := 66) dX5_first_30 (by decide) (fun _ => ?_) (fun q => absurd (nI_le (Nat.le_refl _) (by omega)) q)
    refine zk_forget ?_ (k M L hs)
    exact ⟨Or.inr rfl, Or.inr rfl, Or.inr rfl, Or.inl rfl, Or.inl rfl, Or.inl rfl, trivial⟩
  | succ m ih =>
    intro p b s M L hpm hs k
    have hp : p < n := by omega
    refine zk_iload dX5_first_22 rfl ?_
    refine zk_aload_n dX5_first_24 rfl ?_
    refine zk_getRc (q := 1) dX5_first_25 fl_X5_9 (by decide : 0 < zm.1) rfl rfl rfl ?_
    refine zk_iconst dX5_first_28 zc_0 ?_
    refine zk_iald (j := 0) dX5_first_29 (by decide : 1 < zm.1) rfl (zs_in rfl (vp_in_iff.mpr (by decide))) (by decide) ?_
    rw [hs.1, hA.2.1]
    refine zk_icmp_ge (tgt := 66) dX5_first_30 (by decide) (fun h30 => absurd h30 (nI_ge hp (by omega))) (fun _ => ?_)
    refine zk_aload_n dX5_first_33 rfl ?_
    refine zk_iload dX5_first_34 rfl ?_
    refine zk_iload_n dX5_first_36 rfl ?_
    refine zk_cVpi (qX5_comesNow hA hs hp) dX5_first_37 mwX5_comesNow ml_X5_158 (by decide : 0 < zm.1) rfl rfl (by decide) rfl (Nat.le_of_ble_eq_true rfl) (fun M1 L1 hs1 => ?_)
    refine zk_cSi (qX5_orNever_c) dX5_first_40 miX5_orNever ml_X5_161 stX5_orNever rfl (by decide) rfl (Nat.le_of_ble_eq_true rfl) ?_
    refine zk_istore dX5_first_43 zk_S_5 ?_
    refine zk_iload dX5_first_45 rfl ?_
    refine zk_iload_n dX5_first_47 rfl ?_
    refine zk_icmp_lt (tgt := 54) dX5_first_48 (by decide) (fun h48 => ?_) (fun h48 => ?_)
    · refine zk_iload dX5_first_54 rfl ?_
      refine zk_istore_n dX5_first_56 zk_S_2 ?_
      refine zk_iload dX5_first_57 rfl ?_
      refine zk_istore_n dX5_first_59 zk_S_3 ?_
      refine zk_iinc dX5_first_60 zc_1 rfl zk_S_4 ?_
      refine zk_goto (tgt := 22) dX5_first_63 (by decide) ?_
      rw [← nI_succ]
      first
        | exact zk_forget (ls' := [some (.ref 0), some (.int pl), some (.int (nI p)), some (.int (zu_cm (zs_J (M0 1)) (zs_FW (zs_J (M0 1))) pl (zs_get (M0 1) p))), some (.int (nI (p + 1))), none]) ⟨Or.inr rfl, Or.inr rfl, Or.inr rfl, Or.inr rfl, Or.inr rfl, Or.inl rfl, trivial⟩ (ih (p + 1) (nI p) (zu_cm (zs_J (M0 1)) (zs_FW (zs_J (M0 1))) pl (zs_get (M0 1) p)) M1 L1 (by omega) hs1 (fun M' L' h' => by
            have e : (zu_fst (zs_J (M0 1)) (zs_FW (zs_J (M0 1))) pl (fun p => zs_get (M0 1) p)) p (b, s) = (nI p, (zu_cm (zs_J (M0 1)) (zs_FW (zs_J (M0 1))) pl (zs_get (M0 1) p))) := if_pos h48
            have := k M' L' h'
            rw [zs_for, e] at this
            exact this))
        | exact zk_forget (ls' := [some (.ref 0), some (.int pl), some (.int b), some (.int s), some (.int (nI (p + 1))), none]) ⟨Or.inr rfl, Or.inr rfl, Or.inr rfl, Or.inr rfl, Or.inr rfl, Or.inl rfl, trivial⟩ (ih (p + 1) b s M1 L1 (by omega) hs1 (fun M' L' h' => by
            have e : (zu_fst (zs_J (M0 1)) (zs_FW (zs_J (M0 1))) pl (fun p => zs_get (M0 1) p)) p (b, s) = (b, s) := if_neg h48
            have := k M' L' h'
            rw [zs_for, e] at this
            exact this))
    · refine zk_goto (tgt := 60) dX5_first_51 (by decide) ?_
      refine zk_iinc dX5_first_60 zc_1 rfl zk_S_4 ?_
      refine zk_goto (tgt := 22) dX5_first_63 (by decide) ?_
      rw [← nI_succ]
      first
        | exact zk_forget (ls' := [some (.ref 0), some (.int pl), some (.int (nI p)), some (.int (zu_cm (zs_J (M0 1)) (zs_FW (zs_J (M0 1))) pl (zs_get (M0 1) p))), some (.int (nI (p + 1))), none]) ⟨Or.inr rfl, Or.inr rfl, Or.inr rfl, Or.inr rfl, Or.inr rfl, Or.inl rfl, trivial⟩ (ih (p + 1) (nI p) (zu_cm (zs_J (M0 1)) (zs_FW (zs_J (M0 1))) pl (zs_get (M0 1) p)) M1 L1 (by omega) hs1 (fun M' L' h' => by
            have e : (zu_fst (zs_J (M0 1)) (zs_FW (zs_J (M0 1))) pl (fun p => zs_get (M0 1) p)) p (b, s) = (nI p, (zu_cm (zs_J (M0 1)) (zs_FW (zs_J (M0 1))) pl (zs_get (M0 1) p))) := if_pos h48
            have := k M' L' h'
            rw [zs_for, e] at this
            exact this))
        | exact zk_forget (ls' := [some (.ref 0), some (.int pl), some (.int b), some (.int s), some (.int (nI (p + 1))), none]) ⟨Or.inr rfl, Or.inr rfl, Or.inr rfl, Or.inr rfl, Or.inr rfl, Or.inl rfl, trivial⟩ (ih (p + 1) b s M1 L1 (by omega) hs1 (fun M' L' h' => by
            have e : (zu_fst (zs_J (M0 1)) (zs_FW (zs_J (M0 1))) pl (fun p => zs_get (M0 1) p)) p (b, s) = (b, s) := if_neg h48
            have := k M' L' h'
            rw [zs_for, e] at this
            exact this))
set_option maxRecDepth 100000 in
set_option maxHeartbeats 4000000 in
theorem qX5_first_r {l : Launch} {M : zk_M} {L : zk_L} {x : Int32} (hx : ¬ zs_p x) : zk_C l zm 6 muX5_first [.ref 0, .int x] M L (zp_i (-1) (zs_nof M 1)) := by
  refine zk_ofR (ls := [some (.ref 0), some (.int x), none, none, none, none]) (by decide) rfl (Nat.le_of_ble_eq_true rfl) rfl ?_
  refine zk_iload_n dX5_first_0 rfl ?_
  refine zk_cSi (qX5_isPlace_f hx) dX5_first_1 miX5_isPlace ml_X5_104 stX5_isPlace rfl (by decide) rfl (Nat.le_of_ble_eq_true rfl) ?_
  refine zk_if_ne (tgt := 13) dX5_first_4 (by decide) (fun h4 => absurd (rfl) h4) (fun _ => ?_)
  refine zk_aload_n dX5_first_7 rfl ?_
  refine zk_iconst dX5_first_8 zc_m1 ?_
  refine zk_cVi (qno1) dX5_first_9 mwX5_no ml_X5_42 (by decide : 0 < zm.1) rfl rfl (by decide) rfl (Nat.le_of_ble_eq_true rfl) ?_
  refine zk_iret rfl dX5_first_12 ?_
  exact ⟨rfl, zs_sm.rf⟩
set_option maxRecDepth 100000 in
set_option maxHeartbeats 4000000 in
theorem qX5_first_t {l : Launch} {M : zk_M} {L : zk_L} {n : Nat} (hA : zs_A (M 1) n) {x : Int32} (hx : zs_p x) : zk_C l zm 6 muX5_first [.ref 0, .int x] M L (zp_i (zs_for (zu_fst (zs_J (M 1)) (zs_FW (zs_J (M 1))) x (fun p => zs_get (M 1) p)) n 0 (-9, 61)).1 M) := by
  refine zk_ofR (ls := [some (.ref 0), some (.int x), none, none, none, none]) (by decide) rfl (Nat.le_of_ble_eq_true rfl) rfl ?_
  refine zk_iload_n dX5_first_0 rfl ?_
  refine zk_cSi (qX5_isPlace_t hx) dX5_first_1 miX5_isPlace ml_X5_104 stX5_isPlace rfl (by decide) rfl (Nat.le_of_ble_eq_true rfl) ?_
  refine zk_if_ne (tgt := 13) dX5_first_4 (by decide) (fun _ => ?_) (fun h4 => absurd h4 (by decide))
  refine zk_bipush dX5_first_13 zb_m9 ?_
  refine zk_istore_n dX5_first_15 zk_S_2 ?_
  refine zk_bipush dX5_first_16 zb_61 ?_
  refine zk_istore_n dX5_first_18 zk_S_3 ?_
  refine zk_iconst dX5_first_19 zc_0 ?_
  refine zk_istore dX5_first_20 zk_S_4 ?_
  refine lX5_first hA n 0 (-9) 61 M L (by omega) zs_sm.rf (fun M' L' h' => ?_)
  refine zk_iload_n dX5_first_66 rfl ?_
  refine zk_iret rfl dX5_first_67 ?_
  exact ⟨rfl, h'⟩
def zs_ir (J T : Nat → Int32) (x : Int32) : Nat → (Nat → Int32) → Bool
  | 0, _ => true
  | m + 1, g => decide (zs_ride J T g 4 = x) && zs_ir J T x m (zs_ride J T g)
def zs_irb (J T : Nat → Int32) (g : Nat → Int32) : Bool := zs_ir J T (g 4) 5 g
def zs_mrs (J T : Nat → Int32) (f : Nat → Int32) : Nat → Nat → Int32
  | 0, _ => -9
  | m + 1, i => if zs_irb J T (zs_rides J T i f) = true then nI i else zs_mrs J T f m (i + 1)
theorem zs_bi_and {a b : Bool} : zs_bi a &&& zs_bi b = zs_bi (a && b) := by cases a <;> cases b <;> decide
theorem zs_bi_nar {b : Bool} : narrow .boolean (.int (zs_bi b)) = .int (zs_bi b) := by cases b <;> decide
theorem zs_bi0 {b : Bool} (h : zs_bi b = 0) : ¬ b = true := by cases b <;> simp_all [zs_bi]
theorem zs_bi1 {b : Bool} (h : ¬ zs_bi b = 0) : b = true := by cases b <;> simp_all [zs_bi]
set_option maxRecDepth 100000 in
set_option maxHeartbeats 4000000 in
theorem lX5_isResting {l : Launch} {M0 : zk_M} {n p : Nat} (hp : p < n) (hp6 : p < 6) {J T : Nat → Int32} {x : Int32} {v : Bool} : ∀ (m i : Nat) (b : Bool) (F : Nat → Nat → Int32) (M : zk_M) (L : zk_L), i + m = 5 → zs_sm M0 M → zs_V M n J T F → v = (b && zs_ir J T x m (F p)) → zk_R l zm 6 muX5_isResting 22 [some (.ref 0), some (.int (nI p)), none, some (.int x), some (.int (zs_bi b)), some (.int (nI i))] [] M L (zp_i (zs_bi v) M0) := by
  intro m
  induction m with
  | zero =>
    intro i b F M L hi hs hV ek
    obtain rfl : i = 5 := by omega
    refine zk_iload dX5_isResting_22 rfl ?_
    refine zk_iconst dX5_isResting_24 zc_5 ?_
    refine zk_icmp_ge (tgt := 67) dX5_isResting_25 (by decide) (fun _ => ?_) (fun q => absurd (by decide) q)
    refine zk_iload dX5_isResting_67 rfl ?_
    refine zk_zret rfl zs_bi_nar dX5_isResting_69 ?_
    exact ⟨by rw [ek, zs_ir, Bool.and_true], hs⟩
  | succ m ih =>
    intro i b F M L hi hs hV ek
    have hi5 : i < 5 := by omega
    refine zk_iload dX5_isResting_22 rfl ?_
    refine zk_iconst dX5_isResting_24 zc_5 ?_
    refine zk_icmp_ge (tgt := 67) dX5_isResting_25 (by decide) (fun h25 => absurd h25 (nI_ge (b := 5) hi5 (by decide))) (fun _ => ?_)
    refine zk_aload_n dX5_isResting_28 rfl ?_
    refine zk_aload_n dX5_isResting_29 rfl ?_
    refine zk_getRc (q := 2) dX5_isResting_30 fl_X5_13 (by decide : 0 < zm.1) rfl rfl rfl ?_
    refine zk_iconst dX5_isResting_33 zc_0 ?_
    refine zk_callV (qd_day hs hV) dX5_isResting_34 mwX5_day ml_X5_76 (by decide : 0 < zm.1) rfl rfl (by decide) rfl (Nat.le_of_ble_eq_true rfl) (fun r1 M1 L1 h1 => ?_)
    obtain ⟨rfl, hs1, hV1⟩ := h1
    refine zk_iload dX5_isResting_37 rfl ?_
    refine zk_aload_n dX5_isResting_39 rfl ?_
    refine zk_getRc (q := 2) dX5_isResting_40 fl_X5_13 (by decide : 0 < zm.1) rfl rfl rfl ?_
    refine zk_iload_n dX5_isResting_43 rfl ?_
    refine zk_iconst dX5_isResting_44 zc_4 ?_
    refine zk_cSi (qX5_of (p := p) (k := 4)) dX5_isResting_45 miX5_of ml_X5_58 stX5_of rfl (by decide) rfl (Nat.le_of_ble_eq_true rfl) ?_
    refine zk_iald (j := 10 + 7 * p + 4) dX5_isResting_48 (by decide : 2 < zm.1) rfl (zs_in rfl (vp_in_nI (zs_7p hp6 (show 4 < 7 by decide)) (by decide))) (nI_clamp (by omega)) ?_
    rw [hV1.at hp (by decide), zs_dF0]
    refine zk_iload_n dX5_isResting_49 rfl ?_
    refine zk_icmp_ne (tgt := 57) dX5_isResting_50 (by decide) (fun h50 => ?_) (fun h50 => ?_)
    · refine zk_iconst dX5_isResting_57 zc_0 ?_
      refine zk_iand dX5_isResting_58 ?_
      refine zk_istore dX5_isResting_59 zk_S_4 ?_
      refine zk_iinc dX5_isResting_61 zc_1 rfl zk_S_5 ?_
      refine zk_goto (tgt := 22) dX5_isResting_64 (by decide) ?_
      rw [← nI_succ]
      first
        | (have e : zs_bi b &&& (1 : Int32) = zs_bi (b && decide (zs_ride J T (F p) 4 = x)) := by rw [decide_eq_true h50]; exact zs_bi_and (b := true)
           rw [e]
           refine ih (i + 1) _ _ M1 L1 (by omega) hs1 hV1 ?_
           rw [ek, zs_ir, zs_dF0, Bool.and_assoc])
        | (have e : zs_bi b &&& (0 : Int32) = zs_bi (b && decide (zs_ride J T (F p) 4 = x)) := by rw [decide_eq_false h50]; exact zs_bi_and (b := false)
           rw [e]
           refine ih (i + 1) _ _ M1 L1 (by omega) hs1 hV1 ?_
           rw [ek, zs_ir, zs_dF0, Bool.and_assoc])
    · refine zk_iconst dX5_isResting_53 zc_1 ?_
      refine zk_goto (tgt := 58) dX5_isResting_54 (by decide) ?_
      refine zk_iand dX5_isResting_58 ?_
      refine zk_istore dX5_isResting_59 zk_S_4 ?_
      refine zk_iinc dX5_isResting_61 zc_1 rfl zk_S_5 ?_
      refine zk_goto (tgt := 22) dX5_isResting_64 (by decide) ?_
      rw [← nI_succ]
      first
        | (have e : zs_bi b &&& (1 : Int32) = zs_bi (b && decide (zs_ride J T (F p) 4 = x)) := by rw [decide_eq_true h50]; exact zs_bi_and (b := true)
           rw [e]
           refine ih (i + 1) _ _ M1 L1 (by omega) hs1 hV1 ?_
           rw [ek, zs_ir, zs_dF0, Bool.and_assoc])
        | (have e : zs_bi b &&& (0 : Int32) = zs_bi (b && decide (zs_ride J T (F p) 4 = x)) := by rw [decide_eq_false h50]; exact zs_bi_and (b := false)
           rw [e]
           refine ih (i + 1) _ _ M1 L1 (by omega) hs1 hV1 ?_
           rw [ek, zs_ir, zs_dF0, Bool.and_assoc])
set_option maxRecDepth 100000 in
set_option maxHeartbeats 4000000 in
theorem qX5_isResting {l : Launch} {M : zk_M} {L : zk_L} {M0 : zk_M} {n : Nat} (hA : zs_A (M0 1) n) (hs : zs_sm M0 M) {p : Nat} (hp : p < n) {t : Nat} (ht : t < 2 ^ 31) : zk_C l zm 6 muX5_isResting [.ref 0, .int (nI p), .int (nI t)] M L (zp_i (zs_bi (zs_irb (zs_J (M0 1)) (zs_FW (zs_J (M0 1))) (zs_rides (zs_J (M0 1)) (zs_FW (zs_J (M0 1))) t (zs_get (M0 1) p)))) M0) := by
  refine zk_ofR (ls := [some (.ref 0), some (.int (nI p)), some (.int (nI t)), none, none, none]) (by decide) rfl (Nat.le_of_ble_eq_true rfl) rfl ?_
  have hp6 : p < 6 := Nat.lt_of_lt_of_le hp hA.1
  refine zk_aload_n dX5_isResting_0 rfl ?_
  refine zk_iload_n dX5_isResting_1 rfl ?_
  refine zk_callV (qX5_takes hA hs ht) dX5_isResting_2 mwX5_takes ml_X5_148 (by decide : 0 < zm.1) rfl rfl (by decide) rfl (Nat.le_of_ble_eq_true rfl) (fun r1 M1 L1 h1 => ?_)
  obtain ⟨rfl, hs1, hV⟩ := h1
  refine zk_aload_n dX5_isResting_5 rfl ?_
  refine zk_getRc (q := 2) dX5_isResting_6 fl_X5_13 (by decide : 0 < zm.1) rfl rfl rfl ?_
  refine zk_iload_n dX5_isResting_9 rfl ?_
  refine zk_iconst dX5_isResting_10 zc_4 ?_
  refine zk_cSi (qX5_of (p := p) (k := 4)) dX5_isResting_11 miX5_of ml_X5_58 stX5_of rfl (by decide) rfl (Nat.le_of_ble_eq_true rfl) ?_
  refine zk_iald (j := 10 + 7 * p + 4) dX5_isResting_14 (by decide : 2 < zm.1) rfl (zs_in rfl (vp_in_nI (zs_7p hp6 (show 4 < 7 by decide)) (by decide))) (nI_clamp (by omega)) ?_
  rw [hV.at hp (by decide)]
  refine zk_istore_n dX5_isResting_15 zk_S_3 ?_
  refine zk_iconst dX5_isResting_16 zc_1 ?_
  refine zk_istore dX5_isResting_17 zk_S_4 ?_
  refine zk_iconst dX5_isResting_19 zc_0 ?_
  refine zk_istore dX5_isResting_20 zk_S_5 ?_
  refine zk_forget (ls' := [some (.ref 0), some (.int (nI p)), none, some (.int (zs_rides (zs_J (M0 1)) (zs_FW (zs_J (M0 1))) t (zs_get (M0 1) p) 4)), some (.int (zs_bi true)), some (.int (nI 0))]) ⟨Or.inr rfl, Or.inr rfl, Or.inl rfl, Or.inr rfl, Or.inr rfl, Or.inr rfl, trivial⟩ (lX5_isResting hp hp6 5 0 true _ M1 L1 rfl hs1 hV ?_)
  rw [Bool.true_and]
  rfl
set_option maxRecDepth 100000 in
set_option maxHeartbeats 4000000 in
theorem lX5_rests {l : Launch} {M0 : zk_M} {n p : Nat} (hA : zs_A (M0 1) n) (hp : p < n) {v : Int32} : ∀ (m i : Nat) (M : zk_M) (L : zk_L), i + m = 61 → zs_sm M0 M → v = zs_mrs (zs_J (M0 1)) (zs_FW (zs_J (M0 1))) (zs_get (M0 1) p) m i → zk_R l zm 7 muX5_rests 16 [some (.ref 0), some (.int (nI p)), some (.int (nI i))] [] M L (zp_i v M0) := by
  intro m
  induction m with
  | zero =>
    intro i M L hi hs ek
    obtain rfl : i = 61 := by omega
    refine zk_iload_n dX5_rests_16 rfl ?_
    refine zk_bipush (v := 60) dX5_rests_17 (by decide) ?_
    refine zk_icmp_gt (tgt := 39) dX5_rests_19 (by decide) (fun _ => ?_) (fun q => absurd (by decide) q)
    refine zk_bipush (v := -9) dX5_rests_39 (by decide) ?_
    refine zk_iret rfl dX5_rests_41 ?_
    exact ⟨by rw [ek]; rfl, hs⟩
  | succ m ih =>
    intro i M L hi hs ek
    refine zk_iload_n dX5_rests_16 rfl ?_
    refine zk_bipush dX5_rests_17 zb_60 ?_
    refine zk_icmp_gt (tgt := 39) dX5_rests_19 (by decide) (fun h19 => absurd h19 (nI_nlt (a := 60) (show i ≤ 60 by omega) (by decide))) (fun _ => ?_)
    refine zk_aload_n dX5_rests_22 rfl ?_
    refine zk_iload_n dX5_rests_23 rfl ?_
    refine zk_iload_n dX5_rests_24 rfl ?_
    refine zk_cVpi (qX5_isResting hA hs hp (by omega)) dX5_rests_25 mwX5_isResting ml_X5_164 (by decide : 0 < zm.1) rfl rfl (by decide) rfl (Nat.le_of_ble_eq_true rfl) (fun M1 L1 hs1 => ?_)
    refine zk_if_eq (tgt := 33) dX5_rests_28 (by decide) (fun h28 => ?_) (fun h28 => ?_)
    · refine zk_iinc dX5_rests_33 zc_1 rfl zk_S_2 ?_
      refine zk_goto (tgt := 16) dX5_rests_36 (by decide) ?_
      rw [← nI_succ]
      exact ih (i + 1) M1 L1 (by omega) hs1 (by rw [ek, zs_mrs, if_neg (zs_bi0 h28)])
    · refine zk_iload_n dX5_rests_31 rfl ?_
      refine zk_iret rfl dX5_rests_32 ?_
      exact ⟨by rw [ek, zs_mrs, if_pos (zs_bi1 h28)], hs1⟩
set_option maxRecDepth 100000 in
set_option maxHeartbeats 4000000 in
theorem qX5_rests_r {l : Launch} {M : zk_M} {L : zk_L} {n : Nat} (hA : zs_A (M 1) n) {r : Int32} (hr : ¬ zs_isr (nI n) r) : zk_C l zm 7 muX5_rests [.ref 0, .int r] M L (zp_i (-1) (zs_nof M 1)) := by
  refine zk_ofR (ls := [some (.ref 0), some (.int r), none]) (by decide) rfl (Nat.le_of_ble_eq_true rfl) rfl ?_
  refine zk_aload_n dX5_rests_0 rfl ?_
  refine zk_iload_n dX5_rests_1 rfl ?_
  refine zk_cVi (qX5_isRider_f hA.1 hA.2.1 hr) dX5_rests_2 mwX5_isRider ml_X5_118 (by decide : 0 < zm.1) rfl rfl (by decide) rfl (Nat.le_of_ble_eq_true rfl) ?_
  refine zk_if_ne (tgt := 14) dX5_rests_5 (by decide) (fun h5 => absurd (rfl) h5) (fun _ => ?_)
  refine zk_aload_n dX5_rests_8 rfl ?_
  refine zk_iconst dX5_rests_9 zc_m1 ?_
  refine zk_cVi (qno1) dX5_rests_10 mwX5_no ml_X5_42 (by decide : 0 < zm.1) rfl rfl (by decide) rfl (Nat.le_of_ble_eq_true rfl) ?_
  refine zk_iret rfl dX5_rests_13 ?_
  exact ⟨rfl, zs_sm.rf⟩
set_option maxRecDepth 100000 in
set_option maxHeartbeats 4000000 in
theorem qX5_rests_t {l : Launch} {M : zk_M} {L : zk_L} {n : Nat} (hA : zs_A (M 1) n) {p : Nat} (hp : p < n) : zk_C l zm 7 muX5_rests [.ref 0, .int (nI p)] M L (zp_i (zs_mrs (zs_J (M 1)) (zs_FW (zs_J (M 1))) (zs_get (M 1) p) 61 0) M) := by
  refine zk_ofR (ls := [some (.ref 0), some (.int (nI p)), none]) (by decide) rfl (Nat.le_of_ble_eq_true rfl) rfl ?_
  refine zk_aload_n dX5_rests_0 rfl ?_
  refine zk_iload_n dX5_rests_1 rfl ?_
  refine zk_cVi (qX5_isRider_t hA.1 hA.2.1 hp) dX5_rests_2 mwX5_isRider ml_X5_118 (by decide : 0 < zm.1) rfl rfl (by decide) rfl (Nat.le_of_ble_eq_true rfl) ?_
  refine zk_if_ne (tgt := 14) dX5_rests_5 (by decide) (fun _ => ?_) (fun h5 => absurd h5 (by decide))
  refine zk_iconst dX5_rests_14 zc_0 ?_
  refine zk_istore_n dX5_rests_15 zk_S_2 ?_
  exact lX5_rests hA hp 61 0 M L rfl zs_sm.rf rfl
set_option maxRecDepth 100000 in
set_option maxHeartbeats 4000000 in
theorem lX5_meet {l : Launch} {M0 : zk_M} {n p q : Nat} (hp : p < n) (hq : q < n) (hp6 : p < 6) (hq6 : q < 6) {J T : Nat → Int32} {x v : Int32} : ∀ (m i : Nat) (F : Nat → Nat → Int32) (M : zk_M) (L : zk_L), i + m = 61 → zs_sm M0 M → zs_V M n J T F → v = zs_meet J T x m i (F p) (F q) → zk_R l zm 6 muX5_meet 51 [some (.ref 0), some (.int (nI p)), some (.int (nI q)), some (.int x), some (.int (nI i))] [] M L (zp_i v M0) := by
  intro m
  induction m with
  | zero =>
    intro i F M L hi hs hV ek
    obtain rfl : i = 61 := by omega
    refine zk_iload dX5_meet_51 rfl ?_
    refine zk_bipush (v := 60) dX5_meet_53 (by decide) ?_
    refine zk_icmp_gt (tgt := 116) dX5_meet_55 (by decide) (fun _ => ?_) (fun q => absurd (by decide) q)
    refine zk_bipush (v := -9) dX5_meet_116 (by decide) ?_
    refine zk_iret rfl dX5_meet_118 ?_
    exact ⟨by rw [ek]; rfl, hs⟩
  | succ m ih =>
    intro i F M L hi hs hV ek
    refine zk_iload dX5_meet_51 rfl ?_
    refine zk_bipush dX5_meet_53 zb_60 ?_
    refine zk_icmp_gt (tgt := 116) dX5_meet_55 (by decide) (fun h55 => absurd h55 (nI_nlt (a := 60) (show i ≤ 60 by omega) (by decide))) (fun _ => ?_)
    refine zk_aload_n dX5_meet_58 rfl ?_
    refine zk_getRc (q := 2) dX5_meet_59 fl_X5_13 (by decide : 0 < zm.1) rfl rfl rfl ?_
    refine zk_iload_n dX5_meet_62 rfl ?_
    refine zk_iconst dX5_meet_63 zc_4 ?_
    refine zk_cSi (qX5_of (p := p) (k := 4)) dX5_meet_64 miX5_of ml_X5_58 stX5_of rfl (by decide) rfl (Nat.le_of_ble_eq_true rfl) ?_
    refine zk_iald (j := 10 + 7 * p + 4) dX5_meet_67 (by decide : 2 < zm.1) rfl (zs_in rfl (vp_in_nI (zs_7p hp6 (show 4 < 7 by decide)) (by decide))) (nI_clamp (by omega)) ?_
    rw [hV.at hp (by decide)]
    refine zk_aload_n dX5_meet_68 rfl ?_
    refine zk_getRc (q := 2) dX5_meet_69 fl_X5_13 (by decide : 0 < zm.1) rfl rfl rfl ?_
    refine zk_iload_n dX5_meet_72 rfl ?_
    refine zk_iconst dX5_meet_73 zc_4 ?_
    refine zk_cSi (qX5_of (p := q) (k := 4)) dX5_meet_74 miX5_of ml_X5_58 stX5_of rfl (by decide) rfl (Nat.le_of_ble_eq_true rfl) ?_
    refine zk_iald (j := 10 + 7 * q + 4) dX5_meet_77 (by decide : 2 < zm.1) rfl (zs_in rfl (vp_in_nI (zs_7p hq6 (show 4 < 7 by decide)) (by decide))) (nI_clamp (by omega)) ?_
    rw [hV.at hq (by decide)]
    refine zk_icmp_ne (tgt := 101) dX5_meet_78 (by decide) (fun h78 => ?_) (fun h78 => ?_)
    · refine zk_aload_n dX5_meet_101 rfl ?_
      refine zk_aload_n dX5_meet_102 rfl ?_
      refine zk_getRc (q := 2) dX5_meet_103 fl_X5_13 (by decide : 0 < zm.1) rfl rfl rfl ?_
      refine zk_iconst dX5_meet_106 zc_0 ?_
      refine zk_callV (qd_day hs hV) dX5_meet_107 mwX5_day ml_X5_76 (by decide : 0 < zm.1) rfl rfl (by decide) rfl (Nat.le_of_ble_eq_true rfl) (fun r1 M1 L1 h1 => ?_)
      obtain ⟨rfl, hs1, hV1⟩ := h1
      refine zk_iinc dX5_meet_110 zc_1 rfl zk_S_4 ?_
      refine zk_goto (tgt := 51) dX5_meet_113 (by decide) ?_
      rw [← nI_succ]
      refine ih (i + 1) _ M1 L1 (by omega) hs1 hV1 ?_
      rw [ek, zs_meet, if_neg h78, zs_dF0, zs_dF0]
    · refine zk_iload_n dX5_meet_81 rfl ?_
      refine zk_if_ne (tgt := 90) dX5_meet_82 (by decide) (fun h82 => ?_) (fun h82 => ?_)
      · refine zk_aload_n dX5_meet_90 rfl ?_
        refine zk_getRc (q := 2) dX5_meet_91 fl_X5_13 (by decide : 0 < zm.1) rfl rfl rfl ?_
        refine zk_iload_n dX5_meet_94 rfl ?_
        refine zk_iconst dX5_meet_95 zc_4 ?_
        refine zk_cSi (qX5_of (p := p) (k := 4)) dX5_meet_96 miX5_of ml_X5_58 stX5_of rfl (by decide) rfl (Nat.le_of_ble_eq_true rfl) ?_
        refine zk_iald (j := 10 + 7 * p + 4) dX5_meet_99 (by decide : 2 < zm.1) rfl (zs_in rfl (vp_in_nI (zs_7p hp6 (show 4 < 7 by decide)) (by decide))) (nI_clamp (by omega)) ?_
        rw [hV.at hp (by decide)]
        refine zk_iret rfl dX5_meet_100 ?_
        exact ⟨by rw [ek, zs_meet, if_pos h78]; first | exact congrArg (fun v => some (Value.int v)) (if_pos h82).symm | exact congrArg (fun v => some (Value.int v)) (if_neg h82).symm, hs⟩
      · refine zk_iload dX5_meet_85 rfl ?_
        refine zk_goto (tgt := 100) dX5_meet_87 (by decide) ?_
        refine zk_iret rfl dX5_meet_100 ?_
        exact ⟨by rw [ek, zs_meet, if_pos h78]; first | exact congrArg (fun v => some (Value.int v)) (if_pos h82).symm | exact congrArg (fun v => some (Value.int v)) (if_neg h82).symm, hs⟩
set_option maxRecDepth 100000 in
set_option maxHeartbeats 4000000 in
theorem qX5_meet_r1 {l : Launch} {M : zk_M} {L : zk_L} {n : Nat} (hA : zs_A (M 1) n) {a b x : Int32} (hn : ¬ (zs_isr (nI n) a ∧ zs_isr (nI n) b ∧ ¬ a = b)) : zk_C l zm 6 muX5_meet [.ref 0, .int a, .int b, .int x] M L (zp_i (-1) (zs_nof M 1)) := by
  refine zk_ofR (ls := [some (.ref 0), some (.int a), some (.int b), some (.int x), none]) (by decide) rfl (Nat.le_of_ble_eq_true rfl) rfl ?_
  refine zk_aload_n dX5_meet_0 rfl ?_
  refine zk_iload_n dX5_meet_1 rfl ?_
  refine zk_cVi (qX5_isRider hA.1 hA.2.1) dX5_meet_2 mwX5_isRider ml_X5_118 (by decide : 0 < zm.1) rfl rfl (by decide) rfl (Nat.le_of_ble_eq_true rfl) ?_
  refine zk_if_eq (tgt := 21) dX5_meet_5 (by decide) (fun h5 => ?_) (fun h5 => ?_)
  · have ha := zs_if0 h5
    refine zk_aload_n dX5_meet_21 rfl ?_
    refine zk_iconst dX5_meet_22 zc_m1 ?_
    refine zk_cVi (qno1) dX5_meet_23 mwX5_no ml_X5_42 (by decide : 0 < zm.1) rfl rfl (by decide) rfl (Nat.le_of_ble_eq_true rfl) ?_
    refine zk_iret rfl dX5_meet_26 ?_
    exact ⟨rfl, zs_sm.rf⟩
  · have ha := zs_if1 h5
    refine zk_aload_n dX5_meet_8 rfl ?_
    refine zk_iload_n dX5_meet_9 rfl ?_
    refine zk_cVi (qX5_isRider hA.1 hA.2.1) dX5_meet_10 mwX5_isRider ml_X5_118 (by decide : 0 < zm.1) rfl rfl (by decide) rfl (Nat.le_of_ble_eq_true rfl) ?_
    refine zk_if_eq (tgt := 21) dX5_meet_13 (by decide) (fun h13 => ?_) (fun h13 => ?_)
    · have hb := zs_if0 h13
      refine zk_aload_n dX5_meet_21 rfl ?_
      refine zk_iconst dX5_meet_22 zc_m1 ?_
      refine zk_cVi (qno1) dX5_meet_23 mwX5_no ml_X5_42 (by decide : 0 < zm.1) rfl rfl (by decide) rfl (Nat.le_of_ble_eq_true rfl) ?_
      refine zk_iret rfl dX5_meet_26 ?_
      exact ⟨rfl, zs_sm.rf⟩
    · have hb := zs_if1 h13
      refine zk_iload_n dX5_meet_16 rfl ?_
      refine zk_iload_n dX5_meet_17 rfl ?_
      refine zk_icmp_ne (tgt := 27) dX5_meet_18 (by decide) (fun h18 => ?_) (fun h18 => ?_)
      · exact absurd ⟨ha, hb, h18⟩ hn
      · refine zk_aload_n dX5_meet_21 rfl ?_
        refine zk_iconst dX5_meet_22 zc_m1 ?_
        refine zk_cVi (qno1) dX5_meet_23 mwX5_no ml_X5_42 (by decide : 0 < zm.1) rfl rfl (by decide) rfl (Nat.le_of_ble_eq_true rfl) ?_
        refine zk_iret rfl dX5_meet_26 ?_
        exact ⟨rfl, zs_sm.rf⟩
set_option maxRecDepth 100000 in
set_option maxHeartbeats 4000000 in
theorem qX5_meet_r2 {l : Launch} {M : zk_M} {L : zk_L} {n : Nat} (hA : zs_A (M 1) n) {p q : Nat} (hp : p < n) (hq : q < n) (hpq : ¬ p = q) {x : Int32} (hx : ¬ (0 ≤ x ∧ x < 2)) : zk_C l zm 6 muX5_meet [.ref 0, .int (nI p), .int (nI q), .int x] M L (zp_i (-2) (zs_nof M 2)) := by
  refine zk_ofR (ls := [some (.ref 0), some (.int (nI p)), some (.int (nI q)), some (.int x), none]) (by decide) rfl (Nat.le_of_ble_eq_true rfl) rfl ?_
  have hn6 := hA.1
  have hp6 : p < 6 := Nat.lt_of_lt_of_le hp hA.1
  have hq6 : q < 6 := Nat.lt_of_lt_of_le hq hA.1
  refine zk_aload_n dX5_meet_0 rfl ?_
  refine zk_iload_n dX5_meet_1 rfl ?_
  refine zk_cVi (qX5_isRider_t hA.1 hA.2.1 hp) dX5_meet_2 mwX5_isRider ml_X5_118 (by decide : 0 < zm.1) rfl rfl (by decide) rfl (Nat.le_of_ble_eq_true rfl) ?_
  refine zk_if_eq (tgt := 21) dX5_meet_5 (by decide) (fun h5 => absurd h5 (by decide)) (fun _ => ?_)
  refine zk_aload_n dX5_meet_8 rfl ?_
  refine zk_iload_n dX5_meet_9 rfl ?_
  refine zk_cVi (qX5_isRider_t hA.1 hA.2.1 hq) dX5_meet_10 mwX5_isRider ml_X5_118 (by decide : 0 < zm.1) rfl rfl (by decide) rfl (Nat.le_of_ble_eq_true rfl) ?_
  refine zk_if_eq (tgt := 21) dX5_meet_13 (by decide) (fun h13 => absurd h13 (by decide)) (fun _ => ?_)
  refine zk_iload_n dX5_meet_16 rfl ?_
  refine zk_iload_n dX5_meet_17 rfl ?_
  refine zk_icmp_ne (tgt := 27) dX5_meet_18 (by decide) (fun _ => ?_) (fun h18 => absurd h18 (fun e => hpq (zs_nI_inj (by omega) (by omega) e)))
  refine zk_iload_n dX5_meet_27 rfl ?_
  refine zk_iconst dX5_meet_28 zc_0 ?_
  refine zk_iconst dX5_meet_29 zc_1 ?_
  refine zk_cSi (qX5_01_f hx) dX5_meet_30 miX5_isIn ml_X5_46 stX5_isIn rfl (by decide) rfl (Nat.le_of_ble_eq_true rfl) ?_
  refine zk_if_ne (tgt := 43) dX5_meet_33 (by decide) (fun h33 => absurd (rfl) h33) (fun _ => ?_)
  refine zk_aload_n dX5_meet_36 rfl ?_
  refine zk_bipush dX5_meet_37 zb_m2 ?_
  refine zk_cVi (qno2) dX5_meet_39 mwX5_no ml_X5_42 (by decide : 0 < zm.1) rfl rfl (by decide) rfl (Nat.le_of_ble_eq_true rfl) ?_
  refine zk_iret rfl dX5_meet_42 ?_
  exact ⟨rfl, zs_sm.rf⟩
set_option maxRecDepth 100000 in
set_option maxHeartbeats 4000000 in
theorem qX5_meet_t {l : Launch} {M : zk_M} {L : zk_L} {n : Nat} (hA : zs_A (M 1) n) {p q : Nat} (hp : p < n) (hq : q < n) (hpq : ¬ p = q) {x : Int32} (hx : 0 ≤ x ∧ x < 2) : zk_C l zm 6 muX5_meet [.ref 0, .int (nI p), .int (nI q), .int x] M L (zp_i (zs_meet (zs_J (M 1)) (zs_FW (zs_J (M 1))) x 61 0 (zs_get (M 1) p) (zs_get (M 1) q)) M) := by
  refine zk_ofR (ls := [some (.ref 0), some (.int (nI p)), some (.int (nI q)), some (.int x), none]) (by decide) rfl (Nat.le_of_ble_eq_true rfl) rfl ?_
  have hn6 := hA.1
  have hp6 : p < 6 := Nat.lt_of_lt_of_le hp hA.1
  have hq6 : q < 6 := Nat.lt_of_lt_of_le hq hA.1
  refine zk_aload_n dX5_meet_0 rfl ?_
  refine zk_iload_n dX5_meet_1 rfl ?_
  refine zk_cVi (qX5_isRider_t hA.1 hA.2.1 hp) dX5_meet_2 mwX5_isRider ml_X5_118 (by decide : 0 < zm.1) rfl rfl (by decide) rfl (Nat.le_of_ble_eq_true rfl) ?_
  refine zk_if_eq (tgt := 21) dX5_meet_5 (by decide) (fun h5 => absurd h5 (by decide)) (fun _ => ?_)
  refine zk_aload_n dX5_meet_8 rfl ?_
  refine zk_iload_n dX5_meet_9 rfl ?_
  refine zk_cVi (qX5_isRider_t hA.1 hA.2.1 hq) dX5_meet_10 mwX5_isRider ml_X5_118 (by decide : 0 < zm.1) rfl rfl (by decide) rfl (Nat.le_of_ble_eq_true rfl) ?_
  refine zk_if_eq (tgt := 21) dX5_meet_13 (by decide) (fun h13 => absurd h13 (by decide)) (fun _ => ?_)
  refine zk_iload_n dX5_meet_16 rfl ?_
  refine zk_iload_n dX5_meet_17 rfl ?_
  refine zk_icmp_ne (tgt := 27) dX5_meet_18 (by decide) (fun _ => ?_) (fun h18 => absurd h18 (fun e => hpq (zs_nI_inj (by omega) (by omega) e)))
  refine zk_iload_n dX5_meet_27 rfl ?_
  refine zk_iconst dX5_meet_28 zc_0 ?_
  refine zk_iconst dX5_meet_29 zc_1 ?_
  refine zk_cSi (qX5_01_t hx) dX5_meet_30 miX5_isIn ml_X5_46 stX5_isIn rfl (by decide) rfl (Nat.le_of_ble_eq_true rfl) ?_
  refine zk_if_ne (tgt := 43) dX5_meet_33 (by decide) (fun _ => ?_) (fun h33 => absurd h33 (by decide))
  refine zk_aload_n dX5_meet_43 rfl ?_
  refine zk_iconst dX5_meet_44 zc_0 ?_
  refine zk_callV (qX5_takes (t := 0) hA zs_sm.rf (by decide)) dX5_meet_45 mwX5_takes ml_X5_148 (by decide : 0 < zm.1) rfl rfl (by decide) rfl (Nat.le_of_ble_eq_true rfl) (fun r1 M1 L1 h1 => ?_)
  obtain ⟨rfl, hs1, hV⟩ := h1
  refine zk_iconst dX5_meet_48 zc_0 ?_
  refine zk_istore dX5_meet_49 zk_S_4 ?_
  exact lX5_meet hp hq hp6 hq6 61 0 _ M1 L1 rfl hs1 hV rfl
