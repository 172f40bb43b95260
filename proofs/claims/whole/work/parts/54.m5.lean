theorem zs_le_lt {x : Int32} {a b : Int32} (e : b.toInt = a.toInt + 1) : x ≤ a ↔ x < b := by
  rw [Int32.le_iff_toInt_le, Int32.lt_iff_toInt_lt, e]
  omega
theorem qX5_01_t {l : Launch} {M : zk_M} {L : zk_L} {x : Int32} (h : 0 ≤ x ∧ x < 2) : zk_C l zm 0 muX5_isIn [.int x, .int 0, .int 1] M L (zk_Ei 1 M L) := qX5_isIn_t ⟨h.1, (zs_le_lt (b := 2) rfl).mpr h.2⟩
theorem qX5_01_f {l : Launch} {M : zk_M} {L : zk_L} {x : Int32} (h : ¬ (0 ≤ x ∧ x < 2)) : zk_C l zm 0 muX5_isIn [.int x, .int 0, .int 1] M L (zk_Ei 0 M L) := qX5_isIn_f (fun q => h ⟨q.1, (zs_le_lt (b := 2) rfl).mp q.2⟩)
theorem qX5_05_t {l : Launch} {M : zk_M} {L : zk_L} {x : Int32} (h : 0 ≤ x ∧ x < 6) : zk_C l zm 0 muX5_isIn [.int x, .int 0, .int 5] M L (zk_Ei 1 M L) := qX5_isIn_t ⟨h.1, (zs_le_lt (b := 6) rfl).mpr h.2⟩
theorem qX5_05_f {l : Launch} {M : zk_M} {L : zk_L} {x : Int32} (h : ¬ (0 ≤ x ∧ x < 6)) : zk_C l zm 0 muX5_isIn [.int x, .int 0, .int 5] M L (zk_Ei 0 M L) := qX5_isIn_f (fun q => h ⟨q.1, (zs_le_lt (b := 6) rfl).mp q.2⟩)
theorem zs_riv_k {f : Nat → Int32} {k : Nat} (hk : k < 7) : zs_riv f (nI k) = f k := by
  unfold zs_riv
  rw [if_neg (fun e => by have := zs_nI_inj (b := 7) (by omega) (by decide) e; omega), nI_clamp (by omega)]
theorem zs_b8_k {x : Int32} (h : zs_b8 x) : (∃ k, k < 7 ∧ x = nI k) ∨ x = 7 := by
  rcases h with h | h | h | h | h | h | h | h
  · exact Or.inl ⟨0, by decide, h⟩
  · exact Or.inl ⟨1, by decide, h⟩
  · exact Or.inl ⟨2, by decide, h⟩
  · exact Or.inl ⟨3, by decide, h⟩
  · exact Or.inl ⟨4, by decide, h⟩
  · exact Or.inl ⟨5, by decide, h⟩
  · exact Or.inl ⟨6, by decide, h⟩
  · exact Or.inr h
theorem zs_k_b8 {x : Int32} (h : 0 ≤ x ∧ x ≤ 6) : zs_b8 x := by
  have h1 := h.1
  have h2 := h.2
  rw [Int32.le_iff_toInt_le] at h1 h2
  have e0 : (0 : Int32).toInt = 0 := rfl
  have e1 : (1 : Int32).toInt = 1 := rfl
  have e2 : (2 : Int32).toInt = 2 := rfl
  have e3 : (3 : Int32).toInt = 3 := rfl
  have e4 : (4 : Int32).toInt = 4 := rfl
  have e5 : (5 : Int32).toInt = 5 := rfl
  have e6 : (6 : Int32).toInt = 6 := rfl
  have e7 : (7 : Int32).toInt = 7 := rfl
  unfold zs_b8
  simp only [← Int32.toInt_inj]
  omega
set_option maxRecDepth 100000 in
set_option maxHeartbeats 4000000 in
theorem qX5_rider_r1 {l : Launch} {M : zk_M} {L : zk_L} {n : Nat} (hA : zs_A (M 1) n) {r x : Int32} (hr : ¬ zs_isr (nI n) r) : zk_C l zm 2 muX5_rider [.ref 0, .int r, .int x] M L (zp_i (-1) (zs_nof M 1)) := by
  refine zk_ofR (ls := [some (.ref 0), some (.int r), some (.int x)]) (by decide) rfl (Nat.le_of_ble_eq_true rfl) rfl ?_
  refine zk_aload_n dX5_rider_0 rfl ?_
  refine zk_iload_n dX5_rider_1 rfl ?_
  refine zk_cVi (qX5_isRider_f hA.1 hA.2.1 hr) dX5_rider_2 mwX5_isRider ml_X5_118 (by decide : 0 < zm.1) rfl rfl (by decide) rfl (Nat.le_of_ble_eq_true rfl) ?_
  refine zk_if_ne (tgt := 14) dX5_rider_5 (by decide) (fun h5 => absurd (rfl) h5) (fun _ => ?_)
  refine zk_aload_n dX5_rider_8 rfl ?_
  refine zk_iconst dX5_rider_9 zc_m1 ?_
  refine zk_cVi (qno1) dX5_rider_10 mwX5_no ml_X5_42 (by decide : 0 < zm.1) rfl rfl (by decide) rfl (Nat.le_of_ble_eq_true rfl) ?_
  refine zk_iret rfl dX5_rider_13 ?_
  exact ⟨rfl, zs_sm.rf⟩
set_option maxRecDepth 100000 in
set_option maxHeartbeats 4000000 in
theorem qX5_rider_k {l : Launch} {M : zk_M} {L : zk_L} {n : Nat} (hA : zs_A (M 1) n) {p : Nat} (hp : p < n) {k : Nat} (hk : k < 7) : zk_C l zm 2 muX5_rider [.ref 0, .int (nI p), .int (nI k)] M L (zp_i (zs_riv (zs_get (M 1) p) (nI k)) M) := by
  refine zk_ofR (ls := [some (.ref 0), some (.int (nI p)), some (.int (nI k))]) (by decide) rfl (Nat.le_of_ble_eq_true rfl) rfl ?_
  have hp6 : p < 6 := Nat.lt_of_lt_of_le hp hA.1
  refine zk_aload_n dX5_rider_0 rfl ?_
  refine zk_iload_n dX5_rider_1 rfl ?_
  refine zk_cVi (qX5_isRider_t hA.1 hA.2.1 hp) dX5_rider_2 mwX5_isRider ml_X5_118 (by decide : 0 < zm.1) rfl rfl (by decide) rfl (Nat.le_of_ble_eq_true rfl) ?_
  refine zk_if_ne (tgt := 14) dX5_rider_5 (by decide) (fun _ => ?_) (fun h5 => absurd h5 (by decide))
  refine zk_iload_n dX5_rider_14 rfl ?_
  refine zk_iconst dX5_rider_15 zc_0 ?_
  refine zk_bipush dX5_rider_16 zb_6 ?_
  refine zk_cSi (qX5_isIn_t ⟨nI_pos' (by omega), nI_le (b := 6) (by omega) (by decide)⟩) dX5_rider_18 miX5_isIn ml_X5_46 stX5_isIn rfl (by decide) rfl (Nat.le_of_ble_eq_true rfl) ?_
  refine zk_if_eq (tgt := 35) dX5_rider_21 (by decide) (fun h21 => absurd h21 (by decide)) (fun _ => ?_)
  refine zk_aload_n dX5_rider_24 rfl ?_
  refine zk_getRc (q := 1) dX5_rider_25 fl_X5_9 (by decide : 0 < zm.1) rfl rfl rfl ?_
  refine zk_iload_n dX5_rider_28 rfl ?_
  refine zk_iload_n dX5_rider_29 rfl ?_
  refine zk_cSi (qX5_of) dX5_rider_30 miX5_of ml_X5_58 stX5_of rfl (by decide) rfl (Nat.le_of_ble_eq_true rfl) ?_
  refine zk_iald (j := 10 + 7 * p + k) dX5_rider_33 (by decide : 1 < zm.1) rfl (zs_in rfl (vp_in_nI (zs_7p hp6 hk) (by decide))) (nI_clamp (by omega)) ?_
  refine zk_iret rfl dX5_rider_34 ?_
  exact ⟨by rw [zs_riv_k hk]; rfl, zs_sm.rf⟩
set_option maxRecDepth 100000 in
set_option maxHeartbeats 4000000 in
theorem qX5_rider_7 {l : Launch} {M : zk_M} {L : zk_L} {n : Nat} (hA : zs_A (M 1) n) {p : Nat} (hp : p < n) : zk_C l zm 2 muX5_rider [.ref 0, .int (nI p), .int 7] M L (zp_i (zs_riv (zs_get (M 1) p) 7) M) := by
  refine zk_ofR (ls := [some (.ref 0), some (.int (nI p)), some (.int 7)]) (by decide) rfl (Nat.le_of_ble_eq_true rfl) rfl ?_
  have hp6 : p < 6 := Nat.lt_of_lt_of_le hp hA.1
  refine zk_aload_n dX5_rider_0 rfl ?_
  refine zk_iload_n dX5_rider_1 rfl ?_
  refine zk_cVi (qX5_isRider_t hA.1 hA.2.1 hp) dX5_rider_2 mwX5_isRider ml_X5_118 (by decide : 0 < zm.1) rfl rfl (by decide) rfl (Nat.le_of_ble_eq_true rfl) ?_
  refine zk_if_ne (tgt := 14) dX5_rider_5 (by decide) (fun _ => ?_) (fun h5 => absurd h5 (by decide))
  refine zk_iload_n dX5_rider_14 rfl ?_
  refine zk_iconst dX5_rider_15 zc_0 ?_
  refine zk_bipush dX5_rider_16 zb_6 ?_
  refine zk_cSi (qX5_isIn_f (by decide)) dX5_rider_18 miX5_isIn ml_X5_46 stX5_isIn rfl (by decide) rfl (Nat.le_of_ble_eq_true rfl) ?_
  refine zk_if_eq (tgt := 35) dX5_rider_21 (by decide) (fun _ => ?_) (fun h21 => absurd (rfl) h21)
  refine zk_iload_n dX5_rider_35 rfl ?_
  refine zk_bipush dX5_rider_36 zb_7 ?_
  refine zk_icmp_ne (tgt := 67) dX5_rider_38 (by decide) (fun h38 => absurd (rfl) h38) (fun _ => ?_)
  refine zk_aload_n dX5_rider_41 rfl ?_
  refine zk_getRc (q := 1) dX5_rider_42 fl_X5_9 (by decide : 0 < zm.1) rfl rfl rfl ?_
  refine zk_iload_n dX5_rider_45 rfl ?_
  refine zk_iconst dX5_rider_46 zc_0 ?_
  refine zk_cSi (qX5_of (p := p) (k := 0)) dX5_rider_47 miX5_of ml_X5_58 stX5_of rfl (by decide) rfl (Nat.le_of_ble_eq_true rfl) ?_
  refine zk_iald (j := 10 + 7 * p + 0) dX5_rider_50 (by decide : 1 < zm.1) rfl (zs_in rfl (vp_in_nI (zs_7p hp6 (show 0 < 7 by decide)) (by decide))) (nI_clamp (by omega)) ?_
  refine zk_aload_n dX5_rider_51 rfl ?_
  refine zk_getRc (q := 1) dX5_rider_52 fl_X5_9 (by decide : 0 < zm.1) rfl rfl rfl ?_
  refine zk_iload_n dX5_rider_55 rfl ?_
  refine zk_iconst dX5_rider_56 zc_1 ?_
  refine zk_cSi (qX5_of (p := p) (k := 1)) dX5_rider_57 miX5_of ml_X5_58 stX5_of rfl (by decide) rfl (Nat.le_of_ble_eq_true rfl) ?_
  refine zk_iald (j := 10 + 7 * p + 1) dX5_rider_60 (by decide : 1 < zm.1) rfl (zs_in rfl (vp_in_nI (zs_7p hp6 (show 1 < 7 by decide)) (by decide))) (nI_clamp (by omega)) ?_
  refine zk_cSi (qX5_daysBy (hA.2.2 p hp6).2) dX5_rider_61 miX5_daysBy ml_X5_65 stX5_daysBy rfl (by decide) rfl (Nat.le_of_ble_eq_true rfl) ?_
  refine zk_goto (tgt := 73) dX5_rider_64 (by decide) ?_
  refine zk_iret rfl dX5_rider_73 ?_
  exact ⟨rfl, zs_sm.rf⟩
set_option maxRecDepth 100000 in
set_option maxHeartbeats 4000000 in
theorem qX5_rider_r2 {l : Launch} {M : zk_M} {L : zk_L} {n : Nat} (hA : zs_A (M 1) n) {p : Nat} (hp : p < n) {x : Int32} (hx : ¬ zs_b8 x) : zk_C l zm 2 muX5_rider [.ref 0, .int (nI p), .int x] M L (zp_i (-2) (zs_nof M 2)) := by
  refine zk_ofR (ls := [some (.ref 0), some (.int (nI p)), some (.int x)]) (by decide) rfl (Nat.le_of_ble_eq_true rfl) rfl ?_
  refine zk_aload_n dX5_rider_0 rfl ?_
  refine zk_iload_n dX5_rider_1 rfl ?_
  refine zk_cVi (qX5_isRider_t hA.1 hA.2.1 hp) dX5_rider_2 mwX5_isRider ml_X5_118 (by decide : 0 < zm.1) rfl rfl (by decide) rfl (Nat.le_of_ble_eq_true rfl) ?_
  refine zk_if_ne (tgt := 14) dX5_rider_5 (by decide) (fun _ => ?_) (fun h5 => absurd h5 (by decide))
  refine zk_iload_n dX5_rider_14 rfl ?_
  refine zk_iconst dX5_rider_15 zc_0 ?_
  refine zk_bipush dX5_rider_16 zb_6 ?_
  refine zk_cSi (qX5_isIn_f (fun q => hx (zs_k_b8 q))) dX5_rider_18 miX5_isIn ml_X5_46 stX5_isIn rfl (by decide) rfl (Nat.le_of_ble_eq_true rfl) ?_
  refine zk_if_eq (tgt := 35) dX5_rider_21 (by decide) (fun _ => ?_) (fun h21 => absurd (rfl) h21)
  refine zk_iload_n dX5_rider_35 rfl ?_
  refine zk_bipush dX5_rider_36 zb_7 ?_
  refine zk_icmp_ne (tgt := 67) dX5_rider_38 (by decide) (fun _ => ?_) (fun h38 => absurd h38 (fun e => hx (Or.inr (Or.inr (Or.inr (Or.inr (Or.inr (Or.inr (Or.inr e)))))))))
  refine zk_aload_n dX5_rider_67 rfl ?_
  refine zk_bipush dX5_rider_68 zb_m2 ?_
  refine zk_cVi (qno2) dX5_rider_70 mwX5_no ml_X5_42 (by decide : 0 < zm.1) rfl rfl (by decide) rfl (Nat.le_of_ble_eq_true rfl) ?_
  refine zk_iret rfl dX5_rider_73 ?_
  exact ⟨rfl, zs_sm.rf⟩
set_option maxRecDepth 100000 in
set_option maxHeartbeats 4000000 in
theorem qX5_steps_r {l : Launch} {M : zk_M} {L : zk_L} {a b : Int32} (hn : ¬ (zs_p a ∧ zs_p b)) : zk_C l zm 2 muX5_steps [.ref 0, .int a, .int b] M L (zp_i (-1) (zs_nof M 1)) := by
  refine zk_ofR (ls := [some (.ref 0), some (.int a), some (.int b)]) (by decide) rfl (Nat.le_of_ble_eq_true rfl) rfl ?_
  refine zk_iload_n dX5_steps_0 rfl ?_
  refine zk_cSi (qX5_isPlace) dX5_steps_1 miX5_isPlace ml_X5_104 stX5_isPlace rfl (by decide) rfl (Nat.le_of_ble_eq_true rfl) ?_
  refine zk_if_eq (tgt := 14) dX5_steps_4 (by decide) (fun h4 => ?_) (fun h4 => ?_)
  · have ha := zs_if0 h4
    refine zk_aload_n dX5_steps_14 rfl ?_
    refine zk_iconst dX5_steps_15 zc_m1 ?_
    refine zk_cVi (qno1) dX5_steps_16 mwX5_no ml_X5_42 (by decide : 0 < zm.1) rfl rfl (by decide) rfl (Nat.le_of_ble_eq_true rfl) ?_
    refine zk_iret rfl dX5_steps_19 ?_
    exact ⟨rfl, zs_sm.rf⟩
  · have ha := zs_if1 h4
    refine zk_iload_n dX5_steps_7 rfl ?_
    refine zk_cSi (qX5_isPlace) dX5_steps_8 miX5_isPlace ml_X5_104 stX5_isPlace rfl (by decide) rfl (Nat.le_of_ble_eq_true rfl) ?_
    refine zk_if_ne (tgt := 20) dX5_steps_11 (by decide) (fun h11 => ?_) (fun h11 => ?_)
    · have hb := zs_if1 h11
      exact absurd ⟨ha, hb⟩ hn
    · have hb := zs_if0 h11
      refine zk_aload_n dX5_steps_14 rfl ?_
      refine zk_iconst dX5_steps_15 zc_m1 ?_
      refine zk_cVi (qno1) dX5_steps_16 mwX5_no ml_X5_42 (by decide : 0 < zm.1) rfl rfl (by decide) rfl (Nat.le_of_ble_eq_true rfl) ?_
      refine zk_iret rfl dX5_steps_19 ?_
      exact ⟨rfl, zs_sm.rf⟩
theorem qm1_measures {l : Launch} {M : zk_M} {L : zk_L} : zk_C l zm 1 muX5_measures [.ref 0, .ref 1] M L (zk_Ev (va_up M 5 (zs_fw (zs_J (M 1)) (M 5))) L) := qX5_measures zm_a1 (by decide)
set_option maxRecDepth 100000 in
set_option maxHeartbeats 4000000 in
theorem qX5_steps_t {l : Launch} {M : zk_M} {L : zk_L} {a b : Int32} (ha : zs_p a) (hb : zs_p b) : zk_C l zm 2 muX5_steps [.ref 0, .int a, .int b] M L (zp_i (zs_FW (zs_J (M 1)) (a * 8 + b).toNatClampNeg) M) := by
  refine zk_ofR (ls := [some (.ref 0), some (.int a), some (.int b)]) (by decide) rfl (Nat.le_of_ble_eq_true rfl) rfl ?_
  refine zk_iload_n dX5_steps_0 rfl ?_
  refine zk_cSi (qX5_isPlace_t ha) dX5_steps_1 miX5_isPlace ml_X5_104 stX5_isPlace rfl (by decide) rfl (Nat.le_of_ble_eq_true rfl) ?_
  refine zk_if_eq (tgt := 14) dX5_steps_4 (by decide) (fun h4 => absurd h4 (by decide)) (fun _ => ?_)
  refine zk_iload_n dX5_steps_7 rfl ?_
  refine zk_cSi (qX5_isPlace_t hb) dX5_steps_8 miX5_isPlace ml_X5_104 stX5_isPlace rfl (by decide) rfl (Nat.le_of_ble_eq_true rfl) ?_
  refine zk_if_ne (tgt := 20) dX5_steps_11 (by decide) (fun _ => ?_) (fun h11 => absurd h11 (by decide))
  refine zk_aload_n dX5_steps_20 rfl ?_
  refine zk_aload_n dX5_steps_21 rfl ?_
  refine zk_getRc (q := 1) dX5_steps_22 fl_X5_9 (by decide : 0 < zm.1) rfl rfl rfl ?_
  refine zk_cVv (qm1_measures) dX5_steps_25 mwX5_measures ml_X5_72 (by decide : 0 < zm.1) rfl rfl (by decide) rfl (Nat.le_of_ble_eq_true rfl) ?_
  refine zk_aload_n dX5_steps_28 rfl ?_
  refine zk_getRc (q := 5) dX5_steps_29 fl_X5_22 (by decide : 0 < zm.1) rfl rfl rfl ?_
  refine zk_bipush dX5_steps_32 zb_8 ?_
  refine zk_iload_n dX5_steps_34 rfl ?_
  refine zk_imul dX5_steps_35 ?_
  refine zk_iload_n dX5_steps_36 rfl ?_
  refine zk_iadd dX5_steps_37 ?_
  refine zk_iald (j := _) dX5_steps_38 (by decide : 5 < zm.1) rfl (zs_in rfl (zs_jx64 ha hb)) rfl ?_
  refine zk_iret rfl dX5_steps_39 ?_
  refine ⟨congrArg (fun v => some (Value.int v)) ?_, zs_sm.rf.up (by omega)⟩
  rw [zk_up_eq, Int32.mul_comm 8 a]
  exact zs_fw_ag zs_ag.rf _ _ _ (zs_p_tn64 ha hb)
set_option maxRecDepth 100000 in
set_option maxHeartbeats 4000000 in
theorem qX5_pulls_r {l : Launch} {M : zk_M} {L : zk_L} {n : Nat} (hA : zs_A (M 1) n) {r x : Int32} (hn : ¬ zs_w2 n r x) : zk_C l zm 2 muX5_pulls [.ref 0, .int r, .int x] M L (zp_i (-1) (zs_nof M 1)) := by
  refine zk_ofR (ls := [some (.ref 0), some (.int r), some (.int x)]) (by decide) rfl (Nat.le_of_ble_eq_true rfl) rfl ?_
  refine zk_aload_n dX5_pulls_0 rfl ?_
  refine zk_iload_n dX5_pulls_1 rfl ?_
  refine zk_cVi (qX5_isRider hA.1 hA.2.1) dX5_pulls_2 mwX5_isRider ml_X5_118 (by decide : 0 < zm.1) rfl rfl (by decide) rfl (Nat.le_of_ble_eq_true rfl) ?_
  refine zk_if_eq (tgt := 15) dX5_pulls_5 (by decide) (fun h5 => ?_) (fun h5 => ?_)
  · have hr := zs_if0 h5
    refine zk_aload_n dX5_pulls_15 rfl ?_
    refine zk_iconst dX5_pulls_16 zc_m1 ?_
    refine zk_cVi (qno1) dX5_pulls_17 mwX5_no ml_X5_42 (by decide : 0 < zm.1) rfl rfl (by decide) rfl (Nat.le_of_ble_eq_true rfl) ?_
    refine zk_iret rfl dX5_pulls_20 ?_
    exact ⟨rfl, zs_sm.rf⟩
  · have hr := zs_if1 h5
    refine zk_iload_n dX5_pulls_8 rfl ?_
    refine zk_cSi (qX5_isPlace) dX5_pulls_9 miX5_isPlace ml_X5_104 stX5_isPlace rfl (by decide) rfl (Nat.le_of_ble_eq_true rfl) ?_
    refine zk_if_ne (tgt := 21) dX5_pulls_12 (by decide) (fun h12 => ?_) (fun h12 => ?_)
    · have hx := zs_if1 h12
      exact absurd ⟨hr, hx⟩ hn
    · have hx := zs_if0 h12
      refine zk_aload_n dX5_pulls_15 rfl ?_
      refine zk_iconst dX5_pulls_16 zc_m1 ?_
      refine zk_cVi (qno1) dX5_pulls_17 mwX5_no ml_X5_42 (by decide : 0 < zm.1) rfl rfl (by decide) rfl (Nat.le_of_ble_eq_true rfl) ?_
      refine zk_iret rfl dX5_pulls_20 ?_
      exact ⟨rfl, zs_sm.rf⟩
set_option maxRecDepth 100000 in
set_option maxHeartbeats 4000000 in
theorem qX5_pulls_t {l : Launch} {M : zk_M} {L : zk_L} {n : Nat} (hA : zs_A (M 1) n) {p : Nat} (hp : p < n) {x : Int32} (hx : zs_p x) : zk_C l zm 2 muX5_pulls [.ref 0, .int (nI p), .int x] M L (zp_i (zs_pull (zs_FW (zs_J (M 1))) (zs_get (M 1) p) x) M) := by
  refine zk_ofR (ls := [some (.ref 0), some (.int (nI p)), some (.int x)]) (by decide) rfl (Nat.le_of_ble_eq_true rfl) rfl ?_
  have hp6 : p < 6 := Nat.lt_of_lt_of_le hp hA.1
  refine zk_aload_n dX5_pulls_0 rfl ?_
  refine zk_iload_n dX5_pulls_1 rfl ?_
  refine zk_cVi (qX5_isRider_t hA.1 hA.2.1 hp) dX5_pulls_2 mwX5_isRider ml_X5_118 (by decide : 0 < zm.1) rfl rfl (by decide) rfl (Nat.le_of_ble_eq_true rfl) ?_
  refine zk_if_eq (tgt := 15) dX5_pulls_5 (by decide) (fun h5 => absurd h5 (by decide)) (fun _ => ?_)
  refine zk_iload_n dX5_pulls_8 rfl ?_
  refine zk_cSi (qX5_isPlace_t hx) dX5_pulls_9 miX5_isPlace ml_X5_104 stX5_isPlace rfl (by decide) rfl (Nat.le_of_ble_eq_true rfl) ?_
  refine zk_if_ne (tgt := 21) dX5_pulls_12 (by decide) (fun _ => ?_) (fun h12 => absurd h12 (by decide))
  refine zk_aload_n dX5_pulls_21 rfl ?_
  refine zk_aload_n dX5_pulls_22 rfl ?_
  refine zk_getRc (q := 1) dX5_pulls_23 fl_X5_9 (by decide : 0 < zm.1) rfl rfl rfl ?_
  refine zk_cVv (qm1_measures) dX5_pulls_26 mwX5_measures ml_X5_72 (by decide : 0 < zm.1) rfl rfl (by decide) rfl (Nat.le_of_ble_eq_true rfl) ?_
  refine zk_aload_n dX5_pulls_29 rfl ?_
  refine zk_aload_n dX5_pulls_30 rfl ?_
  refine zk_getRc (q := 1) dX5_pulls_31 fl_X5_9 (by decide : 0 < zm.1) rfl rfl rfl ?_
  refine zk_iload_n dX5_pulls_34 rfl ?_
  refine zk_iload_n dX5_pulls_35 rfl ?_
  refine zk_cVi (qX5_pull zm_a1 hp6 (by rw [zk_up_ne (by decide)]; exact (hA.2.2 p hp6).1) hx) dX5_pulls_36 mwX5_pull ml_X5_61 (by decide : 0 < zm.1) rfl rfl (by decide) rfl (Nat.le_of_ble_eq_true rfl) ?_
  refine zk_iret rfl dX5_pulls_39 ?_
  refine ⟨congrArg (fun v => some (Value.int v)) ?_, zs_sm.rf.up (by omega)⟩
  rw [zk_up_eq, zk_up_ne (by decide)]
  exact zs_pull_ag (zs_fw_ag zs_ag.rf _ _) zs_ag.rf hx (hA.2.2 p hp6).1
set_option maxRecDepth 100000 in
set_option maxHeartbeats 4000000 in
theorem qX5_roads_r {l : Launch} {M : zk_M} {L : zk_L} {a b : Int32} (hn : ¬ (zs_p a ∧ zs_p b ∧ ¬ a = b)) : zk_C l zm 2 muX5_roads [.ref 0, .int a, .int b] M L (zp_i (-1) (zs_nof M 1)) := by
  refine zk_ofR (ls := [some (.ref 0), some (.int a), some (.int b)]) (by decide) rfl (Nat.le_of_ble_eq_true rfl) rfl ?_
  refine zk_iload_n dX5_roads_0 rfl ?_
  refine zk_cSi (qX5_isPlace) dX5_roads_1 miX5_isPlace ml_X5_104 stX5_isPlace rfl (by decide) rfl (Nat.le_of_ble_eq_true rfl) ?_
  refine zk_if_eq (tgt := 19) dX5_roads_4 (by decide) (fun h4 => ?_) (fun h4 => ?_)
  · have ha := zs_if0 h4
    refine zk_aload_n dX5_roads_19 rfl ?_
    refine zk_iconst dX5_roads_20 zc_m1 ?_
    refine zk_cVi (qno1) dX5_roads_21 mwX5_no ml_X5_42 (by decide : 0 < zm.1) rfl rfl (by decide) rfl (Nat.le_of_ble_eq_true rfl) ?_
    refine zk_iret rfl dX5_roads_24 ?_
    exact ⟨rfl, zs_sm.rf⟩
  · have ha := zs_if1 h4
    refine zk_iload_n dX5_roads_7 rfl ?_
    refine zk_cSi (qX5_isPlace) dX5_roads_8 miX5_isPlace ml_X5_104 stX5_isPlace rfl (by decide) rfl (Nat.le_of_ble_eq_true rfl) ?_
    refine zk_if_eq (tgt := 19) dX5_roads_11 (by decide) (fun h11 => ?_) (fun h11 => ?_)
    · have hb := zs_if0 h11
      refine zk_aload_n dX5_roads_19 rfl ?_
      refine zk_iconst dX5_roads_20 zc_m1 ?_
      refine zk_cVi (qno1) dX5_roads_21 mwX5_no ml_X5_42 (by decide : 0 < zm.1) rfl rfl (by decide) rfl (Nat.le_of_ble_eq_true rfl) ?_
      refine zk_iret rfl dX5_roads_24 ?_
      exact ⟨rfl, zs_sm.rf⟩
    · have hb := zs_if1 h11
      refine zk_iload_n dX5_roads_14 rfl ?_
      refine zk_iload_n dX5_roads_15 rfl ?_
      refine zk_icmp_ne (tgt := 25) dX5_roads_16 (by decide) (fun h16 => ?_) (fun h16 => ?_)
      · exact absurd ⟨ha, hb, h16⟩ hn
      · refine zk_aload_n dX5_roads_19 rfl ?_
        refine zk_iconst dX5_roads_20 zc_m1 ?_
        refine zk_cVi (qno1) dX5_roads_21 mwX5_no ml_X5_42 (by decide : 0 < zm.1) rfl rfl (by decide) rfl (Nat.le_of_ble_eq_true rfl) ?_
        refine zk_iret rfl dX5_roads_24 ?_
        exact ⟨rfl, zs_sm.rf⟩
set_option maxRecDepth 100000 in
set_option maxHeartbeats 4000000 in
theorem qX5_roads_t {l : Launch} {M : zk_M} {L : zk_L} {a b : Int32} (ha : zs_p a) (hb : zs_p b) (hab : ¬ a = b) : zk_C l zm 2 muX5_roads [.ref 0, .int a, .int b] M L (zp_i (zs_J (zs_trn (M 1) a b) a.toNatClampNeg >>> (b &&& 31) &&& 1) (va_up M 1 (zs_trn (M 1) a b))) := by
  refine zk_ofR (ls := [some (.ref 0), some (.int a), some (.int b)]) (by decide) rfl (Nat.le_of_ble_eq_true rfl) rfl ?_
  refine zk_iload_n dX5_roads_0 rfl ?_
  refine zk_cSi (qX5_isPlace_t ha) dX5_roads_1 miX5_isPlace ml_X5_104 stX5_isPlace rfl (by decide) rfl (Nat.le_of_ble_eq_true rfl) ?_
  refine zk_if_eq (tgt := 19) dX5_roads_4 (by decide) (fun h4 => absurd h4 (by decide)) (fun _ => ?_)
  refine zk_iload_n dX5_roads_7 rfl ?_
  refine zk_cSi (qX5_isPlace_t hb) dX5_roads_8 miX5_isPlace ml_X5_104 stX5_isPlace rfl (by decide) rfl (Nat.le_of_ble_eq_true rfl) ?_
  refine zk_if_eq (tgt := 19) dX5_roads_11 (by decide) (fun h11 => absurd h11 (by decide)) (fun _ => ?_)
  refine zk_iload_n dX5_roads_14 rfl ?_
  refine zk_iload_n dX5_roads_15 rfl ?_
  refine zk_icmp_ne (tgt := 25) dX5_roads_16 (by decide) (fun _ => ?_) (fun h16 => absurd h16 (hab))
  refine zk_aload_n dX5_roads_25 rfl ?_
  refine zk_getRc (q := 1) dX5_roads_26 fl_X5_9 (by decide : 0 < zm.1) rfl rfl rfl ?_
  refine zk_iload_n dX5_roads_29 rfl ?_
  refine zk_iload_n dX5_roads_30 rfl ?_
  refine zk_cSv (qX5_turnsRoad zm_a1 ha hb) dX5_roads_31 miX5_turnsRoad ml_X5_111 stX5_turnsRoad rfl (by decide) rfl (Nat.le_of_ble_eq_true rfl) ?_
  refine zk_aload_n dX5_roads_34 rfl ?_
  refine zk_getRc (q := 1) dX5_roads_35 fl_X5_9 (by decide : 0 < zm.1) rfl rfl rfl ?_
  refine zk_iconst dX5_roads_38 zc_2 ?_
  refine zk_iload_n dX5_roads_39 rfl ?_
  refine zk_iadd dX5_roads_40 ?_
  refine zk_iald (j := 2 + a.toNatClampNeg) dX5_roads_41 (by decide : 1 < zm.1) rfl (zs_in rfl (zs_2in ha)) (zs_2tn ha) ?_
  rw [zk_up_eq]
  refine zk_iload_n dX5_roads_42 rfl ?_
  refine zk_ishr dX5_roads_43 ?_
  refine zk_iconst dX5_roads_44 zc_1 ?_
  refine zk_iand dX5_roads_45 ?_
  refine zk_iret rfl dX5_roads_46 ?_
  exact ⟨rfl, zs_sm.rf⟩
set_option maxRecDepth 100000 in
set_option maxHeartbeats 4000000 in
theorem qX5_shod_r {l : Launch} {M : zk_M} {L : zk_L} {n : Nat} (hA : zs_A (M 1) n) {r : Int32} (hr : ¬ zs_isr (nI n) r) : zk_C l zm 2 muX5_shod [.ref 0, .int r] M L (zp_i (-1) (zs_nof M 1)) := by
  refine zk_ofR (ls := [some (.ref 0), some (.int r)]) (by decide) rfl (Nat.le_of_ble_eq_true rfl) rfl ?_
  refine zk_aload_n dX5_shod_0 rfl ?_
  refine zk_iload_n dX5_shod_1 rfl ?_
  refine zk_cVi (qX5_isRider_f hA.1 hA.2.1 hr) dX5_shod_2 mwX5_isRider ml_X5_118 (by decide : 0 < zm.1) rfl rfl (by decide) rfl (Nat.le_of_ble_eq_true rfl) ?_
  refine zk_if_ne (tgt := 14) dX5_shod_5 (by decide) (fun h5 => absurd (rfl) h5) (fun _ => ?_)
  refine zk_aload_n dX5_shod_8 rfl ?_
  refine zk_iconst dX5_shod_9 zc_m1 ?_
  refine zk_cVi (qno1) dX5_shod_10 mwX5_no ml_X5_42 (by decide : 0 < zm.1) rfl rfl (by decide) rfl (Nat.le_of_ble_eq_true rfl) ?_
  refine zk_iret rfl dX5_shod_13 ?_
  exact ⟨rfl, zs_sm.rf⟩
set_option maxRecDepth 100000 in
set_option maxHeartbeats 4000000 in
theorem qX5_shod_t {l : Launch} {M : zk_M} {L : zk_L} {n : Nat} (hA : zs_A (M 1) n) {p : Nat} (hp : p < n) : zk_C l zm 2 muX5_shod [.ref 0, .int (nI p)] M L (zp_i (zs_shod (zs_get (M 1) p) 5) (va_up M 1 (zs_put (M 1) p (zs_shod (zs_get (M 1) p))))) := by
  refine zk_ofR (ls := [some (.ref 0), some (.int (nI p))]) (by decide) rfl (Nat.le_of_ble_eq_true rfl) rfl ?_
  have hp6 : p < 6 := Nat.lt_of_lt_of_le hp hA.1
  refine zk_aload_n dX5_shod_0 rfl ?_
  refine zk_iload_n dX5_shod_1 rfl ?_
  refine zk_cVi (qX5_isRider_t hA.1 hA.2.1 hp) dX5_shod_2 mwX5_isRider ml_X5_118 (by decide : 0 < zm.1) rfl rfl (by decide) rfl (Nat.le_of_ble_eq_true rfl) ?_
  refine zk_if_ne (tgt := 14) dX5_shod_5 (by decide) (fun _ => ?_) (fun h5 => absurd h5 (by decide))
  refine zk_aload_n dX5_shod_14 rfl ?_
  refine zk_getRc (q := 1) dX5_shod_15 fl_X5_9 (by decide : 0 < zm.1) rfl rfl rfl ?_
  refine zk_iload_n dX5_shod_18 rfl ?_
  refine zk_cSv (qX5_isShod zm_a1 hp6 (hA.2.2 p hp6).2) dX5_shod_19 miX5_isShod ml_X5_108 stX5_isShod rfl (by decide) rfl (Nat.le_of_ble_eq_true rfl) ?_
  refine zk_aload_n dX5_shod_22 rfl ?_
  refine zk_getRc (q := 1) dX5_shod_23 fl_X5_9 (by decide : 0 < zm.1) rfl rfl rfl ?_
  refine zk_iload_n dX5_shod_26 rfl ?_
  refine zk_iconst dX5_shod_27 zc_5 ?_
  refine zk_cSi (qX5_of (p := p) (k := 5)) dX5_shod_28 miX5_of ml_X5_58 stX5_of rfl (by decide) rfl (Nat.le_of_ble_eq_true rfl) ?_
  refine zk_iald (j := 10 + 7 * p + 5) dX5_shod_31 (by decide : 1 < zm.1) rfl (zs_in rfl (vp_in_nI (zs_7p hp6 (show 5 < 7 by decide)) (by decide))) (nI_clamp (by omega)) ?_
  rw [zk_up_eq, zs_put_at (by decide)]
  refine zk_iret rfl dX5_shod_32 ?_
  exact ⟨rfl, zs_sm.rf⟩
set_option maxRecDepth 100000 in
set_option maxHeartbeats 4000000 in
theorem qX5_sets_r {l : Launch} {M : zk_M} {L : zk_L} {n : Nat} (hA : zs_A (M 1) n) {r k x : Int32} (hn : ¬ zs_w2 n r x) : zk_C l zm 2 muX5_sets [.ref 0, .int r, .int k, .int x] M L (zp_i (-1) (zs_nof M 1)) := by
  refine zk_ofR (ls := [some (.ref 0), some (.int r), some (.int k), some (.int x), none]) (by decide) rfl (Nat.le_of_ble_eq_true rfl) rfl ?_
  refine zk_aload_n dX5_sets_0 rfl ?_
  refine zk_iload_n dX5_sets_1 rfl ?_
  refine zk_cVi (qX5_isRider hA.1 hA.2.1) dX5_sets_2 mwX5_isRider ml_X5_118 (by decide : 0 < zm.1) rfl rfl (by decide) rfl (Nat.le_of_ble_eq_true rfl) ?_
  refine zk_if_eq (tgt := 15) dX5_sets_5 (by decide) (fun h5 => ?_) (fun h5 => ?_)
  · have hr := zs_if0 h5
    refine zk_aload_n dX5_sets_15 rfl ?_
    refine zk_iconst dX5_sets_16 zc_m1 ?_
    refine zk_cVi (qno1) dX5_sets_17 mwX5_no ml_X5_42 (by decide : 0 < zm.1) rfl rfl (by decide) rfl (Nat.le_of_ble_eq_true rfl) ?_
    refine zk_iret rfl dX5_sets_20 ?_
    exact ⟨rfl, zs_sm.rf⟩
  · have hr := zs_if1 h5
    refine zk_iload_n dX5_sets_8 rfl ?_
    refine zk_cSi (qX5_isPlace) dX5_sets_9 miX5_isPlace ml_X5_104 stX5_isPlace rfl (by decide) rfl (Nat.le_of_ble_eq_true rfl) ?_
    refine zk_if_ne (tgt := 21) dX5_sets_12 (by decide) (fun h12 => ?_) (fun h12 => ?_)
    · have hx := zs_if1 h12
      exact absurd ⟨hr, hx⟩ hn
    · have hx := zs_if0 h12
      refine zk_aload_n dX5_sets_15 rfl ?_
      refine zk_iconst dX5_sets_16 zc_m1 ?_
      refine zk_cVi (qno1) dX5_sets_17 mwX5_no ml_X5_42 (by decide : 0 < zm.1) rfl rfl (by decide) rfl (Nat.le_of_ble_eq_true rfl) ?_
      refine zk_iret rfl dX5_sets_20 ?_
      exact ⟨rfl, zs_sm.rf⟩
set_option maxRecDepth 100000 in
set_option maxHeartbeats 4000000 in
theorem qX5_sets_t {l : Launch} {M : zk_M} {L : zk_L} {n : Nat} (hA : zs_A (M 1) n) {p : Nat} (hp : p < n) {k : Nat} (hk : k < 7) {x : Int32} (hx : zs_p x) : zk_C l zm 2 muX5_sets [.ref 0, .int (nI p), .int (nI k), .int x] M L (zp_i (zs_get (M 1) p k) (va_up M 1 (zs_put (M 1) p (va_up (zs_get (M 1) p) k x)))) := by
  refine zk_ofR (ls := [some (.ref 0), some (.int (nI p)), some (.int (nI k)), some (.int x), none]) (by decide) rfl (Nat.le_of_ble_eq_true rfl) rfl ?_
  have hp6 : p < 6 := Nat.lt_of_lt_of_le hp hA.1
  refine zk_aload_n dX5_sets_0 rfl ?_
  refine zk_iload_n dX5_sets_1 rfl ?_
  refine zk_cVi (qX5_isRider_t hA.1 hA.2.1 hp) dX5_sets_2 mwX5_isRider ml_X5_118 (by decide : 0 < zm.1) rfl rfl (by decide) rfl (Nat.le_of_ble_eq_true rfl) ?_
  refine zk_if_eq (tgt := 15) dX5_sets_5 (by decide) (fun h5 => absurd h5 (by decide)) (fun _ => ?_)
  refine zk_iload_n dX5_sets_8 rfl ?_
  refine zk_cSi (qX5_isPlace_t hx) dX5_sets_9 miX5_isPlace ml_X5_104 stX5_isPlace rfl (by decide) rfl (Nat.le_of_ble_eq_true rfl) ?_
  refine zk_if_ne (tgt := 21) dX5_sets_12 (by decide) (fun _ => ?_) (fun h12 => absurd h12 (by decide))
  refine zk_aload_n dX5_sets_21 rfl ?_
  refine zk_getRc (q := 1) dX5_sets_22 fl_X5_9 (by decide : 0 < zm.1) rfl rfl rfl ?_
  refine zk_iload_n dX5_sets_25 rfl ?_
  refine zk_iload_n dX5_sets_26 rfl ?_
  refine zk_cSi (qX5_of) dX5_sets_27 miX5_of ml_X5_58 stX5_of rfl (by decide) rfl (Nat.le_of_ble_eq_true rfl) ?_
  refine zk_iald (j := 10 + 7 * p + k) dX5_sets_30 (by decide : 1 < zm.1) rfl (zs_in rfl (vp_in_nI (zs_7p hp6 hk) (by decide))) (nI_clamp (by omega)) ?_
  refine zk_istore dX5_sets_31 zk_S_4 ?_
  refine zk_aload_n dX5_sets_33 rfl ?_
  refine zk_getRc (q := 1) dX5_sets_34 fl_X5_9 (by decide : 0 < zm.1) rfl rfl rfl ?_
  refine zk_iload_n dX5_sets_37 rfl ?_
  refine zk_iload_n dX5_sets_38 rfl ?_
  refine zk_cSi (qX5_of) dX5_sets_39 miX5_of ml_X5_58 stX5_of rfl (by decide) rfl (Nat.le_of_ble_eq_true rfl) ?_
  refine zk_iload_n dX5_sets_42 rfl ?_
  refine zk_iast (j := 10 + 7 * p + k) dX5_sets_43 (by decide : 1 < zm.1) rfl (zs_in rfl (vp_in_nI (zs_7p hp6 hk) (by decide))) (nI_clamp (by omega)) ?_
  rw [zs_put1 hk]
  refine zk_iload dX5_sets_44 rfl ?_
  refine zk_iret rfl dX5_sets_46 ?_
  exact ⟨rfl, zs_sm.rf⟩
set_option maxRecDepth 100000 in
set_option maxHeartbeats 4000000 in
theorem qX5_wants_r {l : Launch} {M : zk_M} {L : zk_L} {n : Nat} (hA : zs_A (M 1) n) {r x : Int32} (hn : ¬ zs_w2 n r x) : zk_C l zm 3 muX5_wants [.ref 0, .int r, .int x] M L (zp_i (-1) (zs_nof M 1)) := by
  refine zk_ofR (ls := [some (.ref 0), some (.int r), some (.int x)]) (by decide) rfl (Nat.le_of_ble_eq_true rfl) rfl ?_
  refine zk_aload_n dX5_wants_0 rfl ?_
  refine zk_iload_n dX5_wants_1 rfl ?_
  refine zk_iconst dX5_wants_2 zc_2 ?_
  refine zk_iload_n dX5_wants_3 rfl ?_
  refine zk_cVpi (qX5_sets_r hA hn) dX5_wants_4 mwX5_sets ml_X5_134 (by decide : 0 < zm.1) rfl rfl (by decide) rfl (Nat.le_of_ble_eq_true rfl) (fun M1 L1 hs1 => ?_)
  refine zk_iret rfl dX5_wants_7 ?_
  exact ⟨rfl, hs1⟩
set_option maxRecDepth 100000 in
set_option maxHeartbeats 4000000 in
theorem qX5_wants_t {l : Launch} {M : zk_M} {L : zk_L} {n : Nat} (hA : zs_A (M 1) n) {p : Nat} (hp : p < n) {x : Int32} (hx : zs_p x) : zk_C l zm 3 muX5_wants [.ref 0, .int (nI p), .int x] M L (zp_i (zs_get (M 1) p 2) (va_up M 1 (zs_put (M 1) p (va_up (zs_get (M 1) p) 2 x)))) := by
  refine zk_ofR (ls := [some (.ref 0), some (.int (nI p)), some (.int x)]) (by decide) rfl (Nat.le_of_ble_eq_true rfl) rfl ?_
  refine zk_aload_n dX5_wants_0 rfl ?_
  refine zk_iload_n dX5_wants_1 rfl ?_
  refine zk_iconst dX5_wants_2 zc_2 ?_
  refine zk_iload_n dX5_wants_3 rfl ?_
  refine zk_cVpi (qX5_sets_t hA hp (k := 2) (by decide) hx) dX5_wants_4 mwX5_sets ml_X5_134 (by decide : 0 < zm.1) rfl rfl (by decide) rfl (Nat.le_of_ble_eq_true rfl) (fun M1 L1 hs1 => ?_)
  refine zk_iret rfl dX5_wants_7 ?_
  exact ⟨rfl, hs1⟩
set_option maxRecDepth 100000 in
set_option maxHeartbeats 4000000 in
theorem qX5_stands_r {l : Launch} {M : zk_M} {L : zk_L} {n : Nat} (hA : zs_A (M 1) n) {r x : Int32} (hn : ¬ zs_w2 n r x) : zk_C l zm 3 muX5_stands [.ref 0, .int r, .int x] M L (zp_i (-1) (zs_nof M 1)) := by
  refine zk_ofR (ls := [some (.ref 0), some (.int r), some (.int x)]) (by decide) rfl (Nat.le_of_ble_eq_true rfl) rfl ?_
  refine zk_aload_n dX5_stands_0 rfl ?_
  refine zk_iload_n dX5_stands_1 rfl ?_
  refine zk_iconst dX5_stands_2 zc_4 ?_
  refine zk_iload_n dX5_stands_3 rfl ?_
  refine zk_cVpi (qX5_sets_r hA hn) dX5_stands_4 mwX5_sets ml_X5_134 (by decide : 0 < zm.1) rfl rfl (by decide) rfl (Nat.le_of_ble_eq_true rfl) (fun M1 L1 hs1 => ?_)
  refine zk_iret rfl dX5_stands_7 ?_
  exact ⟨rfl, hs1⟩
set_option maxRecDepth 100000 in
set_option maxHeartbeats 4000000 in
theorem qX5_stands_t {l : Launch} {M : zk_M} {L : zk_L} {n : Nat} (hA : zs_A (M 1) n) {p : Nat} (hp : p < n) {x : Int32} (hx : zs_p x) : zk_C l zm 3 muX5_stands [.ref 0, .int (nI p), .int x] M L (zp_i (zs_get (M 1) p 4) (va_up M 1 (zs_put (M 1) p (va_up (zs_get (M 1) p) 4 x)))) := by
  refine zk_ofR (ls := [some (.ref 0), some (.int (nI p)), some (.int x)]) (by decide) rfl (Nat.le_of_ble_eq_true rfl) rfl ?_
  refine zk_aload_n dX5_stands_0 rfl ?_
  refine zk_iload_n dX5_stands_1 rfl ?_
  refine zk_iconst dX5_stands_2 zc_4 ?_
  refine zk_iload_n dX5_stands_3 rfl ?_
  refine zk_cVpi (qX5_sets_t hA hp (k := 4) (by decide) hx) dX5_stands_4 mwX5_sets ml_X5_134 (by decide : 0 < zm.1) rfl rfl (by decide) rfl (Nat.le_of_ble_eq_true rfl) (fun M1 L1 hs1 => ?_)
  refine zk_iret rfl dX5_stands_7 ?_
  exact ⟨rfl, hs1⟩
set_option maxRecDepth 100000 in
set_option maxHeartbeats 4000000 in
theorem qX5_wrongBy {l : Launch} {M : zk_M} {L : zk_L} {x a b : Int32} : zk_C l zm 0 muX5_wrongBy [.int x, .int a, .int b] M L (zk_Ei (if x < a then -4 else if b < x then -6 else 0) M L) := by
  refine zk_ofR (ls := [some (.int x), some (.int a), some (.int b)]) (by decide) rfl (Nat.le_of_ble_eq_true rfl) rfl ?_
  refine zk_iload_n dX5_wrongBy_0 rfl ?_
  refine zk_iload_n dX5_wrongBy_1 rfl ?_
  refine zk_icmp_ge (tgt := 10) dX5_wrongBy_2 (by decide) (fun h2 => ?_) (fun h2 => ?_)
  · refine zk_iload_n dX5_wrongBy_10 rfl ?_
    refine zk_iload_n dX5_wrongBy_11 rfl ?_
    refine zk_icmp_le (tgt := 20) dX5_wrongBy_12 (by decide) (fun h12 => ?_) (fun h12 => ?_)
    · refine zk_iconst dX5_wrongBy_20 zc_0 ?_
      refine zk_iret rfl dX5_wrongBy_21 ?_
      exact zk_Ei_of (by first | (rw [if_pos (Int32.not_le.mp h2)]; done) | (rw [if_neg (Int32.not_lt.mpr h2), if_neg (Int32.not_lt.mpr h12)]; done) | (rw [if_neg (Int32.not_lt.mpr h2), if_pos (Int32.not_le.mp h12)]; done)) rfl rfl
    · refine zk_bipush dX5_wrongBy_15 zb_m6 ?_
      refine zk_goto (tgt := 21) dX5_wrongBy_17 (by decide) ?_
      refine zk_iret rfl dX5_wrongBy_21 ?_
      exact zk_Ei_of (by first | (rw [if_pos (Int32.not_le.mp h2)]; done) | (rw [if_neg (Int32.not_lt.mpr h2), if_neg (Int32.not_lt.mpr h12)]; done) | (rw [if_neg (Int32.not_lt.mpr h2), if_pos (Int32.not_le.mp h12)]; done)) rfl rfl
  · refine zk_bipush dX5_wrongBy_5 zb_m4 ?_
    refine zk_goto (tgt := 21) dX5_wrongBy_7 (by decide) ?_
    refine zk_iret rfl dX5_wrongBy_21 ?_
    exact zk_Ei_of (by first | (rw [if_pos (Int32.not_le.mp h2)]; done) | (rw [if_neg (Int32.not_lt.mpr h2), if_neg (Int32.not_lt.mpr h12)]; done) | (rw [if_neg (Int32.not_lt.mpr h2), if_pos (Int32.not_le.mp h12)]; done)) rfl rfl
set_option maxRecDepth 100000 in
set_option maxHeartbeats 4000000 in
theorem qX5_turn_r1 {l : Launch} {M : zk_M} {L : zk_L} {n : Nat} (hA : zs_A (M 1) n) {r k g : Int32} (hr : ¬ zs_isr (nI n) r) : zk_C l zm 2 muX5_turn [.ref 0, .int r, .int k, .int g] M L (zp_i (-1) (zs_nof M 1)) := by
  refine zk_ofR (ls := [some (.ref 0), some (.int r), some (.int k), some (.int g), none, none]) (by decide) rfl (Nat.le_of_ble_eq_true rfl) rfl ?_
  refine zk_aload_n dX5_turn_0 rfl ?_
  refine zk_iload_n dX5_turn_1 rfl ?_
  refine zk_cVi (qX5_isRider_f hA.1 hA.2.1 hr) dX5_turn_2 mwX5_isRider ml_X5_118 (by decide : 0 < zm.1) rfl rfl (by decide) rfl (Nat.le_of_ble_eq_true rfl) ?_
  refine zk_if_ne (tgt := 12) dX5_turn_5 (by decide) (fun h5 => absurd (rfl) h5) (fun _ => ?_)
  refine zk_iconst dX5_turn_8 zc_m1 ?_
  refine zk_goto (tgt := 33) dX5_turn_9 (by decide) ?_
  refine zk_istore dX5_turn_33 zk_S_4 ?_
  refine zk_iload dX5_turn_35 rfl ?_
  refine zk_if_eq (tgt := 47) dX5_turn_37 (by decide) (fun h37 => absurd h37 (by decide)) (fun _ => ?_)
  refine zk_aload_n dX5_turn_40 rfl ?_
  refine zk_iload dX5_turn_41 rfl ?_
  refine zk_cVi (qno1) dX5_turn_43 mwX5_no ml_X5_42 (by decide : 0 < zm.1) rfl rfl (by decide) rfl (Nat.le_of_ble_eq_true rfl) ?_
  refine zk_iret rfl dX5_turn_46 ?_
  exact ⟨rfl, zs_sm.rf⟩
set_option maxRecDepth 100000 in
set_option maxHeartbeats 4000000 in
theorem qX5_turn_r2 {l : Launch} {M : zk_M} {L : zk_L} {n : Nat} (hA : zs_A (M 1) n) {p : Nat} (hp : p < n) {k g : Int32} (hk : ¬ (0 ≤ k ∧ k < 6)) : zk_C l zm 2 muX5_turn [.ref 0, .int (nI p), .int k, .int g] M L (zp_i (-2) (zs_nof M 2)) := by
  refine zk_ofR (ls := [some (.ref 0), some (.int (nI p)), some (.int k), some (.int g), none, none]) (by decide) rfl (Nat.le_of_ble_eq_true rfl) rfl ?_
  refine zk_aload_n dX5_turn_0 rfl ?_
  refine zk_iload_n dX5_turn_1 rfl ?_
  refine zk_cVi (qX5_isRider_t hA.1 hA.2.1 hp) dX5_turn_2 mwX5_isRider ml_X5_118 (by decide : 0 < zm.1) rfl rfl (by decide) rfl (Nat.le_of_ble_eq_true rfl) ?_
  refine zk_if_ne (tgt := 12) dX5_turn_5 (by decide) (fun _ => ?_) (fun h5 => absurd h5 (by decide))
  refine zk_iload_n dX5_turn_12 rfl ?_
  refine zk_iconst dX5_turn_13 zc_0 ?_
  refine zk_iconst dX5_turn_14 zc_5 ?_
  refine zk_cSi (qX5_05_f hk) dX5_turn_15 miX5_isIn ml_X5_46 stX5_isIn rfl (by decide) rfl (Nat.le_of_ble_eq_true rfl) ?_
  refine zk_if_ne (tgt := 26) dX5_turn_18 (by decide) (fun h18 => absurd (rfl) h18) (fun _ => ?_)
  refine zk_bipush dX5_turn_21 zb_m2 ?_
  refine zk_goto (tgt := 33) dX5_turn_23 (by decide) ?_
  refine zk_istore dX5_turn_33 zk_S_4 ?_
  refine zk_iload dX5_turn_35 rfl ?_
  refine zk_if_eq (tgt := 47) dX5_turn_37 (by decide) (fun h37 => absurd h37 (by decide)) (fun _ => ?_)
  refine zk_aload_n dX5_turn_40 rfl ?_
  refine zk_iload dX5_turn_41 rfl ?_
  refine zk_cVi (qno2) dX5_turn_43 mwX5_no ml_X5_42 (by decide : 0 < zm.1) rfl rfl (by decide) rfl (Nat.le_of_ble_eq_true rfl) ?_
  refine zk_iret rfl dX5_turn_46 ?_
  exact ⟨rfl, zs_sm.rf⟩
set_option maxRecDepth 100000 in
set_option maxHeartbeats 4000000 in
theorem qX5_turn_r4 {l : Launch} {M : zk_M} {L : zk_L} {n : Nat} (hA : zs_A (M 1) n) {p : Nat} (hp : p < n) {k g : Int32} (hk : 0 ≤ k ∧ k < 6) (hg : g < 0) : zk_C l zm 2 muX5_turn [.ref 0, .int (nI p), .int k, .int g] M L (zp_i (-4) (zs_nof M 4)) := by
  refine zk_ofR (ls := [some (.ref 0), some (.int (nI p)), some (.int k), some (.int g), none, none]) (by decide) rfl (Nat.le_of_ble_eq_true rfl) rfl ?_
  refine zk_aload_n dX5_turn_0 rfl ?_
  refine zk_iload_n dX5_turn_1 rfl ?_
  refine zk_cVi (qX5_isRider_t hA.1 hA.2.1 hp) dX5_turn_2 mwX5_isRider ml_X5_118 (by decide : 0 < zm.1) rfl rfl (by decide) rfl (Nat.le_of_ble_eq_true rfl) ?_
  refine zk_if_ne (tgt := 12) dX5_turn_5 (by decide) (fun _ => ?_) (fun h5 => absurd h5 (by decide))
  refine zk_iload_n dX5_turn_12 rfl ?_
  refine zk_iconst dX5_turn_13 zc_0 ?_
  refine zk_iconst dX5_turn_14 zc_5 ?_
  refine zk_cSi (qX5_05_t hk) dX5_turn_15 miX5_isIn ml_X5_46 stX5_isIn rfl (by decide) rfl (Nat.le_of_ble_eq_true rfl) ?_
  refine zk_if_ne (tgt := 26) dX5_turn_18 (by decide) (fun _ => ?_) (fun h18 => absurd h18 (by decide))
  refine zk_iload_n dX5_turn_26 rfl ?_
  refine zk_iconst dX5_turn_27 zc_0 ?_
  refine zk_bipush dX5_turn_28 zb_9 ?_
  refine zk_cSi (qX5_wrongBy) dX5_turn_30 miX5_wrongBy ml_X5_138 stX5_wrongBy rfl (by decide) rfl (Nat.le_of_ble_eq_true rfl) ?_
  rw [if_pos hg]
  refine zk_istore dX5_turn_33 zk_S_4 ?_
  refine zk_iload dX5_turn_35 rfl ?_
  refine zk_if_eq (tgt := 47) dX5_turn_37 (by decide) (fun h37 => absurd h37 (by decide)) (fun _ => ?_)
  refine zk_aload_n dX5_turn_40 rfl ?_
  refine zk_iload dX5_turn_41 rfl ?_
  refine zk_cVi (qno4) dX5_turn_43 mwX5_no ml_X5_42 (by decide : 0 < zm.1) rfl rfl (by decide) rfl (Nat.le_of_ble_eq_true rfl) ?_
  refine zk_iret rfl dX5_turn_46 ?_
  exact ⟨rfl, zs_sm.rf⟩
set_option maxRecDepth 100000 in
set_option maxHeartbeats 4000000 in
theorem qX5_turn_r6 {l : Launch} {M : zk_M} {L : zk_L} {n : Nat} (hA : zs_A (M 1) n) {p : Nat} (hp : p < n) {k g : Int32} (hk : 0 ≤ k ∧ k < 6) (hg : ¬ g < 0) (h9 : 9 < g) : zk_C l zm 2 muX5_turn [.ref 0, .int (nI p), .int k, .int g] M L (zp_i (-6) (zs_nof M 6)) := by
  refine zk_ofR (ls := [some (.ref 0), some (.int (nI p)), some (.int k), some (.int g), none, none]) (by decide) rfl (Nat.le_of_ble_eq_true rfl) rfl ?_
  refine zk_aload_n dX5_turn_0 rfl ?_
  refine zk_iload_n dX5_turn_1 rfl ?_
  refine zk_cVi (qX5_isRider_t hA.1 hA.2.1 hp) dX5_turn_2 mwX5_isRider ml_X5_118 (by decide : 0 < zm.1) rfl rfl (by decide) rfl (Nat.le_of_ble_eq_true rfl) ?_
  refine zk_if_ne (tgt := 12) dX5_turn_5 (by decide) (fun _ => ?_) (fun h5 => absurd h5 (by decide))
  refine zk_iload_n dX5_turn_12 rfl ?_
  refine zk_iconst dX5_turn_13 zc_0 ?_
  refine zk_iconst dX5_turn_14 zc_5 ?_
  refine zk_cSi (qX5_05_t hk) dX5_turn_15 miX5_isIn ml_X5_46 stX5_isIn rfl (by decide) rfl (Nat.le_of_ble_eq_true rfl) ?_
  refine zk_if_ne (tgt := 26) dX5_turn_18 (by decide) (fun _ => ?_) (fun h18 => absurd h18 (by decide))
  refine zk_iload_n dX5_turn_26 rfl ?_
  refine zk_iconst dX5_turn_27 zc_0 ?_
  refine zk_bipush dX5_turn_28 zb_9 ?_
  refine zk_cSi (qX5_wrongBy) dX5_turn_30 miX5_wrongBy ml_X5_138 stX5_wrongBy rfl (by decide) rfl (Nat.le_of_ble_eq_true rfl) ?_
  rw [if_neg hg, if_pos h9]
  refine zk_istore dX5_turn_33 zk_S_4 ?_
  refine zk_iload dX5_turn_35 rfl ?_
  refine zk_if_eq (tgt := 47) dX5_turn_37 (by decide) (fun h37 => absurd h37 (by decide)) (fun _ => ?_)
  refine zk_aload_n dX5_turn_40 rfl ?_
  refine zk_iload dX5_turn_41 rfl ?_
  refine zk_cVi (qno6) dX5_turn_43 mwX5_no ml_X5_42 (by decide : 0 < zm.1) rfl rfl (by decide) rfl (Nat.le_of_ble_eq_true rfl) ?_
  refine zk_iret rfl dX5_turn_46 ?_
  exact ⟨rfl, zs_sm.rf⟩
set_option maxRecDepth 100000 in
set_option maxHeartbeats 4000000 in
theorem qX5_turn_t {l : Launch} {M : zk_M} {L : zk_L} {n : Nat} (hA : zs_A (M 1) n) {p : Nat} (hp : p < n) {k g : Int32} (hk : 0 ≤ k ∧ k < 6) (hg : ¬ g < 0) (h9 : ¬ 9 < g) : zk_C l zm 2 muX5_turn [.ref 0, .int (nI p), .int k, .int g] M L (zp_i (10 * zs_get (M 1) p 0 + zs_get (M 1) p 1) (va_up M 1 (zs_put (M 1) p (va_up (va_up (zs_get (M 1) p) 0 k) 1 g)))) := by
  refine zk_ofR (ls := [some (.ref 0), some (.int (nI p)), some (.int k), some (.int g), none, none]) (by decide) rfl (Nat.le_of_ble_eq_true rfl) rfl ?_
  have hp6 : p < 6 := Nat.lt_of_lt_of_le hp hA.1
  refine zk_aload_n dX5_turn_0 rfl ?_
  refine zk_iload_n dX5_turn_1 rfl ?_
  refine zk_cVi (qX5_isRider_t hA.1 hA.2.1 hp) dX5_turn_2 mwX5_isRider ml_X5_118 (by decide : 0 < zm.1) rfl rfl (by decide) rfl (Nat.le_of_ble_eq_true rfl) ?_
  refine zk_if_ne (tgt := 12) dX5_turn_5 (by decide) (fun _ => ?_) (fun h5 => absurd h5 (by decide))
  refine zk_iload_n dX5_turn_12 rfl ?_
  refine zk_iconst dX5_turn_13 zc_0 ?_
  refine zk_iconst dX5_turn_14 zc_5 ?_
  refine zk_cSi (qX5_05_t hk) dX5_turn_15 miX5_isIn ml_X5_46 stX5_isIn rfl (by decide) rfl (Nat.le_of_ble_eq_true rfl) ?_
  refine zk_if_ne (tgt := 26) dX5_turn_18 (by decide) (fun _ => ?_) (fun h18 => absurd h18 (by decide))
  refine zk_iload_n dX5_turn_26 rfl ?_
  refine zk_iconst dX5_turn_27 zc_0 ?_
  refine zk_bipush dX5_turn_28 zb_9 ?_
  refine zk_cSi (qX5_wrongBy) dX5_turn_30 miX5_wrongBy ml_X5_138 stX5_wrongBy rfl (by decide) rfl (Nat.le_of_ble_eq_true rfl) ?_
  rw [if_neg hg, if_neg h9]
  refine zk_istore dX5_turn_33 zk_S_4 ?_
  refine zk_iload dX5_turn_35 rfl ?_
  refine zk_if_eq (tgt := 47) dX5_turn_37 (by decide) (fun _ => ?_) (fun h37 => absurd (rfl) h37)
  refine zk_bipush dX5_turn_47 zb_10 ?_
  refine zk_aload_n dX5_turn_49 rfl ?_
  refine zk_getRc (q := 1) dX5_turn_50 fl_X5_9 (by decide : 0 < zm.1) rfl rfl rfl ?_
  refine zk_iload_n dX5_turn_53 rfl ?_
  refine zk_iconst dX5_turn_54 zc_0 ?_
  refine zk_cSi (qX5_of (p := p) (k := 0)) dX5_turn_55 miX5_of ml_X5_58 stX5_of rfl (by decide) rfl (Nat.le_of_ble_eq_true rfl) ?_
  refine zk_iald (j := 10 + 7 * p + 0) dX5_turn_58 (by decide : 1 < zm.1) rfl (zs_in rfl (vp_in_nI (zs_7p hp6 (show 0 < 7 by decide)) (by decide))) (nI_clamp (by omega)) ?_
  refine zk_imul dX5_turn_59 ?_
  refine zk_aload_n dX5_turn_60 rfl ?_
  refine zk_getRc (q := 1) dX5_turn_61 fl_X5_9 (by decide : 0 < zm.1) rfl rfl rfl ?_
  refine zk_iload_n dX5_turn_64 rfl ?_
  refine zk_iconst dX5_turn_65 zc_1 ?_
  refine zk_cSi (qX5_of (p := p) (k := 1)) dX5_turn_66 miX5_of ml_X5_58 stX5_of rfl (by decide) rfl (Nat.le_of_ble_eq_true rfl) ?_
  refine zk_iald (j := 10 + 7 * p + 1) dX5_turn_69 (by decide : 1 < zm.1) rfl (zs_in rfl (vp_in_nI (zs_7p hp6 (show 1 < 7 by decide)) (by decide))) (nI_clamp (by omega)) ?_
  refine zk_iadd dX5_turn_70 ?_
  refine zk_istore dX5_turn_71 zk_S_5 ?_
  refine zk_aload_n dX5_turn_73 rfl ?_
  refine zk_getRc (q := 1) dX5_turn_74 fl_X5_9 (by decide : 0 < zm.1) rfl rfl rfl ?_
  refine zk_iload_n dX5_turn_77 rfl ?_
  refine zk_iconst dX5_turn_78 zc_0 ?_
  refine zk_cSi (qX5_of (p := p) (k := 0)) dX5_turn_79 miX5_of ml_X5_58 stX5_of rfl (by decide) rfl (Nat.le_of_ble_eq_true rfl) ?_
  refine zk_iload_n dX5_turn_82 rfl ?_
  refine zk_iast (j := 10 + 7 * p + 0) dX5_turn_83 (by decide : 1 < zm.1) rfl (zs_in rfl (vp_in_nI (zs_7p hp6 (show 0 < 7 by decide)) (by decide))) (nI_clamp (by omega)) ?_
  rw [zs_put1 (show 0 < 7 by decide)]
  refine zk_aload_n dX5_turn_84 rfl ?_
  refine zk_getRc (q := 1) dX5_turn_85 fl_X5_9 (by decide : 0 < zm.1) rfl rfl rfl ?_
  refine zk_iload_n dX5_turn_88 rfl ?_
  refine zk_iconst dX5_turn_89 zc_1 ?_
  refine zk_cSi (qX5_of (p := p) (k := 1)) dX5_turn_90 miX5_of ml_X5_58 stX5_of rfl (by decide) rfl (Nat.le_of_ble_eq_true rfl) ?_
  refine zk_iload_n dX5_turn_93 rfl ?_
  refine zk_iast (j := 10 + 7 * p + 1) dX5_turn_94 (by decide : 1 < zm.1) rfl (zs_in rfl (vp_in_nI (zs_7p hp6 (show 1 < 7 by decide)) (by decide))) (nI_clamp (by omega)) ?_
  rw [zk_up_eq, zs_up2, zs_put2 (by decide)]
  refine zk_iload dX5_turn_95 rfl ?_
  refine zk_iret rfl dX5_turn_97 ?_
  exact ⟨rfl, zs_sm.rf⟩
def zs_dM (M : zk_M) (n t : Nat) : zk_M := va_up M 1 (zs_daysA (zs_FW (zs_J (M 1))) n t (M 1))
theorem zs_dput_T {T T' a : Nat → Int32} {d : Int32} {p n : Nat} (hT : zs_ag 64 T T') (hA : zs_A a n) (hp : p < 6) : zs_dput T d p a = zs_dput T' d p a := by
  rw [zs_dput_eq, zs_dput_eq]
  exact zs_put_cg (zs_dF_ag zs_ag.rf hT zs_ag.rf (hA.2.2 p hp).1)
theorem zs_dayA_T {T T' a : Nat → Int32} {d : Int32} {n : Nat} (hT : zs_ag 64 T T') (hA : zs_A a n) : zs_dayA T d n a = zs_dayA T' d n a :=
  (zs_for_rel (fun _ (a b : Nat → Int32) => zs_A a n ∧ a = b) n 0 _ _ (fun j a b _ hj h => by
    obtain ⟨h1, rfl⟩ := h
    have hj6 : j < 6 := Nat.lt_of_lt_of_le (by omega) hA.1
    exact ⟨h1.dput hj6, zs_dput_T hT h1 hj6⟩) ⟨hA.day1, rfl⟩).2
theorem zs_daysA_T {T T' : Nat → Int32} {n : Nat} (hT : zs_ag 64 T T') : ∀ (t : Nat) (a : Nat → Int32), zs_A a n → zs_daysA T n t a = zs_daysA T' n t a
  | 0, _, _ => rfl
  | t + 1, a, hA => by
    unfold zs_daysA
    rw [zs_dayA_T hT hA]
    exact zs_daysA_T hT t _ hA.dayA
set_option maxRecDepth 100000 in
set_option maxHeartbeats 4000000 in
theorem qX5_days_r4 {l : Launch} {M : zk_M} {L : zk_L} {t : Int32} (ht : t < 1) : zk_C l zm 5 muX5_days [.ref 0, .int t] M L (zp_i (-4) (zs_nof M 4)) := by
  refine zk_ofR (ls := [some (.ref 0), some (.int t)]) (by decide) rfl (Nat.le_of_ble_eq_true rfl) rfl ?_
  refine zk_iload_n dX5_days_0 rfl ?_
  refine zk_iconst dX5_days_1 zc_1 ?_
  refine zk_icmp_ge (tgt := 12) dX5_days_2 (by decide) (fun h2 => absurd h2 (Int32.not_le.mpr ht)) (fun _ => ?_)
  refine zk_aload_n dX5_days_5 rfl ?_
  refine zk_bipush dX5_days_6 zb_m4 ?_
  refine zk_cVi (qno4) dX5_days_8 mwX5_no ml_X5_42 (by decide : 0 < zm.1) rfl rfl (by decide) rfl (Nat.le_of_ble_eq_true rfl) ?_
  refine zk_iret rfl dX5_days_11 ?_
  exact ⟨rfl, zs_sm.rf⟩
set_option maxRecDepth 100000 in
set_option maxHeartbeats 4000000 in
theorem qX5_days_r6 {l : Launch} {M : zk_M} {L : zk_L} {t : Int32} (ht : ¬ t < 1) (hn : ¬ (t ≤ 60 ∧ M 1 1 + t ≤ 999)) : zk_C l zm 5 muX5_days [.ref 0, .int t] M L (zp_i (-6) (zs_nof M 6)) := by
  refine zk_ofR (ls := [some (.ref 0), some (.int t)]) (by decide) rfl (Nat.le_of_ble_eq_true rfl) rfl ?_
  refine zk_iload_n dX5_days_0 rfl ?_
  refine zk_iconst dX5_days_1 zc_1 ?_
  refine zk_icmp_ge (tgt := 12) dX5_days_2 (by decide) (fun _ => ?_) (fun h2 => absurd (Int32.not_lt.mp ht) h2)
  refine zk_iload_n dX5_days_12 rfl ?_
  refine zk_bipush dX5_days_13 zb_60 ?_
  refine zk_icmp_gt (tgt := 32) dX5_days_15 (by decide) (fun h15 => ?_) (fun h15 => ?_)
  · refine zk_aload_n dX5_days_32 rfl ?_
    refine zk_bipush dX5_days_33 zb_m6 ?_
    refine zk_cVi (qno6) dX5_days_35 mwX5_no ml_X5_42 (by decide : 0 < zm.1) rfl rfl (by decide) rfl (Nat.le_of_ble_eq_true rfl) ?_
    refine zk_iret rfl dX5_days_38 ?_
    exact ⟨rfl, zs_sm.rf⟩
  · refine zk_aload_n dX5_days_18 rfl ?_
    refine zk_getRc (q := 1) dX5_days_19 fl_X5_9 (by decide : 0 < zm.1) rfl rfl rfl ?_
    refine zk_iconst dX5_days_22 zc_1 ?_
    refine zk_iald (j := 1) dX5_days_23 (by decide : 1 < zm.1) rfl (zs_in rfl (vp_in_iff.mpr (by decide))) (by decide) ?_
    refine zk_iload_n dX5_days_24 rfl ?_
    refine zk_iadd dX5_days_25 ?_
    refine zk_sipush dX5_days_26 zs_999 ?_
    refine zk_icmp_le (tgt := 39) dX5_days_29 (by decide) (fun h29 => absurd h29 (fun q => hn ⟨Int32.not_lt.mp h15, q⟩)) (fun _ => ?_)
    refine zk_aload_n dX5_days_32 rfl ?_
    refine zk_bipush dX5_days_33 zb_m6 ?_
    refine zk_cVi (qno6) dX5_days_35 mwX5_no ml_X5_42 (by decide : 0 < zm.1) rfl rfl (by decide) rfl (Nat.le_of_ble_eq_true rfl) ?_
    refine zk_iret rfl dX5_days_38 ?_
    exact ⟨rfl, zs_sm.rf⟩
set_option maxRecDepth 100000 in
set_option maxHeartbeats 4000000 in
theorem qX5_days_t {l : Launch} {M : zk_M} {L : zk_L} {n : Nat} (hA : zs_A (M 1) n) {t : Nat} (h1 : 1 ≤ t) (h60 : t ≤ 60) (hday : M 1 1 + nI t ≤ 999) : zk_C l zm 5 muX5_days [.ref 0, .int (nI t)] M L (zp_i (zs_bits (zs_for (zs_atf (zs_dM M n t 1)) n 0 0)) (zs_dM M n t)) := by
  refine zk_ofR (ls := [some (.ref 0), some (.int (nI t))]) (by decide) rfl (Nat.le_of_ble_eq_true rfl) rfl ?_
  refine zk_iload_n dX5_days_0 rfl ?_
  refine zk_iconst dX5_days_1 zc_1 ?_
  refine zk_icmp_ge (tgt := 12) dX5_days_2 (by decide) (fun _ => ?_) (fun h2 => absurd (nI_le (a := 1) h1 (by omega)) h2)
  refine zk_iload_n dX5_days_12 rfl ?_
  refine zk_bipush dX5_days_13 zb_60 ?_
  refine zk_icmp_gt (tgt := 32) dX5_days_15 (by decide) (fun h15 => absurd h15 (nI_nlt (a := 60) h60 (by decide))) (fun _ => ?_)
  refine zk_aload_n dX5_days_18 rfl ?_
  refine zk_getRc (q := 1) dX5_days_19 fl_X5_9 (by decide : 0 < zm.1) rfl rfl rfl ?_
  refine zk_iconst dX5_days_22 zc_1 ?_
  refine zk_iald (j := 1) dX5_days_23 (by decide : 1 < zm.1) rfl (zs_in rfl (vp_in_iff.mpr (by decide))) (by decide) ?_
  refine zk_iload_n dX5_days_24 rfl ?_
  refine zk_iadd dX5_days_25 ?_
  refine zk_sipush dX5_days_26 zs_999 ?_
  refine zk_icmp_le (tgt := 39) dX5_days_29 (by decide) (fun _ => ?_) (fun h29 => absurd (hday) h29)
  refine zk_aload_n dX5_days_39 rfl ?_
  refine zk_aload_n dX5_days_40 rfl ?_
  refine zk_getRc (q := 1) dX5_days_41 fl_X5_9 (by decide : 0 < zm.1) rfl rfl rfl ?_
  refine zk_iload_n dX5_days_44 rfl ?_
  refine zk_cVv (qX5_daysOn zm_a1 (by decide) hA (by omega)) dX5_days_45 mwX5_daysOn ml_X5_121 (by decide : 0 < zm.1) rfl rfl (by decide) rfl (Nat.le_of_ble_eq_true rfl) ?_
  have hM : va_up (va_up M 5 (zs_fw (zs_J (M 1)) (M 5))) 1 (zs_daysA (zs_fw (zs_J (M 1)) (M 5)) n t (M 1)) = va_up (va_up M 5 (zs_fw (zs_J (M 1)) (M 5))) 1 (zs_dM M n t 1) := by rw [zs_dM, zk_up_eq, zs_daysA_T (zs_fw_ag zs_ag.rf _ _) t _ hA]; rfl
  rw [hM]
  have hA2 : zs_A (zs_dM M n t 1) n := by rw [zs_dM, zk_up_eq]; exact hA.daysA t _
  refine zk_aload_n dX5_days_48 rfl ?_
  refine zk_getRc (q := 1) dX5_days_49 fl_X5_9 (by decide : 0 < zm.1) rfl rfl rfl ?_
  refine zk_cSi (qX5_atSaid zm_a1 (n := n) (by rw [zk_up_eq]; exact ⟨hA2.1, hA2.2.1⟩)) dX5_days_52 miX5_atSaid ml_X5_141 stX5_atSaid rfl (by decide) rfl (Nat.le_of_ble_eq_true rfl) ?_
  refine zk_cSi (qX5_bits) dX5_days_55 miX5_bits ml_X5_145 stX5_bits rfl (by decide) rfl (Nat.le_of_ble_eq_true rfl) ?_
  refine zk_iret rfl dX5_days_58 ?_
  refine ⟨by rw [zk_up_eq], ?_⟩
  refine ⟨by rw [zk_up_eq], ?_⟩
  rw [zs_dM]
  refine ⟨?_, ?_, ?_, ?_, ?_, ?_, ?_⟩ <;> rw [zk_up_ne (by decide), zk_up_ne (by decide), zk_up_ne (by decide)]
