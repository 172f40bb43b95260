theorem zb_30 : (Int8.ofInt 30).toInt32 = (30 : Int32) := by decide +kernel
set_option maxRecDepth 100000 in
set_option maxHeartbeats 4000000 in
theorem qX4_near_r {l : Launch} {M : zk_M} {L : zk_L} {x : Int32} (hx : ¬ zs_p x) : zk_C l zc 1 muX4_near [.ref 0, .int x] M L (zq_i (-1) (zs_ref M 1)) := by
  refine zk_ofR (ls := [some (.ref 0), some (.int x)]) (by decide) rfl (Nat.le_of_ble_eq_true rfl) rfl ?_
  refine zk_iload_n dX4_near_0 rfl ?_
  refine zk_cSi (qX4_isPlace) dX4_near_1 miX4_isPlace ml_X4_119 stX4_isPlace rfl (by decide) rfl (Nat.le_of_ble_eq_true rfl) ?_
  refine zk_if_ne (tgt := 13) dX4_near_4 (by decide) (fun h4 => ?_) (fun h4 => ?_)
  · have hb := zs_if1 h4
    exact absurd hb hx
  · have hb := zs_if0 h4
    refine zk_aload_n dX4_near_7 rfl ?_
    refine zk_iconst dX4_near_8 zc_m1 ?_
    refine zk_cVi (qrf1) dX4_near_9 mwX4_refuse ml_X4_63 (by decide : 0 < zc.1) rfl rfl (by decide) rfl (Nat.le_of_ble_eq_true rfl) ?_
    refine zk_iret rfl dX4_near_12 ?_
    exact ⟨rfl, zs_same.rf⟩
set_option maxRecDepth 100000 in
set_option maxHeartbeats 4000000 in
theorem qX4_near_t {l : Launch} {M : zk_M} {L : zk_L} {x : Int32} (hx : zs_p x) : zk_C l zc 1 muX4_near [.ref 0, .int x] M L (zq_i (M 3 x.toNatClampNeg) M) := by
  refine zk_ofR (ls := [some (.ref 0), some (.int x)]) (by decide) rfl (Nat.le_of_ble_eq_true rfl) rfl ?_
  refine zk_iload_n dX4_near_0 rfl ?_
  refine zk_cSi (qX4_isPlace_t hx) dX4_near_1 miX4_isPlace ml_X4_119 stX4_isPlace rfl (by decide) rfl (Nat.le_of_ble_eq_true rfl) ?_
  refine zk_if_ne (tgt := 13) dX4_near_4 (by decide) (fun _ => ?_) (fun h4 => absurd h4 (by decide))
  refine zk_aload_n dX4_near_13 rfl ?_
  refine zk_getRc (q := 1) dX4_near_14 fl_X4_12 (by decide : 0 < zc.1) rfl rfl rfl ?_
  refine zk_getRc (q := 2) dX4_near_17 fl_X4_122 (by decide : 1 < zc.1) rfl rfl rfl ?_
  refine zk_getRc (q := 3) dX4_near_20 fl_X4_207 (by decide : 2 < zc.1) rfl rfl rfl ?_
  refine zk_iload_n dX4_near_23 rfl ?_
  refine zk_iald (j := _) dX4_near_24 (by decide : 3 < zc.1) rfl (zs_in rfl (zs_pin hx)) rfl ?_
  refine zk_iret rfl dX4_near_25 ?_
  exact ⟨rfl, zs_same.rf⟩
theorem q2_most {l : Launch} {M : zk_M} {L : zk_L}  : zk_C l zc 1 muX2_mostSteps [.ref 2] M L (zk_Ei (zs_for (fun i x => if M 4 i = 9 then x else zs_mx x (M 4 i)) 64 0 0) M L) := qX2_mostSteps zc_r2
theorem q2_far {l : Launch} {M : zk_M} {L : zk_L}  : zk_C l zc 1 muX2_farBits [.ref 2] M L (zk_Ei (zs_for (fun i x => if M 4 (0 * 8 + i) = 9 then x ||| 1 <<< (nI i &&& 31) else x) 8 0 0) M L) := qX2_farBits zc_r2
theorem q2_rc {l : Launch} {M : zk_M} {L : zk_L}  : zk_C l zc 1 muX2_roadCount [.ref 2] M L (zk_Ei (zs_for (fun i x => x + zs_bc (M 3 i)) 8 0 0 / 2) M L) := qX2_roadCount zc_r2
def zs_apv (M : zk_M) (n : Nat) (x : Int32) : Int32 := if x = 0 then zs_for (fun i x => if M 4 i = 9 then x else zs_mx x (M 4 i)) 64 0 0 else if x = 1 then zs_for (fun i x => if M 4 (0 * 8 + i) = 9 then x ||| 1 <<< (nI i &&& 31) else x) 8 0 0 else if x = 2 then zs_for (fun i x => if M (6 + i) 2 = M (6 + i) 3 then x ||| 1 <<< (nI i &&& 31) else x) n 0 0 else zs_for (fun i x => if M 4 (M (6 + i) 4 * 8 + M (6 + i) 3).toNatClampNeg = 9 then x ||| 1 <<< (nI i &&& 31) else x) n 0 0
abbrev zs_b4 (x : Int32) : Prop := x = 0 ∨ x = 1 ∨ x = 2 ∨ x = 3
theorem zs_apv0 {M : zk_M} {n : Nat} : zs_apv M n 0 = zs_for (fun i x => if M 4 i = 9 then x else zs_mx x (M 4 i)) 64 0 0 := if_pos rfl
theorem zs_apv1 {M : zk_M} {n : Nat} : zs_apv M n 1 = zs_for (fun i x => if M 4 (0 * 8 + i) = 9 then x ||| 1 <<< (nI i &&& 31) else x) 8 0 0 := by rw [zs_apv, if_neg (by decide), if_pos rfl]
theorem zs_apv2 {M : zk_M} {n : Nat} : zs_apv M n 2 = zs_for (fun i x => if M (6 + i) 2 = M (6 + i) 3 then x ||| 1 <<< (nI i &&& 31) else x) n 0 0 := by rw [zs_apv, if_neg (by decide), if_neg (by decide), if_pos rfl]
theorem zs_apv3 {M : zk_M} {n : Nat} : zs_apv M n 3 = zs_for (fun i x => if M 4 (M (6 + i) 4 * 8 + M (6 + i) 3).toNatClampNeg = 9 then x ||| 1 <<< (nI i &&& 31) else x) n 0 0 := by rw [zs_apv, if_neg (by decide), if_neg (by decide), if_neg (by decide)]
set_option maxRecDepth 100000 in
set_option maxHeartbeats 4000000 in
theorem qX4_apart_r {l : Launch} {M : zk_M} {L : zk_L} {x : Int32} (hx : ¬ zs_b4 x) : zk_C l zc 3 muX4_apart [.ref 0, .int x] M L (zq_i (-2) (zs_ref M 2)) := by
  refine zk_ofR (ls := [some (.ref 0), some (.int x)]) (by decide) rfl (Nat.le_of_ble_eq_true rfl) rfl ?_
  refine zk_iload_n dX4_apart_0 rfl ?_
  by_cases hx0 : x = 0
  · rw [hx0]
    refine zk_tabIn (off := 31) (tgt := 32) dX4_apart_1 (by decide) (by decide) (by decide) (by decide) ?_
    exact absurd (by simp_all) hx
  by_cases hx1 : x = 1
  · rw [hx1]
    refine zk_tabIn (off := 42) (tgt := 43) dX4_apart_1 (by decide) (by decide) (by decide) (by decide) ?_
    exact absurd (by simp_all) hx
  by_cases hx2 : x = 2
  · rw [hx2]
    refine zk_tabIn (off := 53) (tgt := 54) dX4_apart_1 (by decide) (by decide) (by decide) (by decide) ?_
    exact absurd (by simp_all) hx
  by_cases hx3 : x = 3
  · rw [hx3]
    refine zk_tabIn (off := 61) (tgt := 62) dX4_apart_1 (by decide) (by decide) (by decide) (by decide) ?_
    exact absurd (by simp_all) hx
  refine zk_tabOut (tgt := 70) dX4_apart_1 (zs_out03 hx0 hx1 hx2 hx3) (by decide) ?_
  refine zk_aload_n dX4_apart_70 rfl ?_
  refine zk_bipush dX4_apart_71 zb_m2 ?_
  refine zk_cVi (qrf2) dX4_apart_73 mwX4_refuse ml_X4_63 (by decide : 0 < zc.1) rfl rfl (by decide) rfl (Nat.le_of_ble_eq_true rfl) ?_
  refine zk_iret rfl dX4_apart_76 ?_
  exact ⟨rfl, zs_same.rf⟩
set_option maxRecDepth 100000 in
set_option maxHeartbeats 4000000 in
theorem qX4_apart_t {l : Launch} {M : zk_M} {L : zk_L} {n : Nat} (hI : zs_I M n) {x : Int32} (hx : zs_b4 x) : zk_C l zc 3 muX4_apart [.ref 0, .int x] M L (zq_i (zs_apv M n x) M) := by
  refine zk_ofR (ls := [some (.ref 0), some (.int x)]) (by decide) rfl (Nat.le_of_ble_eq_true rfl) rfl ?_
  refine zk_iload_n dX4_apart_0 rfl ?_
  by_cases hx0 : x = 0
  · rw [hx0]
    refine zk_tabIn (off := 31) (tgt := 32) dX4_apart_1 (by decide) (by decide) (by decide) (by decide) ?_
    refine zk_aload_n dX4_apart_32 rfl ?_
    refine zk_getRc (q := 1) dX4_apart_33 fl_X4_12 (by decide : 0 < zc.1) rfl rfl rfl ?_
    refine zk_getRc (q := 2) dX4_apart_36 fl_X4_122 (by decide : 1 < zc.1) rfl rfl rfl ?_
    refine zk_cVi (q2_most) dX4_apart_39 mwX2_mostSteps ml_X4_210 (by decide : 2 < zc.1) rfl rfl (by decide) rfl (Nat.le_of_ble_eq_true rfl) ?_
    refine zk_iret rfl dX4_apart_42 ?_
    exact ⟨by rw [zs_apv0], zs_same.rf⟩
  by_cases hx1 : x = 1
  · rw [hx1]
    refine zk_tabIn (off := 42) (tgt := 43) dX4_apart_1 (by decide) (by decide) (by decide) (by decide) ?_
    refine zk_aload_n dX4_apart_43 rfl ?_
    refine zk_getRc (q := 1) dX4_apart_44 fl_X4_12 (by decide : 0 < zc.1) rfl rfl rfl ?_
    refine zk_getRc (q := 2) dX4_apart_47 fl_X4_122 (by decide : 1 < zc.1) rfl rfl rfl ?_
    refine zk_cVi (q2_far) dX4_apart_50 mwX2_farBits ml_X4_213 (by decide : 2 < zc.1) rfl rfl (by decide) rfl (Nat.le_of_ble_eq_true rfl) ?_
    refine zk_iret rfl dX4_apart_53 ?_
    exact ⟨by rw [zs_apv1], zs_same.rf⟩
  by_cases hx2 : x = 2
  · rw [hx2]
    refine zk_tabIn (off := 53) (tgt := 54) dX4_apart_1 (by decide) (by decide) (by decide) (by decide) ?_
    refine zk_aload_n dX4_apart_54 rfl ?_
    refine zk_getRc (q := 1) dX4_apart_55 fl_X4_12 (by decide : 0 < zc.1) rfl rfl rfl ?_
    refine zk_cVi (q1_honest hI) dX4_apart_58 mwX0_honestBits ml_X4_216 (by decide : 1 < zc.1) rfl rfl (by decide) rfl (Nat.le_of_ble_eq_true rfl) ?_
    refine zk_iret rfl dX4_apart_61 ?_
    exact ⟨by rw [zs_apv2], zs_same.rf⟩
  by_cases hx3 : x = 3
  · rw [hx3]
    refine zk_tabIn (off := 61) (tgt := 62) dX4_apart_1 (by decide) (by decide) (by decide) (by decide) ?_
    refine zk_aload_n dX4_apart_62 rfl ?_
    refine zk_getRc (q := 1) dX4_apart_63 fl_X4_12 (by decide : 0 < zc.1) rfl rfl rfl ?_
    refine zk_cVi (q1_lost hI) dX4_apart_66 mwX0_lostBits ml_X4_219 (by decide : 1 < zc.1) rfl rfl (by decide) rfl (Nat.le_of_ble_eq_true rfl) ?_
    refine zk_iret rfl dX4_apart_69 ?_
    exact ⟨by rw [zs_apv3], zs_same.rf⟩
  refine zk_tabOut (tgt := 70) dX4_apart_1 (zs_out03 hx0 hx1 hx2 hx3) (by decide) ?_
  rcases hx with q | q | q | q <;> exact absurd q (by assumption)
def zs_busf (J : Nat → Int32) (i : Nat) (b : Int32) : Int32 := if zs_bc (J b.toNatClampNeg) < zs_bc (J i) then nI i else b
set_option maxRecDepth 100000 in
set_option maxHeartbeats 4000000 in
theorem lX4_busiest {l : Launch} {M : zk_M} {L : zk_L} {Q : Option Value → zk_M → zk_L → Prop} : ∀ (m i : Nat) (b : Int32), i + m = 8 → zs_p b → zk_R l zc 1 muX4_busiest 51 [some (.ref 0), some (.int (zs_for (zs_busf (M 3)) m i b)), none] [] M L Q → zk_R l zc 1 muX4_busiest 4 [some (.ref 0), some (.int b), some (.int (nI i))] [] M L Q := by
  intro m
  induction m with
  | zero =>
    intro i b hi hb k
    obtain rfl : i = 8 := by omega
    refine zk_iload_n dX4_busiest_4 rfl ?_
    refine zk_bipush (v := 8) dX4_busiest_5 (by decide) ?_
    refine zk_icmp_ge (tgt := 51) dX4_busiest_7 (by decide) (fun _ => ?_) (fun q => absurd (by decide) q)
    refine zk_forget ?_ k
    exact ⟨Or.inr rfl, Or.inr rfl, Or.inl rfl, trivial⟩
  | succ m ih =>
    intro i b hi hb k
    have hi8 : i < 8 := by omega
    refine zk_iload_n dX4_busiest_4 rfl ?_
    refine zk_bipush dX4_busiest_5 zb_8 ?_
    refine zk_icmp_ge (tgt := 51) dX4_busiest_7 (by decide) (fun h7 => absurd h7 (nI_ge (b := 8) hi8 (by decide))) (fun _ => ?_)
    refine zk_aload_n dX4_busiest_10 rfl ?_
    refine zk_getRc (q := 1) dX4_busiest_11 fl_X4_12 (by decide : 0 < zc.1) rfl rfl rfl ?_
    refine zk_getRc (q := 2) dX4_busiest_14 fl_X4_122 (by decide : 1 < zc.1) rfl rfl rfl ?_
    refine zk_getRc (q := 3) dX4_busiest_17 fl_X4_207 (by decide : 2 < zc.1) rfl rfl rfl ?_
    refine zk_iload_n dX4_busiest_20 rfl ?_
    refine zk_iald (j := i) dX4_busiest_21 (by decide : 3 < zc.1) rfl (zs_in rfl (vp_in_nI hi8 (by decide))) (nI_clamp (Nat.lt_trans hi8 (by decide))) ?_
    refine zk_cSi (qJ6_bitCount_0f7a4) dX4_busiest_22 miJ6_bitCount_0f7a4 ml_X4_158 stJ6_bitCount_0f7a4 rfl (by decide) rfl (Nat.le_of_ble_eq_true rfl) ?_
    refine zk_aload_n dX4_busiest_25 rfl ?_
    refine zk_getRc (q := 1) dX4_busiest_26 fl_X4_12 (by decide : 0 < zc.1) rfl rfl rfl ?_
    refine zk_getRc (q := 2) dX4_busiest_29 fl_X4_122 (by decide : 1 < zc.1) rfl rfl rfl ?_
    refine zk_getRc (q := 3) dX4_busiest_32 fl_X4_207 (by decide : 2 < zc.1) rfl rfl rfl ?_
    refine zk_iload_n dX4_busiest_35 rfl ?_
    refine zk_iald (j := _) dX4_busiest_36 (by decide : 3 < zc.1) rfl (zs_in rfl (zs_pin hb)) rfl ?_
    refine zk_cSi (qJ6_bitCount_0f7a4) dX4_busiest_37 miJ6_bitCount_0f7a4 ml_X4_158 stJ6_bitCount_0f7a4 rfl (by decide) rfl (Nat.le_of_ble_eq_true rfl) ?_
    refine zk_icmp_le (tgt := 45) dX4_busiest_40 (by decide) (fun h40 => ?_) (fun h40 => ?_)
    · refine zk_iinc dX4_busiest_45 zc_1 rfl zk_S_2 ?_
      refine zk_goto (tgt := 4) dX4_busiest_48 (by decide) ?_
      rw [← nI_succ]
      first
        | (refine ih (i + 1) (nI i) (by omega) (zs_p_nI hi8) ?_
           have e : zs_busf (M 3) i b = nI i := if_pos (Int32.not_le.mp h40)
           rw [zs_for, e] at k
           exact k)
        | (refine ih (i + 1) b (by omega) hb ?_
           have e : zs_busf (M 3) i b = b := if_neg (Int32.not_lt.mpr h40)
           rw [zs_for, e] at k
           exact k)
    · refine zk_iload_n dX4_busiest_43 rfl ?_
      refine zk_istore_n dX4_busiest_44 zk_S_1 ?_
      refine zk_iinc dX4_busiest_45 zc_1 rfl zk_S_2 ?_
      refine zk_goto (tgt := 4) dX4_busiest_48 (by decide) ?_
      rw [← nI_succ]
      first
        | (refine ih (i + 1) (nI i) (by omega) (zs_p_nI hi8) ?_
           have e : zs_busf (M 3) i b = nI i := if_pos (Int32.not_le.mp h40)
           rw [zs_for, e] at k
           exact k)
        | (refine ih (i + 1) b (by omega) hb ?_
           have e : zs_busf (M 3) i b = b := if_neg (Int32.not_lt.mpr h40)
           rw [zs_for, e] at k
           exact k)
set_option maxRecDepth 100000 in
set_option maxHeartbeats 4000000 in
theorem qX4_busiest_t {l : Launch} {M : zk_M} {L : zk_L}  : zk_C l zc 1 muX4_busiest [.ref 0] M L (zq_i (zs_for (zs_busf (M 3)) 7 1 0) M) := by
  refine zk_ofR (ls := [some (.ref 0), none, none]) (by decide) rfl (Nat.le_of_ble_eq_true rfl) rfl ?_
  refine zk_iconst dX4_busiest_0 zc_0 ?_
  refine zk_istore_n dX4_busiest_1 zk_S_1 ?_
  refine zk_iconst dX4_busiest_2 zc_1 ?_
  refine zk_istore_n dX4_busiest_3 zk_S_2 ?_
  refine lX4_busiest 7 1 0 rfl (by decide) ?_
  refine zk_iload_n dX4_busiest_51 rfl ?_
  refine zk_iret rfl dX4_busiest_52 ?_
  exact ⟨rfl, zs_same.rf⟩
def zs_trf (M : zk_M) (i : Nat) (s : Int32 × Int32) : Int32 × Int32 := if s.2 < M (6 + i) 6 then (nI i, M (6 + i) 6) else s
set_option maxRecDepth 100000 in
set_option maxHeartbeats 4000000 in
theorem lX4_tired {l : Launch} {M : zk_M} {L : zk_L} {n : Nat} (hI : zs_I M n) {Q : Option Value → zk_M → zk_L → Prop} : ∀ (m i : Nat) (b s : Int32), i + m = n → zk_R l zc 1 muX4_tired 55 [some (.ref 0), some (.int (zs_for (zs_trf M) m i (b, s)).1), none, none] [] M L Q → zk_R l zc 1 muX4_tired 7 [some (.ref 0), some (.int b), some (.int s), some (.int (nI i))] [] M L Q := by
  have hn6 := hI.1
  intro m
  induction m with
  | zero =>
    intro i b s hi k
    obtain rfl : i = n := by omega
    refine zk_iload_n dX4_tired_7 rfl ?_
    refine zk_aload_n dX4_tired_8 rfl ?_
    refine zk_getRc (q := 1) dX4_tired_9 fl_X4_12 (by decide) rfl rfl rfl ?_
    refine zk_getI dX4_tired_12 fl_X4_181 (by decide) rfl rfl ?_
    rw [hI.2.1]
    refine zk_icmp_ge (tgt := 55) dX4_tired_15 (by decide) (fun _ => ?_) (fun q => absurd (nI_le (Nat.le_refl _) (by omega)) q)
    refine zk_forget ?_ k
    exact ⟨Or.inr rfl, Or.inr rfl, Or.inl rfl, Or.inl rfl, trivial⟩
  | succ m ih =>
    intro i b s hi k
    have hi : i < n := by omega
    have hi6 : i < 6 := by omega
    refine zk_iload_n dX4_tired_7 rfl ?_
    refine zk_aload_n dX4_tired_8 rfl ?_
    refine zk_getRc (q := 1) dX4_tired_9 fl_X4_12 (by decide : 0 < zc.1) rfl rfl rfl ?_
    refine zk_getI dX4_tired_12 fl_X4_181 (by decide : 1 < zc.1) rfl rfl ?_
    rw [hI.2.1]
    refine zk_icmp_ge (tgt := 55) dX4_tired_15 (by decide) (fun h15 => absurd h15 (nI_ge hi (by omega))) (fun _ => ?_)
    refine zk_aload_n dX4_tired_18 rfl ?_
    refine zk_getRc (q := 1) dX4_tired_19 fl_X4_12 (by decide : 0 < zc.1) rfl rfl rfl ?_
    refine zk_getRc (q := 5) dX4_tired_22 fl_X4_89 (by decide : 1 < zc.1) rfl rfl rfl ?_
    refine zk_iload_n dX4_tired_25 rfl ?_
    refine zk_aald (j := i) (q := (6 + i)) dX4_tired_26 (by decide : 5 < zc.1) rfl (zs_in rfl (vp_in_nI hi6 (by decide))) (nI_clamp (by omega)) rfl ?_
    refine zk_getI dX4_tired_27 fl_X4_112 (zc_h6 hi6).1 (zc_h6 hi6).2 rfl ?_
    refine zk_iload_n dX4_tired_30 rfl ?_
    refine zk_icmp_le (tgt := 49) dX4_tired_31 (by decide) (fun h31 => ?_) (fun h31 => ?_)
    · refine zk_iinc dX4_tired_49 zc_1 rfl zk_S_3 ?_
      refine zk_goto (tgt := 7) dX4_tired_52 (by decide) ?_
      rw [← nI_succ]
      first
        | (refine ih (i + 1) (nI i) (M (6 + i) 6) (by omega) ?_
           have e : zs_trf M i (b, s) = (nI i, M (6 + i) 6) := if_pos (Int32.not_le.mp h31)
           rw [zs_for, e] at k
           exact k)
        | (refine ih (i + 1) b s (by omega) ?_
           have e : zs_trf M i (b, s) = (b, s) := if_neg (Int32.not_lt.mpr h31)
           rw [zs_for, e] at k
           exact k)
    · refine zk_aload_n dX4_tired_34 rfl ?_
      refine zk_getRc (q := 1) dX4_tired_35 fl_X4_12 (by decide : 0 < zc.1) rfl rfl rfl ?_
      refine zk_getRc (q := 5) dX4_tired_38 fl_X4_89 (by decide : 1 < zc.1) rfl rfl rfl ?_
      refine zk_iload_n dX4_tired_41 rfl ?_
      refine zk_aald (j := i) (q := (6 + i)) dX4_tired_42 (by decide : 5 < zc.1) rfl (zs_in rfl (vp_in_nI hi6 (by decide))) (nI_clamp (by omega)) rfl ?_
      refine zk_getI dX4_tired_43 fl_X4_112 (zc_h6 hi6).1 (zc_h6 hi6).2 rfl ?_
      refine zk_istore_n dX4_tired_46 zk_S_2 ?_
      refine zk_iload_n dX4_tired_47 rfl ?_
      refine zk_istore_n dX4_tired_48 zk_S_1 ?_
      refine zk_iinc dX4_tired_49 zc_1 rfl zk_S_3 ?_
      refine zk_goto (tgt := 7) dX4_tired_52 (by decide) ?_
      rw [← nI_succ]
      first
        | (refine ih (i + 1) (nI i) (M (6 + i) 6) (by omega) ?_
           have e : zs_trf M i (b, s) = (nI i, M (6 + i) 6) := if_pos (Int32.not_le.mp h31)
           rw [zs_for, e] at k
           exact k)
        | (refine ih (i + 1) b s (by omega) ?_
           have e : zs_trf M i (b, s) = (b, s) := if_neg (Int32.not_lt.mpr h31)
           rw [zs_for, e] at k
           exact k)
set_option maxRecDepth 100000 in
set_option maxHeartbeats 4000000 in
theorem qX4_tired_t {l : Launch} {M : zk_M} {L : zk_L} {n : Nat} (hI : zs_I M n) : zk_C l zc 1 muX4_tired [.ref 0] M L (zq_i (zs_for (zs_trf M) n 0 (-9, -1)).1 M) := by
  refine zk_ofR (ls := [some (.ref 0), none, none, none]) (by decide) rfl (Nat.le_of_ble_eq_true rfl) rfl ?_
  refine zk_bipush dX4_tired_0 zb_m9 ?_
  refine zk_istore_n dX4_tired_2 zk_S_1 ?_
  refine zk_iconst dX4_tired_3 zc_m1 ?_
  refine zk_istore_n dX4_tired_4 zk_S_2 ?_
  refine zk_iconst dX4_tired_5 zc_0 ?_
  refine zk_istore_n dX4_tired_6 zk_S_3 ?_
  refine lX4_tired hI n 0 (-9) (-1) (by omega) ?_
  refine zk_iload_n dX4_tired_55 rfl ?_
  refine zk_iret rfl dX4_tired_56 ?_
  exact ⟨rfl, zs_same.rf⟩
def zs_tru : Nat → Nat → (Nat → Int32) → Int32
  | 0, _, _ => -9
  | m + 1, day, f => if f 5 = 0 then nI day else zs_tru m (day + 1) (zs_wear f)
theorem zs_tru_ag : ∀ (m day : Nat) (f g : Nat → Int32), zs_ag 7 f g → zs_tru m day f = zs_tru m day g
  | 0, _, _, _, _ => rfl
  | m + 1, day, f, g, h => by
    unfold zs_tru
    rw [h 5 (by decide), zs_tru_ag m (day + 1) _ _ (zs_wear_ag h)]
set_option maxRecDepth 100000 in
set_option maxHeartbeats 4000000 in
theorem lX4_truly {l : Launch} {L : zk_L} {M0 : zk_M} {r v : Int32} : ∀ (m i : Nat) (M : zk_M), i + m = 100 → zs_same M0 M → v = zs_tru m i (M 37) → zk_R l zc 3 muX4_truly 24 [some (.ref 0), some (.int r), some (.int (nI i))] [] M L (zq_i v M0) := by
  intro m
  induction m with
  | zero =>
    intro i M hi hs ek
    obtain rfl : i = 100 := by omega
    refine zk_iload_n dX4_truly_24 rfl ?_
    refine zk_bipush (v := 99) dX4_truly_25 (by decide) ?_
    refine zk_icmp_gt (tgt := 55) dX4_truly_27 (by decide) (fun _ => ?_) (fun q => absurd (by decide) q)
    refine zk_bipush (v := -9) dX4_truly_55 (by decide) ?_
    refine zk_iret rfl dX4_truly_57 ?_
    exact ⟨by rw [ek]; rfl, hs⟩
  | succ m ih =>
    intro i M hi hs ek
    refine zk_iload_n dX4_truly_24 rfl ?_
    refine zk_bipush dX4_truly_25 zb_99 ?_
    refine zk_icmp_gt (tgt := 55) dX4_truly_27 (by decide) (fun h27 => absurd h27 (nI_nlt (a := 99) (show i ≤ 99 by omega) (by decide))) (fun _ => ?_)
    refine zk_aload_n dX4_truly_30 rfl ?_
    refine zk_getRc (q := 37) dX4_truly_31 fl_X4_32 (by decide : 0 < zc.1) rfl rfl rfl ?_
    refine zk_getI dX4_truly_34 fl_X4_109 (by decide : 37 < zc.1) rfl rfl ?_
    refine zk_if_ne (tgt := 42) dX4_truly_37 (by decide) (fun h37 => ?_) (fun h37 => ?_)
    · refine zk_aload_n dX4_truly_42 rfl ?_
      refine zk_getRc (q := 37) dX4_truly_43 fl_X4_32 (by decide : 0 < zc.1) rfl rfl rfl ?_
      refine zk_cVv (qX1_wearIron zc_h37) dX4_truly_46 mwX1_wearIron ml_X4_222 (by decide : 37 < zc.1) rfl rfl (by decide) rfl (Nat.le_of_ble_eq_true rfl) ?_
      refine zk_iinc dX4_truly_49 zc_1 rfl zk_S_2 ?_
      refine zk_goto (tgt := 24) dX4_truly_52 (by decide) ?_
      rw [← nI_succ]
      refine ih (i + 1) _ (by omega) (hs.up (by omega)) ?_
      rw [zk_up_eq, ek, zs_tru, if_neg h37]
    · refine zk_iload_n dX4_truly_40 rfl ?_
      refine zk_iret rfl dX4_truly_41 ?_
      exact ⟨by rw [ek, zs_tru, if_pos h37], hs⟩
set_option maxRecDepth 100000 in
set_option maxHeartbeats 4000000 in
theorem qX4_truly_r {l : Launch} {M : zk_M} {L : zk_L} {n : Nat} (hI : zs_I M n) {r : Int32} (hr : ¬ zs_isr (M 1 2) r) : zk_C l zc 3 muX4_truly [.ref 0, .int r] M L (zq_i (-1) (zs_ref M 1)) := by
  refine zk_ofR (ls := [some (.ref 0), some (.int r), none]) (by decide) rfl (Nat.le_of_ble_eq_true rfl) rfl ?_
  refine zk_aload_n dX4_truly_0 rfl ?_
  refine zk_getRc (q := 1) dX4_truly_1 fl_X4_12 (by decide : 0 < zc.1) rfl rfl rfl ?_
  refine zk_iload_n dX4_truly_4 rfl ?_
  refine zk_cVi (q1_hasRider_f hI hr) dX4_truly_5 mwX0_hasRider ml_X4_85 (by decide : 1 < zc.1) rfl rfl (by decide) rfl (Nat.le_of_ble_eq_true rfl) ?_
  refine zk_if_ne (tgt := 17) dX4_truly_8 (by decide) (fun h8 => absurd (by decide) h8) (fun _ => ?_)
  refine zk_aload_n dX4_truly_11 rfl ?_
  refine zk_iconst dX4_truly_12 zc_m1 ?_
  refine zk_cVi (qrf1) dX4_truly_13 mwX4_refuse ml_X4_63 (by decide : 0 < zc.1) rfl rfl (by decide) rfl (Nat.le_of_ble_eq_true rfl) ?_
  refine zk_iret rfl dX4_truly_16 ?_
  exact ⟨rfl, zs_same.rf⟩
set_option maxRecDepth 100000 in
set_option maxHeartbeats 4000000 in
theorem qX4_truly_t {l : Launch} {M : zk_M} {L : zk_L} {n : Nat} (hI : zs_I M n) {p : Nat} (hp : p < n) : zk_C l zc 3 muX4_truly [.ref 0, .int (nI p)] M L (zq_i (zs_tru 100 0 (M (6 + p))) M) := by
  refine zk_ofR (ls := [some (.ref 0), some (.int (nI p)), none]) (by decide) rfl (Nat.le_of_ble_eq_true rfl) rfl ?_
  refine zk_aload_n dX4_truly_0 rfl ?_
  refine zk_getRc (q := 1) dX4_truly_1 fl_X4_12 (by decide : 0 < zc.1) rfl rfl rfl ?_
  refine zk_iload_n dX4_truly_4 rfl ?_
  refine zk_cVi (q1_hasRider_t hI hp) dX4_truly_5 mwX0_hasRider ml_X4_85 (by decide : 1 < zc.1) rfl rfl (by decide) rfl (Nat.le_of_ble_eq_true rfl) ?_
  refine zk_if_ne (tgt := 17) dX4_truly_8 (by decide) (fun _ => ?_) (fun h8 => absurd h8 (by decide))
  refine zk_aload_n dX4_truly_17 rfl ?_
  refine zk_iload_n dX4_truly_18 rfl ?_
  refine zk_cVv (qX4_thinkOf hI hp) dX4_truly_19 mwX4_thinkOf ml_X4_167 (by decide : 0 < zc.1) rfl rfl (by decide) rfl (Nat.le_of_ble_eq_true rfl) ?_
  refine zk_iconst dX4_truly_22 zc_0 ?_
  refine zk_istore_n dX4_truly_23 zk_S_2 ?_
  refine lX4_truly 100 0 _ rfl (zs_same.rf.up (by omega)) ?_
  rw [zk_up_eq]
  exact zs_tru_ag 100 0 _ _ zs_cp_ag.sm
def zs_tg (M : zk_M) (f : Nat → Int32) : Int32 := M 4 (f 4 * 8 + f 3).toNatClampNeg
def zs_bf (M : zk_M) (b : Int32) (p : Nat) : Nat → Int32 := if nI p = b then va_up (M (6 + p)) 5 0 else M (6 + p)
def zs_twb (M : zk_M) (b : Int32) (t p : Nat) (s : Int32) : Int32 := s + zs_tg M (zs_rides (M 3) (M 4) t (zs_bf M b p))
theorem zs_ok_up {f : Nat → Int32} {k : Nat} {v : Int32} (ok : zs_ok f) (h2 : k ≠ 2) (h3 : k ≠ 3) (h4 : k ≠ 4) : zs_ok (va_up f k v) := ⟨by rw [zk_up_ne h2.symm]; exact ok.1, by rw [zk_up_ne h3.symm]; exact ok.2.1, by rw [zk_up_ne h4.symm]; exact ok.2.2⟩
theorem zs_bf_ok {M : zk_M} {n : Nat} (hI : zs_I M n) {b : Int32} {p : Nat} (hp : p < 6) : zs_ok (zs_bf M b p) := by
  unfold zs_bf
  split
  · exact zs_ok_up (hI.2.2 p hp) (by decide) (by decide) (by decide)
  · exact hI.2.2 p hp
theorem zs_tg_ag {M : zk_M} {f g : Nat → Int32} (h : zs_ag 7 f g) : zs_tg M f = zs_tg M g := by unfold zs_tg; rw [h 4 (by decide), h 3 (by decide)]
/-- rides, and the steps he has left then, in what is thought -/
theorem qb_rides {l : Launch} {M : zk_M} {L : zk_L} {M0 : zk_M} {f : Nat → Int32} {t : Nat} (ht : t < 2 ^ 31) (hs : zs_same M0 M) (hf : zs_ag 7 (M 37) f) (okf : zs_ok f) : zk_C l zc 4 muX1_rideDays [.ref 37, .ref 2, .int (nI t)] M L (fun r M' _ => r = none ∧ zs_same M0 M' ∧ zs_ag 7 (M' 37) (zs_rides (M0 3) (M0 4) t f)) := by
  refine zk_C_mono (q37_rideDays (zs_ok_ag hf.sm okf) ht) ?_
  intro r M' L' q
  obtain ⟨rfl, rfl, rfl⟩ := q
  refine ⟨rfl, hs.up (by omega), ?_⟩
  rw [zk_up_eq, hs 3 (by decide) (by decide), hs 4 (by decide) (by decide)]
  exact zs_rides_ag zs_ag.rf zs_ag.rf t _ _ hf (zs_ok_ag hf.sm okf)
theorem qb_togo {l : Launch} {M : zk_M} {L : zk_L} {M0 : zk_M} {f : Nat → Int32} (hs : zs_same M0 M) (hf : zs_ag 7 (M 37) f) (okf : zs_ok f) : zk_C l zc 1 muX1_stepsToGo [.ref 37, .ref 2] M L (zk_Ei (zs_tg M0 f) M L) := by
  have := q37_togo (l := l) (M := M) (L := L) (zs_ok_ag hf.sm okf)
  rwa [show M 4 (M 37 4 * 8 + M 37 3).toNatClampNeg = zs_tg M0 f by unfold zs_tg; rw [hs 4 (by decide) (by decide), hf 4 (by decide), hf 3 (by decide)]] at this
set_option maxRecDepth 100000 in
set_option maxHeartbeats 4000000 in
theorem lX4_twb {l : Launch} {M0 : zk_M} {n : Nat} (hI : zs_I M0 n) {b : Int32} {t : Nat} (ht : t < 2 ^ 31) {Q : Option Value → zk_M → zk_L → Prop} : ∀ (m p : Nat) (s : Int32) (M : zk_M) (L : zk_L), p + m = n → zs_same M0 M → (∀ M' L', zs_same M0 M' → zk_R l zc 5 muX4_totalWithBare 75 [some (.ref 0), some (.int b), some (.int (nI t)), some (.int (zs_for (zs_twb M0 b t) m p s)), none] [] M' L' Q) → zk_R l zc 5 muX4_totalWithBare 5 [some (.ref 0), some (.int b), some (.int (nI t)), some (.int s), some (.int (nI p))] [] M L Q := by
  have hn6 := hI.1
  intro m
  induction m with
  | zero =>
    intro p s M L hpm hs k
    obtain rfl : p = n := by omega
    refine zk_iload dX4_totalWithBare_5 rfl ?_
    refine zk_aload_n dX4_totalWithBare_7 rfl ?_
    refine zk_getRc (q := 1) dX4_totalWithBare_8 fl_X4_12 (by decide) rfl rfl rfl ?_
    refine zk_getI dX4_totalWithBare_11 fl_X4_181 (by decide) rfl rfl ?_
    rw [(hI.sm hs).2.1]
    refine zk_icmp_ge (tgt := 75) dX4_totalWithBare_14 (by decide) (fun _ => ?_) (fun q => absurd (nI_le (Nat.le_refl _) (by omega)) q)
    refine zk_forget ?_ (k M L hs)
    exact ⟨Or.inr rfl, Or.inr rfl, Or.inr rfl, Or.inr rfl, Or.inl rfl, trivial⟩
  | succ m ih =>
    intro p s M L hpm hs k
    have hp : p < n := by omega
    have hp6 : p < 6 := by omega
    have e6 : M (6 + p) = M0 (6 + p) := hs (6 + p) (by omega) (by omega)
    have JJ : ∀ (MX : zk_M) (LX : zk_L), zs_same M0 MX → zs_ag 7 (MX 37) (zs_bf M0 b p) → zk_R l zc 5 muX4_totalWithBare 37 [some (.ref 0), some (.int b), some (.int (nI t)), some (.int s), some (.int (nI p))] [] MX LX Q := by
      intro MX LX hsX hfX
      refine zk_aload_n dX4_totalWithBare_37 rfl ?_
      refine zk_getRc (q := 37) dX4_totalWithBare_38 fl_X4_32 (by decide : 0 < zc.1) rfl rfl rfl ?_
      refine zk_aload_n dX4_totalWithBare_41 rfl ?_
      refine zk_getRc (q := 1) dX4_totalWithBare_42 fl_X4_12 (by decide : 0 < zc.1) rfl rfl rfl ?_
      refine zk_getRc (q := 2) dX4_totalWithBare_45 fl_X4_122 (by decide : 1 < zc.1) rfl rfl rfl ?_
      refine zk_iload_n dX4_totalWithBare_48 rfl ?_
      refine zk_callV (qb_rides (f := zs_bf M0 b p) ht hsX hfX (zs_bf_ok hI hp6)) dX4_totalWithBare_49 mwX1_rideDays ml_X4_171 (by decide : 37 < zc.1) rfl rfl (by decide) rfl (Nat.le_of_ble_eq_true rfl) (fun r2 M2 L2 h2 => ?_)
      obtain ⟨rfl, hs2, hf2⟩ := h2
      refine zk_iload_n dX4_totalWithBare_52 rfl ?_
      refine zk_aload_n dX4_totalWithBare_53 rfl ?_
      refine zk_getRc (q := 37) dX4_totalWithBare_54 fl_X4_32 (by decide : 0 < zc.1) rfl rfl rfl ?_
      refine zk_aload_n dX4_totalWithBare_57 rfl ?_
      refine zk_getRc (q := 1) dX4_totalWithBare_58 fl_X4_12 (by decide : 0 < zc.1) rfl rfl rfl ?_
      refine zk_getRc (q := 2) dX4_totalWithBare_61 fl_X4_122 (by decide : 1 < zc.1) rfl rfl rfl ?_
      refine zk_cVi (qb_togo hs2 hf2 (zs_rides_ok _ _ (zs_bf_ok hI hp6))) dX4_totalWithBare_64 mwX1_stepsToGo ml_X4_263 (by decide : 37 < zc.1) rfl rfl (by decide) rfl (Nat.le_of_ble_eq_true rfl) ?_
      refine zk_iadd dX4_totalWithBare_67 ?_
      refine zk_istore_n dX4_totalWithBare_68 zk_S_3 ?_
      refine zk_iinc dX4_totalWithBare_69 zc_1 rfl zk_S_4 ?_
      refine zk_goto (tgt := 5) dX4_totalWithBare_72 (by decide) ?_
      rw [← nI_succ]
      exact ih (p + 1) _ M2 L2 (by omega) hs2 k
    refine zk_iload dX4_totalWithBare_5 rfl ?_
    refine zk_aload_n dX4_totalWithBare_7 rfl ?_
    refine zk_getRc (q := 1) dX4_totalWithBare_8 fl_X4_12 (by decide : 0 < zc.1) rfl rfl rfl ?_
    refine zk_getI dX4_totalWithBare_11 fl_X4_181 (by decide : 1 < zc.1) rfl rfl ?_
    rw [(hI.sm hs).2.1]
    refine zk_icmp_ge (tgt := 75) dX4_totalWithBare_14 (by decide) (fun h14 => absurd h14 (nI_ge hp (by omega))) (fun _ => ?_)
    refine zk_aload_n dX4_totalWithBare_17 rfl ?_
    refine zk_iload dX4_totalWithBare_18 rfl ?_
    refine zk_cVv (qX4_thinkOf (hI.sm hs) hp) dX4_totalWithBare_20 mwX4_thinkOf ml_X4_167 (by decide : 0 < zc.1) rfl rfl (by decide) rfl (Nat.le_of_ble_eq_true rfl) ?_
    refine zk_iload dX4_totalWithBare_23 rfl ?_
    refine zk_iload_n dX4_totalWithBare_25 rfl ?_
    refine zk_icmp_ne (tgt := 37) dX4_totalWithBare_26 (by decide) (fun h26 => ?_) (fun h26 => ?_)
    · first
        | exact JJ _ L ((hs.up (by omega)).up (by omega)) (by rw [zk_up_eq, zk_up_eq, e6, zs_bf, if_pos h26]; exact zs_ag.up zs_cp_ag)
        | exact JJ _ L (hs.up (by omega)) (by rw [zk_up_eq, e6, zs_bf, if_neg h26]; exact zs_cp_ag)
    · refine zk_aload_n dX4_totalWithBare_29 rfl ?_
      refine zk_getRc (q := 37) dX4_totalWithBare_30 fl_X4_32 (by decide : 0 < zc.1) rfl rfl rfl ?_
      refine zk_iconst dX4_totalWithBare_33 zc_0 ?_
      refine zk_putG dX4_totalWithBare_34 fl_X4_109 ft_1_5 rfl rfl (by decide : 37 < zc.1) rfl rfl ?_
      first
        | exact JJ _ L ((hs.up (by omega)).up (by omega)) (by rw [zk_up_eq, zk_up_eq, e6, zs_bf, if_pos h26]; exact zs_ag.up zs_cp_ag)
        | exact JJ _ L (hs.up (by omega)) (by rw [zk_up_eq, e6, zs_bf, if_neg h26]; exact zs_cp_ag)
set_option maxRecDepth 100000 in
set_option maxHeartbeats 4000000 in
theorem qX4_totalWithBare {l : Launch} {M : zk_M} {L : zk_L} {M0 : zk_M} {n : Nat} (hI : zs_I M0 n) (hs : zs_same M0 M) {b : Int32} {t : Nat} (ht : t < 2 ^ 31) : zk_C l zc 5 muX4_totalWithBare [.ref 0, .int b, .int (nI t)] M L (zq_i (zs_for (zs_twb M0 b t) n 0 0) M0) := by
  refine zk_ofR (ls := [some (.ref 0), some (.int b), some (.int (nI t)), none, none]) (by decide) rfl (Nat.le_of_ble_eq_true rfl) rfl ?_
  refine zk_iconst dX4_totalWithBare_0 zc_0 ?_
  refine zk_istore_n dX4_totalWithBare_1 zk_S_3 ?_
  refine zk_iconst dX4_totalWithBare_2 zc_0 ?_
  refine zk_istore dX4_totalWithBare_3 zk_S_4 ?_
  refine lX4_twb hI ht n 0 0 M L (by omega) hs (fun M' L' h' => ?_)
  refine zk_iload_n dX4_totalWithBare_75 rfl ?_
  refine zk_iret rfl dX4_totalWithBare_76 ?_
  exact ⟨rfl, h'⟩
set_option maxRecDepth 100000 in
set_option maxHeartbeats 4000000 in
theorem qX4_total_r4 {l : Launch} {M : zk_M} {L : zk_L} {t : Int32} (ht : t < 0) : zk_C l zc 6 muX4_total [.ref 0, .int t] M L (zq_i (-4) (zs_ref M 4)) := by
  refine zk_ofR (ls := [some (.ref 0), some (.int t), none]) (by decide) rfl (Nat.le_of_ble_eq_true rfl) rfl ?_
  refine zk_iload_n dX4_total_0 rfl ?_
  refine zk_iconst dX4_total_1 zc_0 ?_
  refine zk_bipush dX4_total_2 zb_60 ?_
  refine zk_cSi (qX4_refusalOfNumber) dX4_total_4 miX4_refusalOfNumber ml_X4_163 stX4_refusalOfNumber rfl (by decide) rfl (Nat.le_of_ble_eq_true rfl) ?_
  rw [if_pos ht]
  refine zk_istore_n dX4_total_7 zk_S_2 ?_
  refine zk_iload_n dX4_total_8 rfl ?_
  refine zk_if_eq (tgt := 18) dX4_total_9 (by decide) (fun h9 => absurd h9 (by decide)) (fun _ => ?_)
  refine zk_aload_n dX4_total_12 rfl ?_
  refine zk_iload_n dX4_total_13 rfl ?_
  refine zk_cVi (qrf4) dX4_total_14 mwX4_refuse ml_X4_63 (by decide : 0 < zc.1) rfl rfl (by decide) rfl (Nat.le_of_ble_eq_true rfl) ?_
  refine zk_iret rfl dX4_total_17 ?_
  exact ⟨rfl, zs_same.rf⟩
set_option maxRecDepth 100000 in
set_option maxHeartbeats 4000000 in
theorem qX4_total_r6 {l : Launch} {M : zk_M} {L : zk_L} {t : Int32} (ht : ¬ t < 0) (h6 : 60 < t) : zk_C l zc 6 muX4_total [.ref 0, .int t] M L (zq_i (-6) (zs_ref M 6)) := by
  refine zk_ofR (ls := [some (.ref 0), some (.int t), none]) (by decide) rfl (Nat.le_of_ble_eq_true rfl) rfl ?_
  refine zk_iload_n dX4_total_0 rfl ?_
  refine zk_iconst dX4_total_1 zc_0 ?_
  refine zk_bipush dX4_total_2 zb_60 ?_
  refine zk_cSi (qX4_refusalOfNumber) dX4_total_4 miX4_refusalOfNumber ml_X4_163 stX4_refusalOfNumber rfl (by decide) rfl (Nat.le_of_ble_eq_true rfl) ?_
  rw [if_neg ht, if_pos h6]
  refine zk_istore_n dX4_total_7 zk_S_2 ?_
  refine zk_iload_n dX4_total_8 rfl ?_
  refine zk_if_eq (tgt := 18) dX4_total_9 (by decide) (fun h9 => absurd h9 (by decide)) (fun _ => ?_)
  refine zk_aload_n dX4_total_12 rfl ?_
  refine zk_iload_n dX4_total_13 rfl ?_
  refine zk_cVi (qrf6) dX4_total_14 mwX4_refuse ml_X4_63 (by decide : 0 < zc.1) rfl rfl (by decide) rfl (Nat.le_of_ble_eq_true rfl) ?_
  refine zk_iret rfl dX4_total_17 ?_
  exact ⟨rfl, zs_same.rf⟩
set_option maxRecDepth 100000 in
set_option maxHeartbeats 4000000 in
theorem qX4_total_t {l : Launch} {M : zk_M} {L : zk_L} {n : Nat} (hI : zs_I M n) {t : Nat} (ht : t ≤ 60) : zk_C l zc 6 muX4_total [.ref 0, .int (nI t)] M L (zq_i (zs_for (zs_twb M (-9) t) n 0 0) M) := by
  refine zk_ofR (ls := [some (.ref 0), some (.int (nI t)), none]) (by decide) rfl (Nat.le_of_ble_eq_true rfl) rfl ?_
  refine zk_iload_n dX4_total_0 rfl ?_
  refine zk_iconst dX4_total_1 zc_0 ?_
  refine zk_bipush dX4_total_2 zb_60 ?_
  refine zk_cSi (qX4_refusalOfNumber) dX4_total_4 miX4_refusalOfNumber ml_X4_163 stX4_refusalOfNumber rfl (by decide) rfl (Nat.le_of_ble_eq_true rfl) ?_
  rw [if_neg (nI_pos (by omega)), if_neg (show ¬ (60 : Int32) < nI t from nI_nlt (a := 60) ht (by decide))]
  refine zk_istore_n dX4_total_7 zk_S_2 ?_
  refine zk_iload_n dX4_total_8 rfl ?_
  refine zk_if_eq (tgt := 18) dX4_total_9 (by decide) (fun _ => ?_) (fun h9 => absurd (rfl) h9)
  refine zk_aload_n dX4_total_18 rfl ?_
  refine zk_bipush dX4_total_19 zb_m9 ?_
  refine zk_iload_n dX4_total_21 rfl ?_
  refine zk_cVqi (qX4_totalWithBare hI zs_same.rf (by omega)) dX4_total_22 mwX4_totalWithBare ml_X4_225 (by decide : 0 < zc.1) rfl rfl (by decide) rfl (Nat.le_of_ble_eq_true rfl) (fun M1 L1 hs1 => ?_)
  refine zk_iret rfl dX4_total_25 ?_
  exact ⟨rfl, hs1⟩
def zs_brf (M : zk_M) (n t p : Nat) (s : Int32 × Int32) : Int32 × Int32 := if zs_for (zs_twb M (nI p) t) n 0 0 < s.2 then (nI p, zs_for (zs_twb M (nI p) t) n 0 0) else s
set_option maxRecDepth 100000 in
set_option maxHeartbeats 4000000 in
theorem lX4_bare {l : Launch} {M0 : zk_M} {n : Nat} (hI : zs_I M0 n) {t : Nat} (ht : t < 2 ^ 31) {Q : Option Value → zk_M → zk_L → Prop} : ∀ (m p : Nat) (b s : Int32) (M : zk_M) (L : zk_L), p + m = n → zs_same M0 M → (∀ M' L', zs_same M0 M' → zk_R l zc 6 muX4_bare 74 [some (.ref 0), some (.int (nI t)), none, some (.int (zs_for (zs_brf M0 n t) m p (b, s)).1), none, none, none] [] M' L' Q) → zk_R l zc 6 muX4_bare 33 [some (.ref 0), some (.int (nI t)), none, some (.int b), some (.int s), some (.int (nI p)), none] [] M L Q := by
  have hn6 := hI.1
  intro m
  induction m with
  | zero =>
    intro p b s M L hpm hs k
    obtain rfl : p = n := by omega
    refine zk_iload dX4_bare_33 rfl ?_
    refine zk_aload_n dX4_bare_35 rfl ?_
    refine zk_getRc (q := 1) dX4_bare_36 fl_X4_12 (by decide) rfl rfl rfl ?_
    refine zk_getI dX4_bare_39 fl_X4_181 (by decide) rfl rfl ?_
    rw [(hI.sm hs).2.1]
    refine zk_icmp_ge (tgt := 74) dX4_bare_42 (by decide) (fun _ => ?_) (fun q => absurd (nI_le (Nat.le_refl _) (by omega)) q)
    refine zk_forget ?_ (k M L hs)
    exact ⟨Or.inr rfl, Or.inr rfl, Or.inl rfl, Or.inr rfl, Or.inl rfl, Or.inl rfl, Or.inl rfl, trivial⟩
  | succ m ih =>
    intro p b s M L hpm hs k
    have hp : p < n := by omega
    refine zk_iload dX4_bare_33 rfl ?_
    refine zk_aload_n dX4_bare_35 rfl ?_
    refine zk_getRc (q := 1) dX4_bare_36 fl_X4_12 (by decide : 0 < zc.1) rfl rfl rfl ?_
    refine zk_getI dX4_bare_39 fl_X4_181 (by decide : 1 < zc.1) rfl rfl ?_
    rw [(hI.sm hs).2.1]
    refine zk_icmp_ge (tgt := 74) dX4_bare_42 (by decide) (fun h42 => absurd h42 (nI_ge hp (by omega))) (fun _ => ?_)
    refine zk_aload_n dX4_bare_45 rfl ?_
    refine zk_iload dX4_bare_46 rfl ?_
    refine zk_iload_n dX4_bare_48 rfl ?_
    refine zk_cVqi (qX4_totalWithBare hI hs ht) dX4_bare_49 mwX4_totalWithBare ml_X4_225 (by decide : 0 < zc.1) rfl rfl (by decide) rfl (Nat.le_of_ble_eq_true rfl) (fun M1 L1 hs1 => ?_)
    refine zk_istore dX4_bare_52 zk_S_6 ?_
    refine zk_iload dX4_bare_54 rfl ?_
    refine zk_iload dX4_bare_56 rfl ?_
    refine zk_icmp_ge (tgt := 68) dX4_bare_58 (by decide) (fun h58 => ?_) (fun h58 => ?_)
    · refine zk_iinc dX4_bare_68 zc_1 rfl zk_S_5 ?_
      refine zk_goto (tgt := 33) dX4_bare_71 (by decide) ?_
      rw [← nI_succ]
      first
        | exact zk_forget (ls' := [some (.ref 0), some (.int (nI t)), none, some (.int (nI p)), some (.int (zs_for (zs_twb M0 (nI p) t) n 0 0)), some (.int (nI (p + 1))), none]) ⟨Or.inr rfl, Or.inr rfl, Or.inl rfl, Or.inr rfl, Or.inr rfl, Or.inr rfl, Or.inl rfl, trivial⟩ (ih (p + 1) (nI p) (zs_for (zs_twb M0 (nI p) t) n 0 0) M1 L1 (by omega) hs1 (fun M' L' h' => by
            have e : zs_brf M0 n t p (b, s) = (nI p, (zs_for (zs_twb M0 (nI p) t) n 0 0)) := if_pos (Int32.not_le.mp h58)
            have := k M' L' h'
            rw [zs_for, e] at this
            exact this))
        | exact zk_forget (ls' := [some (.ref 0), some (.int (nI t)), none, some (.int b), some (.int s), some (.int (nI (p + 1))), none]) ⟨Or.inr rfl, Or.inr rfl, Or.inl rfl, Or.inr rfl, Or.inr rfl, Or.inr rfl, Or.inl rfl, trivial⟩ (ih (p + 1) b s M1 L1 (by omega) hs1 (fun M' L' h' => by
            have e : zs_brf M0 n t p (b, s) = (b, s) := if_neg (Int32.not_lt.mpr h58)
            have := k M' L' h'
            rw [zs_for, e] at this
            exact this))
    · refine zk_iload dX4_bare_61 rfl ?_
      refine zk_istore dX4_bare_63 zk_S_4 ?_
      refine zk_iload dX4_bare_65 rfl ?_
      refine zk_istore_n dX4_bare_67 zk_S_3 ?_
      refine zk_iinc dX4_bare_68 zc_1 rfl zk_S_5 ?_
      refine zk_goto (tgt := 33) dX4_bare_71 (by decide) ?_
      rw [← nI_succ]
      first
        | exact zk_forget (ls' := [some (.ref 0), some (.int (nI t)), none, some (.int (nI p)), some (.int (zs_for (zs_twb M0 (nI p) t) n 0 0)), some (.int (nI (p + 1))), none]) ⟨Or.inr rfl, Or.inr rfl, Or.inl rfl, Or.inr rfl, Or.inr rfl, Or.inr rfl, Or.inl rfl, trivial⟩ (ih (p + 1) (nI p) (zs_for (zs_twb M0 (nI p) t) n 0 0) M1 L1 (by omega) hs1 (fun M' L' h' => by
            have e : zs_brf M0 n t p (b, s) = (nI p, (zs_for (zs_twb M0 (nI p) t) n 0 0)) := if_pos (Int32.not_le.mp h58)
            have := k M' L' h'
            rw [zs_for, e] at this
            exact this))
        | exact zk_forget (ls' := [some (.ref 0), some (.int (nI t)), none, some (.int b), some (.int s), some (.int (nI (p + 1))), none]) ⟨Or.inr rfl, Or.inr rfl, Or.inl rfl, Or.inr rfl, Or.inr rfl, Or.inr rfl, Or.inl rfl, trivial⟩ (ih (p + 1) b s M1 L1 (by omega) hs1 (fun M' L' h' => by
            have e : zs_brf M0 n t p (b, s) = (b, s) := if_neg (Int32.not_lt.mpr h58)
            have := k M' L' h'
            rw [zs_for, e] at this
            exact this))
set_option maxRecDepth 100000 in
set_option maxHeartbeats 4000000 in
theorem qX4_bare_r4 {l : Launch} {M : zk_M} {L : zk_L} {t : Int32} (ht : t < 0) : zk_C l zc 6 muX4_bare [.ref 0, .int t] M L (zq_i (-4) (zs_ref M 4)) := by
  refine zk_ofR (ls := [some (.ref 0), some (.int t), none, none, none, none, none]) (by decide) rfl (Nat.le_of_ble_eq_true rfl) rfl ?_
  refine zk_iload_n dX4_bare_0 rfl ?_
  refine zk_iconst dX4_bare_1 zc_0 ?_
  refine zk_bipush dX4_bare_2 zb_30 ?_
  refine zk_cSi (qX4_refusalOfNumber) dX4_bare_4 miX4_refusalOfNumber ml_X4_163 stX4_refusalOfNumber rfl (by decide) rfl (Nat.le_of_ble_eq_true rfl) ?_
  rw [if_pos ht]
  refine zk_istore_n dX4_bare_7 zk_S_2 ?_
  refine zk_iload_n dX4_bare_8 rfl ?_
  refine zk_if_eq (tgt := 18) dX4_bare_9 (by decide) (fun h9 => absurd h9 (by decide)) (fun _ => ?_)
  refine zk_aload_n dX4_bare_12 rfl ?_
  refine zk_iload_n dX4_bare_13 rfl ?_
  refine zk_cVi (qrf4) dX4_bare_14 mwX4_refuse ml_X4_63 (by decide : 0 < zc.1) rfl rfl (by decide) rfl (Nat.le_of_ble_eq_true rfl) ?_
  refine zk_iret rfl dX4_bare_17 ?_
  exact ⟨rfl, zs_same.rf⟩
set_option maxRecDepth 100000 in
set_option maxHeartbeats 4000000 in
theorem qX4_bare_r6 {l : Launch} {M : zk_M} {L : zk_L} {t : Int32} (ht : ¬ t < 0) (h6 : 30 < t) : zk_C l zc 6 muX4_bare [.ref 0, .int t] M L (zq_i (-6) (zs_ref M 6)) := by
  refine zk_ofR (ls := [some (.ref 0), some (.int t), none, none, none, none, none]) (by decide) rfl (Nat.le_of_ble_eq_true rfl) rfl ?_
  refine zk_iload_n dX4_bare_0 rfl ?_
  refine zk_iconst dX4_bare_1 zc_0 ?_
  refine zk_bipush dX4_bare_2 zb_30 ?_
  refine zk_cSi (qX4_refusalOfNumber) dX4_bare_4 miX4_refusalOfNumber ml_X4_163 stX4_refusalOfNumber rfl (by decide) rfl (Nat.le_of_ble_eq_true rfl) ?_
  rw [if_neg ht, if_pos h6]
  refine zk_istore_n dX4_bare_7 zk_S_2 ?_
  refine zk_iload_n dX4_bare_8 rfl ?_
  refine zk_if_eq (tgt := 18) dX4_bare_9 (by decide) (fun h9 => absurd h9 (by decide)) (fun _ => ?_)
  refine zk_aload_n dX4_bare_12 rfl ?_
  refine zk_iload_n dX4_bare_13 rfl ?_
  refine zk_cVi (qrf6) dX4_bare_14 mwX4_refuse ml_X4_63 (by decide : 0 < zc.1) rfl rfl (by decide) rfl (Nat.le_of_ble_eq_true rfl) ?_
  refine zk_iret rfl dX4_bare_17 ?_
  exact ⟨rfl, zs_same.rf⟩
set_option maxRecDepth 100000 in
set_option maxHeartbeats 4000000 in
theorem qX4_bare_t {l : Launch} {M : zk_M} {L : zk_L} {n : Nat} (hI : zs_I M n) {t : Nat} (ht : t ≤ 30) : zk_C l zc 6 muX4_bare [.ref 0, .int (nI t)] M L (zq_i (zs_for (zs_brf M n t) n 0 (-9, zs_for (zs_twb M (-9) t) n 0 0)).1 M) := by
  refine zk_ofR (ls := [some (.ref 0), some (.int (nI t)), none, none, none, none, none]) (by decide) rfl (Nat.le_of_ble_eq_true rfl) rfl ?_
  refine zk_iload_n dX4_bare_0 rfl ?_
  refine zk_iconst dX4_bare_1 zc_0 ?_
  refine zk_bipush dX4_bare_2 zb_30 ?_
  refine zk_cSi (qX4_refusalOfNumber) dX4_bare_4 miX4_refusalOfNumber ml_X4_163 stX4_refusalOfNumber rfl (by decide) rfl (Nat.le_of_ble_eq_true rfl) ?_
  rw [if_neg (nI_pos (by omega)), if_neg (show ¬ (30 : Int32) < nI t from nI_nlt (a := 30) ht (by decide))]
  refine zk_istore_n dX4_bare_7 zk_S_2 ?_
  refine zk_iload_n dX4_bare_8 rfl ?_
  refine zk_if_eq (tgt := 18) dX4_bare_9 (by decide) (fun _ => ?_) (fun h9 => absurd (rfl) h9)
  refine zk_bipush dX4_bare_18 zb_m9 ?_
  refine zk_istore_n dX4_bare_20 zk_S_3 ?_
  refine zk_aload_n dX4_bare_21 rfl ?_
  refine zk_bipush dX4_bare_22 zb_m9 ?_
  refine zk_iload_n dX4_bare_24 rfl ?_
  refine zk_cVqi (qX4_totalWithBare hI zs_same.rf (by omega)) dX4_bare_25 mwX4_totalWithBare ml_X4_225 (by decide : 0 < zc.1) rfl rfl (by decide) rfl (Nat.le_of_ble_eq_true rfl) (fun M1 L1 hs1 => ?_)
  refine zk_istore dX4_bare_28 zk_S_4 ?_
  refine zk_iconst dX4_bare_30 zc_0 ?_
  refine zk_istore dX4_bare_31 zk_S_5 ?_
  refine zk_forget (ls' := [some (.ref 0), some (.int (nI t)), none, some (.int (-9)), some (.int (zs_for (zs_twb M (-9) t) n 0 0)), some (.int (nI 0)), none]) ⟨Or.inr rfl, Or.inr rfl, Or.inl rfl, Or.inr rfl, Or.inr rfl, Or.inr rfl, Or.inl rfl, trivial⟩ (lX4_bare hI (by omega) n 0 (-9) _ M1 L1 (by omega) hs1 (fun M' L' h' => ?_))
  refine zk_iload_n dX4_bare_74 rfl ?_
  refine zk_iret rfl dX4_bare_75 ?_
  exact ⟨rfl, h'⟩
