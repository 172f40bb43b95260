theorem zb_m3 : (Int8.ofInt (-3)).toInt32 = (-3 : Int32) := by decide +kernel
def zs_mfr (J T R : Nat → Int32) : Nat → Nat → (Nat → Int32) → Bool
  | 0, _, _ => true
  | m + 1, i, f => if R i = f 4 then zs_mfr J T R m (i + 1) (zs_ride J T f) else false
theorem zs_mfr_ag {J J' T T' R : Nat → Int32} (hJ : zs_ag 8 J J') (hT : zs_ag 64 T T') : ∀ (m i : Nat) (f g : Nat → Int32), zs_ag 7 f g → zs_ok f → zs_mfr J T R m i f = zs_mfr J' T' R m i g
  | 0, _, _, _, _, _ => rfl
  | m + 1, i, f, g, h, ok => by
    unfold zs_mfr
    rw [h 4 (by decide), zs_mfr_ag hJ hT m (i + 1) _ _ (zs_ride_ag hJ hT h ok) (zs_ride_ok ok)]
def zs_bi (b : Bool) : Int32 := if b = true then 1 else 0
theorem zs_K.sm {M M' : zk_M} {k : Nat} (h : zs_K M k) (hs : zs_same M M') : zs_K M' k := ⟨h.1, by rw [hs 0 (by decide) (by decide)]; exact h.2⟩
set_option maxRecDepth 100000 in
set_option maxHeartbeats 4000000 in
theorem lX4_mfr {l : Launch} {L : zk_L} {M0 : zk_M} {kk : Nat} (hK : zs_K M0 kk) {b : Bool} : ∀ (m i : Nat) (M : zk_M), i + m = kk → zs_same M0 M → zs_ok (M 37) → b = zs_mfr (M0 3) (M0 4) (M0 41) m i (M 37) → zk_R l zc 4 muX4_mindFollowsRow 2 [some (.ref 0), some (.int (nI i))] [] M L (zq_i (zs_bi b) M0) := by
  have hk16 := hK.1
  intro m
  induction m with
  | zero =>
    intro i M hi hs ok ek
    obtain rfl : i = kk := by omega
    refine zk_iload_n dX4_mindFollowsRow_2 rfl ?_
    refine zk_aload_n dX4_mindFollowsRow_3 rfl ?_
    refine zk_getI dX4_mindFollowsRow_4 fl_X4_251 (by decide) rfl rfl ?_
    rw [(hK.sm hs).2]
    refine zk_icmp_ge (tgt := 48) dX4_mindFollowsRow_7 (by decide) (fun _ => ?_) (fun q => absurd (nI_le (Nat.le_refl _) (by omega)) q)
    refine zk_iconst dX4_mindFollowsRow_48 zc_1 ?_
    refine zk_zret rfl (by decide) dX4_mindFollowsRow_49 ?_
    exact ⟨by rw [ek]; rfl, hs⟩
  | succ m ih =>
    intro i M hi hs ok ek
    have hik : i < kk := by omega
    refine zk_iload_n dX4_mindFollowsRow_2 rfl ?_
    refine zk_aload_n dX4_mindFollowsRow_3 rfl ?_
    refine zk_getI dX4_mindFollowsRow_4 fl_X4_251 (by decide : 0 < zc.1) rfl rfl ?_
    rw [(hK.sm hs).2]
    refine zk_icmp_ge (tgt := 48) dX4_mindFollowsRow_7 (by decide) (fun h7 => absurd h7 (nI_ge hik (by omega))) (fun _ => ?_)
    refine zk_aload_n dX4_mindFollowsRow_10 rfl ?_
    refine zk_getRc (q := 41) dX4_mindFollowsRow_11 fl_X4_46 (by decide : 0 < zc.1) rfl rfl rfl ?_
    refine zk_iload_n dX4_mindFollowsRow_14 rfl ?_
    refine zk_iald (j := i) dX4_mindFollowsRow_15 (by decide : 41 < zc.1) rfl (zs_in rfl (vp_in_nI (show i < 16 by omega) (by decide))) (nI_clamp (by omega)) ?_
    refine zk_aload_n dX4_mindFollowsRow_16 rfl ?_
    refine zk_getRc (q := 37) dX4_mindFollowsRow_17 fl_X4_32 (by decide : 0 < zc.1) rfl rfl rfl ?_
    refine zk_getI dX4_mindFollowsRow_20 fl_X4_106 (by decide : 37 < zc.1) rfl rfl ?_
    refine zk_icmp_eq (tgt := 28) dX4_mindFollowsRow_23 (by decide) (fun h23 => ?_) (fun h23 => ?_)
    · refine zk_aload_n dX4_mindFollowsRow_28 rfl ?_
      refine zk_getRc (q := 37) dX4_mindFollowsRow_29 fl_X4_32 (by decide : 0 < zc.1) rfl rfl rfl ?_
      refine zk_aload_n dX4_mindFollowsRow_32 rfl ?_
      refine zk_getRc (q := 1) dX4_mindFollowsRow_33 fl_X4_12 (by decide : 0 < zc.1) rfl rfl rfl ?_
      refine zk_getRc (q := 2) dX4_mindFollowsRow_36 fl_X4_122 (by decide : 1 < zc.1) rfl rfl rfl ?_
      refine zk_cVv (q37_rideDay ok) dX4_mindFollowsRow_39 mwX1_rideDay ml_X4_184 (by decide : 37 < zc.1) rfl rfl (by decide) rfl (Nat.le_of_ble_eq_true rfl) ?_
      refine zk_iinc dX4_mindFollowsRow_42 zc_1 rfl zk_S_1 ?_
      refine zk_goto (tgt := 2) dX4_mindFollowsRow_45 (by decide) ?_
      rw [← nI_succ]
      refine ih (i + 1) _ (by omega) (hs.up (by omega)) (by rw [zk_up_eq]; exact zs_ride_ok ok) ?_
      rw [ek, zs_mfr, if_pos (by rw [← hs 41 (by decide) (by decide)]; exact h23), zk_up_eq, hs 3 (by decide) (by decide), hs 4 (by decide) (by decide)]
    · refine zk_iconst dX4_mindFollowsRow_26 zc_0 ?_
      refine zk_zret rfl (by decide) dX4_mindFollowsRow_27 ?_
      exact ⟨by rw [ek, zs_mfr, if_neg (by rw [← hs 41 (by decide) (by decide)]; exact h23)]; rfl, hs⟩
set_option maxRecDepth 100000 in
set_option maxHeartbeats 4000000 in
theorem qX4_mindFollowsRow {l : Launch} {M : zk_M} {L : zk_L} {M0 : zk_M} {kk : Nat} (hK : zs_K M0 kk) (hs : zs_same M0 M) {f : Nat → Int32} (hf : zs_ag 7 (M 37) f) (okf : zs_ok f) : zk_C l zc 4 muX4_mindFollowsRow [.ref 0] M L (zq_i (if zs_mfr (M0 3) (M0 4) (M0 41) kk 0 f = true then 1 else 0) M0) := by
  refine zk_ofR (ls := [some (.ref 0), none]) (by decide) rfl (Nat.le_of_ble_eq_true rfl) rfl ?_
  refine zk_iconst dX4_mindFollowsRow_0 zc_0 ?_
  refine zk_istore_n dX4_mindFollowsRow_1 zk_S_1 ?_
  exact lX4_mfr hK kk 0 M (by omega) hs (zs_ok_ag hf.sm okf) (zs_mfr_ag zs_ag.rf zs_ag.rf kk 0 _ _ hf.sm okf)
def zs_wwf (M : zk_M) (kk p k i : Nat) (x : Int32) : Int32 := if zs_mfr (M 3) (M 4) (M 41) kk 0 (va_up (M (6 + p)) k (nI i)) = true then x ||| 1 <<< (nI i &&& 31) else x
set_option maxRecDepth 100000 in
set_option maxHeartbeats 4000000 in
theorem lX4_wwg {l : Launch} {M0 : zk_M} {n : Nat} (hI : zs_I M0 n) {kk : Nat} (hK : zs_K M0 kk) {p : Nat} (hp : p < n) {Q : Option Value → zk_M → zk_L → Prop} : ∀ (m i : Nat) (x : Int32) (M : zk_M) (L : zk_L), i + m = 8 → zs_same M0 M → (∀ M' L', zs_same M0 M' → zk_R l zc 5 muX4_whatWanted 108 [some (.ref 0), some (.int (nI p)), some (.int 0), some (.int (nI 8)), some (.int (zs_for (zs_wwf M0 kk p 2) m i x)), none] [] M' L' Q) → zk_R l zc 5 muX4_whatWanted 50 [some (.ref 0), some (.int (nI p)), some (.int 0), some (.int (nI 8)), some (.int x), some (.int (nI i))] [] M L Q := by
  have hp6 : p < 6 := Nat.lt_of_lt_of_le hp hI.1
  intro m
  induction m with
  | zero =>
    intro i x M L hi hs k
    obtain rfl : i = 8 := by omega
    refine zk_iload dX4_whatWanted_50 rfl ?_
    refine zk_iload_n dX4_whatWanted_52 rfl ?_
    refine zk_icmp_ge (tgt := 108) dX4_whatWanted_53 (by decide) (fun _ => ?_) (fun q => absurd (by decide) q)
    refine zk_forget ?_ (k M L hs)
    exact ⟨Or.inr rfl, Or.inr rfl, Or.inr rfl, Or.inr rfl, Or.inr rfl, Or.inl rfl, trivial⟩
  | succ m ih =>
    intro i x M L hi hs k
    have hi : i < 8 := by omega
    have e6 : M (6 + p) = M0 (6 + p) := hs (6 + p) (by omega) (by omega)
    have ok6 : zs_ok (M0 (6 + p)) := hI.2.2 p hp6
    refine zk_iload dX4_whatWanted_50 rfl ?_
    refine zk_iload_n dX4_whatWanted_52 rfl ?_
    refine zk_icmp_ge (tgt := 108) dX4_whatWanted_53 (by decide) (fun h53 => absurd h53 (nI_ge (b := 8) hi (by decide))) (fun _ => ?_)
    refine zk_aload_n dX4_whatWanted_56 rfl ?_
    refine zk_iload_n dX4_whatWanted_57 rfl ?_
    refine zk_cVv (qX4_thinkOf (hI.sm hs) hp) dX4_whatWanted_58 mwX4_thinkOf ml_X4_167 (by decide : 0 < zc.1) rfl rfl (by decide) rfl (Nat.le_of_ble_eq_true rfl) ?_
    refine zk_iload_n dX4_whatWanted_61 rfl ?_
    refine zk_if_ne (tgt := 77) dX4_whatWanted_62 (by decide) (fun h62 => absurd (rfl) h62) (fun _ => ?_)
    refine zk_aload_n dX4_whatWanted_65 rfl ?_
    refine zk_getRc (q := 37) dX4_whatWanted_66 fl_X4_32 (by decide : 0 < zc.1) rfl rfl rfl ?_
    refine zk_iload dX4_whatWanted_69 rfl ?_
    refine zk_putG dX4_whatWanted_71 fl_X4_100 ft_1_2 rfl rfl (by decide : 37 < zc.1) rfl rfl ?_
    refine zk_goto (tgt := 86) dX4_whatWanted_74 (by decide) ?_
    refine zk_aload_n dX4_whatWanted_86 rfl ?_
    refine zk_cVqi (qX4_mindFollowsRow hK (f := va_up (M0 (6 + p)) 2 (nI i)) ((hs.up (by omega)).up (by omega)) (by rw [zk_up_eq, zk_up_eq, e6]; exact zs_ag.up zs_cp_ag) (⟨by rw [zk_up_eq]; exact zs_p_nI (by omega), by rw [zk_up_ne (by decide)]; exact ok6.2.1, by rw [zk_up_ne (by decide)]; exact ok6.2.2⟩)) dX4_whatWanted_87 mwX4_mindFollowsRow ml_X4_248 (by decide : 0 < zc.1) rfl rfl (by decide) rfl (Nat.le_of_ble_eq_true rfl) (fun M1 L1 hs1 => ?_)
    refine zk_if_eq (tgt := 102) dX4_whatWanted_90 (by decide) (fun h90 => ?_) (fun h90 => ?_)
    · have hb := zs_if0 h90
      refine zk_iinc dX4_whatWanted_102 zc_1 rfl zk_S_5 ?_
      refine zk_goto (tgt := 50) dX4_whatWanted_105 (by decide) ?_
      rw [← nI_succ]
      first
        | (have e : zs_wwf M0 kk p 2 i x = x ||| 1 <<< (nI i &&& 31) := if_pos hb
           refine ih (i + 1) _ M1 L1 (by omega) hs1 (fun M' L' h' => ?_)
           have := k M' L' h'
           rw [zs_for, e] at this
           exact this)
        | (have e : zs_wwf M0 kk p 2 i x = x := if_neg hb
           refine ih (i + 1) _ M1 L1 (by omega) hs1 (fun M' L' h' => ?_)
           have := k M' L' h'
           rw [zs_for, e] at this
           exact this)
    · have hb := zs_if1 h90
      refine zk_iload dX4_whatWanted_93 rfl ?_
      refine zk_iconst dX4_whatWanted_95 zc_1 ?_
      refine zk_iload dX4_whatWanted_96 rfl ?_
      refine zk_ishl dX4_whatWanted_98 ?_
      refine zk_ior dX4_whatWanted_99 ?_
      refine zk_istore dX4_whatWanted_100 zk_S_4 ?_
      refine zk_iinc dX4_whatWanted_102 zc_1 rfl zk_S_5 ?_
      refine zk_goto (tgt := 50) dX4_whatWanted_105 (by decide) ?_
      rw [← nI_succ]
      first
        | (have e : zs_wwf M0 kk p 2 i x = x ||| 1 <<< (nI i &&& 31) := if_pos hb
           refine ih (i + 1) _ M1 L1 (by omega) hs1 (fun M' L' h' => ?_)
           have := k M' L' h'
           rw [zs_for, e] at this
           exact this)
        | (have e : zs_wwf M0 kk p 2 i x = x := if_neg hb
           refine ih (i + 1) _ M1 L1 (by omega) hs1 (fun M' L' h' => ?_)
           have := k M' L' h'
           rw [zs_for, e] at this
           exact this)
set_option maxRecDepth 100000 in
set_option maxHeartbeats 4000000 in
theorem lX4_wwk {l : Launch} {M0 : zk_M} {n : Nat} (hI : zs_I M0 n) {kk : Nat} (hK : zs_K M0 kk) {p : Nat} (hp : p < n) {Q : Option Value → zk_M → zk_L → Prop} : ∀ (m i : Nat) (x : Int32) (M : zk_M) (L : zk_L), i + m = 6 → zs_same M0 M → (∀ M' L', zs_same M0 M' → zk_R l zc 5 muX4_whatWanted 108 [some (.ref 0), some (.int (nI p)), some (.int 1), some (.int (nI 6)), some (.int (zs_for (zs_wwf M0 kk p 0) m i x)), none] [] M' L' Q) → zk_R l zc 5 muX4_whatWanted 50 [some (.ref 0), some (.int (nI p)), some (.int 1), some (.int (nI 6)), some (.int x), some (.int (nI i))] [] M L Q := by
  have hp6 : p < 6 := Nat.lt_of_lt_of_le hp hI.1
  intro m
  induction m with
  | zero =>
    intro i x M L hi hs k
    obtain rfl : i = 6 := by omega
    refine zk_iload dX4_whatWanted_50 rfl ?_
    refine zk_iload_n dX4_whatWanted_52 rfl ?_
    refine zk_icmp_ge (tgt := 108) dX4_whatWanted_53 (by decide) (fun _ => ?_) (fun q => absurd (by decide) q)
    refine zk_forget ?_ (k M L hs)
    exact ⟨Or.inr rfl, Or.inr rfl, Or.inr rfl, Or.inr rfl, Or.inr rfl, Or.inl rfl, trivial⟩
  | succ m ih =>
    intro i x M L hi hs k
    have hi : i < 6 := by omega
    have e6 : M (6 + p) = M0 (6 + p) := hs (6 + p) (by omega) (by omega)
    have ok6 : zs_ok (M0 (6 + p)) := hI.2.2 p hp6
    refine zk_iload dX4_whatWanted_50 rfl ?_
    refine zk_iload_n dX4_whatWanted_52 rfl ?_
    refine zk_icmp_ge (tgt := 108) dX4_whatWanted_53 (by decide) (fun h53 => absurd h53 (nI_ge (b := 6) hi (by decide))) (fun _ => ?_)
    refine zk_aload_n dX4_whatWanted_56 rfl ?_
    refine zk_iload_n dX4_whatWanted_57 rfl ?_
    refine zk_cVv (qX4_thinkOf (hI.sm hs) hp) dX4_whatWanted_58 mwX4_thinkOf ml_X4_167 (by decide : 0 < zc.1) rfl rfl (by decide) rfl (Nat.le_of_ble_eq_true rfl) ?_
    refine zk_iload_n dX4_whatWanted_61 rfl ?_
    refine zk_if_ne (tgt := 77) dX4_whatWanted_62 (by decide) (fun _ => ?_) (fun h62 => absurd h62 (by decide))
    refine zk_aload_n dX4_whatWanted_77 rfl ?_
    refine zk_getRc (q := 37) dX4_whatWanted_78 fl_X4_32 (by decide : 0 < zc.1) rfl rfl rfl ?_
    refine zk_iload dX4_whatWanted_81 rfl ?_
    refine zk_putG dX4_whatWanted_83 fl_X4_93 ft_1_0 rfl rfl (by decide : 37 < zc.1) rfl rfl ?_
    refine zk_aload_n dX4_whatWanted_86 rfl ?_
    refine zk_cVqi (qX4_mindFollowsRow hK (f := va_up (M0 (6 + p)) 0 (nI i)) ((hs.up (by omega)).up (by omega)) (by rw [zk_up_eq, zk_up_eq, e6]; exact zs_ag.up zs_cp_ag) (zs_ok_up ok6 (by decide) (by decide) (by decide))) dX4_whatWanted_87 mwX4_mindFollowsRow ml_X4_248 (by decide : 0 < zc.1) rfl rfl (by decide) rfl (Nat.le_of_ble_eq_true rfl) (fun M1 L1 hs1 => ?_)
    refine zk_if_eq (tgt := 102) dX4_whatWanted_90 (by decide) (fun h90 => ?_) (fun h90 => ?_)
    · have hb := zs_if0 h90
      refine zk_iinc dX4_whatWanted_102 zc_1 rfl zk_S_5 ?_
      refine zk_goto (tgt := 50) dX4_whatWanted_105 (by decide) ?_
      rw [← nI_succ]
      first
        | (have e : zs_wwf M0 kk p 0 i x = x ||| 1 <<< (nI i &&& 31) := if_pos hb
           refine ih (i + 1) _ M1 L1 (by omega) hs1 (fun M' L' h' => ?_)
           have := k M' L' h'
           rw [zs_for, e] at this
           exact this)
        | (have e : zs_wwf M0 kk p 0 i x = x := if_neg hb
           refine ih (i + 1) _ M1 L1 (by omega) hs1 (fun M' L' h' => ?_)
           have := k M' L' h'
           rw [zs_for, e] at this
           exact this)
    · have hb := zs_if1 h90
      refine zk_iload dX4_whatWanted_93 rfl ?_
      refine zk_iconst dX4_whatWanted_95 zc_1 ?_
      refine zk_iload dX4_whatWanted_96 rfl ?_
      refine zk_ishl dX4_whatWanted_98 ?_
      refine zk_ior dX4_whatWanted_99 ?_
      refine zk_istore dX4_whatWanted_100 zk_S_4 ?_
      refine zk_iinc dX4_whatWanted_102 zc_1 rfl zk_S_5 ?_
      refine zk_goto (tgt := 50) dX4_whatWanted_105 (by decide) ?_
      rw [← nI_succ]
      first
        | (have e : zs_wwf M0 kk p 0 i x = x ||| 1 <<< (nI i &&& 31) := if_pos hb
           refine ih (i + 1) _ M1 L1 (by omega) hs1 (fun M' L' h' => ?_)
           have := k M' L' h'
           rw [zs_for, e] at this
           exact this)
        | (have e : zs_wwf M0 kk p 0 i x = x := if_neg hb
           refine ih (i + 1) _ M1 L1 (by omega) hs1 (fun M' L' h' => ?_)
           have := k M' L' h'
           rw [zs_for, e] at this
           exact this)
set_option maxRecDepth 100000 in
set_option maxHeartbeats 4000000 in
theorem qX4_whatWanted_r1 {l : Launch} {M : zk_M} {L : zk_L} {n : Nat} (hI : zs_I M n) {r x : Int32} (hr : ¬ zs_isr (M 1 2) r) : zk_C l zc 5 muX4_whatWanted [.ref 0, .int r, .int x] M L (zq_i (-1) (zs_ref M 1)) := by
  refine zk_ofR (ls := [some (.ref 0), some (.int r), some (.int x), none, none, none]) (by decide) rfl (Nat.le_of_ble_eq_true rfl) rfl ?_
  refine zk_aload_n dX4_whatWanted_0 rfl ?_
  refine zk_getRc (q := 1) dX4_whatWanted_1 fl_X4_12 (by decide : 0 < zc.1) rfl rfl rfl ?_
  refine zk_iload_n dX4_whatWanted_4 rfl ?_
  refine zk_cVi (q1_hasRider_f hI hr) dX4_whatWanted_5 mwX0_hasRider ml_X4_85 (by decide : 1 < zc.1) rfl rfl (by decide) rfl (Nat.le_of_ble_eq_true rfl) ?_
  refine zk_if_ne (tgt := 17) dX4_whatWanted_8 (by decide) (fun h8 => absurd (by decide) h8) (fun _ => ?_)
  refine zk_aload_n dX4_whatWanted_11 rfl ?_
  refine zk_iconst dX4_whatWanted_12 zc_m1 ?_
  refine zk_cVi (qrf1) dX4_whatWanted_13 mwX4_refuse ml_X4_63 (by decide : 0 < zc.1) rfl rfl (by decide) rfl (Nat.le_of_ble_eq_true rfl) ?_
  refine zk_iret rfl dX4_whatWanted_16 ?_
  exact ⟨rfl, zs_same.rf⟩
set_option maxRecDepth 100000 in
set_option maxHeartbeats 4000000 in
theorem qX4_whatWanted_r2 {l : Launch} {M : zk_M} {L : zk_L} {n : Nat} (hI : zs_I M n) {p : Nat} (hp : p < n) {x : Int32} (hx : ¬ (0 ≤ x ∧ x < 2)) : zk_C l zc 5 muX4_whatWanted [.ref 0, .int (nI p), .int x] M L (zq_i (-2) (zs_ref M 2)) := by
  refine zk_ofR (ls := [some (.ref 0), some (.int (nI p)), some (.int x), none, none, none]) (by decide) rfl (Nat.le_of_ble_eq_true rfl) rfl ?_
  refine zk_aload_n dX4_whatWanted_0 rfl ?_
  refine zk_getRc (q := 1) dX4_whatWanted_1 fl_X4_12 (by decide : 0 < zc.1) rfl rfl rfl ?_
  refine zk_iload_n dX4_whatWanted_4 rfl ?_
  refine zk_cVi (q1_hasRider_t hI hp) dX4_whatWanted_5 mwX0_hasRider ml_X4_85 (by decide : 1 < zc.1) rfl rfl (by decide) rfl (Nat.le_of_ble_eq_true rfl) ?_
  refine zk_if_ne (tgt := 17) dX4_whatWanted_8 (by decide) (fun _ => ?_) (fun h8 => absurd h8 (by decide))
  refine zk_iload_n dX4_whatWanted_17 rfl ?_
  refine zk_iconst dX4_whatWanted_18 zc_2 ?_
  refine zk_cSi (qX4_isBelow_f hx) dX4_whatWanted_19 miX4_isBelow ml_X4_149 stX4_isBelow rfl (by decide) rfl (Nat.le_of_ble_eq_true rfl) ?_
  refine zk_if_ne (tgt := 32) dX4_whatWanted_22 (by decide) (fun h22 => absurd (rfl) h22) (fun _ => ?_)
  refine zk_aload_n dX4_whatWanted_25 rfl ?_
  refine zk_bipush dX4_whatWanted_26 zb_m2 ?_
  refine zk_cVi (qrf2) dX4_whatWanted_28 mwX4_refuse ml_X4_63 (by decide : 0 < zc.1) rfl rfl (by decide) rfl (Nat.le_of_ble_eq_true rfl) ?_
  refine zk_iret rfl dX4_whatWanted_31 ?_
  exact ⟨rfl, zs_same.rf⟩
set_option maxRecDepth 100000 in
set_option maxHeartbeats 4000000 in
theorem qX4_whatWanted_g {l : Launch} {M : zk_M} {L : zk_L} {n : Nat} (hI : zs_I M n) {p : Nat} (hp : p < n) {kk : Nat} (hK : zs_K M kk) : zk_C l zc 5 muX4_whatWanted [.ref 0, .int (nI p), .int 0] M L (zq_i (zs_for (zs_wwf M kk p 2) 8 0 0) M) := by
  refine zk_ofR (ls := [some (.ref 0), some (.int (nI p)), some (.int 0), none, none, none]) (by decide) rfl (Nat.le_of_ble_eq_true rfl) rfl ?_
  refine zk_aload_n dX4_whatWanted_0 rfl ?_
  refine zk_getRc (q := 1) dX4_whatWanted_1 fl_X4_12 (by decide : 0 < zc.1) rfl rfl rfl ?_
  refine zk_iload_n dX4_whatWanted_4 rfl ?_
  refine zk_cVi (q1_hasRider_t hI hp) dX4_whatWanted_5 mwX0_hasRider ml_X4_85 (by decide : 1 < zc.1) rfl rfl (by decide) rfl (Nat.le_of_ble_eq_true rfl) ?_
  refine zk_if_ne (tgt := 17) dX4_whatWanted_8 (by decide) (fun _ => ?_) (fun h8 => absurd h8 (by decide))
  refine zk_iload_n dX4_whatWanted_17 rfl ?_
  refine zk_iconst dX4_whatWanted_18 zc_2 ?_
  refine zk_cSi (qX4_isBelow_t (by decide)) dX4_whatWanted_19 miX4_isBelow ml_X4_149 stX4_isBelow rfl (by decide) rfl (Nat.le_of_ble_eq_true rfl) ?_
  refine zk_if_ne (tgt := 32) dX4_whatWanted_22 (by decide) (fun _ => ?_) (fun h22 => absurd h22 (by decide))
  refine zk_iload_n dX4_whatWanted_32 rfl ?_
  refine zk_if_ne (tgt := 41) dX4_whatWanted_33 (by decide) (fun h33 => absurd (rfl) h33) (fun _ => ?_)
  refine zk_bipush dX4_whatWanted_36 zb_8 ?_
  refine zk_goto (tgt := 43) dX4_whatWanted_38 (by decide) ?_
  refine zk_istore_n dX4_whatWanted_43 zk_S_3 ?_
  refine zk_iconst dX4_whatWanted_44 zc_0 ?_
  refine zk_istore dX4_whatWanted_45 zk_S_4 ?_
  refine zk_iconst dX4_whatWanted_47 zc_0 ?_
  refine zk_istore dX4_whatWanted_48 zk_S_5 ?_
  refine lX4_wwg hI hK hp 8 0 0 M L rfl zs_same.rf (fun M' L' h' => ?_)
  refine zk_iload dX4_whatWanted_108 rfl ?_
  refine zk_iret rfl dX4_whatWanted_110 ?_
  exact ⟨rfl, h'⟩
set_option maxRecDepth 100000 in
set_option maxHeartbeats 4000000 in
theorem qX4_whatWanted_k {l : Launch} {M : zk_M} {L : zk_L} {n : Nat} (hI : zs_I M n) {p : Nat} (hp : p < n) {kk : Nat} (hK : zs_K M kk) : zk_C l zc 5 muX4_whatWanted [.ref 0, .int (nI p), .int 1] M L (zq_i (zs_for (zs_wwf M kk p 0) 6 0 0) M) := by
  refine zk_ofR (ls := [some (.ref 0), some (.int (nI p)), some (.int 1), none, none, none]) (by decide) rfl (Nat.le_of_ble_eq_true rfl) rfl ?_
  refine zk_aload_n dX4_whatWanted_0 rfl ?_
  refine zk_getRc (q := 1) dX4_whatWanted_1 fl_X4_12 (by decide : 0 < zc.1) rfl rfl rfl ?_
  refine zk_iload_n dX4_whatWanted_4 rfl ?_
  refine zk_cVi (q1_hasRider_t hI hp) dX4_whatWanted_5 mwX0_hasRider ml_X4_85 (by decide : 1 < zc.1) rfl rfl (by decide) rfl (Nat.le_of_ble_eq_true rfl) ?_
  refine zk_if_ne (tgt := 17) dX4_whatWanted_8 (by decide) (fun _ => ?_) (fun h8 => absurd h8 (by decide))
  refine zk_iload_n dX4_whatWanted_17 rfl ?_
  refine zk_iconst dX4_whatWanted_18 zc_2 ?_
  refine zk_cSi (qX4_isBelow_t (by decide)) dX4_whatWanted_19 miX4_isBelow ml_X4_149 stX4_isBelow rfl (by decide) rfl (Nat.le_of_ble_eq_true rfl) ?_
  refine zk_if_ne (tgt := 32) dX4_whatWanted_22 (by decide) (fun _ => ?_) (fun h22 => absurd h22 (by decide))
  refine zk_iload_n dX4_whatWanted_32 rfl ?_
  refine zk_if_ne (tgt := 41) dX4_whatWanted_33 (by decide) (fun _ => ?_) (fun h33 => absurd h33 (by decide))
  refine zk_bipush dX4_whatWanted_41 zb_6 ?_
  refine zk_istore_n dX4_whatWanted_43 zk_S_3 ?_
  refine zk_iconst dX4_whatWanted_44 zc_0 ?_
  refine zk_istore dX4_whatWanted_45 zk_S_4 ?_
  refine zk_iconst dX4_whatWanted_47 zc_0 ?_
  refine zk_istore dX4_whatWanted_48 zk_S_5 ?_
  refine lX4_wwk hI hK hp 6 0 0 M L rfl zs_same.rf (fun M' L' h' => ?_)
  refine zk_iload dX4_whatWanted_108 rfl ?_
  refine zk_iret rfl dX4_whatWanted_110 ?_
  exact ⟨rfl, h'⟩
theorem q12_becomes {l : Launch} {M : zk_M} {L : zk_L}  : zk_C l zc 2 muX0_becomes [.ref 12, .ref 1] M L (zk_Ev (zs_cbec2 zc 12 1 (zs_cbec zc 12 1 M)) L) := qX0_becomes zc_c12 zc_c1 zc_d12_1
theorem q1_becomes12 {l : Launch} {M : zk_M} {L : zk_L}  : zk_C l zc 2 muX0_becomes [.ref 1, .ref 12] M L (zk_Ev (zs_cbec2 zc 1 12 (zs_cbec zc 1 12 M)) L) := qX0_becomes zc_c1 zc_c12 zc_d1_12
theorem q23_becomes {l : Launch} {M : zk_M} {L : zk_L}  : zk_C l zc 2 muX0_becomes [.ref 23, .ref 1] M L (zk_Ev (zs_cbec2 zc 23 1 (zs_cbec zc 23 1 M)) L) := qX0_becomes zc_c23 zc_c1 zc_d23_1
theorem q1_becomes23 {l : Launch} {M : zk_M} {L : zk_L}  : zk_C l zc 2 muX0_becomes [.ref 1, .ref 23] M L (zk_Ev (zs_cbec2 zc 1 23 (zs_cbec zc 1 23 M)) L) := qX0_becomes zc_c1 zc_c23 zc_d1_23
def zs_imM (M : zk_M) : zk_M := va_up (zs_cbec2 zc 12 1 (zs_cbec zc 12 1 M)) 0 (va_up ((zs_cbec2 zc 12 1 (zs_cbec zc 12 1 M)) 0) 13 1)
set_option maxRecDepth 100000 in
set_option maxHeartbeats 4000000 in
theorem qX4_image_t {l : Launch} {M : zk_M} {L : zk_L}  : zk_C l zc 3 muX4_image [.ref 0] M L (zq_i (zs_imM M 1 3) (zs_imM M)) := by
  refine zk_ofR (ls := [some (.ref 0)]) (by decide) rfl (Nat.le_of_ble_eq_true rfl) rfl ?_
  refine zk_aload_n dX4_image_0 rfl ?_
  refine zk_getRc (q := 12) dX4_image_1 fl_X4_16 (by decide : 0 < zc.1) rfl rfl rfl ?_
  refine zk_aload_n dX4_image_4 rfl ?_
  refine zk_getRc (q := 1) dX4_image_5 fl_X4_12 (by decide : 0 < zc.1) rfl rfl rfl ?_
  refine zk_cVv (q12_becomes) dX4_image_8 mwX0_becomes ml_X4_74 (by decide : 12 < zc.1) rfl rfl (by decide) rfl (Nat.le_of_ble_eq_true rfl) ?_
  refine zk_aload_n dX4_image_11 rfl ?_
  refine zk_iconst dX4_image_12 zc_1 ?_
  refine zk_putG dX4_image_13 fl_X4_270 ft_4_13 (by decide) rfl (by decide : 0 < zc.1) rfl rfl ?_
  refine zk_aload_n dX4_image_16 rfl ?_
  refine zk_getRc (q := 1) dX4_image_17 fl_X4_12 (by decide : 0 < zc.1) rfl rfl rfl ?_
  refine zk_getI dX4_image_20 fl_X4_274 (by decide : 1 < zc.1) rfl rfl ?_
  refine zk_iret rfl dX4_image_23 ?_
  exact ⟨rfl, zs_same.rf⟩
set_option maxRecDepth 100000 in
set_option maxHeartbeats 4000000 in
theorem qX4_on_r {l : Launch} {M : zk_M} {L : zk_L} (h : M 0 13 = 0) : zk_C l zc 3 muX4_on [.ref 0] M L (zq_i (-3) (zs_ref M 3)) := by
  refine zk_ofR (ls := [some (.ref 0)]) (by decide) rfl (Nat.le_of_ble_eq_true rfl) rfl ?_
  refine zk_aload_n dX4_on_0 rfl ?_
  refine zk_getI dX4_on_1 fl_X4_270 (by decide : 0 < zc.1) rfl rfl ?_
  refine zk_if_ne (tgt := 14) dX4_on_4 (by decide) (fun h4 => absurd (h) h4) (fun _ => ?_)
  refine zk_aload_n dX4_on_7 rfl ?_
  refine zk_bipush dX4_on_8 zb_m3 ?_
  refine zk_cVi (qrf3) dX4_on_10 mwX4_refuse ml_X4_63 (by decide : 0 < zc.1) rfl rfl (by decide) rfl (Nat.le_of_ble_eq_true rfl) ?_
  refine zk_iret rfl dX4_on_13 ?_
  exact ⟨rfl, zs_same.rf⟩
set_option maxRecDepth 100000 in
set_option maxHeartbeats 4000000 in
theorem qX4_on_t {l : Launch} {M : zk_M} {L : zk_L} (h : ¬ M 0 13 = 0) : zk_C l zc 3 muX4_on [.ref 0] M L (zq_i (zs_cbec2 zc 1 12 (zs_cbec zc 1 12 M) 1 3) (zs_cbec2 zc 1 12 (zs_cbec zc 1 12 M))) := by
  refine zk_ofR (ls := [some (.ref 0)]) (by decide) rfl (Nat.le_of_ble_eq_true rfl) rfl ?_
  refine zk_aload_n dX4_on_0 rfl ?_
  refine zk_getI dX4_on_1 fl_X4_270 (by decide : 0 < zc.1) rfl rfl ?_
  refine zk_if_ne (tgt := 14) dX4_on_4 (by decide) (fun _ => ?_) (fun h4 => absurd h4 (h))
  refine zk_aload_n dX4_on_14 rfl ?_
  refine zk_getRc (q := 1) dX4_on_15 fl_X4_12 (by decide : 0 < zc.1) rfl rfl rfl ?_
  refine zk_aload_n dX4_on_18 rfl ?_
  refine zk_getRc (q := 12) dX4_on_19 fl_X4_16 (by decide : 0 < zc.1) rfl rfl rfl ?_
  refine zk_cVv (q1_becomes12) dX4_on_22 mwX0_becomes ml_X4_74 (by decide : 1 < zc.1) rfl rfl (by decide) rfl (Nat.le_of_ble_eq_true rfl) ?_
  refine zk_aload_n dX4_on_25 rfl ?_
  refine zk_getRc (q := 1) dX4_on_26 fl_X4_12 (by decide : 0 < zc.1) rfl rfl rfl ?_
  refine zk_getI dX4_on_29 fl_X4_274 (by decide : 1 < zc.1) rfl rfl ?_
  refine zk_iret rfl dX4_on_32 ?_
  exact ⟨rfl, zs_same.rf⟩
def zs_cnv (M : zk_M) (n : Nat) (x : Int32) : Int32 := if x = 0 then M 1 2 else if x = 1 then M 1 3 else if x = 2 then zs_for (fun i x => x + zs_bc (M 3 i)) 8 0 0 / 2 else if x = 3 then zs_atb M n else if x = 4 then zs_for (fun i x => x + M (6 + i) 5) n 0 0 else if x = 5 then zs_for (fun i x => x + M (6 + i) 6) n 0 0 else if x = 6 then M 0 12 else if x = 7 then M 39 1 else if 11 ≤ x ∧ x < 17 then M 42 (x - 11 + 1).toNatClampNeg else -9
set_option maxRecDepth 100000 in
set_option maxHeartbeats 4000000 in
theorem qX4_count_t {l : Launch} {M : zk_M} {L : zk_L} {n : Nat} (hI : zs_I M n) {x : Int32} : zk_C l zc 3 muX4_count [.ref 0, .int x] M L (zq_i (zs_cnv M n x) M) := by
  refine zk_ofR (ls := [some (.ref 0), some (.int x)]) (by decide) rfl (Nat.le_of_ble_eq_true rfl) rfl ?_
  refine zk_iload_n dX4_count_0 rfl ?_
  by_cases hx0 : x = 0
  · rw [hx0]
    refine zk_tabIn (off := 47) (tgt := 48) dX4_count_1 (by decide) (by decide) (by decide) (by decide) ?_
    refine zk_aload_n dX4_count_48 rfl ?_
    refine zk_getRc (q := 1) dX4_count_49 fl_X4_12 (by decide : 0 < zc.1) rfl rfl rfl ?_
    refine zk_getI dX4_count_52 fl_X4_181 (by decide : 1 < zc.1) rfl rfl ?_
    refine zk_iret rfl dX4_count_55 ?_
    exact ⟨congrArg (fun v => some (Value.int v)) (by unfold zs_cnv; first | (rw [if_pos rfl]; done) | (rw [if_neg (by decide), if_pos rfl]; done) | (rw [if_neg (by decide), if_neg (by decide), if_pos rfl]; done) | (rw [if_neg (by decide), if_neg (by decide), if_neg (by decide), if_pos rfl]; done) | (rw [if_neg (by decide), if_neg (by decide), if_neg (by decide), if_neg (by decide), if_pos rfl]; done) | (rw [if_neg (by decide), if_neg (by decide), if_neg (by decide), if_neg (by decide), if_neg (by decide), if_pos rfl]; done) | (rw [if_neg (by decide), if_neg (by decide), if_neg (by decide), if_neg (by decide), if_neg (by decide), if_neg (by decide), if_pos rfl]; done) | (rw [if_neg (by decide), if_neg (by decide), if_neg (by decide), if_neg (by decide), if_neg (by decide), if_neg (by decide), if_neg (by decide), if_pos rfl]; done) | (rw [if_neg hx0, if_neg hx1, if_neg hx2, if_neg hx3, if_neg hx4, if_neg hx5, if_neg hx6, if_neg hx7]; done)), zs_same.rf⟩
  by_cases hx1 : x = 1
  · rw [hx1]
    refine zk_tabIn (off := 55) (tgt := 56) dX4_count_1 (by decide) (by decide) (by decide) (by decide) ?_
    refine zk_aload_n dX4_count_56 rfl ?_
    refine zk_getRc (q := 1) dX4_count_57 fl_X4_12 (by decide : 0 < zc.1) rfl rfl rfl ?_
    refine zk_getI dX4_count_60 fl_X4_274 (by decide : 1 < zc.1) rfl rfl ?_
    refine zk_iret rfl dX4_count_63 ?_
    exact ⟨congrArg (fun v => some (Value.int v)) (by unfold zs_cnv; first | (rw [if_pos rfl]; done) | (rw [if_neg (by decide), if_pos rfl]; done) | (rw [if_neg (by decide), if_neg (by decide), if_pos rfl]; done) | (rw [if_neg (by decide), if_neg (by decide), if_neg (by decide), if_pos rfl]; done) | (rw [if_neg (by decide), if_neg (by decide), if_neg (by decide), if_neg (by decide), if_pos rfl]; done) | (rw [if_neg (by decide), if_neg (by decide), if_neg (by decide), if_neg (by decide), if_neg (by decide), if_pos rfl]; done) | (rw [if_neg (by decide), if_neg (by decide), if_neg (by decide), if_neg (by decide), if_neg (by decide), if_neg (by decide), if_pos rfl]; done) | (rw [if_neg (by decide), if_neg (by decide), if_neg (by decide), if_neg (by decide), if_neg (by decide), if_neg (by decide), if_neg (by decide), if_pos rfl]; done) | (rw [if_neg hx0, if_neg hx1, if_neg hx2, if_neg hx3, if_neg hx4, if_neg hx5, if_neg hx6, if_neg hx7]; done)), zs_same.rf⟩
  by_cases hx2 : x = 2
  · rw [hx2]
    refine zk_tabIn (off := 63) (tgt := 64) dX4_count_1 (by decide) (by decide) (by decide) (by decide) ?_
    refine zk_aload_n dX4_count_64 rfl ?_
    refine zk_getRc (q := 1) dX4_count_65 fl_X4_12 (by decide : 0 < zc.1) rfl rfl rfl ?_
    refine zk_getRc (q := 2) dX4_count_68 fl_X4_122 (by decide : 1 < zc.1) rfl rfl rfl ?_
    refine zk_cVi (q2_rc) dX4_count_71 mwX2_roadCount ml_X4_277 (by decide : 2 < zc.1) rfl rfl (by decide) rfl (Nat.le_of_ble_eq_true rfl) ?_
    refine zk_iret rfl dX4_count_74 ?_
    exact ⟨congrArg (fun v => some (Value.int v)) (by unfold zs_cnv; first | (rw [if_pos rfl]; done) | (rw [if_neg (by decide), if_pos rfl]; done) | (rw [if_neg (by decide), if_neg (by decide), if_pos rfl]; done) | (rw [if_neg (by decide), if_neg (by decide), if_neg (by decide), if_pos rfl]; done) | (rw [if_neg (by decide), if_neg (by decide), if_neg (by decide), if_neg (by decide), if_pos rfl]; done) | (rw [if_neg (by decide), if_neg (by decide), if_neg (by decide), if_neg (by decide), if_neg (by decide), if_pos rfl]; done) | (rw [if_neg (by decide), if_neg (by decide), if_neg (by decide), if_neg (by decide), if_neg (by decide), if_neg (by decide), if_pos rfl]; done) | (rw [if_neg (by decide), if_neg (by decide), if_neg (by decide), if_neg (by decide), if_neg (by decide), if_neg (by decide), if_neg (by decide), if_pos rfl]; done) | (rw [if_neg hx0, if_neg hx1, if_neg hx2, if_neg hx3, if_neg hx4, if_neg hx5, if_neg hx6, if_neg hx7]; done)), zs_same.rf⟩
  by_cases hx3 : x = 3
  · rw [hx3]
    refine zk_tabIn (off := 74) (tgt := 75) dX4_count_1 (by decide) (by decide) (by decide) (by decide) ?_
    refine zk_aload_n dX4_count_75 rfl ?_
    refine zk_getRc (q := 1) dX4_count_76 fl_X4_12 (by decide : 0 < zc.1) rfl rfl rfl ?_
    refine zk_cVi (q1_arrived hI) dX4_count_79 mwX0_arrivedBits ml_X4_155 (by decide : 1 < zc.1) rfl rfl (by decide) rfl (Nat.le_of_ble_eq_true rfl) ?_
    refine zk_iret rfl dX4_count_82 ?_
    exact ⟨congrArg (fun v => some (Value.int v)) (by unfold zs_cnv; first | (rw [if_pos rfl]; done) | (rw [if_neg (by decide), if_pos rfl]; done) | (rw [if_neg (by decide), if_neg (by decide), if_pos rfl]; done) | (rw [if_neg (by decide), if_neg (by decide), if_neg (by decide), if_pos rfl]; done) | (rw [if_neg (by decide), if_neg (by decide), if_neg (by decide), if_neg (by decide), if_pos rfl]; done) | (rw [if_neg (by decide), if_neg (by decide), if_neg (by decide), if_neg (by decide), if_neg (by decide), if_pos rfl]; done) | (rw [if_neg (by decide), if_neg (by decide), if_neg (by decide), if_neg (by decide), if_neg (by decide), if_neg (by decide), if_pos rfl]; done) | (rw [if_neg (by decide), if_neg (by decide), if_neg (by decide), if_neg (by decide), if_neg (by decide), if_neg (by decide), if_neg (by decide), if_pos rfl]; done) | (rw [if_neg hx0, if_neg hx1, if_neg hx2, if_neg hx3, if_neg hx4, if_neg hx5, if_neg hx6, if_neg hx7]; done)), zs_same.rf⟩
  by_cases hx4 : x = 4
  · rw [hx4]
    refine zk_tabIn (off := 82) (tgt := 83) dX4_count_1 (by decide) (by decide) (by decide) (by decide) ?_
    refine zk_aload_n dX4_count_83 rfl ?_
    refine zk_getRc (q := 1) dX4_count_84 fl_X4_12 (by decide : 0 < zc.1) rfl rfl rfl ?_
    refine zk_cVi (q1_shoes hI) dX4_count_87 mwX0_allShoes ml_X4_245 (by decide : 1 < zc.1) rfl rfl (by decide) rfl (Nat.le_of_ble_eq_true rfl) ?_
    refine zk_iret rfl dX4_count_90 ?_
    exact ⟨congrArg (fun v => some (Value.int v)) (by unfold zs_cnv; first | (rw [if_pos rfl]; done) | (rw [if_neg (by decide), if_pos rfl]; done) | (rw [if_neg (by decide), if_neg (by decide), if_pos rfl]; done) | (rw [if_neg (by decide), if_neg (by decide), if_neg (by decide), if_pos rfl]; done) | (rw [if_neg (by decide), if_neg (by decide), if_neg (by decide), if_neg (by decide), if_pos rfl]; done) | (rw [if_neg (by decide), if_neg (by decide), if_neg (by decide), if_neg (by decide), if_neg (by decide), if_pos rfl]; done) | (rw [if_neg (by decide), if_neg (by decide), if_neg (by decide), if_neg (by decide), if_neg (by decide), if_neg (by decide), if_pos rfl]; done) | (rw [if_neg (by decide), if_neg (by decide), if_neg (by decide), if_neg (by decide), if_neg (by decide), if_neg (by decide), if_neg (by decide), if_pos rfl]; done) | (rw [if_neg hx0, if_neg hx1, if_neg hx2, if_neg hx3, if_neg hx4, if_neg hx5, if_neg hx6, if_neg hx7]; done)), zs_same.rf⟩
  by_cases hx5 : x = 5
  · rw [hx5]
    refine zk_tabIn (off := 90) (tgt := 91) dX4_count_1 (by decide) (by decide) (by decide) (by decide) ?_
    refine zk_aload_n dX4_count_91 rfl ?_
    refine zk_getRc (q := 1) dX4_count_92 fl_X4_12 (by decide : 0 < zc.1) rfl rfl rfl ?_
    refine zk_cVi (q1_worn hI) dX4_count_95 mwX0_allWorn ml_X4_280 (by decide : 1 < zc.1) rfl rfl (by decide) rfl (Nat.le_of_ble_eq_true rfl) ?_
    refine zk_iret rfl dX4_count_98 ?_
    exact ⟨congrArg (fun v => some (Value.int v)) (by unfold zs_cnv; first | (rw [if_pos rfl]; done) | (rw [if_neg (by decide), if_pos rfl]; done) | (rw [if_neg (by decide), if_neg (by decide), if_pos rfl]; done) | (rw [if_neg (by decide), if_neg (by decide), if_neg (by decide), if_pos rfl]; done) | (rw [if_neg (by decide), if_neg (by decide), if_neg (by decide), if_neg (by decide), if_pos rfl]; done) | (rw [if_neg (by decide), if_neg (by decide), if_neg (by decide), if_neg (by decide), if_neg (by decide), if_pos rfl]; done) | (rw [if_neg (by decide), if_neg (by decide), if_neg (by decide), if_neg (by decide), if_neg (by decide), if_neg (by decide), if_pos rfl]; done) | (rw [if_neg (by decide), if_neg (by decide), if_neg (by decide), if_neg (by decide), if_neg (by decide), if_neg (by decide), if_neg (by decide), if_pos rfl]; done) | (rw [if_neg hx0, if_neg hx1, if_neg hx2, if_neg hx3, if_neg hx4, if_neg hx5, if_neg hx6, if_neg hx7]; done)), zs_same.rf⟩
  by_cases hx6 : x = 6
  · rw [hx6]
    refine zk_tabIn (off := 98) (tgt := 99) dX4_count_1 (by decide) (by decide) (by decide) (by decide) ?_
    refine zk_aload_n dX4_count_99 rfl ?_
    refine zk_getI dX4_count_100 fl_X4_251 (by decide : 0 < zc.1) rfl rfl ?_
    refine zk_iret rfl dX4_count_103 ?_
    exact ⟨congrArg (fun v => some (Value.int v)) (by unfold zs_cnv; first | (rw [if_pos rfl]; done) | (rw [if_neg (by decide), if_pos rfl]; done) | (rw [if_neg (by decide), if_neg (by decide), if_pos rfl]; done) | (rw [if_neg (by decide), if_neg (by decide), if_neg (by decide), if_pos rfl]; done) | (rw [if_neg (by decide), if_neg (by decide), if_neg (by decide), if_neg (by decide), if_pos rfl]; done) | (rw [if_neg (by decide), if_neg (by decide), if_neg (by decide), if_neg (by decide), if_neg (by decide), if_pos rfl]; done) | (rw [if_neg (by decide), if_neg (by decide), if_neg (by decide), if_neg (by decide), if_neg (by decide), if_neg (by decide), if_pos rfl]; done) | (rw [if_neg (by decide), if_neg (by decide), if_neg (by decide), if_neg (by decide), if_neg (by decide), if_neg (by decide), if_neg (by decide), if_pos rfl]; done) | (rw [if_neg hx0, if_neg hx1, if_neg hx2, if_neg hx3, if_neg hx4, if_neg hx5, if_neg hx6, if_neg hx7]; done)), zs_same.rf⟩
  by_cases hx7 : x = 7
  · rw [hx7]
    refine zk_tabIn (off := 103) (tgt := 104) dX4_count_1 (by decide) (by decide) (by decide) (by decide) ?_
    refine zk_aload_n dX4_count_104 rfl ?_
    refine zk_getRc (q := 39) dX4_count_105 fl_X4_42 (by decide : 0 < zc.1) rfl rfl rfl ?_
    refine zk_getI dX4_count_108 fl_X4_283 (by decide : 39 < zc.1) rfl rfl ?_
    refine zk_iret rfl dX4_count_111 ?_
    exact ⟨congrArg (fun v => some (Value.int v)) (by unfold zs_cnv; first | (rw [if_pos rfl]; done) | (rw [if_neg (by decide), if_pos rfl]; done) | (rw [if_neg (by decide), if_neg (by decide), if_pos rfl]; done) | (rw [if_neg (by decide), if_neg (by decide), if_neg (by decide), if_pos rfl]; done) | (rw [if_neg (by decide), if_neg (by decide), if_neg (by decide), if_neg (by decide), if_pos rfl]; done) | (rw [if_neg (by decide), if_neg (by decide), if_neg (by decide), if_neg (by decide), if_neg (by decide), if_pos rfl]; done) | (rw [if_neg (by decide), if_neg (by decide), if_neg (by decide), if_neg (by decide), if_neg (by decide), if_neg (by decide), if_pos rfl]; done) | (rw [if_neg (by decide), if_neg (by decide), if_neg (by decide), if_neg (by decide), if_neg (by decide), if_neg (by decide), if_neg (by decide), if_pos rfl]; done) | (rw [if_neg hx0, if_neg hx1, if_neg hx2, if_neg hx3, if_neg hx4, if_neg hx5, if_neg hx6, if_neg hx7]; done)), zs_same.rf⟩
  refine zk_tabOut (tgt := 112) dX4_count_1 (zs_out07 hx0 hx1 hx2 hx3 hx4 hx5 hx6 hx7) (by decide) ?_
  refine zk_aload_n dX4_count_112 rfl ?_
  refine zk_iload_n dX4_count_113 rfl ?_
  refine zk_cVi (qX4_refusalCount) dX4_count_114 mwX4_refusalCount ml_X4_286 (by decide : 0 < zc.1) rfl rfl (by decide) rfl (Nat.le_of_ble_eq_true rfl) ?_
  refine zk_iret rfl dX4_count_117 ?_
  exact ⟨congrArg (fun v => some (Value.int v)) (by unfold zs_cnv; first | (rw [if_pos rfl]; done) | (rw [if_neg (by decide), if_pos rfl]; done) | (rw [if_neg (by decide), if_neg (by decide), if_pos rfl]; done) | (rw [if_neg (by decide), if_neg (by decide), if_neg (by decide), if_pos rfl]; done) | (rw [if_neg (by decide), if_neg (by decide), if_neg (by decide), if_neg (by decide), if_pos rfl]; done) | (rw [if_neg (by decide), if_neg (by decide), if_neg (by decide), if_neg (by decide), if_neg (by decide), if_pos rfl]; done) | (rw [if_neg (by decide), if_neg (by decide), if_neg (by decide), if_neg (by decide), if_neg (by decide), if_neg (by decide), if_pos rfl]; done) | (rw [if_neg (by decide), if_neg (by decide), if_neg (by decide), if_neg (by decide), if_neg (by decide), if_neg (by decide), if_neg (by decide), if_pos rfl]; done) | (rw [if_neg hx0, if_neg hx1, if_neg hx2, if_neg hx3, if_neg hx4, if_neg hx5, if_neg hx6, if_neg hx7]; done)), zs_same.rf⟩
