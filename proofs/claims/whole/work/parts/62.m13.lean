/-! the row -/
def zs_KM (M : zk_M) (k : Nat) : Prop := k ≤ 16 ∧ M 0 10 = nI k
theorem zs_KM.sm {M M' : zk_M} {k : Nat} (h : zs_KM M k) (hs : zs_sm M M') : zs_KM M' k := ⟨h.1, by rw [hs.2.2.2.2.2.2.2]; exact h.2⟩
def zu_rowM (M : zk_M) (k : Nat) (v : Int32) : zk_M := va_up (va_up M 7 (va_up (M 7) k v)) 0 (va_up (M 0) 10 (nI (k + 1)))
def zu_clM (M : zk_M) : zk_M := va_up M 0 (va_up (M 0) 10 0)
set_option maxRecDepth 100000 in
set_option maxHeartbeats 4000000 in
theorem qX5_row_r4 {l : Launch} {M : zk_M} {L : zk_L} {v : Int32} (hv : v < 0) : zk_C l zm 2 muX5_row [.ref 0, .int v] M L (zp_i (-4) (zs_nof M 4)) := by
  refine zk_ofR (ls := [some (.ref 0), some (.int v), none]) (by decide) rfl (Nat.le_of_ble_eq_true rfl) rfl ?_
  refine zk_iload_n dX5_row_0 rfl ?_
  refine zk_iconst dX5_row_1 zc_0 ?_
  refine zk_bipush dX5_row_2 zb_99 ?_
  refine zk_cSi (qX5_wrongBy) dX5_row_4 miX5_wrongBy ml_X5_138 stX5_wrongBy rfl (by decide) rfl (Nat.le_of_ble_eq_true rfl) ?_
  rw [if_pos hv]
  refine zk_istore_n dX5_row_7 zk_S_2 ?_
  refine zk_iload_n dX5_row_8 rfl ?_
  refine zk_if_ne (tgt := 24) dX5_row_9 (by decide) (fun _ => ?_) (fun h9 => absurd h9 (by decide))
  refine zk_iload_n dX5_row_24 rfl ?_
  refine zk_if_eq (tgt := 34) dX5_row_25 (by decide) (fun h25 => absurd h25 (by decide)) (fun _ => ?_)
  refine zk_aload_n dX5_row_28 rfl ?_
  refine zk_iload_n dX5_row_29 rfl ?_
  refine zk_cVi (qno4) dX5_row_30 mwX5_no ml_X5_42 (by decide : 0 < zm.1) rfl rfl (by decide) rfl (Nat.le_of_ble_eq_true rfl) ?_
  refine zk_iret rfl dX5_row_33 ?_
  exact ⟨rfl, zs_sm.rf⟩
set_option maxRecDepth 100000 in
set_option maxHeartbeats 4000000 in
theorem qX5_row_r6 {l : Launch} {M : zk_M} {L : zk_L} {v : Int32} (hv : ¬ v < 0) (hn : 99 < v) : zk_C l zm 2 muX5_row [.ref 0, .int v] M L (zp_i (-6) (zs_nof M 6)) := by
  refine zk_ofR (ls := [some (.ref 0), some (.int v), none]) (by decide) rfl (Nat.le_of_ble_eq_true rfl) rfl ?_
  refine zk_iload_n dX5_row_0 rfl ?_
  refine zk_iconst dX5_row_1 zc_0 ?_
  refine zk_bipush dX5_row_2 zb_99 ?_
  refine zk_cSi (qX5_wrongBy) dX5_row_4 miX5_wrongBy ml_X5_138 stX5_wrongBy rfl (by decide) rfl (Nat.le_of_ble_eq_true rfl) ?_
  rw [if_neg hv, if_pos hn]
  refine zk_istore_n dX5_row_7 zk_S_2 ?_
  refine zk_iload_n dX5_row_8 rfl ?_
  refine zk_if_ne (tgt := 24) dX5_row_9 (by decide) (fun _ => ?_) (fun h9 => absurd h9 (by decide))
  refine zk_iload_n dX5_row_24 rfl ?_
  refine zk_if_eq (tgt := 34) dX5_row_25 (by decide) (fun h25 => absurd h25 (by decide)) (fun _ => ?_)
  refine zk_aload_n dX5_row_28 rfl ?_
  refine zk_iload_n dX5_row_29 rfl ?_
  refine zk_cVi (qno6) dX5_row_30 mwX5_no ml_X5_42 (by decide : 0 < zm.1) rfl rfl (by decide) rfl (Nat.le_of_ble_eq_true rfl) ?_
  refine zk_iret rfl dX5_row_33 ?_
  exact ⟨rfl, zs_sm.rf⟩
set_option maxRecDepth 100000 in
set_option maxHeartbeats 4000000 in
theorem qX5_row_r6f {l : Launch} {M : zk_M} {L : zk_L} {v : Int32} (hv : ¬ v < 0) (hn : ¬ 99 < v) (hf : M 0 10 = 16) : zk_C l zm 2 muX5_row [.ref 0, .int v] M L (zp_i (-6) (zs_nof M 6)) := by
  refine zk_ofR (ls := [some (.ref 0), some (.int v), none]) (by decide) rfl (Nat.le_of_ble_eq_true rfl) rfl ?_
  refine zk_iload_n dX5_row_0 rfl ?_
  refine zk_iconst dX5_row_1 zc_0 ?_
  refine zk_bipush dX5_row_2 zb_99 ?_
  refine zk_cSi (qX5_wrongBy) dX5_row_4 miX5_wrongBy ml_X5_138 stX5_wrongBy rfl (by decide) rfl (Nat.le_of_ble_eq_true rfl) ?_
  rw [if_neg hv, if_neg hn]
  refine zk_istore_n dX5_row_7 zk_S_2 ?_
  refine zk_iload_n dX5_row_8 rfl ?_
  refine zk_if_ne (tgt := 24) dX5_row_9 (by decide) (fun h9 => absurd (rfl) h9) (fun _ => ?_)
  refine zk_aload_n dX5_row_12 rfl ?_
  refine zk_getI dX5_row_13 fl_X5_200 (by decide : 0 < zm.1) rfl rfl ?_
  refine zk_bipush dX5_row_16 zb_16 ?_
  refine zk_icmp_ne (tgt := 24) dX5_row_18 (by decide) (fun h18 => absurd (hf) h18) (fun _ => ?_)
  refine zk_bipush dX5_row_21 zb_m6 ?_
  refine zk_istore_n dX5_row_23 zk_S_2 ?_
  refine zk_iload_n dX5_row_24 rfl ?_
  refine zk_if_eq (tgt := 34) dX5_row_25 (by decide) (fun h25 => absurd h25 (by decide)) (fun _ => ?_)
  refine zk_aload_n dX5_row_28 rfl ?_
  refine zk_iload_n dX5_row_29 rfl ?_
  refine zk_cVi (qno6) dX5_row_30 mwX5_no ml_X5_42 (by decide : 0 < zm.1) rfl rfl (by decide) rfl (Nat.le_of_ble_eq_true rfl) ?_
  refine zk_iret rfl dX5_row_33 ?_
  exact ⟨rfl, zs_sm.rf⟩
set_option maxRecDepth 100000 in
set_option maxHeartbeats 4000000 in
theorem qX5_row_t {l : Launch} {M : zk_M} {L : zk_L} {v : Int32} (hv : ¬ v < 0) (hn : ¬ 99 < v) {k : Nat} (hk : k < 16) (hK : M 0 10 = nI k) : zk_C l zm 2 muX5_row [.ref 0, .int v] M L (zp_i (nI (k + 1)) (zu_rowM M k v)) := by
  refine zk_ofR (ls := [some (.ref 0), some (.int v), none]) (by decide) rfl (Nat.le_of_ble_eq_true rfl) rfl ?_
  refine zk_iload_n dX5_row_0 rfl ?_
  refine zk_iconst dX5_row_1 zc_0 ?_
  refine zk_bipush dX5_row_2 zb_99 ?_
  refine zk_cSi (qX5_wrongBy) dX5_row_4 miX5_wrongBy ml_X5_138 stX5_wrongBy rfl (by decide) rfl (Nat.le_of_ble_eq_true rfl) ?_
  rw [if_neg hv, if_neg hn]
  refine zk_istore_n dX5_row_7 zk_S_2 ?_
  refine zk_iload_n dX5_row_8 rfl ?_
  refine zk_if_ne (tgt := 24) dX5_row_9 (by decide) (fun h9 => absurd (rfl) h9) (fun _ => ?_)
  refine zk_aload_n dX5_row_12 rfl ?_
  refine zk_getI dX5_row_13 fl_X5_200 (by decide : 0 < zm.1) rfl rfl ?_
  rw [hK]
  refine zk_bipush dX5_row_16 zb_16 ?_
  refine zk_icmp_ne (tgt := 24) dX5_row_18 (by decide) (fun _ => ?_) (fun h18 => absurd h18 (fun e => by have := zs_nI_inj (b := 16) (by omega) (by decide) e; omega))
  refine zk_iload_n dX5_row_24 rfl ?_
  refine zk_if_eq (tgt := 34) dX5_row_25 (by decide) (fun _ => ?_) (fun h25 => absurd (rfl) h25)
  refine zk_aload_n dX5_row_34 rfl ?_
  refine zk_getRc (q := 7) dX5_row_35 fl_X5_28 (by decide : 0 < zm.1) rfl rfl rfl ?_
  refine zk_aload_n dX5_row_38 rfl ?_
  refine zk_getI dX5_row_39 fl_X5_200 (by decide : 0 < zm.1) rfl rfl ?_
  rw [hK]
  refine zk_iload_n dX5_row_42 rfl ?_
  refine zk_iast (j := k) dX5_row_43 (by decide : 7 < zm.1) rfl (zs_in rfl (vp_in_nI hk (by decide))) (nI_clamp (by omega)) ?_
  refine zk_aload_n dX5_row_44 rfl ?_
  refine zk_dup dX5_row_45 rfl ?_
  refine zk_getI dX5_row_46 fl_X5_200 (by decide : 0 < zm.1) rfl rfl ?_
  rw [show (va_up M 7 (va_up (M 7) k v)) 0 = M 0 from zk_up_ne (by decide), hK]
  refine zk_iconst dX5_row_49 zc_1 ?_
  refine zk_iadd dX5_row_50 ?_
  refine zk_putG dX5_row_51 fl_X5_200 ft_5_10 rfl rfl (by decide : 0 < zm.1) rfl rfl ?_
  refine zk_aload_n dX5_row_54 rfl ?_
  refine zk_getI dX5_row_55 fl_X5_200 (by decide : 0 < zm.1) rfl rfl ?_
  refine zk_iret rfl dX5_row_58 ?_
  refine ⟨?_, ?_⟩
  · rw [zk_up_eq, zk_up_eq, nI_succ]
  · rw [zu_rowM, nI_succ]; exact zs_sm.rf
set_option maxRecDepth 100000 in
set_option maxHeartbeats 4000000 in
theorem qX5_clear_t {l : Launch} {M : zk_M} {L : zk_L}  : zk_C l zm 0 muX5_clear [.ref 0] M L (zp_i (M 0 10) (zu_clM M)) := by
  refine zk_ofR (ls := [some (.ref 0), none]) (by decide) rfl (Nat.le_of_ble_eq_true rfl) rfl ?_
  refine zk_aload_n dX5_clear_0 rfl ?_
  refine zk_getI dX5_clear_1 fl_X5_200 (by decide : 0 < zm.1) rfl rfl ?_
  refine zk_istore_n dX5_clear_4 zk_S_1 ?_
  refine zk_aload_n dX5_clear_5 rfl ?_
  refine zk_iconst dX5_clear_6 zc_0 ?_
  refine zk_putG dX5_clear_7 fl_X5_200 ft_5_10 rfl rfl (by decide : 0 < zm.1) rfl rfl ?_
  refine zk_iload_n dX5_clear_10 rfl ?_
  refine zk_iret rfl dX5_clear_11 ?_
  exact ⟨rfl, zs_sm.rf⟩
def zu_fwr (F : Nat → Nat → Int32) (R : Nat → Int32) (n : Nat) : Nat → Nat → Int32
  | 0, _ => -9
  | m + 1, i => if i < n ∧ F i 4 = R i then zu_fwr F R n m (i + 1) else nI i
theorem zs_isr_n {n i : Nat} (hi : i < 2 ^ 31) (hn : n < 2 ^ 31) : zs_isr (nI n) (nI i) ↔ i < n := ⟨fun h => Classical.byContradiction (fun q => absurd h.2 (nI_nlt (by omega) hi)), fun h => ⟨nI_pos' hi, nI_lt h hn⟩⟩
set_option maxRecDepth 100000 in
set_option maxHeartbeats 4000000 in
theorem lX5_judge {l : Launch} {M : zk_M} {L : zk_L} {n : Nat} (hA : zs_A (M 1) n) {k : Nat} (hk : k ≤ 16) {v : Int32} : ∀ (m i : Nat), i + m = k → v = zu_fwr (fun p => zs_get (M 1) p) (M 7) n m i → zk_R l zm 2 muX5_judge 12 [some (.ref 0), some (.int (nI k)), some (.int (nI i))] [] M L (zp_i v M) := by
  have hn6 := hA.1
  intro m
  induction m with
  | zero =>
    intro i hi ek
    obtain rfl : i = k := by omega
    refine zk_iload_n dX5_judge_12 rfl ?_
    refine zk_iload_n dX5_judge_13 rfl ?_
    refine zk_icmp_ge (tgt := 52) dX5_judge_14 (by decide) (fun _ => ?_) (fun q => absurd (nI_le (Nat.le_refl _) (by omega)) q)
    refine zk_bipush (v := -9) dX5_judge_52 (by decide) ?_
    refine zk_iret rfl dX5_judge_54 ?_
    exact ⟨by rw [ek]; rfl, zs_sm.rf⟩
  | succ m ih =>
    intro i him ek
    have hi : i < k := by omega
    refine zk_iload_n dX5_judge_12 rfl ?_
    refine zk_iload_n dX5_judge_13 rfl ?_
    refine zk_icmp_ge (tgt := 52) dX5_judge_14 (by decide) (fun h14 => absurd h14 (nI_ge hi (by omega))) (fun _ => ?_)
    refine zk_aload_n dX5_judge_17 rfl ?_
    refine zk_iload_n dX5_judge_18 rfl ?_
    refine zk_cVi (qX5_isRider hA.1 hA.2.1) dX5_judge_19 mwX5_isRider ml_X5_118 (by decide : 0 < zm.1) rfl rfl (by decide) rfl (Nat.le_of_ble_eq_true rfl) ?_
    refine zk_if_eq (tgt := 44) dX5_judge_22 (by decide) (fun h22 => ?_) (fun h22 => ?_)
    · have hr := zs_if0 h22
      refine zk_iload_n dX5_judge_44 rfl ?_
      refine zk_iret rfl dX5_judge_45 ?_
      refine ⟨?_, zs_sm.rf⟩
      rw [ek, zu_fwr]
      first
        | exact congrArg (fun v => some (Value.int v)) (if_neg (fun q => h41 q.2)).symm
        | exact congrArg (fun v => some (Value.int v)) (if_neg (fun q => hr ((zs_isr_n (by omega) (by omega)).mpr q.1))).symm
    · have hr := zs_if1 h22
      refine zk_aload_n dX5_judge_25 rfl ?_
      refine zk_getRc (q := 1) dX5_judge_26 fl_X5_9 (by decide : 0 < zm.1) rfl rfl rfl ?_
      refine zk_iload_n dX5_judge_29 rfl ?_
      refine zk_iconst dX5_judge_30 zc_4 ?_
      refine zk_cSi (qX5_of (p := i) (k := 4)) dX5_judge_31 miX5_of ml_X5_58 stX5_of rfl (by decide) rfl (Nat.le_of_ble_eq_true rfl) ?_
      have hi6 : i < 6 := by have := (zs_isr_n (by omega) (by omega)).mp hr; omega
      refine zk_iald (j := 10 + 7 * i + 4) dX5_judge_34 (by decide : 1 < zm.1) rfl (zs_in rfl (vp_in_nI (zs_7p hi6 (show 4 < 7 by decide)) (by decide))) (nI_clamp (by omega)) ?_
      refine zk_aload_n dX5_judge_35 rfl ?_
      refine zk_getRc (q := 7) dX5_judge_36 fl_X5_28 (by decide : 0 < zm.1) rfl rfl rfl ?_
      refine zk_iload_n dX5_judge_39 rfl ?_
      refine zk_iald (j := i) dX5_judge_40 (by decide : 7 < zm.1) rfl (zs_in rfl (vp_in_nI (show i < 16 by omega) (by decide))) (nI_clamp (by omega)) ?_
      refine zk_icmp_eq (tgt := 46) dX5_judge_41 (by decide) (fun h41 => ?_) (fun h41 => ?_)
      · refine zk_iinc dX5_judge_46 zc_1 rfl zk_S_2 ?_
        refine zk_goto (tgt := 12) dX5_judge_49 (by decide) ?_
        rw [← nI_succ]
        exact ih (i + 1) (by omega) (by rw [ek, zu_fwr, if_pos ⟨(zs_isr_n (by omega) (by omega)).mp hr, h41⟩])
      · refine zk_iload_n dX5_judge_44 rfl ?_
        refine zk_iret rfl dX5_judge_45 ?_
        refine ⟨?_, zs_sm.rf⟩
        rw [ek, zu_fwr]
        first
          | exact congrArg (fun v => some (Value.int v)) (if_neg (fun q => h41 q.2)).symm
          | exact congrArg (fun v => some (Value.int v)) (if_neg (fun q => hr ((zs_isr_n (by omega) (by omega)).mpr q.1))).symm
set_option maxRecDepth 100000 in
set_option maxHeartbeats 4000000 in
theorem qX5_judge_t {l : Launch} {M : zk_M} {L : zk_L} {n : Nat} (hA : zs_A (M 1) n) {k : Nat} (hK : zs_KM M k) : zk_C l zm 2 muX5_judge [.ref 0] M L (zp_i (zu_fwr (fun p => zs_get (M 1) p) (M 7) n k 0) (zu_clM M)) := by
  refine zk_ofR (ls := [some (.ref 0), none, none]) (by decide) rfl (Nat.le_of_ble_eq_true rfl) rfl ?_
  refine zk_aload_n dX5_judge_0 rfl ?_
  refine zk_getI dX5_judge_1 fl_X5_200 (by decide : 0 < zm.1) rfl rfl ?_
  rw [hK.2]
  refine zk_istore_n dX5_judge_4 zk_S_1 ?_
  refine zk_aload_n dX5_judge_5 rfl ?_
  refine zk_iconst dX5_judge_6 zc_0 ?_
  refine zk_putG dX5_judge_7 fl_X5_200 ft_5_10 rfl rfl (by decide : 0 < zm.1) rfl rfl ?_
  refine zk_iconst dX5_judge_10 zc_0 ?_
  refine zk_istore_n dX5_judge_11 zk_S_2 ?_
  have e1 : zu_clM M 1 = M 1 := zk_up_ne (by decide)
  have e7 : zu_clM M 7 = M 7 := zk_up_ne (by decide)
  refine lX5_judge (M := zu_clM M) (n := n) (by rw [e1]; exact hA) hK.1 k 0 (by omega) ?_
  rw [e1, e7]
theorem zs_V.set {M : zk_M} {n : Nat} {J T : Nat → Int32} {F : Nat → Nat → Int32} (h : zs_V M n J T F) {p k : Nat} {v : Int32} (hp : p < n) (hk : k < 7) (ok : zs_okk (va_up (F p) k v)) : zs_V (va_up M 2 (va_up (M 2) (10 + 7 * p + k) v)) n J T (fun q => if q = p then va_up (F p) k v else F q) := by
  obtain ⟨h1, h2, h3, h4⟩ := h
  have hp6 : p < 6 := Nat.lt_of_lt_of_le hp h1.1
  have e1 : zs_ag 7 (zs_get (va_up (M 2) (10 + 7 * p + k) v) p) (va_up (F p) k v) := fun i hi => by
    have := h4 p hp i hi
    simp only [zs_get, va_up] at this ⊢
    by_cases e : i = k
    · rw [if_pos (by omega), if_pos e]
    · rw [if_neg (by omega), if_neg e]; exact this
  have e2 : ∀ q, q < 6 → q ≠ p → zs_ag 7 (zs_get (va_up (M 2) (10 + 7 * p + k) v) q) (zs_get (M 2) q) := fun q hq hqp i hi => by
    simp only [zs_get, va_up]
    rw [if_neg (by omega)]
  refine ⟨⟨h1.1, ?_, fun q hq => ?_⟩, fun i hi => ?_, ?_, fun q hq => ?_⟩
  · rw [zk_up_eq, zk_up_ne (by omega)]; exact h1.2.1
  · rw [zk_up_eq]
    by_cases e : q = p
    · subst e; exact zs_okk_ag e1.sm ok
    · exact zs_okk_ag (e2 q hq e).sm (h1.2.2 q hq)
  · rw [zk_up_eq]
    have := h2 i hi
    simp only [zs_J, va_up] at this ⊢
    rw [if_neg (by omega)]; exact this
  · rw [zk_up_ne (by decide)]; exact h3
  · rw [zk_up_eq]
    show zs_ag 7 _ (if q = p then va_up (F p) k v else F q)
    by_cases e : q = p
    · subst e; rw [if_pos rfl]; exact e1
    · rw [if_neg e]; exact (e2 q (Nat.lt_of_lt_of_le hq h1.1) e).tr (h4 q hq)
theorem zs_okk0 {f : Nat → Int32} {i : Nat} (h : zs_okk f) (hi : i < 6) : zs_okk (va_up f 0 (nI i)) := ⟨zs_ok_up h.1 (by decide) (by decide) (by decide), by rw [zk_up_eq]; exact ⟨nI_pos' (by omega), nI_lt (b := 6) hi (by decide)⟩⟩
def zu_wwf (J T R f : Nat → Int32) (kk k i : Nat) (x : Int32) : Int32 := x ||| (if zs_mfr J T R kk 0 (va_up f k (nI i)) = true then 1 <<< (nI i &&& 31) else 0)
set_option maxRecDepth 100000 in
set_option maxHeartbeats 4000000 in
theorem lX5_ww1g {l : Launch} {M0 : zk_M} {n p kk : Nat} (hK : zs_KM M0 kk) (hp : p < n) (hp6 : p < 6) {J T : Nat → Int32} {s : Int32} {i : Nat} {Q : Option Value → zk_M → zk_L → Prop} : ∀ (m j : Nat) (b : Bool) (F : Nat → Nat → Int32) (M : zk_M) (L : zk_L), j + m = kk → zs_sm M0 M → zs_V M n J T F → (∀ M' L', zs_sm M0 M' → zk_R l zm 6 muX5_whatWanted 136 [some (.ref 0), some (.int (nI p)), some (.int 0), some (.int s), some (.int (nI i)), some (.int (zs_bi (b && zs_mfr J T (M0 7) m j (F p)))), none] [] M' L' Q) → zk_R l zm 6 muX5_whatWanted 82 [some (.ref 0), some (.int (nI p)), some (.int 0), some (.int s), some (.int (nI i)), some (.int (zs_bi b)), some (.int (nI j))] [] M L Q := by
  have hk16 := hK.1
  intro m
  induction m with
  | zero =>
    intro j b F M L hj hs hV k
    obtain rfl : j = kk := by omega
    refine zk_iload dX5_whatWanted_82 rfl ?_
    refine zk_aload_n dX5_whatWanted_84 rfl ?_
    refine zk_getI dX5_whatWanted_85 fl_X5_200 (by decide) rfl rfl ?_
    rw [(hK.sm hs).2]
    refine zk_icmp_ge (tgt := 136) dX5_whatWanted_88 (by decide) (fun _ => ?_) (fun q => absurd (nI_le (Nat.le_refl _) (by omega)) q)
    have := k M L hs
    rw [zs_mfr, Bool.and_true] at this
    refine zk_forget ?_ this
    exact ⟨Or.inr rfl, Or.inr rfl, Or.inr rfl, Or.inr rfl, Or.inr rfl, Or.inr rfl, Or.inl rfl, trivial⟩
  | succ m ih =>
    intro j b F M L hjm hs hV k
    have hj : j < kk := by omega
    refine zk_iload dX5_whatWanted_82 rfl ?_
    refine zk_aload_n dX5_whatWanted_84 rfl ?_
    refine zk_getI dX5_whatWanted_85 fl_X5_200 (by decide : 0 < zm.1) rfl rfl ?_
    rw [(hK.sm hs).2]
    refine zk_icmp_ge (tgt := 136) dX5_whatWanted_88 (by decide) (fun h88 => absurd h88 (nI_ge hj (by omega))) (fun _ => ?_)
    refine zk_iload dX5_whatWanted_91 rfl ?_
    refine zk_aload_n dX5_whatWanted_93 rfl ?_
    refine zk_getRc (q := 2) dX5_whatWanted_94 fl_X5_13 (by decide : 0 < zm.1) rfl rfl rfl ?_
    refine zk_iload_n dX5_whatWanted_97 rfl ?_
    refine zk_iconst dX5_whatWanted_98 zc_4 ?_
    refine zk_cSi (qX5_of (p := p) (k := 4)) dX5_whatWanted_99 miX5_of ml_X5_58 stX5_of rfl (by decide) rfl (Nat.le_of_ble_eq_true rfl) ?_
    refine zk_iald (j := 10 + 7 * p + 4) dX5_whatWanted_102 (by decide : 2 < zm.1) rfl (zs_in rfl (vp_in_nI (zs_7p hp6 (show 4 < 7 by decide)) (by decide))) (nI_clamp (by omega)) ?_
    rw [hV.at hp (by decide)]
    refine zk_aload_n dX5_whatWanted_103 rfl ?_
    refine zk_getRc (q := 7) dX5_whatWanted_104 fl_X5_28 (by decide : 0 < zm.1) rfl rfl rfl ?_
    refine zk_iload dX5_whatWanted_107 rfl ?_
    refine zk_iald (j := j) dX5_whatWanted_109 (by decide : 7 < zm.1) rfl (zs_in rfl (vp_in_nI (show j < 16 by omega) (by decide))) (nI_clamp (by omega)) ?_
    rw [hs.2.2.2.1]
    refine zk_icmp_ne (tgt := 117) dX5_whatWanted_110 (by decide) (fun h110 => ?_) (fun h110 => ?_)
    · refine zk_iconst dX5_whatWanted_117 zc_0 ?_
      refine zk_iand dX5_whatWanted_118 ?_
      refine zk_istore dX5_whatWanted_119 zk_S_5 ?_
      refine zk_aload_n dX5_whatWanted_121 rfl ?_
      refine zk_aload_n dX5_whatWanted_122 rfl ?_
      refine zk_getRc (q := 2) dX5_whatWanted_123 fl_X5_13 (by decide : 0 < zm.1) rfl rfl rfl ?_
      refine zk_iconst dX5_whatWanted_126 zc_0 ?_
      refine zk_callV (qd_day hs hV) dX5_whatWanted_127 mwX5_day ml_X5_76 (by decide : 0 < zm.1) rfl rfl (by decide) rfl (Nat.le_of_ble_eq_true rfl) (fun r1 M1 L1 h1 => ?_)
      obtain ⟨rfl, hs1, hV1⟩ := h1
      refine zk_iinc dX5_whatWanted_130 zc_1 rfl zk_S_6 ?_
      refine zk_goto (tgt := 82) dX5_whatWanted_133 (by decide) ?_
      rw [← nI_succ]
      first
        | (have e : zs_bi b &&& (1 : Int32) = zs_bi (b && decide (M0 7 j = F p 4)) := by rw [decide_eq_true h110.symm]; exact zs_bi_and (b := true)
           rw [e]
           refine ih (j + 1) _ _ M1 L1 (by omega) hs1 hV1 (fun M' L' h' => ?_)
           have := k M' L' h'
           rw [zs_mfr, if_pos h110.symm] at this
           rw [zs_dF0, decide_eq_true h110.symm, Bool.and_true]
           exact this)
        | (have e : zs_bi b &&& (0 : Int32) = zs_bi (b && decide (M0 7 j = F p 4)) := by rw [decide_eq_false (fun q => h110 q.symm)]; exact zs_bi_and (b := false)
           rw [e]
           refine ih (j + 1) _ _ M1 L1 (by omega) hs1 hV1 (fun M' L' h' => ?_)
           have := k M' L' h'
           rw [zs_mfr, if_neg (fun q => h110 q.symm), Bool.and_false] at this
           rw [decide_eq_false (fun q => h110 q.symm), Bool.and_false, Bool.false_and]
           exact this)
    · refine zk_iconst dX5_whatWanted_113 zc_1 ?_
      refine zk_goto (tgt := 118) dX5_whatWanted_114 (by decide) ?_
      refine zk_iand dX5_whatWanted_118 ?_
      refine zk_istore dX5_whatWanted_119 zk_S_5 ?_
      refine zk_aload_n dX5_whatWanted_121 rfl ?_
      refine zk_aload_n dX5_whatWanted_122 rfl ?_
      refine zk_getRc (q := 2) dX5_whatWanted_123 fl_X5_13 (by decide : 0 < zm.1) rfl rfl rfl ?_
      refine zk_iconst dX5_whatWanted_126 zc_0 ?_
      refine zk_callV (qd_day hs hV) dX5_whatWanted_127 mwX5_day ml_X5_76 (by decide : 0 < zm.1) rfl rfl (by decide) rfl (Nat.le_of_ble_eq_true rfl) (fun r1 M1 L1 h1 => ?_)
      obtain ⟨rfl, hs1, hV1⟩ := h1
      refine zk_iinc dX5_whatWanted_130 zc_1 rfl zk_S_6 ?_
      refine zk_goto (tgt := 82) dX5_whatWanted_133 (by decide) ?_
      rw [← nI_succ]
      first
        | (have e : zs_bi b &&& (1 : Int32) = zs_bi (b && decide (M0 7 j = F p 4)) := by rw [decide_eq_true h110.symm]; exact zs_bi_and (b := true)
           rw [e]
           refine ih (j + 1) _ _ M1 L1 (by omega) hs1 hV1 (fun M' L' h' => ?_)
           have := k M' L' h'
           rw [zs_mfr, if_pos h110.symm] at this
           rw [zs_dF0, decide_eq_true h110.symm, Bool.and_true]
           exact this)
        | (have e : zs_bi b &&& (0 : Int32) = zs_bi (b && decide (M0 7 j = F p 4)) := by rw [decide_eq_false (fun q => h110 q.symm)]; exact zs_bi_and (b := false)
           rw [e]
           refine ih (j + 1) _ _ M1 L1 (by omega) hs1 hV1 (fun M' L' h' => ?_)
           have := k M' L' h'
           rw [zs_mfr, if_neg (fun q => h110 q.symm), Bool.and_false] at this
           rw [decide_eq_false (fun q => h110 q.symm), Bool.and_false, Bool.false_and]
           exact this)
set_option maxRecDepth 100000 in
set_option maxHeartbeats 4000000 in
theorem lX5_ww2g {l : Launch} {M0 : zk_M} {n p kk : Nat} (hA : zs_A (M0 1) n) (hK : zs_KM M0 kk) (hp : p < n) {Q : Option Value → zk_M → zk_L → Prop} : ∀ (m i : Nat) (s : Int32) (M : zk_M) (L : zk_L), i + m = 8 → zs_sm M0 M → (∀ M' L', zs_sm M0 M' → zk_R l zm 6 muX5_whatWanted 158 [some (.ref 0), some (.int (nI p)), some (.int 0), some (.int (zs_for (zu_wwf (zs_J (M0 1)) (zs_FW (zs_J (M0 1))) (M0 7) (zs_get (M0 1) p) kk 2) m i s)), none, none, none] [] M' L' Q) → zk_R l zm 6 muX5_whatWanted 35 [some (.ref 0), some (.int (nI p)), some (.int 0), some (.int s), some (.int (nI i)), none, none] [] M L Q := by
  have hp6 : p < 6 := Nat.lt_of_lt_of_le hp hA.1
  intro m
  induction m with
  | zero =>
    intro i s M L hi hs k
    obtain rfl : i = 8 := by omega
    refine zk_iload dX5_whatWanted_35 rfl ?_
    refine zk_iload_n dX5_whatWanted_37 rfl ?_
    refine zk_if_ne (tgt := 46) dX5_whatWanted_38 (by decide) (fun q => absurd rfl q) (fun _ => ?_)
    refine zk_bipush (v := 8) dX5_whatWanted_41 (by decide) ?_
    refine zk_goto (tgt := 48) dX5_whatWanted_43 (by decide) ?_
    refine zk_icmp_ge (tgt := 158) dX5_whatWanted_48 (by decide) (fun _ => ?_) (fun q => absurd (by decide) q)
    refine zk_forget ?_ (k M L hs)
    exact ⟨Or.inr rfl, Or.inr rfl, Or.inr rfl, Or.inr rfl, Or.inl rfl, Or.inl rfl, Or.inl rfl, trivial⟩
  | succ m ih =>
    intro i s M L him hs k
    have hi : i < 8 := by omega
    refine zk_iload dX5_whatWanted_35 rfl ?_
    refine zk_iload_n dX5_whatWanted_37 rfl ?_
    refine zk_if_ne (tgt := 46) dX5_whatWanted_38 (by decide) (fun h38 => absurd (rfl) h38) (fun _ => ?_)
    refine zk_bipush dX5_whatWanted_41 zb_8 ?_
    refine zk_goto (tgt := 48) dX5_whatWanted_43 (by decide) ?_
    refine zk_icmp_ge (tgt := 158) dX5_whatWanted_48 (by decide) (fun h48 => absurd h48 (nI_ge (b := 8) hi (by decide))) (fun _ => ?_)
    refine zk_iconst dX5_whatWanted_51 zc_1 ?_
    refine zk_istore dX5_whatWanted_52 zk_S_5 ?_
    refine zk_aload_n dX5_whatWanted_54 rfl ?_
    refine zk_iconst dX5_whatWanted_55 zc_0 ?_
    refine zk_callV (qX5_takes (t := 0) hA hs (by decide)) dX5_whatWanted_56 mwX5_takes ml_X5_148 (by decide : 0 < zm.1) rfl rfl (by decide) rfl (Nat.le_of_ble_eq_true rfl) (fun r1 M1 L1 h1 => ?_)
    obtain ⟨rfl, hs1, hV⟩ := h1
    refine zk_aload_n dX5_whatWanted_59 rfl ?_
    refine zk_getRc (q := 2) dX5_whatWanted_60 fl_X5_13 (by decide : 0 < zm.1) rfl rfl rfl ?_
    refine zk_iload_n dX5_whatWanted_63 rfl ?_
    refine zk_iload_n dX5_whatWanted_64 rfl ?_
    refine zk_if_ne (tgt := 72) dX5_whatWanted_65 (by decide) (fun h65 => absurd (rfl) h65) (fun _ => ?_)
    refine zk_iconst dX5_whatWanted_68 zc_2 ?_
    refine zk_goto (tgt := 73) dX5_whatWanted_69 (by decide) ?_
    refine zk_cSi (qX5_of (p := p) (k := 2)) dX5_whatWanted_73 miX5_of ml_X5_58 stX5_of rfl (by decide) rfl (Nat.le_of_ble_eq_true rfl) ?_
    refine zk_iload dX5_whatWanted_76 rfl ?_
    refine zk_iast (j := 10 + 7 * p + 2) dX5_whatWanted_78 (by decide : 2 < zm.1) rfl (zs_in rfl (vp_in_nI (zs_7p hp6 (show 2 < 7 by decide)) (by decide))) (nI_clamp (by omega)) ?_
    refine zk_iconst dX5_whatWanted_79 zc_0 ?_
    refine zk_istore dX5_whatWanted_80 zk_S_6 ?_
    have hV2 := hV.set hp (show 2 < 7 by decide) (v := nI i) (zs_okk2 (hA.2.2 p hp6) (zs_p_nI hi))
    refine lX5_ww1g hK hp hp6 kk 0 true _ _ _ (by omega) (hs1.up (by omega)) hV2 (fun M3 L3 hs3 => ?_)
    rw [if_pos rfl, Bool.true_and]
    show zk_R l zm 6 muX5_whatWanted 136 [some (.ref 0), some (.int (nI p)), some (.int 0), some (.int s), some (.int (nI i)), some (.int (zs_bi (zs_mfr (zs_J (M0 1)) (zs_FW (zs_J (M0 1))) (M0 7) kk 0 (va_up (zs_get (M0 1) p) 2 (nI i))))), none] [] M3 L3 Q
    refine zk_iload_n dX5_whatWanted_136 rfl ?_
    refine zk_iload dX5_whatWanted_137 rfl ?_
    refine zk_if_eq (tgt := 149) dX5_whatWanted_139 (by decide) (fun h139 => ?_) (fun h139 => ?_)
    · refine zk_iconst dX5_whatWanted_149 zc_0 ?_
      refine zk_ior dX5_whatWanted_150 ?_
      refine zk_istore_n dX5_whatWanted_151 zk_S_3 ?_
      refine zk_iinc dX5_whatWanted_152 zc_1 rfl zk_S_4 ?_
      refine zk_goto (tgt := 35) dX5_whatWanted_155 (by decide) ?_
      rw [← nI_succ]
      first
        | exact zk_forget (ls' := [some (.ref 0), some (.int (nI p)), some (.int 0), some (.int (s ||| 0)), some (.int (nI (i + 1))), none, none]) ⟨Or.inr rfl, Or.inr rfl, Or.inr rfl, Or.inr rfl, Or.inr rfl, Or.inl rfl, Or.inl rfl, trivial⟩ (ih (i + 1) _ M3 L3 (by omega) hs3 (fun M' L' h' => by
            have e : (zu_wwf (zs_J (M0 1)) (zs_FW (zs_J (M0 1))) (M0 7) (zs_get (M0 1) p) kk 2) i s = s ||| 0 := by rw [zu_wwf, if_neg (zs_bi0 h139)]
            have := k M' L' h'
            rw [zs_for, e] at this
            exact this))
        | exact zk_forget (ls' := [some (.ref 0), some (.int (nI p)), some (.int 0), some (.int (s ||| 1 <<< (nI i &&& 31))), some (.int (nI (i + 1))), none, none]) ⟨Or.inr rfl, Or.inr rfl, Or.inr rfl, Or.inr rfl, Or.inr rfl, Or.inl rfl, Or.inl rfl, trivial⟩ (ih (i + 1) _ M3 L3 (by omega) hs3 (fun M' L' h' => by
            have e : (zu_wwf (zs_J (M0 1)) (zs_FW (zs_J (M0 1))) (M0 7) (zs_get (M0 1) p) kk 2) i s = s ||| 1 <<< (nI i &&& 31) := by rw [zu_wwf, if_pos (zs_bi1 h139)]
            have := k M' L' h'
            rw [zs_for, e] at this
            exact this))
    · refine zk_iconst dX5_whatWanted_142 zc_1 ?_
      refine zk_iload dX5_whatWanted_143 rfl ?_
      refine zk_ishl dX5_whatWanted_145 ?_
      refine zk_goto (tgt := 150) dX5_whatWanted_146 (by decide) ?_
      refine zk_ior dX5_whatWanted_150 ?_
      refine zk_istore_n dX5_whatWanted_151 zk_S_3 ?_
      refine zk_iinc dX5_whatWanted_152 zc_1 rfl zk_S_4 ?_
      refine zk_goto (tgt := 35) dX5_whatWanted_155 (by decide) ?_
      rw [← nI_succ]
      first
        | exact zk_forget (ls' := [some (.ref 0), some (.int (nI p)), some (.int 0), some (.int (s ||| 0)), some (.int (nI (i + 1))), none, none]) ⟨Or.inr rfl, Or.inr rfl, Or.inr rfl, Or.inr rfl, Or.inr rfl, Or.inl rfl, Or.inl rfl, trivial⟩ (ih (i + 1) _ M3 L3 (by omega) hs3 (fun M' L' h' => by
            have e : (zu_wwf (zs_J (M0 1)) (zs_FW (zs_J (M0 1))) (M0 7) (zs_get (M0 1) p) kk 2) i s = s ||| 0 := by rw [zu_wwf, if_neg (zs_bi0 h139)]
            have := k M' L' h'
            rw [zs_for, e] at this
            exact this))
        | exact zk_forget (ls' := [some (.ref 0), some (.int (nI p)), some (.int 0), some (.int (s ||| 1 <<< (nI i &&& 31))), some (.int (nI (i + 1))), none, none]) ⟨Or.inr rfl, Or.inr rfl, Or.inr rfl, Or.inr rfl, Or.inr rfl, Or.inl rfl, Or.inl rfl, trivial⟩ (ih (i + 1) _ M3 L3 (by omega) hs3 (fun M' L' h' => by
            have e : (zu_wwf (zs_J (M0 1)) (zs_FW (zs_J (M0 1))) (M0 7) (zs_get (M0 1) p) kk 2) i s = s ||| 1 <<< (nI i &&& 31) := by rw [zu_wwf, if_pos (zs_bi1 h139)]
            have := k M' L' h'
            rw [zs_for, e] at this
            exact this))
set_option maxRecDepth 100000 in
set_option maxHeartbeats 4000000 in
theorem qX5_whatWanted_g {l : Launch} {M : zk_M} {L : zk_L} {n : Nat} (hA : zs_A (M 1) n) {p : Nat} (hp : p < n) {kk : Nat} (hK : zs_KM M kk) : zk_C l zm 6 muX5_whatWanted [.ref 0, .int (nI p), .int 0] M L (zp_i (zs_for (zu_wwf (zs_J (M 1)) (zs_FW (zs_J (M 1))) (M 7) (zs_get (M 1) p) kk 2) 8 0 0) M) := by
  refine zk_ofR (ls := [some (.ref 0), some (.int (nI p)), some (.int 0), none, none, none, none]) (by decide) rfl (Nat.le_of_ble_eq_true rfl) rfl ?_
  refine zk_aload_n dX5_whatWanted_0 rfl ?_
  refine zk_iload_n dX5_whatWanted_1 rfl ?_
  refine zk_cVi (qX5_isRider_t hA.1 hA.2.1 hp) dX5_whatWanted_2 mwX5_isRider ml_X5_118 (by decide : 0 < zm.1) rfl rfl (by decide) rfl (Nat.le_of_ble_eq_true rfl) ?_
  refine zk_if_ne (tgt := 14) dX5_whatWanted_5 (by decide) (fun _ => ?_) (fun h5 => absurd h5 (by decide))
  refine zk_iload_n dX5_whatWanted_14 rfl ?_
  refine zk_iconst dX5_whatWanted_15 zc_0 ?_
  refine zk_iconst dX5_whatWanted_16 zc_1 ?_
  refine zk_cSi (qX5_01_t (by decide)) dX5_whatWanted_17 miX5_isIn ml_X5_46 stX5_isIn rfl (by decide) rfl (Nat.le_of_ble_eq_true rfl) ?_
  refine zk_if_ne (tgt := 30) dX5_whatWanted_20 (by decide) (fun _ => ?_) (fun h20 => absurd h20 (by decide))
  refine zk_iconst dX5_whatWanted_30 zc_0 ?_
  refine zk_istore_n dX5_whatWanted_31 zk_S_3 ?_
  refine zk_iconst dX5_whatWanted_32 zc_0 ?_
  refine zk_istore dX5_whatWanted_33 zk_S_4 ?_
  refine lX5_ww2g hA hK hp 8 0 0 M L rfl zs_sm.rf (fun M' L' h' => ?_)
  refine zk_iload_n dX5_whatWanted_158 rfl ?_
  refine zk_iret rfl dX5_whatWanted_159 ?_
  exact ⟨rfl, h'⟩
set_option maxRecDepth 100000 in
set_option maxHeartbeats 4000000 in
theorem lX5_ww1k {l : Launch} {M0 : zk_M} {n p kk : Nat} (hK : zs_KM M0 kk) (hp : p < n) (hp6 : p < 6) {J T : Nat → Int32} {s : Int32} {i : Nat} {Q : Option Value → zk_M → zk_L → Prop} : ∀ (m j : Nat) (b : Bool) (F : Nat → Nat → Int32) (M : zk_M) (L : zk_L), j + m = kk → zs_sm M0 M → zs_V M n J T F → (∀ M' L', zs_sm M0 M' → zk_R l zm 6 muX5_whatWanted 136 [some (.ref 0), some (.int (nI p)), some (.int 1), some (.int s), some (.int (nI i)), some (.int (zs_bi (b && zs_mfr J T (M0 7) m j (F p)))), none] [] M' L' Q) → zk_R l zm 6 muX5_whatWanted 82 [some (.ref 0), some (.int (nI p)), some (.int 1), some (.int s), some (.int (nI i)), some (.int (zs_bi b)), some (.int (nI j))] [] M L Q := by
  have hk16 := hK.1
  intro m
  induction m with
  | zero =>
    intro j b F M L hj hs hV k
    obtain rfl : j = kk := by omega
    refine zk_iload dX5_whatWanted_82 rfl ?_
    refine zk_aload_n dX5_whatWanted_84 rfl ?_
    refine zk_getI dX5_whatWanted_85 fl_X5_200 (by decide) rfl rfl ?_
    rw [(hK.sm hs).2]
    refine zk_icmp_ge (tgt := 136) dX5_whatWanted_88 (by decide) (fun _ => ?_) (fun q => absurd (nI_le (Nat.le_refl _) (by omega)) q)
    have := k M L hs
    rw [zs_mfr, Bool.and_true] at this
    refine zk_forget ?_ this
    exact ⟨Or.inr rfl, Or.inr rfl, Or.inr rfl, Or.inr rfl, Or.inr rfl, Or.inr rfl, Or.inl rfl, trivial⟩
  | succ m ih =>
    intro j b F M L hjm hs hV k
    have hj : j < kk := by omega
    refine zk_iload dX5_whatWanted_82 rfl ?_
    refine zk_aload_n dX5_whatWanted_84 rfl ?_
    refine zk_getI dX5_whatWanted_85 fl_X5_200 (by decide : 0 < zm.1) rfl rfl ?_
    rw [(hK.sm hs).2]
    refine zk_icmp_ge (tgt := 136) dX5_whatWanted_88 (by decide) (fun h88 => absurd h88 (nI_ge hj (by omega))) (fun _ => ?_)
    refine zk_iload dX5_whatWanted_91 rfl ?_
    refine zk_aload_n dX5_whatWanted_93 rfl ?_
    refine zk_getRc (q := 2) dX5_whatWanted_94 fl_X5_13 (by decide : 0 < zm.1) rfl rfl rfl ?_
    refine zk_iload_n dX5_whatWanted_97 rfl ?_
    refine zk_iconst dX5_whatWanted_98 zc_4 ?_
    refine zk_cSi (qX5_of (p := p) (k := 4)) dX5_whatWanted_99 miX5_of ml_X5_58 stX5_of rfl (by decide) rfl (Nat.le_of_ble_eq_true rfl) ?_
    refine zk_iald (j := 10 + 7 * p + 4) dX5_whatWanted_102 (by decide : 2 < zm.1) rfl (zs_in rfl (vp_in_nI (zs_7p hp6 (show 4 < 7 by decide)) (by decide))) (nI_clamp (by omega)) ?_
    rw [hV.at hp (by decide)]
    refine zk_aload_n dX5_whatWanted_103 rfl ?_
    refine zk_getRc (q := 7) dX5_whatWanted_104 fl_X5_28 (by decide : 0 < zm.1) rfl rfl rfl ?_
    refine zk_iload dX5_whatWanted_107 rfl ?_
    refine zk_iald (j := j) dX5_whatWanted_109 (by decide : 7 < zm.1) rfl (zs_in rfl (vp_in_nI (show j < 16 by omega) (by decide))) (nI_clamp (by omega)) ?_
    rw [hs.2.2.2.1]
    refine zk_icmp_ne (tgt := 117) dX5_whatWanted_110 (by decide) (fun h110 => ?_) (fun h110 => ?_)
    · refine zk_iconst dX5_whatWanted_117 zc_0 ?_
      refine zk_iand dX5_whatWanted_118 ?_
      refine zk_istore dX5_whatWanted_119 zk_S_5 ?_
      refine zk_aload_n dX5_whatWanted_121 rfl ?_
      refine zk_aload_n dX5_whatWanted_122 rfl ?_
      refine zk_getRc (q := 2) dX5_whatWanted_123 fl_X5_13 (by decide : 0 < zm.1) rfl rfl rfl ?_
      refine zk_iconst dX5_whatWanted_126 zc_0 ?_
      refine zk_callV (qd_day hs hV) dX5_whatWanted_127 mwX5_day ml_X5_76 (by decide : 0 < zm.1) rfl rfl (by decide) rfl (Nat.le_of_ble_eq_true rfl) (fun r1 M1 L1 h1 => ?_)
      obtain ⟨rfl, hs1, hV1⟩ := h1
      refine zk_iinc dX5_whatWanted_130 zc_1 rfl zk_S_6 ?_
      refine zk_goto (tgt := 82) dX5_whatWanted_133 (by decide) ?_
      rw [← nI_succ]
      first
        | (have e : zs_bi b &&& (1 : Int32) = zs_bi (b && decide (M0 7 j = F p 4)) := by rw [decide_eq_true h110.symm]; exact zs_bi_and (b := true)
           rw [e]
           refine ih (j + 1) _ _ M1 L1 (by omega) hs1 hV1 (fun M' L' h' => ?_)
           have := k M' L' h'
           rw [zs_mfr, if_pos h110.symm] at this
           rw [zs_dF0, decide_eq_true h110.symm, Bool.and_true]
           exact this)
        | (have e : zs_bi b &&& (0 : Int32) = zs_bi (b && decide (M0 7 j = F p 4)) := by rw [decide_eq_false (fun q => h110 q.symm)]; exact zs_bi_and (b := false)
           rw [e]
           refine ih (j + 1) _ _ M1 L1 (by omega) hs1 hV1 (fun M' L' h' => ?_)
           have := k M' L' h'
           rw [zs_mfr, if_neg (fun q => h110 q.symm), Bool.and_false] at this
           rw [decide_eq_false (fun q => h110 q.symm), Bool.and_false, Bool.false_and]
           exact this)
    · refine zk_iconst dX5_whatWanted_113 zc_1 ?_
      refine zk_goto (tgt := 118) dX5_whatWanted_114 (by decide) ?_
      refine zk_iand dX5_whatWanted_118 ?_
      refine zk_istore dX5_whatWanted_119 zk_S_5 ?_
      refine zk_aload_n dX5_whatWanted_121 rfl ?_
      refine zk_aload_n dX5_whatWanted_122 rfl ?_
      refine zk_getRc (q := 2) dX5_whatWanted_123 fl_X5_13 (by decide : 0 < zm.1) rfl rfl rfl ?_
      refine zk_iconst dX5_whatWanted_126 zc_0 ?_
      refine zk_callV (qd_day hs hV) dX5_whatWanted_127 mwX5_day ml_X5_76 (by decide : 0 < zm.1) rfl rfl (by decide) rfl (Nat.le_of_ble_eq_true rfl) (fun r1 M1 L1 h1 => ?_)
      obtain ⟨rfl, hs1, hV1⟩ := h1
      refine zk_iinc dX5_whatWanted_130 zc_1 rfl zk_S_6 ?_
      refine zk_goto (tgt := 82) dX5_whatWanted_133 (by decide) ?_
      rw [← nI_succ]
      first
        | (have e : zs_bi b &&& (1 : Int32) = zs_bi (b && decide (M0 7 j = F p 4)) := by rw [decide_eq_true h110.symm]; exact zs_bi_and (b := true)
           rw [e]
           refine ih (j + 1) _ _ M1 L1 (by omega) hs1 hV1 (fun M' L' h' => ?_)
           have := k M' L' h'
           rw [zs_mfr, if_pos h110.symm] at this
           rw [zs_dF0, decide_eq_true h110.symm, Bool.and_true]
           exact this)
        | (have e : zs_bi b &&& (0 : Int32) = zs_bi (b && decide (M0 7 j = F p 4)) := by rw [decide_eq_false (fun q => h110 q.symm)]; exact zs_bi_and (b := false)
           rw [e]
           refine ih (j + 1) _ _ M1 L1 (by omega) hs1 hV1 (fun M' L' h' => ?_)
           have := k M' L' h'
           rw [zs_mfr, if_neg (fun q => h110 q.symm), Bool.and_false] at this
           rw [decide_eq_false (fun q => h110 q.symm), Bool.and_false, Bool.false_and]
           exact this)
set_option maxRecDepth 100000 in
set_option maxHeartbeats 4000000 in
theorem lX5_ww2k {l : Launch} {M0 : zk_M} {n p kk : Nat} (hA : zs_A (M0 1) n) (hK : zs_KM M0 kk) (hp : p < n) {Q : Option Value → zk_M → zk_L → Prop} : ∀ (m i : Nat) (s : Int32) (M : zk_M) (L : zk_L), i + m = 6 → zs_sm M0 M → (∀ M' L', zs_sm M0 M' → zk_R l zm 6 muX5_whatWanted 158 [some (.ref 0), some (.int (nI p)), some (.int 1), some (.int (zs_for (zu_wwf (zs_J (M0 1)) (zs_FW (zs_J (M0 1))) (M0 7) (zs_get (M0 1) p) kk 0) m i s)), none, none, none] [] M' L' Q) → zk_R l zm 6 muX5_whatWanted 35 [some (.ref 0), some (.int (nI p)), some (.int 1), some (.int s), some (.int (nI i)), none, none] [] M L Q := by
  have hp6 : p < 6 := Nat.lt_of_lt_of_le hp hA.1
  intro m
  induction m with
  | zero =>
    intro i s M L hi hs k
    obtain rfl : i = 6 := by omega
    refine zk_iload dX5_whatWanted_35 rfl ?_
    refine zk_iload_n dX5_whatWanted_37 rfl ?_
    refine zk_if_ne (tgt := 46) dX5_whatWanted_38 (by decide) (fun _ => ?_) (fun q => absurd q (by decide))
    refine zk_bipush (v := 6) dX5_whatWanted_46 (by decide) ?_
    refine zk_icmp_ge (tgt := 158) dX5_whatWanted_48 (by decide) (fun _ => ?_) (fun q => absurd (by decide) q)
    refine zk_forget ?_ (k M L hs)
    exact ⟨Or.inr rfl, Or.inr rfl, Or.inr rfl, Or.inr rfl, Or.inl rfl, Or.inl rfl, Or.inl rfl, trivial⟩
  | succ m ih =>
    intro i s M L him hs k
    have hi : i < 6 := by omega
    refine zk_iload dX5_whatWanted_35 rfl ?_
    refine zk_iload_n dX5_whatWanted_37 rfl ?_
    refine zk_if_ne (tgt := 46) dX5_whatWanted_38 (by decide) (fun _ => ?_) (fun h38 => absurd h38 (by decide))
    refine zk_bipush dX5_whatWanted_46 zb_6 ?_
    refine zk_icmp_ge (tgt := 158) dX5_whatWanted_48 (by decide) (fun h48 => absurd h48 (nI_ge (b := 6) hi (by decide))) (fun _ => ?_)
    refine zk_iconst dX5_whatWanted_51 zc_1 ?_
    refine zk_istore dX5_whatWanted_52 zk_S_5 ?_
    refine zk_aload_n dX5_whatWanted_54 rfl ?_
    refine zk_iconst dX5_whatWanted_55 zc_0 ?_
    refine zk_callV (qX5_takes (t := 0) hA hs (by decide)) dX5_whatWanted_56 mwX5_takes ml_X5_148 (by decide : 0 < zm.1) rfl rfl (by decide) rfl (Nat.le_of_ble_eq_true rfl) (fun r1 M1 L1 h1 => ?_)
    obtain ⟨rfl, hs1, hV⟩ := h1
    refine zk_aload_n dX5_whatWanted_59 rfl ?_
    refine zk_getRc (q := 2) dX5_whatWanted_60 fl_X5_13 (by decide : 0 < zm.1) rfl rfl rfl ?_
    refine zk_iload_n dX5_whatWanted_63 rfl ?_
    refine zk_iload_n dX5_whatWanted_64 rfl ?_
    refine zk_if_ne (tgt := 72) dX5_whatWanted_65 (by decide) (fun _ => ?_) (fun h65 => absurd h65 (by decide))
    refine zk_iconst dX5_whatWanted_72 zc_0 ?_
    refine zk_cSi (qX5_of (p := p) (k := 0)) dX5_whatWanted_73 miX5_of ml_X5_58 stX5_of rfl (by decide) rfl (Nat.le_of_ble_eq_true rfl) ?_
    refine zk_iload dX5_whatWanted_76 rfl ?_
    refine zk_iast (j := 10 + 7 * p + 0) dX5_whatWanted_78 (by decide : 2 < zm.1) rfl (zs_in rfl (vp_in_nI (zs_7p hp6 (show 0 < 7 by decide)) (by decide))) (nI_clamp (by omega)) ?_
    refine zk_iconst dX5_whatWanted_79 zc_0 ?_
    refine zk_istore dX5_whatWanted_80 zk_S_6 ?_
    have hV2 := hV.set hp (show 0 < 7 by decide) (v := nI i) (zs_okk0 (hA.2.2 p hp6) hi)
    refine lX5_ww1k hK hp hp6 kk 0 true _ _ _ (by omega) (hs1.up (by omega)) hV2 (fun M3 L3 hs3 => ?_)
    rw [if_pos rfl, Bool.true_and]
    show zk_R l zm 6 muX5_whatWanted 136 [some (.ref 0), some (.int (nI p)), some (.int 1), some (.int s), some (.int (nI i)), some (.int (zs_bi (zs_mfr (zs_J (M0 1)) (zs_FW (zs_J (M0 1))) (M0 7) kk 0 (va_up (zs_get (M0 1) p) 0 (nI i))))), none] [] M3 L3 Q
    refine zk_iload_n dX5_whatWanted_136 rfl ?_
    refine zk_iload dX5_whatWanted_137 rfl ?_
    refine zk_if_eq (tgt := 149) dX5_whatWanted_139 (by decide) (fun h139 => ?_) (fun h139 => ?_)
    · refine zk_iconst dX5_whatWanted_149 zc_0 ?_
      refine zk_ior dX5_whatWanted_150 ?_
      refine zk_istore_n dX5_whatWanted_151 zk_S_3 ?_
      refine zk_iinc dX5_whatWanted_152 zc_1 rfl zk_S_4 ?_
      refine zk_goto (tgt := 35) dX5_whatWanted_155 (by decide) ?_
      rw [← nI_succ]
      first
        | exact zk_forget (ls' := [some (.ref 0), some (.int (nI p)), some (.int 1), some (.int (s ||| 0)), some (.int (nI (i + 1))), none, none]) ⟨Or.inr rfl, Or.inr rfl, Or.inr rfl, Or.inr rfl, Or.inr rfl, Or.inl rfl, Or.inl rfl, trivial⟩ (ih (i + 1) _ M3 L3 (by omega) hs3 (fun M' L' h' => by
            have e : (zu_wwf (zs_J (M0 1)) (zs_FW (zs_J (M0 1))) (M0 7) (zs_get (M0 1) p) kk 0) i s = s ||| 0 := by rw [zu_wwf, if_neg (zs_bi0 h139)]
            have := k M' L' h'
            rw [zs_for, e] at this
            exact this))
        | exact zk_forget (ls' := [some (.ref 0), some (.int (nI p)), some (.int 1), some (.int (s ||| 1 <<< (nI i &&& 31))), some (.int (nI (i + 1))), none, none]) ⟨Or.inr rfl, Or.inr rfl, Or.inr rfl, Or.inr rfl, Or.inr rfl, Or.inl rfl, Or.inl rfl, trivial⟩ (ih (i + 1) _ M3 L3 (by omega) hs3 (fun M' L' h' => by
            have e : (zu_wwf (zs_J (M0 1)) (zs_FW (zs_J (M0 1))) (M0 7) (zs_get (M0 1) p) kk 0) i s = s ||| 1 <<< (nI i &&& 31) := by rw [zu_wwf, if_pos (zs_bi1 h139)]
            have := k M' L' h'
            rw [zs_for, e] at this
            exact this))
    · refine zk_iconst dX5_whatWanted_142 zc_1 ?_
      refine zk_iload dX5_whatWanted_143 rfl ?_
      refine zk_ishl dX5_whatWanted_145 ?_
      refine zk_goto (tgt := 150) dX5_whatWanted_146 (by decide) ?_
      refine zk_ior dX5_whatWanted_150 ?_
      refine zk_istore_n dX5_whatWanted_151 zk_S_3 ?_
      refine zk_iinc dX5_whatWanted_152 zc_1 rfl zk_S_4 ?_
      refine zk_goto (tgt := 35) dX5_whatWanted_155 (by decide) ?_
      rw [← nI_succ]
      first
        | exact zk_forget (ls' := [some (.ref 0), some (.int (nI p)), some (.int 1), some (.int (s ||| 0)), some (.int (nI (i + 1))), none, none]) ⟨Or.inr rfl, Or.inr rfl, Or.inr rfl, Or.inr rfl, Or.inr rfl, Or.inl rfl, Or.inl rfl, trivial⟩ (ih (i + 1) _ M3 L3 (by omega) hs3 (fun M' L' h' => by
            have e : (zu_wwf (zs_J (M0 1)) (zs_FW (zs_J (M0 1))) (M0 7) (zs_get (M0 1) p) kk 0) i s = s ||| 0 := by rw [zu_wwf, if_neg (zs_bi0 h139)]
            have := k M' L' h'
            rw [zs_for, e] at this
            exact this))
        | exact zk_forget (ls' := [some (.ref 0), some (.int (nI p)), some (.int 1), some (.int (s ||| 1 <<< (nI i &&& 31))), some (.int (nI (i + 1))), none, none]) ⟨Or.inr rfl, Or.inr rfl, Or.inr rfl, Or.inr rfl, Or.inr rfl, Or.inl rfl, Or.inl rfl, trivial⟩ (ih (i + 1) _ M3 L3 (by omega) hs3 (fun M' L' h' => by
            have e : (zu_wwf (zs_J (M0 1)) (zs_FW (zs_J (M0 1))) (M0 7) (zs_get (M0 1) p) kk 0) i s = s ||| 1 <<< (nI i &&& 31) := by rw [zu_wwf, if_pos (zs_bi1 h139)]
            have := k M' L' h'
            rw [zs_for, e] at this
            exact this))
set_option maxRecDepth 100000 in
set_option maxHeartbeats 4000000 in
theorem qX5_whatWanted_k {l : Launch} {M : zk_M} {L : zk_L} {n : Nat} (hA : zs_A (M 1) n) {p : Nat} (hp : p < n) {kk : Nat} (hK : zs_KM M kk) : zk_C l zm 6 muX5_whatWanted [.ref 0, .int (nI p), .int 1] M L (zp_i (zs_for (zu_wwf (zs_J (M 1)) (zs_FW (zs_J (M 1))) (M 7) (zs_get (M 1) p) kk 0) 6 0 0) M) := by
  refine zk_ofR (ls := [some (.ref 0), some (.int (nI p)), some (.int 1), none, none, none, none]) (by decide) rfl (Nat.le_of_ble_eq_true rfl) rfl ?_
  refine zk_aload_n dX5_whatWanted_0 rfl ?_
  refine zk_iload_n dX5_whatWanted_1 rfl ?_
  refine zk_cVi (qX5_isRider_t hA.1 hA.2.1 hp) dX5_whatWanted_2 mwX5_isRider ml_X5_118 (by decide : 0 < zm.1) rfl rfl (by decide) rfl (Nat.le_of_ble_eq_true rfl) ?_
  refine zk_if_ne (tgt := 14) dX5_whatWanted_5 (by decide) (fun _ => ?_) (fun h5 => absurd h5 (by decide))
  refine zk_iload_n dX5_whatWanted_14 rfl ?_
  refine zk_iconst dX5_whatWanted_15 zc_0 ?_
  refine zk_iconst dX5_whatWanted_16 zc_1 ?_
  refine zk_cSi (qX5_01_t (by decide)) dX5_whatWanted_17 miX5_isIn ml_X5_46 stX5_isIn rfl (by decide) rfl (Nat.le_of_ble_eq_true rfl) ?_
  refine zk_if_ne (tgt := 30) dX5_whatWanted_20 (by decide) (fun _ => ?_) (fun h20 => absurd h20 (by decide))
  refine zk_iconst dX5_whatWanted_30 zc_0 ?_
  refine zk_istore_n dX5_whatWanted_31 zk_S_3 ?_
  refine zk_iconst dX5_whatWanted_32 zc_0 ?_
  refine zk_istore dX5_whatWanted_33 zk_S_4 ?_
  refine lX5_ww2k hA hK hp 6 0 0 M L rfl zs_sm.rf (fun M' L' h' => ?_)
  refine zk_iload_n dX5_whatWanted_158 rfl ?_
  refine zk_iret rfl dX5_whatWanted_159 ?_
  exact ⟨rfl, h'⟩
set_option maxRecDepth 100000 in
set_option maxHeartbeats 4000000 in
theorem qX5_whatWanted_r1 {l : Launch} {M : zk_M} {L : zk_L} {n : Nat} (hA : zs_A (M 1) n) {r x : Int32} (hr : ¬ zs_isr (nI n) r) : zk_C l zm 6 muX5_whatWanted [.ref 0, .int r, .int x] M L (zp_i (-1) (zs_nof M 1)) := by
  refine zk_ofR (ls := [some (.ref 0), some (.int r), some (.int x), none, none, none, none]) (by decide) rfl (Nat.le_of_ble_eq_true rfl) rfl ?_
  refine zk_aload_n dX5_whatWanted_0 rfl ?_
  refine zk_iload_n dX5_whatWanted_1 rfl ?_
  refine zk_cVi (qX5_isRider_f hA.1 hA.2.1 hr) dX5_whatWanted_2 mwX5_isRider ml_X5_118 (by decide : 0 < zm.1) rfl rfl (by decide) rfl (Nat.le_of_ble_eq_true rfl) ?_
  refine zk_if_ne (tgt := 14) dX5_whatWanted_5 (by decide) (fun h5 => absurd (rfl) h5) (fun _ => ?_)
  refine zk_aload_n dX5_whatWanted_8 rfl ?_
  refine zk_iconst dX5_whatWanted_9 zc_m1 ?_
  refine zk_cVi (qno1) dX5_whatWanted_10 mwX5_no ml_X5_42 (by decide : 0 < zm.1) rfl rfl (by decide) rfl (Nat.le_of_ble_eq_true rfl) ?_
  refine zk_iret rfl dX5_whatWanted_13 ?_
  exact ⟨rfl, zs_sm.rf⟩
set_option maxRecDepth 100000 in
set_option maxHeartbeats 4000000 in
theorem qX5_whatWanted_r2 {l : Launch} {M : zk_M} {L : zk_L} {n : Nat} (hA : zs_A (M 1) n) {p : Nat} (hp : p < n) {x : Int32} (hx : ¬ (0 ≤ x ∧ x < 2)) : zk_C l zm 6 muX5_whatWanted [.ref 0, .int (nI p), .int x] M L (zp_i (-2) (zs_nof M 2)) := by
  refine zk_ofR (ls := [some (.ref 0), some (.int (nI p)), some (.int x), none, none, none, none]) (by decide) rfl (Nat.le_of_ble_eq_true rfl) rfl ?_
  refine zk_aload_n dX5_whatWanted_0 rfl ?_
  refine zk_iload_n dX5_whatWanted_1 rfl ?_
  refine zk_cVi (qX5_isRider_t hA.1 hA.2.1 hp) dX5_whatWanted_2 mwX5_isRider ml_X5_118 (by decide : 0 < zm.1) rfl rfl (by decide) rfl (Nat.le_of_ble_eq_true rfl) ?_
  refine zk_if_ne (tgt := 14) dX5_whatWanted_5 (by decide) (fun _ => ?_) (fun h5 => absurd h5 (by decide))
  refine zk_iload_n dX5_whatWanted_14 rfl ?_
  refine zk_iconst dX5_whatWanted_15 zc_0 ?_
  refine zk_iconst dX5_whatWanted_16 zc_1 ?_
  refine zk_cSi (qX5_01_f hx) dX5_whatWanted_17 miX5_isIn ml_X5_46 stX5_isIn rfl (by decide) rfl (Nat.le_of_ble_eq_true rfl) ?_
  refine zk_if_ne (tgt := 30) dX5_whatWanted_20 (by decide) (fun h20 => absurd (rfl) h20) (fun _ => ?_)
  refine zk_aload_n dX5_whatWanted_23 rfl ?_
  refine zk_bipush dX5_whatWanted_24 zb_m2 ?_
  refine zk_cVi (qno2) dX5_whatWanted_26 mwX5_no ml_X5_42 (by decide : 0 < zm.1) rfl rfl (by decide) rfl (Nat.le_of_ble_eq_true rfl) ?_
  refine zk_iret rfl dX5_whatWanted_29 ?_
  exact ⟨rfl, zs_sm.rf⟩
