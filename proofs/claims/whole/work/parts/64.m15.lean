/-! the letters, read -/
def zs_L (M : zk_M) (k : Nat) : Prop := k ≤ 96 ∧ M 0 9 = nI k
def zu_h (S : Nat → Int32) (k i : Nat) : Int32 := if i < k then S i else -1
abbrev zs_dg (c : Int32) : Prop := 48 ≤ c ∧ c ≤ 57
def zs_pr (M M' : zk_M) : Prop := (∀ o, o ≠ 0 → o ≠ 9 → M' o = M o) ∧ ∀ k, k ≠ 11 → M' 0 k = M 0 k
theorem zs_pr.rf {M : zk_M} : zs_pr M M := ⟨fun _ _ _ => rfl, fun _ _ => rfl⟩
theorem zs_pr.tr {M M' M'' : zk_M} (h : zs_pr M M') (h' : zs_pr M' M'') : zs_pr M M'' := ⟨fun o h0 h9 => (h'.1 o h0 h9).trans (h.1 o h0 h9), fun k hk => (h'.2 k hk).trans (h.2 k hk)⟩
theorem zs_pr.up9 {M M' : zk_M} (h : zs_pr M M') {f : Nat → Int32} : zs_pr M (va_up M' 9 f) := ⟨fun o h0 h9 => by rw [zk_up_ne h9]; exact h.1 o h0 h9, fun k hk => by rw [zk_up_ne (by decide)]; exact h.2 k hk⟩
theorem zs_pr.up11 {M M' : zk_M} (h : zs_pr M M') {v : Int32} : zs_pr M (va_up M' 0 (va_up (M' 0) 11 v)) := ⟨fun o h0 h9 => by rw [zk_up_ne h0]; exact h.1 o h0 h9, fun k hk => by rw [zk_up_eq, zk_up_ne hk]; exact h.2 k hk⟩
theorem zs_L.pr {M M' : zk_M} {k : Nat} (h : zs_L M k) (hp : zs_pr M M') : zs_L M' k := ⟨h.1, by rw [hp.2 9 (by decide)]; exact h.2⟩
def zs_ltM (M : zk_M) (k : Nat) (c : Int32) : zk_M := va_up (va_up M 6 (va_up (M 6) k c)) 0 (va_up (M 0) 9 (nI (k + 1)))
set_option maxRecDepth 100000 in
set_option maxHeartbeats 4000000 in
theorem qX5_letter_r4 {l : Launch} {M : zk_M} {L : zk_L} {c : Int32} (hc : c < 0) : zk_C l zm 2 muX5_letter [.ref 0, .int c] M L (zp_i (-4) (zs_nof M 4)) := by
  refine zk_ofR (ls := [some (.ref 0), some (.int c)]) (by decide) rfl (Nat.le_of_ble_eq_true rfl) rfl ?_
  refine zk_iload_n dX5_letter_0 rfl ?_
  refine zk_if_ge (tgt := 11) dX5_letter_1 (by decide) (fun h1 => absurd h1 (Int32.not_le.mpr hc)) (fun _ => ?_)
  refine zk_aload_n dX5_letter_4 rfl ?_
  refine zk_bipush dX5_letter_5 zb_m4 ?_
  refine zk_cVi (qno4) dX5_letter_7 mwX5_no ml_X5_42 (by decide : 0 < zm.1) rfl rfl (by decide) rfl (Nat.le_of_ble_eq_true rfl) ?_
  refine zk_iret rfl dX5_letter_10 ?_
  exact ⟨rfl, zs_sm.rf⟩
set_option maxRecDepth 100000 in
set_option maxHeartbeats 4000000 in
theorem qX5_letter_r6 {l : Launch} {M : zk_M} {L : zk_L} {k : Nat} (hL : zs_L M k) {c : Int32} (hc : ¬ c < 0) (hn : 255 < c ∨ 96 ≤ k) : zk_C l zm 2 muX5_letter [.ref 0, .int c] M L (zp_i (-6) (zs_nof M 6)) := by
  refine zk_ofR (ls := [some (.ref 0), some (.int c)]) (by decide) rfl (Nat.le_of_ble_eq_true rfl) rfl ?_
  refine zk_iload_n dX5_letter_0 rfl ?_
  refine zk_if_ge (tgt := 11) dX5_letter_1 (by decide) (fun _ => ?_) (fun h1 => absurd (Int32.not_lt.mp hc) h1)
  refine zk_iload_n dX5_letter_11 rfl ?_
  refine zk_sipush dX5_letter_12 zs_255 ?_
  refine zk_icmp_gt (tgt := 27) dX5_letter_15 (by decide) (fun h15 => ?_) (fun h15 => ?_)
  · refine zk_aload_n dX5_letter_27 rfl ?_
    refine zk_bipush dX5_letter_28 zb_m6 ?_
    refine zk_cVi (qno6) dX5_letter_30 mwX5_no ml_X5_42 (by decide : 0 < zm.1) rfl rfl (by decide) rfl (Nat.le_of_ble_eq_true rfl) ?_
    refine zk_iret rfl dX5_letter_33 ?_
    exact ⟨rfl, zs_sm.rf⟩
  · refine zk_aload_n dX5_letter_18 rfl ?_
    refine zk_getI dX5_letter_19 fl_X5_83 (by decide : 0 < zm.1) rfl rfl ?_
    refine zk_bipush dX5_letter_22 zb_96 ?_
    refine zk_icmp_ne (tgt := 34) dX5_letter_24 (by decide) (fun h24 => ?_) (fun h24 => ?_)
    · exact absurd (hn.elim (fun q => absurd q h15) id) (fun q => h24 (by rw [hL.2]; have := hL.1; rw [show k = 96 by omega]; rfl))
    · refine zk_aload_n dX5_letter_27 rfl ?_
      refine zk_bipush dX5_letter_28 zb_m6 ?_
      refine zk_cVi (qno6) dX5_letter_30 mwX5_no ml_X5_42 (by decide : 0 < zm.1) rfl rfl (by decide) rfl (Nat.le_of_ble_eq_true rfl) ?_
      refine zk_iret rfl dX5_letter_33 ?_
      exact ⟨rfl, zs_sm.rf⟩
set_option maxRecDepth 100000 in
set_option maxHeartbeats 4000000 in
theorem qX5_letter_t {l : Launch} {M : zk_M} {L : zk_L} {k : Nat} (hL : zs_L M k) {c : Int32} (hc : ¬ c < 0) (h2 : ¬ 255 < c) (hk : k < 96) : zk_C l zm 2 muX5_letter [.ref 0, .int c] M L (zp_i (nI (k + 1)) (zs_ltM M k c)) := by
  refine zk_ofR (ls := [some (.ref 0), some (.int c)]) (by decide) rfl (Nat.le_of_ble_eq_true rfl) rfl ?_
  refine zk_iload_n dX5_letter_0 rfl ?_
  refine zk_if_ge (tgt := 11) dX5_letter_1 (by decide) (fun _ => ?_) (fun h1 => absurd (Int32.not_lt.mp hc) h1)
  refine zk_iload_n dX5_letter_11 rfl ?_
  refine zk_sipush dX5_letter_12 zs_255 ?_
  refine zk_icmp_gt (tgt := 27) dX5_letter_15 (by decide) (fun h15 => absurd h15 (h2)) (fun _ => ?_)
  refine zk_aload_n dX5_letter_18 rfl ?_
  refine zk_getI dX5_letter_19 fl_X5_83 (by decide : 0 < zm.1) rfl rfl ?_
  rw [hL.2]
  refine zk_bipush dX5_letter_22 zb_96 ?_
  refine zk_icmp_ne (tgt := 34) dX5_letter_24 (by decide) (fun _ => ?_) (fun h24 => absurd h24 (fun e => by have := zs_nI_inj (b := 96) (by omega) (by decide) e; omega))
  refine zk_aload_n dX5_letter_34 rfl ?_
  refine zk_getRc (q := 6) dX5_letter_35 fl_X5_25 (by decide : 0 < zm.1) rfl rfl rfl ?_
  refine zk_aload_n dX5_letter_38 rfl ?_
  refine zk_getI dX5_letter_39 fl_X5_83 (by decide : 0 < zm.1) rfl rfl ?_
  rw [hL.2]
  refine zk_iload_n dX5_letter_42 rfl ?_
  refine zk_iast (j := k) dX5_letter_43 (by decide : 6 < zm.1) rfl (zs_in rfl (vp_in_nI hk (by decide))) (nI_clamp (by omega)) ?_
  refine zk_aload_n dX5_letter_44 rfl ?_
  refine zk_dup dX5_letter_45 rfl ?_
  refine zk_getI dX5_letter_46 fl_X5_83 (by decide : 0 < zm.1) rfl rfl ?_
  rw [show (va_up M 6 (va_up (M 6) k c)) 0 = M 0 from zk_up_ne (by decide), hL.2]
  refine zk_iconst dX5_letter_49 zc_1 ?_
  refine zk_iadd dX5_letter_50 ?_
  refine zk_putG dX5_letter_51 fl_X5_83 ft_5_9 rfl rfl (by decide : 0 < zm.1) rfl rfl ?_
  refine zk_aload_n dX5_letter_54 rfl ?_
  refine zk_getI dX5_letter_55 fl_X5_83 (by decide : 0 < zm.1) rfl rfl ?_
  refine zk_iret rfl dX5_letter_58 ?_
  refine ⟨?_, ?_⟩
  · rw [zk_up_eq, zk_up_eq, nI_succ]
  · rw [zs_ltM, nI_succ]; exact zs_sm.rf
set_option maxRecDepth 100000 in
set_option maxHeartbeats 4000000 in
theorem qX5_here {l : Launch} {M : zk_M} {L : zk_L} {k : Nat} (hL : zs_L M k) {i : Nat} (hi : i < 2 ^ 31) (hp : M 0 11 = nI i) : zk_C l zm 0 muX5_here [.ref 0] M L (zk_Ei (zu_h (M 6) k i) M L) := by
  refine zk_ofR (ls := [some (.ref 0)]) (by decide) rfl (Nat.le_of_ble_eq_true rfl) rfl ?_
  refine zk_aload_n dX5_here_0 rfl ?_
  refine zk_getI dX5_here_1 fl_X5_87 (by decide : 0 < zm.1) rfl rfl ?_
  have hk96 := hL.1
  rw [hp]
  refine zk_aload_n dX5_here_4 rfl ?_
  refine zk_getI dX5_here_5 fl_X5_83 (by decide : 0 < zm.1) rfl rfl ?_
  rw [hL.2]
  refine zk_icmp_ge (tgt := 23) dX5_here_8 (by decide) (fun h8 => ?_) (fun h8 => ?_)
  · have hik : ¬ i < k := fun q => absurd h8 (nI_ge q (by omega))
    refine zk_iconst dX5_here_23 zc_m1 ?_
    refine zk_iret rfl dX5_here_24 ?_
    exact zk_Ei_of (by first | exact (if_pos hik).symm | exact (if_neg hik).symm) rfl rfl
  · have hik : i < k := Nat.not_le.mp (fun q => h8 (nI_le q hi))
    refine zk_aload_n dX5_here_11 rfl ?_
    refine zk_getRc (q := 6) dX5_here_12 fl_X5_25 (by decide : 0 < zm.1) rfl rfl rfl ?_
    refine zk_aload_n dX5_here_15 rfl ?_
    refine zk_getI dX5_here_16 fl_X5_87 (by decide : 0 < zm.1) rfl rfl ?_
    rw [hp]
    refine zk_iald (j := i) dX5_here_19 (by decide : 6 < zm.1) rfl (zs_in rfl (vp_in_nI (show i < 96 by omega) (by decide))) (nI_clamp hi) ?_
    refine zk_goto (tgt := 24) dX5_here_20 (by decide) ?_
    refine zk_iret rfl dX5_here_24 ?_
    exact zk_Ei_of (by first | exact (if_pos hik).symm | exact (if_neg hik).symm) rfl rfl
def zu_num (h : Nat → Int32) : Nat → Nat → Int32 → Bool × Nat × Int32
  | 0, i, v => (true, i, v)
  | m + 1, i, v => if zs_dg (h i) then zu_num h m (i + 1) (10 * v + h i - 48) else (false, i, v)
def zs_rn (M M' : zk_M) (j : Nat) (v : Int32) (i : Nat) : Prop := zs_pr M M' ∧ M' 0 11 = nI i ∧ M' 9 j = v ∧ ∀ q, q ≠ j → M' 9 q = M 9 q
set_option maxRecDepth 100000 in
set_option maxHeartbeats 4000000 in
theorem lX5_rn {l : Launch} {M0 : zk_M} {k : Nat} (hL : zs_L M0 k) {j : Nat} (hj : j < 5) {D : Nat} (hD : D < 100) {e : Bool × Nat × Int32} : ∀ (m d i : Nat) (v : Int32) (M : zk_M) (L : zk_L), d + m = D → i + m < 2 ^ 30 → zs_rn M0 M j v i → e = zu_num (zu_h (M0 6) k) m i v → zk_R l zm 1 muX5_readsNumber 9 [some (.ref 0), some (.int (nI j)), some (.int (nI D)), some (.int (nI d))] [] M L (fun r M' _ => r = some (.int (zs_bi e.1)) ∧ zs_rn M0 M' j e.2.2 e.2.1) := by
  intro m
  induction m with
  | zero =>
    intro d i v M L hd hi hr ek
    obtain rfl : d = D := by omega
    refine zk_iload_n dX5_readsNumber_9 rfl ?_
    refine zk_iload_n dX5_readsNumber_10 rfl ?_
    refine zk_icmp_ge (tgt := 69) dX5_readsNumber_11 (by decide) (fun _ => ?_) (fun q => absurd (nI_le (Nat.le_refl _) (by omega)) q)
    refine zk_iconst dX5_readsNumber_69 zc_1 ?_
    refine zk_zret rfl (by decide) dX5_readsNumber_70 ?_
    exact ⟨by rw [ek]; rfl, by rw [ek]; exact hr⟩
  | succ m ih =>
    intro d i v M L hdm hi hr ek
    have hdD : d < D := by omega
    refine zk_iload_n dX5_readsNumber_9 rfl ?_
    refine zk_iload_n dX5_readsNumber_10 rfl ?_
    refine zk_icmp_ge (tgt := 69) dX5_readsNumber_11 (by decide) (fun h11 => absurd h11 (nI_ge hdD (by omega))) (fun _ => ?_)
    refine zk_aload_n dX5_readsNumber_14 rfl ?_
    refine zk_cVi (qX5_here (hL.pr hr.1) (by omega) hr.2.1) dX5_readsNumber_15 mwX5_here ml_X5_90 (by decide : 0 < zm.1) rfl rfl (by decide) rfl (Nat.le_of_ble_eq_true rfl) ?_
    rw [hr.1.1 6 (by decide) (by decide)]
    refine zk_bipush dX5_readsNumber_18 zb_48 ?_
    refine zk_bipush dX5_readsNumber_20 zb_57 ?_
    refine zk_cSi (qX5_isIn) dX5_readsNumber_22 miX5_isIn ml_X5_46 stX5_isIn rfl (by decide) rfl (Nat.le_of_ble_eq_true rfl) ?_
    refine zk_if_ne (tgt := 30) dX5_readsNumber_25 (by decide) (fun h25 => ?_) (fun h25 => ?_)
    · have hd := zs_if1 h25
      refine zk_aload_n dX5_readsNumber_30 rfl ?_
      refine zk_getRc (q := 9) dX5_readsNumber_31 fl_X5_34 (by decide : 0 < zm.1) rfl rfl rfl ?_
      refine zk_iload_n dX5_readsNumber_34 rfl ?_
      refine zk_bipush dX5_readsNumber_35 zb_10 ?_
      refine zk_aload_n dX5_readsNumber_37 rfl ?_
      refine zk_getRc (q := 9) dX5_readsNumber_38 fl_X5_34 (by decide : 0 < zm.1) rfl rfl rfl ?_
      refine zk_iload_n dX5_readsNumber_41 rfl ?_
      refine zk_iald (j := j) dX5_readsNumber_42 (by decide : 9 < zm.1) rfl (zs_in rfl (vp_in_nI hj (by decide))) (nI_clamp (by omega)) ?_
      rw [hr.2.2.1]
      refine zk_imul dX5_readsNumber_43 ?_
      refine zk_aload_n dX5_readsNumber_44 rfl ?_
      refine zk_cVi (qX5_here (hL.pr hr.1) (by omega) hr.2.1) dX5_readsNumber_45 mwX5_here ml_X5_90 (by decide : 0 < zm.1) rfl rfl (by decide) rfl (Nat.le_of_ble_eq_true rfl) ?_
      rw [hr.1.1 6 (by decide) (by decide)]
      refine zk_iadd dX5_readsNumber_48 ?_
      refine zk_bipush dX5_readsNumber_49 zb_48 ?_
      refine zk_isub dX5_readsNumber_51 ?_
      refine zk_iast (j := j) dX5_readsNumber_52 (by decide : 9 < zm.1) rfl (zs_in rfl (vp_in_nI hj (by decide))) (nI_clamp (by omega)) ?_
      refine zk_aload_n dX5_readsNumber_53 rfl ?_
      refine zk_dup dX5_readsNumber_54 rfl ?_
      refine zk_getI dX5_readsNumber_55 fl_X5_87 (by decide : 0 < zm.1) rfl rfl ?_
      rw [show ∀ f, (va_up M 9 f) 0 = M 0 from fun f => zk_up_ne (by decide), hr.2.1]
      refine zk_iconst dX5_readsNumber_58 zc_1 ?_
      refine zk_iadd dX5_readsNumber_59 ?_
      refine zk_putG dX5_readsNumber_60 fl_X5_87 ft_5_11 rfl rfl (by decide : 0 < zm.1) rfl rfl ?_
      refine zk_iinc dX5_readsNumber_63 zc_1 rfl zk_S_3 ?_
      refine zk_goto (tgt := 9) dX5_readsNumber_66 (by decide) ?_
      rw [← nI_succ]
      refine ih (d + 1) (i + 1) (10 * v + (zu_h (M0 6) k) i - 48) _ L (by omega) (by omega) ?_ ?_
      · refine ⟨(hr.1.up9).up11, by rw [zk_up_eq, zk_up_eq, nI_succ], ?_, fun q hq => ?_⟩
        · rw [zk_up_ne (by decide), zk_up_eq, zk_up_eq]
        · rw [zk_up_ne (by decide), zk_up_eq, zk_up_ne hq]; exact hr.2.2.2 q hq
      · rw [ek, zu_num, if_pos hd]
    · have hd := zs_if0 h25
      refine zk_iconst dX5_readsNumber_28 zc_0 ?_
      refine zk_zret rfl (by decide) dX5_readsNumber_29 ?_
      exact ⟨by rw [ek, zu_num, if_neg hd]; rfl, by rw [ek, zu_num, if_neg hd]; exact hr⟩
set_option maxRecDepth 100000 in
set_option maxHeartbeats 4000000 in
theorem qX5_readsNumber {l : Launch} {M : zk_M} {L : zk_L} {k : Nat} (hL : zs_L M k) {j : Nat} (hj : j < 5) {D : Nat} (hD : D < 100) {i : Nat} (hi : i < 200) (hp : M 0 11 = nI i) : zk_C l zm 1 muX5_readsNumber [.ref 0, .int (nI j), .int (nI D)] M L (fun r M1 _ => r = some (.int (zs_bi (zu_num (zu_h (M 6) k) D i 0).1)) ∧ zs_rn M M1 j (zu_num (zu_h (M 6) k) D i 0).2.2 (zu_num (zu_h (M 6) k) D i 0).2.1) := by
  refine zk_ofR (ls := [some (.ref 0), some (.int (nI j)), some (.int (nI D)), none]) (by decide) rfl (Nat.le_of_ble_eq_true rfl) rfl ?_
  refine zk_aload_n dX5_readsNumber_0 rfl ?_
  refine zk_getRc (q := 9) dX5_readsNumber_1 fl_X5_34 (by decide : 0 < zm.1) rfl rfl rfl ?_
  refine zk_iload_n dX5_readsNumber_4 rfl ?_
  refine zk_iconst dX5_readsNumber_5 zc_0 ?_
  refine zk_iast (j := j) dX5_readsNumber_6 (by decide : 9 < zm.1) rfl (zs_in rfl (vp_in_nI hj (by decide))) (nI_clamp (by omega)) ?_
  refine zk_iconst dX5_readsNumber_7 zc_0 ?_
  refine zk_istore_n dX5_readsNumber_8 zk_S_3 ?_
  exact lX5_rn hL hj hD D 0 i 0 _ L (by omega) (by omega) ⟨zs_pr.rf.up9, by rw [zk_up_ne (by decide)]; exact hp, by rw [zk_up_eq, zk_up_eq], fun q hq => by rw [zk_up_eq, zk_up_ne hq]⟩ rfl
/-- one digit -/
def zs_rb (M M' : zk_M) (j i : Nat) (c : Int32) : Prop := zs_pr M M' ∧ M' 0 11 = nI (if zs_dg c then i + 1 else i) ∧ (zs_dg c → M' 9 j = c - 48) ∧ ∀ q, q ≠ j → M' 9 q = M 9 q
theorem qrn1 {l : Launch} {M : zk_M} {L : zk_L} {k : Nat} (hL : zs_L M k) {j : Nat} (hj : j < 5) {i : Nat} (hi : i < 200) (hp : M 0 11 = nI i) : zk_C l zm 1 muX5_readsNumber [.ref 0, .int (nI j), .int 1] M L (fun r M1 _ => r = some (.int (zs_bi (decide (zs_dg (zu_h (M 6) k i))))) ∧ zs_rb M M1 j i (zu_h (M 6) k i)) := by
  refine zk_C_mono (qX5_readsNumber (D := 1) hL hj (by decide) hi hp) ?_
  intro r M' L' q
  obtain ⟨h1, h2⟩ := q
  by_cases hd : zs_dg (zu_h (M 6) k i)
  · have e : zu_num (zu_h (M 6) k) 1 i 0 = (true, i + 1, 10 * 0 + zu_h (M 6) k i - 48) := by rw [zu_num, if_pos hd]; rfl
    rw [e] at h1 h2
    refine ⟨by rw [decide_eq_true hd]; exact h1, h2.1, by rw [if_pos hd]; exact h2.2.1, fun _ => ?_, h2.2.2.2⟩
    rw [h2.2.2.1]
    simp
  · have e : zu_num (zu_h (M 6) k) 1 i 0 = (false, i, 0) := by rw [zu_num, if_neg hd]
    rw [e] at h1 h2
    exact ⟨by rw [decide_eq_false hd]; exact h1, h2.1, by rw [if_neg hd]; exact h2.2.1, fun q => absurd q hd, h2.2.2.2⟩
set_option maxRecDepth 100000 in
set_option maxHeartbeats 4000000 in
theorem qX5_readsKind {l : Launch} {M : zk_M} {L : zk_L} {k : Nat} (hL : zs_L M k) {i : Nat} (hi : i < 200) (hp : M 0 11 = nI i) : zk_C l zm 1 muX5_readsKind [.ref 0] M L (fun r M1 _ => r = some (.int (zs_bi (decide (0 ≤ zs_kl (zu_h (M 6) k i))))) ∧ zs_rn M M1 0 (zs_kl (zu_h (M 6) k i)) (if 0 ≤ zs_kl (zu_h (M 6) k i) then i + 1 else i)) := by
  refine zk_ofR (ls := [some (.ref 0)]) (by decide) rfl (Nat.le_of_ble_eq_true rfl) rfl ?_
  refine zk_aload_n dX5_readsKind_0 rfl ?_
  refine zk_getRc (q := 9) dX5_readsKind_1 fl_X5_34 (by decide : 0 < zm.1) rfl rfl rfl ?_
  refine zk_iconst dX5_readsKind_4 zc_0 ?_
  refine zk_aload_n dX5_readsKind_5 rfl ?_
  refine zk_cVi (qX5_here hL (by omega) hp) dX5_readsKind_6 mwX5_here ml_X5_90 (by decide : 0 < zm.1) rfl rfl (by decide) rfl (Nat.le_of_ble_eq_true rfl) ?_
  refine zk_cSi (qX5_kindBy) dX5_readsKind_9 miX5_kindBy ml_X5_94 stX5_kindBy rfl (by decide) rfl (Nat.le_of_ble_eq_true rfl) ?_
  refine zk_iast (j := 0) dX5_readsKind_12 (by decide : 9 < zm.1) rfl (zs_in rfl (vp_in_iff.mpr (by decide))) (by decide) ?_
  refine zk_aload_n dX5_readsKind_13 rfl ?_
  refine zk_dup dX5_readsKind_14 rfl ?_
  refine zk_getI dX5_readsKind_15 fl_X5_87 (by decide : 0 < zm.1) rfl rfl ?_
  rw [show ∀ f, (va_up M 9 f) 0 = M 0 from fun f => zk_up_ne (by decide), hp]
  refine zk_aload_n dX5_readsKind_18 rfl ?_
  refine zk_getRc (q := 9) dX5_readsKind_19 fl_X5_34 (by decide : 0 < zm.1) rfl rfl rfl ?_
  refine zk_iconst dX5_readsKind_22 zc_0 ?_
  refine zk_iald (j := 0) dX5_readsKind_23 (by decide : 9 < zm.1) rfl (zs_in rfl (vp_in_iff.mpr (by decide))) (by decide) ?_
  rw [zk_up_eq, zk_up_eq]
  refine zk_if_ge (tgt := 31) dX5_readsKind_24 (by decide) (fun h24 => ?_) (fun h24 => ?_)
  · refine zk_iconst dX5_readsKind_31 zc_1 ?_
    refine zk_iadd dX5_readsKind_32 ?_
    refine zk_putG dX5_readsKind_33 fl_X5_87 ft_5_11 rfl rfl (by decide : 0 < zm.1) rfl rfl ?_
    refine zk_aload_n dX5_readsKind_36 rfl ?_
    refine zk_getRc (q := 9) dX5_readsKind_37 fl_X5_34 (by decide : 0 < zm.1) rfl rfl rfl ?_
    refine zk_iconst dX5_readsKind_40 zc_0 ?_
    refine zk_iald (j := 0) dX5_readsKind_41 (by decide : 9 < zm.1) rfl (zs_in rfl (vp_in_iff.mpr (by decide))) (by decide) ?_
    rw [zk_up_ne (by decide), zk_up_eq, zk_up_eq]
    refine zk_if_lt (tgt := 49) dX5_readsKind_42 (by decide) (fun h42 => ?_) (fun h42 => ?_)
    · refine zk_iconst dX5_readsKind_49 zc_0 ?_
      refine zk_zret rfl (by decide) dX5_readsKind_50 ?_
      first
        | (have hk0 := Int32.not_lt.mp h42
           refine ⟨by rw [decide_eq_true hk0]; rfl, zs_pr.rf.up9.up11, ?_, by rw [zk_up_ne (by decide), zk_up_eq, zk_up_eq], fun q hq => by rw [zk_up_ne (by decide), zk_up_eq, zk_up_ne hq]⟩
           rw [zk_up_eq, zk_up_eq, if_pos hk0]
           first
             | exact absurd hk0 (by assumption)
             | (rw [nI_succ]; done))
        | (have hk0 : ¬ 0 ≤ zs_kl (zu_h (M 6) k i) := Int32.not_le.mpr h42
           refine ⟨by rw [decide_eq_false hk0]; rfl, zs_pr.rf.up9.up11, ?_, by rw [zk_up_ne (by decide), zk_up_eq, zk_up_eq], fun q hq => by rw [zk_up_ne (by decide), zk_up_eq, zk_up_ne hq]⟩
           rw [zk_up_eq, zk_up_eq, if_neg hk0]
           first
             | exact absurd (by assumption) hk0
             | exact Int32.add_zero _)
    · refine zk_iconst dX5_readsKind_45 zc_1 ?_
      refine zk_goto (tgt := 50) dX5_readsKind_46 (by decide) ?_
      refine zk_zret rfl (by decide) dX5_readsKind_50 ?_
      first
        | (have hk0 := Int32.not_lt.mp h42
           refine ⟨by rw [decide_eq_true hk0]; rfl, zs_pr.rf.up9.up11, ?_, by rw [zk_up_ne (by decide), zk_up_eq, zk_up_eq], fun q hq => by rw [zk_up_ne (by decide), zk_up_eq, zk_up_ne hq]⟩
           rw [zk_up_eq, zk_up_eq, if_pos hk0]
           first
             | exact absurd hk0 (by assumption)
             | (rw [nI_succ]; done))
        | (have hk0 : ¬ 0 ≤ zs_kl (zu_h (M 6) k i) := Int32.not_le.mpr h42
           refine ⟨by rw [decide_eq_false hk0]; rfl, zs_pr.rf.up9.up11, ?_, by rw [zk_up_ne (by decide), zk_up_eq, zk_up_eq], fun q hq => by rw [zk_up_ne (by decide), zk_up_eq, zk_up_ne hq]⟩
           rw [zk_up_eq, zk_up_eq, if_neg hk0]
           first
             | exact absurd (by assumption) hk0
             | exact Int32.add_zero _)
  · refine zk_iconst dX5_readsKind_27 zc_0 ?_
    refine zk_goto (tgt := 32) dX5_readsKind_28 (by decide) ?_
    refine zk_iadd dX5_readsKind_32 ?_
    refine zk_putG dX5_readsKind_33 fl_X5_87 ft_5_11 rfl rfl (by decide : 0 < zm.1) rfl rfl ?_
    refine zk_aload_n dX5_readsKind_36 rfl ?_
    refine zk_getRc (q := 9) dX5_readsKind_37 fl_X5_34 (by decide : 0 < zm.1) rfl rfl rfl ?_
    refine zk_iconst dX5_readsKind_40 zc_0 ?_
    refine zk_iald (j := 0) dX5_readsKind_41 (by decide : 9 < zm.1) rfl (zs_in rfl (vp_in_iff.mpr (by decide))) (by decide) ?_
    rw [zk_up_ne (by decide), zk_up_eq, zk_up_eq]
    refine zk_if_lt (tgt := 49) dX5_readsKind_42 (by decide) (fun h42 => ?_) (fun h42 => ?_)
    · refine zk_iconst dX5_readsKind_49 zc_0 ?_
      refine zk_zret rfl (by decide) dX5_readsKind_50 ?_
      first
        | (have hk0 := Int32.not_lt.mp h42
           refine ⟨by rw [decide_eq_true hk0]; rfl, zs_pr.rf.up9.up11, ?_, by rw [zk_up_ne (by decide), zk_up_eq, zk_up_eq], fun q hq => by rw [zk_up_ne (by decide), zk_up_eq, zk_up_ne hq]⟩
           rw [zk_up_eq, zk_up_eq, if_pos hk0]
           first
             | exact absurd hk0 (by assumption)
             | (rw [nI_succ]; done))
        | (have hk0 : ¬ 0 ≤ zs_kl (zu_h (M 6) k i) := Int32.not_le.mpr h42
           refine ⟨by rw [decide_eq_false hk0]; rfl, zs_pr.rf.up9.up11, ?_, by rw [zk_up_ne (by decide), zk_up_eq, zk_up_eq], fun q hq => by rw [zk_up_ne (by decide), zk_up_eq, zk_up_ne hq]⟩
           rw [zk_up_eq, zk_up_eq, if_neg hk0]
           first
             | exact absurd (by assumption) hk0
             | exact Int32.add_zero _)
    · refine zk_iconst dX5_readsKind_45 zc_1 ?_
      refine zk_goto (tgt := 50) dX5_readsKind_46 (by decide) ?_
      refine zk_zret rfl (by decide) dX5_readsKind_50 ?_
      first
        | (have hk0 := Int32.not_lt.mp h42
           refine ⟨by rw [decide_eq_true hk0]; rfl, zs_pr.rf.up9.up11, ?_, by rw [zk_up_ne (by decide), zk_up_eq, zk_up_eq], fun q hq => by rw [zk_up_ne (by decide), zk_up_eq, zk_up_ne hq]⟩
           rw [zk_up_eq, zk_up_eq, if_pos hk0]
           first
             | exact absurd hk0 (by assumption)
             | (rw [nI_succ]; done))
        | (have hk0 : ¬ 0 ≤ zs_kl (zu_h (M 6) k i) := Int32.not_le.mpr h42
           refine ⟨by rw [decide_eq_false hk0]; rfl, zs_pr.rf.up9.up11, ?_, by rw [zk_up_ne (by decide), zk_up_eq, zk_up_eq], fun q hq => by rw [zk_up_ne (by decide), zk_up_eq, zk_up_ne hq]⟩
           rw [zk_up_eq, zk_up_eq, if_neg hk0]
           first
             | exact absurd (by assumption) hk0
             | exact Int32.add_zero _)
