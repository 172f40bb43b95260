/-! inn -/
theorem zs_V.up {M : zk_M} {n : Nat} {J T : Nat → Int32} {F : Nat → Nat → Int32} (h : zs_V M n J T F) {o : Nat} {f : Nat → Int32} (h2 : 2 ≠ o) (h5 : 5 ≠ o) : zs_V (va_up M o f) n J T F := by
  unfold zs_V
  rw [zk_up_ne h2, zk_up_ne h5]
  exact h
def zu_ig (F : Nat → Nat → Int32) (p : Nat) (G : Nat → Int32) : Nat → Int32 := va_up G (F p 4).toNatClampNeg (G (F p 4).toNatClampNeg ||| 1 <<< (nI p &&& 31))
def zu_ind (J T : Nat → Int32) (n : Nat) : Nat → (Nat → Nat → Int32) → (Nat → Int32) → Nat → Int32
  | 0, _, G => G
  | m + 1, F, G => zu_ind J T n m (fun p => zs_ride J T (F p)) (zs_for (zu_ig F) n 0 G)
theorem qd_daysOn10 {l : Launch} {M : zk_M} {L : zk_L} {M0 : zk_M} {n : Nat} {J : Nat → Int32} {F : Nat → Nat → Int32} (hs : zs_sm M0 M) (hA : zs_A (M 2) n) (hJ : zs_ag 8 (zs_J (M 2)) J) (hF : ∀ p, p < n → zs_ag 7 (zs_get (M 2) p) (F p)) {t : Nat} (ht : t < 2 ^ 31) : zk_C l zm 4 muX5_daysOn [.ref 0, .ref 2, .int (nI t)] M L (fun r M' _ => r = none ∧ zs_sm M0 M' ∧ zs_V M' n J (zs_FW J) (fun p => zs_rides J (zs_FW J) t (F p)) ∧ M' 10 = M 10 ∧ M' 0 = M 0) := by
  refine zk_C_mono (qX5_daysOn zm_a2 (by decide) hA ht) ?_
  intro r M' L' q
  obtain ⟨rfl, rfl, rfl⟩ := q
  have hT : zs_ag 64 (zs_fw (zs_J (M 2)) (M 5)) (zs_FW J) := zs_fw_ag hJ _ _
  obtain ⟨k1, k2⟩ := zs_daysV hT t (M 2) F hA hJ hF
  refine ⟨rfl, (hs.up (by omega)).up (by omega), ⟨?_, ?_, ?_, fun p hp => ?_⟩, ?_, ?_⟩
  · rw [zk_up_eq]; exact hA.daysA t _
  · rw [zk_up_eq]; exact k1
  · rw [zk_up_ne (by decide), zk_up_eq]; exact hT
  · rw [zk_up_eq]; exact k2 p hp
  · rw [zk_up_ne (by decide), zk_up_ne (by decide)]
  · rw [zk_up_ne (by decide), zk_up_ne (by decide)]
set_option maxRecDepth 100000 in
set_option maxHeartbeats 4000000 in
theorem qX5_takes10 {l : Launch} {M : zk_M} {L : zk_L} {M0 : zk_M} {n : Nat} (hA : zs_A (M0 1) n) (hs : zs_sm M0 M) {t : Nat} (ht : t < 2 ^ 31) : zk_C l zm 5 muX5_takes [.ref 0, .int (nI t)] M L (fun r M1 _ => r = none ∧ zs_sm M0 M1 ∧ zs_V M1 n (zs_J (M0 1)) (zs_FW (zs_J (M0 1))) (fun p => zs_rides (zs_J (M0 1)) (zs_FW (zs_J (M0 1))) t (zs_get (M0 1) p)) ∧ M1 10 = M 10 ∧ M1 0 = M 0) := by
  refine zk_ofR (ls := [some (.ref 0), some (.int (nI t))]) (by decide) rfl (Nat.le_of_ble_eq_true rfl) rfl ?_
  refine zk_aload_n dX5_takes_0 rfl ?_
  refine zk_getRc (q := 1) dX5_takes_1 fl_X5_9 (by decide : 0 < zm.1) rfl rfl rfl ?_
  refine zk_aload_n dX5_takes_4 rfl ?_
  refine zk_getRc (q := 2) dX5_takes_5 fl_X5_13 (by decide : 0 < zm.1) rfl rfl rfl ?_
  refine zk_cSv (qd_copies) dX5_takes_8 miX5_copies ml_X5_127 stX5_copies rfl (by decide) rfl (Nat.le_of_ble_eq_true rfl) ?_
  refine zk_aload_n dX5_takes_11 rfl ?_
  refine zk_aload_n dX5_takes_12 rfl ?_
  refine zk_getRc (q := 2) dX5_takes_13 fl_X5_13 (by decide : 0 < zm.1) rfl rfl rfl ?_
  refine zk_iload_n dX5_takes_16 rfl ?_
  refine zk_callV (qd_daysOn10 (n := n) (J := zs_J (M0 1)) (F := fun p => zs_get (M0 1) p) (hs.up (by omega)) (by rw [zk_up_eq, hs.1]; exact hA.cp) (by rw [zk_up_eq, hs.1]; exact zs_J_cp) (fun p hp => by rw [zk_up_eq, hs.1]; exact zs_get_cp (Nat.lt_of_lt_of_le hp hA.1)) ht) dX5_takes_17 mwX5_daysOn ml_X5_121 (by decide : 0 < zm.1) rfl rfl (by decide) rfl (Nat.le_of_ble_eq_true rfl) (fun r1 M1 L1 h1 => ?_)
  obtain ⟨rfl, hs1, hV1, h10, h0⟩ := h1
  refine zk_vret rfl dX5_takes_20 ?_
  exact ⟨rfl, hs1, hV1, h10.trans (zk_up_ne (by decide)), h0.trans (zk_up_ne (by decide))⟩
set_option maxRecDepth 100000 in
set_option maxHeartbeats 4000000 in
theorem lX5_inn1 {l : Launch} {M0 : zk_M} {t : Nat} {x : Int32} {L : zk_L} {Q : Option Value → zk_M → zk_L → Prop} : ∀ (m i : Nat) (M : zk_M), i + m = 8 → zs_sm M0 M → (∀ j, j < i → M 10 j = 0) → (∀ M', zs_sm M0 M' → zs_ag 8 (M' 10) (fun _ => 0) → zk_R l zm 6 muX5_inn 58 [some (.ref 0), some (.int (nI t)), some (.int x), none, none, none] [] M' L Q) → zk_R l zm 6 muX5_inn 37 [some (.ref 0), some (.int (nI t)), some (.int x), none, some (.int (nI i)), none] [] M L Q := by
  intro m
  induction m with
  | zero =>
    intro i M hi hs h0 k
    obtain rfl : i = 8 := by omega
    refine zk_iload dX5_inn_37 rfl ?_
    refine zk_bipush (v := 8) dX5_inn_39 (by decide) ?_
    refine zk_icmp_ge (tgt := 58) dX5_inn_41 (by decide) (fun _ => ?_) (fun q => absurd (by decide) q)
    refine zk_forget ?_ (k M hs h0)
    exact ⟨Or.inr rfl, Or.inr rfl, Or.inr rfl, Or.inl rfl, Or.inl rfl, Or.inl rfl, trivial⟩
  | succ m ih =>
    intro i M him hs h0 k
    have hi : i < 8 := by omega
    refine zk_iload dX5_inn_37 rfl ?_
    refine zk_bipush dX5_inn_39 zb_8 ?_
    refine zk_icmp_ge (tgt := 58) dX5_inn_41 (by decide) (fun h41 => absurd h41 (nI_ge (b := 8) hi (by decide))) (fun _ => ?_)
    refine zk_aload_n dX5_inn_44 rfl ?_
    refine zk_getRc (q := 10) dX5_inn_45 fl_X5_37 (by decide : 0 < zm.1) rfl rfl rfl ?_
    refine zk_iload dX5_inn_48 rfl ?_
    refine zk_iconst dX5_inn_50 zc_0 ?_
    refine zk_iast (j := i) dX5_inn_51 (by decide : 10 < zm.1) rfl (zs_in rfl (vp_in_nI hi (by decide))) (nI_clamp (Nat.lt_trans hi (by decide))) ?_
    refine zk_iinc dX5_inn_52 zc_1 rfl zk_S_4 ?_
    refine zk_goto (tgt := 37) dX5_inn_55 (by decide) ?_
    rw [← nI_succ]
    refine ih (i + 1) _ (by omega) (hs.up (by omega)) (fun j hj => ?_) k
    rw [zk_up_eq]
    simp only [va_up]
    by_cases e : j = i
    · rw [if_pos e]
    · rw [if_neg e]; exact h0 j (by omega)
set_option maxRecDepth 100000 in
set_option maxHeartbeats 4000000 in
theorem lX5_inn2 {l : Launch} {M0 : zk_M} {t d n : Nat} {x : Int32} {J T : Nat → Int32} {F : Nat → Nat → Int32} {L : zk_L} {Q : Option Value → zk_M → zk_L → Prop} : ∀ (m p : Nat) (M : zk_M) (G : Nat → Int32), p + m = n → zs_sm M0 M → zs_V M n J T F → zs_ag 8 (M 10) G → (∀ M', zs_sm M0 M' → zs_V M' n J T F → zs_ag 8 (M' 10) (zs_for (zu_ig F) m p G) → zk_R l zm 6 muX5_inn 115 [some (.ref 0), some (.int (nI t)), some (.int x), none, some (.int (nI d)), none] [] M' L Q) → zk_R l zm 6 muX5_inn 75 [some (.ref 0), some (.int (nI t)), some (.int x), none, some (.int (nI d)), some (.int (nI p))] [] M L Q := by
  intro m
  induction m with
  | zero =>
    intro p M G hpm hs hV hG k
    obtain rfl : p = n := by omega
    refine zk_iload dX5_inn_75 rfl ?_
    refine zk_aload_n dX5_inn_77 rfl ?_
    refine zk_getRc (q := 2) dX5_inn_78 fl_X5_13 (by decide) rfl rfl rfl ?_
    refine zk_iconst dX5_inn_81 zc_0 ?_
    refine zk_iald (j := 0) dX5_inn_82 (by decide) rfl (zs_in rfl (vp_in_iff.mpr (by decide))) (by decide) ?_
    rw [hV.1.2.1]
    have hn6 := hV.1.1
    refine zk_icmp_ge (tgt := 115) dX5_inn_83 (by decide) (fun _ => ?_) (fun q => absurd (nI_le (Nat.le_refl _) (by omega)) q)
    refine zk_forget ?_ (k M hs hV hG)
    exact ⟨Or.inr rfl, Or.inr rfl, Or.inr rfl, Or.inl rfl, Or.inr rfl, Or.inl rfl, trivial⟩
  | succ m ih =>
    intro p M G hpm hs hV hG k
    have hp : p < n := by omega
    have hn6 := hV.1.1
    have hp6 : p < 6 := by omega
    have hpl : zs_p (F p 4) := (hV.okk hp).1.2.2
    refine zk_iload dX5_inn_75 rfl ?_
    refine zk_aload_n dX5_inn_77 rfl ?_
    refine zk_getRc (q := 2) dX5_inn_78 fl_X5_13 (by decide : 0 < zm.1) rfl rfl rfl ?_
    refine zk_iconst dX5_inn_81 zc_0 ?_
    refine zk_iald (j := 0) dX5_inn_82 (by decide : 2 < zm.1) rfl (zs_in rfl (vp_in_iff.mpr (by decide))) (by decide) ?_
    rw [hV.1.2.1]
    refine zk_icmp_ge (tgt := 115) dX5_inn_83 (by decide) (fun h83 => absurd h83 (nI_ge hp (by omega))) (fun _ => ?_)
    refine zk_aload_n dX5_inn_86 rfl ?_
    refine zk_getRc (q := 10) dX5_inn_87 fl_X5_37 (by decide : 0 < zm.1) rfl rfl rfl ?_
    refine zk_aload_n dX5_inn_90 rfl ?_
    refine zk_getRc (q := 2) dX5_inn_91 fl_X5_13 (by decide : 0 < zm.1) rfl rfl rfl ?_
    refine zk_iload dX5_inn_94 rfl ?_
    refine zk_iconst dX5_inn_96 zc_4 ?_
    refine zk_cSi (qX5_of (p := p) (k := 4)) dX5_inn_97 miX5_of ml_X5_58 stX5_of rfl (by decide) rfl (Nat.le_of_ble_eq_true rfl) ?_
    refine zk_iald (j := 10 + 7 * p + 4) dX5_inn_100 (by decide : 2 < zm.1) rfl (zs_in rfl (vp_in_nI (zs_7p hp6 (show 4 < 7 by decide)) (by decide))) (nI_clamp (by omega)) ?_
    rw [hV.at hp (by decide)]
    refine zk_dup2 dX5_inn_101 rfl rfl ?_
    refine zk_iald (j := (F p 4).toNatClampNeg) dX5_inn_102 (by decide : 10 < zm.1) rfl (zs_in rfl (zs_pin hpl)) rfl ?_
    refine zk_iconst dX5_inn_103 zc_1 ?_
    refine zk_iload dX5_inn_104 rfl ?_
    refine zk_ishl dX5_inn_106 ?_
    refine zk_ior dX5_inn_107 ?_
    refine zk_iast (j := (F p 4).toNatClampNeg) dX5_inn_108 (by decide : 10 < zm.1) rfl (zs_in rfl (zs_pin hpl)) rfl ?_
    refine zk_iinc dX5_inn_109 zc_1 rfl zk_S_5 ?_
    refine zk_goto (tgt := 75) dX5_inn_112 (by decide) ?_
    rw [← nI_succ]
    refine ih (p + 1) _ _ (by omega) (hs.up (by omega)) (hV.up (by decide) (by decide)) ?_ k
    rw [zk_up_eq]
    exact hG.up' (by rw [hG _ (zs_p_tn hpl)])
set_option maxRecDepth 100000 in
set_option maxHeartbeats 4000000 in
theorem lX5_inn3 {l : Launch} {M0 : zk_M} {t n : Nat} (ht : t ≤ 30) {x : Int32} {J T : Nat → Int32} {L : zk_L} {Q : Option Value → zk_M → zk_L → Prop} : ∀ (m d : Nat) (F : Nat → Nat → Int32) (M : zk_M) (G : Nat → Int32), d + m = t + 1 → zs_sm M0 M → zs_V M n J T F → zs_ag 8 (M 10) G → (∀ M', zs_sm M0 M' → zs_ag 8 (M' 10) (zu_ind J T n m F G) → zk_R l zm 6 muX5_inn 130 [some (.ref 0), some (.int (nI t)), some (.int x), none, none, none] [] M' L Q) → zk_R l zm 6 muX5_inn 66 [some (.ref 0), some (.int (nI t)), some (.int x), none, some (.int (nI d)), none] [] M L Q := by
  intro m
  induction m with
  | zero =>
    intro d F M G hd hs hV hG k
    obtain rfl : d = t + 1 := by omega
    refine zk_iload dX5_inn_66 rfl ?_
    refine zk_iload_n dX5_inn_68 rfl ?_
    refine zk_icmp_gt (tgt := 130) dX5_inn_69 (by decide) (fun _ => ?_) (fun q => absurd (nI_lt (Nat.lt_succ_self t) (by omega)) q)
    refine zk_forget ?_ (k M hs hG)
    exact ⟨Or.inr rfl, Or.inr rfl, Or.inr rfl, Or.inl rfl, Or.inl rfl, Or.inl rfl, trivial⟩
  | succ m ih =>
    intro d F M G hd hs hV hG k
    refine zk_iload dX5_inn_66 rfl ?_
    refine zk_iload_n dX5_inn_68 rfl ?_
    refine zk_icmp_gt (tgt := 130) dX5_inn_69 (by decide) (fun h69 => absurd h69 (nI_nlt (show d ≤ t by omega) (by omega))) (fun _ => ?_)
    refine zk_iconst dX5_inn_72 zc_0 ?_
    refine zk_istore dX5_inn_73 zk_S_5 ?_
    refine lX5_inn2 n 0 M G (by omega) hs hV hG (fun M1 hs1 hV1 hG1 => ?_)
    refine zk_aload_n dX5_inn_115 rfl ?_
    refine zk_aload_n dX5_inn_116 rfl ?_
    refine zk_getRc (q := 2) dX5_inn_117 fl_X5_13 (by decide) rfl rfl rfl ?_
    refine zk_iconst dX5_inn_120 zc_0 ?_
    refine zk_cVv (qX5_day zm_a2 (by decide) hV1.1) dX5_inn_121 mwX5_day ml_X5_76 (by decide : 0 < zm.1) rfl rfl (by decide) rfl (Nat.le_of_ble_eq_true rfl) ?_
    refine zk_iinc dX5_inn_124 zc_1 rfl zk_S_4 ?_
    refine zk_goto (tgt := 66) dX5_inn_127 (by decide) ?_
    rw [← nI_succ]
    refine ih (d + 1) _ _ _ (by omega) (hs1.up (by omega)) (hV1.day 0) (by rw [zk_up_ne (by decide)]; exact hG1) (fun M' hs' hG' => k M' hs' ?_)
    simp only [zs_dF0] at hG'
    exact hG'
set_option maxRecDepth 100000 in
set_option maxHeartbeats 4000000 in
theorem lX5_inn4 {l : Launch} {M : zk_M} {t : Nat} {x : Int32} {G : Nat → Int32} (hG : zs_ag 8 (M 10) G) {L : zk_L} {Q : Option Value → zk_M → zk_L → Prop} : ∀ (m i : Nat) (b : Int32), i + m = 8 → zs_p b → (zs_p (zs_for (zu_busf G) m i b) → zk_R l zm 6 muX5_inn 176 [some (.ref 0), some (.int (nI t)), some (.int x), none, some (.int (zs_for (zu_busf G) m i b)), none] [] M L Q) → zk_R l zm 6 muX5_inn 136 [some (.ref 0), some (.int (nI t)), some (.int x), none, some (.int b), some (.int (nI i))] [] M L Q := by
  intro m
  induction m with
  | zero =>
    intro i b hi hb k
    obtain rfl : i = 8 := by omega
    refine zk_iload dX5_inn_136 rfl ?_
    refine zk_bipush (v := 8) dX5_inn_138 (by decide) ?_
    refine zk_icmp_ge (tgt := 176) dX5_inn_140 (by decide) (fun _ => ?_) (fun q => absurd (by decide) q)
    refine zk_forget ?_ (k hb)
    exact ⟨Or.inr rfl, Or.inr rfl, Or.inr rfl, Or.inl rfl, Or.inr rfl, Or.inl rfl, trivial⟩
  | succ m ih =>
    intro i b him hb k
    have hi : i < 8 := by omega
    refine zk_iload dX5_inn_136 rfl ?_
    refine zk_bipush dX5_inn_138 zb_8 ?_
    refine zk_icmp_ge (tgt := 176) dX5_inn_140 (by decide) (fun h140 => absurd h140 (nI_ge (b := 8) hi (by decide))) (fun _ => ?_)
    refine zk_aload_n dX5_inn_143 rfl ?_
    refine zk_getRc (q := 10) dX5_inn_144 fl_X5_37 (by decide : 0 < zm.1) rfl rfl rfl ?_
    refine zk_iload dX5_inn_147 rfl ?_
    refine zk_iald (j := i) dX5_inn_149 (by decide : 10 < zm.1) rfl (zs_in rfl (vp_in_nI hi (by decide))) (nI_clamp (Nat.lt_trans hi (by decide))) ?_
    rw [hG i hi]
    refine zk_cSi (qX5_bits) dX5_inn_150 miX5_bits ml_X5_145 stX5_bits rfl (by decide) rfl (Nat.le_of_ble_eq_true rfl) ?_
    refine zk_aload_n dX5_inn_153 rfl ?_
    refine zk_getRc (q := 10) dX5_inn_154 fl_X5_37 (by decide : 0 < zm.1) rfl rfl rfl ?_
    refine zk_iload dX5_inn_157 rfl ?_
    refine zk_iald (j := _) dX5_inn_159 (by decide : 10 < zm.1) rfl (zs_in rfl (zs_pin hb)) rfl ?_
    rw [hG _ (zs_p_tn hb)]
    refine zk_cSi (qX5_bits) dX5_inn_160 miX5_bits ml_X5_145 stX5_bits rfl (by decide) rfl (Nat.le_of_ble_eq_true rfl) ?_
    refine zk_icmp_le (tgt := 170) dX5_inn_163 (by decide) (fun h163 => ?_) (fun h163 => ?_)
    · refine zk_iinc dX5_inn_170 zc_1 rfl zk_S_5 ?_
      refine zk_goto (tgt := 136) dX5_inn_173 (by decide) ?_
      rw [← nI_succ]
      first
        | (refine ih (i + 1) (nI i) (by omega) (zs_p_nI hi) ?_
           have e : zu_busf G i b = nI i := if_pos (Int32.not_le.mp h163)
           rw [zs_for, e] at k
           exact k)
        | (refine ih (i + 1) b (by omega) hb ?_
           have e : zu_busf G i b = b := if_neg (Int32.not_lt.mpr h163)
           rw [zs_for, e] at k
           exact k)
    · refine zk_iload dX5_inn_166 rfl ?_
      refine zk_istore dX5_inn_168 zk_S_4 ?_
      refine zk_iinc dX5_inn_170 zc_1 rfl zk_S_5 ?_
      refine zk_goto (tgt := 136) dX5_inn_173 (by decide) ?_
      rw [← nI_succ]
      first
        | (refine ih (i + 1) (nI i) (by omega) (zs_p_nI hi) ?_
           have e : zu_busf G i b = nI i := if_pos (Int32.not_le.mp h163)
           rw [zs_for, e] at k
           exact k)
        | (refine ih (i + 1) b (by omega) hb ?_
           have e : zu_busf G i b = b := if_neg (Int32.not_lt.mpr h163)
           rw [zs_for, e] at k
           exact k)
def zu_inv (G : Nat → Int32) (x : Int32) : Int32 := if x = 0 then zs_for (zu_busf G) 8 0 0 else zs_bits (G (zs_for (zu_busf G) 8 0 0).toNatClampNeg)
set_option maxRecDepth 100000 in
set_option maxHeartbeats 4000000 in
theorem qX5_inn_r4 {l : Launch} {M : zk_M} {L : zk_L} {t x : Int32} (ht : t < 0) : zk_C l zm 6 muX5_inn [.ref 0, .int t, .int x] M L (zp_i (-4) (zs_nof M 4)) := by
  refine zk_ofR (ls := [some (.ref 0), some (.int t), some (.int x), none, none, none]) (by decide) rfl (Nat.le_of_ble_eq_true rfl) rfl ?_
  refine zk_iload_n dX5_inn_0 rfl ?_
  refine zk_iconst dX5_inn_1 zc_0 ?_
  refine zk_bipush dX5_inn_2 zb_30 ?_
  refine zk_cSi (qX5_wrongBy) dX5_inn_4 miX5_wrongBy ml_X5_138 stX5_wrongBy rfl (by decide) rfl (Nat.le_of_ble_eq_true rfl) ?_
  rw [if_pos ht]
  refine zk_istore_n dX5_inn_7 zk_S_3 ?_
  refine zk_iload_n dX5_inn_8 rfl ?_
  refine zk_if_ne (tgt := 24) dX5_inn_9 (by decide) (fun _ => ?_) (fun h9 => absurd h9 (by decide))
  refine zk_iload_n dX5_inn_24 rfl ?_
  refine zk_if_eq (tgt := 34) dX5_inn_25 (by decide) (fun h25 => absurd h25 (by decide)) (fun _ => ?_)
  refine zk_aload_n dX5_inn_28 rfl ?_
  refine zk_iload_n dX5_inn_29 rfl ?_
  refine zk_cVi (qno4) dX5_inn_30 mwX5_no ml_X5_42 (by decide : 0 < zm.1) rfl rfl (by decide) rfl (Nat.le_of_ble_eq_true rfl) ?_
  refine zk_iret rfl dX5_inn_33 ?_
  exact ⟨rfl, zs_sm.rf⟩
set_option maxRecDepth 100000 in
set_option maxHeartbeats 4000000 in
theorem qX5_inn_r6 {l : Launch} {M : zk_M} {L : zk_L} {t x : Int32} (ht : ¬ t < 0) (h6 : 30 < t) : zk_C l zm 6 muX5_inn [.ref 0, .int t, .int x] M L (zp_i (-6) (zs_nof M 6)) := by
  refine zk_ofR (ls := [some (.ref 0), some (.int t), some (.int x), none, none, none]) (by decide) rfl (Nat.le_of_ble_eq_true rfl) rfl ?_
  refine zk_iload_n dX5_inn_0 rfl ?_
  refine zk_iconst dX5_inn_1 zc_0 ?_
  refine zk_bipush dX5_inn_2 zb_30 ?_
  refine zk_cSi (qX5_wrongBy) dX5_inn_4 miX5_wrongBy ml_X5_138 stX5_wrongBy rfl (by decide) rfl (Nat.le_of_ble_eq_true rfl) ?_
  rw [if_neg ht, if_pos h6]
  refine zk_istore_n dX5_inn_7 zk_S_3 ?_
  refine zk_iload_n dX5_inn_8 rfl ?_
  refine zk_if_ne (tgt := 24) dX5_inn_9 (by decide) (fun _ => ?_) (fun h9 => absurd h9 (by decide))
  refine zk_iload_n dX5_inn_24 rfl ?_
  refine zk_if_eq (tgt := 34) dX5_inn_25 (by decide) (fun h25 => absurd h25 (by decide)) (fun _ => ?_)
  refine zk_aload_n dX5_inn_28 rfl ?_
  refine zk_iload_n dX5_inn_29 rfl ?_
  refine zk_cVi (qno6) dX5_inn_30 mwX5_no ml_X5_42 (by decide : 0 < zm.1) rfl rfl (by decide) rfl (Nat.le_of_ble_eq_true rfl) ?_
  refine zk_iret rfl dX5_inn_33 ?_
  exact ⟨rfl, zs_sm.rf⟩
set_option maxRecDepth 100000 in
set_option maxHeartbeats 4000000 in
theorem qX5_inn_r2 {l : Launch} {M : zk_M} {L : zk_L} {t x : Int32} (ht : ¬ t < 0) (h6 : ¬ 30 < t) (hx : ¬ (0 ≤ x ∧ x < 2)) : zk_C l zm 6 muX5_inn [.ref 0, .int t, .int x] M L (zp_i (-2) (zs_nof M 2)) := by
  refine zk_ofR (ls := [some (.ref 0), some (.int t), some (.int x), none, none, none]) (by decide) rfl (Nat.le_of_ble_eq_true rfl) rfl ?_
  refine zk_iload_n dX5_inn_0 rfl ?_
  refine zk_iconst dX5_inn_1 zc_0 ?_
  refine zk_bipush dX5_inn_2 zb_30 ?_
  refine zk_cSi (qX5_wrongBy) dX5_inn_4 miX5_wrongBy ml_X5_138 stX5_wrongBy rfl (by decide) rfl (Nat.le_of_ble_eq_true rfl) ?_
  rw [if_neg ht, if_neg h6]
  refine zk_istore_n dX5_inn_7 zk_S_3 ?_
  refine zk_iload_n dX5_inn_8 rfl ?_
  refine zk_if_ne (tgt := 24) dX5_inn_9 (by decide) (fun h9 => absurd (rfl) h9) (fun _ => ?_)
  refine zk_iload_n dX5_inn_12 rfl ?_
  refine zk_iconst dX5_inn_13 zc_0 ?_
  refine zk_iconst dX5_inn_14 zc_1 ?_
  refine zk_cSi (qX5_01_f hx) dX5_inn_15 miX5_isIn ml_X5_46 stX5_isIn rfl (by decide) rfl (Nat.le_of_ble_eq_true rfl) ?_
  refine zk_if_ne (tgt := 24) dX5_inn_18 (by decide) (fun h18 => absurd (rfl) h18) (fun _ => ?_)
  refine zk_bipush dX5_inn_21 zb_m2 ?_
  refine zk_istore_n dX5_inn_23 zk_S_3 ?_
  refine zk_iload_n dX5_inn_24 rfl ?_
  refine zk_if_eq (tgt := 34) dX5_inn_25 (by decide) (fun h25 => absurd h25 (by decide)) (fun _ => ?_)
  refine zk_aload_n dX5_inn_28 rfl ?_
  refine zk_iload_n dX5_inn_29 rfl ?_
  refine zk_cVi (qno2) dX5_inn_30 mwX5_no ml_X5_42 (by decide : 0 < zm.1) rfl rfl (by decide) rfl (Nat.le_of_ble_eq_true rfl) ?_
  refine zk_iret rfl dX5_inn_33 ?_
  exact ⟨rfl, zs_sm.rf⟩
set_option maxRecDepth 100000 in
set_option maxHeartbeats 4000000 in
theorem qX5_inn_t {l : Launch} {M : zk_M} {L : zk_L} {n : Nat} (hA : zs_A (M 1) n) {t : Nat} (ht : t ≤ 30) {x : Int32} (hx : 0 ≤ x ∧ x < 2) : zk_C l zm 6 muX5_inn [.ref 0, .int (nI t), .int x] M L (zp_i (zu_inv (zu_ind (zs_J (M 1)) (zs_FW (zs_J (M 1))) n (t + 1) (fun p => zs_get (M 1) p) (fun _ => 0)) x) M) := by
  refine zk_ofR (ls := [some (.ref 0), some (.int (nI t)), some (.int x), none, none, none]) (by decide) rfl (Nat.le_of_ble_eq_true rfl) rfl ?_
  refine zk_iload_n dX5_inn_0 rfl ?_
  refine zk_iconst dX5_inn_1 zc_0 ?_
  refine zk_bipush dX5_inn_2 zb_30 ?_
  refine zk_cSi (qX5_wrongBy) dX5_inn_4 miX5_wrongBy ml_X5_138 stX5_wrongBy rfl (by decide) rfl (Nat.le_of_ble_eq_true rfl) ?_
  rw [if_neg (nI_pos (by omega)), if_neg (show ¬ (30 : Int32) < nI t from nI_nlt (a := 30) ht (by decide))]
  refine zk_istore_n dX5_inn_7 zk_S_3 ?_
  refine zk_iload_n dX5_inn_8 rfl ?_
  refine zk_if_ne (tgt := 24) dX5_inn_9 (by decide) (fun h9 => absurd (rfl) h9) (fun _ => ?_)
  refine zk_iload_n dX5_inn_12 rfl ?_
  refine zk_iconst dX5_inn_13 zc_0 ?_
  refine zk_iconst dX5_inn_14 zc_1 ?_
  refine zk_cSi (qX5_01_t hx) dX5_inn_15 miX5_isIn ml_X5_46 stX5_isIn rfl (by decide) rfl (Nat.le_of_ble_eq_true rfl) ?_
  refine zk_if_ne (tgt := 24) dX5_inn_18 (by decide) (fun _ => ?_) (fun h18 => absurd h18 (by decide))
  refine zk_iload_n dX5_inn_24 rfl ?_
  refine zk_if_eq (tgt := 34) dX5_inn_25 (by decide) (fun _ => ?_) (fun h25 => absurd (rfl) h25)
  refine zk_iconst dX5_inn_34 zc_0 ?_
  refine zk_istore dX5_inn_35 zk_S_4 ?_
  refine zk_forget (ls' := [some (.ref 0), some (.int (nI t)), some (.int x), none, some (.int (nI 0)), none]) ⟨Or.inr rfl, Or.inr rfl, Or.inr rfl, Or.inl rfl, Or.inr rfl, Or.inl rfl, trivial⟩ (lX5_inn1 8 0 M rfl zs_sm.rf (fun j hj => absurd hj (Nat.not_lt_zero j)) (fun M1 hs1 hG1 => ?_))
  refine zk_aload_n dX5_inn_58 rfl ?_
  refine zk_iconst dX5_inn_59 zc_0 ?_
  refine zk_callV (qX5_takes10 (t := 0) hA hs1 (by decide)) dX5_inn_60 mwX5_takes ml_X5_148 (by decide : 0 < zm.1) rfl rfl (by decide) rfl (Nat.le_of_ble_eq_true rfl) (fun r2 M2 L2 h2 => ?_)
  obtain ⟨rfl, hs2, hV, h10, -⟩ := h2
  rw [← h10] at hG1
  refine zk_iconst dX5_inn_63 zc_0 ?_
  refine zk_istore dX5_inn_64 zk_S_4 ?_
  refine lX5_inn3 ht (t + 1) 0 _ M2 _ (by omega) hs2 hV hG1 (fun M3 hs2 hG => ?_)
  refine zk_iconst dX5_inn_130 zc_0 ?_
  refine zk_istore dX5_inn_131 zk_S_4 ?_
  refine zk_iconst dX5_inn_133 zc_0 ?_
  refine zk_istore dX5_inn_134 zk_S_5 ?_
  refine lX5_inn4 hG 8 0 0 rfl (by decide) (fun hb => ?_)
  refine zk_iload_n dX5_inn_176 rfl ?_
  refine zk_if_ne (tgt := 185) dX5_inn_177 (by decide) (fun h177 => ?_) (fun h177 => ?_)
  · refine zk_aload_n dX5_inn_185 rfl ?_
    refine zk_getRc (q := 10) dX5_inn_186 fl_X5_37 (by decide : 0 < zm.1) rfl rfl rfl ?_
    refine zk_iload dX5_inn_189 rfl ?_
    refine zk_iald (j := _) dX5_inn_191 (by decide : 10 < zm.1) rfl (zs_in rfl (zs_pin hb)) rfl ?_
    rw [hG _ (zs_p_tn hb)]
    refine zk_cSi (qX5_bits) dX5_inn_192 miX5_bits ml_X5_145 stX5_bits rfl (by decide) rfl (Nat.le_of_ble_eq_true rfl) ?_
    refine zk_iret rfl dX5_inn_195 ?_
    exact ⟨congrArg (fun v => some (Value.int v)) (by first | exact (if_pos h177).symm | exact (if_neg h177).symm), hs2⟩
  · refine zk_iload dX5_inn_180 rfl ?_
    refine zk_goto (tgt := 195) dX5_inn_182 (by decide) ?_
    refine zk_iret rfl dX5_inn_195 ?_
    exact ⟨congrArg (fun v => some (Value.int v)) (by first | exact (if_pos h177).symm | exact (if_neg h177).symm), hs2⟩
