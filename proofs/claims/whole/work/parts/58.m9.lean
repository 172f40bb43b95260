/-! apart -/
def zu_mxf (T : Nat → Int32) (i : Nat) (x : Int32) : Int32 := if T i < 9 ∧ x < T i then T i else x
theorem zs_k_b4 {x : Int32} (h : 0 ≤ x ∧ x ≤ 3) : zs_b4 x := by
  have h1 := h.1
  have h2 := h.2
  rw [Int32.le_iff_toInt_le] at h1 h2
  have e0 : (0 : Int32).toInt = 0 := rfl
  have e1 : (1 : Int32).toInt = 1 := rfl
  have e2 : (2 : Int32).toInt = 2 := rfl
  have e3 : (3 : Int32).toInt = 3 := rfl
  unfold zs_b4
  simp only [← Int32.toInt_inj]
  omega
set_option maxRecDepth 100000 in
set_option maxHeartbeats 4000000 in
theorem lX5_mostApart {l : Launch} {M : zk_M} {L : zk_L} {T : Nat → Int32} (hT : zs_ag 64 (M 5) T) {Q : Option Value → zk_M → zk_L → Prop} : ∀ (m i : Nat) (x : Int32), i + m = 64 → zk_R l zm 0 muX5_mostApart 48 [some (.ref 0), some (.int (zs_for (zu_mxf T) m i x)), none] [] M L Q → zk_R l zm 0 muX5_mostApart 4 [some (.ref 0), some (.int x), some (.int (nI i))] [] M L Q := by
  intro m
  induction m with
  | zero =>
    intro i x hi k
    obtain rfl : i = 64 := by omega
    refine zk_iload_n dX5_mostApart_4 rfl ?_
    refine zk_bipush (v := 64) dX5_mostApart_5 (by decide) ?_
    refine zk_icmp_ge (tgt := 48) dX5_mostApart_7 (by decide) (fun _ => ?_) (fun q => absurd (by decide) q)
    refine zk_forget ?_ k
    exact ⟨Or.inr rfl, Or.inr rfl, Or.inl rfl, trivial⟩
  | succ m ih =>
    intro i x him k
    have hi : i < 64 := by omega
    refine zk_iload_n dX5_mostApart_4 rfl ?_
    refine zk_bipush dX5_mostApart_5 zb_64 ?_
    refine zk_icmp_ge (tgt := 48) dX5_mostApart_7 (by decide) (fun h7 => absurd h7 (nI_ge (b := 64) hi (by decide))) (fun _ => ?_)
    refine zk_aload_n dX5_mostApart_10 rfl ?_
    refine zk_getRc (q := 5) dX5_mostApart_11 fl_X5_22 (by decide : 0 < zm.1) rfl rfl rfl ?_
    refine zk_iload_n dX5_mostApart_14 rfl ?_
    refine zk_iald (j := i) dX5_mostApart_15 (by decide : 5 < zm.1) rfl (zs_in rfl (vp_in_nI hi (by decide))) (nI_clamp (Nat.lt_trans hi (by decide))) ?_
    rw [hT i hi]
    refine zk_bipush dX5_mostApart_16 zb_9 ?_
    refine zk_icmp_ge (tgt := 40) dX5_mostApart_18 (by decide) (fun h18 => ?_) (fun h18 => ?_)
    · refine zk_iload_n dX5_mostApart_40 rfl ?_
      refine zk_istore_n dX5_mostApart_41 zk_S_1 ?_
      refine zk_iinc dX5_mostApart_42 zc_1 rfl zk_S_2 ?_
      refine zk_goto (tgt := 4) dX5_mostApart_45 (by decide) ?_
      rw [← nI_succ]
      first
        | (refine ih (i + 1) x (by omega) ?_
           have e : zu_mxf T i x = x := if_neg (fun q => absurd q.1 (Int32.not_lt.mpr h18))
           rw [zs_for, e] at k
           exact k)
        | (refine ih (i + 1) x (by omega) ?_
           have e : zu_mxf T i x = x := if_neg (fun q => absurd q.2 (Int32.not_lt.mpr h28))
           rw [zs_for, e] at k
           exact k)
        | (refine ih (i + 1) (T i) (by omega) ?_
           have e : zu_mxf T i x = T i := if_pos ⟨Int32.not_le.mp h18, Int32.not_le.mp h28⟩
           rw [zs_for, e] at k
           exact k)
    · refine zk_aload_n dX5_mostApart_21 rfl ?_
      refine zk_getRc (q := 5) dX5_mostApart_22 fl_X5_22 (by decide : 0 < zm.1) rfl rfl rfl ?_
      refine zk_iload_n dX5_mostApart_25 rfl ?_
      refine zk_iald (j := i) dX5_mostApart_26 (by decide : 5 < zm.1) rfl (zs_in rfl (vp_in_nI hi (by decide))) (nI_clamp (Nat.lt_trans hi (by decide))) ?_
      rw [hT i hi]
      refine zk_iload_n dX5_mostApart_27 rfl ?_
      refine zk_icmp_le (tgt := 40) dX5_mostApart_28 (by decide) (fun h28 => ?_) (fun h28 => ?_)
      · refine zk_iload_n dX5_mostApart_40 rfl ?_
        refine zk_istore_n dX5_mostApart_41 zk_S_1 ?_
        refine zk_iinc dX5_mostApart_42 zc_1 rfl zk_S_2 ?_
        refine zk_goto (tgt := 4) dX5_mostApart_45 (by decide) ?_
        rw [← nI_succ]
        first
          | (refine ih (i + 1) x (by omega) ?_
             have e : zu_mxf T i x = x := if_neg (fun q => absurd q.1 (Int32.not_lt.mpr h18))
             rw [zs_for, e] at k
             exact k)
          | (refine ih (i + 1) x (by omega) ?_
             have e : zu_mxf T i x = x := if_neg (fun q => absurd q.2 (Int32.not_lt.mpr h28))
             rw [zs_for, e] at k
             exact k)
          | (refine ih (i + 1) (T i) (by omega) ?_
             have e : zu_mxf T i x = T i := if_pos ⟨Int32.not_le.mp h18, Int32.not_le.mp h28⟩
             rw [zs_for, e] at k
             exact k)
      · refine zk_aload_n dX5_mostApart_31 rfl ?_
        refine zk_getRc (q := 5) dX5_mostApart_32 fl_X5_22 (by decide : 0 < zm.1) rfl rfl rfl ?_
        refine zk_iload_n dX5_mostApart_35 rfl ?_
        refine zk_iald (j := i) dX5_mostApart_36 (by decide : 5 < zm.1) rfl (zs_in rfl (vp_in_nI hi (by decide))) (nI_clamp (Nat.lt_trans hi (by decide))) ?_
        rw [hT i hi]
        refine zk_goto (tgt := 41) dX5_mostApart_37 (by decide) ?_
        refine zk_istore_n dX5_mostApart_41 zk_S_1 ?_
        refine zk_iinc dX5_mostApart_42 zc_1 rfl zk_S_2 ?_
        refine zk_goto (tgt := 4) dX5_mostApart_45 (by decide) ?_
        rw [← nI_succ]
        first
          | (refine ih (i + 1) x (by omega) ?_
             have e : zu_mxf T i x = x := if_neg (fun q => absurd q.1 (Int32.not_lt.mpr h18))
             rw [zs_for, e] at k
             exact k)
          | (refine ih (i + 1) x (by omega) ?_
             have e : zu_mxf T i x = x := if_neg (fun q => absurd q.2 (Int32.not_lt.mpr h28))
             rw [zs_for, e] at k
             exact k)
          | (refine ih (i + 1) (T i) (by omega) ?_
             have e : zu_mxf T i x = T i := if_pos ⟨Int32.not_le.mp h18, Int32.not_le.mp h28⟩
             rw [zs_for, e] at k
             exact k)
set_option maxRecDepth 100000 in
set_option maxHeartbeats 4000000 in
theorem qX5_mostApart {l : Launch} {M : zk_M} {L : zk_L} {T : Nat → Int32} (hT : zs_ag 64 (M 5) T) : zk_C l zm 0 muX5_mostApart [.ref 0] M L (zk_Ei (zs_for (zu_mxf T) 64 0 0) M L) := by
  refine zk_ofR (ls := [some (.ref 0), none, none]) (by decide) rfl (Nat.le_of_ble_eq_true rfl) rfl ?_
  refine zk_iconst dX5_mostApart_0 zc_0 ?_
  refine zk_istore_n dX5_mostApart_1 zk_S_1 ?_
  refine zk_iconst dX5_mostApart_2 zc_0 ?_
  refine zk_istore_n dX5_mostApart_3 zk_S_2 ?_
  refine lX5_mostApart hT 64 0 0 rfl ?_
  refine zk_iload_n dX5_mostApart_48 rfl ?_
  refine zk_iret rfl dX5_mostApart_49 ?_
  exact ⟨rfl, rfl, rfl⟩
def zu_far (T : Nat → Int32) (i : Nat) (s : Int32) : Int32 := s ||| (if T i = 9 then 1 <<< (nI i &&& 31) else 0)
abbrev zu_apc (x : Int32) (T : Nat → Int32) (F : Nat → Nat → Int32) (i : Nat) : Prop := if x = 2 then F i 2 = F i 3 else T (F i 4 * 8 + F i 3).toNatClampNeg = 9
def zu_apf (x : Int32) (T : Nat → Int32) (F : Nat → Nat → Int32) (i : Nat) (s : Int32) : Int32 := s ||| (if zu_apc x T F i then 1 <<< (nI i &&& 31) else 0)
set_option maxRecDepth 100000 in
set_option maxHeartbeats 4000000 in
theorem lX5_apart1 {l : Launch} {M : zk_M} {L : zk_L} {T : Nat → Int32} {y : Int32} (hT : zs_ag 64 (M 5) T) {Q : Option Value → zk_M → zk_L → Prop} : ∀ (m i : Nat) (s : Int32), i + m = 8 → zk_R l zm 2 muX5_apart 75 [some (.ref 0), some (.int y), some (.int (zs_for (zu_far T) m i s)), none] [] M L Q → zk_R l zm 2 muX5_apart 42 [some (.ref 0), some (.int y), some (.int s), some (.int (nI i))] [] M L Q := by
  intro m
  induction m with
  | zero =>
    intro i s hi k
    obtain rfl : i = 8 := by omega
    refine zk_iload_n dX5_apart_42 rfl ?_
    refine zk_bipush (v := 8) dX5_apart_43 (by decide) ?_
    refine zk_icmp_ge (tgt := 75) dX5_apart_45 (by decide) (fun _ => ?_) (fun q => absurd (by decide) q)
    refine zk_forget ?_ k
    exact ⟨Or.inr rfl, Or.inr rfl, Or.inr rfl, Or.inl rfl, trivial⟩
  | succ m ih =>
    intro i s him k
    have hi : i < 8 := by omega
    refine zk_iload_n dX5_apart_42 rfl ?_
    refine zk_bipush dX5_apart_43 zb_8 ?_
    refine zk_icmp_ge (tgt := 75) dX5_apart_45 (by decide) (fun h45 => absurd h45 (nI_ge (b := 8) hi (by decide))) (fun _ => ?_)
    refine zk_iload_n dX5_apart_48 rfl ?_
    refine zk_aload_n dX5_apart_49 rfl ?_
    refine zk_getRc (q := 5) dX5_apart_50 fl_X5_22 (by decide : 0 < zm.1) rfl rfl rfl ?_
    refine zk_iload_n dX5_apart_53 rfl ?_
    refine zk_iald (j := i) dX5_apart_54 (by decide : 5 < zm.1) rfl (zs_in rfl (vp_in_nI (show i < 64 by omega) (by decide))) (nI_clamp (by omega)) ?_
    rw [hT i (by omega)]
    refine zk_bipush dX5_apart_55 zb_9 ?_
    refine zk_icmp_ne (tgt := 66) dX5_apart_57 (by decide) (fun h57 => ?_) (fun h57 => ?_)
    · refine zk_iconst dX5_apart_66 zc_0 ?_
      refine zk_ior dX5_apart_67 ?_
      refine zk_istore_n dX5_apart_68 zk_S_2 ?_
      refine zk_iinc dX5_apart_69 zc_1 rfl zk_S_3 ?_
      refine zk_goto (tgt := 42) dX5_apart_72 (by decide) ?_
      rw [← nI_succ]
      first
        | (refine ih (i + 1) _ (by omega) ?_
           have e : zu_far T i s = s ||| 1 <<< (nI i &&& 31) := by rw [zu_far, if_pos h57]
           rw [zs_for, e] at k
           exact k)
        | (refine ih (i + 1) _ (by omega) ?_
           have e : zu_far T i s = s ||| 0 := by rw [zu_far, if_neg h57]
           rw [zs_for, e] at k
           exact k)
    · refine zk_iconst dX5_apart_60 zc_1 ?_
      refine zk_iload_n dX5_apart_61 rfl ?_
      refine zk_ishl dX5_apart_62 ?_
      refine zk_goto (tgt := 67) dX5_apart_63 (by decide) ?_
      refine zk_ior dX5_apart_67 ?_
      refine zk_istore_n dX5_apart_68 zk_S_2 ?_
      refine zk_iinc dX5_apart_69 zc_1 rfl zk_S_3 ?_
      refine zk_goto (tgt := 42) dX5_apart_72 (by decide) ?_
      rw [← nI_succ]
      first
        | (refine ih (i + 1) _ (by omega) ?_
           have e : zu_far T i s = s ||| 1 <<< (nI i &&& 31) := by rw [zu_far, if_pos h57]
           rw [zs_for, e] at k
           exact k)
        | (refine ih (i + 1) _ (by omega) ?_
           have e : zu_far T i s = s ||| 0 := by rw [zu_far, if_neg h57]
           rw [zs_for, e] at k
           exact k)
set_option maxRecDepth 100000 in
set_option maxHeartbeats 4000000 in
theorem lX5_apart2 {l : Launch} {M : zk_M} {L : zk_L} {n : Nat} (hA : zs_A (M 1) n) {T : Nat → Int32} {y : Int32} (hT : zs_ag 64 (M 5) T) {Q : Option Value → zk_M → zk_L → Prop} : ∀ (m i : Nat) (s : Int32), i + m = n → zk_R l zm 2 muX5_apart 171 [some (.ref 0), some (.int y), some (.int (zs_for (zu_apf y T (fun p => zs_get (M 1) p)) m i s)), none] [] M L Q → zk_R l zm 2 muX5_apart 80 [some (.ref 0), some (.int y), some (.int s), some (.int (nI i))] [] M L Q := by
  have hn6 := hA.1
  intro m
  induction m with
  | zero =>
    intro i s hi k
    obtain rfl : i = n := by omega
    refine zk_iload_n dX5_apart_80 rfl ?_
    refine zk_aload_n dX5_apart_81 rfl ?_
    refine zk_getRc (q := 1) dX5_apart_82 fl_X5_9 (by decide) rfl rfl rfl ?_
    refine zk_iconst dX5_apart_85 zc_0 ?_
    refine zk_iald (j := 0) dX5_apart_86 (by decide) rfl (zs_in rfl (vp_in_iff.mpr (by decide))) (by decide) ?_
    rw [hA.2.1]
    refine zk_icmp_ge (tgt := 171) dX5_apart_87 (by decide) (fun _ => ?_) (fun q => absurd (nI_le (Nat.le_refl _) (by omega)) q)
    refine zk_forget ?_ k
    exact ⟨Or.inr rfl, Or.inr rfl, Or.inr rfl, Or.inl rfl, trivial⟩
  | succ m ih =>
    intro i s him k
    have hi : i < n := by omega
    have hi6 : i < 6 := by omega
    refine zk_iload_n dX5_apart_80 rfl ?_
    refine zk_aload_n dX5_apart_81 rfl ?_
    refine zk_getRc (q := 1) dX5_apart_82 fl_X5_9 (by decide : 0 < zm.1) rfl rfl rfl ?_
    refine zk_iconst dX5_apart_85 zc_0 ?_
    refine zk_iald (j := 0) dX5_apart_86 (by decide : 1 < zm.1) rfl (zs_in rfl (vp_in_iff.mpr (by decide))) (by decide) ?_
    rw [hA.2.1]
    refine zk_icmp_ge (tgt := 171) dX5_apart_87 (by decide) (fun h87 => absurd h87 (nI_ge hi (by omega))) (fun _ => ?_)
    refine zk_iload_n dX5_apart_90 rfl ?_
    refine zk_iload_n dX5_apart_91 rfl ?_
    refine zk_iconst dX5_apart_92 zc_2 ?_
    refine zk_icmp_ne (tgt := 122) dX5_apart_93 (by decide) (fun h93 => ?_) (fun h93 => ?_)
    · refine zk_aload_n dX5_apart_122 rfl ?_
      refine zk_getRc (q := 5) dX5_apart_123 fl_X5_22 (by decide : 0 < zm.1) rfl rfl rfl ?_
      refine zk_bipush dX5_apart_126 zb_8 ?_
      refine zk_aload_n dX5_apart_128 rfl ?_
      refine zk_getRc (q := 1) dX5_apart_129 fl_X5_9 (by decide : 0 < zm.1) rfl rfl rfl ?_
      refine zk_iload_n dX5_apart_132 rfl ?_
      refine zk_iconst dX5_apart_133 zc_4 ?_
      refine zk_cSi (qX5_of (p := i) (k := 4)) dX5_apart_134 miX5_of ml_X5_58 stX5_of rfl (by decide) rfl (Nat.le_of_ble_eq_true rfl) ?_
      refine zk_iald (j := 10 + 7 * i + 4) dX5_apart_137 (by decide : 1 < zm.1) rfl (zs_in rfl (vp_in_nI (zs_7p hi6 (show 4 < 7 by decide)) (by decide))) (nI_clamp (by omega)) ?_
      refine zk_imul dX5_apart_138 ?_
      refine zk_aload_n dX5_apart_139 rfl ?_
      refine zk_getRc (q := 1) dX5_apart_140 fl_X5_9 (by decide : 0 < zm.1) rfl rfl rfl ?_
      refine zk_iload_n dX5_apart_143 rfl ?_
      refine zk_iconst dX5_apart_144 zc_3 ?_
      refine zk_cSi (qX5_of (p := i) (k := 3)) dX5_apart_145 miX5_of ml_X5_58 stX5_of rfl (by decide) rfl (Nat.le_of_ble_eq_true rfl) ?_
      refine zk_iald (j := 10 + 7 * i + 3) dX5_apart_148 (by decide : 1 < zm.1) rfl (zs_in rfl (vp_in_nI (zs_7p hi6 (show 3 < 7 by decide)) (by decide))) (nI_clamp (by omega)) ?_
      refine zk_iadd dX5_apart_149 ?_
      rw [Int32.mul_comm]
      refine zk_iald (j := _) dX5_apart_150 (by decide : 5 < zm.1) rfl (zs_in rfl (zs_ix64 (hA.2.2 i hi6).1.2.2 (hA.2.2 i hi6).1.2.1)) rfl ?_
      rw [show M 5 (M 1 (10 + 7 * i + 4) * 8 + M 1 (10 + 7 * i + 3)).toNatClampNeg = T (zs_get (M 1) i 4 * 8 + zs_get (M 1) i 3).toNatClampNeg from hT _ (zs_p_tn64 (hA.2.2 i hi6).1.2.2 (hA.2.2 i hi6).1.2.1)]
      refine zk_bipush dX5_apart_151 zb_9 ?_
      refine zk_icmp_ne (tgt := 162) dX5_apart_153 (by decide) (fun h153 => ?_) (fun h153 => ?_)
      · refine zk_iconst dX5_apart_162 zc_0 ?_
        refine zk_ior dX5_apart_163 ?_
        refine zk_istore_n dX5_apart_164 zk_S_2 ?_
        refine zk_iinc dX5_apart_165 zc_1 rfl zk_S_3 ?_
        refine zk_goto (tgt := 80) dX5_apart_168 (by decide) ?_
        rw [← nI_succ]
        first
          | (refine ih (i + 1) _ (by omega) ?_
             have e : zu_apf y T (fun p => zs_get (M 1) p) i s = s ||| 1 <<< (nI i &&& 31) := by rw [zu_apf, if_pos (show zu_apc _ _ _ _ by rw [zu_apc, if_pos h93]; exact h116)]
             rw [zs_for, e] at k
             exact k)
          | (refine ih (i + 1) _ (by omega) ?_
             have e : zu_apf y T (fun p => zs_get (M 1) p) i s = s ||| 0 := by rw [zu_apf, if_neg (show ¬ zu_apc _ _ _ _ by rw [zu_apc, if_pos h93]; exact h116)]
             rw [zs_for, e] at k
             exact k)
          | (refine ih (i + 1) _ (by omega) ?_
             have e : zu_apf y T (fun p => zs_get (M 1) p) i s = s ||| 1 <<< (nI i &&& 31) := by rw [zu_apf, if_pos (show zu_apc _ _ _ _ by rw [zu_apc, if_neg h93]; exact h153)]
             rw [zs_for, e] at k
             exact k)
          | (refine ih (i + 1) _ (by omega) ?_
             have e : zu_apf y T (fun p => zs_get (M 1) p) i s = s ||| 0 := by rw [zu_apf, if_neg (show ¬ zu_apc _ _ _ _ by rw [zu_apc, if_neg h93]; exact h153)]
             rw [zs_for, e] at k
             exact k)
      · refine zk_iconst dX5_apart_156 zc_1 ?_
        refine zk_iload_n dX5_apart_157 rfl ?_
        refine zk_ishl dX5_apart_158 ?_
        refine zk_goto (tgt := 163) dX5_apart_159 (by decide) ?_
        refine zk_ior dX5_apart_163 ?_
        refine zk_istore_n dX5_apart_164 zk_S_2 ?_
        refine zk_iinc dX5_apart_165 zc_1 rfl zk_S_3 ?_
        refine zk_goto (tgt := 80) dX5_apart_168 (by decide) ?_
        rw [← nI_succ]
        first
          | (refine ih (i + 1) _ (by omega) ?_
             have e : zu_apf y T (fun p => zs_get (M 1) p) i s = s ||| 1 <<< (nI i &&& 31) := by rw [zu_apf, if_pos (show zu_apc _ _ _ _ by rw [zu_apc, if_pos h93]; exact h116)]
             rw [zs_for, e] at k
             exact k)
          | (refine ih (i + 1) _ (by omega) ?_
             have e : zu_apf y T (fun p => zs_get (M 1) p) i s = s ||| 0 := by rw [zu_apf, if_neg (show ¬ zu_apc _ _ _ _ by rw [zu_apc, if_pos h93]; exact h116)]
             rw [zs_for, e] at k
             exact k)
          | (refine ih (i + 1) _ (by omega) ?_
             have e : zu_apf y T (fun p => zs_get (M 1) p) i s = s ||| 1 <<< (nI i &&& 31) := by rw [zu_apf, if_pos (show zu_apc _ _ _ _ by rw [zu_apc, if_neg h93]; exact h153)]
             rw [zs_for, e] at k
             exact k)
          | (refine ih (i + 1) _ (by omega) ?_
             have e : zu_apf y T (fun p => zs_get (M 1) p) i s = s ||| 0 := by rw [zu_apf, if_neg (show ¬ zu_apc _ _ _ _ by rw [zu_apc, if_neg h93]; exact h153)]
             rw [zs_for, e] at k
             exact k)
    · refine zk_aload_n dX5_apart_96 rfl ?_
      refine zk_getRc (q := 1) dX5_apart_97 fl_X5_9 (by decide : 0 < zm.1) rfl rfl rfl ?_
      refine zk_iload_n dX5_apart_100 rfl ?_
      refine zk_iconst dX5_apart_101 zc_2 ?_
      refine zk_cSi (qX5_of (p := i) (k := 2)) dX5_apart_102 miX5_of ml_X5_58 stX5_of rfl (by decide) rfl (Nat.le_of_ble_eq_true rfl) ?_
      refine zk_iald (j := 10 + 7 * i + 2) dX5_apart_105 (by decide : 1 < zm.1) rfl (zs_in rfl (vp_in_nI (zs_7p hi6 (show 2 < 7 by decide)) (by decide))) (nI_clamp (by omega)) ?_
      refine zk_aload_n dX5_apart_106 rfl ?_
      refine zk_getRc (q := 1) dX5_apart_107 fl_X5_9 (by decide : 0 < zm.1) rfl rfl rfl ?_
      refine zk_iload_n dX5_apart_110 rfl ?_
      refine zk_iconst dX5_apart_111 zc_3 ?_
      refine zk_cSi (qX5_of (p := i) (k := 3)) dX5_apart_112 miX5_of ml_X5_58 stX5_of rfl (by decide) rfl (Nat.le_of_ble_eq_true rfl) ?_
      refine zk_iald (j := 10 + 7 * i + 3) dX5_apart_115 (by decide : 1 < zm.1) rfl (zs_in rfl (vp_in_nI (zs_7p hi6 (show 3 < 7 by decide)) (by decide))) (nI_clamp (by omega)) ?_
      refine zk_icmp_ne (tgt := 162) dX5_apart_116 (by decide) (fun h116 => ?_) (fun h116 => ?_)
      · refine zk_iconst dX5_apart_162 zc_0 ?_
        refine zk_ior dX5_apart_163 ?_
        refine zk_istore_n dX5_apart_164 zk_S_2 ?_
        refine zk_iinc dX5_apart_165 zc_1 rfl zk_S_3 ?_
        refine zk_goto (tgt := 80) dX5_apart_168 (by decide) ?_
        rw [← nI_succ]
        first
          | (refine ih (i + 1) _ (by omega) ?_
             have e : zu_apf y T (fun p => zs_get (M 1) p) i s = s ||| 1 <<< (nI i &&& 31) := by rw [zu_apf, if_pos (show zu_apc _ _ _ _ by rw [zu_apc, if_pos h93]; exact h116)]
             rw [zs_for, e] at k
             exact k)
          | (refine ih (i + 1) _ (by omega) ?_
             have e : zu_apf y T (fun p => zs_get (M 1) p) i s = s ||| 0 := by rw [zu_apf, if_neg (show ¬ zu_apc _ _ _ _ by rw [zu_apc, if_pos h93]; exact h116)]
             rw [zs_for, e] at k
             exact k)
          | (refine ih (i + 1) _ (by omega) ?_
             have e : zu_apf y T (fun p => zs_get (M 1) p) i s = s ||| 1 <<< (nI i &&& 31) := by rw [zu_apf, if_pos (show zu_apc _ _ _ _ by rw [zu_apc, if_neg h93]; exact h153)]
             rw [zs_for, e] at k
             exact k)
          | (refine ih (i + 1) _ (by omega) ?_
             have e : zu_apf y T (fun p => zs_get (M 1) p) i s = s ||| 0 := by rw [zu_apf, if_neg (show ¬ zu_apc _ _ _ _ by rw [zu_apc, if_neg h93]; exact h153)]
             rw [zs_for, e] at k
             exact k)
      · refine zk_goto (tgt := 156) dX5_apart_119 (by decide) ?_
        refine zk_iconst dX5_apart_156 zc_1 ?_
        refine zk_iload_n dX5_apart_157 rfl ?_
        refine zk_ishl dX5_apart_158 ?_
        refine zk_goto (tgt := 163) dX5_apart_159 (by decide) ?_
        refine zk_ior dX5_apart_163 ?_
        refine zk_istore_n dX5_apart_164 zk_S_2 ?_
        refine zk_iinc dX5_apart_165 zc_1 rfl zk_S_3 ?_
        refine zk_goto (tgt := 80) dX5_apart_168 (by decide) ?_
        rw [← nI_succ]
        first
          | (refine ih (i + 1) _ (by omega) ?_
             have e : zu_apf y T (fun p => zs_get (M 1) p) i s = s ||| 1 <<< (nI i &&& 31) := by rw [zu_apf, if_pos (show zu_apc _ _ _ _ by rw [zu_apc, if_pos h93]; exact h116)]
             rw [zs_for, e] at k
             exact k)
          | (refine ih (i + 1) _ (by omega) ?_
             have e : zu_apf y T (fun p => zs_get (M 1) p) i s = s ||| 0 := by rw [zu_apf, if_neg (show ¬ zu_apc _ _ _ _ by rw [zu_apc, if_pos h93]; exact h116)]
             rw [zs_for, e] at k
             exact k)
          | (refine ih (i + 1) _ (by omega) ?_
             have e : zu_apf y T (fun p => zs_get (M 1) p) i s = s ||| 1 <<< (nI i &&& 31) := by rw [zu_apf, if_pos (show zu_apc _ _ _ _ by rw [zu_apc, if_neg h93]; exact h153)]
             rw [zs_for, e] at k
             exact k)
          | (refine ih (i + 1) _ (by omega) ?_
             have e : zu_apf y T (fun p => zs_get (M 1) p) i s = s ||| 0 := by rw [zu_apf, if_neg (show ¬ zu_apc _ _ _ _ by rw [zu_apc, if_neg h93]; exact h153)]
             rw [zs_for, e] at k
             exact k)
set_option maxRecDepth 100000 in
set_option maxHeartbeats 4000000 in
theorem qX5_apart_r {l : Launch} {M : zk_M} {L : zk_L} {x : Int32} (hx : ¬ zs_b4 x) : zk_C l zm 2 muX5_apart [.ref 0, .int x] M L (zp_i (-2) (zs_nof M 2)) := by
  refine zk_ofR (ls := [some (.ref 0), some (.int x), none, none]) (by decide) rfl (Nat.le_of_ble_eq_true rfl) rfl ?_
  refine zk_iload_n dX5_apart_0 rfl ?_
  refine zk_iconst dX5_apart_1 zc_0 ?_
  refine zk_iconst dX5_apart_2 zc_3 ?_
  refine zk_cSi (qX5_isIn_f (fun q => hx (zs_k_b4 q))) dX5_apart_3 miX5_isIn ml_X5_46 stX5_isIn rfl (by decide) rfl (Nat.le_of_ble_eq_true rfl) ?_
  refine zk_if_ne (tgt := 16) dX5_apart_6 (by decide) (fun h6 => absurd (rfl) h6) (fun _ => ?_)
  refine zk_aload_n dX5_apart_9 rfl ?_
  refine zk_bipush dX5_apart_10 zb_m2 ?_
  refine zk_cVi (qno2) dX5_apart_12 mwX5_no ml_X5_42 (by decide : 0 < zm.1) rfl rfl (by decide) rfl (Nat.le_of_ble_eq_true rfl) ?_
  refine zk_iret rfl dX5_apart_15 ?_
  exact ⟨rfl, zs_sm.rf⟩
set_option maxRecDepth 100000 in
set_option maxHeartbeats 4000000 in
theorem qX5_apart_0 {l : Launch} {M : zk_M} {L : zk_L}  : zk_C l zm 2 muX5_apart [.ref 0, .int 0] M L (zp_i (zs_for (zu_mxf (zs_FW (zs_J (M 1)))) 64 0 0) M) := by
  refine zk_ofR (ls := [some (.ref 0), some (.int 0), none, none]) (by decide) rfl (Nat.le_of_ble_eq_true rfl) rfl ?_
  refine zk_iload_n dX5_apart_0 rfl ?_
  refine zk_iconst dX5_apart_1 zc_0 ?_
  refine zk_iconst dX5_apart_2 zc_3 ?_
  refine zk_cSi (qX5_isIn_t (by decide)) dX5_apart_3 miX5_isIn ml_X5_46 stX5_isIn rfl (by decide) rfl (Nat.le_of_ble_eq_true rfl) ?_
  refine zk_if_ne (tgt := 16) dX5_apart_6 (by decide) (fun _ => ?_) (fun h6 => absurd h6 (by decide))
  refine zk_aload_n dX5_apart_16 rfl ?_
  refine zk_aload_n dX5_apart_17 rfl ?_
  refine zk_getRc (q := 1) dX5_apart_18 fl_X5_9 (by decide : 0 < zm.1) rfl rfl rfl ?_
  refine zk_cVv (qm1_measures) dX5_apart_21 mwX5_measures ml_X5_72 (by decide : 0 < zm.1) rfl rfl (by decide) rfl (Nat.le_of_ble_eq_true rfl) ?_
  refine zk_iload_n dX5_apart_24 rfl ?_
  refine zk_if_ne (tgt := 33) dX5_apart_25 (by decide) (fun h25 => absurd (rfl) h25) (fun _ => ?_)
  refine zk_aload_n dX5_apart_28 rfl ?_
  refine zk_cVi (qX5_mostApart (show zs_ag 64 (va_up M 5 (zs_fw (zs_J (M 1)) (M 5)) 5) (zs_FW (zs_J (M 1))) by rw [zk_up_eq]; exact zs_fw_ag zs_ag.rf _ _)) dX5_apart_29 mwX5_mostApart ml_X5_171 (by decide : 0 < zm.1) rfl rfl (by decide) rfl (Nat.le_of_ble_eq_true rfl) ?_
  refine zk_iret rfl dX5_apart_32 ?_
  exact ⟨rfl, zs_sm.rf.up (by omega)⟩
set_option maxRecDepth 100000 in
set_option maxHeartbeats 4000000 in
theorem qX5_apart_1 {l : Launch} {M : zk_M} {L : zk_L}  : zk_C l zm 2 muX5_apart [.ref 0, .int 1] M L (zp_i (zs_for (zu_far (zs_FW (zs_J (M 1)))) 8 0 0) M) := by
  refine zk_ofR (ls := [some (.ref 0), some (.int 1), none, none]) (by decide) rfl (Nat.le_of_ble_eq_true rfl) rfl ?_
  refine zk_iload_n dX5_apart_0 rfl ?_
  refine zk_iconst dX5_apart_1 zc_0 ?_
  refine zk_iconst dX5_apart_2 zc_3 ?_
  refine zk_cSi (qX5_isIn_t (by decide)) dX5_apart_3 miX5_isIn ml_X5_46 stX5_isIn rfl (by decide) rfl (Nat.le_of_ble_eq_true rfl) ?_
  refine zk_if_ne (tgt := 16) dX5_apart_6 (by decide) (fun _ => ?_) (fun h6 => absurd h6 (by decide))
  refine zk_aload_n dX5_apart_16 rfl ?_
  refine zk_aload_n dX5_apart_17 rfl ?_
  refine zk_getRc (q := 1) dX5_apart_18 fl_X5_9 (by decide : 0 < zm.1) rfl rfl rfl ?_
  refine zk_cVv (qm1_measures) dX5_apart_21 mwX5_measures ml_X5_72 (by decide : 0 < zm.1) rfl rfl (by decide) rfl (Nat.le_of_ble_eq_true rfl) ?_
  refine zk_iload_n dX5_apart_24 rfl ?_
  refine zk_if_ne (tgt := 33) dX5_apart_25 (by decide) (fun _ => ?_) (fun h25 => absurd h25 (by decide))
  refine zk_iconst dX5_apart_33 zc_0 ?_
  refine zk_istore_n dX5_apart_34 zk_S_2 ?_
  refine zk_iload_n dX5_apart_35 rfl ?_
  refine zk_iconst dX5_apart_36 zc_1 ?_
  refine zk_icmp_ne (tgt := 78) dX5_apart_37 (by decide) (fun h37 => absurd (rfl) h37) (fun _ => ?_)
  refine zk_iconst dX5_apart_40 zc_0 ?_
  refine zk_istore_n dX5_apart_41 zk_S_3 ?_
  refine lX5_apart1 (show zs_ag 64 (va_up M 5 (zs_fw (zs_J (M 1)) (M 5)) 5) (zs_FW (zs_J (M 1))) by rw [zk_up_eq]; exact zs_fw_ag zs_ag.rf _ _) 8 0 0 rfl ?_
  refine zk_goto (tgt := 171) dX5_apart_75 (by decide) ?_
  refine zk_iload_n dX5_apart_171 rfl ?_
  refine zk_iret rfl dX5_apart_172 ?_
  exact ⟨rfl, zs_sm.rf.up (by omega)⟩
set_option maxRecDepth 100000 in
set_option maxHeartbeats 4000000 in
theorem qX5_apart_2 {l : Launch} {M : zk_M} {L : zk_L} {n : Nat} (hA : zs_A (M 1) n) : zk_C l zm 2 muX5_apart [.ref 0, .int 2] M L (zp_i (zs_for (zu_apf 2 (zs_FW (zs_J (M 1))) (fun p => zs_get (M 1) p)) n 0 0) M) := by
  refine zk_ofR (ls := [some (.ref 0), some (.int 2), none, none]) (by decide) rfl (Nat.le_of_ble_eq_true rfl) rfl ?_
  refine zk_iload_n dX5_apart_0 rfl ?_
  refine zk_iconst dX5_apart_1 zc_0 ?_
  refine zk_iconst dX5_apart_2 zc_3 ?_
  refine zk_cSi (qX5_isIn_t (by decide)) dX5_apart_3 miX5_isIn ml_X5_46 stX5_isIn rfl (by decide) rfl (Nat.le_of_ble_eq_true rfl) ?_
  refine zk_if_ne (tgt := 16) dX5_apart_6 (by decide) (fun _ => ?_) (fun h6 => absurd h6 (by decide))
  refine zk_aload_n dX5_apart_16 rfl ?_
  refine zk_aload_n dX5_apart_17 rfl ?_
  refine zk_getRc (q := 1) dX5_apart_18 fl_X5_9 (by decide : 0 < zm.1) rfl rfl rfl ?_
  refine zk_cVv (qm1_measures) dX5_apart_21 mwX5_measures ml_X5_72 (by decide : 0 < zm.1) rfl rfl (by decide) rfl (Nat.le_of_ble_eq_true rfl) ?_
  refine zk_iload_n dX5_apart_24 rfl ?_
  refine zk_if_ne (tgt := 33) dX5_apart_25 (by decide) (fun _ => ?_) (fun h25 => absurd h25 (by decide))
  refine zk_iconst dX5_apart_33 zc_0 ?_
  refine zk_istore_n dX5_apart_34 zk_S_2 ?_
  refine zk_iload_n dX5_apart_35 rfl ?_
  refine zk_iconst dX5_apart_36 zc_1 ?_
  refine zk_icmp_ne (tgt := 78) dX5_apart_37 (by decide) (fun _ => ?_) (fun h37 => absurd h37 (by decide))
  refine zk_iconst dX5_apart_78 zc_0 ?_
  refine zk_istore_n dX5_apart_79 zk_S_3 ?_
  refine lX5_apart2 (M := va_up M 5 (zs_fw (zs_J (M 1)) (M 5))) (n := n) (by rw [zk_up_ne (by decide)]; exact hA) (show zs_ag 64 (va_up M 5 (zs_fw (zs_J (M 1)) (M 5)) 5) (zs_FW (zs_J (M 1))) by rw [zk_up_eq]; exact zs_fw_ag zs_ag.rf _ _) n 0 0 (by omega) ?_
  rw [show (va_up M 5 (zs_fw (zs_J (M 1)) (M 5))) 1 = M 1 from zk_up_ne (by decide)]
  refine zk_iload_n dX5_apart_171 rfl ?_
  refine zk_iret rfl dX5_apart_172 ?_
  exact ⟨rfl, zs_sm.rf.up (by omega)⟩
set_option maxRecDepth 100000 in
set_option maxHeartbeats 4000000 in
theorem qX5_apart_3 {l : Launch} {M : zk_M} {L : zk_L} {n : Nat} (hA : zs_A (M 1) n) : zk_C l zm 2 muX5_apart [.ref 0, .int 3] M L (zp_i (zs_for (zu_apf 3 (zs_FW (zs_J (M 1))) (fun p => zs_get (M 1) p)) n 0 0) M) := by
  refine zk_ofR (ls := [some (.ref 0), some (.int 3), none, none]) (by decide) rfl (Nat.le_of_ble_eq_true rfl) rfl ?_
  refine zk_iload_n dX5_apart_0 rfl ?_
  refine zk_iconst dX5_apart_1 zc_0 ?_
  refine zk_iconst dX5_apart_2 zc_3 ?_
  refine zk_cSi (qX5_isIn_t (by decide)) dX5_apart_3 miX5_isIn ml_X5_46 stX5_isIn rfl (by decide) rfl (Nat.le_of_ble_eq_true rfl) ?_
  refine zk_if_ne (tgt := 16) dX5_apart_6 (by decide) (fun _ => ?_) (fun h6 => absurd h6 (by decide))
  refine zk_aload_n dX5_apart_16 rfl ?_
  refine zk_aload_n dX5_apart_17 rfl ?_
  refine zk_getRc (q := 1) dX5_apart_18 fl_X5_9 (by decide : 0 < zm.1) rfl rfl rfl ?_
  refine zk_cVv (qm1_measures) dX5_apart_21 mwX5_measures ml_X5_72 (by decide : 0 < zm.1) rfl rfl (by decide) rfl (Nat.le_of_ble_eq_true rfl) ?_
  refine zk_iload_n dX5_apart_24 rfl ?_
  refine zk_if_ne (tgt := 33) dX5_apart_25 (by decide) (fun _ => ?_) (fun h25 => absurd h25 (by decide))
  refine zk_iconst dX5_apart_33 zc_0 ?_
  refine zk_istore_n dX5_apart_34 zk_S_2 ?_
  refine zk_iload_n dX5_apart_35 rfl ?_
  refine zk_iconst dX5_apart_36 zc_1 ?_
  refine zk_icmp_ne (tgt := 78) dX5_apart_37 (by decide) (fun _ => ?_) (fun h37 => absurd h37 (by decide))
  refine zk_iconst dX5_apart_78 zc_0 ?_
  refine zk_istore_n dX5_apart_79 zk_S_3 ?_
  refine lX5_apart2 (M := va_up M 5 (zs_fw (zs_J (M 1)) (M 5))) (n := n) (by rw [zk_up_ne (by decide)]; exact hA) (show zs_ag 64 (va_up M 5 (zs_fw (zs_J (M 1)) (M 5)) 5) (zs_FW (zs_J (M 1))) by rw [zk_up_eq]; exact zs_fw_ag zs_ag.rf _ _) n 0 0 (by omega) ?_
  rw [show (va_up M 5 (zs_fw (zs_J (M 1)) (M 5))) 1 = M 1 from zk_up_ne (by decide)]
  refine zk_iload_n dX5_apart_171 rfl ?_
  refine zk_iret rfl dX5_apart_172 ?_
  exact ⟨rfl, zs_sm.rf.up (by omega)⟩
def zu_tg (T f : Nat → Int32) : Int32 := T (f 4 * 8 + f 3).toNatClampNeg
def zu_tot (T : Nat → Int32) (G : Nat → Nat → Int32) (n : Nat) : Int32 := zs_for (fun p s => s + zu_tg T (G p)) n 0 0
set_option maxRecDepth 100000 in
set_option maxHeartbeats 4000000 in
theorem qX5_stepsLeft {l : Launch} {M : zk_M} {L : zk_L} {n : Nat} {J T : Nat → Int32} {F : Nat → Nat → Int32} (hV : zs_V M n J T F) {p : Nat} (hp : p < n) : zk_C l zm 1 muX5_stepsLeft [.ref 0, .ref 2, .int (nI p)] M L (zk_Ei (zu_tg T (F p)) M L) := by
  refine zk_ofR (ls := [some (.ref 0), some (.ref 2), some (.int (nI p))]) (by decide) rfl (Nat.le_of_ble_eq_true rfl) rfl ?_
  have hp6 : p < 6 := Nat.lt_of_lt_of_le hp hV.1.1
  refine zk_aload_n dX5_stepsLeft_0 rfl ?_
  refine zk_getRc (q := 5) dX5_stepsLeft_1 fl_X5_22 (by decide : 0 < zm.1) rfl rfl rfl ?_
  refine zk_bipush dX5_stepsLeft_4 zb_8 ?_
  refine zk_aload_n dX5_stepsLeft_6 rfl ?_
  refine zk_iload_n dX5_stepsLeft_7 rfl ?_
  refine zk_iconst dX5_stepsLeft_8 zc_4 ?_
  refine zk_cSi (qX5_of (p := p) (k := 4)) dX5_stepsLeft_9 miX5_of ml_X5_58 stX5_of rfl (by decide) rfl (Nat.le_of_ble_eq_true rfl) ?_
  refine zk_iald (j := 10 + 7 * p + 4) dX5_stepsLeft_12 (by decide : 2 < zm.1) rfl (zs_in rfl (vp_in_nI (zs_7p hp6 (show 4 < 7 by decide)) (by decide))) (nI_clamp (by omega)) ?_
  rw [hV.at hp (by decide)]
  refine zk_imul dX5_stepsLeft_13 ?_
  refine zk_aload_n dX5_stepsLeft_14 rfl ?_
  refine zk_iload_n dX5_stepsLeft_15 rfl ?_
  refine zk_iconst dX5_stepsLeft_16 zc_3 ?_
  refine zk_cSi (qX5_of (p := p) (k := 3)) dX5_stepsLeft_17 miX5_of ml_X5_58 stX5_of rfl (by decide) rfl (Nat.le_of_ble_eq_true rfl) ?_
  refine zk_iald (j := 10 + 7 * p + 3) dX5_stepsLeft_20 (by decide : 2 < zm.1) rfl (zs_in rfl (vp_in_nI (zs_7p hp6 (show 3 < 7 by decide)) (by decide))) (nI_clamp (by omega)) ?_
  rw [hV.at hp (by decide)]
  refine zk_iadd dX5_stepsLeft_21 ?_
  rw [Int32.mul_comm]
  refine zk_iald (j := _) dX5_stepsLeft_22 (by decide : 5 < zm.1) rfl (zs_in rfl (zs_ix64 (hV.okk hp).1.2.2 (hV.okk hp).1.2.1)) rfl ?_
  rw [hV.2.2.1 _ (zs_p_tn64 (hV.okk hp).1.2.2 (hV.okk hp).1.2.1)]
  refine zk_iret rfl dX5_stepsLeft_23 ?_
  exact ⟨rfl, rfl, rfl⟩
set_option maxRecDepth 100000 in
set_option maxHeartbeats 4000000 in
theorem lX5_totalIn {l : Launch} {M : zk_M} {L : zk_L} {n : Nat} {J T : Nat → Int32} {F : Nat → Nat → Int32} (hV : zs_V M n J T F) {Q : Option Value → zk_M → zk_L → Prop} : ∀ (m p : Nat) (s : Int32), p + m = n → zk_R l zm 2 muX5_totalIn 32 [some (.ref 0), some (.int (zs_for (fun p s => s + zu_tg T (F p)) m p s)), none] [] M L Q → zk_R l zm 2 muX5_totalIn 4 [some (.ref 0), some (.int s), some (.int (nI p))] [] M L Q := by
  have hn6 := hV.1.1
  intro m
  induction m with
  | zero =>
    intro p s hpm k
    obtain rfl : p = n := by omega
    refine zk_iload_n dX5_totalIn_4 rfl ?_
    refine zk_aload_n dX5_totalIn_5 rfl ?_
    refine zk_getRc (q := 2) dX5_totalIn_6 fl_X5_13 (by decide) rfl rfl rfl ?_
    refine zk_iconst dX5_totalIn_9 zc_0 ?_
    refine zk_iald (j := 0) dX5_totalIn_10 (by decide) rfl (zs_in rfl (vp_in_iff.mpr (by decide))) (by decide) ?_
    rw [hV.1.2.1]
    refine zk_icmp_ge (tgt := 32) dX5_totalIn_11 (by decide) (fun _ => ?_) (fun q => absurd (nI_le (Nat.le_refl _) (by omega)) q)
    refine zk_forget ?_ k
    exact ⟨Or.inr rfl, Or.inr rfl, Or.inl rfl, trivial⟩
  | succ m ih =>
    intro p s hpm k
    have hp : p < n := by omega
    refine zk_iload_n dX5_totalIn_4 rfl ?_
    refine zk_aload_n dX5_totalIn_5 rfl ?_
    refine zk_getRc (q := 2) dX5_totalIn_6 fl_X5_13 (by decide : 0 < zm.1) rfl rfl rfl ?_
    refine zk_iconst dX5_totalIn_9 zc_0 ?_
    refine zk_iald (j := 0) dX5_totalIn_10 (by decide : 2 < zm.1) rfl (zs_in rfl (vp_in_iff.mpr (by decide))) (by decide) ?_
    rw [hV.1.2.1]
    refine zk_icmp_ge (tgt := 32) dX5_totalIn_11 (by decide) (fun h11 => absurd h11 (nI_ge hp (by omega))) (fun _ => ?_)
    refine zk_iload_n dX5_totalIn_14 rfl ?_
    refine zk_aload_n dX5_totalIn_15 rfl ?_
    refine zk_aload_n dX5_totalIn_16 rfl ?_
    refine zk_getRc (q := 2) dX5_totalIn_17 fl_X5_13 (by decide : 0 < zm.1) rfl rfl rfl ?_
    refine zk_iload_n dX5_totalIn_20 rfl ?_
    refine zk_cVi (qX5_stepsLeft hV hp) dX5_totalIn_21 mwX5_stepsLeft ml_X5_174 (by decide : 0 < zm.1) rfl rfl (by decide) rfl (Nat.le_of_ble_eq_true rfl) ?_
    refine zk_iadd dX5_totalIn_24 ?_
    refine zk_istore_n dX5_totalIn_25 zk_S_1 ?_
    refine zk_iinc dX5_totalIn_26 zc_1 rfl zk_S_2 ?_
    refine zk_goto (tgt := 4) dX5_totalIn_29 (by decide) ?_
    rw [← nI_succ]
    exact ih (p + 1) _ (by omega) k
set_option maxRecDepth 100000 in
set_option maxHeartbeats 4000000 in
theorem qX5_totalIn {l : Launch} {M : zk_M} {L : zk_L} {n : Nat} {J T : Nat → Int32} {F : Nat → Nat → Int32} (hV : zs_V M n J T F) : zk_C l zm 2 muX5_totalIn [.ref 0] M L (zk_Ei (zu_tot T F n) M L) := by
  refine zk_ofR (ls := [some (.ref 0), none, none]) (by decide) rfl (Nat.le_of_ble_eq_true rfl) rfl ?_
  refine zk_iconst dX5_totalIn_0 zc_0 ?_
  refine zk_istore_n dX5_totalIn_1 zk_S_1 ?_
  refine zk_iconst dX5_totalIn_2 zc_0 ?_
  refine zk_istore_n dX5_totalIn_3 zk_S_2 ?_
  refine lX5_totalIn hV n 0 0 (by omega) ?_
  refine zk_iload_n dX5_totalIn_32 rfl ?_
  refine zk_iret rfl dX5_totalIn_33 ?_
  exact ⟨rfl, rfl, rfl⟩
set_option maxRecDepth 100000 in
set_option maxHeartbeats 4000000 in
theorem qX5_total_r4 {l : Launch} {M : zk_M} {L : zk_L} {t : Int32} (ht : t < 0) : zk_C l zm 6 muX5_total [.ref 0, .int t] M L (zp_i (-4) (zs_nof M 4)) := by
  refine zk_ofR (ls := [some (.ref 0), some (.int t), none]) (by decide) rfl (Nat.le_of_ble_eq_true rfl) rfl ?_
  refine zk_iload_n dX5_total_0 rfl ?_
  refine zk_iconst dX5_total_1 zc_0 ?_
  refine zk_bipush dX5_total_2 zb_60 ?_
  refine zk_cSi (qX5_wrongBy) dX5_total_4 miX5_wrongBy ml_X5_138 stX5_wrongBy rfl (by decide) rfl (Nat.le_of_ble_eq_true rfl) ?_
  rw [if_pos ht]
  refine zk_istore_n dX5_total_7 zk_S_2 ?_
  refine zk_iload_n dX5_total_8 rfl ?_
  refine zk_if_eq (tgt := 18) dX5_total_9 (by decide) (fun h9 => absurd h9 (by decide)) (fun _ => ?_)
  refine zk_aload_n dX5_total_12 rfl ?_
  refine zk_iload_n dX5_total_13 rfl ?_
  refine zk_cVi (qno4) dX5_total_14 mwX5_no ml_X5_42 (by decide : 0 < zm.1) rfl rfl (by decide) rfl (Nat.le_of_ble_eq_true rfl) ?_
  refine zk_iret rfl dX5_total_17 ?_
  exact ⟨rfl, zs_sm.rf⟩
set_option maxRecDepth 100000 in
set_option maxHeartbeats 4000000 in
theorem qX5_total_r6 {l : Launch} {M : zk_M} {L : zk_L} {t : Int32} (ht : ¬ t < 0) (h6 : 60 < t) : zk_C l zm 6 muX5_total [.ref 0, .int t] M L (zp_i (-6) (zs_nof M 6)) := by
  refine zk_ofR (ls := [some (.ref 0), some (.int t), none]) (by decide) rfl (Nat.le_of_ble_eq_true rfl) rfl ?_
  refine zk_iload_n dX5_total_0 rfl ?_
  refine zk_iconst dX5_total_1 zc_0 ?_
  refine zk_bipush dX5_total_2 zb_60 ?_
  refine zk_cSi (qX5_wrongBy) dX5_total_4 miX5_wrongBy ml_X5_138 stX5_wrongBy rfl (by decide) rfl (Nat.le_of_ble_eq_true rfl) ?_
  rw [if_neg ht, if_pos h6]
  refine zk_istore_n dX5_total_7 zk_S_2 ?_
  refine zk_iload_n dX5_total_8 rfl ?_
  refine zk_if_eq (tgt := 18) dX5_total_9 (by decide) (fun h9 => absurd h9 (by decide)) (fun _ => ?_)
  refine zk_aload_n dX5_total_12 rfl ?_
  refine zk_iload_n dX5_total_13 rfl ?_
  refine zk_cVi (qno6) dX5_total_14 mwX5_no ml_X5_42 (by decide : 0 < zm.1) rfl rfl (by decide) rfl (Nat.le_of_ble_eq_true rfl) ?_
  refine zk_iret rfl dX5_total_17 ?_
  exact ⟨rfl, zs_sm.rf⟩
set_option maxRecDepth 100000 in
set_option maxHeartbeats 4000000 in
theorem qX5_bare_r4 {l : Launch} {M : zk_M} {L : zk_L} {t : Int32} (ht : t < 0) : zk_C l zm 6 muX5_bare [.ref 0, .int t] M L (zp_i (-4) (zs_nof M 4)) := by
  refine zk_ofR (ls := [some (.ref 0), some (.int t), none, none, none, none]) (by decide) rfl (Nat.le_of_ble_eq_true rfl) rfl ?_
  refine zk_iload_n dX5_bare_0 rfl ?_
  refine zk_iconst dX5_bare_1 zc_0 ?_
  refine zk_bipush dX5_bare_2 zb_30 ?_
  refine zk_cSi (qX5_wrongBy) dX5_bare_4 miX5_wrongBy ml_X5_138 stX5_wrongBy rfl (by decide) rfl (Nat.le_of_ble_eq_true rfl) ?_
  rw [if_pos ht]
  refine zk_istore_n dX5_bare_7 zk_S_2 ?_
  refine zk_iload_n dX5_bare_8 rfl ?_
  refine zk_if_eq (tgt := 18) dX5_bare_9 (by decide) (fun h9 => absurd h9 (by decide)) (fun _ => ?_)
  refine zk_aload_n dX5_bare_12 rfl ?_
  refine zk_iload_n dX5_bare_13 rfl ?_
  refine zk_cVi (qno4) dX5_bare_14 mwX5_no ml_X5_42 (by decide : 0 < zm.1) rfl rfl (by decide) rfl (Nat.le_of_ble_eq_true rfl) ?_
  refine zk_iret rfl dX5_bare_17 ?_
  exact ⟨rfl, zs_sm.rf⟩
set_option maxRecDepth 100000 in
set_option maxHeartbeats 4000000 in
theorem qX5_bare_r6 {l : Launch} {M : zk_M} {L : zk_L} {t : Int32} (ht : ¬ t < 0) (h6 : 30 < t) : zk_C l zm 6 muX5_bare [.ref 0, .int t] M L (zp_i (-6) (zs_nof M 6)) := by
  refine zk_ofR (ls := [some (.ref 0), some (.int t), none, none, none, none]) (by decide) rfl (Nat.le_of_ble_eq_true rfl) rfl ?_
  refine zk_iload_n dX5_bare_0 rfl ?_
  refine zk_iconst dX5_bare_1 zc_0 ?_
  refine zk_bipush dX5_bare_2 zb_30 ?_
  refine zk_cSi (qX5_wrongBy) dX5_bare_4 miX5_wrongBy ml_X5_138 stX5_wrongBy rfl (by decide) rfl (Nat.le_of_ble_eq_true rfl) ?_
  rw [if_neg ht, if_pos h6]
  refine zk_istore_n dX5_bare_7 zk_S_2 ?_
  refine zk_iload_n dX5_bare_8 rfl ?_
  refine zk_if_eq (tgt := 18) dX5_bare_9 (by decide) (fun h9 => absurd h9 (by decide)) (fun _ => ?_)
  refine zk_aload_n dX5_bare_12 rfl ?_
  refine zk_iload_n dX5_bare_13 rfl ?_
  refine zk_cVi (qno6) dX5_bare_14 mwX5_no ml_X5_42 (by decide : 0 < zm.1) rfl rfl (by decide) rfl (Nat.le_of_ble_eq_true rfl) ?_
  refine zk_iret rfl dX5_bare_17 ?_
  exact ⟨rfl, zs_sm.rf⟩
set_option maxRecDepth 100000 in
set_option maxHeartbeats 4000000 in
theorem qX5_total_t {l : Launch} {M : zk_M} {L : zk_L} {n : Nat} (hA : zs_A (M 1) n) {t : Nat} (ht : t ≤ 60) : zk_C l zm 6 muX5_total [.ref 0, .int (nI t)] M L (zp_i (zu_tot (zs_FW (zs_J (M 1))) (fun p => zs_rides (zs_J (M 1)) (zs_FW (zs_J (M 1))) t (zs_get (M 1) p)) n) M) := by
  refine zk_ofR (ls := [some (.ref 0), some (.int (nI t)), none]) (by decide) rfl (Nat.le_of_ble_eq_true rfl) rfl ?_
  refine zk_iload_n dX5_total_0 rfl ?_
  refine zk_iconst dX5_total_1 zc_0 ?_
  refine zk_bipush dX5_total_2 zb_60 ?_
  refine zk_cSi (qX5_wrongBy) dX5_total_4 miX5_wrongBy ml_X5_138 stX5_wrongBy rfl (by decide) rfl (Nat.le_of_ble_eq_true rfl) ?_
  rw [if_neg (nI_pos (by omega)), if_neg (show ¬ (60 : Int32) < nI t from nI_nlt (a := 60) ht (by decide))]
  refine zk_istore_n dX5_total_7 zk_S_2 ?_
  refine zk_iload_n dX5_total_8 rfl ?_
  refine zk_if_eq (tgt := 18) dX5_total_9 (by decide) (fun _ => ?_) (fun h9 => absurd (rfl) h9)
  refine zk_aload_n dX5_total_18 rfl ?_
  refine zk_iload_n dX5_total_19 rfl ?_
  refine zk_callV (qX5_takes hA zs_sm.rf (by omega)) dX5_total_20 mwX5_takes ml_X5_148 (by decide : 0 < zm.1) rfl rfl (by decide) rfl (Nat.le_of_ble_eq_true rfl) (fun r1 M1 L1 h1 => ?_)
  obtain ⟨rfl, hs1, hV⟩ := h1
  refine zk_aload_n dX5_total_23 rfl ?_
  refine zk_cVi (qX5_totalIn hV) dX5_total_24 mwX5_totalIn ml_X5_178 (by decide : 0 < zm.1) rfl rfl (by decide) rfl (Nat.le_of_ble_eq_true rfl) ?_
  refine zk_iret rfl dX5_total_27 ?_
  exact ⟨rfl, hs1⟩
def zu_btot (J T : Nat → Int32) (F : Nat → Nat → Int32) (n t p : Nat) : Int32 := zu_tot T (fun q => zs_rides J T t (if q = p then va_up (F p) 5 0 else F q)) n
def zu_brf (J T : Nat → Int32) (F : Nat → Nat → Int32) (n t p : Nat) (s : Int32 × Int32) : Int32 × Int32 := if zu_btot J T F n t p < s.2 then (nI p, zu_btot J T F n t p) else s
set_option maxRecDepth 100000 in
set_option maxHeartbeats 4000000 in
theorem lX5_bare {l : Launch} {M0 : zk_M} {n : Nat} (hA : zs_A (M0 1) n) {t : Nat} (ht : t < 2 ^ 31) {Q : Option Value → zk_M → zk_L → Prop} : ∀ (m p : Nat) (b s : Int32) (M : zk_M) (L : zk_L), p + m = n → zs_sm M0 M → (∀ M' L', zs_sm M0 M' → zk_R l zm 6 muX5_bare 104 [some (.ref 0), some (.int (nI t)), none, none, some (.int (zs_for (zu_brf (zs_J (M0 1)) (zs_FW (zs_J (M0 1))) (fun p => zs_get (M0 1) p) n t) m p (b, s)).1), none] [] M' L' Q) → zk_R l zm 6 muX5_bare 35 [some (.ref 0), some (.int (nI t)), none, some (.int s), some (.int b), some (.int (nI p))] [] M L Q := by
  have hn6 := hA.1
  intro m
  induction m with
  | zero =>
    intro p b s M L hpm hs k
    obtain rfl : p = n := by omega
    refine zk_iload dX5_bare_35 rfl ?_
    refine zk_aload_n dX5_bare_37 rfl ?_
    refine zk_getRc (q := 1) dX5_bare_38 fl_X5_9 (by decide) rfl rfl rfl ?_
    refine zk_iconst dX5_bare_41 zc_0 ?_
    refine zk_iald (j := 0) dX5_bare_42 (by decide) rfl (zs_in rfl (vp_in_iff.mpr (by decide))) (by decide) ?_
    rw [hs.1, hA.2.1]
    refine zk_icmp_ge (tgt := 104) dX5_bare_43 (by decide) (fun _ => ?_) (fun q => absurd (nI_le (Nat.le_refl _) (by omega)) q)
    refine zk_forget ?_ (k M L hs)
    exact ⟨Or.inr rfl, Or.inr rfl, Or.inl rfl, Or.inl rfl, Or.inr rfl, Or.inl rfl, trivial⟩
  | succ m ih =>
    intro p b s M L hpm hs k
    have hp : p < n := by omega
    have hp6 : p < 6 := by omega
    have w0 : ∀ M : zk_M, _ := fun M => zs_V0 (b := M 2) hA hp (show 5 < 7 by decide) (v := 0) (zs_okk5 (hA.2.2 p hp6))
    refine zk_iload dX5_bare_35 rfl ?_
    refine zk_aload_n dX5_bare_37 rfl ?_
    refine zk_getRc (q := 1) dX5_bare_38 fl_X5_9 (by decide : 0 < zm.1) rfl rfl rfl ?_
    refine zk_iconst dX5_bare_41 zc_0 ?_
    refine zk_iald (j := 0) dX5_bare_42 (by decide : 1 < zm.1) rfl (zs_in rfl (vp_in_iff.mpr (by decide))) (by decide) ?_
    rw [hs.1, hA.2.1]
    refine zk_icmp_ge (tgt := 104) dX5_bare_43 (by decide) (fun h43 => absurd h43 (nI_ge hp (by omega))) (fun _ => ?_)
    refine zk_aload_n dX5_bare_46 rfl ?_
    refine zk_getRc (q := 1) dX5_bare_47 fl_X5_9 (by decide : 0 < zm.1) rfl rfl rfl ?_
    refine zk_aload_n dX5_bare_50 rfl ?_
    refine zk_getRc (q := 2) dX5_bare_51 fl_X5_13 (by decide : 0 < zm.1) rfl rfl rfl ?_
    refine zk_cSv (qd_copies) dX5_bare_54 miX5_copies ml_X5_127 stX5_copies rfl (by decide) rfl (Nat.le_of_ble_eq_true rfl) ?_
    refine zk_aload_n dX5_bare_57 rfl ?_
    refine zk_getRc (q := 2) dX5_bare_58 fl_X5_13 (by decide : 0 < zm.1) rfl rfl rfl ?_
    refine zk_iload dX5_bare_61 rfl ?_
    refine zk_iconst dX5_bare_63 zc_5 ?_
    refine zk_cSi (qX5_of (p := p) (k := 5)) dX5_bare_64 miX5_of ml_X5_58 stX5_of rfl (by decide) rfl (Nat.le_of_ble_eq_true rfl) ?_
    refine zk_iconst dX5_bare_67 zc_0 ?_
    refine zk_iast (j := 10 + 7 * p + 5) dX5_bare_68 (by decide : 2 < zm.1) rfl (zs_in rfl (vp_in_nI (zs_7p hp6 (show 5 < 7 by decide)) (by decide))) (nI_clamp (by omega)) ?_
    refine zk_aload_n dX5_bare_69 rfl ?_
    refine zk_aload_n dX5_bare_70 rfl ?_
    refine zk_getRc (q := 2) dX5_bare_71 fl_X5_13 (by decide : 0 < zm.1) rfl rfl rfl ?_
    refine zk_iload_n dX5_bare_74 rfl ?_
    refine zk_callV (qd_daysOn (n := n) (J := zs_J (M0 1)) (F := fun q => if q = p then va_up (zs_get (M0 1) p) 5 0 else zs_get (M0 1) q) ((hs.up (by omega)).up (by omega)) (by rw [zk_up_eq, zk_up_eq, hs.1]; exact (w0 M).1) (by rw [zk_up_eq, zk_up_eq, hs.1]; exact (w0 M).2.1) (fun q hq => by rw [zk_up_eq, zk_up_eq, hs.1]; exact (w0 M).2.2 q hq) ht) dX5_bare_75 mwX5_daysOn ml_X5_121 (by decide : 0 < zm.1) rfl rfl (by decide) rfl (Nat.le_of_ble_eq_true rfl) (fun r1 M1 L1 h1 => ?_)
    obtain ⟨rfl, hs1, hV1⟩ := h1
    refine zk_aload_n dX5_bare_78 rfl ?_
    refine zk_cVi (qX5_totalIn hV1) dX5_bare_79 mwX5_totalIn ml_X5_178 (by decide : 0 < zm.1) rfl rfl (by decide) rfl (Nat.le_of_ble_eq_true rfl) ?_
    refine zk_iload_n dX5_bare_82 rfl ?_
    refine zk_icmp_lt (tgt := 89) dX5_bare_83 (by decide) (fun h83 => ?_) (fun h83 => ?_)
    · refine zk_iload dX5_bare_89 rfl ?_
      refine zk_istore dX5_bare_91 zk_S_4 ?_
      refine zk_aload_n dX5_bare_93 rfl ?_
      refine zk_cVi (qX5_totalIn hV1) dX5_bare_94 mwX5_totalIn ml_X5_178 (by decide : 0 < zm.1) rfl rfl (by decide) rfl (Nat.le_of_ble_eq_true rfl) ?_
      refine zk_istore_n dX5_bare_97 zk_S_3 ?_
      refine zk_iinc dX5_bare_98 zc_1 rfl zk_S_5 ?_
      refine zk_goto (tgt := 35) dX5_bare_101 (by decide) ?_
      rw [← nI_succ]
      first
        | exact ih (p + 1) (nI p) (zu_btot (zs_J (M0 1)) (zs_FW (zs_J (M0 1))) (fun p => zs_get (M0 1) p) n t p) M1 L1 (by omega) hs1 (fun M' L' h' => by
            have e : (zu_brf (zs_J (M0 1)) (zs_FW (zs_J (M0 1))) (fun p => zs_get (M0 1) p) n t) p (b, s) = (nI p, (zu_btot (zs_J (M0 1)) (zs_FW (zs_J (M0 1))) (fun p => zs_get (M0 1) p) n t p)) := if_pos h83
            have := k M' L' h'
            rw [zs_for, e] at this
            exact this)
        | exact ih (p + 1) b s M1 L1 (by omega) hs1 (fun M' L' h' => by
            have e : (zu_brf (zs_J (M0 1)) (zs_FW (zs_J (M0 1))) (fun p => zs_get (M0 1) p) n t) p (b, s) = (b, s) := if_neg h83
            have := k M' L' h'
            rw [zs_for, e] at this
            exact this)
    · refine zk_goto (tgt := 98) dX5_bare_86 (by decide) ?_
      refine zk_iinc dX5_bare_98 zc_1 rfl zk_S_5 ?_
      refine zk_goto (tgt := 35) dX5_bare_101 (by decide) ?_
      rw [← nI_succ]
      first
        | exact ih (p + 1) (nI p) (zu_btot (zs_J (M0 1)) (zs_FW (zs_J (M0 1))) (fun p => zs_get (M0 1) p) n t p) M1 L1 (by omega) hs1 (fun M' L' h' => by
            have e : (zu_brf (zs_J (M0 1)) (zs_FW (zs_J (M0 1))) (fun p => zs_get (M0 1) p) n t) p (b, s) = (nI p, (zu_btot (zs_J (M0 1)) (zs_FW (zs_J (M0 1))) (fun p => zs_get (M0 1) p) n t p)) := if_pos h83
            have := k M' L' h'
            rw [zs_for, e] at this
            exact this)
        | exact ih (p + 1) b s M1 L1 (by omega) hs1 (fun M' L' h' => by
            have e : (zu_brf (zs_J (M0 1)) (zs_FW (zs_J (M0 1))) (fun p => zs_get (M0 1) p) n t) p (b, s) = (b, s) := if_neg h83
            have := k M' L' h'
            rw [zs_for, e] at this
            exact this)
set_option maxRecDepth 100000 in
set_option maxHeartbeats 4000000 in
theorem qX5_bare_t {l : Launch} {M : zk_M} {L : zk_L} {n : Nat} (hA : zs_A (M 1) n) {t : Nat} (ht : t ≤ 30) : zk_C l zm 6 muX5_bare [.ref 0, .int (nI t)] M L (zp_i (zs_for (zu_brf (zs_J (M 1)) (zs_FW (zs_J (M 1))) (fun p => zs_get (M 1) p) n t) n 0 (-9, zu_tot (zs_FW (zs_J (M 1))) (fun p => zs_rides (zs_J (M 1)) (zs_FW (zs_J (M 1))) t (zs_get (M 1) p)) n)).1 M) := by
  refine zk_ofR (ls := [some (.ref 0), some (.int (nI t)), none, none, none, none]) (by decide) rfl (Nat.le_of_ble_eq_true rfl) rfl ?_
  refine zk_iload_n dX5_bare_0 rfl ?_
  refine zk_iconst dX5_bare_1 zc_0 ?_
  refine zk_bipush dX5_bare_2 zb_30 ?_
  refine zk_cSi (qX5_wrongBy) dX5_bare_4 miX5_wrongBy ml_X5_138 stX5_wrongBy rfl (by decide) rfl (Nat.le_of_ble_eq_true rfl) ?_
  rw [if_neg (nI_pos (by omega)), if_neg (show ¬ (30 : Int32) < nI t from nI_nlt (a := 30) ht (by decide))]
  refine zk_istore_n dX5_bare_7 zk_S_2 ?_
  refine zk_iload_n dX5_bare_8 rfl ?_
  refine zk_if_eq (tgt := 18) dX5_bare_9 (by decide) (fun _ => ?_) (fun h9 => absurd (rfl) h9)
  refine zk_aload_n dX5_bare_18 rfl ?_
  refine zk_iload_n dX5_bare_19 rfl ?_
  refine zk_callV (qX5_takes hA zs_sm.rf (by omega)) dX5_bare_20 mwX5_takes ml_X5_148 (by decide : 0 < zm.1) rfl rfl (by decide) rfl (Nat.le_of_ble_eq_true rfl) (fun r1 M1 L1 h1 => ?_)
  obtain ⟨rfl, hs1, hV⟩ := h1
  refine zk_aload_n dX5_bare_23 rfl ?_
  refine zk_cVi (qX5_totalIn hV) dX5_bare_24 mwX5_totalIn ml_X5_178 (by decide : 0 < zm.1) rfl rfl (by decide) rfl (Nat.le_of_ble_eq_true rfl) ?_
  refine zk_istore_n dX5_bare_27 zk_S_3 ?_
  refine zk_bipush dX5_bare_28 zb_m9 ?_
  refine zk_istore dX5_bare_30 zk_S_4 ?_
  refine zk_iconst dX5_bare_32 zc_0 ?_
  refine zk_istore dX5_bare_33 zk_S_5 ?_
  refine zk_forget (ls' := [some (.ref 0), some (.int (nI t)), none, some (.int (zu_tot (zs_FW (zs_J (M 1))) (fun p => zs_rides (zs_J (M 1)) (zs_FW (zs_J (M 1))) t (zs_get (M 1) p)) n)), some (.int (-9)), some (.int (nI 0))]) ⟨Or.inr rfl, Or.inr rfl, Or.inl rfl, Or.inr rfl, Or.inr rfl, Or.inr rfl, trivial⟩ (lX5_bare hA (by omega) n 0 (-9) _ M1 L1 (by omega) hs1 (fun M' L' h' => ?_))
  refine zk_iload dX5_bare_104 rfl ?_
  refine zk_iret rfl dX5_bare_106 ?_
  exact ⟨rfl, h'⟩
