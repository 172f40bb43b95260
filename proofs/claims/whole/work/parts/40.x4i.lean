theorem zb_20 : (Int8.ofInt 20).toInt32 = (20 : Int32) := by decide +kernel
theorem zs_128 : (Int16.ofInt 128).toInt32 = (128 : Int32) := by decide +kernel
def zs_dr (x b : Int32) : Int32 := (x &&& 2147483647) / 256 - (x &&& 2147483647) / 256 / b * b
theorem zs_dr8 (x : Int32) : zs_p (zs_dr x 8) := by
  have h1 : (x &&& 2147483647).toInt = x.toInt % 2 ^ 31 := Kit.i32_mask x _ (by decide) (by decide)
  have h2 : ((x &&& 2147483647) / 256).toInt = (x &&& 2147483647).toInt.tdiv 256 := Kit.i32_div (fun q => absurd q.2 (by decide))
  have h3 : (zs_dr x 8).toInt = ((x &&& 2147483647) / 256).toInt.tmod 8 := rem_toInt _ 8
  have e0 : 0 ≤ (x &&& 2147483647).toInt := by rw [h1]; exact Int.emod_nonneg _ (by decide)
  have e1 : 0 ≤ ((x &&& 2147483647) / 256).toInt := by rw [h2, Int.tdiv_eq_ediv_of_nonneg e0]; exact Int.ediv_nonneg e0 (by decide)
  rw [Int.tmod_eq_emod_of_nonneg e1] at h3
  have e2 := Int.emod_nonneg ((x &&& 2147483647) / 256).toInt (b := 8) (by decide)
  have e3 := Int.emod_lt_of_pos ((x &&& 2147483647) / 256).toInt (b := 8) (by decide)
  refine ⟨?_, ?_⟩
  · rw [Int32.le_iff_toInt_le, h3, Int32.toInt_zero]; exact e2
  · rw [Int32.lt_iff_toInt_lt, h3]; exact e3
def zs_nsd (x : Int32) : Int32 := x * 1664525 + 1013904223
def zs_ltg (M : zk_M) (p : Nat) (z : Int32) : Nat → Int32 := va_up (va_up (M (6 + p)) 4 (zs_dr (zs_nsd z) 8)) 5 (zs_dr (zs_nsd (zs_nsd z)) 5)
def zs_ltr (M : zk_M) (x : Int32) (p : Nat) (s : Int32 × Int32) : Int32 × Int32 :=
  (zs_nsd (zs_nsd s.1), if x = 0 then s.2 + zs_tg M (zs_rides (M 3) (M 4) 10 (zs_ltg M p s.1)) else if zs_rides (M 3) (M 4) 10 (zs_ltg M p s.1) 4 = zs_rides (M 3) (M 4) 10 (zs_ltg M p s.1) 3 then s.2 + 1 else s.2)
def zs_ltl (M : zk_M) (x : Int32) (n : Nat) (_ : Nat) (s : Int32 × Int32) : Int32 × Int32 := zs_for (zs_ltr M x) n 0 s
theorem zs_ltg_ok {M : zk_M} {p : Nat} {z : Int32} (ok : zs_ok (M (6 + p))) : zs_ok (zs_ltg M p z) := by
  refine zs_ok_up ⟨?_, ?_, ?_⟩ (by decide) (by decide) (by decide)
  · rw [zk_up_ne (by decide)]; exact ok.1
  · rw [zk_up_ne (by decide)]; exact ok.2.1
  · rw [zk_up_eq]; exact zs_dr8 _
set_option maxRecDepth 100000 in
set_option maxHeartbeats 4000000 in
theorem lX4_lots1 {l : Launch} {M0 : zk_M} {n : Nat} (hI : zs_I M0 n) {t i : Nat} {x : Int32} {Q : Option Value → zk_M → zk_L → Prop} : ∀ (m p : Nat) (z s : Int32) (M : zk_M) (L : zk_L), p + m = n → zs_same M0 M → (∀ M' L', zs_same M0 M' → zk_R l zc 5 muX4_lots 174 [some (.ref 0), some (.int (nI t)), none, some (.int x), none, some (.int (zs_for (zs_ltr M0 x) m p (z, s)).1), some (.int (zs_for (zs_ltr M0 x) m p (z, s)).2), some (.int (nI i)), none] [] M' L' Q) → zk_R l zc 5 muX4_lots 54 [some (.ref 0), some (.int (nI t)), none, some (.int x), none, some (.int z), some (.int s), some (.int (nI i)), some (.int (nI p))] [] M L Q := by
  have hn6 := hI.1
  intro m
  induction m with
  | zero =>
    intro p z s M L hpm hs k
    obtain rfl : p = n := by omega
    refine zk_iload dX4_lots_54 rfl ?_
    refine zk_aload_n dX4_lots_56 rfl ?_
    refine zk_getRc (q := 1) dX4_lots_57 fl_X4_12 (by decide) rfl rfl rfl ?_
    refine zk_getI dX4_lots_60 fl_X4_181 (by decide) rfl rfl ?_
    rw [(hI.sm hs).2.1]
    refine zk_icmp_ge (tgt := 174) dX4_lots_63 (by decide) (fun _ => ?_) (fun q => absurd (nI_le (Nat.le_refl _) (by omega)) q)
    refine zk_forget ?_ (k M L hs)
    exact ⟨Or.inr rfl, Or.inr rfl, Or.inl rfl, Or.inr rfl, Or.inl rfl, Or.inr rfl, Or.inr rfl, Or.inr rfl, Or.inl rfl, trivial⟩
  | succ m ih =>
    intro p z s M L hpm hs k
    have hp : p < n := by omega
    have hp6 : p < 6 := by omega
    have e6 : M (6 + p) = M0 (6 + p) := hs (6 + p) (by omega) (by omega)
    have ok6 : zs_ok (M0 (6 + p)) := hI.2.2 p hp6
    refine zk_iload dX4_lots_54 rfl ?_
    refine zk_aload_n dX4_lots_56 rfl ?_
    refine zk_getRc (q := 1) dX4_lots_57 fl_X4_12 (by decide : 0 < zc.1) rfl rfl rfl ?_
    refine zk_getI dX4_lots_60 fl_X4_181 (by decide : 1 < zc.1) rfl rfl ?_
    rw [(hI.sm hs).2.1]
    refine zk_icmp_ge (tgt := 174) dX4_lots_63 (by decide) (fun h63 => absurd h63 (nI_ge hp (by omega))) (fun _ => ?_)
    refine zk_aload_n dX4_lots_66 rfl ?_
    refine zk_iload dX4_lots_67 rfl ?_
    refine zk_cVv (qX4_thinkOf (hI.sm hs) hp) dX4_lots_69 mwX4_thinkOf ml_X4_167 (by decide : 0 < zc.1) rfl rfl (by decide) rfl (Nat.le_of_ble_eq_true rfl) ?_
    refine zk_iload dX4_lots_72 rfl ?_
    refine zk_cSi (qX4_nextSeed) dX4_lots_74 miX4_nextSeed ml_X4_257 stX4_nextSeed rfl (by decide) rfl (Nat.le_of_ble_eq_true rfl) ?_
    refine zk_istore dX4_lots_77 zk_S_5 ?_
    refine zk_aload_n dX4_lots_79 rfl ?_
    refine zk_getRc (q := 37) dX4_lots_80 fl_X4_32 (by decide : 0 < zc.1) rfl rfl rfl ?_
    refine zk_iload dX4_lots_83 rfl ?_
    refine zk_bipush dX4_lots_85 zb_8 ?_
    refine zk_cSi (qX4_drawn (by decide)) dX4_lots_87 miX4_drawn ml_X4_260 stX4_drawn rfl (by decide) rfl (Nat.le_of_ble_eq_true rfl) ?_
    refine zk_putG dX4_lots_90 fl_X4_106 ft_1_4 rfl rfl (by decide : 37 < zc.1) rfl rfl ?_
    refine zk_iload dX4_lots_93 rfl ?_
    refine zk_cSi (qX4_nextSeed) dX4_lots_95 miX4_nextSeed ml_X4_257 stX4_nextSeed rfl (by decide) rfl (Nat.le_of_ble_eq_true rfl) ?_
    refine zk_istore dX4_lots_98 zk_S_5 ?_
    refine zk_aload_n dX4_lots_100 rfl ?_
    refine zk_getRc (q := 37) dX4_lots_101 fl_X4_32 (by decide : 0 < zc.1) rfl rfl rfl ?_
    refine zk_iload dX4_lots_104 rfl ?_
    refine zk_iconst dX4_lots_106 zc_5 ?_
    refine zk_cSi (qX4_drawn (by decide)) dX4_lots_107 miX4_drawn ml_X4_260 stX4_drawn rfl (by decide) rfl (Nat.le_of_ble_eq_true rfl) ?_
    refine zk_putG dX4_lots_110 fl_X4_109 ft_1_5 rfl rfl (by decide : 37 < zc.1) rfl rfl ?_
    refine zk_aload_n dX4_lots_113 rfl ?_
    refine zk_getRc (q := 37) dX4_lots_114 fl_X4_32 (by decide : 0 < zc.1) rfl rfl rfl ?_
    refine zk_aload_n dX4_lots_117 rfl ?_
    refine zk_getRc (q := 1) dX4_lots_118 fl_X4_12 (by decide : 0 < zc.1) rfl rfl rfl ?_
    refine zk_getRc (q := 2) dX4_lots_121 fl_X4_122 (by decide : 1 < zc.1) rfl rfl rfl ?_
    refine zk_bipush dX4_lots_124 zb_10 ?_
    refine zk_callV (qb_rides (t := 10) (f := zs_ltg M0 p z) (by decide) (((hs.up (by omega)).up (by omega)).up (by omega)) (by simp only [zk_up_eq]; rw [e6]; exact zs_ag.up (zs_ag.up zs_cp_ag)) (zs_ltg_ok ok6)) dX4_lots_126 mwX1_rideDays ml_X4_171 (by decide : 37 < zc.1) rfl rfl (by decide) rfl (Nat.le_of_ble_eq_true rfl) (fun r2 M2 L2 h2 => ?_)
    obtain ⟨rfl, hs2, hf2⟩ := h2
    refine zk_iload_n dX4_lots_129 rfl ?_
    refine zk_if_ne (tgt := 155) dX4_lots_130 (by decide) (fun h130 => ?_) (fun h130 => ?_)
    · refine zk_aload_n dX4_lots_155 rfl ?_
      refine zk_getRc (q := 37) dX4_lots_156 fl_X4_32 (by decide : 0 < zc.1) rfl rfl rfl ?_
      refine zk_cVi (qX1_isWhereHeSays zc_h37) dX4_lots_159 mwX1_isWhereHeSays ml_X4_267 (by decide : 37 < zc.1) rfl rfl (by decide) rfl (Nat.le_of_ble_eq_true rfl) ?_
      refine zk_if_eq (tgt := 168) dX4_lots_162 (by decide) (fun h162 => ?_) (fun h162 => ?_)
      · have hw := zs_if0 h162
        refine zk_iinc dX4_lots_168 zc_1 rfl zk_S_8 ?_
        refine zk_goto (tgt := 54) dX4_lots_171 (by decide) ?_
        rw [← nI_succ]
        first
          | (have e : zs_ltr M0 x p (z, s) = (zs_nsd (zs_nsd z), s + zs_tg M0 (zs_rides (M0 3) (M0 4) 10 (zs_ltg M0 p z))) := by unfold zs_ltr; rw [if_pos h130]
             refine ih (p + 1) _ _ M2 L2 (by omega) hs2 (fun M' L' h' => ?_)
             have := k M' L' h'
             rw [zs_for, e] at this
             exact this)
          | (have e : zs_ltr M0 x p (z, s) = (zs_nsd (zs_nsd z), s + 1) := by unfold zs_ltr; rw [if_neg h130, if_pos (by rw [← hf2 4 (by decide), ← hf2 3 (by decide)]; exact hw)]
             refine ih (p + 1) _ _ M2 L2 (by omega) hs2 (fun M' L' h' => ?_)
             have := k M' L' h'
             rw [zs_for, e] at this
             exact this)
          | (have e : zs_ltr M0 x p (z, s) = (zs_nsd (zs_nsd z), s) := by unfold zs_ltr; rw [if_neg h130, if_neg (by rw [← hf2 4 (by decide), ← hf2 3 (by decide)]; exact hw)]
             refine ih (p + 1) _ _ M2 L2 (by omega) hs2 (fun M' L' h' => ?_)
             have := k M' L' h'
             rw [zs_for, e] at this
             exact this)
      · have hw := zs_if1 h162
        refine zk_iinc dX4_lots_165 zc_1 rfl zk_S_6 ?_
        refine zk_iinc dX4_lots_168 zc_1 rfl zk_S_8 ?_
        refine zk_goto (tgt := 54) dX4_lots_171 (by decide) ?_
        rw [← nI_succ]
        first
          | (have e : zs_ltr M0 x p (z, s) = (zs_nsd (zs_nsd z), s + zs_tg M0 (zs_rides (M0 3) (M0 4) 10 (zs_ltg M0 p z))) := by unfold zs_ltr; rw [if_pos h130]
             refine ih (p + 1) _ _ M2 L2 (by omega) hs2 (fun M' L' h' => ?_)
             have := k M' L' h'
             rw [zs_for, e] at this
             exact this)
          | (have e : zs_ltr M0 x p (z, s) = (zs_nsd (zs_nsd z), s + 1) := by unfold zs_ltr; rw [if_neg h130, if_pos (by rw [← hf2 4 (by decide), ← hf2 3 (by decide)]; exact hw)]
             refine ih (p + 1) _ _ M2 L2 (by omega) hs2 (fun M' L' h' => ?_)
             have := k M' L' h'
             rw [zs_for, e] at this
             exact this)
          | (have e : zs_ltr M0 x p (z, s) = (zs_nsd (zs_nsd z), s) := by unfold zs_ltr; rw [if_neg h130, if_neg (by rw [← hf2 4 (by decide), ← hf2 3 (by decide)]; exact hw)]
             refine ih (p + 1) _ _ M2 L2 (by omega) hs2 (fun M' L' h' => ?_)
             have := k M' L' h'
             rw [zs_for, e] at this
             exact this)
    · refine zk_iload dX4_lots_133 rfl ?_
      refine zk_aload_n dX4_lots_135 rfl ?_
      refine zk_getRc (q := 37) dX4_lots_136 fl_X4_32 (by decide : 0 < zc.1) rfl rfl rfl ?_
      refine zk_aload_n dX4_lots_139 rfl ?_
      refine zk_getRc (q := 1) dX4_lots_140 fl_X4_12 (by decide : 0 < zc.1) rfl rfl rfl ?_
      refine zk_getRc (q := 2) dX4_lots_143 fl_X4_122 (by decide : 1 < zc.1) rfl rfl rfl ?_
      refine zk_cVi (qb_togo hs2 hf2 (zs_rides_ok _ _ (zs_ltg_ok ok6))) dX4_lots_146 mwX1_stepsToGo ml_X4_263 (by decide : 37 < zc.1) rfl rfl (by decide) rfl (Nat.le_of_ble_eq_true rfl) ?_
      refine zk_iadd dX4_lots_149 ?_
      refine zk_istore dX4_lots_150 zk_S_6 ?_
      refine zk_goto (tgt := 168) dX4_lots_152 (by decide) ?_
      refine zk_iinc dX4_lots_168 zc_1 rfl zk_S_8 ?_
      refine zk_goto (tgt := 54) dX4_lots_171 (by decide) ?_
      rw [← nI_succ]
      first
        | (have e : zs_ltr M0 x p (z, s) = (zs_nsd (zs_nsd z), s + zs_tg M0 (zs_rides (M0 3) (M0 4) 10 (zs_ltg M0 p z))) := by unfold zs_ltr; rw [if_pos h130]
           refine ih (p + 1) _ _ M2 L2 (by omega) hs2 (fun M' L' h' => ?_)
           have := k M' L' h'
           rw [zs_for, e] at this
           exact this)
        | (have e : zs_ltr M0 x p (z, s) = (zs_nsd (zs_nsd z), s + 1) := by unfold zs_ltr; rw [if_neg h130, if_pos (by rw [← hf2 4 (by decide), ← hf2 3 (by decide)]; exact hw)]
           refine ih (p + 1) _ _ M2 L2 (by omega) hs2 (fun M' L' h' => ?_)
           have := k M' L' h'
           rw [zs_for, e] at this
           exact this)
        | (have e : zs_ltr M0 x p (z, s) = (zs_nsd (zs_nsd z), s) := by unfold zs_ltr; rw [if_neg h130, if_neg (by rw [← hf2 4 (by decide), ← hf2 3 (by decide)]; exact hw)]
           refine ih (p + 1) _ _ M2 L2 (by omega) hs2 (fun M' L' h' => ?_)
           have := k M' L' h'
           rw [zs_for, e] at this
           exact this)
set_option maxRecDepth 100000 in
set_option maxHeartbeats 4000000 in
theorem lX4_lots2 {l : Launch} {M0 : zk_M} {n : Nat} (hI : zs_I M0 n) {t : Nat} (ht : t ≤ 20) {x : Int32} {Q : Option Value → zk_M → zk_L → Prop} : ∀ (m i : Nat) (z s : Int32) (M : zk_M) (L : zk_L), i + m = t → zs_same M0 M → (∀ M' L', zs_same M0 M' → zk_R l zc 5 muX4_lots 180 [some (.ref 0), some (.int (nI t)), none, some (.int x), none, some (.int (zs_for (zs_ltl M0 x n) m i (z, s)).1), some (.int (zs_for (zs_ltl M0 x n) m i (z, s)).2), none, none] [] M' L' Q) → zk_R l zc 5 muX4_lots 45 [some (.ref 0), some (.int (nI t)), none, some (.int x), none, some (.int z), some (.int s), some (.int (nI i)), none] [] M L Q := by
  intro m
  induction m with
  | zero =>
    intro i z s M L hpm hs k
    obtain rfl : i = t := by omega
    refine zk_iload dX4_lots_45 rfl ?_
    refine zk_iload_n dX4_lots_47 rfl ?_
    refine zk_icmp_ge (tgt := 180) dX4_lots_48 (by decide) (fun _ => ?_) (fun q => absurd (nI_le (Nat.le_refl _) (by omega)) q)
    refine zk_forget ?_ (k M L hs)
    exact ⟨Or.inr rfl, Or.inr rfl, Or.inl rfl, Or.inr rfl, Or.inl rfl, Or.inr rfl, Or.inr rfl, Or.inl rfl, Or.inl rfl, trivial⟩
  | succ m ih =>
    intro i z s M L hpm hs k
    have hi : i < t := by omega
    refine zk_iload dX4_lots_45 rfl ?_
    refine zk_iload_n dX4_lots_47 rfl ?_
    refine zk_icmp_ge (tgt := 180) dX4_lots_48 (by decide) (fun h48 => absurd h48 (nI_ge hi (by omega))) (fun _ => ?_)
    refine zk_iconst dX4_lots_51 zc_0 ?_
    refine zk_istore dX4_lots_52 zk_S_8 ?_
    refine lX4_lots1 hI n 0 z s M L (by omega) hs (fun M1 L1 hs1 => ?_)
    refine zk_iinc dX4_lots_174 zc_1 rfl zk_S_7 ?_
    refine zk_goto (tgt := 45) dX4_lots_177 (by decide) ?_
    rw [← nI_succ]
    exact ih (i + 1) _ _ M1 L1 (by omega) hs1 k
set_option maxRecDepth 100000 in
set_option maxHeartbeats 4000000 in
theorem qX4_lots_r4 {l : Launch} {M : zk_M} {L : zk_L} {t z x : Int32} (ht : t < 1) : zk_C l zc 5 muX4_lots [.ref 0, .int t, .int z, .int x] M L (zq_i (-4) (zs_ref M 4)) := by
  refine zk_ofR (ls := [some (.ref 0), some (.int t), some (.int z), some (.int x), none, none, none, none, none]) (by decide) rfl (Nat.le_of_ble_eq_true rfl) rfl ?_
  refine zk_iload_n dX4_lots_0 rfl ?_
  refine zk_iconst dX4_lots_1 zc_1 ?_
  refine zk_bipush dX4_lots_2 zb_20 ?_
  refine zk_cSi (qX4_refusalOfNumber) dX4_lots_4 miX4_refusalOfNumber ml_X4_163 stX4_refusalOfNumber rfl (by decide) rfl (Nat.le_of_ble_eq_true rfl) ?_
  rw [if_pos ht]
  refine zk_istore dX4_lots_7 zk_S_4 ?_
  refine zk_iload dX4_lots_9 rfl ?_
  refine zk_if_eq (tgt := 21) dX4_lots_11 (by decide) (fun h11 => absurd h11 (by decide)) (fun _ => ?_)
  refine zk_aload_n dX4_lots_14 rfl ?_
  refine zk_iload dX4_lots_15 rfl ?_
  refine zk_cVi (qrf4) dX4_lots_17 mwX4_refuse ml_X4_63 (by decide : 0 < zc.1) rfl rfl (by decide) rfl (Nat.le_of_ble_eq_true rfl) ?_
  refine zk_iret rfl dX4_lots_20 ?_
  exact ⟨rfl, zs_same.rf⟩
set_option maxRecDepth 100000 in
set_option maxHeartbeats 4000000 in
theorem qX4_lots_r6 {l : Launch} {M : zk_M} {L : zk_L} {t z x : Int32} (ht : ¬ t < 1) (h6 : 20 < t) : zk_C l zc 5 muX4_lots [.ref 0, .int t, .int z, .int x] M L (zq_i (-6) (zs_ref M 6)) := by
  refine zk_ofR (ls := [some (.ref 0), some (.int t), some (.int z), some (.int x), none, none, none, none, none]) (by decide) rfl (Nat.le_of_ble_eq_true rfl) rfl ?_
  refine zk_iload_n dX4_lots_0 rfl ?_
  refine zk_iconst dX4_lots_1 zc_1 ?_
  refine zk_bipush dX4_lots_2 zb_20 ?_
  refine zk_cSi (qX4_refusalOfNumber) dX4_lots_4 miX4_refusalOfNumber ml_X4_163 stX4_refusalOfNumber rfl (by decide) rfl (Nat.le_of_ble_eq_true rfl) ?_
  rw [if_neg ht, if_pos h6]
  refine zk_istore dX4_lots_7 zk_S_4 ?_
  refine zk_iload dX4_lots_9 rfl ?_
  refine zk_if_eq (tgt := 21) dX4_lots_11 (by decide) (fun h11 => absurd h11 (by decide)) (fun _ => ?_)
  refine zk_aload_n dX4_lots_14 rfl ?_
  refine zk_iload dX4_lots_15 rfl ?_
  refine zk_cVi (qrf6) dX4_lots_17 mwX4_refuse ml_X4_63 (by decide : 0 < zc.1) rfl rfl (by decide) rfl (Nat.le_of_ble_eq_true rfl) ?_
  refine zk_iret rfl dX4_lots_20 ?_
  exact ⟨rfl, zs_same.rf⟩
set_option maxRecDepth 100000 in
set_option maxHeartbeats 4000000 in
theorem qX4_lots_r2 {l : Launch} {M : zk_M} {L : zk_L} {t z x : Int32} (ht : ¬ t < 1) (h6 : ¬ 20 < t) (hx : ¬ (0 ≤ x ∧ x < 2)) : zk_C l zc 5 muX4_lots [.ref 0, .int t, .int z, .int x] M L (zq_i (-2) (zs_ref M 2)) := by
  refine zk_ofR (ls := [some (.ref 0), some (.int t), some (.int z), some (.int x), none, none, none, none, none]) (by decide) rfl (Nat.le_of_ble_eq_true rfl) rfl ?_
  refine zk_iload_n dX4_lots_0 rfl ?_
  refine zk_iconst dX4_lots_1 zc_1 ?_
  refine zk_bipush dX4_lots_2 zb_20 ?_
  refine zk_cSi (qX4_refusalOfNumber) dX4_lots_4 miX4_refusalOfNumber ml_X4_163 stX4_refusalOfNumber rfl (by decide) rfl (Nat.le_of_ble_eq_true rfl) ?_
  rw [if_neg ht, if_neg h6]
  refine zk_istore dX4_lots_7 zk_S_4 ?_
  refine zk_iload dX4_lots_9 rfl ?_
  refine zk_if_eq (tgt := 21) dX4_lots_11 (by decide) (fun _ => ?_) (fun h11 => absurd (rfl) h11)
  refine zk_iload_n dX4_lots_21 rfl ?_
  refine zk_iconst dX4_lots_22 zc_2 ?_
  refine zk_cSi (qX4_isBelow_f hx) dX4_lots_23 miX4_isBelow ml_X4_149 stX4_isBelow rfl (by decide) rfl (Nat.le_of_ble_eq_true rfl) ?_
  refine zk_if_ne (tgt := 36) dX4_lots_26 (by decide) (fun h26 => absurd (rfl) h26) (fun _ => ?_)
  refine zk_aload_n dX4_lots_29 rfl ?_
  refine zk_bipush dX4_lots_30 zb_m2 ?_
  refine zk_cVi (qrf2) dX4_lots_32 mwX4_refuse ml_X4_63 (by decide : 0 < zc.1) rfl rfl (by decide) rfl (Nat.le_of_ble_eq_true rfl) ?_
  refine zk_iret rfl dX4_lots_35 ?_
  exact ⟨rfl, zs_same.rf⟩
set_option maxRecDepth 100000 in
set_option maxHeartbeats 4000000 in
theorem qX4_lots_t {l : Launch} {M : zk_M} {L : zk_L} {n : Nat} (hI : zs_I M n) {t : Nat} (h1 : 1 ≤ t) (ht : t ≤ 20) {z x : Int32} (hx : 0 ≤ x ∧ x < 2) : zk_C l zc 5 muX4_lots [.ref 0, .int (nI t), .int z, .int x] M L (zq_i (zs_for (zs_ltl M x n) t 0 (z, 0)).2 M) := by
  refine zk_ofR (ls := [some (.ref 0), some (.int (nI t)), some (.int z), some (.int x), none, none, none, none, none]) (by decide) rfl (Nat.le_of_ble_eq_true rfl) rfl ?_
  refine zk_iload_n dX4_lots_0 rfl ?_
  refine zk_iconst dX4_lots_1 zc_1 ?_
  refine zk_bipush dX4_lots_2 zb_20 ?_
  refine zk_cSi (qX4_refusalOfNumber) dX4_lots_4 miX4_refusalOfNumber ml_X4_163 stX4_refusalOfNumber rfl (by decide) rfl (Nat.le_of_ble_eq_true rfl) ?_
  rw [if_neg (show ¬ nI t < 1 from nI_nlt (b := 1) h1 (by omega)), if_neg (show ¬ (20 : Int32) < nI t from nI_nlt (a := 20) ht (by decide))]
  refine zk_istore dX4_lots_7 zk_S_4 ?_
  refine zk_iload dX4_lots_9 rfl ?_
  refine zk_if_eq (tgt := 21) dX4_lots_11 (by decide) (fun _ => ?_) (fun h11 => absurd (rfl) h11)
  refine zk_iload_n dX4_lots_21 rfl ?_
  refine zk_iconst dX4_lots_22 zc_2 ?_
  refine zk_cSi (qX4_isBelow_t hx) dX4_lots_23 miX4_isBelow ml_X4_149 stX4_isBelow rfl (by decide) rfl (Nat.le_of_ble_eq_true rfl) ?_
  refine zk_if_ne (tgt := 36) dX4_lots_26 (by decide) (fun _ => ?_) (fun h26 => absurd h26 (by decide))
  refine zk_iload_n dX4_lots_36 rfl ?_
  refine zk_istore dX4_lots_37 zk_S_5 ?_
  refine zk_iconst dX4_lots_39 zc_0 ?_
  refine zk_istore dX4_lots_40 zk_S_6 ?_
  refine zk_iconst dX4_lots_42 zc_0 ?_
  refine zk_istore dX4_lots_43 zk_S_7 ?_
  refine zk_forget (ls' := [some (.ref 0), some (.int (nI t)), none, some (.int x), none, some (.int z), some (.int 0), some (.int (nI 0)), none]) ⟨Or.inr rfl, Or.inr rfl, Or.inl rfl, Or.inr rfl, Or.inl rfl, Or.inr rfl, Or.inr rfl, Or.inr rfl, Or.inl rfl, trivial⟩ (lX4_lots2 hI ht t 0 z 0 M L (by omega) zs_same.rf (fun M' L' h' => ?_))
  refine zk_iload dX4_lots_180 rfl ?_
  refine zk_iret rfl dX4_lots_182 ?_
  exact ⟨rfl, h'⟩
def zs_gcl : Nat → Int64 → Int64 → Int64
  | 0, g, _ => g
  | n + 1, g, x => if 0 < x then zs_gcl n x (g - g / x * x) else g
def zs_gcd (a b : Int64) : Int64 := if 0 < zs_gcl 128 a b then zs_gcl 128 a b else 1
theorem zs_cmp_le {x y : Int64} (h : lg_cmp x y ≤ 0) : ¬ y < x := fun q => absurd h (by simp [lg_cmp, q])
theorem zs_cmp_gt {x y : Int64} (h : ¬ lg_cmp x y ≤ 0) : y < x := Classical.byContradiction (fun q => h (by unfold lg_cmp; rw [if_neg q]; split <;> decide))
theorem zs_cmp_pos {x y : Int64} (h : 0 < lg_cmp x y) : y < x := zs_cmp_gt (fun q => absurd h (Int32.not_lt.mpr q))
theorem zs_cmp_npos {x y : Int64} (h : ¬ 0 < lg_cmp x y) : ¬ y < x := zs_cmp_le (Int32.not_lt.mp h)
theorem zs_pos64 {x : Int64} (h : 0 < x) : ¬ x = 0 := fun e => by rw [e] at h; exact absurd h (by decide)
def zs_frac (a b : Int64) (x : Int32) : Int64 := if 0 < a ∧ 0 < b then (if x = 0 then a else b) / zs_gcd a b else if x = 0 then 0 else 1
theorem zs_gcd_pos {a b : Int64} : 0 < zs_gcd a b := by
  unfold zs_gcd
  split
  · assumption
  · decide
set_option maxRecDepth 100000 in
set_option maxHeartbeats 4000000 in
theorem lX4_gcd {l : Launch} {σ : zk_Sh} {M : zk_M} {L : zk_L} {a b : Int64} {Q : Option Value → zk_M → zk_L → Prop} : ∀ (m i : Nat) (g x : Int64), i + m = 128 → zk_R l σ 0 muX4_greatestDivisor 45 [some (.long a), none, some (.long b), none, some (.long (zs_gcl m g x)), none, none, none, none, none, none] [] M L Q → zk_R l σ 0 muX4_greatestDivisor 9 [some (.long a), none, some (.long b), none, some (.long g), none, some (.long x), none, some (.int (nI i)), none, none] [] M L Q := by
  intro m
  induction m with
  | zero =>
    intro i g x hi k
    obtain rfl : i = 128 := by omega
    refine zk_iload dX4_greatestDivisor_9 rfl ?_
    refine zk_sipush (v := 128) dX4_greatestDivisor_11 (by decide) ?_
    refine zk_icmp_ge (tgt := 45) dX4_greatestDivisor_14 (by decide) (fun _ => ?_) (fun q => absurd (by decide) q)
    refine zk_forget ?_ k
    exact ⟨Or.inr rfl, Or.inl rfl, Or.inr rfl, Or.inl rfl, Or.inr rfl, Or.inl rfl, Or.inl rfl, Or.inl rfl, Or.inl rfl, Or.inl rfl, Or.inl rfl, trivial⟩
  | succ m ih =>
    intro i g x hi k
    have hi : i < 128 := by omega
    refine zk_iload dX4_greatestDivisor_9 rfl ?_
    refine zk_sipush dX4_greatestDivisor_11 zs_128 ?_
    refine zk_icmp_ge (tgt := 45) dX4_greatestDivisor_14 (by decide) (fun h14 => absurd h14 (nI_ge (b := 128) hi (by decide))) (fun _ => ?_)
    refine zk_lload dX4_greatestDivisor_17 rfl ?_
    refine zk_lconst (v := 0) dX4_greatestDivisor_19 (by decide) ?_
    refine zk_lcmp dX4_greatestDivisor_20 ?_
    refine zk_if_le (tgt := 45) dX4_greatestDivisor_21 (by decide) (fun h21 => ?_) (fun h21 => ?_)
    · rw [zs_gcl, if_neg (zs_cmp_le h21)] at k
      exact zk_forget (ls' := [some (.long a), none, some (.long b), none, some (.long g), none, none, none, none, none, none]) ⟨Or.inr rfl, Or.inl rfl, Or.inr rfl, Or.inl rfl, Or.inr rfl, Or.inl rfl, Or.inl rfl, Or.inl rfl, Or.inl rfl, Or.inl rfl, Or.inl rfl, trivial⟩ k
    · refine zk_lload dX4_greatestDivisor_24 rfl ?_
      refine zk_lload dX4_greatestDivisor_26 rfl ?_
      refine zk_lrem dX4_greatestDivisor_28 (zs_pos64 (zs_cmp_gt h21)) ?_
      refine zk_lstore dX4_greatestDivisor_29 zk_S2_9 ?_
      refine zk_lload dX4_greatestDivisor_31 rfl ?_
      refine zk_lstore dX4_greatestDivisor_33 zk_S2_4 ?_
      refine zk_lload dX4_greatestDivisor_35 rfl ?_
      refine zk_lstore dX4_greatestDivisor_37 zk_S2_6 ?_
      refine zk_iinc dX4_greatestDivisor_39 zc_1 rfl zk_S_8 ?_
      refine zk_goto (tgt := 9) dX4_greatestDivisor_42 (by decide) ?_
      rw [← nI_succ]
      refine zk_forget (ls' := [some (.long a), none, some (.long b), none, some (.long x), none, some (.long (g - g / x * x)), none, some (.int (nI (i + 1))), none, none]) ⟨Or.inr rfl, Or.inl rfl, Or.inr rfl, Or.inl rfl, Or.inr rfl, Or.inl rfl, Or.inr rfl, Or.inl rfl, Or.inr rfl, Or.inl rfl, Or.inl rfl, trivial⟩ (ih (i + 1) x (g - g / x * x) (by omega) ?_)
      rw [zs_gcl, if_pos (zs_cmp_gt h21)] at k
      exact k
set_option maxRecDepth 100000 in
set_option maxHeartbeats 4000000 in
theorem qX4_greatestDivisor {l : Launch} {σ : zk_Sh} {M : zk_M} {L : zk_L} {a b : Int64} : zk_C l σ 0 muX4_greatestDivisor [.long a, .long b] M L (zk_El (zs_gcd a b) M L) := by
  refine zk_ofR (ls := [some (.long a), none, some (.long b), none, none, none, none, none, none, none, none]) (by decide) rfl (Nat.le_of_ble_eq_true rfl) rfl ?_
  refine zk_lload_n dX4_greatestDivisor_0 rfl ?_
  refine zk_lstore dX4_greatestDivisor_1 zk_S2_4 ?_
  refine zk_lload_n dX4_greatestDivisor_3 rfl ?_
  refine zk_lstore dX4_greatestDivisor_4 zk_S2_6 ?_
  refine zk_iconst dX4_greatestDivisor_6 zc_0 ?_
  refine zk_istore dX4_greatestDivisor_7 zk_S_8 ?_
  refine lX4_gcd 128 0 a b rfl ?_
  refine zk_lload dX4_greatestDivisor_45 rfl ?_
  refine zk_lconst (v := 0) dX4_greatestDivisor_47 (by decide) ?_
  refine zk_lcmp dX4_greatestDivisor_48 ?_
  refine zk_if_le (tgt := 57) dX4_greatestDivisor_49 (by decide) (fun h49 => ?_) (fun h49 => ?_)
  · refine zk_lconst (v := 1) dX4_greatestDivisor_57 (by decide) ?_
    refine zk_lret rfl dX4_greatestDivisor_58 ?_
    exact ⟨congrArg (fun v => some (Value.long v)) (by first | exact (if_neg (zs_cmp_le h49)).symm | exact (if_pos (zs_cmp_gt h49)).symm), rfl, rfl⟩
  · refine zk_lload dX4_greatestDivisor_52 rfl ?_
    refine zk_goto (tgt := 58) dX4_greatestDivisor_54 (by decide) ?_
    refine zk_lret rfl dX4_greatestDivisor_58 ?_
    exact ⟨congrArg (fun v => some (Value.long v)) (by first | exact (if_neg (zs_cmp_le h49)).symm | exact (if_pos (zs_cmp_gt h49)).symm), rfl, rfl⟩
set_option maxRecDepth 100000 in
set_option maxHeartbeats 4000000 in
theorem qX4_partOfFraction {l : Launch} {σ : zk_Sh} {M : zk_M} {L : zk_L} {a b : Int64} {x : Int32} : zk_C l σ 1 muX4_partOfFraction [.long a, .long b, .int x] M L (zk_El (zs_frac a b x) M L) := by
  refine zk_ofR (ls := [some (.long a), none, some (.long b), none, some (.int x), none, none]) (by decide) rfl (Nat.le_of_ble_eq_true rfl) rfl ?_
  refine zk_lload_n dX4_partOfFraction_0 rfl ?_
  refine zk_lconst (v := 0) dX4_partOfFraction_1 (by decide) ?_
  refine zk_lcmp dX4_partOfFraction_2 ?_
  refine zk_if_le (tgt := 12) dX4_partOfFraction_3 (by decide) (fun h3 => ?_) (fun h3 => ?_)
  · refine zk_iload dX4_partOfFraction_12 rfl ?_
    refine zk_if_ne (tgt := 21) dX4_partOfFraction_14 (by decide) (fun h14 => ?_) (fun h14 => ?_)
    · refine zk_lconst (v := 1) dX4_partOfFraction_21 (by decide) ?_
      refine zk_lret rfl dX4_partOfFraction_22 ?_
      refine ⟨congrArg (fun v => some (Value.long v)) ?_, rfl, rfl⟩
      unfold zs_frac
      first
        | (rw [if_neg (fun q => zs_cmp_le h3 q.1), if_pos h14]; done)
        | (rw [if_neg (fun q => zs_cmp_le h3 q.1), if_neg h14]; done)
        | (rw [if_pos ⟨zs_cmp_gt h3, zs_cmp_pos h9⟩, if_pos h32]; done)
        | (rw [if_pos ⟨zs_cmp_gt h3, zs_cmp_pos h9⟩, if_neg h32]; done)
        | (rw [if_neg (fun q => zs_cmp_npos h9 q.2), if_pos h14]; done)
        | (rw [if_neg (fun q => zs_cmp_npos h9 q.2), if_neg h14]; done)
    · refine zk_lconst (v := 0) dX4_partOfFraction_17 (by decide) ?_
      refine zk_goto (tgt := 22) dX4_partOfFraction_18 (by decide) ?_
      refine zk_lret rfl dX4_partOfFraction_22 ?_
      refine ⟨congrArg (fun v => some (Value.long v)) ?_, rfl, rfl⟩
      unfold zs_frac
      first
        | (rw [if_neg (fun q => zs_cmp_le h3 q.1), if_pos h14]; done)
        | (rw [if_neg (fun q => zs_cmp_le h3 q.1), if_neg h14]; done)
        | (rw [if_pos ⟨zs_cmp_gt h3, zs_cmp_pos h9⟩, if_pos h32]; done)
        | (rw [if_pos ⟨zs_cmp_gt h3, zs_cmp_pos h9⟩, if_neg h32]; done)
        | (rw [if_neg (fun q => zs_cmp_npos h9 q.2), if_pos h14]; done)
        | (rw [if_neg (fun q => zs_cmp_npos h9 q.2), if_neg h14]; done)
  · refine zk_lload_n dX4_partOfFraction_6 rfl ?_
    refine zk_lconst (v := 0) dX4_partOfFraction_7 (by decide) ?_
    refine zk_lcmp dX4_partOfFraction_8 ?_
    refine zk_if_gt (tgt := 23) dX4_partOfFraction_9 (by decide) (fun h9 => ?_) (fun h9 => ?_)
    · refine zk_lload_n dX4_partOfFraction_23 rfl ?_
      refine zk_lload_n dX4_partOfFraction_24 rfl ?_
      refine zk_cSl (qX4_greatestDivisor) dX4_partOfFraction_25 miX4_greatestDivisor ml_X4_302 stX4_greatestDivisor rfl (by decide) rfl (Nat.le_of_ble_eq_true rfl) ?_
      refine zk_lstore dX4_partOfFraction_28 zk_S2_5 ?_
      refine zk_iload dX4_partOfFraction_30 rfl ?_
      refine zk_if_ne (tgt := 39) dX4_partOfFraction_32 (by decide) (fun h32 => ?_) (fun h32 => ?_)
      · refine zk_lload_n dX4_partOfFraction_39 rfl ?_
        refine zk_lload dX4_partOfFraction_40 rfl ?_
        refine zk_ldiv dX4_partOfFraction_42 (zs_pos64 zs_gcd_pos) ?_
        refine zk_lret rfl dX4_partOfFraction_43 ?_
        refine ⟨congrArg (fun v => some (Value.long v)) ?_, rfl, rfl⟩
        unfold zs_frac
        first
          | (rw [if_neg (fun q => zs_cmp_le h3 q.1), if_pos h14]; done)
          | (rw [if_neg (fun q => zs_cmp_le h3 q.1), if_neg h14]; done)
          | (rw [if_pos ⟨zs_cmp_gt h3, zs_cmp_pos h9⟩, if_pos h32]; done)
          | (rw [if_pos ⟨zs_cmp_gt h3, zs_cmp_pos h9⟩, if_neg h32]; done)
          | (rw [if_neg (fun q => zs_cmp_npos h9 q.2), if_pos h14]; done)
          | (rw [if_neg (fun q => zs_cmp_npos h9 q.2), if_neg h14]; done)
      · refine zk_lload_n dX4_partOfFraction_35 rfl ?_
        refine zk_goto (tgt := 40) dX4_partOfFraction_36 (by decide) ?_
        refine zk_lload dX4_partOfFraction_40 rfl ?_
        refine zk_ldiv dX4_partOfFraction_42 (zs_pos64 zs_gcd_pos) ?_
        refine zk_lret rfl dX4_partOfFraction_43 ?_
        refine ⟨congrArg (fun v => some (Value.long v)) ?_, rfl, rfl⟩
        unfold zs_frac
        first
          | (rw [if_neg (fun q => zs_cmp_le h3 q.1), if_pos h14]; done)
          | (rw [if_neg (fun q => zs_cmp_le h3 q.1), if_neg h14]; done)
          | (rw [if_pos ⟨zs_cmp_gt h3, zs_cmp_pos h9⟩, if_pos h32]; done)
          | (rw [if_pos ⟨zs_cmp_gt h3, zs_cmp_pos h9⟩, if_neg h32]; done)
          | (rw [if_neg (fun q => zs_cmp_npos h9 q.2), if_pos h14]; done)
          | (rw [if_neg (fun q => zs_cmp_npos h9 q.2), if_neg h14]; done)
    · refine zk_iload dX4_partOfFraction_12 rfl ?_
      refine zk_if_ne (tgt := 21) dX4_partOfFraction_14 (by decide) (fun h14 => ?_) (fun h14 => ?_)
      · refine zk_lconst (v := 1) dX4_partOfFraction_21 (by decide) ?_
        refine zk_lret rfl dX4_partOfFraction_22 ?_
        refine ⟨congrArg (fun v => some (Value.long v)) ?_, rfl, rfl⟩
        unfold zs_frac
        first
          | (rw [if_neg (fun q => zs_cmp_le h3 q.1), if_pos h14]; done)
          | (rw [if_neg (fun q => zs_cmp_le h3 q.1), if_neg h14]; done)
          | (rw [if_pos ⟨zs_cmp_gt h3, zs_cmp_pos h9⟩, if_pos h32]; done)
          | (rw [if_pos ⟨zs_cmp_gt h3, zs_cmp_pos h9⟩, if_neg h32]; done)
          | (rw [if_neg (fun q => zs_cmp_npos h9 q.2), if_pos h14]; done)
          | (rw [if_neg (fun q => zs_cmp_npos h9 q.2), if_neg h14]; done)
      · refine zk_lconst (v := 0) dX4_partOfFraction_17 (by decide) ?_
        refine zk_goto (tgt := 22) dX4_partOfFraction_18 (by decide) ?_
        refine zk_lret rfl dX4_partOfFraction_22 ?_
        refine ⟨congrArg (fun v => some (Value.long v)) ?_, rfl, rfl⟩
        unfold zs_frac
        first
          | (rw [if_neg (fun q => zs_cmp_le h3 q.1), if_pos h14]; done)
          | (rw [if_neg (fun q => zs_cmp_le h3 q.1), if_neg h14]; done)
          | (rw [if_pos ⟨zs_cmp_gt h3, zs_cmp_pos h9⟩, if_pos h32]; done)
          | (rw [if_pos ⟨zs_cmp_gt h3, zs_cmp_pos h9⟩, if_neg h32]; done)
          | (rw [if_neg (fun q => zs_cmp_npos h9 q.2), if_pos h14]; done)
          | (rw [if_neg (fun q => zs_cmp_npos h9 q.2), if_neg h14]; done)
set_option maxRecDepth 100000 in
set_option maxHeartbeats 4000000 in
theorem qX4_mean_r {l : Launch} {M : zk_M} {L : zk_L} {x : Int32} (hx : ¬ (0 ≤ x ∧ x < 2)) : zk_C l zc 3 muX4_mean [.ref 0, .int x] M L (zq_l 4000000000000000002 (zs_ref M 2)) := by
  refine zk_ofR (ls := [some (.ref 0), some (.int x)]) (by decide) rfl (Nat.le_of_ble_eq_true rfl) rfl ?_
  refine zk_iload_n dX4_mean_0 rfl ?_
  refine zk_iconst dX4_mean_1 zc_2 ?_
  refine zk_cSi (qX4_isBelow_f hx) dX4_mean_2 miX4_isBelow ml_X4_149 stX4_isBelow rfl (by decide) rfl (Nat.le_of_ble_eq_true rfl) ?_
  refine zk_if_ne (tgt := 15) dX4_mean_5 (by decide) (fun h5 => absurd (rfl) h5) (fun _ => ?_)
  refine zk_aload_n dX4_mean_8 rfl ?_
  refine zk_bipush dX4_mean_9 zb_m2 ?_
  refine zk_cVl (qrl2) dX4_mean_11 mwX4_refuseLong ml_X4_231 (by decide : 0 < zc.1) rfl rfl (by decide) rfl (Nat.le_of_ble_eq_true rfl) ?_
  refine zk_lret rfl dX4_mean_14 ?_
  exact ⟨rfl, zs_same.rf⟩
set_option maxRecDepth 100000 in
set_option maxHeartbeats 4000000 in
theorem qX4_mean_t {l : Launch} {M : zk_M} {L : zk_L} {n : Nat} (hI : zs_I M n) {x : Int32} (hx : 0 ≤ x ∧ x < 2) : zk_C l zc 3 muX4_mean [.ref 0, .int x] M L (zq_l (zs_frac (zs_for (fun i x => x + M (6 + i) 5) n 0 0).toInt64 (M 1 2).toInt64 x) M) := by
  refine zk_ofR (ls := [some (.ref 0), some (.int x)]) (by decide) rfl (Nat.le_of_ble_eq_true rfl) rfl ?_
  refine zk_iload_n dX4_mean_0 rfl ?_
  refine zk_iconst dX4_mean_1 zc_2 ?_
  refine zk_cSi (qX4_isBelow_t hx) dX4_mean_2 miX4_isBelow ml_X4_149 stX4_isBelow rfl (by decide) rfl (Nat.le_of_ble_eq_true rfl) ?_
  refine zk_if_ne (tgt := 15) dX4_mean_5 (by decide) (fun _ => ?_) (fun h5 => absurd h5 (by decide))
  refine zk_aload_n dX4_mean_15 rfl ?_
  refine zk_getRc (q := 1) dX4_mean_16 fl_X4_12 (by decide : 0 < zc.1) rfl rfl rfl ?_
  refine zk_cVi (q1_shoes hI) dX4_mean_19 mwX0_allShoes ml_X4_245 (by decide : 1 < zc.1) rfl rfl (by decide) rfl (Nat.le_of_ble_eq_true rfl) ?_
  refine zk_i2l dX4_mean_22 ?_
  refine zk_aload_n dX4_mean_23 rfl ?_
  refine zk_getRc (q := 1) dX4_mean_24 fl_X4_12 (by decide : 0 < zc.1) rfl rfl rfl ?_
  refine zk_getI dX4_mean_27 fl_X4_181 (by decide : 1 < zc.1) rfl rfl ?_
  refine zk_i2l dX4_mean_30 ?_
  refine zk_iload_n dX4_mean_31 rfl ?_
  refine zk_cSl (qX4_partOfFraction) dX4_mean_32 miX4_partOfFraction ml_X4_241 stX4_partOfFraction rfl (by decide) rfl (Nat.le_of_ble_eq_true rfl) ?_
  refine zk_lret rfl dX4_mean_35 ?_
  exact ⟨rfl, zs_same.rf⟩
