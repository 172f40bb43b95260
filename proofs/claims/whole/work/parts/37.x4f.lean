def zs_cost (M : zk_M) (t p : Nat) (c : Int32) : Int32 := zs_tg M (zs_rides (M 3) (M 4) t (if c = 1 then zs_shod (M (6 + p)) else M (6 + p))) + c
theorem zs_shod_ag {f g : Nat → Int32} (h : zs_ag 7 f g) : zs_ag 7 (zs_shod f) (zs_shod g) := by
  unfold zs_shod
  rw [h 0 (by decide)]
  exact (h.up).up
theorem zs_shod_ok {f : Nat → Int32} (ok : zs_ok f) : zs_ok (zs_shod f) := zs_ok_up (zs_ok_up ok (by decide) (by decide) (by decide)) (by decide) (by decide) (by decide)
set_option maxRecDepth 100000 in
set_option maxHeartbeats 4000000 in
theorem qX4_costOfChoice {l : Launch} {M : zk_M} {L : zk_L} {M0 : zk_M} {n : Nat} (hI : zs_I M0 n) (hs : zs_same M0 M) {p : Nat} (hp : p < n) {t : Nat} (ht : t < 2 ^ 31) {c : Int32} : zk_C l zc 5 muX4_costOfChoice [.ref 0, .int (nI p), .int c, .int (nI t)] M L (zq_i (zs_cost M0 t p c) M0) := by
  refine zk_ofR (ls := [some (.ref 0), some (.int (nI p)), some (.int c), some (.int (nI t))]) (by decide) rfl (Nat.le_of_ble_eq_true rfl) rfl ?_
  have hp6 : p < 6 := Nat.lt_of_lt_of_le hp hI.1
  have e6 : M (6 + p) = M0 (6 + p) := hs (6 + p) (by omega) (by omega)
  have ok6 : zs_ok (M0 (6 + p)) := hI.2.2 p hp6
  have okc : zs_ok (if c = 1 then zs_shod (M0 (6 + p)) else M0 (6 + p)) := by
    split
    · exact zs_shod_ok ok6
    · exact ok6
  have JJ : ∀ (MX : zk_M) (LX : zk_L), zs_same M0 MX → zs_ag 7 (MX 37) (if c = 1 then zs_shod (M0 (6 + p)) else M0 (6 + p)) → zk_R l zc 5 muX4_costOfChoice 17 [some (.ref 0), some (.int (nI p)), some (.int c), some (.int (nI t))] [] MX LX (zq_i (zs_cost M0 t p c) M0) := by
    intro MX LX hsX hfX
    refine zk_aload_n dX4_costOfChoice_17 rfl ?_
    refine zk_getRc (q := 37) dX4_costOfChoice_18 fl_X4_32 (by decide : 0 < zc.1) rfl rfl rfl ?_
    refine zk_aload_n dX4_costOfChoice_21 rfl ?_
    refine zk_getRc (q := 1) dX4_costOfChoice_22 fl_X4_12 (by decide : 0 < zc.1) rfl rfl rfl ?_
    refine zk_getRc (q := 2) dX4_costOfChoice_25 fl_X4_122 (by decide : 1 < zc.1) rfl rfl rfl ?_
    refine zk_iload_n dX4_costOfChoice_28 rfl ?_
    refine zk_callV (qb_rides (f := if c = 1 then zs_shod (M0 (6 + p)) else M0 (6 + p)) ht hsX hfX okc) dX4_costOfChoice_29 mwX1_rideDays ml_X4_171 (by decide : 37 < zc.1) rfl rfl (by decide) rfl (Nat.le_of_ble_eq_true rfl) (fun r2 M2 L2 h2 => ?_)
    obtain ⟨rfl, hs2, hf2⟩ := h2
    refine zk_aload_n dX4_costOfChoice_32 rfl ?_
    refine zk_getRc (q := 37) dX4_costOfChoice_33 fl_X4_32 (by decide : 0 < zc.1) rfl rfl rfl ?_
    refine zk_aload_n dX4_costOfChoice_36 rfl ?_
    refine zk_getRc (q := 1) dX4_costOfChoice_37 fl_X4_12 (by decide : 0 < zc.1) rfl rfl rfl ?_
    refine zk_getRc (q := 2) dX4_costOfChoice_40 fl_X4_122 (by decide : 1 < zc.1) rfl rfl rfl ?_
    refine zk_cVi (qb_togo hs2 hf2 (zs_rides_ok _ _ okc)) dX4_costOfChoice_43 mwX1_stepsToGo ml_X4_263 (by decide : 37 < zc.1) rfl rfl (by decide) rfl (Nat.le_of_ble_eq_true rfl) ?_
    refine zk_iload_n dX4_costOfChoice_46 rfl ?_
    refine zk_iadd dX4_costOfChoice_47 ?_
    refine zk_iret rfl dX4_costOfChoice_48 ?_
    exact ⟨rfl, hs2⟩
  refine zk_aload_n dX4_costOfChoice_0 rfl ?_
  refine zk_iload_n dX4_costOfChoice_1 rfl ?_
  refine zk_cVv (qX4_thinkOf (hI.sm hs) hp) dX4_costOfChoice_2 mwX4_thinkOf ml_X4_167 (by decide : 0 < zc.1) rfl rfl (by decide) rfl (Nat.le_of_ble_eq_true rfl) ?_
  refine zk_iload_n dX4_costOfChoice_5 rfl ?_
  refine zk_iconst dX4_costOfChoice_6 zc_1 ?_
  refine zk_icmp_ne (tgt := 17) dX4_costOfChoice_7 (by decide) (fun h7 => ?_) (fun h7 => ?_)
  · first
      | exact JJ _ L (hs.up (by omega)) (by rw [zk_up_eq, e6, if_neg h7]; exact zs_cp_ag)
      | exact JJ _ L ((hs.up (by omega)).up (by omega)) (by rw [if_pos h7]; simp only [zk_up_eq]; rw [e6]; exact zs_shod_ag zs_cp_ag)
  · refine zk_aload_n dX4_costOfChoice_10 rfl ?_
    refine zk_getRc (q := 37) dX4_costOfChoice_11 fl_X4_32 (by decide : 0 < zc.1) rfl rfl rfl ?_
    refine zk_cVv (qX1_shoeAnew zc_h37) dX4_costOfChoice_14 mwX1_shoeAnew ml_X4_297 (by decide : 37 < zc.1) rfl rfl (by decide) rfl (Nat.le_of_ble_eq_true rfl) ?_
    first
      | exact JJ _ L (hs.up (by omega)) (by rw [zk_up_eq, e6, if_neg h7]; exact zs_cp_ag)
      | exact JJ _ L ((hs.up (by omega)).up (by omega)) (by rw [if_pos h7]; simp only [zk_up_eq]; rw [e6]; exact zs_shod_ag zs_cp_ag)
abbrev zs_keep (M : zk_M) (t p i : Nat) : Prop := zs_cost M t p (nI i) ≤ zs_cost M t p (1 - nI i)
def zs_twob (M : zk_M) (t p q i : Nat) : Nat → Nat → Option Int32
  | 0, _ => none
  | m + 1, j => if zs_keep M t p i ∧ zs_keep M t q j then some (10 * nI i + nI j) else zs_twob M t p q i m (j + 1)
def zs_twoa (M : zk_M) (t p q : Nat) : Nat → Nat → Int32
  | 0, _ => -9
  | m + 1, i => (zs_twob M t p q i 2 0).getD (zs_twoa M t p q m (i + 1))
set_option maxRecDepth 100000 in
set_option maxHeartbeats 4000000 in
theorem lX4_two1 {l : Launch} {M0 : zk_M} {n : Nat} (hI : zs_I M0 n) {p q : Nat} (hp : p < n) (hq : q < n) {t : Nat} (ht : t < 2 ^ 31) {w : Int32} {i : Nat} : ∀ (m j : Nat) (M : zk_M) (L : zk_L), j + m = 2 → zs_same M0 M → (∀ v, zs_twob M0 t p q i m j = some v → w = v) → (zs_twob M0 t p q i m j = none → ∀ M' L', zs_same M0 M' → zk_R l zc 6 muX4_two 153 [some (.ref 0), some (.int (nI p)), some (.int (nI q)), some (.int (nI t)), none, some (.int (nI i)), none, none, none] [] M' L' (zq_i w M0)) → zk_R l zc 6 muX4_two 66 [some (.ref 0), some (.int (nI p)), some (.int (nI q)), some (.int (nI t)), none, some (.int (nI i)), some (.int (nI j)), none, none] [] M L (zq_i w M0) := by
  intro m
  induction m with
  | zero =>
    intro j M L hj hs hv k
    obtain rfl : j = 2 := by omega
    refine zk_iload dX4_two_66 rfl ?_
    refine zk_iconst dX4_two_68 zc_1 ?_
    refine zk_icmp_gt (tgt := 153) dX4_two_69 (by decide) (fun _ => ?_) (fun q => absurd (by decide) q)
    refine zk_forget ?_ (k rfl M L hs)
    exact ⟨Or.inr rfl, Or.inr rfl, Or.inr rfl, Or.inr rfl, Or.inl rfl, Or.inr rfl, Or.inl rfl, Or.inl rfl, Or.inl rfl, trivial⟩
  | succ m ih =>
    intro j M L hj hs hv k
    have JJ : ∀ (y : Int32) (MX : zk_M) (LX : zk_L), zs_same M0 MX → y = (if zs_keep M0 t p i then 1 else 0) → zk_R l zc 6 muX4_two 98 [some (.ref 0), some (.int (nI p)), some (.int (nI q)), some (.int (nI t)), none, some (.int (nI i)), some (.int (nI j)), none, none] [.int y] MX LX (zq_i w M0) := by
      intro y MX LX hsX ey
      subst ey
      refine zk_istore dX4_two_98 zk_S_7 ?_
      refine zk_aload_n dX4_two_100 rfl ?_
      refine zk_iload_n dX4_two_101 rfl ?_
      refine zk_iload dX4_two_102 rfl ?_
      refine zk_iload_n dX4_two_104 rfl ?_
      refine zk_cVqi (qX4_costOfChoice hI hsX hq ht) dX4_two_105 mwX4_costOfChoice ml_X4_228 (by decide : 0 < zc.1) rfl rfl (by decide) rfl (Nat.le_of_ble_eq_true rfl) (fun M3 L3 hs3 => ?_)
      refine zk_aload_n dX4_two_108 rfl ?_
      refine zk_iload_n dX4_two_109 rfl ?_
      refine zk_iconst dX4_two_110 zc_1 ?_
      refine zk_iload dX4_two_111 rfl ?_
      refine zk_isub dX4_two_113 ?_
      refine zk_iload_n dX4_two_114 rfl ?_
      refine zk_cVqi (qX4_costOfChoice hI hs3 hq ht) dX4_two_115 mwX4_costOfChoice ml_X4_228 (by decide : 0 < zc.1) rfl rfl (by decide) rfl (Nat.le_of_ble_eq_true rfl) (fun M4 L4 hs4 => ?_)
      refine zk_icmp_gt (tgt := 125) dX4_two_118 (by decide) (fun h118 => ?_) (fun h118 => ?_)
      · refine zk_iconst dX4_two_125 zc_0 ?_
        refine zk_istore dX4_two_126 zk_S_8 ?_
        refine zk_iload dX4_two_128 rfl ?_
        refine zk_if_eq (tgt := 147) dX4_two_130 (by decide) (fun h130 => ?_) (fun h130 => ?_)
        · have hk := zs_if0 h130
          refine zk_iinc dX4_two_147 zc_1 rfl zk_S_6 ?_
          refine zk_goto (tgt := 66) dX4_two_150 (by decide) ?_
          rw [← nI_succ]
          refine zk_forget (ls' := [some (.ref 0), some (.int (nI p)), some (.int (nI q)), some (.int (nI t)), none, some (.int (nI i)), some (.int (nI (j + 1))), none, none]) ⟨Or.inr rfl, Or.inr rfl, Or.inr rfl, Or.inr rfl, Or.inl rfl, Or.inr rfl, Or.inr rfl, Or.inl rfl, Or.inl rfl, trivial⟩ (ih (j + 1) M4 L4 (by omega) hs4 (fun v e => hv v ?_) (fun e => k ?_))
          · rw [zs_twob, if_neg (by first | exact fun q => hk q.1 | exact fun q => absurd q.2 (Int32.not_le.mpr h118))]; exact e
          · rw [zs_twob, if_neg (by first | exact fun q => hk q.1 | exact fun q => absurd q.2 (Int32.not_le.mpr h118))]; exact e
        · have hk := zs_if1 h130
          refine zk_iload dX4_two_133 rfl ?_
          refine zk_if_eq (tgt := 147) dX4_two_135 (by decide) (fun _ => ?_) (fun h135 => absurd (rfl) h135)
          refine zk_iinc dX4_two_147 zc_1 rfl zk_S_6 ?_
          refine zk_goto (tgt := 66) dX4_two_150 (by decide) ?_
          rw [← nI_succ]
          refine zk_forget (ls' := [some (.ref 0), some (.int (nI p)), some (.int (nI q)), some (.int (nI t)), none, some (.int (nI i)), some (.int (nI (j + 1))), none, none]) ⟨Or.inr rfl, Or.inr rfl, Or.inr rfl, Or.inr rfl, Or.inl rfl, Or.inr rfl, Or.inr rfl, Or.inl rfl, Or.inl rfl, trivial⟩ (ih (j + 1) M4 L4 (by omega) hs4 (fun v e => hv v ?_) (fun e => k ?_))
          · rw [zs_twob, if_neg (by first | exact fun q => hk q.1 | exact fun q => absurd q.2 (Int32.not_le.mpr h118))]; exact e
          · rw [zs_twob, if_neg (by first | exact fun q => hk q.1 | exact fun q => absurd q.2 (Int32.not_le.mpr h118))]; exact e
      · refine zk_iconst dX4_two_121 zc_1 ?_
        refine zk_goto (tgt := 126) dX4_two_122 (by decide) ?_
        refine zk_istore dX4_two_126 zk_S_8 ?_
        refine zk_iload dX4_two_128 rfl ?_
        refine zk_if_eq (tgt := 147) dX4_two_130 (by decide) (fun h130 => ?_) (fun h130 => ?_)
        · have hk := zs_if0 h130
          refine zk_iinc dX4_two_147 zc_1 rfl zk_S_6 ?_
          refine zk_goto (tgt := 66) dX4_two_150 (by decide) ?_
          rw [← nI_succ]
          refine zk_forget (ls' := [some (.ref 0), some (.int (nI p)), some (.int (nI q)), some (.int (nI t)), none, some (.int (nI i)), some (.int (nI (j + 1))), none, none]) ⟨Or.inr rfl, Or.inr rfl, Or.inr rfl, Or.inr rfl, Or.inl rfl, Or.inr rfl, Or.inr rfl, Or.inl rfl, Or.inl rfl, trivial⟩ (ih (j + 1) M4 L4 (by omega) hs4 (fun v e => hv v ?_) (fun e => k ?_))
          · rw [zs_twob, if_neg (by first | exact fun q => hk q.1 | exact fun q => absurd q.2 (Int32.not_le.mpr h118))]; exact e
          · rw [zs_twob, if_neg (by first | exact fun q => hk q.1 | exact fun q => absurd q.2 (Int32.not_le.mpr h118))]; exact e
        · have hk := zs_if1 h130
          refine zk_iload dX4_two_133 rfl ?_
          refine zk_if_eq (tgt := 147) dX4_two_135 (by decide) (fun h135 => absurd h135 (by decide)) (fun _ => ?_)
          refine zk_bipush dX4_two_138 zb_10 ?_
          refine zk_iload dX4_two_140 rfl ?_
          refine zk_imul dX4_two_142 ?_
          refine zk_iload dX4_two_143 rfl ?_
          refine zk_iadd dX4_two_145 ?_
          refine zk_iret rfl dX4_two_146 ?_
          exact ⟨by rw [hv _ (by rw [zs_twob, if_pos ⟨hk, Int32.not_lt.mp h118⟩])], hs4⟩
    refine zk_iload dX4_two_66 rfl ?_
    refine zk_iconst dX4_two_68 zc_1 ?_
    refine zk_icmp_gt (tgt := 153) dX4_two_69 (by decide) (fun h69 => absurd h69 (nI_nlt (a := 1) (show j ≤ 1 by omega) (by decide))) (fun _ => ?_)
    refine zk_aload_n dX4_two_72 rfl ?_
    refine zk_iload_n dX4_two_73 rfl ?_
    refine zk_iload dX4_two_74 rfl ?_
    refine zk_iload_n dX4_two_76 rfl ?_
    refine zk_cVqi (qX4_costOfChoice hI hs hp ht) dX4_two_77 mwX4_costOfChoice ml_X4_228 (by decide : 0 < zc.1) rfl rfl (by decide) rfl (Nat.le_of_ble_eq_true rfl) (fun M1 L1 hs1 => ?_)
    refine zk_aload_n dX4_two_80 rfl ?_
    refine zk_iload_n dX4_two_81 rfl ?_
    refine zk_iconst dX4_two_82 zc_1 ?_
    refine zk_iload dX4_two_83 rfl ?_
    refine zk_isub dX4_two_85 ?_
    refine zk_iload_n dX4_two_86 rfl ?_
    refine zk_cVqi (qX4_costOfChoice hI hs1 hp ht) dX4_two_87 mwX4_costOfChoice ml_X4_228 (by decide : 0 < zc.1) rfl rfl (by decide) rfl (Nat.le_of_ble_eq_true rfl) (fun M2 L2 hs2 => ?_)
    refine zk_icmp_gt (tgt := 97) dX4_two_90 (by decide) (fun h90 => ?_) (fun h90 => ?_)
    · refine zk_iconst dX4_two_97 zc_0 ?_
      first | exact JJ _ M2 L2 hs2 (if_pos (Int32.not_lt.mp h90)).symm | exact JJ _ M2 L2 hs2 (if_neg (Int32.not_le.mpr h90)).symm
    · refine zk_iconst dX4_two_93 zc_1 ?_
      refine zk_goto (tgt := 98) dX4_two_94 (by decide) ?_
      first | exact JJ _ M2 L2 hs2 (if_pos (Int32.not_lt.mp h90)).symm | exact JJ _ M2 L2 hs2 (if_neg (Int32.not_le.mpr h90)).symm
set_option maxRecDepth 100000 in
set_option maxHeartbeats 4000000 in
theorem lX4_two2 {l : Launch} {M0 : zk_M} {n : Nat} (hI : zs_I M0 n) {p q : Nat} (hp : p < n) (hq : q < n) {t : Nat} (ht : t < 2 ^ 31) {w : Int32} : ∀ (m i : Nat) (M : zk_M) (L : zk_L), i + m = 2 → zs_same M0 M → w = zs_twoa M0 t p q m i → zk_R l zc 6 muX4_two 57 [some (.ref 0), some (.int (nI p)), some (.int (nI q)), some (.int (nI t)), none, some (.int (nI i)), none, none, none] [] M L (zq_i w M0) := by
  intro m
  induction m with
  | zero =>
    intro i M L hj hs ek
    obtain rfl : i = 2 := by omega
    refine zk_iload dX4_two_57 rfl ?_
    refine zk_iconst dX4_two_59 zc_1 ?_
    refine zk_icmp_gt (tgt := 159) dX4_two_60 (by decide) (fun _ => ?_) (fun q => absurd (by decide) q)
    refine zk_bipush (v := -9) dX4_two_159 (by decide) ?_
    refine zk_iret rfl dX4_two_161 ?_
    exact ⟨by rw [ek]; rfl, hs⟩
  | succ m ih =>
    intro i M L hj hs ek
    refine zk_iload dX4_two_57 rfl ?_
    refine zk_iconst dX4_two_59 zc_1 ?_
    refine zk_icmp_gt (tgt := 159) dX4_two_60 (by decide) (fun h60 => absurd h60 (nI_nlt (a := 1) (show i ≤ 1 by omega) (by decide))) (fun _ => ?_)
    refine zk_iconst dX4_two_63 zc_0 ?_
    refine zk_istore dX4_two_64 zk_S_6 ?_
    refine lX4_two1 hI hp hq ht (i := i) 2 0 M L rfl hs (fun v e => by rw [ek, zs_twoa, e]; rfl) (fun e M1 L1 hs1 => ?_)
    refine zk_iinc dX4_two_153 zc_1 rfl zk_S_5 ?_
    refine zk_goto (tgt := 57) dX4_two_156 (by decide) ?_
    rw [← nI_succ]
    exact ih (i + 1) M1 L1 (by omega) hs1 (by rw [ek, zs_twoa, e]; rfl)
set_option maxRecDepth 100000 in
set_option maxHeartbeats 4000000 in
theorem qX4_two_r1 {l : Launch} {M : zk_M} {L : zk_L} {n : Nat} (hI : zs_I M n) {a b x : Int32} (hn : ¬ (zs_isr (M 1 2) a ∧ zs_isr (M 1 2) b ∧ ¬ a = b)) : zk_C l zc 6 muX4_two [.ref 0, .int a, .int b, .int x] M L (zq_i (-1) (zs_ref M 1)) := by
  refine zk_ofR (ls := [some (.ref 0), some (.int a), some (.int b), some (.int x), none, none, none, none, none]) (by decide) rfl (Nat.le_of_ble_eq_true rfl) rfl ?_
  refine zk_aload_n dX4_two_0 rfl ?_
  refine zk_getRc (q := 1) dX4_two_1 fl_X4_12 (by decide : 0 < zc.1) rfl rfl rfl ?_
  refine zk_iload_n dX4_two_4 rfl ?_
  refine zk_cVi (q1_hasRider hI) dX4_two_5 mwX0_hasRider ml_X4_85 (by decide : 1 < zc.1) rfl rfl (by decide) rfl (Nat.le_of_ble_eq_true rfl) ?_
  refine zk_if_eq (tgt := 27) dX4_two_8 (by decide) (fun h8 => ?_) (fun h8 => ?_)
  · have ha := zs_if0 h8
    refine zk_aload_n dX4_two_27 rfl ?_
    refine zk_iconst dX4_two_28 zc_m1 ?_
    refine zk_cVi (qrf1) dX4_two_29 mwX4_refuse ml_X4_63 (by decide : 0 < zc.1) rfl rfl (by decide) rfl (Nat.le_of_ble_eq_true rfl) ?_
    refine zk_iret rfl dX4_two_32 ?_
    exact ⟨rfl, zs_same.rf⟩
  · have ha := zs_if1 h8
    refine zk_aload_n dX4_two_11 rfl ?_
    refine zk_getRc (q := 1) dX4_two_12 fl_X4_12 (by decide : 0 < zc.1) rfl rfl rfl ?_
    refine zk_iload_n dX4_two_15 rfl ?_
    refine zk_cVi (q1_hasRider hI) dX4_two_16 mwX0_hasRider ml_X4_85 (by decide : 1 < zc.1) rfl rfl (by decide) rfl (Nat.le_of_ble_eq_true rfl) ?_
    refine zk_if_eq (tgt := 27) dX4_two_19 (by decide) (fun h19 => ?_) (fun h19 => ?_)
    · have hb := zs_if0 h19
      refine zk_aload_n dX4_two_27 rfl ?_
      refine zk_iconst dX4_two_28 zc_m1 ?_
      refine zk_cVi (qrf1) dX4_two_29 mwX4_refuse ml_X4_63 (by decide : 0 < zc.1) rfl rfl (by decide) rfl (Nat.le_of_ble_eq_true rfl) ?_
      refine zk_iret rfl dX4_two_32 ?_
      exact ⟨rfl, zs_same.rf⟩
    · have hb := zs_if1 h19
      refine zk_iload_n dX4_two_22 rfl ?_
      refine zk_iload_n dX4_two_23 rfl ?_
      refine zk_icmp_ne (tgt := 33) dX4_two_24 (by decide) (fun h24 => ?_) (fun h24 => ?_)
      · exact absurd ⟨ha, hb, h24⟩ hn
      · refine zk_aload_n dX4_two_27 rfl ?_
        refine zk_iconst dX4_two_28 zc_m1 ?_
        refine zk_cVi (qrf1) dX4_two_29 mwX4_refuse ml_X4_63 (by decide : 0 < zc.1) rfl rfl (by decide) rfl (Nat.le_of_ble_eq_true rfl) ?_
        refine zk_iret rfl dX4_two_32 ?_
        exact ⟨rfl, zs_same.rf⟩
set_option maxRecDepth 100000 in
set_option maxHeartbeats 4000000 in
theorem qX4_two_r4 {l : Launch} {M : zk_M} {L : zk_L} {n : Nat} (hI : zs_I M n) {p q : Nat} (hp : p < n) (hq : q < n) (hpq : ¬ p = q) {t : Int32} (ht : t < 0) : zk_C l zc 6 muX4_two [.ref 0, .int (nI p), .int (nI q), .int t] M L (zq_i (-4) (zs_ref M 4)) := by
  refine zk_ofR (ls := [some (.ref 0), some (.int (nI p)), some (.int (nI q)), some (.int t), none, none, none, none, none]) (by decide) rfl (Nat.le_of_ble_eq_true rfl) rfl ?_
  have hn6 := hI.1
  have hp6 : p < 6 := Nat.lt_of_lt_of_le hp hI.1
  have hq6 : q < 6 := Nat.lt_of_lt_of_le hq hI.1
  refine zk_aload_n dX4_two_0 rfl ?_
  refine zk_getRc (q := 1) dX4_two_1 fl_X4_12 (by decide : 0 < zc.1) rfl rfl rfl ?_
  refine zk_iload_n dX4_two_4 rfl ?_
  refine zk_cVi (q1_hasRider_t hI hp) dX4_two_5 mwX0_hasRider ml_X4_85 (by decide : 1 < zc.1) rfl rfl (by decide) rfl (Nat.le_of_ble_eq_true rfl) ?_
  refine zk_if_eq (tgt := 27) dX4_two_8 (by decide) (fun h8 => absurd h8 (by decide)) (fun _ => ?_)
  refine zk_aload_n dX4_two_11 rfl ?_
  refine zk_getRc (q := 1) dX4_two_12 fl_X4_12 (by decide : 0 < zc.1) rfl rfl rfl ?_
  refine zk_iload_n dX4_two_15 rfl ?_
  refine zk_cVi (q1_hasRider_t hI hq) dX4_two_16 mwX0_hasRider ml_X4_85 (by decide : 1 < zc.1) rfl rfl (by decide) rfl (Nat.le_of_ble_eq_true rfl) ?_
  refine zk_if_eq (tgt := 27) dX4_two_19 (by decide) (fun h19 => absurd h19 (by decide)) (fun _ => ?_)
  refine zk_iload_n dX4_two_22 rfl ?_
  refine zk_iload_n dX4_two_23 rfl ?_
  refine zk_icmp_ne (tgt := 33) dX4_two_24 (by decide) (fun _ => ?_) (fun h24 => absurd h24 (fun e => hpq (zs_nI_inj (by omega) (by omega) e)))
  refine zk_iload_n dX4_two_33 rfl ?_
  refine zk_iconst dX4_two_34 zc_0 ?_
  refine zk_bipush dX4_two_35 zb_30 ?_
  refine zk_cSi (qX4_refusalOfNumber) dX4_two_37 miX4_refusalOfNumber ml_X4_163 stX4_refusalOfNumber rfl (by decide) rfl (Nat.le_of_ble_eq_true rfl) ?_
  rw [if_pos ht]
  refine zk_istore dX4_two_40 zk_S_4 ?_
  refine zk_iload dX4_two_42 rfl ?_
  refine zk_if_eq (tgt := 54) dX4_two_44 (by decide) (fun h44 => absurd h44 (by decide)) (fun _ => ?_)
  refine zk_aload_n dX4_two_47 rfl ?_
  refine zk_iload dX4_two_48 rfl ?_
  refine zk_cVi (qrf4) dX4_two_50 mwX4_refuse ml_X4_63 (by decide : 0 < zc.1) rfl rfl (by decide) rfl (Nat.le_of_ble_eq_true rfl) ?_
  refine zk_iret rfl dX4_two_53 ?_
  exact ⟨rfl, zs_same.rf⟩
set_option maxRecDepth 100000 in
set_option maxHeartbeats 4000000 in
theorem qX4_two_r6 {l : Launch} {M : zk_M} {L : zk_L} {n : Nat} (hI : zs_I M n) {p q : Nat} (hp : p < n) (hq : q < n) (hpq : ¬ p = q) {t : Int32} (ht : ¬ t < 0) (h6 : 30 < t) : zk_C l zc 6 muX4_two [.ref 0, .int (nI p), .int (nI q), .int t] M L (zq_i (-6) (zs_ref M 6)) := by
  refine zk_ofR (ls := [some (.ref 0), some (.int (nI p)), some (.int (nI q)), some (.int t), none, none, none, none, none]) (by decide) rfl (Nat.le_of_ble_eq_true rfl) rfl ?_
  have hn6 := hI.1
  have hp6 : p < 6 := Nat.lt_of_lt_of_le hp hI.1
  have hq6 : q < 6 := Nat.lt_of_lt_of_le hq hI.1
  refine zk_aload_n dX4_two_0 rfl ?_
  refine zk_getRc (q := 1) dX4_two_1 fl_X4_12 (by decide : 0 < zc.1) rfl rfl rfl ?_
  refine zk_iload_n dX4_two_4 rfl ?_
  refine zk_cVi (q1_hasRider_t hI hp) dX4_two_5 mwX0_hasRider ml_X4_85 (by decide : 1 < zc.1) rfl rfl (by decide) rfl (Nat.le_of_ble_eq_true rfl) ?_
  refine zk_if_eq (tgt := 27) dX4_two_8 (by decide) (fun h8 => absurd h8 (by decide)) (fun _ => ?_)
  refine zk_aload_n dX4_two_11 rfl ?_
  refine zk_getRc (q := 1) dX4_two_12 fl_X4_12 (by decide : 0 < zc.1) rfl rfl rfl ?_
  refine zk_iload_n dX4_two_15 rfl ?_
  refine zk_cVi (q1_hasRider_t hI hq) dX4_two_16 mwX0_hasRider ml_X4_85 (by decide : 1 < zc.1) rfl rfl (by decide) rfl (Nat.le_of_ble_eq_true rfl) ?_
  refine zk_if_eq (tgt := 27) dX4_two_19 (by decide) (fun h19 => absurd h19 (by decide)) (fun _ => ?_)
  refine zk_iload_n dX4_two_22 rfl ?_
  refine zk_iload_n dX4_two_23 rfl ?_
  refine zk_icmp_ne (tgt := 33) dX4_two_24 (by decide) (fun _ => ?_) (fun h24 => absurd h24 (fun e => hpq (zs_nI_inj (by omega) (by omega) e)))
  refine zk_iload_n dX4_two_33 rfl ?_
  refine zk_iconst dX4_two_34 zc_0 ?_
  refine zk_bipush dX4_two_35 zb_30 ?_
  refine zk_cSi (qX4_refusalOfNumber) dX4_two_37 miX4_refusalOfNumber ml_X4_163 stX4_refusalOfNumber rfl (by decide) rfl (Nat.le_of_ble_eq_true rfl) ?_
  rw [if_neg ht, if_pos h6]
  refine zk_istore dX4_two_40 zk_S_4 ?_
  refine zk_iload dX4_two_42 rfl ?_
  refine zk_if_eq (tgt := 54) dX4_two_44 (by decide) (fun h44 => absurd h44 (by decide)) (fun _ => ?_)
  refine zk_aload_n dX4_two_47 rfl ?_
  refine zk_iload dX4_two_48 rfl ?_
  refine zk_cVi (qrf6) dX4_two_50 mwX4_refuse ml_X4_63 (by decide : 0 < zc.1) rfl rfl (by decide) rfl (Nat.le_of_ble_eq_true rfl) ?_
  refine zk_iret rfl dX4_two_53 ?_
  exact ⟨rfl, zs_same.rf⟩
set_option maxRecDepth 100000 in
set_option maxHeartbeats 4000000 in
theorem qX4_two_t {l : Launch} {M : zk_M} {L : zk_L} {n : Nat} (hI : zs_I M n) {p q : Nat} (hp : p < n) (hq : q < n) (hpq : ¬ p = q) {t : Nat} (ht : t ≤ 30) : zk_C l zc 6 muX4_two [.ref 0, .int (nI p), .int (nI q), .int (nI t)] M L (zq_i (zs_twoa M t p q 2 0) M) := by
  refine zk_ofR (ls := [some (.ref 0), some (.int (nI p)), some (.int (nI q)), some (.int (nI t)), none, none, none, none, none]) (by decide) rfl (Nat.le_of_ble_eq_true rfl) rfl ?_
  have hn6 := hI.1
  have hp6 : p < 6 := Nat.lt_of_lt_of_le hp hI.1
  have hq6 : q < 6 := Nat.lt_of_lt_of_le hq hI.1
  refine zk_aload_n dX4_two_0 rfl ?_
  refine zk_getRc (q := 1) dX4_two_1 fl_X4_12 (by decide : 0 < zc.1) rfl rfl rfl ?_
  refine zk_iload_n dX4_two_4 rfl ?_
  refine zk_cVi (q1_hasRider_t hI hp) dX4_two_5 mwX0_hasRider ml_X4_85 (by decide : 1 < zc.1) rfl rfl (by decide) rfl (Nat.le_of_ble_eq_true rfl) ?_
  refine zk_if_eq (tgt := 27) dX4_two_8 (by decide) (fun h8 => absurd h8 (by decide)) (fun _ => ?_)
  refine zk_aload_n dX4_two_11 rfl ?_
  refine zk_getRc (q := 1) dX4_two_12 fl_X4_12 (by decide : 0 < zc.1) rfl rfl rfl ?_
  refine zk_iload_n dX4_two_15 rfl ?_
  refine zk_cVi (q1_hasRider_t hI hq) dX4_two_16 mwX0_hasRider ml_X4_85 (by decide : 1 < zc.1) rfl rfl (by decide) rfl (Nat.le_of_ble_eq_true rfl) ?_
  refine zk_if_eq (tgt := 27) dX4_two_19 (by decide) (fun h19 => absurd h19 (by decide)) (fun _ => ?_)
  refine zk_iload_n dX4_two_22 rfl ?_
  refine zk_iload_n dX4_two_23 rfl ?_
  refine zk_icmp_ne (tgt := 33) dX4_two_24 (by decide) (fun _ => ?_) (fun h24 => absurd h24 (fun e => hpq (zs_nI_inj (by omega) (by omega) e)))
  refine zk_iload_n dX4_two_33 rfl ?_
  refine zk_iconst dX4_two_34 zc_0 ?_
  refine zk_bipush dX4_two_35 zb_30 ?_
  refine zk_cSi (qX4_refusalOfNumber) dX4_two_37 miX4_refusalOfNumber ml_X4_163 stX4_refusalOfNumber rfl (by decide) rfl (Nat.le_of_ble_eq_true rfl) ?_
  rw [if_neg (nI_pos (by omega)), if_neg (show ¬ (30 : Int32) < nI t from nI_nlt (a := 30) ht (by decide))]
  refine zk_istore dX4_two_40 zk_S_4 ?_
  refine zk_iload dX4_two_42 rfl ?_
  refine zk_if_eq (tgt := 54) dX4_two_44 (by decide) (fun _ => ?_) (fun h44 => absurd (rfl) h44)
  refine zk_iconst dX4_two_54 zc_0 ?_
  refine zk_istore dX4_two_55 zk_S_5 ?_
  refine zk_forget (ls' := [some (.ref 0), some (.int (nI p)), some (.int (nI q)), some (.int (nI t)), none, some (.int (nI 0)), none, none, none]) ⟨Or.inr rfl, Or.inr rfl, Or.inr rfl, Or.inr rfl, Or.inl rfl, Or.inr rfl, Or.inl rfl, Or.inl rfl, Or.inl rfl, trivial⟩ (lX4_two2 hI hp hq (by omega) 2 0 M L rfl zs_same.rf rfl)
