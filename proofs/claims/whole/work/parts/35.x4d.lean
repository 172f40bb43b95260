set_option maxRecDepth 100000 in
set_option maxHeartbeats 4000000 in
theorem qX4_wish_t {l : Launch} {M : zk_M} {L : zk_L} {n : Nat} (hI : zs_I M n) {p : Nat} (hp : p < n) {x : Int32} (hx : zs_p x) : zk_C l zc 6 muX4_wish [.ref 0, .int (nI p), .int x] M L (zq_i (zs_for (zs_wis M x p) 8 0 (-9, zs_cm M p x)).1 M) := by
  refine zk_ofR (ls := [some (.ref 0), some (.int (nI p)), some (.int x), none, none, none, none]) (by decide) rfl (Nat.le_of_ble_eq_true rfl) rfl ?_
  refine zk_aload_n dX4_wish_0 rfl ?_
  refine zk_getRc (q := 1) dX4_wish_1 fl_X4_12 (by decide : 0 < zc.1) rfl rfl rfl ?_
  refine zk_iload_n dX4_wish_4 rfl ?_
  refine zk_cVi (q1_hasRider_t hI hp) dX4_wish_5 mwX0_hasRider ml_X4_85 (by decide : 1 < zc.1) rfl rfl (by decide) rfl (Nat.le_of_ble_eq_true rfl) ?_
  refine zk_if_eq (tgt := 18) dX4_wish_8 (by decide) (fun h8 => absurd h8 (by decide)) (fun _ => ?_)
  refine zk_iload_n dX4_wish_11 rfl ?_
  refine zk_cSi (qX4_isPlace_t hx) dX4_wish_12 miX4_isPlace ml_X4_119 stX4_isPlace rfl (by decide) rfl (Nat.le_of_ble_eq_true rfl) ?_
  refine zk_if_ne (tgt := 24) dX4_wish_15 (by decide) (fun _ => ?_) (fun h15 => absurd h15 (by decide))
  refine zk_bipush dX4_wish_24 zb_m9 ?_
  refine zk_istore_n dX4_wish_26 zk_S_3 ?_
  refine zk_aload_n dX4_wish_27 rfl ?_
  refine zk_iload_n dX4_wish_28 rfl ?_
  refine zk_iload_n dX4_wish_29 rfl ?_
  refine zk_cVqi (qX4_comesNow hI zs_same.rf hp) dX4_wish_30 mwX4_comesNow ml_X4_175 (by decide : 0 < zc.1) rfl rfl (by decide) rfl (Nat.le_of_ble_eq_true rfl) (fun M1 L1 hs1 => ?_)
  refine zk_istore dX4_wish_33 zk_S_4 ?_
  refine zk_iconst dX4_wish_35 zc_0 ?_
  refine zk_istore dX4_wish_36 zk_S_5 ?_
  refine lX4_wish hI hp (pl := x) (x := 0) 8 0 (-9) (zs_cm M p x) M1 L1 rfl hs1 (fun M' L' h' => ?_)
  refine zk_iload_n dX4_wish_96 rfl ?_
  refine zk_iret rfl dX4_wish_97 ?_
  exact ⟨rfl, h'⟩
def zs_rdd (M : zk_M) (pl : Int32) (p a b : Nat) : Int32 := if zs_j (M 3) (nI a) (nI b) then 61 else zs_cmc M p pl (nI a) (nI b)
def zs_rdf (M : zk_M) (pl : Int32) (p a b : Nat) (s : Int32 × Int32) : Int32 × Int32 := if zs_rdd M pl p a b < s.2 then (10 * nI a + nI b, zs_rdd M pl p a b) else s
def zs_rda (M : zk_M) (pl : Int32) (p a : Nat) (s : Int32 × Int32) : Int32 × Int32 := zs_for (zs_rdf M pl p a) (7 - a) (a + 1) s
theorem zs_nIne {a b : Nat} (ha : a < 8) (hb : b < 8) (h : a < b) : ¬ nI a = nI b := fun e => by have := zs_nI_inj (by omega) (by omega) e; omega
set_option maxRecDepth 100000 in
set_option maxHeartbeats 4000000 in
theorem lX4_road1 {l : Launch} {M0 : zk_M} {n : Nat} (hI : zs_I M0 n) {p : Nat} (hp : p < n) {pl : Int32} {a : Nat} (ha : a < 8) {Q : Option Value → zk_M → zk_L → Prop} : ∀ (m b : Nat) (x s : Int32) (M : zk_M) (L : zk_L), a < b ∧ b + m = 8 → zs_same M0 M → (∀ M' L', zs_same M0 M' → zk_R l zc 6 muX4_road 118 [some (.ref 0), some (.int (nI p)), some (.int pl), some (.int (zs_for (zs_rdf M0 pl p a) m b (x, s)).1), some (.int (zs_for (zs_rdf M0 pl p a) m b (x, s)).2), some (.int (nI a)), none, none] [] M' L' Q) → zk_R l zc 6 muX4_road 51 [some (.ref 0), some (.int (nI p)), some (.int pl), some (.int x), some (.int s), some (.int (nI a)), some (.int (nI b)), none] [] M L Q := by
  intro m
  induction m with
  | zero =>
    intro b x s M L hb hs k
    obtain rfl : b = 8 := by omega
    refine zk_iload dX4_road_51 rfl ?_
    refine zk_bipush (v := 8) dX4_road_53 (by decide) ?_
    refine zk_icmp_ge (tgt := 118) dX4_road_55 (by decide) (fun _ => ?_) (fun q => absurd (by decide) q)
    refine zk_forget ?_ (k M L hs)
    exact ⟨Or.inr rfl, Or.inr rfl, Or.inr rfl, Or.inr rfl, Or.inr rfl, Or.inr rfl, Or.inl rfl, Or.inl rfl, trivial⟩
  | succ m ih =>
    intro b x s M L hb hs k
    have hb8 : b < 8 := by omega
    have hab : a < b := hb.1
    have J : ∀ (y : Int32) (MX : zk_M) (LX : zk_L), zs_same M0 MX → y = zs_rdd M0 pl p a b → zk_R l zc 6 muX4_road 90 [some (.ref 0), some (.int (nI p)), some (.int pl), some (.int x), some (.int s), some (.int (nI a)), some (.int (nI b)), none] [.int y] MX LX Q := by
      intro y MX LX hsX ey
      subst ey
      refine zk_istore dX4_road_90 zk_S_7 ?_
      refine zk_iload dX4_road_92 rfl ?_
      refine zk_iload dX4_road_94 rfl ?_
      refine zk_icmp_ge (tgt := 112) dX4_road_96 (by decide) (fun h96 => ?_) (fun h96 => ?_)
      · refine zk_iinc dX4_road_112 zc_1 rfl zk_S_6 ?_
        refine zk_goto (tgt := 51) dX4_road_115 (by decide) ?_
        rw [← nI_succ]
        first
          | exact zk_forget (ls' := [some (.ref 0), some (.int (nI p)), some (.int pl), some (.int (10 * nI a + nI b)), some (.int (zs_rdd M0 pl p a b)), some (.int (nI a)), some (.int (nI (b + 1))), none]) ⟨Or.inr rfl, Or.inr rfl, Or.inr rfl, Or.inr rfl, Or.inr rfl, Or.inr rfl, Or.inr rfl, Or.inl rfl, trivial⟩ (ih (b + 1) (10 * nI a + nI b) (zs_rdd M0 pl p a b) MX LX (by omega) hsX (fun M' L' h' => by
              have e : zs_rdf M0 pl p a b (x, s) = (10 * nI a + nI b, zs_rdd M0 pl p a b) := if_pos (Int32.not_le.mp h96)
              have := k M' L' h'
              rw [zs_for, e] at this
              exact this))
          | exact zk_forget (ls' := [some (.ref 0), some (.int (nI p)), some (.int pl), some (.int x), some (.int s), some (.int (nI a)), some (.int (nI (b + 1))), none]) ⟨Or.inr rfl, Or.inr rfl, Or.inr rfl, Or.inr rfl, Or.inr rfl, Or.inr rfl, Or.inr rfl, Or.inl rfl, trivial⟩ (ih (b + 1) x s MX LX (by omega) hsX (fun M' L' h' => by
              have e : zs_rdf M0 pl p a b (x, s) = (x, s) := if_neg (Int32.not_lt.mpr h96)
              have := k M' L' h'
              rw [zs_for, e] at this
              exact this))
      · refine zk_iload dX4_road_99 rfl ?_
        refine zk_istore dX4_road_101 zk_S_4 ?_
        refine zk_bipush dX4_road_103 zb_10 ?_
        refine zk_iload dX4_road_105 rfl ?_
        refine zk_imul dX4_road_107 ?_
        refine zk_iload dX4_road_108 rfl ?_
        refine zk_iadd dX4_road_110 ?_
        refine zk_istore_n dX4_road_111 zk_S_3 ?_
        refine zk_iinc dX4_road_112 zc_1 rfl zk_S_6 ?_
        refine zk_goto (tgt := 51) dX4_road_115 (by decide) ?_
        rw [← nI_succ]
        first
          | exact zk_forget (ls' := [some (.ref 0), some (.int (nI p)), some (.int pl), some (.int (10 * nI a + nI b)), some (.int (zs_rdd M0 pl p a b)), some (.int (nI a)), some (.int (nI (b + 1))), none]) ⟨Or.inr rfl, Or.inr rfl, Or.inr rfl, Or.inr rfl, Or.inr rfl, Or.inr rfl, Or.inr rfl, Or.inl rfl, trivial⟩ (ih (b + 1) (10 * nI a + nI b) (zs_rdd M0 pl p a b) MX LX (by omega) hsX (fun M' L' h' => by
              have e : zs_rdf M0 pl p a b (x, s) = (10 * nI a + nI b, zs_rdd M0 pl p a b) := if_pos (Int32.not_le.mp h96)
              have := k M' L' h'
              rw [zs_for, e] at this
              exact this))
          | exact zk_forget (ls' := [some (.ref 0), some (.int (nI p)), some (.int pl), some (.int x), some (.int s), some (.int (nI a)), some (.int (nI (b + 1))), none]) ⟨Or.inr rfl, Or.inr rfl, Or.inr rfl, Or.inr rfl, Or.inr rfl, Or.inr rfl, Or.inr rfl, Or.inl rfl, trivial⟩ (ih (b + 1) x s MX LX (by omega) hsX (fun M' L' h' => by
              have e : zs_rdf M0 pl p a b (x, s) = (x, s) := if_neg (Int32.not_lt.mpr h96)
              have := k M' L' h'
              rw [zs_for, e] at this
              exact this))
    refine zk_iload dX4_road_51 rfl ?_
    refine zk_bipush dX4_road_53 zb_8 ?_
    refine zk_icmp_ge (tgt := 118) dX4_road_55 (by decide) (fun h55 => absurd h55 (nI_ge (b := 8) hb8 (by decide))) (fun _ => ?_)
    refine zk_aload_n dX4_road_58 rfl ?_
    refine zk_getRc (q := 1) dX4_road_59 fl_X4_12 (by decide : 0 < zc.1) rfl rfl rfl ?_
    refine zk_getRc (q := 2) dX4_road_62 fl_X4_122 (by decide : 1 < zc.1) rfl rfl rfl ?_
    refine zk_iload dX4_road_65 rfl ?_
    refine zk_iload dX4_road_67 rfl ?_
    refine zk_cVi (q2_joins (zs_p_nI ha) (zs_p_nI hb8)) dX4_road_69 mwX2_joins ml_X4_137 (by decide : 2 < zc.1) rfl rfl (by decide) rfl (Nat.le_of_ble_eq_true rfl) ?_
    rw [hs 3 (by decide) (by decide)]
    refine zk_if_eq (tgt := 80) dX4_road_72 (by decide) (fun h72 => ?_) (fun h72 => ?_)
    · have hj := zs_if0 h72
      refine zk_aload_n dX4_road_80 rfl ?_
      refine zk_iload_n dX4_road_81 rfl ?_
      refine zk_iload_n dX4_road_82 rfl ?_
      refine zk_iload dX4_road_83 rfl ?_
      refine zk_iload dX4_road_85 rfl ?_
      refine zk_cVqi (qX4_comesWithChange hI hs hp (zs_p_nI ha) (zs_p_nI hb8) (zs_nIne ha hb8 hab)) dX4_road_87 mwX4_comesWithChange ml_X4_200 (by decide : 0 < zc.1) rfl rfl (by decide) rfl (Nat.le_of_ble_eq_true rfl) (fun M1 L1 hs1 => ?_)
      first | exact J _ M1 L1 hs1 (if_neg hj).symm | exact J _ M L hs (if_pos hj).symm
    · have hj := zs_if1 h72
      refine zk_bipush dX4_road_75 zb_61 ?_
      refine zk_goto (tgt := 90) dX4_road_77 (by decide) ?_
      first | exact J _ M1 L1 hs1 (if_neg hj).symm | exact J _ M L hs (if_pos hj).symm
set_option maxRecDepth 100000 in
set_option maxHeartbeats 4000000 in
theorem lX4_road2 {l : Launch} {M0 : zk_M} {n : Nat} (hI : zs_I M0 n) {p : Nat} (hp : p < n) {pl : Int32} {Q : Option Value → zk_M → zk_L → Prop} : ∀ (m a : Nat) (x s : Int32) (M : zk_M) (L : zk_L), a + m = 8 → zs_same M0 M → (∀ M' L', zs_same M0 M' → zk_R l zc 6 muX4_road 124 [some (.ref 0), some (.int (nI p)), some (.int pl), some (.int (zs_for (zs_rda M0 pl p) m a (x, s)).1), none, none, none, none] [] M' L' Q) → zk_R l zc 6 muX4_road 38 [some (.ref 0), some (.int (nI p)), some (.int pl), some (.int x), some (.int s), some (.int (nI a)), none, none] [] M L Q := by
  intro m
  induction m with
  | zero =>
    intro a x s M L hb hs k
    obtain rfl : a = 8 := by omega
    refine zk_iload dX4_road_38 rfl ?_
    refine zk_bipush (v := 8) dX4_road_40 (by decide) ?_
    refine zk_icmp_ge (tgt := 124) dX4_road_42 (by decide) (fun _ => ?_) (fun q => absurd (by decide) q)
    refine zk_forget ?_ (k M L hs)
    exact ⟨Or.inr rfl, Or.inr rfl, Or.inr rfl, Or.inr rfl, Or.inl rfl, Or.inl rfl, Or.inl rfl, Or.inl rfl, trivial⟩
  | succ m ih =>
    intro a x s M L hb hs k
    have ha : a < 8 := by omega
    refine zk_iload dX4_road_38 rfl ?_
    refine zk_bipush dX4_road_40 zb_8 ?_
    refine zk_icmp_ge (tgt := 124) dX4_road_42 (by decide) (fun h42 => absurd h42 (nI_ge (b := 8) ha (by decide))) (fun _ => ?_)
    refine zk_iload dX4_road_45 rfl ?_
    refine zk_iconst dX4_road_47 zc_1 ?_
    refine zk_iadd dX4_road_48 ?_
    refine zk_istore dX4_road_49 zk_S_6 ?_
    rw [← nI_succ]
    refine zk_forget (ls' := [some (.ref 0), some (.int (nI p)), some (.int pl), some (.int x), some (.int s), some (.int (nI a)), some (.int (nI (a + 1))), none]) ⟨Or.inr rfl, Or.inr rfl, Or.inr rfl, Or.inr rfl, Or.inr rfl, Or.inr rfl, Or.inr rfl, Or.inl rfl, trivial⟩ (lX4_road1 hI hp ha (7 - a) (a + 1) x s M L (by omega) hs (fun M1 L1 hs1 => ?_))
    refine zk_iinc dX4_road_118 zc_1 rfl zk_S_5 ?_
    refine zk_goto (tgt := 38) dX4_road_121 (by decide) ?_
    rw [← nI_succ]
    exact ih (a + 1) _ _ M1 L1 (by omega) hs1 k
set_option maxRecDepth 100000 in
set_option maxHeartbeats 4000000 in
theorem qX4_road_r {l : Launch} {M : zk_M} {L : zk_L} {n : Nat} (hI : zs_I M n) {r x : Int32} (hn : ¬ (zs_isr (M 1 2) r ∧ zs_p x)) : zk_C l zc 6 muX4_road [.ref 0, .int r, .int x] M L (zq_i (-1) (zs_ref M 1)) := by
  refine zk_ofR (ls := [some (.ref 0), some (.int r), some (.int x), none, none, none, none, none]) (by decide) rfl (Nat.le_of_ble_eq_true rfl) rfl ?_
  refine zk_aload_n dX4_road_0 rfl ?_
  refine zk_getRc (q := 1) dX4_road_1 fl_X4_12 (by decide : 0 < zc.1) rfl rfl rfl ?_
  refine zk_iload_n dX4_road_4 rfl ?_
  refine zk_cVi (q1_hasRider hI) dX4_road_5 mwX0_hasRider ml_X4_85 (by decide : 1 < zc.1) rfl rfl (by decide) rfl (Nat.le_of_ble_eq_true rfl) ?_
  refine zk_if_eq (tgt := 18) dX4_road_8 (by decide) (fun h8 => ?_) (fun h8 => ?_)
  · have hr := zs_if0 h8
    refine zk_aload_n dX4_road_18 rfl ?_
    refine zk_iconst dX4_road_19 zc_m1 ?_
    refine zk_cVi (qrf1) dX4_road_20 mwX4_refuse ml_X4_63 (by decide : 0 < zc.1) rfl rfl (by decide) rfl (Nat.le_of_ble_eq_true rfl) ?_
    refine zk_iret rfl dX4_road_23 ?_
    exact ⟨rfl, zs_same.rf⟩
  · have hr := zs_if1 h8
    refine zk_iload_n dX4_road_11 rfl ?_
    refine zk_cSi (qX4_isPlace) dX4_road_12 miX4_isPlace ml_X4_119 stX4_isPlace rfl (by decide) rfl (Nat.le_of_ble_eq_true rfl) ?_
    refine zk_if_ne (tgt := 24) dX4_road_15 (by decide) (fun h15 => ?_) (fun h15 => ?_)
    · have hx := zs_if1 h15
      exact absurd ⟨hr, hx⟩ hn
    · have hx := zs_if0 h15
      refine zk_aload_n dX4_road_18 rfl ?_
      refine zk_iconst dX4_road_19 zc_m1 ?_
      refine zk_cVi (qrf1) dX4_road_20 mwX4_refuse ml_X4_63 (by decide : 0 < zc.1) rfl rfl (by decide) rfl (Nat.le_of_ble_eq_true rfl) ?_
      refine zk_iret rfl dX4_road_23 ?_
      exact ⟨rfl, zs_same.rf⟩
set_option maxRecDepth 100000 in
set_option maxHeartbeats 4000000 in
theorem qX4_road_t {l : Launch} {M : zk_M} {L : zk_L} {n : Nat} (hI : zs_I M n) {p : Nat} (hp : p < n) {x : Int32} (hx : zs_p x) : zk_C l zc 6 muX4_road [.ref 0, .int (nI p), .int x] M L (zq_i (zs_for (zs_rda M x p) 8 0 (-9, zs_cm M p x)).1 M) := by
  refine zk_ofR (ls := [some (.ref 0), some (.int (nI p)), some (.int x), none, none, none, none, none]) (by decide) rfl (Nat.le_of_ble_eq_true rfl) rfl ?_
  refine zk_aload_n dX4_road_0 rfl ?_
  refine zk_getRc (q := 1) dX4_road_1 fl_X4_12 (by decide : 0 < zc.1) rfl rfl rfl ?_
  refine zk_iload_n dX4_road_4 rfl ?_
  refine zk_cVi (q1_hasRider_t hI hp) dX4_road_5 mwX0_hasRider ml_X4_85 (by decide : 1 < zc.1) rfl rfl (by decide) rfl (Nat.le_of_ble_eq_true rfl) ?_
  refine zk_if_eq (tgt := 18) dX4_road_8 (by decide) (fun h8 => absurd h8 (by decide)) (fun _ => ?_)
  refine zk_iload_n dX4_road_11 rfl ?_
  refine zk_cSi (qX4_isPlace_t hx) dX4_road_12 miX4_isPlace ml_X4_119 stX4_isPlace rfl (by decide) rfl (Nat.le_of_ble_eq_true rfl) ?_
  refine zk_if_ne (tgt := 24) dX4_road_15 (by decide) (fun _ => ?_) (fun h15 => absurd h15 (by decide))
  refine zk_bipush dX4_road_24 zb_m9 ?_
  refine zk_istore_n dX4_road_26 zk_S_3 ?_
  refine zk_aload_n dX4_road_27 rfl ?_
  refine zk_iload_n dX4_road_28 rfl ?_
  refine zk_iload_n dX4_road_29 rfl ?_
  refine zk_cVqi (qX4_comesNow hI zs_same.rf hp) dX4_road_30 mwX4_comesNow ml_X4_175 (by decide : 0 < zc.1) rfl rfl (by decide) rfl (Nat.le_of_ble_eq_true rfl) (fun M1 L1 hs1 => ?_)
  refine zk_istore dX4_road_33 zk_S_4 ?_
  refine zk_iconst dX4_road_35 zc_0 ?_
  refine zk_istore dX4_road_36 zk_S_5 ?_
  refine lX4_road2 hI hp 8 0 (-9) (zs_cm M p x) M1 L1 rfl hs1 (fun M' L' h' => ?_)
  refine zk_iload_n dX4_road_124 rfl ?_
  refine zk_iret rfl dX4_road_125 ?_
  exact ⟨rfl, h'⟩
def zs_cutb (M : zk_M) (pl : Int32) (p a : Nat) : Nat → Nat → Option Int32
  | 0, _ => none
  | m + 1, b => if zs_j (M 3) (nI a) (nI b) ∧ zs_cmc M p pl (nI a) (nI b) = 61 then some (10 * nI a + nI b) else zs_cutb M pl p a m (b + 1)
def zs_cuta (M : zk_M) (pl : Int32) (p : Nat) : Nat → Nat → Int32
  | 0, _ => -9
  | m + 1, a => (zs_cutb M pl p a (7 - a) (a + 1)).getD (zs_cuta M pl p m (a + 1))
set_option maxRecDepth 100000 in
set_option maxHeartbeats 4000000 in
theorem lX4_cut1 {l : Launch} {M0 : zk_M} {n : Nat} (hI : zs_I M0 n) {p : Nat} (hp : p < n) {pl w : Int32} {a : Nat} (ha : a < 8) : ∀ (m b : Nat) (M : zk_M) (L : zk_L), a < b ∧ b + m = 8 → zs_same M0 M → (∀ v, zs_cutb M0 pl p a m b = some v → w = v) → (zs_cutb M0 pl p a m b = none → ∀ M' L', zs_same M0 M' → zk_R l zc 6 muX4_cut 102 [some (.ref 0), some (.int (nI p)), some (.int pl), some (.int (nI a)), none] [] M' L' (zq_i w M0)) → zk_R l zc 6 muX4_cut 51 [some (.ref 0), some (.int (nI p)), some (.int pl), some (.int (nI a)), some (.int (nI b))] [] M L (zq_i w M0) := by
  intro m
  induction m with
  | zero =>
    intro b M L hb hs hv k
    obtain rfl : b = 8 := by omega
    refine zk_iload dX4_cut_51 rfl ?_
    refine zk_bipush (v := 8) dX4_cut_53 (by decide) ?_
    refine zk_icmp_ge (tgt := 102) dX4_cut_55 (by decide) (fun _ => ?_) (fun q => absurd (by decide) q)
    refine zk_forget ?_ (k rfl M L hs)
    exact ⟨Or.inr rfl, Or.inr rfl, Or.inr rfl, Or.inr rfl, Or.inl rfl, trivial⟩
  | succ m ih =>
    intro b M L hb hs hv k
    have hb8 : b < 8 := by omega
    have hab : a < b := hb.1
    refine zk_iload dX4_cut_51 rfl ?_
    refine zk_bipush dX4_cut_53 zb_8 ?_
    refine zk_icmp_ge (tgt := 102) dX4_cut_55 (by decide) (fun h55 => absurd h55 (nI_ge (b := 8) hb8 (by decide))) (fun _ => ?_)
    refine zk_aload_n dX4_cut_58 rfl ?_
    refine zk_getRc (q := 1) dX4_cut_59 fl_X4_12 (by decide : 0 < zc.1) rfl rfl rfl ?_
    refine zk_getRc (q := 2) dX4_cut_62 fl_X4_122 (by decide : 1 < zc.1) rfl rfl rfl ?_
    refine zk_iload_n dX4_cut_65 rfl ?_
    refine zk_iload dX4_cut_66 rfl ?_
    refine zk_cVi (q2_joins (zs_p_nI ha) (zs_p_nI hb8)) dX4_cut_68 mwX2_joins ml_X4_137 (by decide : 2 < zc.1) rfl rfl (by decide) rfl (Nat.le_of_ble_eq_true rfl) ?_
    rw [hs 3 (by decide) (by decide)]
    refine zk_if_eq (tgt := 96) dX4_cut_71 (by decide) (fun h71 => ?_) (fun h71 => ?_)
    · have hj := zs_if0 h71
      refine zk_iinc dX4_cut_96 zc_1 rfl zk_S_4 ?_
      refine zk_goto (tgt := 51) dX4_cut_99 (by decide) ?_
      rw [← nI_succ]
      first
        | exact ih (b + 1) M1 L1 (by omega) hs1 (fun v e => hv v (by rw [zs_cutb, if_neg (fun q => h85 q.2)]; exact e)) (fun e => k (by rw [zs_cutb, if_neg (fun q => h85 q.2)]; exact e))
        | exact ih (b + 1) M L (by omega) hs (fun v e => hv v (by rw [zs_cutb, if_neg (fun q => hj q.1)]; exact e)) (fun e => k (by rw [zs_cutb, if_neg (fun q => hj q.1)]; exact e))
    · have hj := zs_if1 h71
      refine zk_aload_n dX4_cut_74 rfl ?_
      refine zk_iload_n dX4_cut_75 rfl ?_
      refine zk_iload_n dX4_cut_76 rfl ?_
      refine zk_iload_n dX4_cut_77 rfl ?_
      refine zk_iload dX4_cut_78 rfl ?_
      refine zk_cVqi (qX4_comesWithChange hI hs hp (zs_p_nI ha) (zs_p_nI hb8) (zs_nIne ha hb8 hab)) dX4_cut_80 mwX4_comesWithChange ml_X4_200 (by decide : 0 < zc.1) rfl rfl (by decide) rfl (Nat.le_of_ble_eq_true rfl) (fun M1 L1 hs1 => ?_)
      refine zk_bipush dX4_cut_83 zb_61 ?_
      refine zk_icmp_ne (tgt := 96) dX4_cut_85 (by decide) (fun h85 => ?_) (fun h85 => ?_)
      · refine zk_iinc dX4_cut_96 zc_1 rfl zk_S_4 ?_
        refine zk_goto (tgt := 51) dX4_cut_99 (by decide) ?_
        rw [← nI_succ]
        first
          | exact ih (b + 1) M1 L1 (by omega) hs1 (fun v e => hv v (by rw [zs_cutb, if_neg (fun q => h85 q.2)]; exact e)) (fun e => k (by rw [zs_cutb, if_neg (fun q => h85 q.2)]; exact e))
          | exact ih (b + 1) M L (by omega) hs (fun v e => hv v (by rw [zs_cutb, if_neg (fun q => hj q.1)]; exact e)) (fun e => k (by rw [zs_cutb, if_neg (fun q => hj q.1)]; exact e))
      · refine zk_bipush dX4_cut_88 zb_10 ?_
        refine zk_iload_n dX4_cut_90 rfl ?_
        refine zk_imul dX4_cut_91 ?_
        refine zk_iload dX4_cut_92 rfl ?_
        refine zk_iadd dX4_cut_94 ?_
        refine zk_iret rfl dX4_cut_95 ?_
        exact ⟨by rw [hv _ (by rw [zs_cutb, if_pos ⟨hj, h85⟩])], hs1⟩
set_option maxRecDepth 100000 in
set_option maxHeartbeats 4000000 in
theorem lX4_cut2 {l : Launch} {M0 : zk_M} {n : Nat} (hI : zs_I M0 n) {p : Nat} (hp : p < n) {pl w : Int32} : ∀ (m a : Nat) (M : zk_M) (L : zk_L), a + m = 8 → zs_same M0 M → w = zs_cuta M0 pl p m a → zk_R l zc 6 muX4_cut 40 [some (.ref 0), some (.int (nI p)), some (.int pl), some (.int (nI a)), none] [] M L (zq_i w M0) := by
  intro m
  induction m with
  | zero =>
    intro a M L hb hs ek
    obtain rfl : a = 8 := by omega
    refine zk_iload_n dX4_cut_40 rfl ?_
    refine zk_bipush (v := 8) dX4_cut_41 (by decide) ?_
    refine zk_icmp_ge (tgt := 108) dX4_cut_43 (by decide) (fun _ => ?_) (fun q => absurd (by decide) q)
    refine zk_bipush (v := -9) dX4_cut_108 (by decide) ?_
    refine zk_iret rfl dX4_cut_110 ?_
    exact ⟨by rw [ek]; rfl, hs⟩
  | succ m ih =>
    intro a M L hb hs ek
    have ha : a < 8 := by omega
    refine zk_iload_n dX4_cut_40 rfl ?_
    refine zk_bipush dX4_cut_41 zb_8 ?_
    refine zk_icmp_ge (tgt := 108) dX4_cut_43 (by decide) (fun h43 => absurd h43 (nI_ge (b := 8) ha (by decide))) (fun _ => ?_)
    refine zk_iload_n dX4_cut_46 rfl ?_
    refine zk_iconst dX4_cut_47 zc_1 ?_
    refine zk_iadd dX4_cut_48 ?_
    refine zk_istore dX4_cut_49 zk_S_4 ?_
    rw [← nI_succ]
    refine lX4_cut1 hI hp ha (7 - a) (a + 1) M L (by omega) hs (fun v e => by rw [ek, zs_cuta, e]; rfl) (fun e M1 L1 hs1 => ?_)
    refine zk_iinc dX4_cut_102 zc_1 rfl zk_S_3 ?_
    refine zk_goto (tgt := 40) dX4_cut_105 (by decide) ?_
    rw [← nI_succ]
    exact ih (a + 1) M1 L1 (by omega) hs1 (by rw [ek, zs_cuta, e]; rfl)
set_option maxRecDepth 100000 in
set_option maxHeartbeats 4000000 in
theorem qX4_cut_r {l : Launch} {M : zk_M} {L : zk_L} {n : Nat} (hI : zs_I M n) {r x : Int32} (hn : ¬ (zs_isr (M 1 2) r ∧ zs_p x)) : zk_C l zc 6 muX4_cut [.ref 0, .int r, .int x] M L (zq_i (-1) (zs_ref M 1)) := by
  refine zk_ofR (ls := [some (.ref 0), some (.int r), some (.int x), none, none]) (by decide) rfl (Nat.le_of_ble_eq_true rfl) rfl ?_
  refine zk_aload_n dX4_cut_0 rfl ?_
  refine zk_getRc (q := 1) dX4_cut_1 fl_X4_12 (by decide : 0 < zc.1) rfl rfl rfl ?_
  refine zk_iload_n dX4_cut_4 rfl ?_
  refine zk_cVi (q1_hasRider hI) dX4_cut_5 mwX0_hasRider ml_X4_85 (by decide : 1 < zc.1) rfl rfl (by decide) rfl (Nat.le_of_ble_eq_true rfl) ?_
  refine zk_if_eq (tgt := 18) dX4_cut_8 (by decide) (fun h8 => ?_) (fun h8 => ?_)
  · have hr := zs_if0 h8
    refine zk_aload_n dX4_cut_18 rfl ?_
    refine zk_iconst dX4_cut_19 zc_m1 ?_
    refine zk_cVi (qrf1) dX4_cut_20 mwX4_refuse ml_X4_63 (by decide : 0 < zc.1) rfl rfl (by decide) rfl (Nat.le_of_ble_eq_true rfl) ?_
    refine zk_iret rfl dX4_cut_23 ?_
    exact ⟨rfl, zs_same.rf⟩
  · have hr := zs_if1 h8
    refine zk_iload_n dX4_cut_11 rfl ?_
    refine zk_cSi (qX4_isPlace) dX4_cut_12 miX4_isPlace ml_X4_119 stX4_isPlace rfl (by decide) rfl (Nat.le_of_ble_eq_true rfl) ?_
    refine zk_if_ne (tgt := 24) dX4_cut_15 (by decide) (fun h15 => ?_) (fun h15 => ?_)
    · have hx := zs_if1 h15
      exact absurd ⟨hr, hx⟩ hn
    · have hx := zs_if0 h15
      refine zk_aload_n dX4_cut_18 rfl ?_
      refine zk_iconst dX4_cut_19 zc_m1 ?_
      refine zk_cVi (qrf1) dX4_cut_20 mwX4_refuse ml_X4_63 (by decide : 0 < zc.1) rfl rfl (by decide) rfl (Nat.le_of_ble_eq_true rfl) ?_
      refine zk_iret rfl dX4_cut_23 ?_
      exact ⟨rfl, zs_same.rf⟩
set_option maxRecDepth 100000 in
set_option maxHeartbeats 4000000 in
theorem qX4_cut_t {l : Launch} {M : zk_M} {L : zk_L} {n : Nat} (hI : zs_I M n) {p : Nat} (hp : p < n) {x : Int32} (hx : zs_p x) : zk_C l zc 6 muX4_cut [.ref 0, .int (nI p), .int x] M L (zq_i (if zs_cm M p x = 61 then -9 else zs_cuta M x p 8 0) M) := by
  refine zk_ofR (ls := [some (.ref 0), some (.int (nI p)), some (.int x), none, none]) (by decide) rfl (Nat.le_of_ble_eq_true rfl) rfl ?_
  refine zk_aload_n dX4_cut_0 rfl ?_
  refine zk_getRc (q := 1) dX4_cut_1 fl_X4_12 (by decide : 0 < zc.1) rfl rfl rfl ?_
  refine zk_iload_n dX4_cut_4 rfl ?_
  refine zk_cVi (q1_hasRider_t hI hp) dX4_cut_5 mwX0_hasRider ml_X4_85 (by decide : 1 < zc.1) rfl rfl (by decide) rfl (Nat.le_of_ble_eq_true rfl) ?_
  refine zk_if_eq (tgt := 18) dX4_cut_8 (by decide) (fun h8 => absurd h8 (by decide)) (fun _ => ?_)
  refine zk_iload_n dX4_cut_11 rfl ?_
  refine zk_cSi (qX4_isPlace_t hx) dX4_cut_12 miX4_isPlace ml_X4_119 stX4_isPlace rfl (by decide) rfl (Nat.le_of_ble_eq_true rfl) ?_
  refine zk_if_ne (tgt := 24) dX4_cut_15 (by decide) (fun _ => ?_) (fun h15 => absurd h15 (by decide))
  refine zk_aload_n dX4_cut_24 rfl ?_
  refine zk_iload_n dX4_cut_25 rfl ?_
  refine zk_iload_n dX4_cut_26 rfl ?_
  refine zk_cVqi (qX4_comesNow hI zs_same.rf hp) dX4_cut_27 mwX4_comesNow ml_X4_175 (by decide : 0 < zc.1) rfl rfl (by decide) rfl (Nat.le_of_ble_eq_true rfl) (fun M1 L1 hs1 => ?_)
  refine zk_bipush dX4_cut_30 zb_61 ?_
  refine zk_icmp_ne (tgt := 38) dX4_cut_32 (by decide) (fun h32 => ?_) (fun h32 => ?_)
  · refine zk_iconst dX4_cut_38 zc_0 ?_
    refine zk_istore_n dX4_cut_39 zk_S_3 ?_
    exact lX4_cut2 hI hp 8 0 M1 L1 rfl hs1 (if_neg h32)
  · refine zk_bipush dX4_cut_35 zb_m9 ?_
    refine zk_iret rfl dX4_cut_37 ?_
    exact ⟨by rw [if_pos h32], hs1⟩
