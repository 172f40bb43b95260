theorem zs_J_trn {a : Nat → Int32} {x y : Int32} : zs_J (zs_trn a x y) = zs_turn (zs_J a) x y := by
  funext i
  simp only [zs_J, zs_trn, zs_turn, va_up, Nat.add_left_cancel_iff]
theorem zs_get_trn {a : Nat → Int32} {x y : Int32} {p : Nat} (hx : zs_p x) (hy : zs_p y) : zs_get (zs_trn a x y) p = zs_get a p := by
  have h1 := zs_p_tn hx
  have h2 := zs_p_tn hy
  funext i
  simp only [zs_get, zs_trn, va_up]
  rw [if_neg (by omega), if_neg (by omega)]
theorem zs_A.trn {a : Nat → Int32} {n : Nat} {x y : Int32} (h : zs_A a n) (hx : zs_p x) (hy : zs_p y) : zs_A (zs_trn a x y) n := by
  refine ⟨h.1, ?_, fun p hp => by rw [zs_get_trn hx hy]; exact h.2.2 p hp⟩
  simp only [zs_trn, va_up]
  rw [if_neg (by omega), if_neg (by omega)]
  exact h.2.1
def zu_cmc (J : Nat → Int32) (pl : Int32) (f : Nat → Int32) (a b : Int32) : Int32 := zu_cm (zs_turn J a b) (zs_FW (zs_turn J a b)) pl f
set_option maxRecDepth 100000 in
set_option maxHeartbeats 4000000 in
theorem qX5_comesTurned {l : Launch} {M : zk_M} {L : zk_L} {M0 : zk_M} {n : Nat} (hA : zs_A (M0 1) n) (hs : zs_sm M0 M) {p : Nat} (hp : p < n) {pl a b : Int32} (ha : zs_p a) (hb : zs_p b) : zk_C l zm 5 muX5_comesTurned [.ref 0, .int (nI p), .int pl, .int a, .int b] M L (zp_i (zu_cmc (zs_J (M0 1)) pl (zs_get (M0 1) p) a b) M0) := by
  refine zk_ofR (ls := [some (.ref 0), some (.int (nI p)), some (.int pl), some (.int a), some (.int b)]) (by decide) rfl (Nat.le_of_ble_eq_true rfl) rfl ?_
  refine zk_aload_n dX5_comesTurned_0 rfl ?_
  refine zk_getRc (q := 1) dX5_comesTurned_1 fl_X5_9 (by decide : 0 < zm.1) rfl rfl rfl ?_
  refine zk_aload_n dX5_comesTurned_4 rfl ?_
  refine zk_getRc (q := 2) dX5_comesTurned_5 fl_X5_13 (by decide : 0 < zm.1) rfl rfl rfl ?_
  refine zk_cSv (qd_copies) dX5_comesTurned_8 miX5_copies ml_X5_127 stX5_copies rfl (by decide) rfl (Nat.le_of_ble_eq_true rfl) ?_
  refine zk_aload_n dX5_comesTurned_11 rfl ?_
  refine zk_getRc (q := 2) dX5_comesTurned_12 fl_X5_13 (by decide : 0 < zm.1) rfl rfl rfl ?_
  refine zk_iload_n dX5_comesTurned_15 rfl ?_
  refine zk_iload dX5_comesTurned_16 rfl ?_
  refine zk_cSv (qX5_turnsRoad zm_a2 ha hb) dX5_comesTurned_18 miX5_turnsRoad ml_X5_111 stX5_turnsRoad rfl (by decide) rfl (Nat.le_of_ble_eq_true rfl) ?_
  refine zk_aload_n dX5_comesTurned_21 rfl ?_
  refine zk_iload_n dX5_comesTurned_22 rfl ?_
  refine zk_iload_n dX5_comesTurned_23 rfl ?_
  refine zk_cVpi (qX5_comesIn hp ((hs.up (by omega)).up (by omega)) (by rw [zk_up_eq, zk_up_eq, hs.1]; exact hA.cp.trn ha hb) (J := zs_turn (zs_J (M0 1)) a b) (F := fun p => zs_get (M0 1) p) (by rw [zk_up_eq, zk_up_eq, hs.1, zs_J_trn]; exact zs_turn_ag zs_J_cp ha hb) (fun p hp => by rw [zk_up_eq, zk_up_eq, hs.1, zs_get_trn ha hb]; exact zs_get_cp (Nat.lt_of_lt_of_le hp hA.1))) dX5_comesTurned_24 mwX5_comesIn ml_X5_152 (by decide : 0 < zm.1) rfl rfl (by decide) rfl (Nat.le_of_ble_eq_true rfl) (fun M1 L1 hs1 => ?_)
  refine zk_cSi (qX5_orNever_c) dX5_comesTurned_27 miX5_orNever ml_X5_161 stX5_orNever rfl (by decide) rfl (Nat.le_of_ble_eq_true rfl) ?_
  refine zk_iret rfl dX5_comesTurned_30 ?_
  exact ⟨rfl, hs1⟩
def zu_rdd (J : Nat → Int32) (pl : Int32) (f : Nat → Int32) (a b : Nat) (s : Int32) : Int32 := if zs_j J (nI a) (nI b) then s else zu_cmc J pl f (nI a) (nI b)
def zu_rdf (J : Nat → Int32) (pl : Int32) (f : Nat → Int32) (a b : Nat) (s : Int32 × Int32) : Int32 × Int32 := if zu_rdd J pl f a b s.2 < s.2 then (10 * nI a + nI b, zu_rdd J pl f a b s.2) else s
def zu_rda (J : Nat → Int32) (pl : Int32) (f : Nat → Int32) (a : Nat) (s : Int32 × Int32) : Int32 × Int32 := zs_for (zu_rdf J pl f a) (7 - a) (a + 1) s
set_option maxRecDepth 100000 in
set_option maxHeartbeats 4000000 in
theorem lX5_road1 {l : Launch} {M0 : zk_M} {n : Nat} (hA : zs_A (M0 1) n) {p : Nat} (hp : p < n) {pl : Int32} {a : Nat} (ha : a < 8) {Q : Option Value → zk_M → zk_L → Prop} : ∀ (m b : Nat) (x s : Int32) (M : zk_M) (L : zk_L), a < b ∧ b + m = 8 → zs_sm M0 M → (∀ M' L', zs_sm M0 M' → zk_R l zm 6 muX5_road 113 [some (.ref 0), some (.int (nI p)), some (.int pl), some (.int (zs_for (zu_rdf (zs_J (M0 1)) pl (zs_get (M0 1) p) a) m b (x, s)).2), some (.int (zs_for (zu_rdf (zs_J (M0 1)) pl (zs_get (M0 1) p) a) m b (x, s)).1), some (.int (nI a)), none, none] [] M' L' Q) → zk_R l zm 6 muX5_road 45 [some (.ref 0), some (.int (nI p)), some (.int pl), some (.int s), some (.int x), some (.int (nI a)), some (.int (nI b)), none] [] M L Q := by
  intro m
  induction m with
  | zero =>
    intro b x s M L hb hs k
    obtain rfl : b = 8 := by omega
    refine zk_iload dX5_road_45 rfl ?_
    refine zk_bipush (v := 8) dX5_road_47 (by decide) ?_
    refine zk_icmp_ge (tgt := 113) dX5_road_49 (by decide) (fun _ => ?_) (fun q => absurd (by decide) q)
    refine zk_forget ?_ (k M L hs)
    exact ⟨Or.inr rfl, Or.inr rfl, Or.inr rfl, Or.inr rfl, Or.inr rfl, Or.inr rfl, Or.inl rfl, Or.inl rfl, trivial⟩
  | succ m ih =>
    intro b x s M L hb hs k
    have hb8 : b < 8 := by omega
    have hab : a < b := hb.1
    have JJ : ∀ (y : Int32) (MX : zk_M) (LX : zk_L), zs_sm M0 MX → y = (zu_rdd (zs_J (M0 1)) pl (zs_get (M0 1) p) a b s) → zk_R l zm 6 muX5_road 83 [some (.ref 0), some (.int (nI p)), some (.int pl), some (.int s), some (.int x), some (.int (nI a)), some (.int (nI b)), none] [.int y] MX LX Q := by
      intro y MX LX hsX ey
      subst ey
      refine zk_istore dX5_road_83 zk_S_7 ?_
      refine zk_iload dX5_road_85 rfl ?_
      refine zk_iload_n dX5_road_87 rfl ?_
      refine zk_icmp_lt (tgt := 94) dX5_road_88 (by decide) (fun h88 => ?_) (fun h88 => ?_)
      · refine zk_bipush dX5_road_94 zb_10 ?_
        refine zk_iload dX5_road_96 rfl ?_
        refine zk_imul dX5_road_98 ?_
        refine zk_iload dX5_road_99 rfl ?_
        refine zk_iadd dX5_road_101 ?_
        refine zk_istore dX5_road_102 zk_S_4 ?_
        refine zk_iload dX5_road_104 rfl ?_
        refine zk_istore_n dX5_road_106 zk_S_3 ?_
        refine zk_iinc dX5_road_107 zc_1 rfl zk_S_6 ?_
        refine zk_goto (tgt := 45) dX5_road_110 (by decide) ?_
        rw [← nI_succ]
        first
          | exact zk_forget (ls' := [some (.ref 0), some (.int (nI p)), some (.int pl), some (.int (zu_rdd (zs_J (M0 1)) pl (zs_get (M0 1) p) a b s)), some (.int (10 * nI a + nI b)), some (.int (nI a)), some (.int (nI (b + 1))), none]) ⟨Or.inr rfl, Or.inr rfl, Or.inr rfl, Or.inr rfl, Or.inr rfl, Or.inr rfl, Or.inr rfl, Or.inl rfl, trivial⟩ (ih (b + 1) (10 * nI a + nI b) (zu_rdd (zs_J (M0 1)) pl (zs_get (M0 1) p) a b s) MX LX (by omega) hsX (fun M' L' h' => by
              have e : (zu_rdf (zs_J (M0 1)) pl (zs_get (M0 1) p) a) b (x, s) = (10 * nI a + nI b, (zu_rdd (zs_J (M0 1)) pl (zs_get (M0 1) p) a b s)) := if_pos h88
              have := k M' L' h'
              rw [zs_for, e] at this
              exact this))
          | exact zk_forget (ls' := [some (.ref 0), some (.int (nI p)), some (.int pl), some (.int s), some (.int x), some (.int (nI a)), some (.int (nI (b + 1))), none]) ⟨Or.inr rfl, Or.inr rfl, Or.inr rfl, Or.inr rfl, Or.inr rfl, Or.inr rfl, Or.inr rfl, Or.inl rfl, trivial⟩ (ih (b + 1) x s MX LX (by omega) hsX (fun M' L' h' => by
              have e : (zu_rdf (zs_J (M0 1)) pl (zs_get (M0 1) p) a) b (x, s) = (x, s) := if_neg h88
              have := k M' L' h'
              rw [zs_for, e] at this
              exact this))
      · refine zk_goto (tgt := 107) dX5_road_91 (by decide) ?_
        refine zk_iinc dX5_road_107 zc_1 rfl zk_S_6 ?_
        refine zk_goto (tgt := 45) dX5_road_110 (by decide) ?_
        rw [← nI_succ]
        first
          | exact zk_forget (ls' := [some (.ref 0), some (.int (nI p)), some (.int pl), some (.int (zu_rdd (zs_J (M0 1)) pl (zs_get (M0 1) p) a b s)), some (.int (10 * nI a + nI b)), some (.int (nI a)), some (.int (nI (b + 1))), none]) ⟨Or.inr rfl, Or.inr rfl, Or.inr rfl, Or.inr rfl, Or.inr rfl, Or.inr rfl, Or.inr rfl, Or.inl rfl, trivial⟩ (ih (b + 1) (10 * nI a + nI b) (zu_rdd (zs_J (M0 1)) pl (zs_get (M0 1) p) a b s) MX LX (by omega) hsX (fun M' L' h' => by
              have e : (zu_rdf (zs_J (M0 1)) pl (zs_get (M0 1) p) a) b (x, s) = (10 * nI a + nI b, (zu_rdd (zs_J (M0 1)) pl (zs_get (M0 1) p) a b s)) := if_pos h88
              have := k M' L' h'
              rw [zs_for, e] at this
              exact this))
          | exact zk_forget (ls' := [some (.ref 0), some (.int (nI p)), some (.int pl), some (.int s), some (.int x), some (.int (nI a)), some (.int (nI (b + 1))), none]) ⟨Or.inr rfl, Or.inr rfl, Or.inr rfl, Or.inr rfl, Or.inr rfl, Or.inr rfl, Or.inr rfl, Or.inl rfl, trivial⟩ (ih (b + 1) x s MX LX (by omega) hsX (fun M' L' h' => by
              have e : (zu_rdf (zs_J (M0 1)) pl (zs_get (M0 1) p) a) b (x, s) = (x, s) := if_neg h88
              have := k M' L' h'
              rw [zs_for, e] at this
              exact this))
    refine zk_iload dX5_road_45 rfl ?_
    refine zk_bipush dX5_road_47 zb_8 ?_
    refine zk_icmp_ge (tgt := 113) dX5_road_49 (by decide) (fun h49 => absurd h49 (nI_ge (b := 8) hb8 (by decide))) (fun _ => ?_)
    refine zk_aload_n dX5_road_52 rfl ?_
    refine zk_getRc (q := 1) dX5_road_53 fl_X5_9 (by decide : 0 < zm.1) rfl rfl rfl ?_
    refine zk_iconst dX5_road_56 zc_2 ?_
    refine zk_iload dX5_road_57 rfl ?_
    refine zk_iadd dX5_road_59 ?_
    refine zk_iald (j := 2 + (nI a).toNatClampNeg) dX5_road_60 (by decide : 1 < zm.1) rfl (zs_in rfl (zs_2in (zs_p_nI ha))) (zs_2tn (zs_p_nI ha)) ?_
    rw [hs.1]
    refine zk_iload dX5_road_61 rfl ?_
    refine zk_cSi (qX5_has) dX5_road_63 miX5_has ml_X5_50 stX5_has rfl (by decide) rfl (Nat.le_of_ble_eq_true rfl) ?_
    refine zk_if_eq (tgt := 73) dX5_road_66 (by decide) (fun h66 => ?_) (fun h66 => ?_)
    · have hj := zs_if0 h66
      refine zk_aload_n dX5_road_73 rfl ?_
      refine zk_iload_n dX5_road_74 rfl ?_
      refine zk_iload_n dX5_road_75 rfl ?_
      refine zk_iload dX5_road_76 rfl ?_
      refine zk_iload dX5_road_78 rfl ?_
      refine zk_cVpi (qX5_comesTurned hA hs hp (zs_p_nI ha) (zs_p_nI hb8)) dX5_road_80 mwX5_comesTurned ml_X5_167 (by decide : 0 < zm.1) rfl rfl (by decide) rfl (Nat.le_of_ble_eq_true rfl) (fun M1 L1 hs1 => ?_)
      first | exact JJ _ M1 L1 hs1 (if_neg hj).symm | exact JJ _ M L hs (if_pos hj).symm
    · have hj := zs_if1 h66
      refine zk_iload_n dX5_road_69 rfl ?_
      refine zk_goto (tgt := 83) dX5_road_70 (by decide) ?_
      first | exact JJ _ M1 L1 hs1 (if_neg hj).symm | exact JJ _ M L hs (if_pos hj).symm
set_option maxRecDepth 100000 in
set_option maxHeartbeats 4000000 in
theorem lX5_road2 {l : Launch} {M0 : zk_M} {n : Nat} (hA : zs_A (M0 1) n) {p : Nat} (hp : p < n) {pl : Int32} {Q : Option Value → zk_M → zk_L → Prop} : ∀ (m a : Nat) (x s : Int32) (M : zk_M) (L : zk_L), a + m = 8 → zs_sm M0 M → (∀ M' L', zs_sm M0 M' → zk_R l zm 6 muX5_road 119 [some (.ref 0), some (.int (nI p)), some (.int pl), none, some (.int (zs_for (zu_rda (zs_J (M0 1)) pl (zs_get (M0 1) p)) m a (x, s)).1), none, none, none] [] M' L' Q) → zk_R l zm 6 muX5_road 32 [some (.ref 0), some (.int (nI p)), some (.int pl), some (.int s), some (.int x), some (.int (nI a)), none, none] [] M L Q := by
  intro m
  induction m with
  | zero =>
    intro a x s M L hb hs k
    obtain rfl : a = 8 := by omega
    refine zk_iload dX5_road_32 rfl ?_
    refine zk_bipush (v := 8) dX5_road_34 (by decide) ?_
    refine zk_icmp_ge (tgt := 119) dX5_road_36 (by decide) (fun _ => ?_) (fun q => absurd (by decide) q)
    refine zk_forget ?_ (k M L hs)
    exact ⟨Or.inr rfl, Or.inr rfl, Or.inr rfl, Or.inl rfl, Or.inr rfl, Or.inl rfl, Or.inl rfl, Or.inl rfl, trivial⟩
  | succ m ih =>
    intro a x s M L hb hs k
    have ha : a < 8 := by omega
    refine zk_iload dX5_road_32 rfl ?_
    refine zk_bipush dX5_road_34 zb_8 ?_
    refine zk_icmp_ge (tgt := 119) dX5_road_36 (by decide) (fun h36 => absurd h36 (nI_ge (b := 8) ha (by decide))) (fun _ => ?_)
    refine zk_iload dX5_road_39 rfl ?_
    refine zk_iconst dX5_road_41 zc_1 ?_
    refine zk_iadd dX5_road_42 ?_
    refine zk_istore dX5_road_43 zk_S_6 ?_
    rw [← nI_succ]
    refine zk_forget (ls' := [some (.ref 0), some (.int (nI p)), some (.int pl), some (.int s), some (.int x), some (.int (nI a)), some (.int (nI (a + 1))), none]) ⟨Or.inr rfl, Or.inr rfl, Or.inr rfl, Or.inr rfl, Or.inr rfl, Or.inr rfl, Or.inr rfl, Or.inl rfl, trivial⟩ (lX5_road1 hA hp ha (7 - a) (a + 1) x s M L (by omega) hs (fun M1 L1 hs1 => ?_))
    refine zk_iinc dX5_road_113 zc_1 rfl zk_S_5 ?_
    refine zk_goto (tgt := 32) dX5_road_116 (by decide) ?_
    rw [← nI_succ]
    exact ih (a + 1) _ _ M1 L1 (by omega) hs1 k
set_option maxRecDepth 100000 in
set_option maxHeartbeats 4000000 in
theorem qX5_road_r {l : Launch} {M : zk_M} {L : zk_L} {n : Nat} (hA : zs_A (M 1) n) {r x : Int32} (hn : ¬ zs_w2 n r x) : zk_C l zm 6 muX5_road [.ref 0, .int r, .int x] M L (zp_i (-1) (zs_nof M 1)) := by
  refine zk_ofR (ls := [some (.ref 0), some (.int r), some (.int x), none, none, none, none, none]) (by decide) rfl (Nat.le_of_ble_eq_true rfl) rfl ?_
  refine zk_aload_n dX5_road_0 rfl ?_
  refine zk_iload_n dX5_road_1 rfl ?_
  refine zk_iload_n dX5_road_2 rfl ?_
  refine zk_cVi (qX5_areWrong hA.1 hA.2.1) dX5_road_3 mwX5_areWrong ml_X5_155 (by decide : 0 < zm.1) rfl rfl (by decide) rfl (Nat.le_of_ble_eq_true rfl) ?_
  rw [if_pos hn]
  refine zk_if_eq (tgt := 15) dX5_road_6 (by decide) (fun h6 => absurd h6 (by decide)) (fun _ => ?_)
  refine zk_aload_n dX5_road_9 rfl ?_
  refine zk_iconst dX5_road_10 zc_m1 ?_
  refine zk_cVi (qno1) dX5_road_11 mwX5_no ml_X5_42 (by decide : 0 < zm.1) rfl rfl (by decide) rfl (Nat.le_of_ble_eq_true rfl) ?_
  refine zk_iret rfl dX5_road_14 ?_
  exact ⟨rfl, zs_sm.rf⟩
set_option maxRecDepth 100000 in
set_option maxHeartbeats 4000000 in
theorem qX5_cut_r {l : Launch} {M : zk_M} {L : zk_L} {n : Nat} (hA : zs_A (M 1) n) {r x : Int32} (hn : ¬ zs_w2 n r x) : zk_C l zm 6 muX5_cut [.ref 0, .int r, .int x] M L (zp_i (-1) (zs_nof M 1)) := by
  refine zk_ofR (ls := [some (.ref 0), some (.int r), some (.int x), none, none]) (by decide) rfl (Nat.le_of_ble_eq_true rfl) rfl ?_
  refine zk_aload_n dX5_cut_0 rfl ?_
  refine zk_iload_n dX5_cut_1 rfl ?_
  refine zk_iload_n dX5_cut_2 rfl ?_
  refine zk_cVi (qX5_areWrong hA.1 hA.2.1) dX5_cut_3 mwX5_areWrong ml_X5_155 (by decide : 0 < zm.1) rfl rfl (by decide) rfl (Nat.le_of_ble_eq_true rfl) ?_
  rw [if_pos hn]
  refine zk_if_eq (tgt := 15) dX5_cut_6 (by decide) (fun h6 => absurd h6 (by decide)) (fun _ => ?_)
  refine zk_aload_n dX5_cut_9 rfl ?_
  refine zk_iconst dX5_cut_10 zc_m1 ?_
  refine zk_cVi (qno1) dX5_cut_11 mwX5_no ml_X5_42 (by decide : 0 < zm.1) rfl rfl (by decide) rfl (Nat.le_of_ble_eq_true rfl) ?_
  refine zk_iret rfl dX5_cut_14 ?_
  exact ⟨rfl, zs_sm.rf⟩
set_option maxRecDepth 100000 in
set_option maxHeartbeats 4000000 in
theorem qX5_road_t {l : Launch} {M : zk_M} {L : zk_L} {n : Nat} (hA : zs_A (M 1) n) {p : Nat} (hp : p < n) {x : Int32} (hx : zs_p x) : zk_C l zm 6 muX5_road [.ref 0, .int (nI p), .int x] M L (zp_i (zs_for (zu_rda (zs_J (M 1)) x (zs_get (M 1) p)) 8 0 (-9, zu_cm (zs_J (M 1)) (zs_FW (zs_J (M 1))) x (zs_get (M 1) p))).1 M) := by
  refine zk_ofR (ls := [some (.ref 0), some (.int (nI p)), some (.int x), none, none, none, none, none]) (by decide) rfl (Nat.le_of_ble_eq_true rfl) rfl ?_
  refine zk_aload_n dX5_road_0 rfl ?_
  refine zk_iload_n dX5_road_1 rfl ?_
  refine zk_iload_n dX5_road_2 rfl ?_
  refine zk_cVi (qX5_areWrong hA.1 hA.2.1) dX5_road_3 mwX5_areWrong ml_X5_155 (by decide : 0 < zm.1) rfl rfl (by decide) rfl (Nat.le_of_ble_eq_true rfl) ?_
  rw [if_neg (zs_w2_t hp hA.1 hx)]
  refine zk_if_eq (tgt := 15) dX5_road_6 (by decide) (fun _ => ?_) (fun h6 => absurd (rfl) h6)
  refine zk_aload_n dX5_road_15 rfl ?_
  refine zk_iload_n dX5_road_16 rfl ?_
  refine zk_iload_n dX5_road_17 rfl ?_
  refine zk_cVpi (qX5_comesNow hA zs_sm.rf hp) dX5_road_18 mwX5_comesNow ml_X5_158 (by decide : 0 < zm.1) rfl rfl (by decide) rfl (Nat.le_of_ble_eq_true rfl) (fun M1 L1 hs1 => ?_)
  refine zk_cSi (qX5_orNever_c) dX5_road_21 miX5_orNever ml_X5_161 stX5_orNever rfl (by decide) rfl (Nat.le_of_ble_eq_true rfl) ?_
  refine zk_istore_n dX5_road_24 zk_S_3 ?_
  refine zk_bipush dX5_road_25 zb_m9 ?_
  refine zk_istore dX5_road_27 zk_S_4 ?_
  refine zk_iconst dX5_road_29 zc_0 ?_
  refine zk_istore dX5_road_30 zk_S_5 ?_
  refine lX5_road2 hA hp 8 0 (-9) _ M1 L1 rfl hs1 (fun M' L' h' => ?_)
  refine zk_iload dX5_road_119 rfl ?_
  refine zk_iret rfl dX5_road_121 ?_
  exact ⟨rfl, h'⟩
def zu_cutb (J : Nat → Int32) (pl : Int32) (f : Nat → Int32) (a : Nat) : Nat → Nat → Option Int32
  | 0, _ => none
  | m + 1, b => if zs_j J (nI a) (nI b) ∧ 60 < zu_cmc J pl f (nI a) (nI b) then some (10 * nI a + nI b) else zu_cutb J pl f a m (b + 1)
def zu_cuta (J : Nat → Int32) (pl : Int32) (f : Nat → Int32) : Nat → Nat → Int32
  | 0, _ => -9
  | m + 1, a => (zu_cutb J pl f a (7 - a) (a + 1)).getD (zu_cuta J pl f m (a + 1))
set_option maxRecDepth 100000 in
set_option maxHeartbeats 4000000 in
theorem lX5_cut1 {l : Launch} {M0 : zk_M} {n : Nat} (hA : zs_A (M0 1) n) {p : Nat} (hp : p < n) {pl w : Int32} {a : Nat} (ha : a < 8) : ∀ (m b : Nat) (M : zk_M) (L : zk_L), a < b ∧ b + m = 8 → zs_sm M0 M → (∀ v, zu_cutb (zs_J (M0 1)) pl (zs_get (M0 1) p) a m b = some v → w = v) → (zu_cutb (zs_J (M0 1)) pl (zs_get (M0 1) p) a m b = none → ∀ M' L', zs_sm M0 M' → zk_R l zm 6 muX5_cut 91 [some (.ref 0), some (.int (nI p)), some (.int pl), some (.int (nI a)), none] [] M' L' (zp_i w M0)) → zk_R l zm 6 muX5_cut 40 [some (.ref 0), some (.int (nI p)), some (.int pl), some (.int (nI a)), some (.int (nI b))] [] M L (zp_i w M0) := by
  intro m
  induction m with
  | zero =>
    intro b M L hb hs hv k
    obtain rfl : b = 8 := by omega
    refine zk_iload dX5_cut_40 rfl ?_
    refine zk_bipush (v := 8) dX5_cut_42 (by decide) ?_
    refine zk_icmp_ge (tgt := 91) dX5_cut_44 (by decide) (fun _ => ?_) (fun q => absurd (by decide) q)
    refine zk_forget ?_ (k rfl M L hs)
    exact ⟨Or.inr rfl, Or.inr rfl, Or.inr rfl, Or.inr rfl, Or.inl rfl, trivial⟩
  | succ m ih =>
    intro b M L hb hs hv k
    have hb8 : b < 8 := by omega
    have hab : a < b := hb.1
    refine zk_iload dX5_cut_40 rfl ?_
    refine zk_bipush dX5_cut_42 zb_8 ?_
    refine zk_icmp_ge (tgt := 91) dX5_cut_44 (by decide) (fun h44 => absurd h44 (nI_ge (b := 8) hb8 (by decide))) (fun _ => ?_)
    refine zk_aload_n dX5_cut_47 rfl ?_
    refine zk_getRc (q := 1) dX5_cut_48 fl_X5_9 (by decide : 0 < zm.1) rfl rfl rfl ?_
    refine zk_iconst dX5_cut_51 zc_2 ?_
    refine zk_iload_n dX5_cut_52 rfl ?_
    refine zk_iadd dX5_cut_53 ?_
    refine zk_iald (j := 2 + (nI a).toNatClampNeg) dX5_cut_54 (by decide : 1 < zm.1) rfl (zs_in rfl (zs_2in (zs_p_nI ha))) (zs_2tn (zs_p_nI ha)) ?_
    rw [hs.1]
    refine zk_iload dX5_cut_55 rfl ?_
    refine zk_cSi (qX5_has) dX5_cut_57 miX5_has ml_X5_50 stX5_has rfl (by decide) rfl (Nat.le_of_ble_eq_true rfl) ?_
    refine zk_if_eq (tgt := 85) dX5_cut_60 (by decide) (fun h60 => ?_) (fun h60 => ?_)
    · have hj := zs_if0 h60
      refine zk_iinc dX5_cut_85 zc_1 rfl zk_S_4 ?_
      refine zk_goto (tgt := 40) dX5_cut_88 (by decide) ?_
      rw [← nI_succ]
      first
        | exact ih (b + 1) M1 L1 (by omega) hs1 (fun v e => hv v (by rw [zu_cutb, if_neg (fun q => absurd q.2 (Int32.not_lt.mpr h74))]; exact e)) (fun e => k (by rw [zu_cutb, if_neg (fun q => absurd q.2 (Int32.not_lt.mpr h74))]; exact e))
        | exact ih (b + 1) M L (by omega) hs (fun v e => hv v (by rw [zu_cutb, if_neg (fun q => hj q.1)]; exact e)) (fun e => k (by rw [zu_cutb, if_neg (fun q => hj q.1)]; exact e))
    · have hj := zs_if1 h60
      refine zk_aload_n dX5_cut_63 rfl ?_
      refine zk_iload_n dX5_cut_64 rfl ?_
      refine zk_iload_n dX5_cut_65 rfl ?_
      refine zk_iload_n dX5_cut_66 rfl ?_
      refine zk_iload dX5_cut_67 rfl ?_
      refine zk_cVpi (qX5_comesTurned hA hs hp (zs_p_nI ha) (zs_p_nI hb8)) dX5_cut_69 mwX5_comesTurned ml_X5_167 (by decide : 0 < zm.1) rfl rfl (by decide) rfl (Nat.le_of_ble_eq_true rfl) (fun M1 L1 hs1 => ?_)
      refine zk_bipush dX5_cut_72 zb_60 ?_
      refine zk_icmp_le (tgt := 85) dX5_cut_74 (by decide) (fun h74 => ?_) (fun h74 => ?_)
      · refine zk_iinc dX5_cut_85 zc_1 rfl zk_S_4 ?_
        refine zk_goto (tgt := 40) dX5_cut_88 (by decide) ?_
        rw [← nI_succ]
        first
          | exact ih (b + 1) M1 L1 (by omega) hs1 (fun v e => hv v (by rw [zu_cutb, if_neg (fun q => absurd q.2 (Int32.not_lt.mpr h74))]; exact e)) (fun e => k (by rw [zu_cutb, if_neg (fun q => absurd q.2 (Int32.not_lt.mpr h74))]; exact e))
          | exact ih (b + 1) M L (by omega) hs (fun v e => hv v (by rw [zu_cutb, if_neg (fun q => hj q.1)]; exact e)) (fun e => k (by rw [zu_cutb, if_neg (fun q => hj q.1)]; exact e))
      · refine zk_bipush dX5_cut_77 zb_10 ?_
        refine zk_iload_n dX5_cut_79 rfl ?_
        refine zk_imul dX5_cut_80 ?_
        refine zk_iload dX5_cut_81 rfl ?_
        refine zk_iadd dX5_cut_83 ?_
        refine zk_iret rfl dX5_cut_84 ?_
        exact ⟨by rw [hv _ (by rw [zu_cutb, if_pos ⟨hj, Int32.not_le.mp h74⟩])], hs1⟩
set_option maxRecDepth 100000 in
set_option maxHeartbeats 4000000 in
theorem lX5_cut2 {l : Launch} {M0 : zk_M} {n : Nat} (hA : zs_A (M0 1) n) {p : Nat} (hp : p < n) {pl w : Int32} : ∀ (m a : Nat) (M : zk_M) (L : zk_L), a + m = 8 → zs_sm M0 M → w = zu_cuta (zs_J (M0 1)) pl (zs_get (M0 1) p) m a → zk_R l zm 6 muX5_cut 29 [some (.ref 0), some (.int (nI p)), some (.int pl), some (.int (nI a)), none] [] M L (zp_i w M0) := by
  intro m
  induction m with
  | zero =>
    intro a M L hb hs ek
    obtain rfl : a = 8 := by omega
    refine zk_iload_n dX5_cut_29 rfl ?_
    refine zk_bipush (v := 8) dX5_cut_30 (by decide) ?_
    refine zk_icmp_ge (tgt := 97) dX5_cut_32 (by decide) (fun _ => ?_) (fun q => absurd (by decide) q)
    refine zk_bipush (v := -9) dX5_cut_97 (by decide) ?_
    refine zk_iret rfl dX5_cut_99 ?_
    exact ⟨by rw [ek]; rfl, hs⟩
  | succ m ih =>
    intro a M L hb hs ek
    have ha : a < 8 := by omega
    refine zk_iload_n dX5_cut_29 rfl ?_
    refine zk_bipush dX5_cut_30 zb_8 ?_
    refine zk_icmp_ge (tgt := 97) dX5_cut_32 (by decide) (fun h32 => absurd h32 (nI_ge (b := 8) ha (by decide))) (fun _ => ?_)
    refine zk_iload_n dX5_cut_35 rfl ?_
    refine zk_iconst dX5_cut_36 zc_1 ?_
    refine zk_iadd dX5_cut_37 ?_
    refine zk_istore dX5_cut_38 zk_S_4 ?_
    rw [← nI_succ]
    refine lX5_cut1 hA hp ha (7 - a) (a + 1) M L (by omega) hs (fun v e => by rw [ek, zu_cuta, e]; rfl) (fun e M1 L1 hs1 => ?_)
    refine zk_iinc dX5_cut_91 zc_1 rfl zk_S_3 ?_
    refine zk_goto (tgt := 29) dX5_cut_94 (by decide) ?_
    rw [← nI_succ]
    exact ih (a + 1) M1 L1 (by omega) hs1 (by rw [ek, zu_cuta, e]; rfl)
set_option maxRecDepth 100000 in
set_option maxHeartbeats 4000000 in
theorem qX5_cut_t {l : Launch} {M : zk_M} {L : zk_L} {n : Nat} (hA : zs_A (M 1) n) {p : Nat} (hp : p < n) {x : Int32} (hx : zs_p x) : zk_C l zm 6 muX5_cut [.ref 0, .int (nI p), .int x] M L (zp_i (if (zs_cmv (zs_J (M 1)) (zs_FW (zs_J (M 1))) x 61 0 (zs_get (M 1) p)) < 0 then -9 else zu_cuta (zs_J (M 1)) x (zs_get (M 1) p) 8 0) M) := by
  refine zk_ofR (ls := [some (.ref 0), some (.int (nI p)), some (.int x), none, none]) (by decide) rfl (Nat.le_of_ble_eq_true rfl) rfl ?_
  refine zk_aload_n dX5_cut_0 rfl ?_
  refine zk_iload_n dX5_cut_1 rfl ?_
  refine zk_iload_n dX5_cut_2 rfl ?_
  refine zk_cVi (qX5_areWrong hA.1 hA.2.1) dX5_cut_3 mwX5_areWrong ml_X5_155 (by decide : 0 < zm.1) rfl rfl (by decide) rfl (Nat.le_of_ble_eq_true rfl) ?_
  rw [if_neg (zs_w2_t hp hA.1 hx)]
  refine zk_if_eq (tgt := 15) dX5_cut_6 (by decide) (fun _ => ?_) (fun h6 => absurd (rfl) h6)
  refine zk_aload_n dX5_cut_15 rfl ?_
  refine zk_iload_n dX5_cut_16 rfl ?_
  refine zk_iload_n dX5_cut_17 rfl ?_
  refine zk_cVpi (qX5_comesNow hA zs_sm.rf hp) dX5_cut_18 mwX5_comesNow ml_X5_158 (by decide : 0 < zm.1) rfl rfl (by decide) rfl (Nat.le_of_ble_eq_true rfl) (fun M1 L1 hs1 => ?_)
  refine zk_if_ge (tgt := 27) dX5_cut_21 (by decide) (fun h21 => ?_) (fun h21 => ?_)
  · refine zk_iconst dX5_cut_27 zc_0 ?_
    refine zk_istore_n dX5_cut_28 zk_S_3 ?_
    exact lX5_cut2 hA hp 8 0 M1 L1 rfl hs1 (if_neg (Int32.not_lt.mpr h21))
  · refine zk_bipush dX5_cut_24 zb_m9 ?_
    refine zk_iret rfl dX5_cut_26 ?_
    exact ⟨by rw [if_pos (Int32.not_le.mp h21)], hs1⟩
set_option maxRecDepth 100000 in
set_option maxHeartbeats 4000000 in
theorem qX5_near_r {l : Launch} {M : zk_M} {L : zk_L} {x : Int32} (hx : ¬ zs_p x) : zk_C l zm 2 muX5_near [.ref 0, .int x] M L (zp_i (-1) (zs_nof M 1)) := by
  refine zk_ofR (ls := [some (.ref 0), some (.int x)]) (by decide) rfl (Nat.le_of_ble_eq_true rfl) rfl ?_
  refine zk_iload_n dX5_near_0 rfl ?_
  refine zk_cSi (qX5_isPlace_f hx) dX5_near_1 miX5_isPlace ml_X5_104 stX5_isPlace rfl (by decide) rfl (Nat.le_of_ble_eq_true rfl) ?_
  refine zk_if_eq (tgt := 18) dX5_near_4 (by decide) (fun _ => ?_) (fun h4 => absurd (rfl) h4)
  refine zk_aload_n dX5_near_18 rfl ?_
  refine zk_iconst dX5_near_19 zc_m1 ?_
  refine zk_cVi (qno1) dX5_near_20 mwX5_no ml_X5_42 (by decide : 0 < zm.1) rfl rfl (by decide) rfl (Nat.le_of_ble_eq_true rfl) ?_
  refine zk_iret rfl dX5_near_23 ?_
  exact ⟨rfl, zs_sm.rf⟩
set_option maxRecDepth 100000 in
set_option maxHeartbeats 4000000 in
theorem qX5_near_t {l : Launch} {M : zk_M} {L : zk_L} {x : Int32} (hx : zs_p x) : zk_C l zm 2 muX5_near [.ref 0, .int x] M L (zp_i (zs_J (M 1) x.toNatClampNeg) M) := by
  refine zk_ofR (ls := [some (.ref 0), some (.int x)]) (by decide) rfl (Nat.le_of_ble_eq_true rfl) rfl ?_
  refine zk_iload_n dX5_near_0 rfl ?_
  refine zk_cSi (qX5_isPlace_t hx) dX5_near_1 miX5_isPlace ml_X5_104 stX5_isPlace rfl (by decide) rfl (Nat.le_of_ble_eq_true rfl) ?_
  refine zk_if_eq (tgt := 18) dX5_near_4 (by decide) (fun h4 => absurd h4 (by decide)) (fun _ => ?_)
  refine zk_aload_n dX5_near_7 rfl ?_
  refine zk_getRc (q := 1) dX5_near_8 fl_X5_9 (by decide : 0 < zm.1) rfl rfl rfl ?_
  refine zk_iconst dX5_near_11 zc_2 ?_
  refine zk_iload_n dX5_near_12 rfl ?_
  refine zk_iadd dX5_near_13 ?_
  refine zk_iald (j := 2 + x.toNatClampNeg) dX5_near_14 (by decide : 1 < zm.1) rfl (zs_in rfl (zs_2in hx)) (zs_2tn hx) ?_
  refine zk_goto (tgt := 23) dX5_near_15 (by decide) ?_
  refine zk_iret rfl dX5_near_23 ?_
  exact ⟨rfl, zs_sm.rf⟩
def zu_busf (J : Nat → Int32) (i : Nat) (b : Int32) : Int32 := if zs_bits (J b.toNatClampNeg) < zs_bits (J i) then nI i else b
set_option maxRecDepth 100000 in
set_option maxHeartbeats 4000000 in
theorem lX5_busiest {l : Launch} {M : zk_M} {L : zk_L} {Q : Option Value → zk_M → zk_L → Prop} : ∀ (m i : Nat) (b : Int32), i + m = 8 → zs_p b → zk_R l zm 1 muX5_busiest 43 [some (.ref 0), some (.int (zs_for (zu_busf (zs_J (M 1))) m i b)), none] [] M L Q → zk_R l zm 1 muX5_busiest 4 [some (.ref 0), some (.int b), some (.int (nI i))] [] M L Q := by
  intro m
  induction m with
  | zero =>
    intro i b hi hb k
    obtain rfl : i = 8 := by omega
    refine zk_iload_n dX5_busiest_4 rfl ?_
    refine zk_bipush (v := 8) dX5_busiest_5 (by decide) ?_
    refine zk_icmp_ge (tgt := 43) dX5_busiest_7 (by decide) (fun _ => ?_) (fun q => absurd (by decide) q)
    refine zk_forget ?_ k
    exact ⟨Or.inr rfl, Or.inr rfl, Or.inl rfl, trivial⟩
  | succ m ih =>
    intro i b hi hb k
    have hi8 : i < 8 := by omega
    refine zk_iload_n dX5_busiest_4 rfl ?_
    refine zk_bipush dX5_busiest_5 zb_8 ?_
    refine zk_icmp_ge (tgt := 43) dX5_busiest_7 (by decide) (fun h7 => absurd h7 (nI_ge (b := 8) hi8 (by decide))) (fun _ => ?_)
    refine zk_aload_n dX5_busiest_10 rfl ?_
    refine zk_getRc (q := 1) dX5_busiest_11 fl_X5_9 (by decide : 0 < zm.1) rfl rfl rfl ?_
    refine zk_iconst dX5_busiest_14 zc_2 ?_
    refine zk_iload_n dX5_busiest_15 rfl ?_
    refine zk_iadd dX5_busiest_16 ?_
    rw [show 2 + nI i = nI (2 + i) from zs_nI_add 2 i]
    refine zk_iald (j := 2 + i) dX5_busiest_17 (by decide : 1 < zm.1) rfl (zs_in rfl (vp_in_nI (show 2 + i < 52 by omega) (by decide))) (nI_clamp (by omega)) ?_
    refine zk_cSi (qX5_bits) dX5_busiest_18 miX5_bits ml_X5_145 stX5_bits rfl (by decide) rfl (Nat.le_of_ble_eq_true rfl) ?_
    refine zk_aload_n dX5_busiest_21 rfl ?_
    refine zk_getRc (q := 1) dX5_busiest_22 fl_X5_9 (by decide : 0 < zm.1) rfl rfl rfl ?_
    refine zk_iconst dX5_busiest_25 zc_2 ?_
    refine zk_iload_n dX5_busiest_26 rfl ?_
    refine zk_iadd dX5_busiest_27 ?_
    refine zk_iald (j := 2 + b.toNatClampNeg) dX5_busiest_28 (by decide : 1 < zm.1) rfl (zs_in rfl (zs_2in hb)) (zs_2tn hb) ?_
    refine zk_cSi (qX5_bits) dX5_busiest_29 miX5_bits ml_X5_145 stX5_bits rfl (by decide) rfl (Nat.le_of_ble_eq_true rfl) ?_
    refine zk_icmp_le (tgt := 37) dX5_busiest_32 (by decide) (fun h32 => ?_) (fun h32 => ?_)
    · refine zk_iinc dX5_busiest_37 zc_1 rfl zk_S_2 ?_
      refine zk_goto (tgt := 4) dX5_busiest_40 (by decide) ?_
      rw [← nI_succ]
      first
        | (refine ih (i + 1) (nI i) (by omega) (zs_p_nI hi8) ?_
           have e : zu_busf (zs_J (M 1)) i b = nI i := if_pos (Int32.not_le.mp h32)
           rw [zs_for, e] at k
           exact k)
        | (refine ih (i + 1) b (by omega) hb ?_
           have e : zu_busf (zs_J (M 1)) i b = b := if_neg (Int32.not_lt.mpr h32)
           rw [zs_for, e] at k
           exact k)
    · refine zk_iload_n dX5_busiest_35 rfl ?_
      refine zk_istore_n dX5_busiest_36 zk_S_1 ?_
      refine zk_iinc dX5_busiest_37 zc_1 rfl zk_S_2 ?_
      refine zk_goto (tgt := 4) dX5_busiest_40 (by decide) ?_
      rw [← nI_succ]
      first
        | (refine ih (i + 1) (nI i) (by omega) (zs_p_nI hi8) ?_
           have e : zu_busf (zs_J (M 1)) i b = nI i := if_pos (Int32.not_le.mp h32)
           rw [zs_for, e] at k
           exact k)
        | (refine ih (i + 1) b (by omega) hb ?_
           have e : zu_busf (zs_J (M 1)) i b = b := if_neg (Int32.not_lt.mpr h32)
           rw [zs_for, e] at k
           exact k)
set_option maxRecDepth 100000 in
set_option maxHeartbeats 4000000 in
theorem qX5_busiest_t {l : Launch} {M : zk_M} {L : zk_L}  : zk_C l zm 1 muX5_busiest [.ref 0] M L (zp_i (zs_for (zu_busf (zs_J (M 1))) 8 0 0) M) := by
  refine zk_ofR (ls := [some (.ref 0), none, none]) (by decide) rfl (Nat.le_of_ble_eq_true rfl) rfl ?_
  refine zk_iconst dX5_busiest_0 zc_0 ?_
  refine zk_istore_n dX5_busiest_1 zk_S_1 ?_
  refine zk_iconst dX5_busiest_2 zc_0 ?_
  refine zk_istore_n dX5_busiest_3 zk_S_2 ?_
  refine lX5_busiest 8 0 0 rfl (by decide) ?_
  refine zk_iload_n dX5_busiest_43 rfl ?_
  refine zk_iret rfl dX5_busiest_44 ?_
  exact ⟨rfl, zs_sm.rf⟩
def zu_tru (J T : Nat → Int32) : Nat → Nat → (Nat → Int32) → Int32
  | 0, _, _ => -9
  | m + 1, day, f => if f 5 = 0 then nI day else zu_tru J T m (day + 1) (zs_ride J T f)
set_option maxRecDepth 100000 in
set_option maxHeartbeats 4000000 in
theorem lX5_truly {l : Launch} {M0 : zk_M} {n p : Nat} (hp : p < n) (hp6 : p < 6) {J T : Nat → Int32} {v : Int32} : ∀ (m i : Nat) (F : Nat → Nat → Int32) (M : zk_M) (L : zk_L), i + m = 100 → zs_sm M0 M → zs_V M n J T F → v = zu_tru J T m i (F p) → zk_R l zm 6 muX5_truly 21 [some (.ref 0), some (.int (nI p)), some (.int (nI i))] [] M L (zp_i v M0) := by
  intro m
  induction m with
  | zero =>
    intro i F M L hi hs hV ek
    obtain rfl : i = 100 := by omega
    refine zk_iload_n dX5_truly_21 rfl ?_
    refine zk_bipush (v := 99) dX5_truly_22 (by decide) ?_
    refine zk_icmp_gt (tgt := 57) dX5_truly_24 (by decide) (fun _ => ?_) (fun q => absurd (by decide) q)
    refine zk_bipush (v := -9) dX5_truly_57 (by decide) ?_
    refine zk_iret rfl dX5_truly_59 ?_
    exact ⟨by rw [ek]; rfl, hs⟩
  | succ m ih =>
    intro i F M L hi hs hV ek
    refine zk_iload_n dX5_truly_21 rfl ?_
    refine zk_bipush dX5_truly_22 zb_99 ?_
    refine zk_icmp_gt (tgt := 57) dX5_truly_24 (by decide) (fun h24 => absurd h24 (nI_nlt (a := 99) (show i ≤ 99 by omega) (by decide))) (fun _ => ?_)
    refine zk_aload_n dX5_truly_27 rfl ?_
    refine zk_getRc (q := 2) dX5_truly_28 fl_X5_13 (by decide : 0 < zm.1) rfl rfl rfl ?_
    refine zk_iload_n dX5_truly_31 rfl ?_
    refine zk_iconst dX5_truly_32 zc_5 ?_
    refine zk_cSi (qX5_of (p := p) (k := 5)) dX5_truly_33 miX5_of ml_X5_58 stX5_of rfl (by decide) rfl (Nat.le_of_ble_eq_true rfl) ?_
    refine zk_iald (j := 10 + 7 * p + 5) dX5_truly_36 (by decide : 2 < zm.1) rfl (zs_in rfl (vp_in_nI (zs_7p hp6 (show 5 < 7 by decide)) (by decide))) (nI_clamp (by omega)) ?_
    rw [hV.at hp (by decide)]
    refine zk_if_ne (tgt := 42) dX5_truly_37 (by decide) (fun h37 => ?_) (fun h37 => ?_)
    · refine zk_aload_n dX5_truly_42 rfl ?_
      refine zk_aload_n dX5_truly_43 rfl ?_
      refine zk_getRc (q := 2) dX5_truly_44 fl_X5_13 (by decide : 0 < zm.1) rfl rfl rfl ?_
      refine zk_iconst dX5_truly_47 zc_0 ?_
      refine zk_callV (qd_day hs hV) dX5_truly_48 mwX5_day ml_X5_76 (by decide : 0 < zm.1) rfl rfl (by decide) rfl (Nat.le_of_ble_eq_true rfl) (fun r1 M1 L1 h1 => ?_)
      obtain ⟨rfl, hs1, hV1⟩ := h1
      refine zk_iinc dX5_truly_51 zc_1 rfl zk_S_2 ?_
      refine zk_goto (tgt := 21) dX5_truly_54 (by decide) ?_
      rw [← nI_succ]
      refine ih (i + 1) _ M1 L1 (by omega) hs1 hV1 ?_
      rw [ek, zu_tru, if_neg h37, zs_dF0]
    · refine zk_iload_n dX5_truly_40 rfl ?_
      refine zk_iret rfl dX5_truly_41 ?_
      exact ⟨by rw [ek, zu_tru, if_pos h37], hs⟩
set_option maxRecDepth 100000 in
set_option maxHeartbeats 4000000 in
theorem qX5_truly_r {l : Launch} {M : zk_M} {L : zk_L} {n : Nat} (hA : zs_A (M 1) n) {r : Int32} (hr : ¬ zs_isr (nI n) r) : zk_C l zm 6 muX5_truly [.ref 0, .int r] M L (zp_i (-1) (zs_nof M 1)) := by
  refine zk_ofR (ls := [some (.ref 0), some (.int r), none]) (by decide) rfl (Nat.le_of_ble_eq_true rfl) rfl ?_
  refine zk_aload_n dX5_truly_0 rfl ?_
  refine zk_iload_n dX5_truly_1 rfl ?_
  refine zk_cVi (qX5_isRider_f hA.1 hA.2.1 hr) dX5_truly_2 mwX5_isRider ml_X5_118 (by decide : 0 < zm.1) rfl rfl (by decide) rfl (Nat.le_of_ble_eq_true rfl) ?_
  refine zk_if_ne (tgt := 14) dX5_truly_5 (by decide) (fun h5 => absurd (rfl) h5) (fun _ => ?_)
  refine zk_aload_n dX5_truly_8 rfl ?_
  refine zk_iconst dX5_truly_9 zc_m1 ?_
  refine zk_cVi (qno1) dX5_truly_10 mwX5_no ml_X5_42 (by decide : 0 < zm.1) rfl rfl (by decide) rfl (Nat.le_of_ble_eq_true rfl) ?_
  refine zk_iret rfl dX5_truly_13 ?_
  exact ⟨rfl, zs_sm.rf⟩
set_option maxRecDepth 100000 in
set_option maxHeartbeats 4000000 in
theorem qX5_truly_t {l : Launch} {M : zk_M} {L : zk_L} {n : Nat} (hA : zs_A (M 1) n) {p : Nat} (hp : p < n) : zk_C l zm 6 muX5_truly [.ref 0, .int (nI p)] M L (zp_i (zu_tru (zs_J (M 1)) (zs_FW (zs_J (M 1))) 100 0 (zs_get (M 1) p)) M) := by
  refine zk_ofR (ls := [some (.ref 0), some (.int (nI p)), none]) (by decide) rfl (Nat.le_of_ble_eq_true rfl) rfl ?_
  have hp6 : p < 6 := Nat.lt_of_lt_of_le hp hA.1
  refine zk_aload_n dX5_truly_0 rfl ?_
  refine zk_iload_n dX5_truly_1 rfl ?_
  refine zk_cVi (qX5_isRider_t hA.1 hA.2.1 hp) dX5_truly_2 mwX5_isRider ml_X5_118 (by decide : 0 < zm.1) rfl rfl (by decide) rfl (Nat.le_of_ble_eq_true rfl) ?_
  refine zk_if_ne (tgt := 14) dX5_truly_5 (by decide) (fun _ => ?_) (fun h5 => absurd h5 (by decide))
  refine zk_aload_n dX5_truly_14 rfl ?_
  refine zk_iconst dX5_truly_15 zc_0 ?_
  refine zk_callV (qX5_takes (t := 0) hA zs_sm.rf (by decide)) dX5_truly_16 mwX5_takes ml_X5_148 (by decide : 0 < zm.1) rfl rfl (by decide) rfl (Nat.le_of_ble_eq_true rfl) (fun r1 M1 L1 h1 => ?_)
  obtain ⟨rfl, hs1, hV⟩ := h1
  refine zk_iconst dX5_truly_19 zc_0 ?_
  refine zk_istore_n dX5_truly_20 zk_S_2 ?_
  exact lX5_truly hp hp6 100 0 _ M1 L1 rfl hs1 hV rfl
def zs_on : Option Nat → Int32
  | none => -9
  | some q => nI q
def zu_trf (F : Nat → Nat → Int32) (i : Nat) : Option Nat → Option Nat
  | none => some i
  | some q => if F q 6 < F i 6 then some i else some q
set_option maxRecDepth 100000 in
set_option maxHeartbeats 4000000 in
theorem lX5_tired {l : Launch} {M : zk_M} {L : zk_L} {n : Nat} (hA : zs_A (M 1) n) {Q : Option Value → zk_M → zk_L → Prop} : ∀ (m i : Nat) (o : Option Nat), i + m = n → (∀ q, o = some q → q < n) → zk_R l zm 1 muX5_tired 52 [some (.ref 0), some (.int (zs_on (zs_for (zu_trf (fun p => zs_get (M 1) p)) m i o))), none] [] M L Q → zk_R l zm 1 muX5_tired 5 [some (.ref 0), some (.int (zs_on o)), some (.int (nI i))] [] M L Q := by
  have hn6 := hA.1
  intro m
  induction m with
  | zero =>
    intro i o hi ho k
    obtain rfl : i = n := by omega
    refine zk_iload_n dX5_tired_5 rfl ?_
    refine zk_aload_n dX5_tired_6 rfl ?_
    refine zk_getRc (q := 1) dX5_tired_7 fl_X5_9 (by decide) rfl rfl rfl ?_
    refine zk_iconst dX5_tired_10 zc_0 ?_
    refine zk_iald (j := 0) dX5_tired_11 (by decide) rfl (zs_in rfl (vp_in_iff.mpr (by decide))) (by decide) ?_
    rw [hA.2.1]
    refine zk_icmp_ge (tgt := 52) dX5_tired_12 (by decide) (fun _ => ?_) (fun q => absurd (nI_le (Nat.le_refl _) (by omega)) q)
    refine zk_forget ?_ k
    exact ⟨Or.inr rfl, Or.inr rfl, Or.inl rfl, trivial⟩
  | succ m ih =>
    intro i o him ho k
    have hi : i < n := by omega
    have hi6 : i < 6 := by omega
    cases o with
    | none =>
      refine zk_iload_n dX5_tired_5 rfl ?_
      refine zk_aload_n dX5_tired_6 rfl ?_
      refine zk_getRc (q := 1) dX5_tired_7 fl_X5_9 (by decide : 0 < zm.1) rfl rfl rfl ?_
      refine zk_iconst dX5_tired_10 zc_0 ?_
      refine zk_iald (j := 0) dX5_tired_11 (by decide : 1 < zm.1) rfl (zs_in rfl (vp_in_iff.mpr (by decide))) (by decide) ?_
      rw [hA.2.1]
      refine zk_icmp_ge (tgt := 52) dX5_tired_12 (by decide) (fun h12 => absurd h12 (nI_ge hi (by omega))) (fun _ => ?_)
      refine zk_iload_n dX5_tired_15 rfl ?_
      refine zk_if_lt (tgt := 44) dX5_tired_16 (by decide) (fun _ => ?_) (fun h16 => absurd (by decide) h16)
      refine zk_iload_n dX5_tired_44 rfl ?_
      refine zk_istore_n dX5_tired_45 zk_S_1 ?_
      refine zk_iinc dX5_tired_46 zc_1 rfl zk_S_2 ?_
      refine zk_goto (tgt := 5) dX5_tired_49 (by decide) ?_
      rw [← nI_succ]
      exact ih (i + 1) (some i) (by omega) (fun q e => by cases e; exact hi) k
    | some q =>
      have hq : q < n := ho q rfl
      have hq6 : q < 6 := by omega
      show zk_R l zm 1 muX5_tired 5 [some (.ref 0), some (.int (nI q)), some (.int (nI i))] [] M L Q
      refine zk_iload_n dX5_tired_5 rfl ?_
      refine zk_aload_n dX5_tired_6 rfl ?_
      refine zk_getRc (q := 1) dX5_tired_7 fl_X5_9 (by decide : 0 < zm.1) rfl rfl rfl ?_
      refine zk_iconst dX5_tired_10 zc_0 ?_
      refine zk_iald (j := 0) dX5_tired_11 (by decide : 1 < zm.1) rfl (zs_in rfl (vp_in_iff.mpr (by decide))) (by decide) ?_
      rw [hA.2.1]
      refine zk_icmp_ge (tgt := 52) dX5_tired_12 (by decide) (fun h12 => absurd h12 (nI_ge hi (by omega))) (fun _ => ?_)
      refine zk_iload_n dX5_tired_15 rfl ?_
      refine zk_if_lt (tgt := 44) dX5_tired_16 (by decide) (fun h16 => absurd h16 (nI_pos (by omega))) (fun _ => ?_)
      refine zk_aload_n dX5_tired_19 rfl ?_
      refine zk_getRc (q := 1) dX5_tired_20 fl_X5_9 (by decide : 0 < zm.1) rfl rfl rfl ?_
      refine zk_iload_n dX5_tired_23 rfl ?_
      refine zk_bipush dX5_tired_24 zb_6 ?_
      refine zk_cSi (qX5_of (p := i) (k := 6)) dX5_tired_26 miX5_of ml_X5_58 stX5_of rfl (by decide) rfl (Nat.le_of_ble_eq_true rfl) ?_
      refine zk_iald (j := 10 + 7 * i + 6) dX5_tired_29 (by decide : 1 < zm.1) rfl (zs_in rfl (vp_in_nI (zs_7p hi6 (show 6 < 7 by decide)) (by decide))) (nI_clamp (by omega)) ?_
      refine zk_aload_n dX5_tired_30 rfl ?_
      refine zk_getRc (q := 1) dX5_tired_31 fl_X5_9 (by decide : 0 < zm.1) rfl rfl rfl ?_
      refine zk_iload_n dX5_tired_34 rfl ?_
      refine zk_bipush dX5_tired_35 zb_6 ?_
      refine zk_cSi (qX5_of (p := q) (k := 6)) dX5_tired_37 miX5_of ml_X5_58 stX5_of rfl (by decide) rfl (Nat.le_of_ble_eq_true rfl) ?_
      refine zk_iald (j := 10 + 7 * q + 6) dX5_tired_40 (by decide : 1 < zm.1) rfl (zs_in rfl (vp_in_nI (zs_7p hq6 (show 6 < 7 by decide)) (by decide))) (nI_clamp (by omega)) ?_
      refine zk_icmp_le (tgt := 46) dX5_tired_41 (by decide) (fun h41 => ?_) (fun h41 => ?_)
      · refine zk_iinc dX5_tired_46 zc_1 rfl zk_S_2 ?_
        refine zk_goto (tgt := 5) dX5_tired_49 (by decide) ?_
        rw [← nI_succ]
        first
          | (refine ih (i + 1) (some i) (by omega) (fun q e => by cases e; exact hi) ?_
             have e : zu_trf (fun p => zs_get (M 1) p) i (some q) = some i := if_pos (Int32.not_le.mp h41)
             rw [zs_for, e] at k
             exact k)
          | (refine ih (i + 1) (some q) (by omega) ho ?_
             have e : zu_trf (fun p => zs_get (M 1) p) i (some q) = some q := if_neg (Int32.not_lt.mpr h41)
             rw [zs_for, e] at k
             exact k)
      · refine zk_iload_n dX5_tired_44 rfl ?_
        refine zk_istore_n dX5_tired_45 zk_S_1 ?_
        refine zk_iinc dX5_tired_46 zc_1 rfl zk_S_2 ?_
        refine zk_goto (tgt := 5) dX5_tired_49 (by decide) ?_
        rw [← nI_succ]
        first
          | (refine ih (i + 1) (some i) (by omega) (fun q e => by cases e; exact hi) ?_
             have e : zu_trf (fun p => zs_get (M 1) p) i (some q) = some i := if_pos (Int32.not_le.mp h41)
             rw [zs_for, e] at k
             exact k)
          | (refine ih (i + 1) (some q) (by omega) ho ?_
             have e : zu_trf (fun p => zs_get (M 1) p) i (some q) = some q := if_neg (Int32.not_lt.mpr h41)
             rw [zs_for, e] at k
             exact k)
set_option maxRecDepth 100000 in
set_option maxHeartbeats 4000000 in
theorem qX5_tired_t {l : Launch} {M : zk_M} {L : zk_L} {n : Nat} (hA : zs_A (M 1) n) : zk_C l zm 1 muX5_tired [.ref 0] M L (zp_i (zs_on (zs_for (zu_trf (fun p => zs_get (M 1) p)) n 0 none)) M) := by
  refine zk_ofR (ls := [some (.ref 0), none, none]) (by decide) rfl (Nat.le_of_ble_eq_true rfl) rfl ?_
  refine zk_bipush dX5_tired_0 zb_m9 ?_
  refine zk_istore_n dX5_tired_2 zk_S_1 ?_
  refine zk_iconst dX5_tired_3 zc_0 ?_
  refine zk_istore_n dX5_tired_4 zk_S_2 ?_
  refine lX5_tired hA n 0 none (by omega) (fun q e => by cases e) ?_
  refine zk_iload_n dX5_tired_52 rfl ?_
  refine zk_iret rfl dX5_tired_53 ?_
  exact ⟨rfl, zs_sm.rf⟩
