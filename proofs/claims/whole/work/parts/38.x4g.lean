def zs_gd (J T : Nat → Int32) (p : Nat) : Nat → (Nat → Int32) → (Nat → Int32) → Nat → Int32
  | 0, _, G => G
  | m + 1, f, G => zs_gd J T p m (zs_ride J T f) (va_up G (f 4).toNatClampNeg (G (f 4).toNatClampNeg ||| 1 <<< (nI p &&& 31)))
theorem zs_gd_ag {J J' T T' : Nat → Int32} {p : Nat} (hJ : zs_ag 8 J J') (hT : zs_ag 64 T T') : ∀ (m : Nat) (f g G : Nat → Int32), zs_ag 7 f g → zs_ok f → zs_gd J T p m f G = zs_gd J' T' p m g G
  | 0, _, _, _, _, _ => rfl
  | m + 1, f, g, G, h, ok => by
    unfold zs_gd
    rw [h 4 (by decide)]
    exact zs_gd_ag hJ hT m _ _ _ (zs_ride_ag hJ hT h ok) (zs_ride_ok ok)
theorem zs_gd_agG {J T : Nat → Int32} {p : Nat} : ∀ (m : Nat) (f G G' : Nat → Int32), zs_ag 8 G G' → zs_ok f → zs_ag 8 (zs_gd J T p m f G) (zs_gd J T p m f G')
  | 0, _, _, _, h, _ => h
  | m + 1, f, G, G', h, ok => by
    unfold zs_gd
    exact zs_gd_agG m _ _ _ (h.up' (by rw [h _ (zs_p_tn ok.2.2)])) (zs_ride_ok ok)
def zs_gs (M : zk_M) (t p : Nat) (G : Nat → Int32) : Nat → Int32 := zs_gd (M 3) (M 4) p (t + 1) (M (6 + p)) G
def zs_gst (M : zk_M) (n t : Nat) : Nat → Int32 := zs_for (zs_gs M t) n 0 (fun _ => 0)
set_option maxRecDepth 100000 in
set_option maxHeartbeats 4000000 in
theorem lX4_ng0 {l : Launch} {L : zk_L} {M0 : zk_M} {t : Nat} {Q : Option Value → zk_M → zk_L → Prop} : ∀ (m i : Nat) (M : zk_M), i + m = 8 → zs_same M0 M → zs_ag i (M 43) (fun _ => 0) → (∀ M', zs_same M0 M' → zs_ag 8 (M' 43) (fun _ => 0) → zk_R l zc 4 muX4_noteGuests 21 [some (.ref 0), some (.int (nI t)), none, none] [] M' L Q) → zk_R l zc 4 muX4_noteGuests 2 [some (.ref 0), some (.int (nI t)), some (.int (nI i)), none] [] M L Q := by
  intro m
  induction m with
  | zero =>
    intro i M hi hs hz k
    obtain rfl : i = 8 := by omega
    refine zk_iload_n dX4_noteGuests_2 rfl ?_
    refine zk_bipush (v := 8) dX4_noteGuests_3 (by decide) ?_
    refine zk_icmp_ge (tgt := 21) dX4_noteGuests_5 (by decide) (fun _ => ?_) (fun q => absurd (by decide) q)
    refine zk_forget ?_ (k M hs hz)
    exact ⟨Or.inr rfl, Or.inr rfl, Or.inl rfl, Or.inl rfl, trivial⟩
  | succ m ih =>
    intro i M hi hs hz k
    have hi8 : i < 8 := by omega
    refine zk_iload_n dX4_noteGuests_2 rfl ?_
    refine zk_bipush dX4_noteGuests_3 zb_8 ?_
    refine zk_icmp_ge (tgt := 21) dX4_noteGuests_5 (by decide) (fun h5 => absurd h5 (nI_ge (b := 8) hi8 (by decide))) (fun _ => ?_)
    refine zk_aload_n dX4_noteGuests_8 rfl ?_
    refine zk_getRc (q := 43) dX4_noteGuests_9 fl_X4_53 (by decide : 0 < zc.1) rfl rfl rfl ?_
    refine zk_iload_n dX4_noteGuests_12 rfl ?_
    refine zk_iconst dX4_noteGuests_13 zc_0 ?_
    refine zk_iast (j := i) dX4_noteGuests_14 (by decide : 43 < zc.1) rfl (zs_in rfl (vp_in_nI hi8 (by decide))) (nI_clamp (Nat.lt_trans hi8 (by decide))) ?_
    refine zk_iinc dX4_noteGuests_15 zc_1 rfl zk_S_2 ?_
    refine zk_goto (tgt := 2) dX4_noteGuests_18 (by decide) ?_
    rw [← nI_succ]
    refine ih (i + 1) _ (by omega) (hs.up (by omega)) ?_ k
    intro j hj
    rw [zk_up_eq]
    simp only [va_up]
    split
    · rfl
    · exact hz j (by omega)
set_option maxRecDepth 100000 in
set_option maxHeartbeats 4000000 in
theorem lX4_ng1 {l : Launch} {L : zk_L} {M0 : zk_M} {t p : Nat} (ht : t ≤ 30) {Q : Option Value → zk_M → zk_L → Prop} : ∀ (m d : Nat) (M : zk_M), d + m = t + 1 → zs_same M0 M → zs_ok (M 37) → (∀ M', zs_same M0 M' → M' 43 = zs_gd (M0 3) (M0 4) p m (M 37) (M 43) → zk_R l zc 4 muX4_noteGuests 97 [some (.ref 0), some (.int (nI t)), some (.int (nI p)), none] [] M' L Q) → zk_R l zc 4 muX4_noteGuests 41 [some (.ref 0), some (.int (nI t)), some (.int (nI p)), some (.int (nI d))] [] M L Q := by
  intro m
  induction m with
  | zero =>
    intro d M hi hs ok k
    obtain rfl : d = t + 1 := by omega
    refine zk_iload_n dX4_noteGuests_41 rfl ?_
    refine zk_iload_n dX4_noteGuests_42 rfl ?_
    refine zk_icmp_gt (tgt := 97) dX4_noteGuests_43 (by decide) (fun _ => ?_) (fun q => absurd (nI_lt (Nat.lt_succ_self t) (by omega)) q)
    refine zk_forget ?_ (k M hs rfl)
    exact ⟨Or.inr rfl, Or.inr rfl, Or.inr rfl, Or.inl rfl, trivial⟩
  | succ m ih =>
    intro d M hi hs ok k
    refine zk_iload_n dX4_noteGuests_41 rfl ?_
    refine zk_iload_n dX4_noteGuests_42 rfl ?_
    refine zk_icmp_gt (tgt := 97) dX4_noteGuests_43 (by decide) (fun h43 => absurd h43 (nI_nlt (a := t) (show d ≤ t by omega) (by omega))) (fun _ => ?_)
    refine zk_aload_n dX4_noteGuests_46 rfl ?_
    refine zk_getRc (q := 37) dX4_noteGuests_47 fl_X4_32 (by decide : 0 < zc.1) rfl rfl rfl ?_
    refine zk_getI dX4_noteGuests_50 fl_X4_106 (by decide : 37 < zc.1) rfl rfl ?_
    refine zk_cSi (qX4_isPlace_t ok.2.2) dX4_noteGuests_53 miX4_isPlace ml_X4_119 stX4_isPlace rfl (by decide) rfl (Nat.le_of_ble_eq_true rfl) ?_
    refine zk_if_eq (tgt := 77) dX4_noteGuests_56 (by decide) (fun h56 => absurd h56 (by decide)) (fun _ => ?_)
    refine zk_aload_n dX4_noteGuests_59 rfl ?_
    refine zk_getRc (q := 43) dX4_noteGuests_60 fl_X4_53 (by decide : 0 < zc.1) rfl rfl rfl ?_
    refine zk_aload_n dX4_noteGuests_63 rfl ?_
    refine zk_getRc (q := 37) dX4_noteGuests_64 fl_X4_32 (by decide : 0 < zc.1) rfl rfl rfl ?_
    refine zk_getI dX4_noteGuests_67 fl_X4_106 (by decide : 37 < zc.1) rfl rfl ?_
    refine zk_dup2 dX4_noteGuests_70 rfl rfl ?_
    refine zk_iald (j := _) dX4_noteGuests_71 (by decide : 43 < zc.1) rfl (zs_in rfl (zs_pin ok.2.2)) rfl ?_
    refine zk_iconst dX4_noteGuests_72 zc_1 ?_
    refine zk_iload_n dX4_noteGuests_73 rfl ?_
    refine zk_ishl dX4_noteGuests_74 ?_
    refine zk_ior dX4_noteGuests_75 ?_
    refine zk_iast (j := _) dX4_noteGuests_76 (by decide : 43 < zc.1) rfl (zs_in rfl (zs_pin ok.2.2)) rfl ?_
    refine zk_aload_n dX4_noteGuests_77 rfl ?_
    refine zk_getRc (q := 37) dX4_noteGuests_78 fl_X4_32 (by decide : 0 < zc.1) rfl rfl rfl ?_
    refine zk_aload_n dX4_noteGuests_81 rfl ?_
    refine zk_getRc (q := 1) dX4_noteGuests_82 fl_X4_12 (by decide : 0 < zc.1) rfl rfl rfl ?_
    refine zk_getRc (q := 2) dX4_noteGuests_85 fl_X4_122 (by decide : 1 < zc.1) rfl rfl rfl ?_
    refine zk_cVv (q37_rideDay (by rw [zk_up_ne (by decide)]; exact ok)) dX4_noteGuests_88 mwX1_rideDay ml_X4_184 (by decide : 37 < zc.1) rfl rfl (by decide) rfl (Nat.le_of_ble_eq_true rfl) ?_
    refine zk_iinc dX4_noteGuests_91 zc_1 rfl zk_S_3 ?_
    refine zk_goto (tgt := 41) dX4_noteGuests_94 (by decide) ?_
    rw [← nI_succ]
    refine ih (d + 1) _ (by omega) ((hs.up (by omega)).up (by omega)) (by rw [zk_up_eq, zk_up_ne (by decide)]; exact zs_ride_ok ok) (fun M' h1 h2 => k M' h1 ?_)
    rw [h2]
    simp only [zk_up_eq, zk_up_ne (show (43 : Nat) ≠ 37 by decide), zk_up_ne (show (37 : Nat) ≠ 43 by decide), zk_up_ne (show (3 : Nat) ≠ 43 by decide), zk_up_ne (show (4 : Nat) ≠ 43 by decide), hs 3 (by decide) (by decide), hs 4 (by decide) (by decide)]
    rfl
set_option maxRecDepth 100000 in
set_option maxHeartbeats 4000000 in
theorem lX4_ng2 {l : Launch} {L : zk_L} {M0 : zk_M} {n : Nat} (hI : zs_I M0 n) {t : Nat} (ht : t ≤ 30) {Q : Option Value → zk_M → zk_L → Prop} : ∀ (m p : Nat) (M : zk_M), p + m = n → zs_same M0 M → (∀ M', zs_same M0 M' → M' 43 = zs_for (zs_gs M0 t) m p (M 43) → zk_R l zc 4 muX4_noteGuests 103 [some (.ref 0), some (.int (nI t)), none, none] [] M' L Q) → zk_R l zc 4 muX4_noteGuests 23 [some (.ref 0), some (.int (nI t)), some (.int (nI p)), none] [] M L Q := by
  have hn6 := hI.1
  intro m
  induction m with
  | zero =>
    intro p M hpm hs k
    obtain rfl : p = n := by omega
    refine zk_iload_n dX4_noteGuests_23 rfl ?_
    refine zk_aload_n dX4_noteGuests_24 rfl ?_
    refine zk_getRc (q := 1) dX4_noteGuests_25 fl_X4_12 (by decide) rfl rfl rfl ?_
    refine zk_getI dX4_noteGuests_28 fl_X4_181 (by decide) rfl rfl ?_
    rw [(hI.sm hs).2.1]
    refine zk_icmp_ge (tgt := 103) dX4_noteGuests_31 (by decide) (fun _ => ?_) (fun q => absurd (nI_le (Nat.le_refl _) (by omega)) q)
    refine zk_forget ?_ (k M hs rfl)
    exact ⟨Or.inr rfl, Or.inr rfl, Or.inl rfl, Or.inl rfl, trivial⟩
  | succ m ih =>
    intro p M hpm hs k
    have hp : p < n := by omega
    have hp6 : p < 6 := by omega
    have e6 : M (6 + p) = M0 (6 + p) := hs (6 + p) (by omega) (by omega)
    have ok6 : zs_ok (M0 (6 + p)) := hI.2.2 p hp6
    refine zk_iload_n dX4_noteGuests_23 rfl ?_
    refine zk_aload_n dX4_noteGuests_24 rfl ?_
    refine zk_getRc (q := 1) dX4_noteGuests_25 fl_X4_12 (by decide : 0 < zc.1) rfl rfl rfl ?_
    refine zk_getI dX4_noteGuests_28 fl_X4_181 (by decide : 1 < zc.1) rfl rfl ?_
    rw [(hI.sm hs).2.1]
    refine zk_icmp_ge (tgt := 103) dX4_noteGuests_31 (by decide) (fun h31 => absurd h31 (nI_ge hp (by omega))) (fun _ => ?_)
    refine zk_aload_n dX4_noteGuests_34 rfl ?_
    refine zk_iload_n dX4_noteGuests_35 rfl ?_
    refine zk_cVv (qX4_thinkOf (hI.sm hs) hp) dX4_noteGuests_36 mwX4_thinkOf ml_X4_167 (by decide : 0 < zc.1) rfl rfl (by decide) rfl (Nat.le_of_ble_eq_true rfl) ?_
    refine zk_iconst dX4_noteGuests_39 zc_0 ?_
    refine zk_istore_n dX4_noteGuests_40 zk_S_3 ?_
    refine lX4_ng1 ht (p := p) (t + 1) 0 _ (by omega) (hs.up (by omega)) (by rw [zk_up_eq, e6]; exact zs_ok_ag zs_cp_ag.sm ok6) (fun M1 h1 h2 => ?_)
    refine zk_iinc dX4_noteGuests_97 zc_1 rfl zk_S_2 ?_
    refine zk_goto (tgt := 23) dX4_noteGuests_100 (by decide) ?_
    rw [← nI_succ]
    refine ih (p + 1) M1 (by omega) h1 (fun M' h3 h4 => k M' h3 ?_)
    rw [h4, h2, zk_up_eq, zk_up_ne (by decide), e6, zs_gd_ag zs_ag.rf zs_ag.rf (t + 1) _ (M0 (6 + p)) _ zs_cp_ag (zs_ok_ag zs_cp_ag.sm ok6)]
    rfl
set_option maxRecDepth 100000 in
set_option maxHeartbeats 4000000 in
theorem qX4_noteGuests {l : Launch} {M : zk_M} {L : zk_L} {n : Nat} (hI : zs_I M n) {t : Nat} (ht : t ≤ 30) : zk_C l zc 4 muX4_noteGuests [.ref 0, .int (nI t)] M L (fun r M1 _ => r = none ∧ zs_same M M1 ∧ zs_ag 8 (M1 43) (zs_gst M n t)) := by
  refine zk_ofR (ls := [some (.ref 0), some (.int (nI t)), none, none]) (by decide) rfl (Nat.le_of_ble_eq_true rfl) rfl ?_
  refine zk_iconst dX4_noteGuests_0 zc_0 ?_
  refine zk_istore_n dX4_noteGuests_1 zk_S_2 ?_
  refine zk_forget (ls' := [some (.ref 0), some (.int (nI t)), some (.int (nI 0)), none]) ⟨Or.inr rfl, Or.inr rfl, Or.inr rfl, Or.inl rfl, trivial⟩ (lX4_ng0 8 0 M rfl zs_same.rf (fun i hi => by omega) (fun M1 hs1 hz1 => ?_))
  refine zk_iconst dX4_noteGuests_21 zc_0 ?_
  refine zk_istore_n dX4_noteGuests_22 zk_S_2 ?_
  refine zk_forget (ls' := [some (.ref 0), some (.int (nI t)), some (.int (nI 0)), none]) ⟨Or.inr rfl, Or.inr rfl, Or.inr rfl, Or.inl rfl, trivial⟩ (lX4_ng2 hI ht n 0 M1 (by omega) hs1 (fun M2 hs2 h2 => ?_))
  refine zk_vret rfl dX4_noteGuests_103 ?_
  refine ⟨rfl, hs2, ?_⟩
  rw [h2]
  exact zs_for_rel (fun _ A B => zs_ag 8 A B) n 0 _ _ (fun j A B _ hj h => zs_gd_agG (t + 1) _ _ _ h (hI.2.2 j (Nat.lt_of_lt_of_le (by omega) hI.1))) hz1
def zs_inf (G : Nat → Int32) (i : Nat) (s : Int32 × Int32) : Int32 × Int32 := if s.2 < zs_bc (G i) then (nI i, zs_bc (G i)) else s
theorem zs_inf_ag {G G' : Nat → Int32} (h : zs_ag 8 G G') (s : Int32 × Int32) : zs_for (zs_inf G) 8 0 s = zs_for (zs_inf G') 8 0 s := zs_for_rel (fun _ a b => a = b) 8 0 s s (fun j a b _ hj e => by subst e; unfold zs_inf; rw [h j (by omega)]) rfl
set_option maxRecDepth 100000 in
set_option maxHeartbeats 4000000 in
theorem lX4_inn {l : Launch} {M : zk_M} {L : zk_L} {x : Int32} {Q : Option Value → zk_M → zk_L → Prop} : ∀ (m i : Nat) (b s : Int32), i + m = 8 → zk_R l zc 5 muX4_inn 87 [some (.ref 0), none, some (.int x), none, some (.int (zs_for (zs_inf (M 43)) m i (b, s)).1), some (.int (zs_for (zs_inf (M 43)) m i (b, s)).2), none, none] [] M L Q → zk_R l zc 5 muX4_inn 47 [some (.ref 0), none, some (.int x), none, some (.int b), some (.int s), some (.int (nI i)), none] [] M L Q := by
  intro m
  induction m with
  | zero =>
    intro i b s hi k
    obtain rfl : i = 8 := by omega
    refine zk_iload dX4_inn_47 rfl ?_
    refine zk_bipush (v := 8) dX4_inn_49 (by decide) ?_
    refine zk_icmp_ge (tgt := 87) dX4_inn_51 (by decide) (fun _ => ?_) (fun q => absurd (by decide) q)
    refine zk_forget ?_ k
    exact ⟨Or.inr rfl, Or.inl rfl, Or.inr rfl, Or.inl rfl, Or.inr rfl, Or.inr rfl, Or.inl rfl, Or.inl rfl, trivial⟩
  | succ m ih =>
    intro i b s hi k
    have hi8 : i < 8 := by omega
    refine zk_iload dX4_inn_47 rfl ?_
    refine zk_bipush dX4_inn_49 zb_8 ?_
    refine zk_icmp_ge (tgt := 87) dX4_inn_51 (by decide) (fun h51 => absurd h51 (nI_ge (b := 8) hi8 (by decide))) (fun _ => ?_)
    refine zk_aload_n dX4_inn_54 rfl ?_
    refine zk_getRc (q := 43) dX4_inn_55 fl_X4_53 (by decide : 0 < zc.1) rfl rfl rfl ?_
    refine zk_iload dX4_inn_58 rfl ?_
    refine zk_iald (j := i) dX4_inn_60 (by decide : 43 < zc.1) rfl (zs_in rfl (vp_in_nI hi8 (by decide))) (nI_clamp (Nat.lt_trans hi8 (by decide))) ?_
    refine zk_cSi (qJ6_bitCount_0f7a4) dX4_inn_61 miJ6_bitCount_0f7a4 ml_X4_158 stJ6_bitCount_0f7a4 rfl (by decide) rfl (Nat.le_of_ble_eq_true rfl) ?_
    refine zk_istore dX4_inn_64 zk_S_7 ?_
    refine zk_iload dX4_inn_66 rfl ?_
    refine zk_iload dX4_inn_68 rfl ?_
    refine zk_icmp_le (tgt := 81) dX4_inn_70 (by decide) (fun h70 => ?_) (fun h70 => ?_)
    · refine zk_iinc dX4_inn_81 zc_1 rfl zk_S_6 ?_
      refine zk_goto (tgt := 47) dX4_inn_84 (by decide) ?_
      rw [← nI_succ]
      first
        | exact zk_forget (ls' := [some (.ref 0), none, some (.int x), none, some (.int (nI i)), some (.int (zs_bc (M 43 i))), some (.int (nI (i + 1))), none]) ⟨Or.inr rfl, Or.inl rfl, Or.inr rfl, Or.inl rfl, Or.inr rfl, Or.inr rfl, Or.inr rfl, Or.inl rfl, trivial⟩ (ih (i + 1) (nI i) (zs_bc (M 43 i)) (by omega) (by
            have e : zs_inf (M 43) i (b, s) = (nI i, zs_bc (M 43 i)) := if_pos (Int32.not_le.mp h70)
            rw [zs_for, e] at k
            exact k))
        | exact zk_forget (ls' := [some (.ref 0), none, some (.int x), none, some (.int b), some (.int s), some (.int (nI (i + 1))), none]) ⟨Or.inr rfl, Or.inl rfl, Or.inr rfl, Or.inl rfl, Or.inr rfl, Or.inr rfl, Or.inr rfl, Or.inl rfl, trivial⟩ (ih (i + 1) b s (by omega) (by
            have e : zs_inf (M 43) i (b, s) = (b, s) := if_neg (Int32.not_lt.mpr h70)
            rw [zs_for, e] at k
            exact k))
    · refine zk_iload dX4_inn_73 rfl ?_
      refine zk_istore dX4_inn_75 zk_S_5 ?_
      refine zk_iload dX4_inn_77 rfl ?_
      refine zk_istore dX4_inn_79 zk_S_4 ?_
      refine zk_iinc dX4_inn_81 zc_1 rfl zk_S_6 ?_
      refine zk_goto (tgt := 47) dX4_inn_84 (by decide) ?_
      rw [← nI_succ]
      first
        | exact zk_forget (ls' := [some (.ref 0), none, some (.int x), none, some (.int (nI i)), some (.int (zs_bc (M 43 i))), some (.int (nI (i + 1))), none]) ⟨Or.inr rfl, Or.inl rfl, Or.inr rfl, Or.inl rfl, Or.inr rfl, Or.inr rfl, Or.inr rfl, Or.inl rfl, trivial⟩ (ih (i + 1) (nI i) (zs_bc (M 43 i)) (by omega) (by
            have e : zs_inf (M 43) i (b, s) = (nI i, zs_bc (M 43 i)) := if_pos (Int32.not_le.mp h70)
            rw [zs_for, e] at k
            exact k))
        | exact zk_forget (ls' := [some (.ref 0), none, some (.int x), none, some (.int b), some (.int s), some (.int (nI (i + 1))), none]) ⟨Or.inr rfl, Or.inl rfl, Or.inr rfl, Or.inl rfl, Or.inr rfl, Or.inr rfl, Or.inr rfl, Or.inl rfl, trivial⟩ (ih (i + 1) b s (by omega) (by
            have e : zs_inf (M 43) i (b, s) = (b, s) := if_neg (Int32.not_lt.mpr h70)
            rw [zs_for, e] at k
            exact k))
set_option maxRecDepth 100000 in
set_option maxHeartbeats 4000000 in
theorem qX4_inn_r4 {l : Launch} {M : zk_M} {L : zk_L} {t x : Int32} (ht : t < 0) : zk_C l zc 5 muX4_inn [.ref 0, .int t, .int x] M L (zq_i (-4) (zs_ref M 4)) := by
  refine zk_ofR (ls := [some (.ref 0), some (.int t), some (.int x), none, none, none, none, none]) (by decide) rfl (Nat.le_of_ble_eq_true rfl) rfl ?_
  refine zk_iload_n dX4_inn_0 rfl ?_
  refine zk_iconst dX4_inn_1 zc_0 ?_
  refine zk_bipush dX4_inn_2 zb_30 ?_
  refine zk_cSi (qX4_refusalOfNumber) dX4_inn_4 miX4_refusalOfNumber ml_X4_163 stX4_refusalOfNumber rfl (by decide) rfl (Nat.le_of_ble_eq_true rfl) ?_
  rw [if_pos ht]
  refine zk_istore_n dX4_inn_7 zk_S_3 ?_
  refine zk_iload_n dX4_inn_8 rfl ?_
  refine zk_if_eq (tgt := 18) dX4_inn_9 (by decide) (fun h9 => absurd h9 (by decide)) (fun _ => ?_)
  refine zk_aload_n dX4_inn_12 rfl ?_
  refine zk_iload_n dX4_inn_13 rfl ?_
  refine zk_cVi (qrf4) dX4_inn_14 mwX4_refuse ml_X4_63 (by decide : 0 < zc.1) rfl rfl (by decide) rfl (Nat.le_of_ble_eq_true rfl) ?_
  refine zk_iret rfl dX4_inn_17 ?_
  exact ⟨rfl, zs_same.rf⟩
set_option maxRecDepth 100000 in
set_option maxHeartbeats 4000000 in
theorem qX4_inn_r6 {l : Launch} {M : zk_M} {L : zk_L} {t x : Int32} (ht : ¬ t < 0) (h6 : 30 < t) : zk_C l zc 5 muX4_inn [.ref 0, .int t, .int x] M L (zq_i (-6) (zs_ref M 6)) := by
  refine zk_ofR (ls := [some (.ref 0), some (.int t), some (.int x), none, none, none, none, none]) (by decide) rfl (Nat.le_of_ble_eq_true rfl) rfl ?_
  refine zk_iload_n dX4_inn_0 rfl ?_
  refine zk_iconst dX4_inn_1 zc_0 ?_
  refine zk_bipush dX4_inn_2 zb_30 ?_
  refine zk_cSi (qX4_refusalOfNumber) dX4_inn_4 miX4_refusalOfNumber ml_X4_163 stX4_refusalOfNumber rfl (by decide) rfl (Nat.le_of_ble_eq_true rfl) ?_
  rw [if_neg ht, if_pos h6]
  refine zk_istore_n dX4_inn_7 zk_S_3 ?_
  refine zk_iload_n dX4_inn_8 rfl ?_
  refine zk_if_eq (tgt := 18) dX4_inn_9 (by decide) (fun h9 => absurd h9 (by decide)) (fun _ => ?_)
  refine zk_aload_n dX4_inn_12 rfl ?_
  refine zk_iload_n dX4_inn_13 rfl ?_
  refine zk_cVi (qrf6) dX4_inn_14 mwX4_refuse ml_X4_63 (by decide : 0 < zc.1) rfl rfl (by decide) rfl (Nat.le_of_ble_eq_true rfl) ?_
  refine zk_iret rfl dX4_inn_17 ?_
  exact ⟨rfl, zs_same.rf⟩
set_option maxRecDepth 100000 in
set_option maxHeartbeats 4000000 in
theorem qX4_inn_r2 {l : Launch} {M : zk_M} {L : zk_L} {t x : Int32} (ht : ¬ t < 0) (h6 : ¬ 30 < t) (hx : ¬ (0 ≤ x ∧ x < 2)) : zk_C l zc 5 muX4_inn [.ref 0, .int t, .int x] M L (zq_i (-2) (zs_ref M 2)) := by
  refine zk_ofR (ls := [some (.ref 0), some (.int t), some (.int x), none, none, none, none, none]) (by decide) rfl (Nat.le_of_ble_eq_true rfl) rfl ?_
  refine zk_iload_n dX4_inn_0 rfl ?_
  refine zk_iconst dX4_inn_1 zc_0 ?_
  refine zk_bipush dX4_inn_2 zb_30 ?_
  refine zk_cSi (qX4_refusalOfNumber) dX4_inn_4 miX4_refusalOfNumber ml_X4_163 stX4_refusalOfNumber rfl (by decide) rfl (Nat.le_of_ble_eq_true rfl) ?_
  rw [if_neg ht, if_neg h6]
  refine zk_istore_n dX4_inn_7 zk_S_3 ?_
  refine zk_iload_n dX4_inn_8 rfl ?_
  refine zk_if_eq (tgt := 18) dX4_inn_9 (by decide) (fun _ => ?_) (fun h9 => absurd (rfl) h9)
  refine zk_iload_n dX4_inn_18 rfl ?_
  refine zk_iconst dX4_inn_19 zc_2 ?_
  refine zk_cSi (qX4_isBelow_f hx) dX4_inn_20 miX4_isBelow ml_X4_149 stX4_isBelow rfl (by decide) rfl (Nat.le_of_ble_eq_true rfl) ?_
  refine zk_if_ne (tgt := 33) dX4_inn_23 (by decide) (fun h23 => absurd (rfl) h23) (fun _ => ?_)
  refine zk_aload_n dX4_inn_26 rfl ?_
  refine zk_bipush dX4_inn_27 zb_m2 ?_
  refine zk_cVi (qrf2) dX4_inn_29 mwX4_refuse ml_X4_63 (by decide : 0 < zc.1) rfl rfl (by decide) rfl (Nat.le_of_ble_eq_true rfl) ?_
  refine zk_iret rfl dX4_inn_32 ?_
  exact ⟨rfl, zs_same.rf⟩
def zs_pk (s : Int32 × Int32) (x : Int32) : Int32 := if x = 0 then s.1 else s.2
set_option maxRecDepth 100000 in
set_option maxHeartbeats 4000000 in
theorem qX4_inn_t {l : Launch} {M : zk_M} {L : zk_L} {n : Nat} (hI : zs_I M n) {t : Nat} (ht : t ≤ 30) {x : Int32} (hx : 0 ≤ x ∧ x < 2) : zk_C l zc 5 muX4_inn [.ref 0, .int (nI t), .int x] M L (zq_i (zs_pk (zs_for (zs_inf (zs_gst M n t)) 8 0 (0, 0)) x) M) := by
  refine zk_ofR (ls := [some (.ref 0), some (.int (nI t)), some (.int x), none, none, none, none, none]) (by decide) rfl (Nat.le_of_ble_eq_true rfl) rfl ?_
  refine zk_iload_n dX4_inn_0 rfl ?_
  refine zk_iconst dX4_inn_1 zc_0 ?_
  refine zk_bipush dX4_inn_2 zb_30 ?_
  refine zk_cSi (qX4_refusalOfNumber) dX4_inn_4 miX4_refusalOfNumber ml_X4_163 stX4_refusalOfNumber rfl (by decide) rfl (Nat.le_of_ble_eq_true rfl) ?_
  rw [if_neg (nI_pos (by omega)), if_neg (show ¬ (30 : Int32) < nI t from nI_nlt (a := 30) ht (by decide))]
  refine zk_istore_n dX4_inn_7 zk_S_3 ?_
  refine zk_iload_n dX4_inn_8 rfl ?_
  refine zk_if_eq (tgt := 18) dX4_inn_9 (by decide) (fun _ => ?_) (fun h9 => absurd (rfl) h9)
  refine zk_iload_n dX4_inn_18 rfl ?_
  refine zk_iconst dX4_inn_19 zc_2 ?_
  refine zk_cSi (qX4_isBelow_t hx) dX4_inn_20 miX4_isBelow ml_X4_149 stX4_isBelow rfl (by decide) rfl (Nat.le_of_ble_eq_true rfl) ?_
  refine zk_if_ne (tgt := 33) dX4_inn_23 (by decide) (fun _ => ?_) (fun h23 => absurd h23 (by decide))
  refine zk_aload_n dX4_inn_33 rfl ?_
  refine zk_iload_n dX4_inn_34 rfl ?_
  refine zk_callV (qX4_noteGuests hI ht) dX4_inn_35 mwX4_noteGuests ml_X4_204 (by decide : 0 < zc.1) rfl rfl (by decide) rfl (Nat.le_of_ble_eq_true rfl) (fun r1 M1 L1 h1 => ?_)
  obtain ⟨rfl, hs1, hz1⟩ := h1
  refine zk_iconst dX4_inn_38 zc_0 ?_
  refine zk_istore dX4_inn_39 zk_S_4 ?_
  refine zk_iconst dX4_inn_41 zc_0 ?_
  refine zk_istore dX4_inn_42 zk_S_5 ?_
  refine zk_iconst dX4_inn_44 zc_0 ?_
  refine zk_istore dX4_inn_45 zk_S_6 ?_
  refine zk_forget (ls' := [some (.ref 0), none, some (.int x), none, some (.int 0), some (.int 0), some (.int (nI 0)), none]) ⟨Or.inr rfl, Or.inl rfl, Or.inr rfl, Or.inl rfl, Or.inr rfl, Or.inr rfl, Or.inr rfl, Or.inl rfl, trivial⟩ (lX4_inn 8 0 0 0 rfl ?_)
  refine zk_iload_n dX4_inn_87 rfl ?_
  refine zk_if_ne (tgt := 96) dX4_inn_88 (by decide) (fun h88 => ?_) (fun h88 => ?_)
  · refine zk_iload dX4_inn_96 rfl ?_
    refine zk_iret rfl dX4_inn_98 ?_
    exact ⟨congrArg (fun v => some (Value.int v)) (by rw [← zs_inf_ag hz1]; first | exact (if_pos h88).symm | exact (if_neg h88).symm), hs1⟩
  · refine zk_iload dX4_inn_91 rfl ?_
    refine zk_goto (tgt := 98) dX4_inn_93 (by decide) ?_
    refine zk_iret rfl dX4_inn_98 ?_
    exact ⟨congrArg (fun v => some (Value.int v)) (by rw [← zs_inf_ag hz1]; first | exact (if_pos h88).symm | exact (if_neg h88).symm), hs1⟩
/-- the ROW: k numbers -/
def zs_K (M : zk_M) (k : Nat) : Prop := k ≤ 16 ∧ M 0 12 = nI k
set_option maxRecDepth 100000 in
set_option maxHeartbeats 4000000 in
theorem qX4_row_r4 {l : Launch} {M : zk_M} {L : zk_L} {v : Int32} (hv : v < 0) : zk_C l zc 1 muX4_row [.ref 0, .int v] M L (zq_i (-4) (zs_ref M 4)) := by
  refine zk_ofR (ls := [some (.ref 0), some (.int v)]) (by decide) rfl (Nat.le_of_ble_eq_true rfl) rfl ?_
  refine zk_iload_n dX4_row_0 rfl ?_
  refine zk_if_ge (tgt := 11) dX4_row_1 (by decide) (fun h1 => absurd h1 (Int32.not_le.mpr hv)) (fun _ => ?_)
  refine zk_aload_n dX4_row_4 rfl ?_
  refine zk_bipush dX4_row_5 zb_m4 ?_
  refine zk_cVi (qrf4) dX4_row_7 mwX4_refuse ml_X4_63 (by decide : 0 < zc.1) rfl rfl (by decide) rfl (Nat.le_of_ble_eq_true rfl) ?_
  refine zk_iret rfl dX4_row_10 ?_
  exact ⟨rfl, zs_same.rf⟩
set_option maxRecDepth 100000 in
set_option maxHeartbeats 4000000 in
theorem qX4_row_r6 {l : Launch} {M : zk_M} {L : zk_L} {v : Int32} (hv : ¬ v < 0) (hn : ¬ (v ≤ 99 ∧ M 0 12 < 16)) : zk_C l zc 1 muX4_row [.ref 0, .int v] M L (zq_i (-6) (zs_ref M 6)) := by
  refine zk_ofR (ls := [some (.ref 0), some (.int v)]) (by decide) rfl (Nat.le_of_ble_eq_true rfl) rfl ?_
  refine zk_iload_n dX4_row_0 rfl ?_
  refine zk_if_ge (tgt := 11) dX4_row_1 (by decide) (fun _ => ?_) (fun h1 => absurd (Int32.not_lt.mp hv) h1)
  refine zk_iload_n dX4_row_11 rfl ?_
  refine zk_bipush dX4_row_12 zb_99 ?_
  refine zk_icmp_gt (tgt := 26) dX4_row_14 (by decide) (fun h14 => ?_) (fun h14 => ?_)
  · refine zk_aload_n dX4_row_26 rfl ?_
    refine zk_bipush dX4_row_27 zb_m6 ?_
    refine zk_cVi (qrf6) dX4_row_29 mwX4_refuse ml_X4_63 (by decide : 0 < zc.1) rfl rfl (by decide) rfl (Nat.le_of_ble_eq_true rfl) ?_
    refine zk_iret rfl dX4_row_32 ?_
    exact ⟨rfl, zs_same.rf⟩
  · refine zk_aload_n dX4_row_17 rfl ?_
    refine zk_getI dX4_row_18 fl_X4_251 (by decide : 0 < zc.1) rfl rfl ?_
    refine zk_bipush dX4_row_21 zb_16 ?_
    refine zk_icmp_lt (tgt := 33) dX4_row_23 (by decide) (fun h23 => absurd h23 (fun q => hn ⟨Int32.not_lt.mp h14, q⟩)) (fun _ => ?_)
    refine zk_aload_n dX4_row_26 rfl ?_
    refine zk_bipush dX4_row_27 zb_m6 ?_
    refine zk_cVi (qrf6) dX4_row_29 mwX4_refuse ml_X4_63 (by decide : 0 < zc.1) rfl rfl (by decide) rfl (Nat.le_of_ble_eq_true rfl) ?_
    refine zk_iret rfl dX4_row_32 ?_
    exact ⟨rfl, zs_same.rf⟩
def zs_rowM (M : zk_M) (k : Nat) (v : Int32) : zk_M := va_up (va_up M 41 (va_up (M 41) k v)) 0 (va_up (M 0) 12 (nI (k + 1)))
set_option maxRecDepth 100000 in
set_option maxHeartbeats 4000000 in
theorem qX4_row_t {l : Launch} {M : zk_M} {L : zk_L} {k : Nat} (hK : M 0 12 = nI k) (hk : k < 16) {v : Int32} (hv : ¬ v < 0) (h9 : v ≤ 99) : zk_C l zc 1 muX4_row [.ref 0, .int v] M L (zq_i (nI (k + 1)) (zs_rowM M k v)) := by
  refine zk_ofR (ls := [some (.ref 0), some (.int v)]) (by decide) rfl (Nat.le_of_ble_eq_true rfl) rfl ?_
  refine zk_iload_n dX4_row_0 rfl ?_
  refine zk_if_ge (tgt := 11) dX4_row_1 (by decide) (fun _ => ?_) (fun h1 => absurd (Int32.not_lt.mp hv) h1)
  refine zk_iload_n dX4_row_11 rfl ?_
  refine zk_bipush dX4_row_12 zb_99 ?_
  refine zk_icmp_gt (tgt := 26) dX4_row_14 (by decide) (fun h14 => absurd h14 (Int32.not_lt.mpr h9)) (fun _ => ?_)
  refine zk_aload_n dX4_row_17 rfl ?_
  refine zk_getI dX4_row_18 fl_X4_251 (by decide : 0 < zc.1) rfl rfl ?_
  refine zk_bipush dX4_row_21 zb_16 ?_
  rw [hK]
  refine zk_icmp_lt (tgt := 33) dX4_row_23 (by decide) (fun _ => ?_) (fun h23 => absurd (nI_lt (b := 16) hk (by decide)) h23)
  refine zk_aload_n dX4_row_33 rfl ?_
  refine zk_getRc (q := 41) dX4_row_34 fl_X4_46 (by decide : 0 < zc.1) rfl rfl rfl ?_
  refine zk_aload_n dX4_row_37 rfl ?_
  refine zk_getI dX4_row_38 fl_X4_251 (by decide : 0 < zc.1) rfl rfl ?_
  refine zk_iload_n dX4_row_41 rfl ?_
  rw [hK]
  refine zk_iast (j := k) dX4_row_42 (by decide : 41 < zc.1) rfl (zs_in rfl (vp_in_nI hk (by decide))) (nI_clamp (by omega)) ?_
  refine zk_aload_n dX4_row_43 rfl ?_
  refine zk_dup dX4_row_44 rfl ?_
  refine zk_getI dX4_row_45 fl_X4_251 (by decide : 0 < zc.1) rfl rfl ?_
  rw [zk_up_ne (by decide), hK]
  refine zk_iconst dX4_row_48 zc_1 ?_
  refine zk_iadd dX4_row_49 ?_
  rw [← nI_succ]
  refine zk_putG dX4_row_50 fl_X4_251 ft_4_12 rfl rfl (by decide : 0 < zc.1) rfl rfl ?_
  refine zk_aload_n dX4_row_53 rfl ?_
  refine zk_getI dX4_row_54 fl_X4_251 (by decide : 0 < zc.1) rfl rfl ?_
  rw [zk_up_eq, zk_up_eq]
  refine zk_iret rfl dX4_row_57 ?_
  refine ⟨rfl, ?_⟩
  rw [zk_up_ne (show (0 : Nat) ≠ 41 by decide)]
  exact zs_same.rf
def zs_clM (M : zk_M) : zk_M := va_up M 0 (va_up (M 0) 12 0)
set_option maxRecDepth 100000 in
set_option maxHeartbeats 4000000 in
theorem qX4_clear_t {l : Launch} {M : zk_M} {L : zk_L}  : zk_C l zc 1 muX4_clear [.ref 0] M L (zq_i (M 0 12) (zs_clM M)) := by
  refine zk_ofR (ls := [some (.ref 0), none]) (by decide) rfl (Nat.le_of_ble_eq_true rfl) rfl ?_
  refine zk_aload_n dX4_clear_0 rfl ?_
  refine zk_getI dX4_clear_1 fl_X4_251 (by decide : 0 < zc.1) rfl rfl ?_
  refine zk_istore_n dX4_clear_4 zk_S_1 ?_
  refine zk_aload_n dX4_clear_5 rfl ?_
  refine zk_iconst dX4_clear_6 zc_0 ?_
  refine zk_putG dX4_clear_7 fl_X4_251 ft_4_12 rfl rfl (by decide : 0 < zc.1) rfl rfl ?_
  refine zk_iload_n dX4_clear_10 rfl ?_
  refine zk_iret rfl dX4_clear_11 ?_
  exact ⟨rfl, zs_same.rf⟩
def zs_fwr (M : zk_M) (n : Nat) : Nat → Nat → Int32
  | 0, _ => -9
  | m + 1, i => if i < n ∧ M (6 + i) 4 = M 41 i then zs_fwr M n m (i + 1) else nI i
set_option maxRecDepth 100000 in
set_option maxHeartbeats 4000000 in
theorem lX4_fwr {l : Launch} {M : zk_M} {L : zk_L} {n : Nat} (hI : zs_I M n) {kk : Nat} (hK : zs_K M kk) {v : Int32} : ∀ (m i : Nat), i + m = kk → v = zs_fwr M n m i → zk_R l zc 1 muX4_firstWrongInRow 2 [some (.ref 0), some (.int (nI i))] [] M L (zk_Ei v M L) := by
  have hn6 := hI.1
  have hk16 := hK.1
  intro m
  induction m with
  | zero =>
    intro i hi ek
    obtain rfl : i = kk := by omega
    refine zk_iload_n dX4_firstWrongInRow_2 rfl ?_
    refine zk_aload_n dX4_firstWrongInRow_3 rfl ?_
    refine zk_getI dX4_firstWrongInRow_4 fl_X4_251 (by decide) rfl rfl ?_
    rw [hK.2]
    refine zk_icmp_ge (tgt := 50) dX4_firstWrongInRow_7 (by decide) (fun _ => ?_) (fun q => absurd (nI_le (Nat.le_refl _) (by omega)) q)
    refine zk_bipush (v := -9) dX4_firstWrongInRow_50 (by decide) ?_
    refine zk_iret rfl dX4_firstWrongInRow_52 ?_
    exact ⟨by rw [ek]; rfl, rfl, rfl⟩
  | succ m ih =>
    intro i hi ek
    have hik : i < kk := by omega
    refine zk_iload_n dX4_firstWrongInRow_2 rfl ?_
    refine zk_aload_n dX4_firstWrongInRow_3 rfl ?_
    refine zk_getI dX4_firstWrongInRow_4 fl_X4_251 (by decide : 0 < zc.1) rfl rfl ?_
    rw [hK.2]
    refine zk_icmp_ge (tgt := 50) dX4_firstWrongInRow_7 (by decide) (fun h7 => absurd h7 (nI_ge hik (by omega))) (fun _ => ?_)
    refine zk_aload_n dX4_firstWrongInRow_10 rfl ?_
    refine zk_getRc (q := 1) dX4_firstWrongInRow_11 fl_X4_12 (by decide : 0 < zc.1) rfl rfl rfl ?_
    refine zk_iload_n dX4_firstWrongInRow_14 rfl ?_
    refine zk_cVi (q1_hasRider hI) dX4_firstWrongInRow_15 mwX0_hasRider ml_X4_85 (by decide : 1 < zc.1) rfl rfl (by decide) rfl (Nat.le_of_ble_eq_true rfl) ?_
    refine zk_if_eq (tgt := 42) dX4_firstWrongInRow_18 (by decide) (fun h18 => ?_) (fun h18 => ?_)
    · have hr := zs_if0 h18
      refine zk_iload_n dX4_firstWrongInRow_42 rfl ?_
      refine zk_iret rfl dX4_firstWrongInRow_43 ?_
      exact ⟨by rw [ek, zs_fwr, if_neg (by first | exact fun q => h39 q.2 | exact fun q => hr (hI.isr q.1))], rfl, rfl⟩
    · have hr := zs_if1 h18
      have hin : i < n := by
        obtain ⟨q, hq, e⟩ := hI.of hr
        have := zs_nI_inj (by omega) (by omega) e
        omega
      have hi6 : i < 6 := by omega
      refine zk_aload_n dX4_firstWrongInRow_21 rfl ?_
      refine zk_getRc (q := 1) dX4_firstWrongInRow_22 fl_X4_12 (by decide : 0 < zc.1) rfl rfl rfl ?_
      refine zk_getRc (q := 5) dX4_firstWrongInRow_25 fl_X4_89 (by decide : 1 < zc.1) rfl rfl rfl ?_
      refine zk_iload_n dX4_firstWrongInRow_28 rfl ?_
      refine zk_aald (j := i) (q := (6 + i)) dX4_firstWrongInRow_29 (by decide : 5 < zc.1) rfl (zs_in rfl (vp_in_nI hi6 (by decide))) (nI_clamp (by omega)) rfl ?_
      refine zk_getI dX4_firstWrongInRow_30 fl_X4_106 (zc_h6 hi6).1 (zc_h6 hi6).2 rfl ?_
      refine zk_aload_n dX4_firstWrongInRow_33 rfl ?_
      refine zk_getRc (q := 41) dX4_firstWrongInRow_34 fl_X4_46 (by decide : 0 < zc.1) rfl rfl rfl ?_
      refine zk_iload_n dX4_firstWrongInRow_37 rfl ?_
      refine zk_iald (j := i) dX4_firstWrongInRow_38 (by decide : 41 < zc.1) rfl (zs_in rfl (vp_in_nI (show i < 16 by omega) (by decide))) (nI_clamp (by omega)) ?_
      refine zk_icmp_eq (tgt := 44) dX4_firstWrongInRow_39 (by decide) (fun h39 => ?_) (fun h39 => ?_)
      · refine zk_iinc dX4_firstWrongInRow_44 zc_1 rfl zk_S_1 ?_
        refine zk_goto (tgt := 2) dX4_firstWrongInRow_47 (by decide) ?_
        rw [← nI_succ]
        exact ih (i + 1) (by omega) (by rw [ek, zs_fwr, if_pos ⟨hin, h39⟩])
      · refine zk_iload_n dX4_firstWrongInRow_42 rfl ?_
        refine zk_iret rfl dX4_firstWrongInRow_43 ?_
        exact ⟨by rw [ek, zs_fwr, if_neg (by first | exact fun q => h39 q.2 | exact fun q => hr (hI.isr q.1))], rfl, rfl⟩
set_option maxRecDepth 100000 in
set_option maxHeartbeats 4000000 in
theorem qX4_firstWrongInRow {l : Launch} {M : zk_M} {L : zk_L} {n : Nat} (hI : zs_I M n) {kk : Nat} (hK : zs_K M kk) : zk_C l zc 1 muX4_firstWrongInRow [.ref 0] M L (zk_Ei (zs_fwr M n kk 0) M L) := by
  refine zk_ofR (ls := [some (.ref 0), none]) (by decide) rfl (Nat.le_of_ble_eq_true rfl) rfl ?_
  refine zk_iconst dX4_firstWrongInRow_0 zc_0 ?_
  refine zk_istore_n dX4_firstWrongInRow_1 zk_S_1 ?_
  exact lX4_fwr hI hK kk 0 (by omega) rfl
set_option maxRecDepth 100000 in
set_option maxHeartbeats 4000000 in
theorem qX4_judge_t {l : Launch} {M : zk_M} {L : zk_L} {n : Nat} (hI : zs_I M n) {kk : Nat} (hK : zs_K M kk) : zk_C l zc 2 muX4_judge [.ref 0] M L (zq_i (zs_fwr M n kk 0) (zs_clM M)) := by
  refine zk_ofR (ls := [some (.ref 0), none]) (by decide) rfl (Nat.le_of_ble_eq_true rfl) rfl ?_
  refine zk_aload_n dX4_judge_0 rfl ?_
  refine zk_cVi (qX4_firstWrongInRow hI hK) dX4_judge_1 mwX4_firstWrongInRow ml_X4_254 (by decide : 0 < zc.1) rfl rfl (by decide) rfl (Nat.le_of_ble_eq_true rfl) ?_
  refine zk_istore_n dX4_judge_4 zk_S_1 ?_
  refine zk_aload_n dX4_judge_5 rfl ?_
  refine zk_iconst dX4_judge_6 zc_0 ?_
  refine zk_putG dX4_judge_7 fl_X4_251 ft_4_12 rfl rfl (by decide : 0 < zc.1) rfl rfl ?_
  refine zk_iload_n dX4_judge_10 rfl ?_
  refine zk_iret rfl dX4_judge_11 ?_
  exact ⟨rfl, zs_same.rf⟩
