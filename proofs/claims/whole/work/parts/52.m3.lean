theorem zs_put2 {a g : Nat → Int32} {p k : Nat} {v : Int32} (hk : k < 7) : va_up (zs_put a p g) (10 + 7 * p + k) v = zs_put a p (va_up g k v) := by
  rw [zs_put1 hk, zs_put_put]
  exact zs_put_cg (zs_ag.up zs_get_put)
theorem zs_put_at {a g : Nat → Int32} {p k : Nat} (hk : k < 7) : zs_put a p g (10 + 7 * p + k) = g k := zs_get_put k hk
def zs_wput (a : Nat → Int32) (p : Nat) : Nat → Int32 := zs_put a p (zs_wear (zs_get a p))
def zs_rput (T a : Nat → Int32) (p : Nat) : Nat → Int32 := zs_put a p (zs_ride (zs_J a) T (zs_get a p))
def zs_dput (T : Nat → Int32) (d : Int32) (p : Nat) (a : Nat → Int32) : Nat → Int32 := if d = 0 then zs_rput T a p else zs_wput a p
def zs_dayA (T : Nat → Int32) (d : Int32) (n : Nat) (a : Nat → Int32) : Nat → Int32 := zs_for (zs_dput T d) n 0 (va_up a 1 (a 1 + 1))
theorem zs_rput_eq {T a : Nat → Int32} {p : Nat} (ok : zs_ok (zs_get a p)) : va_up (zs_wput a p) (10 + 7 * p + 4) (zs_nx (zs_J (zs_wput a p)) T (zs_get (zs_wput a p) p) (zs_get (zs_wput a p) p 4) 8 0 (zs_get (zs_wput a p) p 4)) = zs_rput T a p := by
  have hg : zs_ag 7 (zs_get (zs_wput a p) p) (zs_wear (zs_get a p)) := zs_get_put
  have okw := zs_wear_ok ok
  have okg := zs_ok_ag hg.sm okw
  unfold zs_rput zs_ride
  rw [zs_nx_ag (show zs_ag 8 (zs_J (zs_wput a p)) (zs_J a) from zs_J_put) zs_ag.rf hg okg.2.2 okg 8 0 _ (by decide) okg.2.2, hg 4 (by decide)]
  exact zs_put2 (by decide)
theorem zs_A.wput {a : Nat → Int32} {n p : Nat} (h : zs_A a n) (hp : p < 6) : zs_A (zs_wput a p) n := h.put (zs_wear_okk (h.2.2 p hp))
theorem zs_A.rput {T a : Nat → Int32} {n p : Nat} (h : zs_A a n) (hp : p < 6) : zs_A (zs_rput T a p) n := h.put (zs_ride_okk (h.2.2 p hp))
theorem zs_A.dput {T a : Nat → Int32} {d : Int32} {n p : Nat} (h : zs_A a n) (hp : p < 6) : zs_A (zs_dput T d p a) n := by
  unfold zs_dput
  split
  · exact h.rput hp
  · exact h.wput hp
theorem zs_A.day1 {a : Nat → Int32} {n : Nat} {v : Int32} (h : zs_A a n) : zs_A (va_up a 1 v) n := ⟨h.1, by rw [zk_up_ne (by decide)]; exact h.2.1, fun p hp => zs_okk_ag (fun i hi => by show a (10 + 7 * p + i) = va_up a 1 v (10 + 7 * p + i); rw [zk_up_ne (by omega)]) (h.2.2 p hp)⟩
theorem zs_A.dayA {T a : Nat → Int32} {d : Int32} {n : Nat} (h : zs_A a n) : zs_A (zs_dayA T d n a) n :=
  zs_for_rel (fun _ (a : Nat → Int32) (_ : Unit) => zs_A a n) n 0 _ () (g := fun _ u => u) (fun j A _ _ hj hA => hA.dput (Nat.lt_of_lt_of_le (by omega) h.1)) h.day1
set_option maxRecDepth 100000 in
set_option maxHeartbeats 4000000 in
theorem lX5_day {l : Launch} {L : zk_L} {r : Nat} (hr : zs_a zm r 52) (hr5 : r ≠ 5) {d : Int32} {n : Nat} {Q : Option Value → zk_M → zk_L → Prop} : ∀ (m p : Nat) (M : zk_M), p + m = n → zs_A (M r) n → zk_R l zm 3 muX5_day 114 [some (.ref 0), some (.ref r), some (.int d), none, none] [] (va_up M r (zs_for (zs_dput (M 5) d) m p (M r))) L Q → zk_R l zm 3 muX5_day 9 [some (.ref 0), some (.ref r), some (.int d), some (.int (nI p)), none] [] M L Q := by
  intro m
  induction m with
  | zero =>
    intro p M hpm hA k
    have hn6 := hA.1
    obtain rfl : p = n := by omega
    refine zk_iload_n dX5_day_9 rfl ?_
    refine zk_aload_n dX5_day_10 rfl ?_
    refine zk_iconst dX5_day_11 zc_0 ?_
    refine zk_iald (j := 0) dX5_day_12 hr.1 hr.2.1 (zs_in hr.2.2 (vp_in_iff.mpr (by decide))) (by decide) ?_
    rw [hA.2.1]
    refine zk_icmp_ge (tgt := 114) dX5_day_13 (by decide) (fun _ => ?_) (fun q => absurd (nI_le (Nat.le_refl _) (by omega)) q)
    rw [zs_for, zs_up_self] at k
    refine zk_forget ?_ k
    exact ⟨Or.inr rfl, Or.inr rfl, Or.inr rfl, Or.inl rfl, Or.inl rfl, trivial⟩
  | succ m ih =>
    intro p M hpm hA k
    have hn6 := hA.1
    have hp : p < n := by omega
    have hp6 : p < 6 := by omega
    have JJ : zk_R l zm 3 muX5_day 98 [some (.ref 0), some (.ref r), some (.int d), some (.int (nI p)), none] [] (va_up M r (zs_wput (M r) p)) L Q := by
      refine zk_iload_n dX5_day_98 rfl ?_
      refine zk_if_ne (tgt := 108) dX5_day_99 (by decide) (fun h99 => ?_) (fun h99 => ?_)
      · refine zk_iinc dX5_day_108 zc_1 rfl zk_S_3 ?_
        refine zk_goto (tgt := 9) dX5_day_111 (by decide) ?_
        rw [← nI_succ]
        first
          | (refine zk_post (M' := va_up M r (zs_dput (M 5) d p (M r))) ?_ rfl ?_
             · rw [zk_up_eq, zs_up2, zk_up_ne (Ne.symm hr5), zs_rput_eq (hA.2.2 p hp6).1, zs_dput, if_pos (h99)]
             refine zk_forget ?_ (ih (p + 1) _ (by omega) (by rw [zk_up_eq]; exact hA.dput hp6) ?_)
             · exact ⟨Or.inr rfl, Or.inr rfl, Or.inr rfl, Or.inr rfl, Or.inl rfl, trivial⟩
             · rw [zs_up2, zk_up_eq, zk_up_ne (Ne.symm hr5)]
               exact k)
          | (refine zk_post (M' := va_up M r (zs_dput (M 5) d p (M r))) ?_ rfl ?_
             · rw [zs_dput, if_neg h99]
             refine zk_forget ?_ (ih (p + 1) _ (by omega) (by rw [zk_up_eq]; exact hA.dput hp6) ?_)
             · exact ⟨Or.inr rfl, Or.inr rfl, Or.inr rfl, Or.inr rfl, Or.inl rfl, trivial⟩
             · rw [zs_up2, zk_up_eq, zk_up_ne (Ne.symm hr5)]
               exact k)
      · refine zk_aload_n dX5_day_102 rfl ?_
        refine zk_aload_n dX5_day_103 rfl ?_
        refine zk_iload_n dX5_day_104 rfl ?_
        refine zk_cVv (qX5_goes hr hp6 (by rw [zk_up_eq]; exact (hA.wput hp6).2.2 p hp6 |>.1)) dX5_day_105 mwX5_goes ml_X5_68 (by decide : 0 < zm.1) rfl rfl (by decide) rfl (Nat.le_of_ble_eq_true rfl) ?_
        refine zk_iinc dX5_day_108 zc_1 rfl zk_S_3 ?_
        refine zk_goto (tgt := 9) dX5_day_111 (by decide) ?_
        rw [← nI_succ]
        first
          | (refine zk_post (M' := va_up M r (zs_dput (M 5) d p (M r))) ?_ rfl ?_
             · rw [zk_up_eq, zs_up2, zk_up_ne (Ne.symm hr5), zs_rput_eq (hA.2.2 p hp6).1, zs_dput, if_pos (h99)]
             refine zk_forget ?_ (ih (p + 1) _ (by omega) (by rw [zk_up_eq]; exact hA.dput hp6) ?_)
             · exact ⟨Or.inr rfl, Or.inr rfl, Or.inr rfl, Or.inr rfl, Or.inl rfl, trivial⟩
             · rw [zs_up2, zk_up_eq, zk_up_ne (Ne.symm hr5)]
               exact k)
          | (refine zk_post (M' := va_up M r (zs_dput (M 5) d p (M r))) ?_ rfl ?_
             · rw [zs_dput, if_neg h99]
             refine zk_forget ?_ (ih (p + 1) _ (by omega) (by rw [zk_up_eq]; exact hA.dput hp6) ?_)
             · exact ⟨Or.inr rfl, Or.inr rfl, Or.inr rfl, Or.inr rfl, Or.inl rfl, trivial⟩
             · rw [zs_up2, zk_up_eq, zk_up_ne (Ne.symm hr5)]
               exact k)
    refine zk_iload_n dX5_day_9 rfl ?_
    refine zk_aload_n dX5_day_10 rfl ?_
    refine zk_iconst dX5_day_11 zc_0 ?_
    refine zk_iald (j := 0) dX5_day_12 hr.1 hr.2.1 (zs_in hr.2.2 (vp_in_iff.mpr (by decide))) (by decide) ?_
    rw [hA.2.1]
    refine zk_icmp_ge (tgt := 114) dX5_day_13 (by decide) (fun h13 => absurd h13 (nI_ge hp (by omega))) (fun _ => ?_)
    refine zk_aload_n dX5_day_16 rfl ?_
    refine zk_iload_n dX5_day_17 rfl ?_
    refine zk_bipush dX5_day_18 zb_6 ?_
    refine zk_cSi (qX5_of (p := p) (k := 6)) dX5_day_20 miX5_of ml_X5_58 stX5_of rfl (by decide) rfl (Nat.le_of_ble_eq_true rfl) ?_
    refine zk_bipush dX5_day_23 zb_99 ?_
    refine zk_aload_n dX5_day_25 rfl ?_
    refine zk_iload_n dX5_day_26 rfl ?_
    refine zk_bipush dX5_day_27 zb_6 ?_
    refine zk_cSi (qX5_of (p := p) (k := 6)) dX5_day_29 miX5_of ml_X5_58 stX5_of rfl (by decide) rfl (Nat.le_of_ble_eq_true rfl) ?_
    refine zk_iald (j := 10 + 7 * p + 6) dX5_day_32 hr.1 hr.2.1 (zs_in hr.2.2 (vp_in_nI (zs_7p hp6 (show 6 < 7 by decide)) (by decide))) (nI_clamp (by omega)) ?_
    refine zk_iconst dX5_day_33 zc_1 ?_
    refine zk_iadd dX5_day_34 ?_
    refine zk_cSi (qX5_least') dX5_day_35 miX5_least ml_X5_54 stX5_least rfl (by decide) rfl (Nat.le_of_ble_eq_true rfl) ?_
    rw [zs_min_w]
    refine zk_iast (j := 10 + 7 * p + 6) dX5_day_38 hr.1 hr.2.1 (zs_in hr.2.2 (vp_in_nI (zs_7p hp6 (show 6 < 7 by decide)) (by decide))) (nI_clamp (by omega)) ?_
    rw [zs_put1 (show 6 < 7 by decide)]
    refine zk_aload_n dX5_day_39 rfl ?_
    refine zk_iload_n dX5_day_40 rfl ?_
    refine zk_iconst dX5_day_41 zc_0 ?_
    refine zk_cSi (qX5_of (p := p) (k := 0)) dX5_day_42 miX5_of ml_X5_58 stX5_of rfl (by decide) rfl (Nat.le_of_ble_eq_true rfl) ?_
    refine zk_iald (j := 10 + 7 * p + 0) dX5_day_45 hr.1 hr.2.1 (zs_in hr.2.2 (vp_in_nI (zs_7p hp6 (show 0 < 7 by decide)) (by decide))) (nI_clamp (by omega)) ?_
    rw [zk_up_eq, zs_put_at (by decide), zk_up_ne (by decide)]
    refine zk_aload_n dX5_day_46 rfl ?_
    refine zk_iload_n dX5_day_47 rfl ?_
    refine zk_iconst dX5_day_48 zc_1 ?_
    refine zk_cSi (qX5_of (p := p) (k := 1)) dX5_day_49 miX5_of ml_X5_58 stX5_of rfl (by decide) rfl (Nat.le_of_ble_eq_true rfl) ?_
    refine zk_iald (j := 10 + 7 * p + 1) dX5_day_52 hr.1 hr.2.1 (zs_in hr.2.2 (vp_in_nI (zs_7p hp6 (show 1 < 7 by decide)) (by decide))) (nI_clamp (by omega)) ?_
    rw [zk_up_eq, zs_put_at (by decide), zk_up_ne (by decide)]
    refine zk_cSi (qX5_daysBy (hA.2.2 p hp6).2) dX5_day_53 miX5_daysBy ml_X5_65 stX5_daysBy rfl (by decide) rfl (Nat.le_of_ble_eq_true rfl) ?_
    refine zk_istore dX5_day_56 zk_S_4 ?_
    refine zk_iload dX5_day_58 rfl ?_
    refine zk_if_le (tgt := 98) dX5_day_60 (by decide) (fun h60 => ?_) (fun h60 => ?_)
    · refine zk_forget (ls' := [some (.ref 0), some (.ref r), some (.int d), some (.int (nI p)), none]) ⟨Or.inr rfl, Or.inr rfl, Or.inr rfl, Or.inr rfl, Or.inl rfl, trivial⟩ (zk_post ?_ rfl JJ)
      congr 1
      unfold zs_wput
      congr 1
      first | exact (if_neg (fun q => absurd q.1 (Int32.not_lt.mpr h60))).symm | exact (if_neg (fun q => h74 q.2.1)).symm | exact (if_neg (fun q => absurd q.2.2 (Int32.not_lt.mpr h84))).symm | exact (if_pos ⟨Int32.not_le.mp h60, h74, Int32.not_le.mp h84⟩).symm
    · refine zk_aload_n dX5_day_63 rfl ?_
      refine zk_iload_n dX5_day_64 rfl ?_
      refine zk_bipush dX5_day_65 zb_6 ?_
      refine zk_cSi (qX5_of (p := p) (k := 6)) dX5_day_67 miX5_of ml_X5_58 stX5_of rfl (by decide) rfl (Nat.le_of_ble_eq_true rfl) ?_
      refine zk_iald (j := 10 + 7 * p + 6) dX5_day_70 hr.1 hr.2.1 (zs_in hr.2.2 (vp_in_nI (zs_7p hp6 (show 6 < 7 by decide)) (by decide))) (nI_clamp (by omega)) ?_
      rw [zk_up_eq, zs_put_at (by decide), zk_up_eq]
      refine zk_iload dX5_day_71 rfl ?_
      refine zk_irem dX5_day_73 (fun e => h60 (by rw [e]; decide)) ?_
      refine zk_if_ne (tgt := 98) dX5_day_74 (by decide) (fun h74 => ?_) (fun h74 => ?_)
      · refine zk_forget (ls' := [some (.ref 0), some (.ref r), some (.int d), some (.int (nI p)), none]) ⟨Or.inr rfl, Or.inr rfl, Or.inr rfl, Or.inr rfl, Or.inl rfl, trivial⟩ (zk_post ?_ rfl JJ)
        congr 1
        unfold zs_wput
        congr 1
        first | exact (if_neg (fun q => absurd q.1 (Int32.not_lt.mpr h60))).symm | exact (if_neg (fun q => h74 q.2.1)).symm | exact (if_neg (fun q => absurd q.2.2 (Int32.not_lt.mpr h84))).symm | exact (if_pos ⟨Int32.not_le.mp h60, h74, Int32.not_le.mp h84⟩).symm
      · refine zk_aload_n dX5_day_77 rfl ?_
        refine zk_iload_n dX5_day_78 rfl ?_
        refine zk_iconst dX5_day_79 zc_5 ?_
        refine zk_cSi (qX5_of (p := p) (k := 5)) dX5_day_80 miX5_of ml_X5_58 stX5_of rfl (by decide) rfl (Nat.le_of_ble_eq_true rfl) ?_
        refine zk_iald (j := 10 + 7 * p + 5) dX5_day_83 hr.1 hr.2.1 (zs_in hr.2.2 (vp_in_nI (zs_7p hp6 (show 5 < 7 by decide)) (by decide))) (nI_clamp (by omega)) ?_
        rw [zk_up_eq, zs_put_at (by decide), zk_up_ne (by decide)]
        refine zk_if_le (tgt := 98) dX5_day_84 (by decide) (fun h84 => ?_) (fun h84 => ?_)
        · refine zk_forget (ls' := [some (.ref 0), some (.ref r), some (.int d), some (.int (nI p)), none]) ⟨Or.inr rfl, Or.inr rfl, Or.inr rfl, Or.inr rfl, Or.inl rfl, trivial⟩ (zk_post ?_ rfl JJ)
          congr 1
          unfold zs_wput
          congr 1
          first | exact (if_neg (fun q => absurd q.1 (Int32.not_lt.mpr h60))).symm | exact (if_neg (fun q => h74 q.2.1)).symm | exact (if_neg (fun q => absurd q.2.2 (Int32.not_lt.mpr h84))).symm | exact (if_pos ⟨Int32.not_le.mp h60, h74, Int32.not_le.mp h84⟩).symm
        · refine zk_aload_n dX5_day_87 rfl ?_
          refine zk_iload_n dX5_day_88 rfl ?_
          refine zk_iconst dX5_day_89 zc_5 ?_
          refine zk_cSi (qX5_of (p := p) (k := 5)) dX5_day_90 miX5_of ml_X5_58 stX5_of rfl (by decide) rfl (Nat.le_of_ble_eq_true rfl) ?_
          refine zk_dup2 dX5_day_93 rfl rfl ?_
          refine zk_iald (j := 10 + 7 * p + 5) dX5_day_94 hr.1 hr.2.1 (zs_in hr.2.2 (vp_in_nI (zs_7p hp6 (show 5 < 7 by decide)) (by decide))) (nI_clamp (by omega)) ?_
          rw [zk_up_eq, zs_put_at (by decide), zk_up_ne (by decide)]
          refine zk_iconst dX5_day_95 zc_1 ?_
          refine zk_isub dX5_day_96 ?_
          refine zk_iast (j := 10 + 7 * p + 5) dX5_day_97 hr.1 hr.2.1 (zs_in hr.2.2 (vp_in_nI (zs_7p hp6 (show 5 < 7 by decide)) (by decide))) (nI_clamp (by omega)) ?_
          rw [zk_up_eq, zs_up2, zs_put2 (by decide)]
          refine zk_forget (ls' := [some (.ref 0), some (.ref r), some (.int d), some (.int (nI p)), none]) ⟨Or.inr rfl, Or.inr rfl, Or.inr rfl, Or.inr rfl, Or.inl rfl, trivial⟩ (zk_post ?_ rfl JJ)
          congr 1
          unfold zs_wput
          congr 1
          first | exact (if_neg (fun q => absurd q.1 (Int32.not_lt.mpr h60))).symm | exact (if_neg (fun q => h74 q.2.1)).symm | exact (if_neg (fun q => absurd q.2.2 (Int32.not_lt.mpr h84))).symm | exact (if_pos ⟨Int32.not_le.mp h60, h74, Int32.not_le.mp h84⟩).symm
set_option maxRecDepth 100000 in
set_option maxHeartbeats 4000000 in
theorem qX5_day {l : Launch} {M : zk_M} {L : zk_L} {r : Nat} (hr : zs_a zm r 52) (hr5 : r ≠ 5) {n : Nat} (hA : zs_A (M r) n) {d : Int32} : zk_C l zm 3 muX5_day [.ref 0, .ref r, .int d] M L (zk_Ev (va_up M r (zs_dayA (M 5) d n (M r))) L) := by
  refine zk_ofR (ls := [some (.ref 0), some (.ref r), some (.int d), none, none]) (by decide) rfl (Nat.le_of_ble_eq_true rfl) rfl ?_
  refine zk_aload_n dX5_day_0 rfl ?_
  refine zk_iconst dX5_day_1 zc_1 ?_
  refine zk_dup2 dX5_day_2 rfl rfl ?_
  refine zk_iald (j := 1) dX5_day_3 hr.1 hr.2.1 (zs_in hr.2.2 (vp_in_iff.mpr (by decide))) (by decide) ?_
  refine zk_iconst dX5_day_4 zc_1 ?_
  refine zk_iadd dX5_day_5 ?_
  refine zk_iast (j := 1) dX5_day_6 hr.1 hr.2.1 (zs_in hr.2.2 (vp_in_iff.mpr (by decide))) (by decide) ?_
  refine zk_iconst dX5_day_7 zc_0 ?_
  refine zk_istore_n dX5_day_8 zk_S_3 ?_
  refine lX5_day hr hr5 (n := n) n 0 _ (by omega) (by rw [zk_up_eq]; exact hA.day1) ?_
  rw [zs_up2, zk_up_eq, zk_up_ne (Ne.symm hr5)]
  refine zk_vret rfl dX5_day_114 ?_
  exact ⟨rfl, rfl, rfl⟩
def zs_daysA (T : Nat → Int32) (n : Nat) : Nat → (Nat → Int32) → Nat → Int32
  | 0, a => a
  | t + 1, a => zs_daysA T n t (zs_dayA T 0 n a)
theorem zs_A.daysA {T : Nat → Int32} {n : Nat} : ∀ (t : Nat) (a : Nat → Int32), zs_A a n → zs_A (zs_daysA T n t a) n
  | 0, _, h => h
  | t + 1, _, h => zs_A.daysA t _ h.dayA
set_option maxRecDepth 100000 in
set_option maxHeartbeats 4000000 in
theorem lX5_daysOn {l : Launch} {L : zk_L} {r : Nat} (hr : zs_a zm r 52) (hr5 : r ≠ 5) {n t : Nat} (ht : t < 2 ^ 31) {Q : Option Value → zk_M → zk_L → Prop} : ∀ (m i : Nat) (M : zk_M), i + m = t → zs_A (M r) n → zk_R l zm 4 muX5_daysOn 24 [some (.ref 0), some (.ref r), none, none] [] (va_up M r (zs_daysA (M 5) n m (M r))) L Q → zk_R l zm 4 muX5_daysOn 7 [some (.ref 0), some (.ref r), some (.int (nI t)), some (.int (nI i))] [] M L Q := by
  intro m
  induction m with
  | zero =>
    intro i M hi hA k
    obtain rfl : i = t := by omega
    refine zk_iload_n dX5_daysOn_7 rfl ?_
    refine zk_iload_n dX5_daysOn_8 rfl ?_
    refine zk_icmp_ge (tgt := 24) dX5_daysOn_9 (by decide) (fun _ => ?_) (fun q => absurd (nI_le (Nat.le_refl _) ht) q)
    rw [zs_daysA, zs_up_self] at k
    refine zk_forget ?_ k
    exact ⟨Or.inr rfl, Or.inr rfl, Or.inl rfl, Or.inl rfl, trivial⟩
  | succ m ih =>
    intro i M hi hA k
    have hi : i < t := by omega
    refine zk_iload_n dX5_daysOn_7 rfl ?_
    refine zk_iload_n dX5_daysOn_8 rfl ?_
    refine zk_icmp_ge (tgt := 24) dX5_daysOn_9 (by decide) (fun h9 => absurd h9 (nI_ge hi (by omega))) (fun _ => ?_)
    refine zk_aload_n dX5_daysOn_12 rfl ?_
    refine zk_aload_n dX5_daysOn_13 rfl ?_
    refine zk_iconst dX5_daysOn_14 zc_0 ?_
    refine zk_cVv (qX5_day hr hr5 hA) dX5_daysOn_15 mwX5_day ml_X5_76 (by decide : 0 < zm.1) rfl rfl (by decide) rfl (Nat.le_of_ble_eq_true rfl) ?_
    refine zk_iinc dX5_daysOn_18 zc_1 rfl zk_S_3 ?_
    refine zk_goto (tgt := 7) dX5_daysOn_21 (by decide) ?_
    rw [← nI_succ]
    refine ih (i + 1) _ (by omega) (by rw [zk_up_eq]; exact hA.dayA) ?_
    rw [zs_up2, zk_up_eq, zk_up_ne (Ne.symm hr5)]
    exact k
set_option maxRecDepth 100000 in
set_option maxHeartbeats 4000000 in
theorem qX5_daysOn {l : Launch} {M : zk_M} {L : zk_L} {r : Nat} (hr : zs_a zm r 52) (hr5 : r ≠ 5) {n : Nat} (hA : zs_A (M r) n) {t : Nat} (ht : t < 2 ^ 31) : zk_C l zm 4 muX5_daysOn [.ref 0, .ref r, .int (nI t)] M L (zk_Ev (va_up (va_up M 5 (zs_fw (zs_J (M r)) (M 5))) r (zs_daysA (zs_fw (zs_J (M r)) (M 5)) n t (M r))) L) := by
  refine zk_ofR (ls := [some (.ref 0), some (.ref r), some (.int (nI t)), none]) (by decide) rfl (Nat.le_of_ble_eq_true rfl) rfl ?_
  refine zk_aload_n dX5_daysOn_0 rfl ?_
  refine zk_aload_n dX5_daysOn_1 rfl ?_
  refine zk_cVv (qX5_measures hr hr5) dX5_daysOn_2 mwX5_measures ml_X5_72 (by decide : 0 < zm.1) rfl rfl (by decide) rfl (Nat.le_of_ble_eq_true rfl) ?_
  refine zk_iconst dX5_daysOn_5 zc_0 ?_
  refine zk_istore_n dX5_daysOn_6 zk_S_3 ?_
  refine lX5_daysOn hr hr5 ht t 0 _ (by omega) (by rw [zk_up_ne hr5]; exact hA) ?_
  rw [zk_up_eq, zk_up_ne hr5]
  refine zk_vret rfl dX5_daysOn_24 ?_
  exact ⟨rfl, rfl, rfl⟩
set_option maxRecDepth 100000 in
set_option maxHeartbeats 4000000 in
theorem qX5_isShod {l : Launch} {σ : zk_Sh} {M : zk_M} {L : zk_L} {r : Nat} (hr : zs_a σ r 52) {p : Nat} (hp : p < 6) (hk : 0 ≤ zs_get (M r) p 0 ∧ zs_get (M r) p 0 < 6) : zk_C l σ 1 muX5_isShod [.ref r, .int (nI p)] M L (zk_Ev (va_up M r (zs_put (M r) p (zs_shod (zs_get (M r) p)))) L) := by
  refine zk_ofR (ls := [some (.ref r), some (.int (nI p))]) (by decide) rfl (Nat.le_of_ble_eq_true rfl) rfl ?_
  refine zk_aload_n dX5_isShod_0 rfl ?_
  refine zk_iload_n dX5_isShod_1 rfl ?_
  refine zk_iconst dX5_isShod_2 zc_5 ?_
  refine zk_cSi (qX5_of (p := p) (k := 5)) dX5_isShod_3 miX5_of ml_X5_58 stX5_of rfl (by decide) rfl (Nat.le_of_ble_eq_true rfl) ?_
  refine zk_aload_n dX5_isShod_6 rfl ?_
  refine zk_iload_n dX5_isShod_7 rfl ?_
  refine zk_iconst dX5_isShod_8 zc_0 ?_
  refine zk_cSi (qX5_of (p := p) (k := 0)) dX5_isShod_9 miX5_of ml_X5_58 stX5_of rfl (by decide) rfl (Nat.le_of_ble_eq_true rfl) ?_
  refine zk_iald (j := 10 + 7 * p + 0) dX5_isShod_12 hr.1 hr.2.1 (zs_in hr.2.2 (vp_in_nI (zs_7p hp (show 0 < 7 by decide)) (by decide))) (nI_clamp (by omega)) ?_
  refine zk_cSi (qX5_shoesBy hk) dX5_isShod_13 miX5_shoesBy ml_X5_80 stX5_shoesBy rfl (by decide) rfl (Nat.le_of_ble_eq_true rfl) ?_
  refine zk_iast (j := 10 + 7 * p + 5) dX5_isShod_16 hr.1 hr.2.1 (zs_in hr.2.2 (vp_in_nI (zs_7p hp (show 5 < 7 by decide)) (by decide))) (nI_clamp (by omega)) ?_
  rw [zs_put1 (show 5 < 7 by decide)]
  refine zk_aload_n dX5_isShod_17 rfl ?_
  refine zk_iload_n dX5_isShod_18 rfl ?_
  refine zk_bipush dX5_isShod_19 zb_6 ?_
  refine zk_cSi (qX5_of (p := p) (k := 6)) dX5_isShod_21 miX5_of ml_X5_58 stX5_of rfl (by decide) rfl (Nat.le_of_ble_eq_true rfl) ?_
  refine zk_iconst dX5_isShod_24 zc_0 ?_
  refine zk_iast (j := 10 + 7 * p + 6) dX5_isShod_25 hr.1 hr.2.1 (zs_in hr.2.2 (vp_in_nI (zs_7p hp (show 6 < 7 by decide)) (by decide))) (nI_clamp (by omega)) ?_
  rw [zk_up_eq, zs_up2, zs_put2 (by decide)]
  refine zk_vret rfl dX5_isShod_26 ?_
  exact ⟨rfl, rfl, rfl⟩
def zs_atf (a : Nat → Int32) (p : Nat) (x : Int32) : Int32 := x ||| (if zs_get a p 4 = zs_get a p 3 then 1 <<< (nI p &&& 31) else 0)
set_option maxRecDepth 100000 in
set_option maxHeartbeats 4000000 in
theorem lX5_atSaid {l : Launch} {σ : zk_Sh} {M : zk_M} {L : zk_L} {r : Nat} (hr : zs_a σ r 52) {n : Nat} (hA : n ≤ 6 ∧ M r 0 = nI n) {Q : Option Value → zk_M → zk_L → Prop} : ∀ (m p : Nat) (x : Int32), p + m = n → zk_R l σ 1 muX5_atSaid 44 [some (.ref r), some (.int (zs_for (zs_atf (M r)) m p x)), none] [] M L Q → zk_R l σ 1 muX5_atSaid 4 [some (.ref r), some (.int x), some (.int (nI p))] [] M L Q := by
  have hn6 := hA.1
  intro m
  induction m with
  | zero =>
    intro p x hpm k
    obtain rfl : p = n := by omega
    refine zk_iload_n dX5_atSaid_4 rfl ?_
    refine zk_aload_n dX5_atSaid_5 rfl ?_
    refine zk_iconst dX5_atSaid_6 zc_0 ?_
    refine zk_iald (j := 0) dX5_atSaid_7 hr.1 hr.2.1 (zs_in hr.2.2 (vp_in_iff.mpr (by decide))) (by decide) ?_
    rw [hA.2]
    refine zk_icmp_ge (tgt := 44) dX5_atSaid_8 (by decide) (fun _ => ?_) (fun q => absurd (nI_le (Nat.le_refl _) (by omega)) q)
    refine zk_forget ?_ k
    exact ⟨Or.inr rfl, Or.inr rfl, Or.inl rfl, trivial⟩
  | succ m ih =>
    intro p x hpm k
    have hpn : p < n := by omega
    have hp : p < 6 := by omega
    refine zk_iload_n dX5_atSaid_4 rfl ?_
    refine zk_aload_n dX5_atSaid_5 rfl ?_
    refine zk_iconst dX5_atSaid_6 zc_0 ?_
    refine zk_iald (j := 0) dX5_atSaid_7 hr.1 hr.2.1 (zs_in hr.2.2 (vp_in_iff.mpr (by decide))) (by decide) ?_
    rw [hA.2]
    refine zk_icmp_ge (tgt := 44) dX5_atSaid_8 (by decide) (fun h8 => absurd h8 (nI_ge hpn (by omega))) (fun _ => ?_)
    refine zk_iload_n dX5_atSaid_11 rfl ?_
    refine zk_aload_n dX5_atSaid_12 rfl ?_
    refine zk_iload_n dX5_atSaid_13 rfl ?_
    refine zk_iconst dX5_atSaid_14 zc_4 ?_
    refine zk_cSi (qX5_of (p := p) (k := 4)) dX5_atSaid_15 miX5_of ml_X5_58 stX5_of rfl (by decide) rfl (Nat.le_of_ble_eq_true rfl) ?_
    refine zk_iald (j := 10 + 7 * p + 4) dX5_atSaid_18 hr.1 hr.2.1 (zs_in hr.2.2 (vp_in_nI (zs_7p hp (show 4 < 7 by decide)) (by decide))) (nI_clamp (by omega)) ?_
    refine zk_aload_n dX5_atSaid_19 rfl ?_
    refine zk_iload_n dX5_atSaid_20 rfl ?_
    refine zk_iconst dX5_atSaid_21 zc_3 ?_
    refine zk_cSi (qX5_of (p := p) (k := 3)) dX5_atSaid_22 miX5_of ml_X5_58 stX5_of rfl (by decide) rfl (Nat.le_of_ble_eq_true rfl) ?_
    refine zk_iald (j := 10 + 7 * p + 3) dX5_atSaid_25 hr.1 hr.2.1 (zs_in hr.2.2 (vp_in_nI (zs_7p hp (show 3 < 7 by decide)) (by decide))) (nI_clamp (by omega)) ?_
    refine zk_icmp_ne (tgt := 35) dX5_atSaid_26 (by decide) (fun h26 => ?_) (fun h26 => ?_)
    · refine zk_iconst dX5_atSaid_35 zc_0 ?_
      refine zk_ior dX5_atSaid_36 ?_
      refine zk_istore_n dX5_atSaid_37 zk_S_1 ?_
      refine zk_iinc dX5_atSaid_38 zc_1 rfl zk_S_2 ?_
      refine zk_goto (tgt := 4) dX5_atSaid_41 (by decide) ?_
      rw [← nI_succ]
      first
        | (refine ih (p + 1) _ (by omega) ?_
           have e : zs_atf (M r) p x = x ||| 1 <<< (nI p &&& 31) := congrArg (fun v => x ||| v) (if_pos h26)
           rw [zs_for, e] at k
           exact k)
        | (refine ih (p + 1) _ (by omega) ?_
           have e : zs_atf (M r) p x = x ||| 0 := congrArg (fun v => x ||| v) (if_neg h26)
           rw [zs_for, e] at k
           exact k)
    · refine zk_iconst dX5_atSaid_29 zc_1 ?_
      refine zk_iload_n dX5_atSaid_30 rfl ?_
      refine zk_ishl dX5_atSaid_31 ?_
      refine zk_goto (tgt := 36) dX5_atSaid_32 (by decide) ?_
      refine zk_ior dX5_atSaid_36 ?_
      refine zk_istore_n dX5_atSaid_37 zk_S_1 ?_
      refine zk_iinc dX5_atSaid_38 zc_1 rfl zk_S_2 ?_
      refine zk_goto (tgt := 4) dX5_atSaid_41 (by decide) ?_
      rw [← nI_succ]
      first
        | (refine ih (p + 1) _ (by omega) ?_
           have e : zs_atf (M r) p x = x ||| 1 <<< (nI p &&& 31) := congrArg (fun v => x ||| v) (if_pos h26)
           rw [zs_for, e] at k
           exact k)
        | (refine ih (p + 1) _ (by omega) ?_
           have e : zs_atf (M r) p x = x ||| 0 := congrArg (fun v => x ||| v) (if_neg h26)
           rw [zs_for, e] at k
           exact k)
set_option maxRecDepth 100000 in
set_option maxHeartbeats 4000000 in
theorem qX5_atSaid {l : Launch} {σ : zk_Sh} {M : zk_M} {L : zk_L} {r : Nat} (hr : zs_a σ r 52) {n : Nat} (hA : n ≤ 6 ∧ M r 0 = nI n) : zk_C l σ 1 muX5_atSaid [.ref r] M L (zk_Ei (zs_for (zs_atf (M r)) n 0 0) M L) := by
  refine zk_ofR (ls := [some (.ref r), none, none]) (by decide) rfl (Nat.le_of_ble_eq_true rfl) rfl ?_
  refine zk_iconst dX5_atSaid_0 zc_0 ?_
  refine zk_istore_n dX5_atSaid_1 zk_S_1 ?_
  refine zk_iconst dX5_atSaid_2 zc_0 ?_
  refine zk_istore_n dX5_atSaid_3 zk_S_2 ?_
  refine lX5_atSaid hr hA n 0 0 (by omega) ?_
  refine zk_iload_n dX5_atSaid_44 rfl ?_
  refine zk_iret rfl dX5_atSaid_45 ?_
  exact ⟨rfl, rfl, rfl⟩
def zs_trn (a : Nat → Int32) (x y : Int32) : Nat → Int32 := va_up (va_up a (2 + x.toNatClampNeg) (a (2 + x.toNatClampNeg) ^^^ 1 <<< (y &&& 31))) (2 + y.toNatClampNeg) (va_up a (2 + x.toNatClampNeg) (a (2 + x.toNatClampNeg) ^^^ 1 <<< (y &&& 31)) (2 + y.toNatClampNeg) ^^^ 1 <<< (x &&& 31))
set_option maxRecDepth 100000 in
set_option maxHeartbeats 4000000 in
theorem qX5_turnsRoad {l : Launch} {σ : zk_Sh} {M : zk_M} {L : zk_L} {r : Nat} (hr : zs_a σ r 52) {x y : Int32} (hx : zs_p x) (hy : zs_p y) : zk_C l σ 0 muX5_turnsRoad [.ref r, .int x, .int y] M L (zk_Ev (va_up M r (zs_trn (M r) x y)) L) := by
  refine zk_ofR (ls := [some (.ref r), some (.int x), some (.int y)]) (by decide) rfl (Nat.le_of_ble_eq_true rfl) rfl ?_
  refine zk_aload_n dX5_turnsRoad_0 rfl ?_
  refine zk_iconst dX5_turnsRoad_1 zc_2 ?_
  refine zk_iload_n dX5_turnsRoad_2 rfl ?_
  refine zk_iadd dX5_turnsRoad_3 ?_
  refine zk_dup2 dX5_turnsRoad_4 rfl rfl ?_
  refine zk_iald (j := 2 + x.toNatClampNeg) dX5_turnsRoad_5 hr.1 hr.2.1 (zs_in hr.2.2 (zs_2in hx)) (zs_2tn hx) ?_
  refine zk_iconst dX5_turnsRoad_6 zc_1 ?_
  refine zk_iload_n dX5_turnsRoad_7 rfl ?_
  refine zk_ishl dX5_turnsRoad_8 ?_
  refine zk_ixor dX5_turnsRoad_9 ?_
  refine zk_iast (j := 2 + x.toNatClampNeg) dX5_turnsRoad_10 hr.1 hr.2.1 (zs_in hr.2.2 (zs_2in hx)) (zs_2tn hx) ?_
  refine zk_aload_n dX5_turnsRoad_11 rfl ?_
  refine zk_iconst dX5_turnsRoad_12 zc_2 ?_
  refine zk_iload_n dX5_turnsRoad_13 rfl ?_
  refine zk_iadd dX5_turnsRoad_14 ?_
  refine zk_dup2 dX5_turnsRoad_15 rfl rfl ?_
  refine zk_iald (j := 2 + y.toNatClampNeg) dX5_turnsRoad_16 hr.1 hr.2.1 (zs_in hr.2.2 (zs_2in hy)) (zs_2tn hy) ?_
  rw [zk_up_eq]
  refine zk_iconst dX5_turnsRoad_17 zc_1 ?_
  refine zk_iload_n dX5_turnsRoad_18 rfl ?_
  refine zk_ishl dX5_turnsRoad_19 ?_
  refine zk_ixor dX5_turnsRoad_20 ?_
  refine zk_iast (j := 2 + y.toNatClampNeg) dX5_turnsRoad_21 hr.1 hr.2.1 (zs_in hr.2.2 (zs_2in hy)) (zs_2tn hy) ?_
  rw [zk_up_eq, zs_up2]
  refine zk_vret rfl dX5_turnsRoad_22 ?_
  exact ⟨rfl, rfl, rfl⟩
