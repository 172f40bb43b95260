/-! two -/
def zs_W (M : zk_M) (n : Nat) (J : Nat → Int32) (F : Nat → Nat → Int32) : Prop := zs_A (M 2) n ∧ zs_ag 8 (zs_J (M 2)) J ∧ ∀ p, p < n → zs_ag 7 (zs_get (M 2) p) (F p)
def zs_shf (F : Nat → Nat → Int32) (p : Nat) (k : Int32) (q : Nat) : Nat → Int32 := if q = p ∧ k = 1 then zs_shod (F q) else F q
theorem zs_shod_okk {f : Nat → Int32} (h : zs_okk f) : zs_okk (zs_shod f) := by
  unfold zs_shod
  exact ⟨zs_ok_up (zs_ok_up h.1 (by decide) (by decide) (by decide)) (by decide) (by decide) (by decide), by rw [zk_up_ne (by decide), zk_up_ne (by decide)]; exact h.2⟩
theorem zs_W.cp {M M0 : zk_M} {n : Nat} (hA : zs_A (M0 1) n) (hs : zs_sm M0 M) : zs_W (va_up M 2 (zs_cp 52 (M 1) (M 2))) n (zs_J (M0 1)) (fun p => zs_get (M0 1) p) := ⟨by rw [zk_up_eq, hs.1]; exact hA.cp, by rw [zk_up_eq, hs.1]; exact zs_J_cp, fun p hp => by rw [zk_up_eq, hs.1]; exact zs_get_cp (Nat.lt_of_lt_of_le hp hA.1)⟩
theorem zs_W.shod {M : zk_M} {n : Nat} {J : Nat → Int32} {F : Nat → Nat → Int32} (h : zs_W M n J F) {p : Nat} (hp : p < n) : zs_W (va_up M 2 (zs_put (M 2) p (zs_shod (zs_get (M 2) p)))) n J (zs_shf F p 1) := by
  have hp6 : p < 6 := Nat.lt_of_lt_of_le hp h.1.1
  refine ⟨by rw [zk_up_eq]; exact h.1.put (zs_shod_okk (h.1.2.2 p hp6)), by rw [zk_up_eq]; exact zs_J_put.tr h.2.1, fun q hq => ?_⟩
  rw [zk_up_eq]
  by_cases e : q = p
  · subst e
    rw [zs_shf, if_pos ⟨rfl, rfl⟩]
    exact zs_get_put.tr (zs_shod_ag (h.2.2 q hq))
  · rw [zs_shf, if_neg (fun x => e x.1)]
    exact (zs_get_put_ne e).tr (h.2.2 q hq)
theorem zs_W.eq {M : zk_M} {n : Nat} {J : Nat → Int32} {F : Nat → Nat → Int32} (h : zs_W M n J F) {p : Nat} {k : Int32} (hk : ¬ k = 1) : zs_W M n J (zs_shf F p k) := ⟨h.1, h.2.1, fun q hq => by rw [zs_shf, if_neg (fun x => hk x.2)]; exact h.2.2 q hq⟩
def zu_cost (J T : Nat → Int32) (t : Nat) (f : Nat → Int32) (c : Int32) : Int32 := zu_tg T (zs_rides J T t (if c = 1 then zs_shod f else f)) + c
set_option maxRecDepth 100000 in
set_option maxHeartbeats 4000000 in
theorem qX5_costBy_a {l : Launch} {M : zk_M} {L : zk_L} {M0 : zk_M} {n : Nat} (hA : zs_A (M0 1) n) (hs : zs_sm M0 M) {a b : Nat} (ha : a < n) (hb : b < n) (hab : ¬ a = b) {ka kb : Int32} {t : Nat} (ht : t < 2 ^ 31) : zk_C l zm 5 muX5_costBy [.ref 0, .int (nI a), .int (nI a), .int ka, .int (nI b), .int kb, .int (nI t)] M L (zp_i (zu_cost (zs_J (M0 1)) (zs_FW (zs_J (M0 1))) t (zs_get (M0 1) a) ka) M0) := by
  refine zk_ofR (ls := [some (.ref 0), some (.int (nI a)), some (.int (nI a)), some (.int ka), some (.int (nI b)), some (.int kb), some (.int (nI t))]) (by decide) rfl (Nat.le_of_ble_eq_true rfl) rfl ?_
  have hn6 := hA.1
  have ev : zu_cost (zs_J (M0 1)) (zs_FW (zs_J (M0 1))) t (zs_get (M0 1) a) ka = zu_tg (zs_FW (zs_J (M0 1))) (zs_rides (zs_J (M0 1)) (zs_FW (zs_J (M0 1))) t (zs_shf (zs_shf (fun p => zs_get (M0 1) p) a ka) b kb a)) + ka := by
    unfold zu_cost zs_shf
    by_cases e1 : ka = 1
    · simp [e1, hab, Ne.symm hab]
    · simp [e1, hab, Ne.symm hab]
  have J2 : ∀ (MX : zk_M) (LX : zk_L), zs_sm M0 MX → zs_W MX n (zs_J (M0 1)) (zs_shf (zs_shf (fun p => zs_get (M0 1) p) a ka) b kb) → zk_R l zm 5 muX5_costBy 39 [some (.ref 0), some (.int (nI a)), some (.int (nI a)), some (.int ka), some (.int (nI b)), some (.int kb), some (.int (nI t))] [] MX LX (zp_i (zu_cost (zs_J (M0 1)) (zs_FW (zs_J (M0 1))) t (zs_get (M0 1) a) ka) M0) := by
    intro MX LX hsX hW
    refine zk_aload_n dX5_costBy_39 rfl ?_
    refine zk_aload_n dX5_costBy_40 rfl ?_
    refine zk_getRc (q := 2) dX5_costBy_41 fl_X5_13 (by decide : 0 < zm.1) rfl rfl rfl ?_
    refine zk_iload dX5_costBy_44 rfl ?_
    refine zk_callV (qd_daysOn hsX hW.1 hW.2.1 hW.2.2 ht) dX5_costBy_46 mwX5_daysOn ml_X5_121 (by decide : 0 < zm.1) rfl rfl (by decide) rfl (Nat.le_of_ble_eq_true rfl) (fun r1 M1 L1 h1 => ?_)
    obtain ⟨rfl, hs1, hV1⟩ := h1
    refine zk_aload_n dX5_costBy_49 rfl ?_
    refine zk_aload_n dX5_costBy_50 rfl ?_
    refine zk_getRc (q := 2) dX5_costBy_51 fl_X5_13 (by decide : 0 < zm.1) rfl rfl rfl ?_
    refine zk_iload_n dX5_costBy_54 rfl ?_
    refine zk_cVi (qX5_stepsLeft hV1 ha) dX5_costBy_55 mwX5_stepsLeft ml_X5_174 (by decide : 0 < zm.1) rfl rfl (by decide) rfl (Nat.le_of_ble_eq_true rfl) ?_
    refine zk_iload_n dX5_costBy_58 rfl ?_
    refine zk_iload_n dX5_costBy_59 rfl ?_
    refine zk_icmp_ne (tgt := 67) dX5_costBy_60 (by decide) (fun h60 => absurd (rfl) h60) (fun _ => ?_)
    refine zk_iload_n dX5_costBy_63 rfl ?_
    refine zk_goto (tgt := 69) dX5_costBy_64 (by decide) ?_
    refine zk_iadd dX5_costBy_69 ?_
    refine zk_iret rfl dX5_costBy_70 ?_
    exact ⟨by rw [ev], hs1⟩
  have J1 : ∀ (MX : zk_M) (LX : zk_L), zs_sm M0 MX → zs_W MX n (zs_J (M0 1)) (zs_shf (fun p => zs_get (M0 1) p) a ka) → zk_R l zm 5 muX5_costBy 24 [some (.ref 0), some (.int (nI a)), some (.int (nI a)), some (.int ka), some (.int (nI b)), some (.int kb), some (.int (nI t))] [] MX LX (zp_i (zu_cost (zs_J (M0 1)) (zs_FW (zs_J (M0 1))) t (zs_get (M0 1) a) ka) M0) := by
    intro MX LX hsX hW
    refine zk_iload dX5_costBy_24 rfl ?_
    refine zk_iconst dX5_costBy_26 zc_1 ?_
    refine zk_icmp_ne (tgt := 39) dX5_costBy_27 (by decide) (fun h27 => ?_) (fun h27 => ?_)
    · first
        | (subst h27; exact J2 _ _ (hsX.up (by omega)) (hW.shod hb))
        | exact J2 _ _ hsX (hW.eq h27)
    · refine zk_aload_n dX5_costBy_30 rfl ?_
      refine zk_getRc (q := 2) dX5_costBy_31 fl_X5_13 (by decide : 0 < zm.1) rfl rfl rfl ?_
      refine zk_iload dX5_costBy_34 rfl ?_
      refine zk_cSv (qX5_isShod zm_a2 (Nat.lt_of_lt_of_le hb hA.1) (hW.1.2.2 _ (Nat.lt_of_lt_of_le hb hA.1)).2) dX5_costBy_36 miX5_isShod ml_X5_108 stX5_isShod rfl (by decide) rfl (Nat.le_of_ble_eq_true rfl) ?_
      first
        | (subst h27; exact J2 _ _ (hsX.up (by omega)) (hW.shod hb))
        | exact J2 _ _ hsX (hW.eq h27)
  refine zk_aload_n dX5_costBy_0 rfl ?_
  refine zk_getRc (q := 1) dX5_costBy_1 fl_X5_9 (by decide : 0 < zm.1) rfl rfl rfl ?_
  refine zk_aload_n dX5_costBy_4 rfl ?_
  refine zk_getRc (q := 2) dX5_costBy_5 fl_X5_13 (by decide : 0 < zm.1) rfl rfl rfl ?_
  refine zk_cSv (qd_copies) dX5_costBy_8 miX5_copies ml_X5_127 stX5_copies rfl (by decide) rfl (Nat.le_of_ble_eq_true rfl) ?_
  refine zk_iload_n dX5_costBy_11 rfl ?_
  refine zk_iconst dX5_costBy_12 zc_1 ?_
  refine zk_icmp_ne (tgt := 24) dX5_costBy_13 (by decide) (fun h13 => ?_) (fun h13 => ?_)
  · first
      | (subst h13; exact J1 _ _ (hs.up (by omega) |>.up (by omega)) ((zs_W.cp hA hs).shod ha))
      | exact J1 _ _ (hs.up (by omega)) ((zs_W.cp hA hs).eq h13)
  · refine zk_aload_n dX5_costBy_16 rfl ?_
    refine zk_getRc (q := 2) dX5_costBy_17 fl_X5_13 (by decide : 0 < zm.1) rfl rfl rfl ?_
    refine zk_iload_n dX5_costBy_20 rfl ?_
    refine zk_cSv (qX5_isShod zm_a2 (Nat.lt_of_lt_of_le ha hA.1) ((zs_W.cp hA hs).1.2.2 _ (Nat.lt_of_lt_of_le ha hA.1)).2) dX5_costBy_21 miX5_isShod ml_X5_108 stX5_isShod rfl (by decide) rfl (Nat.le_of_ble_eq_true rfl) ?_
    first
      | (subst h13; exact J1 _ _ (hs.up (by omega) |>.up (by omega)) ((zs_W.cp hA hs).shod ha))
      | exact J1 _ _ (hs.up (by omega)) ((zs_W.cp hA hs).eq h13)
set_option maxRecDepth 100000 in
set_option maxHeartbeats 4000000 in
theorem qX5_costBy_b {l : Launch} {M : zk_M} {L : zk_L} {M0 : zk_M} {n : Nat} (hA : zs_A (M0 1) n) (hs : zs_sm M0 M) {a b : Nat} (ha : a < n) (hb : b < n) (hab : ¬ a = b) {ka kb : Int32} {t : Nat} (ht : t < 2 ^ 31) : zk_C l zm 5 muX5_costBy [.ref 0, .int (nI b), .int (nI a), .int ka, .int (nI b), .int kb, .int (nI t)] M L (zp_i (zu_cost (zs_J (M0 1)) (zs_FW (zs_J (M0 1))) t (zs_get (M0 1) b) kb) M0) := by
  refine zk_ofR (ls := [some (.ref 0), some (.int (nI b)), some (.int (nI a)), some (.int ka), some (.int (nI b)), some (.int kb), some (.int (nI t))]) (by decide) rfl (Nat.le_of_ble_eq_true rfl) rfl ?_
  have hn6 := hA.1
  have ev : zu_cost (zs_J (M0 1)) (zs_FW (zs_J (M0 1))) t (zs_get (M0 1) b) kb = zu_tg (zs_FW (zs_J (M0 1))) (zs_rides (zs_J (M0 1)) (zs_FW (zs_J (M0 1))) t (zs_shf (zs_shf (fun p => zs_get (M0 1) p) a ka) b kb b)) + kb := by
    unfold zu_cost zs_shf
    by_cases e1 : kb = 1
    · simp [e1, hab, Ne.symm hab]
    · simp [e1, hab, Ne.symm hab]
  have J2 : ∀ (MX : zk_M) (LX : zk_L), zs_sm M0 MX → zs_W MX n (zs_J (M0 1)) (zs_shf (zs_shf (fun p => zs_get (M0 1) p) a ka) b kb) → zk_R l zm 5 muX5_costBy 39 [some (.ref 0), some (.int (nI b)), some (.int (nI a)), some (.int ka), some (.int (nI b)), some (.int kb), some (.int (nI t))] [] MX LX (zp_i (zu_cost (zs_J (M0 1)) (zs_FW (zs_J (M0 1))) t (zs_get (M0 1) b) kb) M0) := by
    intro MX LX hsX hW
    refine zk_aload_n dX5_costBy_39 rfl ?_
    refine zk_aload_n dX5_costBy_40 rfl ?_
    refine zk_getRc (q := 2) dX5_costBy_41 fl_X5_13 (by decide : 0 < zm.1) rfl rfl rfl ?_
    refine zk_iload dX5_costBy_44 rfl ?_
    refine zk_callV (qd_daysOn hsX hW.1 hW.2.1 hW.2.2 ht) dX5_costBy_46 mwX5_daysOn ml_X5_121 (by decide : 0 < zm.1) rfl rfl (by decide) rfl (Nat.le_of_ble_eq_true rfl) (fun r1 M1 L1 h1 => ?_)
    obtain ⟨rfl, hs1, hV1⟩ := h1
    refine zk_aload_n dX5_costBy_49 rfl ?_
    refine zk_aload_n dX5_costBy_50 rfl ?_
    refine zk_getRc (q := 2) dX5_costBy_51 fl_X5_13 (by decide : 0 < zm.1) rfl rfl rfl ?_
    refine zk_iload_n dX5_costBy_54 rfl ?_
    refine zk_cVi (qX5_stepsLeft hV1 hb) dX5_costBy_55 mwX5_stepsLeft ml_X5_174 (by decide : 0 < zm.1) rfl rfl (by decide) rfl (Nat.le_of_ble_eq_true rfl) ?_
    refine zk_iload_n dX5_costBy_58 rfl ?_
    refine zk_iload_n dX5_costBy_59 rfl ?_
    refine zk_icmp_ne (tgt := 67) dX5_costBy_60 (by decide) (fun _ => ?_) (fun h60 => absurd h60 (fun e => hab (zs_nI_inj (by omega) (by omega) e).symm))
    refine zk_iload dX5_costBy_67 rfl ?_
    refine zk_iadd dX5_costBy_69 ?_
    refine zk_iret rfl dX5_costBy_70 ?_
    exact ⟨by rw [ev], hs1⟩
  have J1 : ∀ (MX : zk_M) (LX : zk_L), zs_sm M0 MX → zs_W MX n (zs_J (M0 1)) (zs_shf (fun p => zs_get (M0 1) p) a ka) → zk_R l zm 5 muX5_costBy 24 [some (.ref 0), some (.int (nI b)), some (.int (nI a)), some (.int ka), some (.int (nI b)), some (.int kb), some (.int (nI t))] [] MX LX (zp_i (zu_cost (zs_J (M0 1)) (zs_FW (zs_J (M0 1))) t (zs_get (M0 1) b) kb) M0) := by
    intro MX LX hsX hW
    refine zk_iload dX5_costBy_24 rfl ?_
    refine zk_iconst dX5_costBy_26 zc_1 ?_
    refine zk_icmp_ne (tgt := 39) dX5_costBy_27 (by decide) (fun h27 => ?_) (fun h27 => ?_)
    · first
        | (subst h27; exact J2 _ _ (hsX.up (by omega)) (hW.shod hb))
        | exact J2 _ _ hsX (hW.eq h27)
    · refine zk_aload_n dX5_costBy_30 rfl ?_
      refine zk_getRc (q := 2) dX5_costBy_31 fl_X5_13 (by decide : 0 < zm.1) rfl rfl rfl ?_
      refine zk_iload dX5_costBy_34 rfl ?_
      refine zk_cSv (qX5_isShod zm_a2 (Nat.lt_of_lt_of_le hb hA.1) (hW.1.2.2 _ (Nat.lt_of_lt_of_le hb hA.1)).2) dX5_costBy_36 miX5_isShod ml_X5_108 stX5_isShod rfl (by decide) rfl (Nat.le_of_ble_eq_true rfl) ?_
      first
        | (subst h27; exact J2 _ _ (hsX.up (by omega)) (hW.shod hb))
        | exact J2 _ _ hsX (hW.eq h27)
  refine zk_aload_n dX5_costBy_0 rfl ?_
  refine zk_getRc (q := 1) dX5_costBy_1 fl_X5_9 (by decide : 0 < zm.1) rfl rfl rfl ?_
  refine zk_aload_n dX5_costBy_4 rfl ?_
  refine zk_getRc (q := 2) dX5_costBy_5 fl_X5_13 (by decide : 0 < zm.1) rfl rfl rfl ?_
  refine zk_cSv (qd_copies) dX5_costBy_8 miX5_copies ml_X5_127 stX5_copies rfl (by decide) rfl (Nat.le_of_ble_eq_true rfl) ?_
  refine zk_iload_n dX5_costBy_11 rfl ?_
  refine zk_iconst dX5_costBy_12 zc_1 ?_
  refine zk_icmp_ne (tgt := 24) dX5_costBy_13 (by decide) (fun h13 => ?_) (fun h13 => ?_)
  · first
      | (subst h13; exact J1 _ _ (hs.up (by omega) |>.up (by omega)) ((zs_W.cp hA hs).shod ha))
      | exact J1 _ _ (hs.up (by omega)) ((zs_W.cp hA hs).eq h13)
  · refine zk_aload_n dX5_costBy_16 rfl ?_
    refine zk_getRc (q := 2) dX5_costBy_17 fl_X5_13 (by decide : 0 < zm.1) rfl rfl rfl ?_
    refine zk_iload_n dX5_costBy_20 rfl ?_
    refine zk_cSv (qX5_isShod zm_a2 (Nat.lt_of_lt_of_le ha hA.1) ((zs_W.cp hA hs).1.2.2 _ (Nat.lt_of_lt_of_le ha hA.1)).2) dX5_costBy_21 miX5_isShod ml_X5_108 stX5_isShod rfl (by decide) rfl (Nat.le_of_ble_eq_true rfl) ?_
    first
      | (subst h13; exact J1 _ _ (hs.up (by omega) |>.up (by omega)) ((zs_W.cp hA hs).shod ha))
      | exact J1 _ _ (hs.up (by omega)) ((zs_W.cp hA hs).eq h13)
abbrev zu_keep (J T : Nat → Int32) (t : Nat) (f : Nat → Int32) (i : Nat) : Prop := zu_cost J T t f (nI i) ≤ zu_cost J T t f (1 - nI i)
def zu_two (J T : Nat → Int32) (t : Nat) (f g : Nat → Int32) : Nat → Nat → Int32
  | 0, _ => -9
  | m + 1, k => if zu_keep J T t f (k / 2) ∧ zu_keep J T t g (k % 2) then 10 * nI (k / 2) + nI (k % 2) else zu_two J T t f g m (k + 1)
theorem zs_d2 {k : Nat} (h : k < 4) : nI k / 2 = nI (k / 2) := by rcases (show k = 0 ∨ k = 1 ∨ k = 2 ∨ k = 3 by omega) with rfl | rfl | rfl | rfl <;> decide
theorem zs_m2 {k : Nat} (h : k < 4) : nI k - nI k / 2 * 2 = nI (k % 2) := by rcases (show k = 0 ∨ k = 1 ∨ k = 2 ∨ k = 3 by omega) with rfl | rfl | rfl | rfl <;> decide
set_option maxRecDepth 100000 in
set_option maxHeartbeats 4000000 in
theorem lX5_two {l : Launch} {M0 : zk_M} {n : Nat} (hA : zs_A (M0 1) n) {a b : Nat} (ha : a < n) (hb : b < n) (hab : ¬ a = b) {t : Nat} (ht : t < 2 ^ 31) {v : Int32} : ∀ (m k : Nat) (M : zk_M) (L : zk_L), k + m = 4 → zs_sm M0 M → v = zu_two (zs_J (M0 1)) (zs_FW (zs_J (M0 1))) t (zs_get (M0 1) a) (zs_get (M0 1) b) m k → zk_R l zm 6 muX5_two 49 [some (.ref 0), some (.int (nI a)), some (.int (nI b)), some (.int (nI t)), none, some (.int (nI k)), none, none] [] M L (zp_i v M0) := by
  intro m
  induction m with
  | zero =>
    intro k M L hk hs ek
    obtain rfl : k = 4 := by omega
    refine zk_iload dX5_two_49 rfl ?_
    refine zk_iconst dX5_two_51 zc_4 ?_
    refine zk_icmp_ge (tgt := 140) dX5_two_52 (by decide) (fun _ => ?_) (fun q => absurd (by decide) q)
    refine zk_bipush (v := -9) dX5_two_140 (by decide) ?_
    refine zk_iret rfl dX5_two_142 ?_
    exact ⟨by rw [ek]; rfl, hs⟩
  | succ m ih =>
    intro k M L hk hs ek
    have hk4 : k < 4 := by omega
    refine zk_iload dX5_two_49 rfl ?_
    refine zk_iconst dX5_two_51 zc_4 ?_
    refine zk_icmp_ge (tgt := 140) dX5_two_52 (by decide) (fun h52 => absurd h52 (nI_ge (b := 4) hk4 (by decide))) (fun _ => ?_)
    refine zk_iload dX5_two_55 rfl ?_
    refine zk_iconst dX5_two_57 zc_2 ?_
    refine zk_idiv dX5_two_58 (by decide) ?_
    rw [zs_d2 hk4]
    refine zk_istore dX5_two_59 zk_S_6 ?_
    refine zk_iload dX5_two_61 rfl ?_
    refine zk_iconst dX5_two_63 zc_2 ?_
    refine zk_irem dX5_two_64 (by decide) ?_
    rw [zs_m2 hk4]
    refine zk_istore dX5_two_65 zk_S_7 ?_
    refine zk_aload_n dX5_two_67 rfl ?_
    refine zk_iload_n dX5_two_68 rfl ?_
    refine zk_iload_n dX5_two_69 rfl ?_
    refine zk_iconst dX5_two_70 zc_1 ?_
    refine zk_iload dX5_two_71 rfl ?_
    refine zk_isub dX5_two_73 ?_
    refine zk_iload_n dX5_two_74 rfl ?_
    refine zk_iload dX5_two_75 rfl ?_
    refine zk_iload_n dX5_two_77 rfl ?_
    refine zk_cVpi (qX5_costBy_a hA hs ha hb hab ht) dX5_two_78 mwX5_costBy ml_X5_181 (by decide : 0 < zm.1) rfl rfl (by decide) rfl (Nat.le_of_ble_eq_true rfl) (fun M1 L1 hs1 => ?_)
    refine zk_aload_n dX5_two_81 rfl ?_
    refine zk_iload_n dX5_two_82 rfl ?_
    refine zk_iload_n dX5_two_83 rfl ?_
    refine zk_iload dX5_two_84 rfl ?_
    refine zk_iload_n dX5_two_86 rfl ?_
    refine zk_iload dX5_two_87 rfl ?_
    refine zk_iload_n dX5_two_89 rfl ?_
    refine zk_cVpi (qX5_costBy_a hA hs1 ha hb hab ht) dX5_two_90 mwX5_costBy ml_X5_181 (by decide : 0 < zm.1) rfl rfl (by decide) rfl (Nat.le_of_ble_eq_true rfl) (fun M2 L2 hs2 => ?_)
    refine zk_icmp_lt (tgt := 134) dX5_two_93 (by decide) (fun h93 => ?_) (fun h93 => ?_)
    · refine zk_iinc dX5_two_134 zc_1 rfl zk_S_5 ?_
      refine zk_goto (tgt := 49) dX5_two_137 (by decide) ?_
      rw [← nI_succ]
      first
        | exact zk_forget (ls' := [some (.ref 0), some (.int (nI a)), some (.int (nI b)), some (.int (nI t)), none, some (.int (nI (k + 1))), none, none]) ⟨Or.inr rfl, Or.inr rfl, Or.inr rfl, Or.inr rfl, Or.inl rfl, Or.inr rfl, Or.inl rfl, Or.inl rfl, trivial⟩ (ih (k + 1) M4 L4 (by omega) hs4 (by rw [ek, zu_two, if_neg (fun q => absurd q.2 (Int32.not_le.mpr h122))]))
        | exact zk_forget (ls' := [some (.ref 0), some (.int (nI a)), some (.int (nI b)), some (.int (nI t)), none, some (.int (nI (k + 1))), none, none]) ⟨Or.inr rfl, Or.inr rfl, Or.inr rfl, Or.inr rfl, Or.inl rfl, Or.inr rfl, Or.inl rfl, Or.inl rfl, trivial⟩ (ih (k + 1) M2 L2 (by omega) hs2 (by rw [ek, zu_two, if_neg (fun q => absurd q.1 (Int32.not_le.mpr h93))]))
    · refine zk_aload_n dX5_two_96 rfl ?_
      refine zk_iload_n dX5_two_97 rfl ?_
      refine zk_iload_n dX5_two_98 rfl ?_
      refine zk_iload dX5_two_99 rfl ?_
      refine zk_iload_n dX5_two_101 rfl ?_
      refine zk_iconst dX5_two_102 zc_1 ?_
      refine zk_iload dX5_two_103 rfl ?_
      refine zk_isub dX5_two_105 ?_
      refine zk_iload_n dX5_two_106 rfl ?_
      refine zk_cVpi (qX5_costBy_b hA hs2 ha hb hab ht) dX5_two_107 mwX5_costBy ml_X5_181 (by decide : 0 < zm.1) rfl rfl (by decide) rfl (Nat.le_of_ble_eq_true rfl) (fun M3 L3 hs3 => ?_)
      refine zk_aload_n dX5_two_110 rfl ?_
      refine zk_iload_n dX5_two_111 rfl ?_
      refine zk_iload_n dX5_two_112 rfl ?_
      refine zk_iload dX5_two_113 rfl ?_
      refine zk_iload_n dX5_two_115 rfl ?_
      refine zk_iload dX5_two_116 rfl ?_
      refine zk_iload_n dX5_two_118 rfl ?_
      refine zk_cVpi (qX5_costBy_b hA hs3 ha hb hab ht) dX5_two_119 mwX5_costBy ml_X5_181 (by decide : 0 < zm.1) rfl rfl (by decide) rfl (Nat.le_of_ble_eq_true rfl) (fun M4 L4 hs4 => ?_)
      refine zk_icmp_lt (tgt := 134) dX5_two_122 (by decide) (fun h122 => ?_) (fun h122 => ?_)
      · refine zk_iinc dX5_two_134 zc_1 rfl zk_S_5 ?_
        refine zk_goto (tgt := 49) dX5_two_137 (by decide) ?_
        rw [← nI_succ]
        first
          | exact zk_forget (ls' := [some (.ref 0), some (.int (nI a)), some (.int (nI b)), some (.int (nI t)), none, some (.int (nI (k + 1))), none, none]) ⟨Or.inr rfl, Or.inr rfl, Or.inr rfl, Or.inr rfl, Or.inl rfl, Or.inr rfl, Or.inl rfl, Or.inl rfl, trivial⟩ (ih (k + 1) M4 L4 (by omega) hs4 (by rw [ek, zu_two, if_neg (fun q => absurd q.2 (Int32.not_le.mpr h122))]))
          | exact zk_forget (ls' := [some (.ref 0), some (.int (nI a)), some (.int (nI b)), some (.int (nI t)), none, some (.int (nI (k + 1))), none, none]) ⟨Or.inr rfl, Or.inr rfl, Or.inr rfl, Or.inr rfl, Or.inl rfl, Or.inr rfl, Or.inl rfl, Or.inl rfl, trivial⟩ (ih (k + 1) M2 L2 (by omega) hs2 (by rw [ek, zu_two, if_neg (fun q => absurd q.1 (Int32.not_le.mpr h93))]))
      · refine zk_bipush dX5_two_125 zb_10 ?_
        refine zk_iload dX5_two_127 rfl ?_
        refine zk_imul dX5_two_129 ?_
        refine zk_iload dX5_two_130 rfl ?_
        refine zk_iadd dX5_two_132 ?_
        refine zk_iret rfl dX5_two_133 ?_
        exact ⟨by rw [ek, zu_two, if_pos ⟨Int32.not_lt.mp h93, Int32.not_lt.mp h122⟩], hs4⟩
set_option maxRecDepth 100000 in
set_option maxHeartbeats 4000000 in
theorem qX5_two_r1 {l : Launch} {M : zk_M} {L : zk_L} {n : Nat} (hA : zs_A (M 1) n) {a b t : Int32} (hn : ¬ (zs_isr (nI n) a ∧ zs_isr (nI n) b ∧ ¬ a = b)) : zk_C l zm 6 muX5_two [.ref 0, .int a, .int b, .int t] M L (zp_i (-1) (zs_nof M 1)) := by
  refine zk_ofR (ls := [some (.ref 0), some (.int a), some (.int b), some (.int t), none, none, none, none]) (by decide) rfl (Nat.le_of_ble_eq_true rfl) rfl ?_
  refine zk_aload_n dX5_two_0 rfl ?_
  refine zk_iload_n dX5_two_1 rfl ?_
  refine zk_cVi (qX5_isRider hA.1 hA.2.1) dX5_two_2 mwX5_isRider ml_X5_118 (by decide : 0 < zm.1) rfl rfl (by decide) rfl (Nat.le_of_ble_eq_true rfl) ?_
  refine zk_if_eq (tgt := 31) dX5_two_5 (by decide) (fun h5 => ?_) (fun h5 => ?_)
  · have ha := zs_if0 h5
    refine zk_iconst dX5_two_31 zc_m1 ?_
    refine zk_istore dX5_two_32 zk_S_4 ?_
    refine zk_iload dX5_two_34 rfl ?_
    refine zk_if_eq (tgt := 46) dX5_two_36 (by decide) (fun h36 => absurd h36 (by decide)) (fun _ => ?_)
    refine zk_aload_n dX5_two_39 rfl ?_
    refine zk_iload dX5_two_40 rfl ?_
    refine zk_cVi (qno1) dX5_two_42 mwX5_no ml_X5_42 (by decide : 0 < zm.1) rfl rfl (by decide) rfl (Nat.le_of_ble_eq_true rfl) ?_
    refine zk_iret rfl dX5_two_45 ?_
    exact ⟨rfl, zs_sm.rf⟩
  · have ha := zs_if1 h5
    refine zk_aload_n dX5_two_8 rfl ?_
    refine zk_iload_n dX5_two_9 rfl ?_
    refine zk_cVi (qX5_isRider hA.1 hA.2.1) dX5_two_10 mwX5_isRider ml_X5_118 (by decide : 0 < zm.1) rfl rfl (by decide) rfl (Nat.le_of_ble_eq_true rfl) ?_
    refine zk_if_eq (tgt := 31) dX5_two_13 (by decide) (fun h13 => ?_) (fun h13 => ?_)
    · have hb := zs_if0 h13
      refine zk_iconst dX5_two_31 zc_m1 ?_
      refine zk_istore dX5_two_32 zk_S_4 ?_
      refine zk_iload dX5_two_34 rfl ?_
      refine zk_if_eq (tgt := 46) dX5_two_36 (by decide) (fun h36 => absurd h36 (by decide)) (fun _ => ?_)
      refine zk_aload_n dX5_two_39 rfl ?_
      refine zk_iload dX5_two_40 rfl ?_
      refine zk_cVi (qno1) dX5_two_42 mwX5_no ml_X5_42 (by decide : 0 < zm.1) rfl rfl (by decide) rfl (Nat.le_of_ble_eq_true rfl) ?_
      refine zk_iret rfl dX5_two_45 ?_
      exact ⟨rfl, zs_sm.rf⟩
    · have hb := zs_if1 h13
      refine zk_iload_n dX5_two_16 rfl ?_
      refine zk_iload_n dX5_two_17 rfl ?_
      refine zk_icmp_eq (tgt := 31) dX5_two_18 (by decide) (fun h18 => ?_) (fun h18 => ?_)
      · refine zk_iconst dX5_two_31 zc_m1 ?_
        refine zk_istore dX5_two_32 zk_S_4 ?_
        refine zk_iload dX5_two_34 rfl ?_
        refine zk_if_eq (tgt := 46) dX5_two_36 (by decide) (fun h36 => absurd h36 (by decide)) (fun _ => ?_)
        refine zk_aload_n dX5_two_39 rfl ?_
        refine zk_iload dX5_two_40 rfl ?_
        refine zk_cVi (qno1) dX5_two_42 mwX5_no ml_X5_42 (by decide : 0 < zm.1) rfl rfl (by decide) rfl (Nat.le_of_ble_eq_true rfl) ?_
        refine zk_iret rfl dX5_two_45 ?_
        exact ⟨rfl, zs_sm.rf⟩
      · exact absurd ⟨ha, hb, h18⟩ hn
set_option maxRecDepth 100000 in
set_option maxHeartbeats 4000000 in
theorem qX5_two_r4 {l : Launch} {M : zk_M} {L : zk_L} {n : Nat} (hA : zs_A (M 1) n) {a b : Nat} (ha : a < n) (hb : b < n) (hab : ¬ a = b) {t : Int32} (ht : t < 0) : zk_C l zm 6 muX5_two [.ref 0, .int (nI a), .int (nI b), .int t] M L (zp_i (-4) (zs_nof M 4)) := by
  refine zk_ofR (ls := [some (.ref 0), some (.int (nI a)), some (.int (nI b)), some (.int t), none, none, none, none]) (by decide) rfl (Nat.le_of_ble_eq_true rfl) rfl ?_
  have hn6 := hA.1
  refine zk_aload_n dX5_two_0 rfl ?_
  refine zk_iload_n dX5_two_1 rfl ?_
  refine zk_cVi (qX5_isRider_t hA.1 hA.2.1 ha) dX5_two_2 mwX5_isRider ml_X5_118 (by decide : 0 < zm.1) rfl rfl (by decide) rfl (Nat.le_of_ble_eq_true rfl) ?_
  refine zk_if_eq (tgt := 31) dX5_two_5 (by decide) (fun h5 => absurd h5 (by decide)) (fun _ => ?_)
  refine zk_aload_n dX5_two_8 rfl ?_
  refine zk_iload_n dX5_two_9 rfl ?_
  refine zk_cVi (qX5_isRider_t hA.1 hA.2.1 hb) dX5_two_10 mwX5_isRider ml_X5_118 (by decide : 0 < zm.1) rfl rfl (by decide) rfl (Nat.le_of_ble_eq_true rfl) ?_
  refine zk_if_eq (tgt := 31) dX5_two_13 (by decide) (fun h13 => absurd h13 (by decide)) (fun _ => ?_)
  refine zk_iload_n dX5_two_16 rfl ?_
  refine zk_iload_n dX5_two_17 rfl ?_
  refine zk_icmp_eq (tgt := 31) dX5_two_18 (by decide) (fun h18 => absurd h18 (fun e => hab (zs_nI_inj (by omega) (by omega) e))) (fun _ => ?_)
  refine zk_iload_n dX5_two_21 rfl ?_
  refine zk_iconst dX5_two_22 zc_0 ?_
  refine zk_bipush dX5_two_23 zb_30 ?_
  refine zk_cSi (qX5_wrongBy) dX5_two_25 miX5_wrongBy ml_X5_138 stX5_wrongBy rfl (by decide) rfl (Nat.le_of_ble_eq_true rfl) ?_
  rw [if_pos ht]
  refine zk_goto (tgt := 32) dX5_two_28 (by decide) ?_
  refine zk_istore dX5_two_32 zk_S_4 ?_
  refine zk_iload dX5_two_34 rfl ?_
  refine zk_if_eq (tgt := 46) dX5_two_36 (by decide) (fun h36 => absurd h36 (by decide)) (fun _ => ?_)
  refine zk_aload_n dX5_two_39 rfl ?_
  refine zk_iload dX5_two_40 rfl ?_
  refine zk_cVi (qno4) dX5_two_42 mwX5_no ml_X5_42 (by decide : 0 < zm.1) rfl rfl (by decide) rfl (Nat.le_of_ble_eq_true rfl) ?_
  refine zk_iret rfl dX5_two_45 ?_
  exact ⟨rfl, zs_sm.rf⟩
set_option maxRecDepth 100000 in
set_option maxHeartbeats 4000000 in
theorem qX5_two_r6 {l : Launch} {M : zk_M} {L : zk_L} {n : Nat} (hA : zs_A (M 1) n) {a b : Nat} (ha : a < n) (hb : b < n) (hab : ¬ a = b) {t : Int32} (ht : ¬ t < 0) (h6 : 30 < t) : zk_C l zm 6 muX5_two [.ref 0, .int (nI a), .int (nI b), .int t] M L (zp_i (-6) (zs_nof M 6)) := by
  refine zk_ofR (ls := [some (.ref 0), some (.int (nI a)), some (.int (nI b)), some (.int t), none, none, none, none]) (by decide) rfl (Nat.le_of_ble_eq_true rfl) rfl ?_
  have hn6 := hA.1
  refine zk_aload_n dX5_two_0 rfl ?_
  refine zk_iload_n dX5_two_1 rfl ?_
  refine zk_cVi (qX5_isRider_t hA.1 hA.2.1 ha) dX5_two_2 mwX5_isRider ml_X5_118 (by decide : 0 < zm.1) rfl rfl (by decide) rfl (Nat.le_of_ble_eq_true rfl) ?_
  refine zk_if_eq (tgt := 31) dX5_two_5 (by decide) (fun h5 => absurd h5 (by decide)) (fun _ => ?_)
  refine zk_aload_n dX5_two_8 rfl ?_
  refine zk_iload_n dX5_two_9 rfl ?_
  refine zk_cVi (qX5_isRider_t hA.1 hA.2.1 hb) dX5_two_10 mwX5_isRider ml_X5_118 (by decide : 0 < zm.1) rfl rfl (by decide) rfl (Nat.le_of_ble_eq_true rfl) ?_
  refine zk_if_eq (tgt := 31) dX5_two_13 (by decide) (fun h13 => absurd h13 (by decide)) (fun _ => ?_)
  refine zk_iload_n dX5_two_16 rfl ?_
  refine zk_iload_n dX5_two_17 rfl ?_
  refine zk_icmp_eq (tgt := 31) dX5_two_18 (by decide) (fun h18 => absurd h18 (fun e => hab (zs_nI_inj (by omega) (by omega) e))) (fun _ => ?_)
  refine zk_iload_n dX5_two_21 rfl ?_
  refine zk_iconst dX5_two_22 zc_0 ?_
  refine zk_bipush dX5_two_23 zb_30 ?_
  refine zk_cSi (qX5_wrongBy) dX5_two_25 miX5_wrongBy ml_X5_138 stX5_wrongBy rfl (by decide) rfl (Nat.le_of_ble_eq_true rfl) ?_
  rw [if_neg ht, if_pos h6]
  refine zk_goto (tgt := 32) dX5_two_28 (by decide) ?_
  refine zk_istore dX5_two_32 zk_S_4 ?_
  refine zk_iload dX5_two_34 rfl ?_
  refine zk_if_eq (tgt := 46) dX5_two_36 (by decide) (fun h36 => absurd h36 (by decide)) (fun _ => ?_)
  refine zk_aload_n dX5_two_39 rfl ?_
  refine zk_iload dX5_two_40 rfl ?_
  refine zk_cVi (qno6) dX5_two_42 mwX5_no ml_X5_42 (by decide : 0 < zm.1) rfl rfl (by decide) rfl (Nat.le_of_ble_eq_true rfl) ?_
  refine zk_iret rfl dX5_two_45 ?_
  exact ⟨rfl, zs_sm.rf⟩
set_option maxRecDepth 100000 in
set_option maxHeartbeats 4000000 in
theorem qX5_two_t {l : Launch} {M : zk_M} {L : zk_L} {n : Nat} (hA : zs_A (M 1) n) {a b : Nat} (ha : a < n) (hb : b < n) (hab : ¬ a = b) {t : Nat} (ht : t ≤ 30) : zk_C l zm 6 muX5_two [.ref 0, .int (nI a), .int (nI b), .int (nI t)] M L (zp_i (zu_two (zs_J (M 1)) (zs_FW (zs_J (M 1))) t (zs_get (M 1) a) (zs_get (M 1) b) 4 0) M) := by
  refine zk_ofR (ls := [some (.ref 0), some (.int (nI a)), some (.int (nI b)), some (.int (nI t)), none, none, none, none]) (by decide) rfl (Nat.le_of_ble_eq_true rfl) rfl ?_
  have hn6 := hA.1
  refine zk_aload_n dX5_two_0 rfl ?_
  refine zk_iload_n dX5_two_1 rfl ?_
  refine zk_cVi (qX5_isRider_t hA.1 hA.2.1 ha) dX5_two_2 mwX5_isRider ml_X5_118 (by decide : 0 < zm.1) rfl rfl (by decide) rfl (Nat.le_of_ble_eq_true rfl) ?_
  refine zk_if_eq (tgt := 31) dX5_two_5 (by decide) (fun h5 => absurd h5 (by decide)) (fun _ => ?_)
  refine zk_aload_n dX5_two_8 rfl ?_
  refine zk_iload_n dX5_two_9 rfl ?_
  refine zk_cVi (qX5_isRider_t hA.1 hA.2.1 hb) dX5_two_10 mwX5_isRider ml_X5_118 (by decide : 0 < zm.1) rfl rfl (by decide) rfl (Nat.le_of_ble_eq_true rfl) ?_
  refine zk_if_eq (tgt := 31) dX5_two_13 (by decide) (fun h13 => absurd h13 (by decide)) (fun _ => ?_)
  refine zk_iload_n dX5_two_16 rfl ?_
  refine zk_iload_n dX5_two_17 rfl ?_
  refine zk_icmp_eq (tgt := 31) dX5_two_18 (by decide) (fun h18 => absurd h18 (fun e => hab (zs_nI_inj (by omega) (by omega) e))) (fun _ => ?_)
  refine zk_iload_n dX5_two_21 rfl ?_
  refine zk_iconst dX5_two_22 zc_0 ?_
  refine zk_bipush dX5_two_23 zb_30 ?_
  refine zk_cSi (qX5_wrongBy) dX5_two_25 miX5_wrongBy ml_X5_138 stX5_wrongBy rfl (by decide) rfl (Nat.le_of_ble_eq_true rfl) ?_
  rw [if_neg (nI_pos (by omega)), if_neg (show ¬ (30 : Int32) < nI t from nI_nlt (a := 30) ht (by decide))]
  refine zk_goto (tgt := 32) dX5_two_28 (by decide) ?_
  refine zk_istore dX5_two_32 zk_S_4 ?_
  refine zk_iload dX5_two_34 rfl ?_
  refine zk_if_eq (tgt := 46) dX5_two_36 (by decide) (fun _ => ?_) (fun h36 => absurd (rfl) h36)
  refine zk_iconst dX5_two_46 zc_0 ?_
  refine zk_istore dX5_two_47 zk_S_5 ?_
  exact zk_forget (ls' := [some (.ref 0), some (.int (nI a)), some (.int (nI b)), some (.int (nI t)), none, some (.int (nI 0)), none, none]) ⟨Or.inr rfl, Or.inr rfl, Or.inr rfl, Or.inr rfl, Or.inl rfl, Or.inr rfl, Or.inl rfl, Or.inl rfl, trivial⟩ (lX5_two hA ha hb hab (by omega) 4 0 M L rfl zs_sm.rf rfl)
