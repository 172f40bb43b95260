/-! shoe, wish: in mind, one number of his changed -/
theorem zs_V0 {a b : Nat → Int32} {n p k : Nat} {v : Int32} (hA : zs_A a n) (hp : p < n) (hk : k < 7) (ok : zs_okk (va_up (zs_get a p) k v)) : zs_A (va_up (zs_cp 52 a b) (10 + 7 * p + k) v) n ∧ zs_ag 8 (zs_J (va_up (zs_cp 52 a b) (10 + 7 * p + k) v)) (zs_J a) ∧ ∀ q, q < n → zs_ag 7 (zs_get (va_up (zs_cp 52 a b) (10 + 7 * p + k) v) q) (if q = p then va_up (zs_get a p) k v else zs_get a q) := by
  have hp6 : p < 6 := Nat.lt_of_lt_of_le hp hA.1
  have e1 : zs_ag 7 (zs_get (va_up (zs_cp 52 a b) (10 + 7 * p + k) v) p) (va_up (zs_get a p) k v) := fun i hi => by
    simp only [zs_get, va_up, zs_cp]
    by_cases e : i = k
    · rw [if_pos (by omega), if_pos e]
    · rw [if_neg (by omega), if_neg e, if_pos (by omega)]
  have e2 : ∀ q, q < 6 → q ≠ p → zs_ag 7 (zs_get (va_up (zs_cp 52 a b) (10 + 7 * p + k) v) q) (zs_get a q) := fun q hq hqp i hi => by
    simp only [zs_get, va_up, zs_cp]
    rw [if_neg (by omega), if_pos (by omega)]
  refine ⟨⟨hA.1, ?_, fun q hq => ?_⟩, fun i hi => ?_, fun q hq => ?_⟩
  · simp only [va_up, zs_cp]
    rw [if_neg (by omega), if_pos (by omega)]
    exact hA.2.1
  · by_cases e : q = p
    · subst e; exact zs_okk_ag e1.sm ok
    · exact zs_okk_ag (e2 q hq e).sm (hA.2.2 q hq)
  · simp only [zs_J, va_up, zs_cp]
    rw [if_neg (by omega), if_pos (by omega)]
  · by_cases e : q = p
    · subst e; rw [if_pos rfl]; exact e1
    · rw [if_neg e]; exact e2 q (Nat.lt_of_lt_of_le hq hA.1) e
theorem zs_okk5 {f : Nat → Int32} {v : Int32} (h : zs_okk f) : zs_okk (va_up f 5 v) := ⟨zs_ok_up h.1 (by decide) (by decide) (by decide), by rw [zk_up_ne (by decide)]; exact h.2⟩
theorem zs_okk2 {f : Nat → Int32} {v : Int32} (h : zs_okk f) (hv : zs_p v) : zs_okk (va_up f 2 v) := ⟨⟨by rw [zk_up_eq]; exact hv, by rw [zk_up_ne (by decide)]; exact h.1.2.1, by rw [zk_up_ne (by decide)]; exact h.1.2.2⟩, by rw [zk_up_ne (by decide)]; exact h.2⟩
def zu_she (J T : Nat → Int32) (pl : Int32) (f : Nat → Int32) (k v : Nat) (s : Int32 × Int32) : Int32 × Int32 := if zu_cm J T pl (va_up f k (nI v)) < s.2 then (nI v, zu_cm J T pl (va_up f k (nI v))) else s
def zu_shv (s : Int32 × Int32) (x : Int32) : Int32 := if s.1 < 0 ∨ x = 0 then s.1 else s.2
theorem qd_cm1 {l : Launch} {M0 : zk_M} {n p k : Nat} {v pl : Int32} (hA : zs_A (M0 1) n) (hp : p < n) (hk : k < 7) (ok : zs_okk (va_up (zs_get (M0 1) p) k v)) {M : zk_M} {L : zk_L} (hs : zs_sm M0 M) : zk_C l zm 4 muX5_comesIn [.ref 0, .int (nI p), .int pl] (va_up (va_up M 2 (zs_cp 52 (M 1) (M 2))) 2 (va_up (va_up M 2 (zs_cp 52 (M 1) (M 2)) 2) (10 + 7 * p + k) v)) L (zp_i (zs_cmv (zs_J (M0 1)) (zs_FW (zs_J (M0 1))) pl 61 0 (va_up (zs_get (M0 1) p) k v)) M0) := by
  obtain ⟨h1, h2, h3⟩ := zs_V0 (b := M 2) hA hp hk ok
  have h := qX5_comesIn (l := l) (L := L) (pl := pl) hp (M0 := M0) (M := va_up (va_up M 2 (zs_cp 52 (M 1) (M 2))) 2 (va_up (va_up M 2 (zs_cp 52 (M 1) (M 2)) 2) (10 + 7 * p + k) v)) ((hs.up (by omega)).up (by omega)) (by rw [zk_up_eq, zk_up_eq, hs.1]; exact h1) (by rw [zk_up_eq, zk_up_eq, hs.1]; exact h2) (by rw [zk_up_eq, zk_up_eq, hs.1]; exact h3)
  rwa [if_pos rfl] at h
set_option maxRecDepth 100000 in
set_option maxHeartbeats 4000000 in
theorem lX5_shoe {l : Launch} {M0 : zk_M} {n p : Nat} (hA : zs_A (M0 1) n) (hp : p < n) {pl x : Int32} {Q : Option Value → zk_M → zk_L → Prop} : ∀ (m i : Nat) (b s : Int32) (M : zk_M) (L : zk_L), i + m = 5 → zs_sm M0 M → (∀ M' L', zs_sm M0 M' → zk_R l zm 6 muX5_shoe 106 [some (.ref 0), some (.int (nI p)), some (.int pl), some (.int x), some (.int (zs_for (zu_she (zs_J (M0 1)) (zs_FW (zs_J (M0 1))) pl (zs_get (M0 1) p) 5) m i (b, s)).1), some (.int (zs_for (zu_she (zs_J (M0 1)) (zs_FW (zs_J (M0 1))) pl (zs_get (M0 1) p) 5) m i (b, s)).2), none, none] [] M' L' Q) → zk_R l zm 6 muX5_shoe 42 [some (.ref 0), some (.int (nI p)), some (.int pl), some (.int x), some (.int b), some (.int s), some (.int (nI i)), none] [] M L Q := by
  have hp6 : p < 6 := Nat.lt_of_lt_of_le hp hA.1
  intro m
  induction m with
  | zero =>
    intro i b s M L hi hs k
    obtain rfl : i = 5 := by omega
    refine zk_iload dX5_shoe_42 rfl ?_
    refine zk_iconst dX5_shoe_44 zc_5 ?_
    refine zk_icmp_ge (tgt := 106) dX5_shoe_45 (by decide) (fun _ => ?_) (fun q => absurd (by decide) q)
    refine zk_forget ?_ (k M L hs)
    exact ⟨Or.inr rfl, Or.inr rfl, Or.inr rfl, Or.inr rfl, Or.inr rfl, Or.inr rfl, Or.inl rfl, Or.inl rfl, trivial⟩
  | succ m ih =>
    intro i b s M L him hs k
    have hi : i < 5 := by omega
    refine zk_iload dX5_shoe_42 rfl ?_
    refine zk_iconst dX5_shoe_44 zc_5 ?_
    refine zk_icmp_ge (tgt := 106) dX5_shoe_45 (by decide) (fun h45 => absurd h45 (nI_ge (b := 5) hi (by decide))) (fun _ => ?_)
    refine zk_aload_n dX5_shoe_48 rfl ?_
    refine zk_getRc (q := 1) dX5_shoe_49 fl_X5_9 (by decide : 0 < zm.1) rfl rfl rfl ?_
    refine zk_aload_n dX5_shoe_52 rfl ?_
    refine zk_getRc (q := 2) dX5_shoe_53 fl_X5_13 (by decide : 0 < zm.1) rfl rfl rfl ?_
    refine zk_cSv (qd_copies) dX5_shoe_56 miX5_copies ml_X5_127 stX5_copies rfl (by decide) rfl (Nat.le_of_ble_eq_true rfl) ?_
    refine zk_aload_n dX5_shoe_59 rfl ?_
    refine zk_getRc (q := 2) dX5_shoe_60 fl_X5_13 (by decide : 0 < zm.1) rfl rfl rfl ?_
    refine zk_iload_n dX5_shoe_63 rfl ?_
    refine zk_iconst dX5_shoe_64 zc_5 ?_
    refine zk_cSi (qX5_of (p := p) (k := 5)) dX5_shoe_65 miX5_of ml_X5_58 stX5_of rfl (by decide) rfl (Nat.le_of_ble_eq_true rfl) ?_
    refine zk_iload dX5_shoe_68 rfl ?_
    refine zk_iast (j := 10 + 7 * p + 5) dX5_shoe_70 (by decide : 2 < zm.1) rfl (zs_in rfl (vp_in_nI (zs_7p hp6 (show 5 < 7 by decide)) (by decide))) (nI_clamp (by omega)) ?_
    refine zk_aload_n dX5_shoe_71 rfl ?_
    refine zk_iload_n dX5_shoe_72 rfl ?_
    refine zk_iload_n dX5_shoe_73 rfl ?_
    refine zk_cVpi (qd_cm1 hA hp (by decide) (zs_okk5 (hA.2.2 p hp6)) hs) dX5_shoe_74 mwX5_comesIn ml_X5_152 (by decide : 0 < zm.1) rfl rfl (by decide) rfl (Nat.le_of_ble_eq_true rfl) (fun M1 L1 hs1 => ?_)
    refine zk_cSi (qX5_orNever_c) dX5_shoe_77 miX5_orNever ml_X5_161 stX5_orNever rfl (by decide) rfl (Nat.le_of_ble_eq_true rfl) ?_
    refine zk_istore dX5_shoe_80 zk_S_7 ?_
    refine zk_iload dX5_shoe_82 rfl ?_
    refine zk_iload dX5_shoe_84 rfl ?_
    refine zk_icmp_lt (tgt := 92) dX5_shoe_86 (by decide) (fun h86 => ?_) (fun h86 => ?_)
    · refine zk_iload dX5_shoe_92 rfl ?_
      refine zk_istore dX5_shoe_94 zk_S_4 ?_
      refine zk_iload dX5_shoe_96 rfl ?_
      refine zk_istore dX5_shoe_98 zk_S_5 ?_
      refine zk_iinc dX5_shoe_100 zc_1 rfl zk_S_6 ?_
      refine zk_goto (tgt := 42) dX5_shoe_103 (by decide) ?_
      rw [← nI_succ]
      first
        | exact zk_forget (ls' := [some (.ref 0), some (.int (nI p)), some (.int pl), some (.int x), some (.int (nI i)), some (.int (zu_cm (zs_J (M0 1)) (zs_FW (zs_J (M0 1))) pl (va_up (zs_get (M0 1) p) 5 (nI i)))), some (.int (nI (i + 1))), none]) ⟨Or.inr rfl, Or.inr rfl, Or.inr rfl, Or.inr rfl, Or.inr rfl, Or.inr rfl, Or.inr rfl, Or.inl rfl, trivial⟩ (ih (i + 1) (nI i) (zu_cm (zs_J (M0 1)) (zs_FW (zs_J (M0 1))) pl (va_up (zs_get (M0 1) p) 5 (nI i))) M1 L1 (by omega) hs1 (fun M' L' h' => by
            have e : (zu_she (zs_J (M0 1)) (zs_FW (zs_J (M0 1))) pl (zs_get (M0 1) p) 5) i (b, s) = (nI i, (zu_cm (zs_J (M0 1)) (zs_FW (zs_J (M0 1))) pl (va_up (zs_get (M0 1) p) 5 (nI i)))) := if_pos h86
            have := k M' L' h'
            rw [zs_for, e] at this
            exact this))
        | exact zk_forget (ls' := [some (.ref 0), some (.int (nI p)), some (.int pl), some (.int x), some (.int b), some (.int s), some (.int (nI (i + 1))), none]) ⟨Or.inr rfl, Or.inr rfl, Or.inr rfl, Or.inr rfl, Or.inr rfl, Or.inr rfl, Or.inr rfl, Or.inl rfl, trivial⟩ (ih (i + 1) b s M1 L1 (by omega) hs1 (fun M' L' h' => by
            have e : (zu_she (zs_J (M0 1)) (zs_FW (zs_J (M0 1))) pl (zs_get (M0 1) p) 5) i (b, s) = (b, s) := if_neg h86
            have := k M' L' h'
            rw [zs_for, e] at this
            exact this))
    · refine zk_goto (tgt := 100) dX5_shoe_89 (by decide) ?_
      refine zk_iinc dX5_shoe_100 zc_1 rfl zk_S_6 ?_
      refine zk_goto (tgt := 42) dX5_shoe_103 (by decide) ?_
      rw [← nI_succ]
      first
        | exact zk_forget (ls' := [some (.ref 0), some (.int (nI p)), some (.int pl), some (.int x), some (.int (nI i)), some (.int (zu_cm (zs_J (M0 1)) (zs_FW (zs_J (M0 1))) pl (va_up (zs_get (M0 1) p) 5 (nI i)))), some (.int (nI (i + 1))), none]) ⟨Or.inr rfl, Or.inr rfl, Or.inr rfl, Or.inr rfl, Or.inr rfl, Or.inr rfl, Or.inr rfl, Or.inl rfl, trivial⟩ (ih (i + 1) (nI i) (zu_cm (zs_J (M0 1)) (zs_FW (zs_J (M0 1))) pl (va_up (zs_get (M0 1) p) 5 (nI i))) M1 L1 (by omega) hs1 (fun M' L' h' => by
            have e : (zu_she (zs_J (M0 1)) (zs_FW (zs_J (M0 1))) pl (zs_get (M0 1) p) 5) i (b, s) = (nI i, (zu_cm (zs_J (M0 1)) (zs_FW (zs_J (M0 1))) pl (va_up (zs_get (M0 1) p) 5 (nI i)))) := if_pos h86
            have := k M' L' h'
            rw [zs_for, e] at this
            exact this))
        | exact zk_forget (ls' := [some (.ref 0), some (.int (nI p)), some (.int pl), some (.int x), some (.int b), some (.int s), some (.int (nI (i + 1))), none]) ⟨Or.inr rfl, Or.inr rfl, Or.inr rfl, Or.inr rfl, Or.inr rfl, Or.inr rfl, Or.inr rfl, Or.inl rfl, trivial⟩ (ih (i + 1) b s M1 L1 (by omega) hs1 (fun M' L' h' => by
            have e : (zu_she (zs_J (M0 1)) (zs_FW (zs_J (M0 1))) pl (zs_get (M0 1) p) 5) i (b, s) = (b, s) := if_neg h86
            have := k M' L' h'
            rw [zs_for, e] at this
            exact this))
set_option maxRecDepth 100000 in
set_option maxHeartbeats 4000000 in
theorem lX5_wish {l : Launch} {M0 : zk_M} {n p : Nat} (hA : zs_A (M0 1) n) (hp : p < n) {pl x : Int32} {Q : Option Value → zk_M → zk_L → Prop} : ∀ (m i : Nat) (b s : Int32) (M : zk_M) (L : zk_L), i + m = 8 → zs_sm M0 M → (∀ M' L', zs_sm M0 M' → zk_R l zm 6 muX5_wish 95 [some (.ref 0), some (.int (nI p)), some (.int pl), some (.int (zs_for (zu_she (zs_J (M0 1)) (zs_FW (zs_J (M0 1))) pl (zs_get (M0 1) p) 2) m i (b, s)).2), some (.int (zs_for (zu_she (zs_J (M0 1)) (zs_FW (zs_J (M0 1))) pl (zs_get (M0 1) p) 2) m i (b, s)).1), none, none] [] M' L' Q) → zk_R l zm 6 muX5_wish 32 [some (.ref 0), some (.int (nI p)), some (.int pl), some (.int s), some (.int b), some (.int (nI i)), none] [] M L Q := by
  have hp6 : p < 6 := Nat.lt_of_lt_of_le hp hA.1
  intro m
  induction m with
  | zero =>
    intro i b s M L hi hs k
    obtain rfl : i = 8 := by omega
    refine zk_iload dX5_wish_32 rfl ?_
    refine zk_bipush (v := 8) dX5_wish_34 (by decide) ?_
    refine zk_icmp_ge (tgt := 95) dX5_wish_36 (by decide) (fun _ => ?_) (fun q => absurd (by decide) q)
    refine zk_forget ?_ (k M L hs)
    exact ⟨Or.inr rfl, Or.inr rfl, Or.inr rfl, Or.inr rfl, Or.inr rfl, Or.inl rfl, Or.inl rfl, trivial⟩
  | succ m ih =>
    intro i b s M L him hs k
    have hi : i < 8 := by omega
    refine zk_iload dX5_wish_32 rfl ?_
    refine zk_bipush dX5_wish_34 zb_8 ?_
    refine zk_icmp_ge (tgt := 95) dX5_wish_36 (by decide) (fun h36 => absurd h36 (nI_ge (b := 8) hi (by decide))) (fun _ => ?_)
    refine zk_aload_n dX5_wish_39 rfl ?_
    refine zk_getRc (q := 1) dX5_wish_40 fl_X5_9 (by decide : 0 < zm.1) rfl rfl rfl ?_
    refine zk_aload_n dX5_wish_43 rfl ?_
    refine zk_getRc (q := 2) dX5_wish_44 fl_X5_13 (by decide : 0 < zm.1) rfl rfl rfl ?_
    refine zk_cSv (qd_copies) dX5_wish_47 miX5_copies ml_X5_127 stX5_copies rfl (by decide) rfl (Nat.le_of_ble_eq_true rfl) ?_
    refine zk_aload_n dX5_wish_50 rfl ?_
    refine zk_getRc (q := 2) dX5_wish_51 fl_X5_13 (by decide : 0 < zm.1) rfl rfl rfl ?_
    refine zk_iload_n dX5_wish_54 rfl ?_
    refine zk_iconst dX5_wish_55 zc_2 ?_
    refine zk_cSi (qX5_of (p := p) (k := 2)) dX5_wish_56 miX5_of ml_X5_58 stX5_of rfl (by decide) rfl (Nat.le_of_ble_eq_true rfl) ?_
    refine zk_iload dX5_wish_59 rfl ?_
    refine zk_iast (j := 10 + 7 * p + 2) dX5_wish_61 (by decide : 2 < zm.1) rfl (zs_in rfl (vp_in_nI (zs_7p hp6 (show 2 < 7 by decide)) (by decide))) (nI_clamp (by omega)) ?_
    refine zk_aload_n dX5_wish_62 rfl ?_
    refine zk_iload_n dX5_wish_63 rfl ?_
    refine zk_iload_n dX5_wish_64 rfl ?_
    refine zk_cVpi (qd_cm1 hA hp (by decide) (zs_okk2 (hA.2.2 p hp6) (zs_p_nI hi)) hs) dX5_wish_65 mwX5_comesIn ml_X5_152 (by decide : 0 < zm.1) rfl rfl (by decide) rfl (Nat.le_of_ble_eq_true rfl) (fun M1 L1 hs1 => ?_)
    refine zk_cSi (qX5_orNever_c) dX5_wish_68 miX5_orNever ml_X5_161 stX5_orNever rfl (by decide) rfl (Nat.le_of_ble_eq_true rfl) ?_
    refine zk_istore dX5_wish_71 zk_S_6 ?_
    refine zk_iload dX5_wish_73 rfl ?_
    refine zk_iload_n dX5_wish_75 rfl ?_
    refine zk_icmp_lt (tgt := 82) dX5_wish_76 (by decide) (fun h76 => ?_) (fun h76 => ?_)
    · refine zk_iload dX5_wish_82 rfl ?_
      refine zk_istore dX5_wish_84 zk_S_4 ?_
      refine zk_iload dX5_wish_86 rfl ?_
      refine zk_istore_n dX5_wish_88 zk_S_3 ?_
      refine zk_iinc dX5_wish_89 zc_1 rfl zk_S_5 ?_
      refine zk_goto (tgt := 32) dX5_wish_92 (by decide) ?_
      rw [← nI_succ]
      first
        | exact zk_forget (ls' := [some (.ref 0), some (.int (nI p)), some (.int pl), some (.int (zu_cm (zs_J (M0 1)) (zs_FW (zs_J (M0 1))) pl (va_up (zs_get (M0 1) p) 2 (nI i)))), some (.int (nI i)), some (.int (nI (i + 1))), none]) ⟨Or.inr rfl, Or.inr rfl, Or.inr rfl, Or.inr rfl, Or.inr rfl, Or.inr rfl, Or.inl rfl, trivial⟩ (ih (i + 1) (nI i) (zu_cm (zs_J (M0 1)) (zs_FW (zs_J (M0 1))) pl (va_up (zs_get (M0 1) p) 2 (nI i))) M1 L1 (by omega) hs1 (fun M' L' h' => by
            have e : (zu_she (zs_J (M0 1)) (zs_FW (zs_J (M0 1))) pl (zs_get (M0 1) p) 2) i (b, s) = (nI i, (zu_cm (zs_J (M0 1)) (zs_FW (zs_J (M0 1))) pl (va_up (zs_get (M0 1) p) 2 (nI i)))) := if_pos h76
            have := k M' L' h'
            rw [zs_for, e] at this
            exact this))
        | exact zk_forget (ls' := [some (.ref 0), some (.int (nI p)), some (.int pl), some (.int s), some (.int b), some (.int (nI (i + 1))), none]) ⟨Or.inr rfl, Or.inr rfl, Or.inr rfl, Or.inr rfl, Or.inr rfl, Or.inr rfl, Or.inl rfl, trivial⟩ (ih (i + 1) b s M1 L1 (by omega) hs1 (fun M' L' h' => by
            have e : (zu_she (zs_J (M0 1)) (zs_FW (zs_J (M0 1))) pl (zs_get (M0 1) p) 2) i (b, s) = (b, s) := if_neg h76
            have := k M' L' h'
            rw [zs_for, e] at this
            exact this))
    · refine zk_goto (tgt := 89) dX5_wish_79 (by decide) ?_
      refine zk_iinc dX5_wish_89 zc_1 rfl zk_S_5 ?_
      refine zk_goto (tgt := 32) dX5_wish_92 (by decide) ?_
      rw [← nI_succ]
      first
        | exact zk_forget (ls' := [some (.ref 0), some (.int (nI p)), some (.int pl), some (.int (zu_cm (zs_J (M0 1)) (zs_FW (zs_J (M0 1))) pl (va_up (zs_get (M0 1) p) 2 (nI i)))), some (.int (nI i)), some (.int (nI (i + 1))), none]) ⟨Or.inr rfl, Or.inr rfl, Or.inr rfl, Or.inr rfl, Or.inr rfl, Or.inr rfl, Or.inl rfl, trivial⟩ (ih (i + 1) (nI i) (zu_cm (zs_J (M0 1)) (zs_FW (zs_J (M0 1))) pl (va_up (zs_get (M0 1) p) 2 (nI i))) M1 L1 (by omega) hs1 (fun M' L' h' => by
            have e : (zu_she (zs_J (M0 1)) (zs_FW (zs_J (M0 1))) pl (zs_get (M0 1) p) 2) i (b, s) = (nI i, (zu_cm (zs_J (M0 1)) (zs_FW (zs_J (M0 1))) pl (va_up (zs_get (M0 1) p) 2 (nI i)))) := if_pos h76
            have := k M' L' h'
            rw [zs_for, e] at this
            exact this))
        | exact zk_forget (ls' := [some (.ref 0), some (.int (nI p)), some (.int pl), some (.int s), some (.int b), some (.int (nI (i + 1))), none]) ⟨Or.inr rfl, Or.inr rfl, Or.inr rfl, Or.inr rfl, Or.inr rfl, Or.inr rfl, Or.inl rfl, trivial⟩ (ih (i + 1) b s M1 L1 (by omega) hs1 (fun M' L' h' => by
            have e : (zu_she (zs_J (M0 1)) (zs_FW (zs_J (M0 1))) pl (zs_get (M0 1) p) 2) i (b, s) = (b, s) := if_neg h76
            have := k M' L' h'
            rw [zs_for, e] at this
            exact this))
set_option maxRecDepth 100000 in
set_option maxHeartbeats 4000000 in
theorem qX5_shoe_r1 {l : Launch} {M : zk_M} {L : zk_L} {n : Nat} (hA : zs_A (M 1) n) {r x : Int32} (hn : ¬ zs_w2 n r x) {y : Int32} : zk_C l zm 6 muX5_shoe [.ref 0, .int r, .int x, .int y] M L (zp_i (-1) (zs_nof M 1)) := by
  refine zk_ofR (ls := [some (.ref 0), some (.int r), some (.int x), some (.int y), none, none, none, none]) (by decide) rfl (Nat.le_of_ble_eq_true rfl) rfl ?_
  refine zk_aload_n dX5_shoe_0 rfl ?_
  refine zk_iload_n dX5_shoe_1 rfl ?_
  refine zk_iload_n dX5_shoe_2 rfl ?_
  refine zk_cVi (qX5_areWrong hA.1 hA.2.1) dX5_shoe_3 mwX5_areWrong ml_X5_155 (by decide : 0 < zm.1) rfl rfl (by decide) rfl (Nat.le_of_ble_eq_true rfl) ?_
  rw [if_pos hn]
  refine zk_if_eq (tgt := 15) dX5_shoe_6 (by decide) (fun h6 => absurd h6 (by decide)) (fun _ => ?_)
  refine zk_aload_n dX5_shoe_9 rfl ?_
  refine zk_iconst dX5_shoe_10 zc_m1 ?_
  refine zk_cVi (qno1) dX5_shoe_11 mwX5_no ml_X5_42 (by decide : 0 < zm.1) rfl rfl (by decide) rfl (Nat.le_of_ble_eq_true rfl) ?_
  refine zk_iret rfl dX5_shoe_14 ?_
  exact ⟨rfl, zs_sm.rf⟩
set_option maxRecDepth 100000 in
set_option maxHeartbeats 4000000 in
theorem qX5_wish_r {l : Launch} {M : zk_M} {L : zk_L} {n : Nat} (hA : zs_A (M 1) n) {r x : Int32} (hn : ¬ zs_w2 n r x) : zk_C l zm 6 muX5_wish [.ref 0, .int r, .int x] M L (zp_i (-1) (zs_nof M 1)) := by
  refine zk_ofR (ls := [some (.ref 0), some (.int r), some (.int x), none, none, none, none]) (by decide) rfl (Nat.le_of_ble_eq_true rfl) rfl ?_
  refine zk_aload_n dX5_wish_0 rfl ?_
  refine zk_iload_n dX5_wish_1 rfl ?_
  refine zk_iload_n dX5_wish_2 rfl ?_
  refine zk_cVi (qX5_areWrong hA.1 hA.2.1) dX5_wish_3 mwX5_areWrong ml_X5_155 (by decide : 0 < zm.1) rfl rfl (by decide) rfl (Nat.le_of_ble_eq_true rfl) ?_
  rw [if_pos hn]
  refine zk_if_eq (tgt := 15) dX5_wish_6 (by decide) (fun h6 => absurd h6 (by decide)) (fun _ => ?_)
  refine zk_aload_n dX5_wish_9 rfl ?_
  refine zk_iconst dX5_wish_10 zc_m1 ?_
  refine zk_cVi (qno1) dX5_wish_11 mwX5_no ml_X5_42 (by decide : 0 < zm.1) rfl rfl (by decide) rfl (Nat.le_of_ble_eq_true rfl) ?_
  refine zk_iret rfl dX5_wish_14 ?_
  exact ⟨rfl, zs_sm.rf⟩
set_option maxRecDepth 100000 in
set_option maxHeartbeats 4000000 in
theorem qX5_shoe_r2 {l : Launch} {M : zk_M} {L : zk_L} {n : Nat} (hA : zs_A (M 1) n) {p : Nat} (hp : p < n) {x : Int32} (hx : zs_p x) {y : Int32} (hy : ¬ (0 ≤ y ∧ y < 2)) : zk_C l zm 6 muX5_shoe [.ref 0, .int (nI p), .int x, .int y] M L (zp_i (-2) (zs_nof M 2)) := by
  refine zk_ofR (ls := [some (.ref 0), some (.int (nI p)), some (.int x), some (.int y), none, none, none, none]) (by decide) rfl (Nat.le_of_ble_eq_true rfl) rfl ?_
  refine zk_aload_n dX5_shoe_0 rfl ?_
  refine zk_iload_n dX5_shoe_1 rfl ?_
  refine zk_iload_n dX5_shoe_2 rfl ?_
  refine zk_cVi (qX5_areWrong hA.1 hA.2.1) dX5_shoe_3 mwX5_areWrong ml_X5_155 (by decide : 0 < zm.1) rfl rfl (by decide) rfl (Nat.le_of_ble_eq_true rfl) ?_
  rw [if_neg (zs_w2_t hp hA.1 hx)]
  refine zk_if_eq (tgt := 15) dX5_shoe_6 (by decide) (fun _ => ?_) (fun h6 => absurd (rfl) h6)
  refine zk_iload_n dX5_shoe_15 rfl ?_
  refine zk_iconst dX5_shoe_16 zc_0 ?_
  refine zk_iconst dX5_shoe_17 zc_1 ?_
  refine zk_cSi (qX5_01_f hy) dX5_shoe_18 miX5_isIn ml_X5_46 stX5_isIn rfl (by decide) rfl (Nat.le_of_ble_eq_true rfl) ?_
  refine zk_if_ne (tgt := 31) dX5_shoe_21 (by decide) (fun h21 => absurd (rfl) h21) (fun _ => ?_)
  refine zk_aload_n dX5_shoe_24 rfl ?_
  refine zk_bipush dX5_shoe_25 zb_m2 ?_
  refine zk_cVi (qno2) dX5_shoe_27 mwX5_no ml_X5_42 (by decide : 0 < zm.1) rfl rfl (by decide) rfl (Nat.le_of_ble_eq_true rfl) ?_
  refine zk_iret rfl dX5_shoe_30 ?_
  exact ⟨rfl, zs_sm.rf⟩
set_option maxRecDepth 100000 in
set_option maxHeartbeats 4000000 in
theorem qX5_shoe_t {l : Launch} {M : zk_M} {L : zk_L} {n : Nat} (hA : zs_A (M 1) n) {p : Nat} (hp : p < n) {x : Int32} (hx : zs_p x) {y : Int32} (hy : 0 ≤ y ∧ y < 2) : zk_C l zm 6 muX5_shoe [.ref 0, .int (nI p), .int x, .int y] M L (zp_i (zu_shv (zs_for (zu_she (zs_J (M 1)) (zs_FW (zs_J (M 1))) x (zs_get (M 1) p) 5) 5 0 (-9, 61)) y) M) := by
  refine zk_ofR (ls := [some (.ref 0), some (.int (nI p)), some (.int x), some (.int y), none, none, none, none]) (by decide) rfl (Nat.le_of_ble_eq_true rfl) rfl ?_
  refine zk_aload_n dX5_shoe_0 rfl ?_
  refine zk_iload_n dX5_shoe_1 rfl ?_
  refine zk_iload_n dX5_shoe_2 rfl ?_
  refine zk_cVi (qX5_areWrong hA.1 hA.2.1) dX5_shoe_3 mwX5_areWrong ml_X5_155 (by decide : 0 < zm.1) rfl rfl (by decide) rfl (Nat.le_of_ble_eq_true rfl) ?_
  rw [if_neg (zs_w2_t hp hA.1 hx)]
  refine zk_if_eq (tgt := 15) dX5_shoe_6 (by decide) (fun _ => ?_) (fun h6 => absurd (rfl) h6)
  refine zk_iload_n dX5_shoe_15 rfl ?_
  refine zk_iconst dX5_shoe_16 zc_0 ?_
  refine zk_iconst dX5_shoe_17 zc_1 ?_
  refine zk_cSi (qX5_01_t hy) dX5_shoe_18 miX5_isIn ml_X5_46 stX5_isIn rfl (by decide) rfl (Nat.le_of_ble_eq_true rfl) ?_
  refine zk_if_ne (tgt := 31) dX5_shoe_21 (by decide) (fun _ => ?_) (fun h21 => absurd h21 (by decide))
  refine zk_bipush dX5_shoe_31 zb_m9 ?_
  refine zk_istore dX5_shoe_33 zk_S_4 ?_
  refine zk_bipush dX5_shoe_35 zb_61 ?_
  refine zk_istore dX5_shoe_37 zk_S_5 ?_
  refine zk_iconst dX5_shoe_39 zc_0 ?_
  refine zk_istore dX5_shoe_40 zk_S_6 ?_
  refine lX5_shoe hA hp 5 0 (-9) 61 M L rfl zs_sm.rf (fun M' L' h' => ?_)
  generalize (zs_for (zu_she (zs_J (M 1)) (zs_FW (zs_J (M 1))) x (zs_get (M 1) p) 5) 5 0 (-9, 61)) = S
  refine zk_iload dX5_shoe_106 rfl ?_
  refine zk_if_lt (tgt := 115) dX5_shoe_108 (by decide) (fun q => ?_) (fun q => ?_)
  · refine zk_iload dX5_shoe_115 rfl ?_
    refine zk_goto (tgt := 122) dX5_shoe_117 (by decide) ?_
    refine zk_iret rfl dX5_shoe_122 ?_
    exact ⟨congrArg (fun v => some (Value.int v)) (if_pos (Or.inl q)).symm, h'⟩
  · refine zk_iload_n dX5_shoe_111 rfl ?_
    refine zk_if_ne (tgt := 120) dX5_shoe_112 (by decide) (fun q2 => ?_) (fun q2 => ?_)
    · refine zk_iload dX5_shoe_120 rfl ?_
      refine zk_iret rfl dX5_shoe_122 ?_
      exact ⟨congrArg (fun v => some (Value.int v)) (if_neg (fun h => h.elim q q2)).symm, h'⟩
    · refine zk_iload dX5_shoe_115 rfl ?_
      refine zk_goto (tgt := 122) dX5_shoe_117 (by decide) ?_
      refine zk_iret rfl dX5_shoe_122 ?_
      exact ⟨congrArg (fun v => some (Value.int v)) (if_pos (Or.inr q2)).symm, h'⟩
set_option maxRecDepth 100000 in
set_option maxHeartbeats 4000000 in
theorem qX5_wish_t {l : Launch} {M : zk_M} {L : zk_L} {n : Nat} (hA : zs_A (M 1) n) {p : Nat} (hp : p < n) {x : Int32} (hx : zs_p x) : zk_C l zm 6 muX5_wish [.ref 0, .int (nI p), .int x] M L (zp_i (zs_for (zu_she (zs_J (M 1)) (zs_FW (zs_J (M 1))) x (zs_get (M 1) p) 2) 8 0 (-9, zu_cm (zs_J (M 1)) (zs_FW (zs_J (M 1))) x (zs_get (M 1) p))).1 M) := by
  refine zk_ofR (ls := [some (.ref 0), some (.int (nI p)), some (.int x), none, none, none, none]) (by decide) rfl (Nat.le_of_ble_eq_true rfl) rfl ?_
  refine zk_aload_n dX5_wish_0 rfl ?_
  refine zk_iload_n dX5_wish_1 rfl ?_
  refine zk_iload_n dX5_wish_2 rfl ?_
  refine zk_cVi (qX5_areWrong hA.1 hA.2.1) dX5_wish_3 mwX5_areWrong ml_X5_155 (by decide : 0 < zm.1) rfl rfl (by decide) rfl (Nat.le_of_ble_eq_true rfl) ?_
  rw [if_neg (zs_w2_t hp hA.1 hx)]
  refine zk_if_eq (tgt := 15) dX5_wish_6 (by decide) (fun _ => ?_) (fun h6 => absurd (rfl) h6)
  refine zk_aload_n dX5_wish_15 rfl ?_
  refine zk_iload_n dX5_wish_16 rfl ?_
  refine zk_iload_n dX5_wish_17 rfl ?_
  refine zk_cVpi (qX5_comesNow hA zs_sm.rf hp) dX5_wish_18 mwX5_comesNow ml_X5_158 (by decide : 0 < zm.1) rfl rfl (by decide) rfl (Nat.le_of_ble_eq_true rfl) (fun M1 L1 hs1 => ?_)
  refine zk_cSi (qX5_orNever_c) dX5_wish_21 miX5_orNever ml_X5_161 stX5_orNever rfl (by decide) rfl (Nat.le_of_ble_eq_true rfl) ?_
  refine zk_istore_n dX5_wish_24 zk_S_3 ?_
  refine zk_bipush dX5_wish_25 zb_m9 ?_
  refine zk_istore dX5_wish_27 zk_S_4 ?_
  refine zk_iconst dX5_wish_29 zc_0 ?_
  refine zk_istore dX5_wish_30 zk_S_5 ?_
  refine lX5_wish hA hp (x := 0) 8 0 (-9) _ M1 L1 rfl hs1 (fun M' L' h' => ?_)
  refine zk_iload dX5_wish_95 rfl ?_
  refine zk_iret rfl dX5_wish_97 ?_
  exact ⟨rfl, h'⟩
abbrev zs_all (n : Nat) (F : Nat → Nat → Int32) : Prop := ∀ p, p < n → F p 4 = F p 3
def zs_mar (J T : Nat → Int32) (n : Nat) : Nat → Nat → (Nat → Nat → Int32) → Int32
  | 0, _, _ => -9
  | m + 1, i, F => if zs_all n F then nI i else zs_mar J T n m (i + 1) (fun p => zs_ride J T (F p))
def zs_abf (b : Nat → Bool) (p : Nat) (x : Int32) : Int32 := x ||| (if b p = true then 1 <<< (nI p &&& 31) else 0)
def zs_ab1 (b : Bool) (p : Nat) (x : Int32) : Int32 := x ||| (if b = true then 1 <<< (nI p &&& 31) else 0)
theorem zs_ab6 : ∀ b0 b1 b2 b3 b4 b5 : Bool, (zs_bits 0 = nI 0) ∧ (zs_bits (zs_ab1 b0 0 0) = nI 1 ↔ b0 = true) ∧ (zs_bits (zs_ab1 b1 1 (zs_ab1 b0 0 0)) = nI 2 ↔ (b0 && b1) = true) ∧ (zs_bits (zs_ab1 b2 2 (zs_ab1 b1 1 (zs_ab1 b0 0 0))) = nI 3 ↔ (b0 && b1 && b2) = true) ∧ (zs_bits (zs_ab1 b3 3 (zs_ab1 b2 2 (zs_ab1 b1 1 (zs_ab1 b0 0 0)))) = nI 4 ↔ (b0 && b1 && b2 && b3) = true) ∧ (zs_bits (zs_ab1 b4 4 (zs_ab1 b3 3 (zs_ab1 b2 2 (zs_ab1 b1 1 (zs_ab1 b0 0 0))))) = nI 5 ↔ (b0 && b1 && b2 && b3 && b4) = true) ∧ (zs_bits (zs_ab1 b5 5 (zs_ab1 b4 4 (zs_ab1 b3 3 (zs_ab1 b2 2 (zs_ab1 b1 1 (zs_ab1 b0 0 0)))))) = nI 6 ↔ (b0 && b1 && b2 && b3 && b4 && b5) = true) := by decide +kernel
theorem zs_abn {b : Nat → Bool} {n : Nat} (hn : n ≤ 6) : zs_bits (zs_for (zs_abf b) n 0 0) = nI n ↔ ∀ p, p < n → b p = true := by
  have h := zs_ab6 (b 0) (b 1) (b 2) (b 3) (b 4) (b 5)
  obtain ⟨h0, h1, h2, h3, h4, h5, h6⟩ := h
  have key : ∀ k, (∀ p, p < k + 1 → b p = true) ↔ ((∀ p, p < k → b p = true) ∧ b k = true) := fun k => ⟨fun h => ⟨fun p hp => h p (by omega), h k (by omega)⟩, fun h p hp => by
    by_cases e : p = k
    · rw [e]; exact h.2
    · exact h.1 p (by omega)⟩
  have z : (∀ p, p < 0 → b p = true) ↔ True := ⟨fun _ => trivial, fun _ p hp => absurd hp (Nat.not_lt_zero p)⟩
  rcases (show n = 0 ∨ n = 1 ∨ n = 2 ∨ n = 3 ∨ n = 4 ∨ n = 5 ∨ n = 6 by omega) with rfl | rfl | rfl | rfl | rfl | rfl | rfl
  · exact ⟨fun _ p hp => absurd hp (Nat.not_lt_zero p), fun _ => h0⟩
  · rw [show zs_bits (zs_for (zs_abf b) 1 0 0) = nI 1 ↔ _ from h1]; simp [key]
  · rw [show zs_bits (zs_for (zs_abf b) 2 0 0) = nI 2 ↔ _ from h2]; simp [key, and_assoc]
  · rw [show zs_bits (zs_for (zs_abf b) 3 0 0) = nI 3 ↔ _ from h3]; simp [key, and_assoc]
  · rw [show zs_bits (zs_for (zs_abf b) 4 0 0) = nI 4 ↔ _ from h4]; simp [key, and_assoc]
  · rw [show zs_bits (zs_for (zs_abf b) 5 0 0) = nI 5 ↔ _ from h5]; simp [key, and_assoc]
  · rw [show zs_bits (zs_for (zs_abf b) 6 0 0) = nI 6 ↔ _ from h6]; simp [key, and_assoc]
theorem zs_atn {a : Nat → Int32} {n : Nat} (hn : n ≤ 6) : zs_bits (zs_for (zs_atf a) n 0 0) = nI n ↔ zs_all n (fun p => zs_get a p) := by
  have e : zs_for (zs_atf a) n 0 0 = zs_for (zs_abf (fun p => decide (zs_get a p 4 = zs_get a p 3))) n 0 0 := by
    refine zs_for_rel (fun _ (x y : Int32) => x = y) n 0 0 0 (fun j x y _ hj h => ?_) rfl
    subst h
    unfold zs_atf zs_abf
    by_cases q : zs_get a j 4 = zs_get a j 3
    · rw [if_pos q, if_pos (decide_eq_true q)]
    · rw [if_neg q, if_neg (by simpa using q)]
  rw [e, zs_abn hn]
  exact ⟨fun h p hp => of_decide_eq_true (h p hp), fun h p hp => decide_eq_true (h p hp)⟩
theorem zs_V.all {M : zk_M} {n : Nat} {J T : Nat → Int32} {F : Nat → Nat → Int32} (h : zs_V M n J T F) : zs_bits (zs_for (zs_atf (M 2)) n 0 0) = nI n ↔ zs_all n F := by
  rw [zs_atn h.1.1]
  exact ⟨fun q p hp => by rw [← h.2.2.2 p hp 4 (by decide), ← h.2.2.2 p hp 3 (by decide)]; exact q p hp, fun q p hp => by show zs_get (M 2) p 4 = zs_get (M 2) p 3; rw [h.2.2.2 p hp 4 (by decide), h.2.2.2 p hp 3 (by decide)]; exact q p hp⟩
set_option maxRecDepth 100000 in
set_option maxHeartbeats 4000000 in
theorem lX5_arrived {l : Launch} {M0 : zk_M} {n : Nat} {J T : Nat → Int32} {v : Int32} : ∀ (m i : Nat) (F : Nat → Nat → Int32) (M : zk_M) (L : zk_L), i + m = 61 → zs_sm M0 M → zs_V M n J T F → v = zs_mar J T n m i F → zk_R l zm 6 muX5_arrived 7 [some (.ref 0), some (.int (nI i))] [] M L (zp_i v M0) := by
  intro m
  induction m with
  | zero =>
    intro i F M L hi hs hV ek
    obtain rfl : i = 61 := by omega
    refine zk_iload_n dX5_arrived_7 rfl ?_
    refine zk_bipush (v := 60) dX5_arrived_8 (by decide) ?_
    refine zk_icmp_gt (tgt := 49) dX5_arrived_10 (by decide) (fun _ => ?_) (fun q => absurd (by decide) q)
    refine zk_bipush (v := -9) dX5_arrived_49 (by decide) ?_
    refine zk_iret rfl dX5_arrived_51 ?_
    exact ⟨by rw [ek]; rfl, hs⟩
  | succ m ih =>
    intro i F M L hi hs hV ek
    refine zk_iload_n dX5_arrived_7 rfl ?_
    refine zk_bipush dX5_arrived_8 zb_60 ?_
    refine zk_icmp_gt (tgt := 49) dX5_arrived_10 (by decide) (fun h10 => absurd h10 (nI_nlt (a := 60) (show i ≤ 60 by omega) (by decide))) (fun _ => ?_)
    refine zk_aload_n dX5_arrived_13 rfl ?_
    refine zk_getRc (q := 2) dX5_arrived_14 fl_X5_13 (by decide : 0 < zm.1) rfl rfl rfl ?_
    refine zk_cSi (qX5_atSaid zm_a2 (n := n) ⟨hV.1.1, hV.1.2.1⟩) dX5_arrived_17 miX5_atSaid ml_X5_141 stX5_atSaid rfl (by decide) rfl (Nat.le_of_ble_eq_true rfl) ?_
    refine zk_cSi (qX5_bits) dX5_arrived_20 miX5_bits ml_X5_145 stX5_bits rfl (by decide) rfl (Nat.le_of_ble_eq_true rfl) ?_
    refine zk_aload_n dX5_arrived_23 rfl ?_
    refine zk_getRc (q := 2) dX5_arrived_24 fl_X5_13 (by decide : 0 < zm.1) rfl rfl rfl ?_
    refine zk_iconst dX5_arrived_27 zc_0 ?_
    refine zk_iald (j := 0) dX5_arrived_28 (by decide : 2 < zm.1) rfl (zs_in rfl (vp_in_iff.mpr (by decide))) (by decide) ?_
    rw [hV.1.2.1]
    refine zk_icmp_ne (tgt := 34) dX5_arrived_29 (by decide) (fun h29 => ?_) (fun h29 => ?_)
    · refine zk_aload_n dX5_arrived_34 rfl ?_
      refine zk_aload_n dX5_arrived_35 rfl ?_
      refine zk_getRc (q := 2) dX5_arrived_36 fl_X5_13 (by decide : 0 < zm.1) rfl rfl rfl ?_
      refine zk_iconst dX5_arrived_39 zc_0 ?_
      refine zk_callV (qd_day hs hV) dX5_arrived_40 mwX5_day ml_X5_76 (by decide : 0 < zm.1) rfl rfl (by decide) rfl (Nat.le_of_ble_eq_true rfl) (fun r1 M1 L1 h1 => ?_)
      obtain ⟨rfl, hs1, hV1⟩ := h1
      refine zk_iinc dX5_arrived_43 zc_1 rfl zk_S_1 ?_
      refine zk_goto (tgt := 7) dX5_arrived_46 (by decide) ?_
      rw [← nI_succ]
      refine ih (i + 1) _ M1 L1 (by omega) hs1 hV1 ?_
      rw [ek, zs_mar, if_neg (fun q => h29 (hV.all.mpr q))]
      simp only [zs_dF0]
    · refine zk_iload_n dX5_arrived_32 rfl ?_
      refine zk_iret rfl dX5_arrived_33 ?_
      exact ⟨by rw [ek, zs_mar, if_pos (hV.all.mp h29)], hs⟩
set_option maxRecDepth 100000 in
set_option maxHeartbeats 4000000 in
theorem qX5_arrived_t {l : Launch} {M : zk_M} {L : zk_L} {n : Nat} (hA : zs_A (M 1) n) : zk_C l zm 6 muX5_arrived [.ref 0] M L (zp_i (zs_mar (zs_J (M 1)) (zs_FW (zs_J (M 1))) n 61 0 (fun p => zs_get (M 1) p)) M) := by
  refine zk_ofR (ls := [some (.ref 0), none]) (by decide) rfl (Nat.le_of_ble_eq_true rfl) rfl ?_
  refine zk_aload_n dX5_arrived_0 rfl ?_
  refine zk_iconst dX5_arrived_1 zc_0 ?_
  refine zk_callV (qX5_takes (t := 0) hA zs_sm.rf (by decide)) dX5_arrived_2 mwX5_takes ml_X5_148 (by decide : 0 < zm.1) rfl rfl (by decide) rfl (Nat.le_of_ble_eq_true rfl) (fun r1 M1 L1 h1 => ?_)
  obtain ⟨rfl, hs1, hV⟩ := h1
  refine zk_iconst dX5_arrived_5 zc_0 ?_
  refine zk_istore_n dX5_arrived_6 zk_S_1 ?_
  exact lX5_arrived 61 0 _ M1 L1 rfl hs1 hV rfl
