theorem zs_put_self {a : Nat → Int32} {p : Nat} : zs_put a p (zs_get a p) = a := by
  funext i
  simp only [zs_put, zs_get]
  split
  · rw [show 10 + 7 * p + (i - (10 + 7 * p)) = i by omega]
  · rfl
theorem zs_kl6 {c : Int32} (h : 0 ≤ zs_kl c) : 0 ≤ zs_kl c ∧ zs_kl c < 6 := by
  refine ⟨h, ?_⟩
  unfold zs_kl
  repeat' split
  all_goals decide
def zs_dn (M M' : zk_M) : Prop := ∀ o, o ≠ 1 → o ≠ 5 → M' o = M o
set_option maxRecDepth 100000 in
set_option maxHeartbeats 4000000 in
theorem lX5_adds {l : Launch} {M : zk_M} {L : zk_L} {n : Nat} (hn6 : n < 6) {Q : Option Value → zk_M → zk_L → Prop} : ∀ (m i : Nat) (g : Nat → Int32), i + m = 5 → zk_R l zm 3 muX5_addsRider 85 [some (.ref 0), some (.int (nI n)), none] [] (va_up M 1 (zs_put (M 1) n (zs_for (fun i f => va_up f i (M 9 i)) m i g))) L Q → zk_R l zm 3 muX5_addsRider 58 [some (.ref 0), some (.int (nI n)), some (.int (nI i))] [] (va_up M 1 (zs_put (M 1) n g)) L Q := by
  intro m
  induction m with
  | zero =>
    intro i g hi k
    obtain rfl : i = 5 := by omega
    refine zk_iload_n dX5_addsRider_58 rfl ?_
    refine zk_iconst dX5_addsRider_59 zc_5 ?_
    refine zk_icmp_ge (tgt := 85) dX5_addsRider_60 (by decide) (fun _ => ?_) (fun q => absurd (by decide) q)
    refine zk_forget ?_ k
    exact ⟨Or.inr rfl, Or.inr rfl, Or.inl rfl, trivial⟩
  | succ m ih =>
    intro i g him k
    have hi : i < 5 := by omega
    refine zk_iload_n dX5_addsRider_58 rfl ?_
    refine zk_iconst dX5_addsRider_59 zc_5 ?_
    refine zk_icmp_ge (tgt := 85) dX5_addsRider_60 (by decide) (fun h60 => absurd h60 (nI_ge (b := 5) hi (by decide))) (fun _ => ?_)
    refine zk_aload_n dX5_addsRider_63 rfl ?_
    refine zk_getRc (q := 1) dX5_addsRider_64 fl_X5_9 (by decide : 0 < zm.1) rfl rfl rfl ?_
    refine zk_iload_n dX5_addsRider_67 rfl ?_
    refine zk_iload_n dX5_addsRider_68 rfl ?_
    refine zk_cSi (qX5_of (p := n) (k := i)) dX5_addsRider_69 miX5_of ml_X5_58 stX5_of rfl (by decide) rfl (Nat.le_of_ble_eq_true rfl) ?_
    refine zk_aload_n dX5_addsRider_72 rfl ?_
    refine zk_getRc (q := 9) dX5_addsRider_73 fl_X5_34 (by decide : 0 < zm.1) rfl rfl rfl ?_
    refine zk_iload_n dX5_addsRider_76 rfl ?_
    refine zk_iald (j := i) dX5_addsRider_77 (by decide : 9 < zm.1) rfl (zs_in rfl (vp_in_nI hi (by decide))) (nI_clamp (by omega)) ?_
    rw [show (va_up M 1 (zs_put (M 1) n g)) 9 = M 9 from zk_up_ne (by decide)]
    refine zk_iast (j := 10 + 7 * n + i) dX5_addsRider_78 (by decide : 1 < zm.1) rfl (zs_in rfl (vp_in_nI (zs_7p hn6 (show i < 7 by omega)) (by decide))) (nI_clamp (by omega)) ?_
    rw [zk_up_eq, zs_up2, zs_put2 (by omega)]
    refine zk_iinc dX5_addsRider_79 zc_1 rfl zk_S_2 ?_
    refine zk_goto (tgt := 58) dX5_addsRider_82 (by decide) ?_
    rw [← nI_succ]
    refine ih (i + 1) _ (by omega) ?_
    exact k
def zu_new (a : Nat → Int32) (n : Nat) (N : Nat → Int32) : Nat → Int32 := va_up (zs_put a n (zs_new (zs_get a n) (N 0) (N 1) (N 2) (N 3) (N 4))) 0 (nI (n + 1))
theorem zs_n6 {n : Nat} (h : n ≤ 6) : nI n = 6 ↔ n = 6 := ⟨fun e => zs_nI_inj (b := 6) (by omega) (by decide) e, fun e => by rw [e]; rfl⟩
set_option maxRecDepth 100000 in
set_option maxHeartbeats 4000000 in
theorem qX5_addsRider_t {l : Launch} {M : zk_M} {L : zk_L} {n : Nat} (hA : zs_A (M 1) n) (hk : 0 ≤ M 9 0 ∧ M 9 0 < 6) (h2 : zs_p (M 9 2)) (h3 : zs_p (M 9 3)) (h4 : zs_p (M 9 4)) (hn6 : n < 6) : zk_C l zm 3 muX5_addsRider [.ref 0] M L (fun r M1 _ => r = some (.int 1) ∧ M1 1 = zu_new (M 1) n (M 9) ∧ zs_dn M M1) := by
  refine zk_ofR (ls := [some (.ref 0), none, none]) (by decide) rfl (Nat.le_of_ble_eq_true rfl) rfl ?_
  refine zk_aload_n dX5_addsRider_0 rfl ?_
  refine zk_getRc (q := 9) dX5_addsRider_1 fl_X5_34 (by decide : 0 < zm.1) rfl rfl rfl ?_
  refine zk_iconst dX5_addsRider_4 zc_2 ?_
  refine zk_iald (j := 2) dX5_addsRider_5 (by decide : 9 < zm.1) rfl (zs_in rfl (vp_in_iff.mpr (by decide))) (by decide) ?_
  refine zk_cSi (qX5_isPlace_t h2) dX5_addsRider_6 miX5_isPlace ml_X5_104 stX5_isPlace rfl (by decide) rfl (Nat.le_of_ble_eq_true rfl) ?_
  refine zk_if_eq (tgt := 47) dX5_addsRider_9 (by decide) (fun h9 => absurd h9 (by decide)) (fun _ => ?_)
  refine zk_aload_n dX5_addsRider_12 rfl ?_
  refine zk_getRc (q := 9) dX5_addsRider_13 fl_X5_34 (by decide : 0 < zm.1) rfl rfl rfl ?_
  refine zk_iconst dX5_addsRider_16 zc_3 ?_
  refine zk_iald (j := 3) dX5_addsRider_17 (by decide : 9 < zm.1) rfl (zs_in rfl (vp_in_iff.mpr (by decide))) (by decide) ?_
  refine zk_cSi (qX5_isPlace_t h3) dX5_addsRider_18 miX5_isPlace ml_X5_104 stX5_isPlace rfl (by decide) rfl (Nat.le_of_ble_eq_true rfl) ?_
  refine zk_if_eq (tgt := 47) dX5_addsRider_21 (by decide) (fun h21 => absurd h21 (by decide)) (fun _ => ?_)
  refine zk_aload_n dX5_addsRider_24 rfl ?_
  refine zk_getRc (q := 9) dX5_addsRider_25 fl_X5_34 (by decide : 0 < zm.1) rfl rfl rfl ?_
  refine zk_iconst dX5_addsRider_28 zc_4 ?_
  refine zk_iald (j := 4) dX5_addsRider_29 (by decide : 9 < zm.1) rfl (zs_in rfl (vp_in_iff.mpr (by decide))) (by decide) ?_
  refine zk_cSi (qX5_isPlace_t h4) dX5_addsRider_30 miX5_isPlace ml_X5_104 stX5_isPlace rfl (by decide) rfl (Nat.le_of_ble_eq_true rfl) ?_
  refine zk_if_eq (tgt := 47) dX5_addsRider_33 (by decide) (fun h33 => absurd h33 (by decide)) (fun _ => ?_)
  refine zk_aload_n dX5_addsRider_36 rfl ?_
  refine zk_getRc (q := 1) dX5_addsRider_37 fl_X5_9 (by decide : 0 < zm.1) rfl rfl rfl ?_
  refine zk_iconst dX5_addsRider_40 zc_0 ?_
  refine zk_iald (j := 0) dX5_addsRider_41 (by decide : 1 < zm.1) rfl (zs_in rfl (vp_in_iff.mpr (by decide))) (by decide) ?_
  rw [hA.2.1]
  refine zk_bipush dX5_addsRider_42 zb_6 ?_
  refine zk_icmp_ne (tgt := 49) dX5_addsRider_44 (by decide) (fun _ => ?_) (fun h44 => absurd h44 (fun e => by have := (zs_n6 hA.1).mp e; omega))
  refine zk_aload_n dX5_addsRider_49 rfl ?_
  refine zk_getRc (q := 1) dX5_addsRider_50 fl_X5_9 (by decide : 0 < zm.1) rfl rfl rfl ?_
  refine zk_iconst dX5_addsRider_53 zc_0 ?_
  refine zk_iald (j := 0) dX5_addsRider_54 (by decide : 1 < zm.1) rfl (zs_in rfl (vp_in_iff.mpr (by decide))) (by decide) ?_
  rw [hA.2.1]
  refine zk_istore_n dX5_addsRider_55 zk_S_1 ?_
  refine zk_iconst dX5_addsRider_56 zc_0 ?_
  refine zk_istore_n dX5_addsRider_57 zk_S_2 ?_
  have eM : M = va_up M 1 (zs_put (M 1) n (zs_get (M 1) n)) := by rw [zs_put_self, zs_up_self]
  rw [show zk_R l zm 3 muX5_addsRider = fun pc ls st (M' : zk_M) L Q => zk_R l zm 3 muX5_addsRider pc ls st M' L Q from rfl]
  refine Eq.mpr (congrArg (fun X => zk_R l zm 3 muX5_addsRider 58 [some (.ref 0), some (.int (nI n)), some (.int (nI 0))] [] X L _) eM) ?_
  refine lX5_adds hn6 5 0 _ rfl ?_
  refine zk_aload_n dX5_addsRider_85 rfl ?_
  refine zk_getRc (q := 1) dX5_addsRider_86 fl_X5_9 (by decide : 0 < zm.1) rfl rfl rfl ?_
  refine zk_iload_n dX5_addsRider_89 rfl ?_
  refine zk_cSv (qX5_isShod zm_a1 hn6 (by rw [zk_up_eq, zs_get_put 0 (by decide)]; exact hk)) dX5_addsRider_90 miX5_isShod ml_X5_108 stX5_isShod rfl (by decide) rfl (Nat.le_of_ble_eq_true rfl) ?_
  rw [zk_up_eq, zs_up2, zs_put_put]
  refine zk_aload_n dX5_addsRider_93 rfl ?_
  refine zk_getRc (q := 1) dX5_addsRider_94 fl_X5_9 (by decide : 0 < zm.1) rfl rfl rfl ?_
  refine zk_iconst dX5_addsRider_97 zc_0 ?_
  refine zk_dup2 dX5_addsRider_98 rfl rfl ?_
  refine zk_iald (j := 0) dX5_addsRider_99 (by decide : 1 < zm.1) rfl (zs_in rfl (vp_in_iff.mpr (by decide))) (by decide) ?_
  rw [zk_up_eq, zs_put_lo (by decide), hA.2.1]
  refine zk_iconst dX5_addsRider_100 zc_1 ?_
  refine zk_iadd dX5_addsRider_101 ?_
  rw [← nI_succ]
  refine zk_iast (j := 0) dX5_addsRider_102 (by decide : 1 < zm.1) rfl (zs_in rfl (vp_in_iff.mpr (by decide))) (by decide) ?_
  rw [zk_up_eq, zs_up2]
  refine zk_iconst dX5_addsRider_103 zc_1 ?_
  refine zk_zret rfl (by decide) dX5_addsRider_104 ?_
  refine ⟨rfl, ?_, fun o h1 h5 => zk_up_ne h1⟩
  rw [zk_up_eq]
  unfold zu_new
  exact congrArg (fun f => va_up f 0 (nI (n + 1))) (zs_put_cg (zs_shod_ag (zs_get_put (f := zs_for (fun i f => va_up f i (M 9 i)) 5 0 (zs_get (M 1) n)))))
set_option maxRecDepth 100000 in
set_option maxHeartbeats 4000000 in
theorem qX5_addsRider_f {l : Launch} {M : zk_M} {L : zk_L} {n : Nat} (hA : zs_A (M 1) n) (hn : ¬ (zs_p (M 9 2) ∧ zs_p (M 9 3) ∧ zs_p (M 9 4) ∧ n < 6)) : zk_C l zm 3 muX5_addsRider [.ref 0] M L (zk_Ei 0 M L) := by
  refine zk_ofR (ls := [some (.ref 0), none, none]) (by decide) rfl (Nat.le_of_ble_eq_true rfl) rfl ?_
  refine zk_aload_n dX5_addsRider_0 rfl ?_
  refine zk_getRc (q := 9) dX5_addsRider_1 fl_X5_34 (by decide : 0 < zm.1) rfl rfl rfl ?_
  refine zk_iconst dX5_addsRider_4 zc_2 ?_
  refine zk_iald (j := 2) dX5_addsRider_5 (by decide : 9 < zm.1) rfl (zs_in rfl (vp_in_iff.mpr (by decide))) (by decide) ?_
  refine zk_cSi (qX5_isPlace) dX5_addsRider_6 miX5_isPlace ml_X5_104 stX5_isPlace rfl (by decide) rfl (Nat.le_of_ble_eq_true rfl) ?_
  refine zk_if_eq (tgt := 47) dX5_addsRider_9 (by decide) (fun h9 => ?_) (fun h9 => ?_)
  · have h2 := zs_if0 h9
    refine zk_iconst dX5_addsRider_47 zc_0 ?_
    refine zk_zret rfl (by decide) dX5_addsRider_48 ?_
    exact ⟨rfl, rfl, rfl⟩
  · have h2 := zs_if1 h9
    refine zk_aload_n dX5_addsRider_12 rfl ?_
    refine zk_getRc (q := 9) dX5_addsRider_13 fl_X5_34 (by decide : 0 < zm.1) rfl rfl rfl ?_
    refine zk_iconst dX5_addsRider_16 zc_3 ?_
    refine zk_iald (j := 3) dX5_addsRider_17 (by decide : 9 < zm.1) rfl (zs_in rfl (vp_in_iff.mpr (by decide))) (by decide) ?_
    refine zk_cSi (qX5_isPlace) dX5_addsRider_18 miX5_isPlace ml_X5_104 stX5_isPlace rfl (by decide) rfl (Nat.le_of_ble_eq_true rfl) ?_
    refine zk_if_eq (tgt := 47) dX5_addsRider_21 (by decide) (fun h21 => ?_) (fun h21 => ?_)
    · have h3 := zs_if0 h21
      refine zk_iconst dX5_addsRider_47 zc_0 ?_
      refine zk_zret rfl (by decide) dX5_addsRider_48 ?_
      exact ⟨rfl, rfl, rfl⟩
    · have h3 := zs_if1 h21
      refine zk_aload_n dX5_addsRider_24 rfl ?_
      refine zk_getRc (q := 9) dX5_addsRider_25 fl_X5_34 (by decide : 0 < zm.1) rfl rfl rfl ?_
      refine zk_iconst dX5_addsRider_28 zc_4 ?_
      refine zk_iald (j := 4) dX5_addsRider_29 (by decide : 9 < zm.1) rfl (zs_in rfl (vp_in_iff.mpr (by decide))) (by decide) ?_
      refine zk_cSi (qX5_isPlace) dX5_addsRider_30 miX5_isPlace ml_X5_104 stX5_isPlace rfl (by decide) rfl (Nat.le_of_ble_eq_true rfl) ?_
      refine zk_if_eq (tgt := 47) dX5_addsRider_33 (by decide) (fun h33 => ?_) (fun h33 => ?_)
      · have h4 := zs_if0 h33
        refine zk_iconst dX5_addsRider_47 zc_0 ?_
        refine zk_zret rfl (by decide) dX5_addsRider_48 ?_
        exact ⟨rfl, rfl, rfl⟩
      · have h4 := zs_if1 h33
        refine zk_aload_n dX5_addsRider_36 rfl ?_
        refine zk_getRc (q := 1) dX5_addsRider_37 fl_X5_9 (by decide : 0 < zm.1) rfl rfl rfl ?_
        refine zk_iconst dX5_addsRider_40 zc_0 ?_
        refine zk_iald (j := 0) dX5_addsRider_41 (by decide : 1 < zm.1) rfl (zs_in rfl (vp_in_iff.mpr (by decide))) (by decide) ?_
        rw [hA.2.1]
        refine zk_bipush dX5_addsRider_42 zb_6 ?_
        refine zk_icmp_ne (tgt := 49) dX5_addsRider_44 (by decide) (fun h44 => ?_) (fun h44 => ?_)
        · exact absurd ⟨h2, h3, h4, by have := hA.1; have h : ¬ n = 6 := fun e => h44 ((zs_n6 hA.1).mpr e); omega⟩ hn
        · refine zk_iconst dX5_addsRider_47 zc_0 ?_
          refine zk_zret rfl (by decide) dX5_addsRider_48 ?_
          exact ⟨rfl, rfl, rfl⟩
