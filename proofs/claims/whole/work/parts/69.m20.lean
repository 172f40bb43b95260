set_option maxRecDepth 100000 in
set_option maxHeartbeats 4000000 in
theorem lX5_ct1 {l : Launch} {M0 : zk_M} {k : Nat} (hL : zs_L M0 k) {Q : Option Value → zk_M → zk_L → Prop} : ∀ (m st c : Nat) (M : zk_M) (L : zk_L), k + 1 ≤ st + m → st < 150 → (st < k ∨ st = 0) → zs_pr M0 M → M 0 11 = nI st → (∀ M' L', zs_pr M0 M' → zk_R l zm 6 muX5_county 46 [some (.ref 0), some (.int (nI (zu_p1 (zu_h (M0 6) k) k m st c).2)), some (.int (zu_p1 (zu_h (M0 6) k) k m st c).1), none, none, none] [] M' L' Q) → zk_R l zm 6 muX5_county 10 [some (.ref 0), some (.int (nI c)), some (.int (-9)), none, none, none] [] M L Q := by
  have hk96 := hL.1
  intro m
  induction m with
  | zero =>
    intro st c M L hm hst hs hpr hq kk
    exfalso
    omega
  | succ m ih =>
    intro st c M L hm hst hs hpr hq kk
    refine zk_aload_n dX5_county_10 rfl ?_
    refine zk_callV (qX5_rs (hL.pr hpr) (by omega) hq) dX5_county_11 mwX5_readsStatement ml_X5_124 (by decide : 0 < zm.1) rfl rfl (by decide) rfl (Nat.le_of_ble_eq_true rfl) (fun r1 M1 L1 g1 => ?_)
    rw [hpr.1 6 (by decide) (by decide)] at g1
    obtain ⟨rfl, gp, gq, -⟩ := g1
    have hpr1 := hpr.tr gp
    refine zk_if_ne (tgt := 26) dX5_county_14 (by decide) (fun h14 => ?_) (fun h14 => ?_)
    · have hok := zs_bi1 h14
      refine zk_iinc dX5_county_26 zc_1 rfl zk_S_1 ?_
      refine zk_iload_n dX5_county_29 rfl ?_
      refine zk_bipush dX5_county_30 zb_m9 ?_
      refine zk_icmp_ne (tgt := 46) dX5_county_32 (by decide) (fun h32 => absurd (rfl) h32) (fun _ => ?_)
      refine zk_aload_n dX5_county_35 rfl ?_
      refine zk_getI dX5_county_36 fl_X5_87 (by decide : 0 < zm.1) rfl rfl ?_
      rw [gq]
      refine zk_aload_n dX5_county_39 rfl ?_
      refine zk_getI dX5_county_40 fl_X5_83 (by decide : 0 < zm.1) rfl rfl ?_
      rw [(hL.pr hpr1).2]
      refine zk_icmp_lt (tgt := 10) dX5_county_43 (by decide) (fun h43 => ?_) (fun h43 => ?_)
      · have hlt : (zu_st (zu_h (M0 6) k) st).2 < k := Nat.not_le.mp (fun q => absurd h43 (nI_nlt q (by have := zu_st_le (zu_h (M0 6) k) st; omega)))
        rw [← nI_succ]
        refine ih (zu_st (zu_h (M0 6) k) st).2 (c + 1) M1 L1 (by have := zu_st_gt hok; omega) (by omega) (Or.inl hlt) hpr1 gq (fun M' L' h' => ?_)
        have := kk M' L' h'
        rw [zu_p1, if_pos hok, if_pos hlt] at this
        exact this
      · have hlt : ¬ (zu_st (zu_h (M0 6) k) st).2 < k := fun q => h43 (nI_lt q (by omega))
        rw [← nI_succ]
        first
          | (have := kk M1 L1 hpr1
             rw [zu_p1, if_pos hok, if_neg hlt] at this
             exact this)
          | (have := kk M1 L1 hpr1
             rw [zu_p1, if_neg hok] at this
             exact this)
    · have hok := zs_bi0 h14
      refine zk_sipush dX5_county_17 zs_m1000 ?_
      refine zk_aload_n dX5_county_20 rfl ?_
      refine zk_getI dX5_county_21 fl_X5_87 (by decide : 0 < zm.1) rfl rfl ?_
      rw [gq]
      refine zk_isub dX5_county_24 ?_
      refine zk_istore_n dX5_county_25 zk_S_2 ?_
      refine zk_iinc dX5_county_26 zc_1 rfl zk_S_1 ?_
      refine zk_iload_n dX5_county_29 rfl ?_
      refine zk_bipush dX5_county_30 zb_m9 ?_
      refine zk_icmp_ne (tgt := 46) dX5_county_32 (by decide) (fun _ => ?_) (fun h32 => absurd h32 ((zs_mk (by have := zu_st_le (zu_h (M0 6) k) st; omega)).1))
      rw [← nI_succ]
      first
        | (have := kk M1 L1 hpr1
           rw [zu_p1, if_pos hok, if_neg hlt] at this
           exact this)
        | (have := kk M1 L1 hpr1
           rw [zu_p1, if_neg hok] at this
           exact this)
def zs_q2 (M0 M : zk_M) : Prop := M 3 = M0 3 ∧ M 4 = M0 4 ∧ M 6 = M0 6 ∧ M 7 = M0 7 ∧ M 8 = M0 8 ∧ ∀ j, j ≠ 11 → M 0 j = M0 0 j
theorem zs_q2.pr {M0 M M' : zk_M} (h : zs_q2 M0 M) (p : zs_pr M M') : zs_q2 M0 M' := ⟨(p.1 3 (by decide) (by decide)).trans h.1, (p.1 4 (by decide) (by decide)).trans h.2.1, (p.1 6 (by decide) (by decide)).trans h.2.2.1, (p.1 7 (by decide) (by decide)).trans h.2.2.2.1, (p.1 8 (by decide) (by decide)).trans h.2.2.2.2.1, fun j hj => (p.2 j hj).trans (h.2.2.2.2.2 j hj)⟩
theorem zs_q2.dn {M0 M M' : zk_M} (h : zs_q2 M0 M) (p : zs_dn M M') : zs_q2 M0 M' := ⟨(p 3 (by decide) (by decide)).trans h.1, (p 4 (by decide) (by decide)).trans h.2.1, (p 6 (by decide) (by decide)).trans h.2.2.1, (p 7 (by decide) (by decide)).trans h.2.2.2.1, (p 8 (by decide) (by decide)).trans h.2.2.2.2.1, fun j hj => by rw [p 0 (by decide) (by decide)]; exact h.2.2.2.2.2 j hj⟩
theorem zs_q2.up1 {M0 M : zk_M} (h : zs_q2 M0 M) {f : Nat → Int32} : zs_q2 M0 (va_up M 1 f) := h.dn (fun o h1 _ => zk_up_ne h1)
theorem zs_L.q2 {M M' : zk_M} {k : Nat} (h : zs_L M k) (hp : zs_q2 M M') : zs_L M' k := ⟨h.1, by rw [hp.2.2.2.2.2 9 (by decide)]; exact h.2⟩
theorem zu_p2_n {h : Nat → Int32} {k m st : Nat} {a : Nat → Int32} (hs : st < k) (e : zu_do a (a 0).toNatClampNeg (h st) (zu_nums h st) = none) : zu_p2 h k (m + 1) st a = (-2000 - nI st, none) := by rw [zu_p2, if_pos hs, e]
theorem zu_p2_s {h : Nat → Int32} {k m st : Nat} {a a' : Nat → Int32} (hs : st < k) (e : zu_do a (a 0).toNatClampNeg (h st) (zu_nums h st) = some a') : zu_p2 h k (m + 1) st a = zu_p2 h k m (zu_st h st).2 a' := by rw [zu_p2, if_pos hs, e]
theorem zs_q2.rf {M : zk_M} : zs_q2 M M := ⟨rfl, rfl, rfl, rfl, rfl, fun _ _ => rfl⟩
set_option maxRecDepth 100000 in
set_option maxHeartbeats 4000000 in
theorem lX5_ct2 {l : Launch} {M0 : zk_M} {k : Nat} (hL : zs_L M0 k) {cn : Int32} {Q : Option Value → zk_M → zk_L → Prop} : ∀ (m st : Nat) (M : zk_M) (L : zk_L) (n : Nat), k + 1 ≤ st + m → st < 150 → zs_A (M 1) n → zs_q2 M0 M → M 0 11 = nI st → zu_all (zu_h (M0 6) k) k m st = true → (∀ M' L', zs_q2 M0 M' → zs_ag 52 (M' 1) ((zu_p2 (zu_h (M0 6) k) k m st (M 1)).2.getD (M0 4)) → zk_R l zm 6 muX5_county 128 [some (.ref 0), some (.int cn), some (.int (zu_p2 (zu_h (M0 6) k) k m st (M 1)).1), none, none, none] [] M' L' Q) → zk_R l zm 6 muX5_county 62 [some (.ref 0), some (.int cn), some (.int (-9)), none, none, none] [] M L Q := by
  have hk96 := hL.1
  intro m
  induction m with
  | zero =>
    intro st M L n hm hst hA h2 hq hal kk
    refine zk_iload_n dX5_county_62 rfl ?_
    refine zk_bipush (v := -9) dX5_county_63 (by decide) ?_
    refine zk_icmp_ne (tgt := 128) dX5_county_65 (by decide) (fun q => absurd rfl q) (fun _ => ?_)
    refine zk_aload_n dX5_county_68 rfl ?_
    refine zk_getI dX5_county_69 fl_X5_87 (by decide) rfl rfl ?_
    rw [hq]
    refine zk_aload_n dX5_county_72 rfl ?_
    refine zk_getI dX5_county_73 fl_X5_83 (by decide) rfl rfl ?_
    rw [(hL.q2 h2).2]
    refine zk_icmp_ge (tgt := 128) dX5_county_76 (by decide) (fun _ => ?_) (fun q => absurd (nI_le (show k ≤ st by omega) (by omega)) q)
    exact kk M L h2 zs_ag.rf
  | succ m ih =>
    intro st M L n hm hst hA h2 hq hal kk
    by_cases hsk : st < k
    · unfold zu_all at hal
      rw [if_pos hsk, Bool.and_eq_true] at hal
      obtain ⟨hok, hal2⟩ := hal
      have hsix := zu_st_six hok
      refine zk_iload_n dX5_county_62 rfl ?_
      refine zk_bipush dX5_county_63 zb_m9 ?_
      refine zk_icmp_ne (tgt := 128) dX5_county_65 (by decide) (fun h65 => absurd (rfl) h65) (fun _ => ?_)
      refine zk_aload_n dX5_county_68 rfl ?_
      refine zk_getI dX5_county_69 fl_X5_87 (by decide : 0 < zm.1) rfl rfl ?_
      rw [hq]
      refine zk_aload_n dX5_county_72 rfl ?_
      refine zk_getI dX5_county_73 fl_X5_83 (by decide : 0 < zm.1) rfl rfl ?_
      rw [(hL.q2 h2).2]
      refine zk_icmp_ge (tgt := 128) dX5_county_76 (by decide) (fun h76 => absurd h76 (nI_ge hsk (by omega))) (fun _ => ?_)
      refine zk_aload_n dX5_county_79 rfl ?_
      refine zk_getI dX5_county_80 fl_X5_87 (by decide : 0 < zm.1) rfl rfl ?_
      rw [hq]
      refine zk_istore_n dX5_county_83 zk_S_3 ?_
      refine zk_aload_n dX5_county_84 rfl ?_
      refine zk_cVi (qX5_here (hL.q2 h2) (by omega) hq) dX5_county_85 mwX5_here ml_X5_90 (by decide : 0 < zm.1) rfl rfl (by decide) rfl (Nat.le_of_ble_eq_true rfl) ?_
      rw [h2.2.2.1]
      refine zk_istore dX5_county_88 zk_S_4 ?_
      refine zk_aload_n dX5_county_90 rfl ?_
      refine zk_callV (qX5_rs (hL.q2 h2) (by omega) hq) dX5_county_91 mwX5_readsStatement ml_X5_124 (by decide : 0 < zm.1) rfl rfl (by decide) rfl (Nat.le_of_ble_eq_true rfl) (fun r1 M1 L1 g1 => ?_)
      rw [h2.2.2.1] at g1
      obtain ⟨rfl, gp, gq, gn⟩ := g1
      have gn := gn hok
      have h21 := h2.pr gp
      have e1 : M1 1 = M 1 := gp.1 1 (by decide) (by decide)
      have hcg : zu_do (M1 1) n ((zu_h (M0 6) k) st) (M1 9) = (zu_do (M 1) n ((zu_h (M0 6) k) st) (zu_nums (zu_h (M0 6) k) st)) := by rw [e1]; exact zu_do_cg hsix gn
      refine zk_istore dX5_county_94 zk_S_5 ?_
      refine zk_aload_n dX5_county_96 rfl ?_
      refine zk_iload dX5_county_97 rfl ?_
      refine zk_callV (qX5_isDone (n := n) (by rw [e1]; exact hA) hsix (fun e => by rw [gn 0 (by rw [e]; decide), zu_nums, if_pos e, if_pos rfl]; exact zs_kl6 (zu_st_kl hok e))) dX5_county_99 mwX5_isDone ml_X5_131 (by decide : 0 < zm.1) rfl rfl (by decide) rfl (Nat.le_of_ble_eq_true rfl) (fun r2 M2 L2 g2 => ?_)
      obtain ⟨rfl, ga, gd⟩ := g2
      rw [hcg] at ga ⊢
      have h22 := h21.dn gd
      have gq2 : M2 0 11 = nI (zu_st (zu_h (M0 6) k) st).2 := by rw [gd 0 (by decide) (by decide)]; exact gq
      cases hdo : (zu_do (M 1) n ((zu_h (M0 6) k) st) (zu_nums (zu_h (M0 6) k) st)) with
      | none =>
        rw [hdo] at ga
        have hp2 := zu_p2_n (m := m) hsk (by rw [hA.tn]; exact hdo)
        refine zk_if_eq (tgt := 108) dX5_county_102 (by decide) (fun _ => ?_) (fun h102 => absurd ((rfl : zs_bi false = 0)) h102)
        refine zk_sipush dX5_county_108 zs_m2000 ?_
        refine zk_iload_n dX5_county_111 rfl ?_
        refine zk_isub dX5_county_112 ?_
        refine zk_istore_n dX5_county_113 zk_S_2 ?_
        refine zk_aload_n dX5_county_114 rfl ?_
        refine zk_getRc (q := 4) dX5_county_115 fl_X5_19 (by decide : 0 < zm.1) rfl rfl rfl ?_
        refine zk_aload_n dX5_county_118 rfl ?_
        refine zk_getRc (q := 1) dX5_county_119 fl_X5_9 (by decide : 0 < zm.1) rfl rfl rfl ?_
        refine zk_cSv (qX5_copies zm_a4 zm_a1 (by decide)) dX5_county_122 miX5_copies ml_X5_127 stX5_copies rfl (by decide) rfl (Nat.le_of_ble_eq_true rfl) ?_
        refine zk_goto (tgt := 62) dX5_county_125 (by decide) ?_
        refine zk_iload_n dX5_county_62 rfl ?_
        refine zk_bipush (v := -9) dX5_county_63 (by decide) ?_
        refine zk_icmp_ne (tgt := 128) dX5_county_65 (by decide) (fun _ => ?_) (fun q => absurd q (zs_mk (show st < 300 by omega)).2)
        rw [hp2] at kk
        refine zk_forget ?_ (kk _ _ h22.up1 ?_)
        · exact ⟨Or.inr rfl, Or.inr rfl, Or.inr rfl, Or.inl rfl, Or.inl rfl, Or.inl rfl, trivial⟩
        · rw [zk_up_eq, h22.2.1]
          exact fun i hi => if_pos hi
      | some a' =>
        rw [hdo] at ga
        have hp2 := zu_p2_s (m := m) hsk (by rw [hA.tn]; exact hdo)
        refine zk_if_eq (tgt := 108) dX5_county_102 (by decide) (fun h102 => absurd h102 ((by decide : ¬ zs_bi true = 0))) (fun _ => ?_)
        refine zk_goto (tgt := 62) dX5_county_105 (by decide) ?_
        have gA : M2 1 = a' := by rw [ga]; rfl
        obtain ⟨n', hA'⟩ := zu_do_A hA hsix (fun e => by rw [zu_nums, if_pos e, if_pos rfl]; exact zs_kl6 (zu_st_kl hok e)) hdo
        refine zk_forget (ls' := [some (.ref 0), some (.int cn), some (.int (-9)), none, none, none]) ⟨Or.inr rfl, Or.inr rfl, Or.inr rfl, Or.inl rfl, Or.inl rfl, Or.inl rfl, trivial⟩ (ih (zu_st (zu_h (M0 6) k) st).2 M2 L2 n' (by have := zu_st_gt hok; omega) (by have := zu_st_le (zu_h (M0 6) k) st; omega) (by rw [gA]; exact hA') h22 gq2 hal2 (fun M' L' q2 qa => ?_))
        rw [hp2] at kk
        rw [gA] at qa ⊢
        exact kk M' L' q2 qa
    · refine zk_iload_n dX5_county_62 rfl ?_
      refine zk_bipush (v := -9) dX5_county_63 (by decide) ?_
      refine zk_icmp_ne (tgt := 128) dX5_county_65 (by decide) (fun q => absurd rfl q) (fun _ => ?_)
      refine zk_aload_n dX5_county_68 rfl ?_
      refine zk_getI dX5_county_69 fl_X5_87 (by decide) rfl rfl ?_
      rw [hq]
      refine zk_aload_n dX5_county_72 rfl ?_
      refine zk_getI dX5_county_73 fl_X5_83 (by decide) rfl rfl ?_
      rw [(hL.q2 h2).2]
      refine zk_icmp_ge (tgt := 128) dX5_county_76 (by decide) (fun _ => ?_) (fun q => absurd (nI_le (show k ≤ st by omega) (by omega)) q)
      rw [zu_p2, if_neg hsk] at kk
      exact kk M L h2 zs_ag.rf
