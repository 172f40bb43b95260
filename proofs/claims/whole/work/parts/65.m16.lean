def zu_chk : List Bool → Nat → Bool × Nat
  | [], i => (true, i)
  | b :: bs, i => if b = true then zu_chk bs (i + 1) else (false, i)
def zu_tests (h : Nat → Int32) (st : Nat) : List Bool :=
  if h st = 97 ∨ h st = 114 ∨ h st = 119 ∨ h st = 100 then [true, decide (zs_dg (h (st + 1))), decide (zs_dg (h (st + 2))), decide (h (st + 3) = 59)]
  else if h st = 104 then [true, decide (0 ≤ zs_kl (h (st + 1))), decide (zs_dg (h (st + 2))), decide (zs_dg (h (st + 3))), decide (zs_dg (h (st + 4))), decide (zs_dg (h (st + 5))), decide (h (st + 6) = 59)]
  else if h st = 115 then [true, decide (zs_dg (h (st + 1))), decide (h (st + 2) = 59)]
  else [false]
def zu_st (h : Nat → Int32) (st : Nat) : Bool × Nat := zu_chk (zu_tests h st) st
theorem zu_st_A {h : Nat → Int32} {st : Nat} (ho : h st = 97 ∨ h st = 114 ∨ h st = 119 ∨ h st = 100) : zu_st h st = zu_chk [true, decide (zs_dg (h (st + 1))), decide (zs_dg (h (st + 2))), decide (h (st + 3) = 59)] st := by rw [zu_st, zu_tests, if_pos ho]
theorem zu_st_h {h : Nat → Int32} {st : Nat} (ho : h st = 104) : zu_st h st = zu_chk [true, decide (0 ≤ zs_kl (h (st + 1))), decide (zs_dg (h (st + 2))), decide (zs_dg (h (st + 3))), decide (zs_dg (h (st + 4))), decide (zs_dg (h (st + 5))), decide (h (st + 6) = 59)] st := by rw [zu_st, zu_tests, if_neg (by rw [ho]; decide), if_pos ho]
theorem zu_st_s {h : Nat → Int32} {st : Nat} (ho : h st = 115) : zu_st h st = zu_chk [true, decide (zs_dg (h (st + 1))), decide (h (st + 2) = 59)] st := by rw [zu_st, zu_tests, if_neg (by rw [ho]; decide), if_neg (by rw [ho]; decide), if_pos ho]
theorem zu_st_0 {h : Nat → Int32} {st : Nat} (h1 : ¬ h st = 97) (h2 : ¬ h st = 100) (h3 : ¬ h st = 104) (h4 : ¬ h st = 114) (h5 : ¬ h st = 115) (h6 : ¬ h st = 119) : zu_st h st = (false, st) := by
  rw [zu_st, zu_tests, if_neg (fun q => q.elim h1 (fun q => q.elim h4 (fun q => q.elim h6 h2))), if_neg h3, if_neg h5]
  rfl
theorem zs_bd0 {p : Prop} [Decidable p] (h : zs_bi (decide p) = 0) : ¬ p := fun q => zs_bi0 h (decide_eq_true q)
theorem zs_bd1 {p : Prop} [Decidable p] (h : ¬ zs_bi (decide p) = 0) : p := of_decide_eq_true (zs_bi1 h)
set_option maxRecDepth 100000 in
set_option maxHeartbeats 4000000 in
theorem qX5_rs_a {l : Launch} {M : zk_M} {L : zk_L} {k : Nat} (hL : zs_L M k) {st : Nat} (hst : st < 150) (hp : M 0 11 = nI st) (ho : (zu_h (M 6) k) st = 97) : zk_C l zm 2 muX5_readsStatement [.ref 0] M L (fun r M1 _ => r = some (.int (zs_bi (zu_st (zu_h (M 6) k) st).1)) ∧ zs_pr M M1 ∧ M1 0 11 = nI (zu_st (zu_h (M 6) k) st).2 ∧ ((zu_st (zu_h (M 6) k) st).1 = true → M1 9 0 = (zu_h (M 6) k) (st + 1) - 48 ∧ M1 9 1 = (zu_h (M 6) k) (st + 2) - 48)) := by
  refine zk_ofR (ls := [some (.ref 0), none, none]) (by decide) rfl (Nat.le_of_ble_eq_true rfl) rfl ?_
  refine zk_aload_n dX5_readsStatement_0 rfl ?_
  refine zk_cVi (qX5_here hL (by omega) hp) dX5_readsStatement_1 mwX5_here ml_X5_90 (by decide : 0 < zm.1) rfl rfl (by decide) rfl (Nat.le_of_ble_eq_true rfl) ?_
  refine zk_istore_n dX5_readsStatement_4 zk_S_1 ?_
  refine zk_aload_n dX5_readsStatement_5 rfl ?_
  refine zk_dup dX5_readsStatement_6 rfl ?_
  refine zk_getI dX5_readsStatement_7 fl_X5_87 (by decide : 0 < zm.1) rfl rfl ?_
  rw [hp]
  refine zk_iconst dX5_readsStatement_10 zc_1 ?_
  refine zk_iadd dX5_readsStatement_11 ?_
  rw [← nI_succ]
  refine zk_putG dX5_readsStatement_12 fl_X5_87 ft_5_11 rfl rfl (by decide : 0 < zm.1) rfl rfl ?_
  refine zk_iload_n dX5_readsStatement_15 rfl ?_
  rw [ho]
  refine zk_lookup (off := 60) (tgt := 76) dX5_readsStatement_16 (by decide) (by decide) (by decide) ?_
  have hpr0 : zs_pr M (va_up M 0 (va_up (M 0) 11 (nI (st + 1)))) := zs_pr.rf.up11
  have hq0 : (va_up M 0 (va_up (M 0) 11 (nI (st + 1)))) 0 11 = nI (st + 1) := by rw [zk_up_eq, zk_up_eq]
  generalize hM0 : (va_up M 0 (va_up (M 0) 11 (nI (st + 1)))) = N0 at hpr0 hq0 ⊢
  clear hM0
  refine zk_aload_n dX5_readsStatement_76 rfl ?_
  refine zk_iconst dX5_readsStatement_77 zc_0 ?_
  refine zk_iconst dX5_readsStatement_78 zc_1 ?_
  refine zk_callV (qrn1 (hL.pr hpr0) (j := 0) (by decide) (show st + 1 < 200 by omega) hq0) dX5_readsStatement_79 mwX5_readsNumber ml_X5_97 (by decide : 0 < zm.1) rfl rfl (by decide) rfl (Nat.le_of_ble_eq_true rfl) (fun r1 N1 L1 g1 => ?_)
  rw [hpr0.1 6 (by decide) (by decide)] at g1
  obtain ⟨rfl, gr1⟩ := g1
  have hpr1 := hpr0.tr gr1.1
  refine zk_if_eq (tgt := 98) dX5_readsStatement_82 (by decide) (fun h82 => ?_) (fun h82 => ?_)
  · have hd1 := zs_bd0 h82
    refine zk_iconst dX5_readsStatement_98 zc_0 ?_
    refine zk_istore_n dX5_readsStatement_99 zk_S_2 ?_
    refine zk_goto (tgt := 187) dX5_readsStatement_100 (by decide) ?_
    refine zk_iload_n dX5_readsStatement_187 rfl ?_
    refine zk_if_eq (tgt := 200) dX5_readsStatement_188 (by decide) (fun _ => ?_) (fun h188 => absurd (rfl) h188)
    refine zk_iconst dX5_readsStatement_200 zc_0 ?_
    refine zk_zret rfl (by decide) dX5_readsStatement_201 ?_
    first
      | (have e : zu_st (zu_h (M 6) k) st = (false, st + 1 + 1 + 1) := (by rw [zu_st_A (Or.inl ho), decide_eq_true hd1, decide_eq_true hd2, decide_eq_false h197]; rfl); exact ⟨by rw [e]; rfl, hpr2, by rw [e]; first | exact hq2 | exact hq2, fun q => by rw [e] at q; cases q⟩)
      | (have e : zu_st (zu_h (M 6) k) st = (false, st + 1 + 1) := (by rw [zu_st_A (Or.inl ho), decide_eq_true hd1, decide_eq_false hd2]; rfl); exact ⟨by rw [e]; rfl, hpr2, by rw [e]; rw [gr2.2.1, if_neg hd2], fun q => by rw [e] at q; cases q⟩)
      | (have e : zu_st (zu_h (M 6) k) st = (false, st + 1) := (by rw [zu_st_A (Or.inl ho), decide_eq_false hd1]; rfl); exact ⟨by rw [e]; rfl, hpr1, by rw [e]; rw [gr1.2.1, if_neg hd1], fun q => by rw [e] at q; cases q⟩)
  · have hd1 := zs_bd1 h82
    have hq1 : N1 0 11 = nI (st + 1 + 1) := by rw [gr1.2.1, if_pos hd1]
    refine zk_aload_n dX5_readsStatement_85 rfl ?_
    refine zk_iconst dX5_readsStatement_86 zc_1 ?_
    refine zk_iconst dX5_readsStatement_87 zc_1 ?_
    refine zk_callV (qrn1 (hL.pr hpr1) (j := 1) (by decide) (show st + 1 + 1 < 200 by omega) hq1) dX5_readsStatement_88 mwX5_readsNumber ml_X5_97 (by decide : 0 < zm.1) rfl rfl (by decide) rfl (Nat.le_of_ble_eq_true rfl) (fun r2 N2 L2 g2 => ?_)
    rw [hpr1.1 6 (by decide) (by decide)] at g2
    obtain ⟨rfl, gr2⟩ := g2
    have hpr2 := hpr1.tr gr2.1
    refine zk_if_eq (tgt := 98) dX5_readsStatement_91 (by decide) (fun h91 => ?_) (fun h91 => ?_)
    · have hd2 := zs_bd0 h91
      refine zk_iconst dX5_readsStatement_98 zc_0 ?_
      refine zk_istore_n dX5_readsStatement_99 zk_S_2 ?_
      refine zk_goto (tgt := 187) dX5_readsStatement_100 (by decide) ?_
      refine zk_iload_n dX5_readsStatement_187 rfl ?_
      refine zk_if_eq (tgt := 200) dX5_readsStatement_188 (by decide) (fun _ => ?_) (fun h188 => absurd (rfl) h188)
      refine zk_iconst dX5_readsStatement_200 zc_0 ?_
      refine zk_zret rfl (by decide) dX5_readsStatement_201 ?_
      first
        | (have e : zu_st (zu_h (M 6) k) st = (false, st + 1 + 1 + 1) := (by rw [zu_st_A (Or.inl ho), decide_eq_true hd1, decide_eq_true hd2, decide_eq_false h197]; rfl); exact ⟨by rw [e]; rfl, hpr2, by rw [e]; first | exact hq2 | exact hq2, fun q => by rw [e] at q; cases q⟩)
        | (have e : zu_st (zu_h (M 6) k) st = (false, st + 1 + 1) := (by rw [zu_st_A (Or.inl ho), decide_eq_true hd1, decide_eq_false hd2]; rfl); exact ⟨by rw [e]; rfl, hpr2, by rw [e]; rw [gr2.2.1, if_neg hd2], fun q => by rw [e] at q; cases q⟩)
        | (have e : zu_st (zu_h (M 6) k) st = (false, st + 1) := (by rw [zu_st_A (Or.inl ho), decide_eq_false hd1]; rfl); exact ⟨by rw [e]; rfl, hpr1, by rw [e]; rw [gr1.2.1, if_neg hd1], fun q => by rw [e] at q; cases q⟩)
    · have hd2 := zs_bd1 h91
      have hq2 : N2 0 11 = nI (st + 1 + 1 + 1) := by rw [gr2.2.1, if_pos hd2]
      refine zk_iconst dX5_readsStatement_94 zc_1 ?_
      refine zk_goto (tgt := 99) dX5_readsStatement_95 (by decide) ?_
      refine zk_istore_n dX5_readsStatement_99 zk_S_2 ?_
      refine zk_goto (tgt := 187) dX5_readsStatement_100 (by decide) ?_
      refine zk_iload_n dX5_readsStatement_187 rfl ?_
      refine zk_if_eq (tgt := 200) dX5_readsStatement_188 (by decide) (fun h188 => absurd h188 (by decide)) (fun _ => ?_)
      refine zk_aload_n dX5_readsStatement_191 rfl ?_
      refine zk_cVi (qX5_here (hL.pr hpr2) (show st + 1 + 1 + 1 < 2 ^ 31 by omega) hq2) dX5_readsStatement_192 mwX5_here ml_X5_90 (by decide : 0 < zm.1) rfl rfl (by decide) rfl (Nat.le_of_ble_eq_true rfl) ?_
      rw [hpr2.1 6 (by decide) (by decide)]
      refine zk_bipush dX5_readsStatement_195 zb_59 ?_
      refine zk_icmp_eq (tgt := 202) dX5_readsStatement_197 (by decide) (fun h197 => ?_) (fun h197 => ?_)
      · refine zk_aload_n dX5_readsStatement_202 rfl ?_
        refine zk_dup dX5_readsStatement_203 rfl ?_
        refine zk_getI dX5_readsStatement_204 fl_X5_87 (by decide : 0 < zm.1) rfl rfl ?_
        rw [hq2]
        refine zk_iconst dX5_readsStatement_207 zc_1 ?_
        refine zk_iadd dX5_readsStatement_208 ?_
        refine zk_putG dX5_readsStatement_209 fl_X5_87 ft_5_11 rfl rfl (by decide : 0 < zm.1) rfl rfl ?_
        refine zk_iconst dX5_readsStatement_212 zc_1 ?_
        refine zk_zret rfl (by decide) dX5_readsStatement_213 ?_
        have e : zu_st (zu_h (M 6) k) st = (true, st + 1 + 1 + 1 + 1) := by rw [zu_st_A (Or.inl ho), decide_eq_true hd1, decide_eq_true hd2, decide_eq_true h197]; rfl
        refine ⟨by rw [e]; rfl, hpr2.up11, by rw [e, zk_up_eq, zk_up_eq]; exact (nI_succ _).symm, fun _ => ⟨?_, ?_⟩⟩
        · rw [zk_up_ne (by decide), gr2.2.2.2 0 (by decide)]; exact gr1.2.2.1 hd1
        · rw [zk_up_ne (by decide)]; exact gr2.2.2.1 hd2
      · refine zk_iconst dX5_readsStatement_200 zc_0 ?_
        refine zk_zret rfl (by decide) dX5_readsStatement_201 ?_
        first
          | (have e : zu_st (zu_h (M 6) k) st = (false, st + 1 + 1 + 1) := (by rw [zu_st_A (Or.inl ho), decide_eq_true hd1, decide_eq_true hd2, decide_eq_false h197]; rfl); exact ⟨by rw [e]; rfl, hpr2, by rw [e]; first | exact hq2 | exact hq2, fun q => by rw [e] at q; cases q⟩)
          | (have e : zu_st (zu_h (M 6) k) st = (false, st + 1 + 1) := (by rw [zu_st_A (Or.inl ho), decide_eq_true hd1, decide_eq_false hd2]; rfl); exact ⟨by rw [e]; rfl, hpr2, by rw [e]; rw [gr2.2.1, if_neg hd2], fun q => by rw [e] at q; cases q⟩)
          | (have e : zu_st (zu_h (M 6) k) st = (false, st + 1) := (by rw [zu_st_A (Or.inl ho), decide_eq_false hd1]; rfl); exact ⟨by rw [e]; rfl, hpr1, by rw [e]; rw [gr1.2.1, if_neg hd1], fun q => by rw [e] at q; cases q⟩)
set_option maxRecDepth 100000 in
set_option maxHeartbeats 4000000 in
theorem qX5_rs_r {l : Launch} {M : zk_M} {L : zk_L} {k : Nat} (hL : zs_L M k) {st : Nat} (hst : st < 150) (hp : M 0 11 = nI st) (ho : (zu_h (M 6) k) st = 114) : zk_C l zm 2 muX5_readsStatement [.ref 0] M L (fun r M1 _ => r = some (.int (zs_bi (zu_st (zu_h (M 6) k) st).1)) ∧ zs_pr M M1 ∧ M1 0 11 = nI (zu_st (zu_h (M 6) k) st).2 ∧ ((zu_st (zu_h (M 6) k) st).1 = true → M1 9 0 = (zu_h (M 6) k) (st + 1) - 48 ∧ M1 9 1 = (zu_h (M 6) k) (st + 2) - 48)) := by
  refine zk_ofR (ls := [some (.ref 0), none, none]) (by decide) rfl (Nat.le_of_ble_eq_true rfl) rfl ?_
  refine zk_aload_n dX5_readsStatement_0 rfl ?_
  refine zk_cVi (qX5_here hL (by omega) hp) dX5_readsStatement_1 mwX5_here ml_X5_90 (by decide : 0 < zm.1) rfl rfl (by decide) rfl (Nat.le_of_ble_eq_true rfl) ?_
  refine zk_istore_n dX5_readsStatement_4 zk_S_1 ?_
  refine zk_aload_n dX5_readsStatement_5 rfl ?_
  refine zk_dup dX5_readsStatement_6 rfl ?_
  refine zk_getI dX5_readsStatement_7 fl_X5_87 (by decide : 0 < zm.1) rfl rfl ?_
  rw [hp]
  refine zk_iconst dX5_readsStatement_10 zc_1 ?_
  refine zk_iadd dX5_readsStatement_11 ?_
  rw [← nI_succ]
  refine zk_putG dX5_readsStatement_12 fl_X5_87 ft_5_11 rfl rfl (by decide : 0 < zm.1) rfl rfl ?_
  refine zk_iload_n dX5_readsStatement_15 rfl ?_
  rw [ho]
  refine zk_lookup (off := 60) (tgt := 76) dX5_readsStatement_16 (by decide) (by decide) (by decide) ?_
  have hpr0 : zs_pr M (va_up M 0 (va_up (M 0) 11 (nI (st + 1)))) := zs_pr.rf.up11
  have hq0 : (va_up M 0 (va_up (M 0) 11 (nI (st + 1)))) 0 11 = nI (st + 1) := by rw [zk_up_eq, zk_up_eq]
  generalize hM0 : (va_up M 0 (va_up (M 0) 11 (nI (st + 1)))) = N0 at hpr0 hq0 ⊢
  clear hM0
  refine zk_aload_n dX5_readsStatement_76 rfl ?_
  refine zk_iconst dX5_readsStatement_77 zc_0 ?_
  refine zk_iconst dX5_readsStatement_78 zc_1 ?_
  refine zk_callV (qrn1 (hL.pr hpr0) (j := 0) (by decide) (show st + 1 < 200 by omega) hq0) dX5_readsStatement_79 mwX5_readsNumber ml_X5_97 (by decide : 0 < zm.1) rfl rfl (by decide) rfl (Nat.le_of_ble_eq_true rfl) (fun r1 N1 L1 g1 => ?_)
  rw [hpr0.1 6 (by decide) (by decide)] at g1
  obtain ⟨rfl, gr1⟩ := g1
  have hpr1 := hpr0.tr gr1.1
  refine zk_if_eq (tgt := 98) dX5_readsStatement_82 (by decide) (fun h82 => ?_) (fun h82 => ?_)
  · have hd1 := zs_bd0 h82
    refine zk_iconst dX5_readsStatement_98 zc_0 ?_
    refine zk_istore_n dX5_readsStatement_99 zk_S_2 ?_
    refine zk_goto (tgt := 187) dX5_readsStatement_100 (by decide) ?_
    refine zk_iload_n dX5_readsStatement_187 rfl ?_
    refine zk_if_eq (tgt := 200) dX5_readsStatement_188 (by decide) (fun _ => ?_) (fun h188 => absurd (rfl) h188)
    refine zk_iconst dX5_readsStatement_200 zc_0 ?_
    refine zk_zret rfl (by decide) dX5_readsStatement_201 ?_
    first
      | (have e : zu_st (zu_h (M 6) k) st = (false, st + 1 + 1 + 1) := (by rw [zu_st_A (Or.inr (Or.inl ho)), decide_eq_true hd1, decide_eq_true hd2, decide_eq_false h197]; rfl); exact ⟨by rw [e]; rfl, hpr2, by rw [e]; first | exact hq2 | exact hq2, fun q => by rw [e] at q; cases q⟩)
      | (have e : zu_st (zu_h (M 6) k) st = (false, st + 1 + 1) := (by rw [zu_st_A (Or.inr (Or.inl ho)), decide_eq_true hd1, decide_eq_false hd2]; rfl); exact ⟨by rw [e]; rfl, hpr2, by rw [e]; rw [gr2.2.1, if_neg hd2], fun q => by rw [e] at q; cases q⟩)
      | (have e : zu_st (zu_h (M 6) k) st = (false, st + 1) := (by rw [zu_st_A (Or.inr (Or.inl ho)), decide_eq_false hd1]; rfl); exact ⟨by rw [e]; rfl, hpr1, by rw [e]; rw [gr1.2.1, if_neg hd1], fun q => by rw [e] at q; cases q⟩)
  · have hd1 := zs_bd1 h82
    have hq1 : N1 0 11 = nI (st + 1 + 1) := by rw [gr1.2.1, if_pos hd1]
    refine zk_aload_n dX5_readsStatement_85 rfl ?_
    refine zk_iconst dX5_readsStatement_86 zc_1 ?_
    refine zk_iconst dX5_readsStatement_87 zc_1 ?_
    refine zk_callV (qrn1 (hL.pr hpr1) (j := 1) (by decide) (show st + 1 + 1 < 200 by omega) hq1) dX5_readsStatement_88 mwX5_readsNumber ml_X5_97 (by decide : 0 < zm.1) rfl rfl (by decide) rfl (Nat.le_of_ble_eq_true rfl) (fun r2 N2 L2 g2 => ?_)
    rw [hpr1.1 6 (by decide) (by decide)] at g2
    obtain ⟨rfl, gr2⟩ := g2
    have hpr2 := hpr1.tr gr2.1
    refine zk_if_eq (tgt := 98) dX5_readsStatement_91 (by decide) (fun h91 => ?_) (fun h91 => ?_)
    · have hd2 := zs_bd0 h91
      refine zk_iconst dX5_readsStatement_98 zc_0 ?_
      refine zk_istore_n dX5_readsStatement_99 zk_S_2 ?_
      refine zk_goto (tgt := 187) dX5_readsStatement_100 (by decide) ?_
      refine zk_iload_n dX5_readsStatement_187 rfl ?_
      refine zk_if_eq (tgt := 200) dX5_readsStatement_188 (by decide) (fun _ => ?_) (fun h188 => absurd (rfl) h188)
      refine zk_iconst dX5_readsStatement_200 zc_0 ?_
      refine zk_zret rfl (by decide) dX5_readsStatement_201 ?_
      first
        | (have e : zu_st (zu_h (M 6) k) st = (false, st + 1 + 1 + 1) := (by rw [zu_st_A (Or.inr (Or.inl ho)), decide_eq_true hd1, decide_eq_true hd2, decide_eq_false h197]; rfl); exact ⟨by rw [e]; rfl, hpr2, by rw [e]; first | exact hq2 | exact hq2, fun q => by rw [e] at q; cases q⟩)
        | (have e : zu_st (zu_h (M 6) k) st = (false, st + 1 + 1) := (by rw [zu_st_A (Or.inr (Or.inl ho)), decide_eq_true hd1, decide_eq_false hd2]; rfl); exact ⟨by rw [e]; rfl, hpr2, by rw [e]; rw [gr2.2.1, if_neg hd2], fun q => by rw [e] at q; cases q⟩)
        | (have e : zu_st (zu_h (M 6) k) st = (false, st + 1) := (by rw [zu_st_A (Or.inr (Or.inl ho)), decide_eq_false hd1]; rfl); exact ⟨by rw [e]; rfl, hpr1, by rw [e]; rw [gr1.2.1, if_neg hd1], fun q => by rw [e] at q; cases q⟩)
    · have hd2 := zs_bd1 h91
      have hq2 : N2 0 11 = nI (st + 1 + 1 + 1) := by rw [gr2.2.1, if_pos hd2]
      refine zk_iconst dX5_readsStatement_94 zc_1 ?_
      refine zk_goto (tgt := 99) dX5_readsStatement_95 (by decide) ?_
      refine zk_istore_n dX5_readsStatement_99 zk_S_2 ?_
      refine zk_goto (tgt := 187) dX5_readsStatement_100 (by decide) ?_
      refine zk_iload_n dX5_readsStatement_187 rfl ?_
      refine zk_if_eq (tgt := 200) dX5_readsStatement_188 (by decide) (fun h188 => absurd h188 (by decide)) (fun _ => ?_)
      refine zk_aload_n dX5_readsStatement_191 rfl ?_
      refine zk_cVi (qX5_here (hL.pr hpr2) (show st + 1 + 1 + 1 < 2 ^ 31 by omega) hq2) dX5_readsStatement_192 mwX5_here ml_X5_90 (by decide : 0 < zm.1) rfl rfl (by decide) rfl (Nat.le_of_ble_eq_true rfl) ?_
      rw [hpr2.1 6 (by decide) (by decide)]
      refine zk_bipush dX5_readsStatement_195 zb_59 ?_
      refine zk_icmp_eq (tgt := 202) dX5_readsStatement_197 (by decide) (fun h197 => ?_) (fun h197 => ?_)
      · refine zk_aload_n dX5_readsStatement_202 rfl ?_
        refine zk_dup dX5_readsStatement_203 rfl ?_
        refine zk_getI dX5_readsStatement_204 fl_X5_87 (by decide : 0 < zm.1) rfl rfl ?_
        rw [hq2]
        refine zk_iconst dX5_readsStatement_207 zc_1 ?_
        refine zk_iadd dX5_readsStatement_208 ?_
        refine zk_putG dX5_readsStatement_209 fl_X5_87 ft_5_11 rfl rfl (by decide : 0 < zm.1) rfl rfl ?_
        refine zk_iconst dX5_readsStatement_212 zc_1 ?_
        refine zk_zret rfl (by decide) dX5_readsStatement_213 ?_
        have e : zu_st (zu_h (M 6) k) st = (true, st + 1 + 1 + 1 + 1) := by rw [zu_st_A (Or.inr (Or.inl ho)), decide_eq_true hd1, decide_eq_true hd2, decide_eq_true h197]; rfl
        refine ⟨by rw [e]; rfl, hpr2.up11, by rw [e, zk_up_eq, zk_up_eq]; exact (nI_succ _).symm, fun _ => ⟨?_, ?_⟩⟩
        · rw [zk_up_ne (by decide), gr2.2.2.2 0 (by decide)]; exact gr1.2.2.1 hd1
        · rw [zk_up_ne (by decide)]; exact gr2.2.2.1 hd2
      · refine zk_iconst dX5_readsStatement_200 zc_0 ?_
        refine zk_zret rfl (by decide) dX5_readsStatement_201 ?_
        first
          | (have e : zu_st (zu_h (M 6) k) st = (false, st + 1 + 1 + 1) := (by rw [zu_st_A (Or.inr (Or.inl ho)), decide_eq_true hd1, decide_eq_true hd2, decide_eq_false h197]; rfl); exact ⟨by rw [e]; rfl, hpr2, by rw [e]; first | exact hq2 | exact hq2, fun q => by rw [e] at q; cases q⟩)
          | (have e : zu_st (zu_h (M 6) k) st = (false, st + 1 + 1) := (by rw [zu_st_A (Or.inr (Or.inl ho)), decide_eq_true hd1, decide_eq_false hd2]; rfl); exact ⟨by rw [e]; rfl, hpr2, by rw [e]; rw [gr2.2.1, if_neg hd2], fun q => by rw [e] at q; cases q⟩)
          | (have e : zu_st (zu_h (M 6) k) st = (false, st + 1) := (by rw [zu_st_A (Or.inr (Or.inl ho)), decide_eq_false hd1]; rfl); exact ⟨by rw [e]; rfl, hpr1, by rw [e]; rw [gr1.2.1, if_neg hd1], fun q => by rw [e] at q; cases q⟩)
set_option maxRecDepth 100000 in
set_option maxHeartbeats 4000000 in
theorem qX5_rs_w {l : Launch} {M : zk_M} {L : zk_L} {k : Nat} (hL : zs_L M k) {st : Nat} (hst : st < 150) (hp : M 0 11 = nI st) (ho : (zu_h (M 6) k) st = 119) : zk_C l zm 2 muX5_readsStatement [.ref 0] M L (fun r M1 _ => r = some (.int (zs_bi (zu_st (zu_h (M 6) k) st).1)) ∧ zs_pr M M1 ∧ M1 0 11 = nI (zu_st (zu_h (M 6) k) st).2 ∧ ((zu_st (zu_h (M 6) k) st).1 = true → M1 9 0 = (zu_h (M 6) k) (st + 1) - 48 ∧ M1 9 1 = (zu_h (M 6) k) (st + 2) - 48)) := by
  refine zk_ofR (ls := [some (.ref 0), none, none]) (by decide) rfl (Nat.le_of_ble_eq_true rfl) rfl ?_
  refine zk_aload_n dX5_readsStatement_0 rfl ?_
  refine zk_cVi (qX5_here hL (by omega) hp) dX5_readsStatement_1 mwX5_here ml_X5_90 (by decide : 0 < zm.1) rfl rfl (by decide) rfl (Nat.le_of_ble_eq_true rfl) ?_
  refine zk_istore_n dX5_readsStatement_4 zk_S_1 ?_
  refine zk_aload_n dX5_readsStatement_5 rfl ?_
  refine zk_dup dX5_readsStatement_6 rfl ?_
  refine zk_getI dX5_readsStatement_7 fl_X5_87 (by decide : 0 < zm.1) rfl rfl ?_
  rw [hp]
  refine zk_iconst dX5_readsStatement_10 zc_1 ?_
  refine zk_iadd dX5_readsStatement_11 ?_
  rw [← nI_succ]
  refine zk_putG dX5_readsStatement_12 fl_X5_87 ft_5_11 rfl rfl (by decide : 0 < zm.1) rfl rfl ?_
  refine zk_iload_n dX5_readsStatement_15 rfl ?_
  rw [ho]
  refine zk_lookup (off := 60) (tgt := 76) dX5_readsStatement_16 (by decide) (by decide) (by decide) ?_
  have hpr0 : zs_pr M (va_up M 0 (va_up (M 0) 11 (nI (st + 1)))) := zs_pr.rf.up11
  have hq0 : (va_up M 0 (va_up (M 0) 11 (nI (st + 1)))) 0 11 = nI (st + 1) := by rw [zk_up_eq, zk_up_eq]
  generalize hM0 : (va_up M 0 (va_up (M 0) 11 (nI (st + 1)))) = N0 at hpr0 hq0 ⊢
  clear hM0
  refine zk_aload_n dX5_readsStatement_76 rfl ?_
  refine zk_iconst dX5_readsStatement_77 zc_0 ?_
  refine zk_iconst dX5_readsStatement_78 zc_1 ?_
  refine zk_callV (qrn1 (hL.pr hpr0) (j := 0) (by decide) (show st + 1 < 200 by omega) hq0) dX5_readsStatement_79 mwX5_readsNumber ml_X5_97 (by decide : 0 < zm.1) rfl rfl (by decide) rfl (Nat.le_of_ble_eq_true rfl) (fun r1 N1 L1 g1 => ?_)
  rw [hpr0.1 6 (by decide) (by decide)] at g1
  obtain ⟨rfl, gr1⟩ := g1
  have hpr1 := hpr0.tr gr1.1
  refine zk_if_eq (tgt := 98) dX5_readsStatement_82 (by decide) (fun h82 => ?_) (fun h82 => ?_)
  · have hd1 := zs_bd0 h82
    refine zk_iconst dX5_readsStatement_98 zc_0 ?_
    refine zk_istore_n dX5_readsStatement_99 zk_S_2 ?_
    refine zk_goto (tgt := 187) dX5_readsStatement_100 (by decide) ?_
    refine zk_iload_n dX5_readsStatement_187 rfl ?_
    refine zk_if_eq (tgt := 200) dX5_readsStatement_188 (by decide) (fun _ => ?_) (fun h188 => absurd (rfl) h188)
    refine zk_iconst dX5_readsStatement_200 zc_0 ?_
    refine zk_zret rfl (by decide) dX5_readsStatement_201 ?_
    first
      | (have e : zu_st (zu_h (M 6) k) st = (false, st + 1 + 1 + 1) := (by rw [zu_st_A (Or.inr (Or.inr (Or.inl ho))), decide_eq_true hd1, decide_eq_true hd2, decide_eq_false h197]; rfl); exact ⟨by rw [e]; rfl, hpr2, by rw [e]; first | exact hq2 | exact hq2, fun q => by rw [e] at q; cases q⟩)
      | (have e : zu_st (zu_h (M 6) k) st = (false, st + 1 + 1) := (by rw [zu_st_A (Or.inr (Or.inr (Or.inl ho))), decide_eq_true hd1, decide_eq_false hd2]; rfl); exact ⟨by rw [e]; rfl, hpr2, by rw [e]; rw [gr2.2.1, if_neg hd2], fun q => by rw [e] at q; cases q⟩)
      | (have e : zu_st (zu_h (M 6) k) st = (false, st + 1) := (by rw [zu_st_A (Or.inr (Or.inr (Or.inl ho))), decide_eq_false hd1]; rfl); exact ⟨by rw [e]; rfl, hpr1, by rw [e]; rw [gr1.2.1, if_neg hd1], fun q => by rw [e] at q; cases q⟩)
  · have hd1 := zs_bd1 h82
    have hq1 : N1 0 11 = nI (st + 1 + 1) := by rw [gr1.2.1, if_pos hd1]
    refine zk_aload_n dX5_readsStatement_85 rfl ?_
    refine zk_iconst dX5_readsStatement_86 zc_1 ?_
    refine zk_iconst dX5_readsStatement_87 zc_1 ?_
    refine zk_callV (qrn1 (hL.pr hpr1) (j := 1) (by decide) (show st + 1 + 1 < 200 by omega) hq1) dX5_readsStatement_88 mwX5_readsNumber ml_X5_97 (by decide : 0 < zm.1) rfl rfl (by decide) rfl (Nat.le_of_ble_eq_true rfl) (fun r2 N2 L2 g2 => ?_)
    rw [hpr1.1 6 (by decide) (by decide)] at g2
    obtain ⟨rfl, gr2⟩ := g2
    have hpr2 := hpr1.tr gr2.1
    refine zk_if_eq (tgt := 98) dX5_readsStatement_91 (by decide) (fun h91 => ?_) (fun h91 => ?_)
    · have hd2 := zs_bd0 h91
      refine zk_iconst dX5_readsStatement_98 zc_0 ?_
      refine zk_istore_n dX5_readsStatement_99 zk_S_2 ?_
      refine zk_goto (tgt := 187) dX5_readsStatement_100 (by decide) ?_
      refine zk_iload_n dX5_readsStatement_187 rfl ?_
      refine zk_if_eq (tgt := 200) dX5_readsStatement_188 (by decide) (fun _ => ?_) (fun h188 => absurd (rfl) h188)
      refine zk_iconst dX5_readsStatement_200 zc_0 ?_
      refine zk_zret rfl (by decide) dX5_readsStatement_201 ?_
      first
        | (have e : zu_st (zu_h (M 6) k) st = (false, st + 1 + 1 + 1) := (by rw [zu_st_A (Or.inr (Or.inr (Or.inl ho))), decide_eq_true hd1, decide_eq_true hd2, decide_eq_false h197]; rfl); exact ⟨by rw [e]; rfl, hpr2, by rw [e]; first | exact hq2 | exact hq2, fun q => by rw [e] at q; cases q⟩)
        | (have e : zu_st (zu_h (M 6) k) st = (false, st + 1 + 1) := (by rw [zu_st_A (Or.inr (Or.inr (Or.inl ho))), decide_eq_true hd1, decide_eq_false hd2]; rfl); exact ⟨by rw [e]; rfl, hpr2, by rw [e]; rw [gr2.2.1, if_neg hd2], fun q => by rw [e] at q; cases q⟩)
        | (have e : zu_st (zu_h (M 6) k) st = (false, st + 1) := (by rw [zu_st_A (Or.inr (Or.inr (Or.inl ho))), decide_eq_false hd1]; rfl); exact ⟨by rw [e]; rfl, hpr1, by rw [e]; rw [gr1.2.1, if_neg hd1], fun q => by rw [e] at q; cases q⟩)
    · have hd2 := zs_bd1 h91
      have hq2 : N2 0 11 = nI (st + 1 + 1 + 1) := by rw [gr2.2.1, if_pos hd2]
      refine zk_iconst dX5_readsStatement_94 zc_1 ?_
      refine zk_goto (tgt := 99) dX5_readsStatement_95 (by decide) ?_
      refine zk_istore_n dX5_readsStatement_99 zk_S_2 ?_
      refine zk_goto (tgt := 187) dX5_readsStatement_100 (by decide) ?_
      refine zk_iload_n dX5_readsStatement_187 rfl ?_
      refine zk_if_eq (tgt := 200) dX5_readsStatement_188 (by decide) (fun h188 => absurd h188 (by decide)) (fun _ => ?_)
      refine zk_aload_n dX5_readsStatement_191 rfl ?_
      refine zk_cVi (qX5_here (hL.pr hpr2) (show st + 1 + 1 + 1 < 2 ^ 31 by omega) hq2) dX5_readsStatement_192 mwX5_here ml_X5_90 (by decide : 0 < zm.1) rfl rfl (by decide) rfl (Nat.le_of_ble_eq_true rfl) ?_
      rw [hpr2.1 6 (by decide) (by decide)]
      refine zk_bipush dX5_readsStatement_195 zb_59 ?_
      refine zk_icmp_eq (tgt := 202) dX5_readsStatement_197 (by decide) (fun h197 => ?_) (fun h197 => ?_)
      · refine zk_aload_n dX5_readsStatement_202 rfl ?_
        refine zk_dup dX5_readsStatement_203 rfl ?_
        refine zk_getI dX5_readsStatement_204 fl_X5_87 (by decide : 0 < zm.1) rfl rfl ?_
        rw [hq2]
        refine zk_iconst dX5_readsStatement_207 zc_1 ?_
        refine zk_iadd dX5_readsStatement_208 ?_
        refine zk_putG dX5_readsStatement_209 fl_X5_87 ft_5_11 rfl rfl (by decide : 0 < zm.1) rfl rfl ?_
        refine zk_iconst dX5_readsStatement_212 zc_1 ?_
        refine zk_zret rfl (by decide) dX5_readsStatement_213 ?_
        have e : zu_st (zu_h (M 6) k) st = (true, st + 1 + 1 + 1 + 1) := by rw [zu_st_A (Or.inr (Or.inr (Or.inl ho))), decide_eq_true hd1, decide_eq_true hd2, decide_eq_true h197]; rfl
        refine ⟨by rw [e]; rfl, hpr2.up11, by rw [e, zk_up_eq, zk_up_eq]; exact (nI_succ _).symm, fun _ => ⟨?_, ?_⟩⟩
        · rw [zk_up_ne (by decide), gr2.2.2.2 0 (by decide)]; exact gr1.2.2.1 hd1
        · rw [zk_up_ne (by decide)]; exact gr2.2.2.1 hd2
      · refine zk_iconst dX5_readsStatement_200 zc_0 ?_
        refine zk_zret rfl (by decide) dX5_readsStatement_201 ?_
        first
          | (have e : zu_st (zu_h (M 6) k) st = (false, st + 1 + 1 + 1) := (by rw [zu_st_A (Or.inr (Or.inr (Or.inl ho))), decide_eq_true hd1, decide_eq_true hd2, decide_eq_false h197]; rfl); exact ⟨by rw [e]; rfl, hpr2, by rw [e]; first | exact hq2 | exact hq2, fun q => by rw [e] at q; cases q⟩)
          | (have e : zu_st (zu_h (M 6) k) st = (false, st + 1 + 1) := (by rw [zu_st_A (Or.inr (Or.inr (Or.inl ho))), decide_eq_true hd1, decide_eq_false hd2]; rfl); exact ⟨by rw [e]; rfl, hpr2, by rw [e]; rw [gr2.2.1, if_neg hd2], fun q => by rw [e] at q; cases q⟩)
          | (have e : zu_st (zu_h (M 6) k) st = (false, st + 1) := (by rw [zu_st_A (Or.inr (Or.inr (Or.inl ho))), decide_eq_false hd1]; rfl); exact ⟨by rw [e]; rfl, hpr1, by rw [e]; rw [gr1.2.1, if_neg hd1], fun q => by rw [e] at q; cases q⟩)
set_option maxRecDepth 100000 in
set_option maxHeartbeats 4000000 in
theorem qX5_rs_s {l : Launch} {M : zk_M} {L : zk_L} {k : Nat} (hL : zs_L M k) {st : Nat} (hst : st < 150) (hp : M 0 11 = nI st) (ho : (zu_h (M 6) k) st = 115) : zk_C l zm 2 muX5_readsStatement [.ref 0] M L (fun r M1 _ => r = some (.int (zs_bi (zu_st (zu_h (M 6) k) st).1)) ∧ zs_pr M M1 ∧ M1 0 11 = nI (zu_st (zu_h (M 6) k) st).2 ∧ ((zu_st (zu_h (M 6) k) st).1 = true → M1 9 0 = (zu_h (M 6) k) (st + 1) - 48)) := by
  refine zk_ofR (ls := [some (.ref 0), none, none]) (by decide) rfl (Nat.le_of_ble_eq_true rfl) rfl ?_
  refine zk_aload_n dX5_readsStatement_0 rfl ?_
  refine zk_cVi (qX5_here hL (by omega) hp) dX5_readsStatement_1 mwX5_here ml_X5_90 (by decide : 0 < zm.1) rfl rfl (by decide) rfl (Nat.le_of_ble_eq_true rfl) ?_
  refine zk_istore_n dX5_readsStatement_4 zk_S_1 ?_
  refine zk_aload_n dX5_readsStatement_5 rfl ?_
  refine zk_dup dX5_readsStatement_6 rfl ?_
  refine zk_getI dX5_readsStatement_7 fl_X5_87 (by decide : 0 < zm.1) rfl rfl ?_
  rw [hp]
  refine zk_iconst dX5_readsStatement_10 zc_1 ?_
  refine zk_iadd dX5_readsStatement_11 ?_
  rw [← nI_succ]
  refine zk_putG dX5_readsStatement_12 fl_X5_87 ft_5_11 rfl rfl (by decide : 0 < zm.1) rfl rfl ?_
  refine zk_iload_n dX5_readsStatement_15 rfl ?_
  rw [ho]
  refine zk_lookup (off := 139) (tgt := 155) dX5_readsStatement_16 (by decide) (by decide) (by decide) ?_
  have hpr0 : zs_pr M (va_up M 0 (va_up (M 0) 11 (nI (st + 1)))) := zs_pr.rf.up11
  have hq0 : (va_up M 0 (va_up (M 0) 11 (nI (st + 1)))) 0 11 = nI (st + 1) := by rw [zk_up_eq, zk_up_eq]
  generalize hM0 : (va_up M 0 (va_up (M 0) 11 (nI (st + 1)))) = N0 at hpr0 hq0 ⊢
  clear hM0
  refine zk_aload_n dX5_readsStatement_155 rfl ?_
  refine zk_iconst dX5_readsStatement_156 zc_0 ?_
  refine zk_iconst dX5_readsStatement_157 zc_1 ?_
  refine zk_callV (qrn1 (hL.pr hpr0) (j := 0) (by decide) (show st + 1 < 200 by omega) hq0) dX5_readsStatement_158 mwX5_readsNumber ml_X5_97 (by decide : 0 < zm.1) rfl rfl (by decide) rfl (Nat.le_of_ble_eq_true rfl) (fun r1 N1 L1 g1 => ?_)
  rw [hpr0.1 6 (by decide) (by decide)] at g1
  obtain ⟨rfl, gr1⟩ := g1
  have hpr1 := hpr0.tr gr1.1
  refine zk_istore_n dX5_readsStatement_161 zk_S_2 ?_
  refine zk_goto (tgt := 187) dX5_readsStatement_162 (by decide) ?_
  refine zk_iload_n dX5_readsStatement_187 rfl ?_
  refine zk_if_eq (tgt := 200) dX5_readsStatement_188 (by decide) (fun h188 => ?_) (fun h188 => ?_)
  · have hd1 := zs_bd0 h188
    refine zk_iconst dX5_readsStatement_200 zc_0 ?_
    refine zk_zret rfl (by decide) dX5_readsStatement_201 ?_
    first
      | (have e : zu_st (zu_h (M 6) k) st = (false, st + 1 + 1) := (by rw [zu_st_s ho, decide_eq_true hd1, decide_eq_false h197]; rfl); exact ⟨by rw [e]; rfl, hpr1, by rw [e]; exact hq1, fun q => by rw [e] at q; cases q⟩)
      | (have e : zu_st (zu_h (M 6) k) st = (false, st + 1) := (by rw [zu_st_s ho, decide_eq_false hd1]; rfl); exact ⟨by rw [e]; rfl, hpr1, by rw [e]; rw [gr1.2.1, if_neg hd1], fun q => by rw [e] at q; cases q⟩)
  · have hd1 := zs_bd1 h188
    have hq1 : N1 0 11 = nI (st + 1 + 1) := by rw [gr1.2.1, if_pos hd1]
    refine zk_aload_n dX5_readsStatement_191 rfl ?_
    refine zk_cVi (qX5_here (hL.pr hpr1) (show st + 1 + 1 < 2 ^ 31 by omega) hq1) dX5_readsStatement_192 mwX5_here ml_X5_90 (by decide : 0 < zm.1) rfl rfl (by decide) rfl (Nat.le_of_ble_eq_true rfl) ?_
    rw [hpr1.1 6 (by decide) (by decide)]
    refine zk_bipush dX5_readsStatement_195 zb_59 ?_
    refine zk_icmp_eq (tgt := 202) dX5_readsStatement_197 (by decide) (fun h197 => ?_) (fun h197 => ?_)
    · refine zk_aload_n dX5_readsStatement_202 rfl ?_
      refine zk_dup dX5_readsStatement_203 rfl ?_
      refine zk_getI dX5_readsStatement_204 fl_X5_87 (by decide : 0 < zm.1) rfl rfl ?_
      rw [hq1]
      refine zk_iconst dX5_readsStatement_207 zc_1 ?_
      refine zk_iadd dX5_readsStatement_208 ?_
      refine zk_putG dX5_readsStatement_209 fl_X5_87 ft_5_11 rfl rfl (by decide : 0 < zm.1) rfl rfl ?_
      refine zk_iconst dX5_readsStatement_212 zc_1 ?_
      refine zk_zret rfl (by decide) dX5_readsStatement_213 ?_
      have e : zu_st (zu_h (M 6) k) st = (true, st + 1 + 1 + 1) := by rw [zu_st_s ho, decide_eq_true hd1, decide_eq_true h197]; rfl
      refine ⟨by rw [e]; rfl, hpr1.up11, by rw [e, zk_up_eq, zk_up_eq]; exact (nI_succ _).symm, fun _ => ?_⟩
      rw [zk_up_ne (by decide)]; exact gr1.2.2.1 hd1
    · refine zk_iconst dX5_readsStatement_200 zc_0 ?_
      refine zk_zret rfl (by decide) dX5_readsStatement_201 ?_
      first
        | (have e : zu_st (zu_h (M 6) k) st = (false, st + 1 + 1) := (by rw [zu_st_s ho, decide_eq_true hd1, decide_eq_false h197]; rfl); exact ⟨by rw [e]; rfl, hpr1, by rw [e]; exact hq1, fun q => by rw [e] at q; cases q⟩)
        | (have e : zu_st (zu_h (M 6) k) st = (false, st + 1) := (by rw [zu_st_s ho, decide_eq_false hd1]; rfl); exact ⟨by rw [e]; rfl, hpr1, by rw [e]; rw [gr1.2.1, if_neg hd1], fun q => by rw [e] at q; cases q⟩)
set_option maxRecDepth 100000 in
set_option maxHeartbeats 4000000 in
theorem qX5_rs_d {l : Launch} {M : zk_M} {L : zk_L} {k : Nat} (hL : zs_L M k) {st : Nat} (hst : st < 150) (hp : M 0 11 = nI st) (ho : (zu_h (M 6) k) st = 100) : zk_C l zm 2 muX5_readsStatement [.ref 0] M L (fun r M1 _ => r = some (.int (zs_bi (zu_st (zu_h (M 6) k) st).1)) ∧ zs_pr M M1 ∧ M1 0 11 = nI (zu_st (zu_h (M 6) k) st).2 ∧ ((zu_st (zu_h (M 6) k) st).1 = true → M1 9 0 = 10 * ((zu_h (M 6) k) (st + 1) - 48) + ((zu_h (M 6) k) (st + 2) - 48))) := by
  refine zk_ofR (ls := [some (.ref 0), none, none]) (by decide) rfl (Nat.le_of_ble_eq_true rfl) rfl ?_
  refine zk_aload_n dX5_readsStatement_0 rfl ?_
  refine zk_cVi (qX5_here hL (by omega) hp) dX5_readsStatement_1 mwX5_here ml_X5_90 (by decide : 0 < zm.1) rfl rfl (by decide) rfl (Nat.le_of_ble_eq_true rfl) ?_
  refine zk_istore_n dX5_readsStatement_4 zk_S_1 ?_
  refine zk_aload_n dX5_readsStatement_5 rfl ?_
  refine zk_dup dX5_readsStatement_6 rfl ?_
  refine zk_getI dX5_readsStatement_7 fl_X5_87 (by decide : 0 < zm.1) rfl rfl ?_
  rw [hp]
  refine zk_iconst dX5_readsStatement_10 zc_1 ?_
  refine zk_iadd dX5_readsStatement_11 ?_
  rw [← nI_succ]
  refine zk_putG dX5_readsStatement_12 fl_X5_87 ft_5_11 rfl rfl (by decide : 0 < zm.1) rfl rfl ?_
  refine zk_iload_n dX5_readsStatement_15 rfl ?_
  rw [ho]
  refine zk_lookup (off := 149) (tgt := 165) dX5_readsStatement_16 (by decide) (by decide) (by decide) ?_
  have hpr0 : zs_pr M (va_up M 0 (va_up (M 0) 11 (nI (st + 1)))) := zs_pr.rf.up11
  have hq0 : (va_up M 0 (va_up (M 0) 11 (nI (st + 1)))) 0 11 = nI (st + 1) := by rw [zk_up_eq, zk_up_eq]
  generalize hM0 : (va_up M 0 (va_up (M 0) 11 (nI (st + 1)))) = N0 at hpr0 hq0 ⊢
  clear hM0
  refine zk_aload_n dX5_readsStatement_165 rfl ?_
  refine zk_iconst dX5_readsStatement_166 zc_0 ?_
  refine zk_iconst dX5_readsStatement_167 zc_2 ?_
  refine zk_callV (qX5_readsNumber (D := 2) (hL.pr hpr0) (j := 0) (by decide) (by decide) (show st + 1 < 200 by omega) hq0) dX5_readsStatement_168 mwX5_readsNumber ml_X5_97 (by decide : 0 < zm.1) rfl rfl (by decide) rfl (Nat.le_of_ble_eq_true rfl) (fun r1 N1 L1 g1 => ?_)
  rw [hpr0.1 6 (by decide) (by decide)] at g1
  obtain ⟨rfl, gr1⟩ := g1
  have hpr1 := hpr0.tr gr1.1
  refine zk_istore_n dX5_readsStatement_171 zk_S_2 ?_
  refine zk_goto (tgt := 187) dX5_readsStatement_172 (by decide) ?_
  refine zk_iload_n dX5_readsStatement_187 rfl ?_
  refine zk_if_eq (tgt := 200) dX5_readsStatement_188 (by decide) (fun h188 => ?_) (fun h188 => ?_)
  · by_cases hd1 : zs_dg ((zu_h (M 6) k) (st + 1))
    · by_cases hd2 : zs_dg ((zu_h (M 6) k) (st + 2))
      · exact absurd h188 (by rw [zu_num, if_pos hd1, zu_num, if_pos hd2, zu_num]; exact (by decide : ¬ zs_bi true = 0))
      · have en : zu_num (zu_h (M 6) k) 2 (st + 1) 0 = (false, st + 1 + 1, 10 * 0 + (zu_h (M 6) k) (st + 1) - 48) := by rw [zu_num, if_pos hd1, zu_num, if_neg hd2]
        rw [en] at gr1
        refine zk_iconst dX5_readsStatement_200 zc_0 ?_
        refine zk_zret rfl (by decide) dX5_readsStatement_201 ?_
        have e : zu_st (zu_h (M 6) k) st = (false, st + 1 + 1) := by rw [zu_st_A (Or.inr (Or.inr (Or.inr ho))), decide_eq_true hd1, decide_eq_false hd2]; rfl
        exact ⟨by rw [e]; rfl, hpr1, by rw [e]; exact gr1.2.1, fun q => by rw [e] at q; cases q⟩
    · have en : zu_num (zu_h (M 6) k) 2 (st + 1) 0 = (false, st + 1, 0) := by rw [zu_num, if_neg hd1]
      rw [en] at gr1
      refine zk_iconst dX5_readsStatement_200 zc_0 ?_
      refine zk_zret rfl (by decide) dX5_readsStatement_201 ?_
      have e : zu_st (zu_h (M 6) k) st = (false, st + 1) := by rw [zu_st_A (Or.inr (Or.inr (Or.inr ho))), decide_eq_false hd1]; rfl
      exact ⟨by rw [e]; rfl, hpr1, by rw [e]; exact gr1.2.1, fun q => by rw [e] at q; cases q⟩
  · have hd1 : zs_dg ((zu_h (M 6) k) (st + 1)) := Classical.byContradiction (fun q => h188 (by rw [zu_num, if_neg q]; rfl))
    have hd2 : zs_dg ((zu_h (M 6) k) (st + 2)) := Classical.byContradiction (fun q => h188 (by rw [zu_num, if_pos hd1, zu_num, if_neg q]; rfl))
    have en : zu_num (zu_h (M 6) k) 2 (st + 1) 0 = (true, st + 1 + 1 + 1, 10 * (10 * 0 + (zu_h (M 6) k) (st + 1) - 48) + (zu_h (M 6) k) (st + 2) - 48) := by rw [zu_num, if_pos hd1, zu_num, if_pos hd2, zu_num]
    rw [en] at gr1
    have hq1 : N1 0 11 = nI (st + 1 + 1 + 1) := gr1.2.1
    refine zk_aload_n dX5_readsStatement_191 rfl ?_
    refine zk_cVi (qX5_here (hL.pr hpr1) (show st + 1 + 1 + 1 < 2 ^ 31 by omega) hq1) dX5_readsStatement_192 mwX5_here ml_X5_90 (by decide : 0 < zm.1) rfl rfl (by decide) rfl (Nat.le_of_ble_eq_true rfl) ?_
    rw [hpr1.1 6 (by decide) (by decide)]
    refine zk_bipush dX5_readsStatement_195 zb_59 ?_
    refine zk_icmp_eq (tgt := 202) dX5_readsStatement_197 (by decide) (fun h197 => ?_) (fun h197 => ?_)
    · refine zk_aload_n dX5_readsStatement_202 rfl ?_
      refine zk_dup dX5_readsStatement_203 rfl ?_
      refine zk_getI dX5_readsStatement_204 fl_X5_87 (by decide : 0 < zm.1) rfl rfl ?_
      rw [hq1]
      refine zk_iconst dX5_readsStatement_207 zc_1 ?_
      refine zk_iadd dX5_readsStatement_208 ?_
      refine zk_putG dX5_readsStatement_209 fl_X5_87 ft_5_11 rfl rfl (by decide : 0 < zm.1) rfl rfl ?_
      refine zk_iconst dX5_readsStatement_212 zc_1 ?_
      refine zk_zret rfl (by decide) dX5_readsStatement_213 ?_
      have e : zu_st (zu_h (M 6) k) st = (true, st + 1 + 1 + 1 + 1) := by rw [zu_st_A (Or.inr (Or.inr (Or.inr ho))), decide_eq_true hd1, decide_eq_true hd2, decide_eq_true h197]; rfl
      refine ⟨by rw [e]; rfl, hpr1.up11, by rw [e, zk_up_eq, zk_up_eq]; exact (nI_succ _).symm, fun _ => ?_⟩
      rw [zk_up_ne (by decide), gr1.2.2.1]
      simp [Int32.sub_eq_add_neg, Int32.add_assoc]
    · refine zk_iconst dX5_readsStatement_200 zc_0 ?_
      refine zk_zret rfl (by decide) dX5_readsStatement_201 ?_
      (have e : zu_st (zu_h (M 6) k) st = (false, st + 1 + 1 + 1) := (by rw [zu_st_A (Or.inr (Or.inr (Or.inr ho))), decide_eq_true hd1, decide_eq_true hd2, decide_eq_false h197]; rfl); exact ⟨by rw [e]; rfl, hpr1, by rw [e]; exact hq1, fun q => by rw [e] at q; cases q⟩)
set_option maxRecDepth 100000 in
set_option maxHeartbeats 4000000 in
theorem qX5_rs_h {l : Launch} {M : zk_M} {L : zk_L} {k : Nat} (hL : zs_L M k) {st : Nat} (hst : st < 150) (hp : M 0 11 = nI st) (ho : (zu_h (M 6) k) st = 104) : zk_C l zm 2 muX5_readsStatement [.ref 0] M L (fun r M1 _ => r = some (.int (zs_bi (zu_st (zu_h (M 6) k) st).1)) ∧ zs_pr M M1 ∧ M1 0 11 = nI (zu_st (zu_h (M 6) k) st).2 ∧ ((zu_st (zu_h (M 6) k) st).1 = true → M1 9 0 = zs_kl ((zu_h (M 6) k) (st + 1)) ∧ M1 9 1 = (zu_h (M 6) k) (st + 2) - 48 ∧ M1 9 2 = (zu_h (M 6) k) (st + 3) - 48 ∧ M1 9 3 = (zu_h (M 6) k) (st + 4) - 48 ∧ M1 9 4 = (zu_h (M 6) k) (st + 5) - 48)) := by
  refine zk_ofR (ls := [some (.ref 0), none, none]) (by decide) rfl (Nat.le_of_ble_eq_true rfl) rfl ?_
  refine zk_aload_n dX5_readsStatement_0 rfl ?_
  refine zk_cVi (qX5_here hL (by omega) hp) dX5_readsStatement_1 mwX5_here ml_X5_90 (by decide : 0 < zm.1) rfl rfl (by decide) rfl (Nat.le_of_ble_eq_true rfl) ?_
  refine zk_istore_n dX5_readsStatement_4 zk_S_1 ?_
  refine zk_aload_n dX5_readsStatement_5 rfl ?_
  refine zk_dup dX5_readsStatement_6 rfl ?_
  refine zk_getI dX5_readsStatement_7 fl_X5_87 (by decide : 0 < zm.1) rfl rfl ?_
  rw [hp]
  refine zk_iconst dX5_readsStatement_10 zc_1 ?_
  refine zk_iadd dX5_readsStatement_11 ?_
  rw [← nI_succ]
  refine zk_putG dX5_readsStatement_12 fl_X5_87 ft_5_11 rfl rfl (by decide : 0 < zm.1) rfl rfl ?_
  refine zk_iload_n dX5_readsStatement_15 rfl ?_
  rw [ho]
  refine zk_lookup (off := 87) (tgt := 103) dX5_readsStatement_16 (by decide) (by decide) (by decide) ?_
  have hpr0 : zs_pr M (va_up M 0 (va_up (M 0) 11 (nI (st + 1)))) := zs_pr.rf.up11
  have hq0 : (va_up M 0 (va_up (M 0) 11 (nI (st + 1)))) 0 11 = nI (st + 1) := by rw [zk_up_eq, zk_up_eq]
  generalize hM0 : (va_up M 0 (va_up (M 0) 11 (nI (st + 1)))) = N0 at hpr0 hq0 ⊢
  clear hM0
  refine zk_aload_n dX5_readsStatement_103 rfl ?_
  refine zk_callV (qX5_readsKind (hL.pr hpr0) (show st + 1 < 200 by omega) hq0) dX5_readsStatement_104 mwX5_readsKind ml_X5_100 (by decide : 0 < zm.1) rfl rfl (by decide) rfl (Nat.le_of_ble_eq_true rfl) (fun r1 N1 L1 g1 => ?_)
  rw [hpr0.1 6 (by decide) (by decide)] at g1
  obtain ⟨rfl, gr1⟩ := g1
  have hpr1 := hpr0.tr gr1.1
  refine zk_if_eq (tgt := 150) dX5_readsStatement_107 (by decide) (fun h107 => ?_) (fun h107 => ?_)
  · have hd1 := zs_bd0 h107
    refine zk_iconst dX5_readsStatement_150 zc_0 ?_
    refine zk_istore_n dX5_readsStatement_151 zk_S_2 ?_
    refine zk_goto (tgt := 187) dX5_readsStatement_152 (by decide) ?_
    refine zk_iload_n dX5_readsStatement_187 rfl ?_
    refine zk_if_eq (tgt := 200) dX5_readsStatement_188 (by decide) (fun _ => ?_) (fun h188 => absurd (rfl) h188)
    refine zk_iconst dX5_readsStatement_200 zc_0 ?_
    refine zk_zret rfl (by decide) dX5_readsStatement_201 ?_
    first
      | (have e : zu_st (zu_h (M 6) k) st = (false, st + 1 + 1 + 1 + 1 + 1 + 1) := (by rw [zu_st_h ho, decide_eq_true hd1, decide_eq_true hd2, decide_eq_true hd3, decide_eq_true hd4, decide_eq_true hd5, decide_eq_false h197]; rfl); exact ⟨by rw [e]; rfl, hpr5, by rw [e]; exact hq5, fun q => by rw [e] at q; cases q⟩)
      | (have e : zu_st (zu_h (M 6) k) st = (false, st + 1 + 1 + 1 + 1 + 1) := (by rw [zu_st_h ho, decide_eq_true hd1, decide_eq_true hd2, decide_eq_true hd3, decide_eq_true hd4, decide_eq_false hd5]; rfl); exact ⟨by rw [e]; rfl, hpr5, by rw [e]; rw [gr5.2.1, if_neg hd5], fun q => by rw [e] at q; cases q⟩)
      | (have e : zu_st (zu_h (M 6) k) st = (false, st + 1 + 1 + 1 + 1) := (by rw [zu_st_h ho, decide_eq_true hd1, decide_eq_true hd2, decide_eq_true hd3, decide_eq_false hd4]; rfl); exact ⟨by rw [e]; rfl, hpr4, by rw [e]; rw [gr4.2.1, if_neg hd4], fun q => by rw [e] at q; cases q⟩)
      | (have e : zu_st (zu_h (M 6) k) st = (false, st + 1 + 1 + 1) := (by rw [zu_st_h ho, decide_eq_true hd1, decide_eq_true hd2, decide_eq_false hd3]; rfl); exact ⟨by rw [e]; rfl, hpr3, by rw [e]; rw [gr3.2.1, if_neg hd3], fun q => by rw [e] at q; cases q⟩)
      | (have e : zu_st (zu_h (M 6) k) st = (false, st + 1 + 1) := (by rw [zu_st_h ho, decide_eq_true hd1, decide_eq_false hd2]; rfl); exact ⟨by rw [e]; rfl, hpr2, by rw [e]; rw [gr2.2.1, if_neg hd2], fun q => by rw [e] at q; cases q⟩)
      | (have e : zu_st (zu_h (M 6) k) st = (false, st + 1) := (by rw [zu_st_h ho, decide_eq_false hd1]; rfl); exact ⟨by rw [e]; rfl, hpr1, by rw [e]; rw [gr1.2.1, if_neg hd1], fun q => by rw [e] at q; cases q⟩)
  · have hd1 := zs_bd1 h107
    have hq1 : N1 0 11 = nI (st + 1 + 1) := by rw [gr1.2.1, if_pos hd1]
    refine zk_aload_n dX5_readsStatement_110 rfl ?_
    refine zk_iconst dX5_readsStatement_111 zc_1 ?_
    refine zk_iconst dX5_readsStatement_112 zc_1 ?_
    refine zk_callV (qrn1 (hL.pr hpr1) (j := 1) (by decide) (show st + 1 + 1 < 200 by omega) hq1) dX5_readsStatement_113 mwX5_readsNumber ml_X5_97 (by decide : 0 < zm.1) rfl rfl (by decide) rfl (Nat.le_of_ble_eq_true rfl) (fun r2 N2 L2 g2 => ?_)
    rw [hpr1.1 6 (by decide) (by decide)] at g2
    obtain ⟨rfl, gr2⟩ := g2
    have hpr2 := hpr1.tr gr2.1
    refine zk_if_eq (tgt := 150) dX5_readsStatement_116 (by decide) (fun h116 => ?_) (fun h116 => ?_)
    · have hd2 := zs_bd0 h116
      refine zk_iconst dX5_readsStatement_150 zc_0 ?_
      refine zk_istore_n dX5_readsStatement_151 zk_S_2 ?_
      refine zk_goto (tgt := 187) dX5_readsStatement_152 (by decide) ?_
      refine zk_iload_n dX5_readsStatement_187 rfl ?_
      refine zk_if_eq (tgt := 200) dX5_readsStatement_188 (by decide) (fun _ => ?_) (fun h188 => absurd (rfl) h188)
      refine zk_iconst dX5_readsStatement_200 zc_0 ?_
      refine zk_zret rfl (by decide) dX5_readsStatement_201 ?_
      first
        | (have e : zu_st (zu_h (M 6) k) st = (false, st + 1 + 1 + 1 + 1 + 1 + 1) := (by rw [zu_st_h ho, decide_eq_true hd1, decide_eq_true hd2, decide_eq_true hd3, decide_eq_true hd4, decide_eq_true hd5, decide_eq_false h197]; rfl); exact ⟨by rw [e]; rfl, hpr5, by rw [e]; exact hq5, fun q => by rw [e] at q; cases q⟩)
        | (have e : zu_st (zu_h (M 6) k) st = (false, st + 1 + 1 + 1 + 1 + 1) := (by rw [zu_st_h ho, decide_eq_true hd1, decide_eq_true hd2, decide_eq_true hd3, decide_eq_true hd4, decide_eq_false hd5]; rfl); exact ⟨by rw [e]; rfl, hpr5, by rw [e]; rw [gr5.2.1, if_neg hd5], fun q => by rw [e] at q; cases q⟩)
        | (have e : zu_st (zu_h (M 6) k) st = (false, st + 1 + 1 + 1 + 1) := (by rw [zu_st_h ho, decide_eq_true hd1, decide_eq_true hd2, decide_eq_true hd3, decide_eq_false hd4]; rfl); exact ⟨by rw [e]; rfl, hpr4, by rw [e]; rw [gr4.2.1, if_neg hd4], fun q => by rw [e] at q; cases q⟩)
        | (have e : zu_st (zu_h (M 6) k) st = (false, st + 1 + 1 + 1) := (by rw [zu_st_h ho, decide_eq_true hd1, decide_eq_true hd2, decide_eq_false hd3]; rfl); exact ⟨by rw [e]; rfl, hpr3, by rw [e]; rw [gr3.2.1, if_neg hd3], fun q => by rw [e] at q; cases q⟩)
        | (have e : zu_st (zu_h (M 6) k) st = (false, st + 1 + 1) := (by rw [zu_st_h ho, decide_eq_true hd1, decide_eq_false hd2]; rfl); exact ⟨by rw [e]; rfl, hpr2, by rw [e]; rw [gr2.2.1, if_neg hd2], fun q => by rw [e] at q; cases q⟩)
        | (have e : zu_st (zu_h (M 6) k) st = (false, st + 1) := (by rw [zu_st_h ho, decide_eq_false hd1]; rfl); exact ⟨by rw [e]; rfl, hpr1, by rw [e]; rw [gr1.2.1, if_neg hd1], fun q => by rw [e] at q; cases q⟩)
    · have hd2 := zs_bd1 h116
      have hq2 : N2 0 11 = nI (st + 1 + 1 + 1) := by rw [gr2.2.1, if_pos hd2]
      refine zk_aload_n dX5_readsStatement_119 rfl ?_
      refine zk_iconst dX5_readsStatement_120 zc_2 ?_
      refine zk_iconst dX5_readsStatement_121 zc_1 ?_
      refine zk_callV (qrn1 (hL.pr hpr2) (j := 2) (by decide) (show st + 1 + 1 + 1 < 200 by omega) hq2) dX5_readsStatement_122 mwX5_readsNumber ml_X5_97 (by decide : 0 < zm.1) rfl rfl (by decide) rfl (Nat.le_of_ble_eq_true rfl) (fun r3 N3 L3 g3 => ?_)
      rw [hpr2.1 6 (by decide) (by decide)] at g3
      obtain ⟨rfl, gr3⟩ := g3
      have hpr3 := hpr2.tr gr3.1
      refine zk_if_eq (tgt := 150) dX5_readsStatement_125 (by decide) (fun h125 => ?_) (fun h125 => ?_)
      · have hd3 := zs_bd0 h125
        refine zk_iconst dX5_readsStatement_150 zc_0 ?_
        refine zk_istore_n dX5_readsStatement_151 zk_S_2 ?_
        refine zk_goto (tgt := 187) dX5_readsStatement_152 (by decide) ?_
        refine zk_iload_n dX5_readsStatement_187 rfl ?_
        refine zk_if_eq (tgt := 200) dX5_readsStatement_188 (by decide) (fun _ => ?_) (fun h188 => absurd (rfl) h188)
        refine zk_iconst dX5_readsStatement_200 zc_0 ?_
        refine zk_zret rfl (by decide) dX5_readsStatement_201 ?_
        first
          | (have e : zu_st (zu_h (M 6) k) st = (false, st + 1 + 1 + 1 + 1 + 1 + 1) := (by rw [zu_st_h ho, decide_eq_true hd1, decide_eq_true hd2, decide_eq_true hd3, decide_eq_true hd4, decide_eq_true hd5, decide_eq_false h197]; rfl); exact ⟨by rw [e]; rfl, hpr5, by rw [e]; exact hq5, fun q => by rw [e] at q; cases q⟩)
          | (have e : zu_st (zu_h (M 6) k) st = (false, st + 1 + 1 + 1 + 1 + 1) := (by rw [zu_st_h ho, decide_eq_true hd1, decide_eq_true hd2, decide_eq_true hd3, decide_eq_true hd4, decide_eq_false hd5]; rfl); exact ⟨by rw [e]; rfl, hpr5, by rw [e]; rw [gr5.2.1, if_neg hd5], fun q => by rw [e] at q; cases q⟩)
          | (have e : zu_st (zu_h (M 6) k) st = (false, st + 1 + 1 + 1 + 1) := (by rw [zu_st_h ho, decide_eq_true hd1, decide_eq_true hd2, decide_eq_true hd3, decide_eq_false hd4]; rfl); exact ⟨by rw [e]; rfl, hpr4, by rw [e]; rw [gr4.2.1, if_neg hd4], fun q => by rw [e] at q; cases q⟩)
          | (have e : zu_st (zu_h (M 6) k) st = (false, st + 1 + 1 + 1) := (by rw [zu_st_h ho, decide_eq_true hd1, decide_eq_true hd2, decide_eq_false hd3]; rfl); exact ⟨by rw [e]; rfl, hpr3, by rw [e]; rw [gr3.2.1, if_neg hd3], fun q => by rw [e] at q; cases q⟩)
          | (have e : zu_st (zu_h (M 6) k) st = (false, st + 1 + 1) := (by rw [zu_st_h ho, decide_eq_true hd1, decide_eq_false hd2]; rfl); exact ⟨by rw [e]; rfl, hpr2, by rw [e]; rw [gr2.2.1, if_neg hd2], fun q => by rw [e] at q; cases q⟩)
          | (have e : zu_st (zu_h (M 6) k) st = (false, st + 1) := (by rw [zu_st_h ho, decide_eq_false hd1]; rfl); exact ⟨by rw [e]; rfl, hpr1, by rw [e]; rw [gr1.2.1, if_neg hd1], fun q => by rw [e] at q; cases q⟩)
      · have hd3 := zs_bd1 h125
        have hq3 : N3 0 11 = nI (st + 1 + 1 + 1 + 1) := by rw [gr3.2.1, if_pos hd3]
        refine zk_aload_n dX5_readsStatement_128 rfl ?_
        refine zk_iconst dX5_readsStatement_129 zc_3 ?_
        refine zk_iconst dX5_readsStatement_130 zc_1 ?_
        refine zk_callV (qrn1 (hL.pr hpr3) (j := 3) (by decide) (show st + 1 + 1 + 1 + 1 < 200 by omega) hq3) dX5_readsStatement_131 mwX5_readsNumber ml_X5_97 (by decide : 0 < zm.1) rfl rfl (by decide) rfl (Nat.le_of_ble_eq_true rfl) (fun r4 N4 L4 g4 => ?_)
        rw [hpr3.1 6 (by decide) (by decide)] at g4
        obtain ⟨rfl, gr4⟩ := g4
        have hpr4 := hpr3.tr gr4.1
        refine zk_if_eq (tgt := 150) dX5_readsStatement_134 (by decide) (fun h134 => ?_) (fun h134 => ?_)
        · have hd4 := zs_bd0 h134
          refine zk_iconst dX5_readsStatement_150 zc_0 ?_
          refine zk_istore_n dX5_readsStatement_151 zk_S_2 ?_
          refine zk_goto (tgt := 187) dX5_readsStatement_152 (by decide) ?_
          refine zk_iload_n dX5_readsStatement_187 rfl ?_
          refine zk_if_eq (tgt := 200) dX5_readsStatement_188 (by decide) (fun _ => ?_) (fun h188 => absurd (rfl) h188)
          refine zk_iconst dX5_readsStatement_200 zc_0 ?_
          refine zk_zret rfl (by decide) dX5_readsStatement_201 ?_
          first
            | (have e : zu_st (zu_h (M 6) k) st = (false, st + 1 + 1 + 1 + 1 + 1 + 1) := (by rw [zu_st_h ho, decide_eq_true hd1, decide_eq_true hd2, decide_eq_true hd3, decide_eq_true hd4, decide_eq_true hd5, decide_eq_false h197]; rfl); exact ⟨by rw [e]; rfl, hpr5, by rw [e]; exact hq5, fun q => by rw [e] at q; cases q⟩)
            | (have e : zu_st (zu_h (M 6) k) st = (false, st + 1 + 1 + 1 + 1 + 1) := (by rw [zu_st_h ho, decide_eq_true hd1, decide_eq_true hd2, decide_eq_true hd3, decide_eq_true hd4, decide_eq_false hd5]; rfl); exact ⟨by rw [e]; rfl, hpr5, by rw [e]; rw [gr5.2.1, if_neg hd5], fun q => by rw [e] at q; cases q⟩)
            | (have e : zu_st (zu_h (M 6) k) st = (false, st + 1 + 1 + 1 + 1) := (by rw [zu_st_h ho, decide_eq_true hd1, decide_eq_true hd2, decide_eq_true hd3, decide_eq_false hd4]; rfl); exact ⟨by rw [e]; rfl, hpr4, by rw [e]; rw [gr4.2.1, if_neg hd4], fun q => by rw [e] at q; cases q⟩)
            | (have e : zu_st (zu_h (M 6) k) st = (false, st + 1 + 1 + 1) := (by rw [zu_st_h ho, decide_eq_true hd1, decide_eq_true hd2, decide_eq_false hd3]; rfl); exact ⟨by rw [e]; rfl, hpr3, by rw [e]; rw [gr3.2.1, if_neg hd3], fun q => by rw [e] at q; cases q⟩)
            | (have e : zu_st (zu_h (M 6) k) st = (false, st + 1 + 1) := (by rw [zu_st_h ho, decide_eq_true hd1, decide_eq_false hd2]; rfl); exact ⟨by rw [e]; rfl, hpr2, by rw [e]; rw [gr2.2.1, if_neg hd2], fun q => by rw [e] at q; cases q⟩)
            | (have e : zu_st (zu_h (M 6) k) st = (false, st + 1) := (by rw [zu_st_h ho, decide_eq_false hd1]; rfl); exact ⟨by rw [e]; rfl, hpr1, by rw [e]; rw [gr1.2.1, if_neg hd1], fun q => by rw [e] at q; cases q⟩)
        · have hd4 := zs_bd1 h134
          have hq4 : N4 0 11 = nI (st + 1 + 1 + 1 + 1 + 1) := by rw [gr4.2.1, if_pos hd4]
          refine zk_aload_n dX5_readsStatement_137 rfl ?_
          refine zk_iconst dX5_readsStatement_138 zc_4 ?_
          refine zk_iconst dX5_readsStatement_139 zc_1 ?_
          refine zk_callV (qrn1 (hL.pr hpr4) (j := 4) (by decide) (show st + 1 + 1 + 1 + 1 + 1 < 200 by omega) hq4) dX5_readsStatement_140 mwX5_readsNumber ml_X5_97 (by decide : 0 < zm.1) rfl rfl (by decide) rfl (Nat.le_of_ble_eq_true rfl) (fun r5 N5 L5 g5 => ?_)
          rw [hpr4.1 6 (by decide) (by decide)] at g5
          obtain ⟨rfl, gr5⟩ := g5
          have hpr5 := hpr4.tr gr5.1
          refine zk_if_eq (tgt := 150) dX5_readsStatement_143 (by decide) (fun h143 => ?_) (fun h143 => ?_)
          · have hd5 := zs_bd0 h143
            refine zk_iconst dX5_readsStatement_150 zc_0 ?_
            refine zk_istore_n dX5_readsStatement_151 zk_S_2 ?_
            refine zk_goto (tgt := 187) dX5_readsStatement_152 (by decide) ?_
            refine zk_iload_n dX5_readsStatement_187 rfl ?_
            refine zk_if_eq (tgt := 200) dX5_readsStatement_188 (by decide) (fun _ => ?_) (fun h188 => absurd (rfl) h188)
            refine zk_iconst dX5_readsStatement_200 zc_0 ?_
            refine zk_zret rfl (by decide) dX5_readsStatement_201 ?_
            first
              | (have e : zu_st (zu_h (M 6) k) st = (false, st + 1 + 1 + 1 + 1 + 1 + 1) := (by rw [zu_st_h ho, decide_eq_true hd1, decide_eq_true hd2, decide_eq_true hd3, decide_eq_true hd4, decide_eq_true hd5, decide_eq_false h197]; rfl); exact ⟨by rw [e]; rfl, hpr5, by rw [e]; exact hq5, fun q => by rw [e] at q; cases q⟩)
              | (have e : zu_st (zu_h (M 6) k) st = (false, st + 1 + 1 + 1 + 1 + 1) := (by rw [zu_st_h ho, decide_eq_true hd1, decide_eq_true hd2, decide_eq_true hd3, decide_eq_true hd4, decide_eq_false hd5]; rfl); exact ⟨by rw [e]; rfl, hpr5, by rw [e]; rw [gr5.2.1, if_neg hd5], fun q => by rw [e] at q; cases q⟩)
              | (have e : zu_st (zu_h (M 6) k) st = (false, st + 1 + 1 + 1 + 1) := (by rw [zu_st_h ho, decide_eq_true hd1, decide_eq_true hd2, decide_eq_true hd3, decide_eq_false hd4]; rfl); exact ⟨by rw [e]; rfl, hpr4, by rw [e]; rw [gr4.2.1, if_neg hd4], fun q => by rw [e] at q; cases q⟩)
              | (have e : zu_st (zu_h (M 6) k) st = (false, st + 1 + 1 + 1) := (by rw [zu_st_h ho, decide_eq_true hd1, decide_eq_true hd2, decide_eq_false hd3]; rfl); exact ⟨by rw [e]; rfl, hpr3, by rw [e]; rw [gr3.2.1, if_neg hd3], fun q => by rw [e] at q; cases q⟩)
              | (have e : zu_st (zu_h (M 6) k) st = (false, st + 1 + 1) := (by rw [zu_st_h ho, decide_eq_true hd1, decide_eq_false hd2]; rfl); exact ⟨by rw [e]; rfl, hpr2, by rw [e]; rw [gr2.2.1, if_neg hd2], fun q => by rw [e] at q; cases q⟩)
              | (have e : zu_st (zu_h (M 6) k) st = (false, st + 1) := (by rw [zu_st_h ho, decide_eq_false hd1]; rfl); exact ⟨by rw [e]; rfl, hpr1, by rw [e]; rw [gr1.2.1, if_neg hd1], fun q => by rw [e] at q; cases q⟩)
          · have hd5 := zs_bd1 h143
            have hq5 : N5 0 11 = nI (st + 1 + 1 + 1 + 1 + 1 + 1) := by rw [gr5.2.1, if_pos hd5]
            refine zk_iconst dX5_readsStatement_146 zc_1 ?_
            refine zk_goto (tgt := 151) dX5_readsStatement_147 (by decide) ?_
            refine zk_istore_n dX5_readsStatement_151 zk_S_2 ?_
            refine zk_goto (tgt := 187) dX5_readsStatement_152 (by decide) ?_
            refine zk_iload_n dX5_readsStatement_187 rfl ?_
            refine zk_if_eq (tgt := 200) dX5_readsStatement_188 (by decide) (fun h188 => absurd h188 (by decide)) (fun _ => ?_)
            refine zk_aload_n dX5_readsStatement_191 rfl ?_
            refine zk_cVi (qX5_here (hL.pr hpr5) (show st + 1 + 1 + 1 + 1 + 1 + 1 < 2 ^ 31 by omega) hq5) dX5_readsStatement_192 mwX5_here ml_X5_90 (by decide : 0 < zm.1) rfl rfl (by decide) rfl (Nat.le_of_ble_eq_true rfl) ?_
            rw [hpr5.1 6 (by decide) (by decide)]
            refine zk_bipush dX5_readsStatement_195 zb_59 ?_
            refine zk_icmp_eq (tgt := 202) dX5_readsStatement_197 (by decide) (fun h197 => ?_) (fun h197 => ?_)
            · refine zk_aload_n dX5_readsStatement_202 rfl ?_
              refine zk_dup dX5_readsStatement_203 rfl ?_
              refine zk_getI dX5_readsStatement_204 fl_X5_87 (by decide : 0 < zm.1) rfl rfl ?_
              rw [hq5]
              refine zk_iconst dX5_readsStatement_207 zc_1 ?_
              refine zk_iadd dX5_readsStatement_208 ?_
              refine zk_putG dX5_readsStatement_209 fl_X5_87 ft_5_11 rfl rfl (by decide : 0 < zm.1) rfl rfl ?_
              refine zk_iconst dX5_readsStatement_212 zc_1 ?_
              refine zk_zret rfl (by decide) dX5_readsStatement_213 ?_
              have e : zu_st (zu_h (M 6) k) st = (true, st + 1 + 1 + 1 + 1 + 1 + 1 + 1) := by rw [zu_st_h ho, decide_eq_true hd1, decide_eq_true hd2, decide_eq_true hd3, decide_eq_true hd4, decide_eq_true hd5, decide_eq_true h197]; rfl
              refine ⟨by rw [e]; rfl, hpr5.up11, by rw [e, zk_up_eq, zk_up_eq]; exact (nI_succ _).symm, fun _ => ⟨?_, ?_, ?_, ?_, ?_⟩⟩
              · rw [zk_up_ne (by decide), gr5.2.2.2 0 (by decide), gr4.2.2.2 0 (by decide), gr3.2.2.2 0 (by decide), gr2.2.2.2 0 (by decide)]; exact gr1.2.2.1
              · rw [zk_up_ne (by decide), gr5.2.2.2 1 (by decide), gr4.2.2.2 1 (by decide), gr3.2.2.2 1 (by decide)]; exact gr2.2.2.1 hd2
              · rw [zk_up_ne (by decide), gr5.2.2.2 2 (by decide), gr4.2.2.2 2 (by decide)]; exact gr3.2.2.1 hd3
              · rw [zk_up_ne (by decide), gr5.2.2.2 3 (by decide)]; exact gr4.2.2.1 hd4
              · rw [zk_up_ne (by decide)]; exact gr5.2.2.1 hd5
            · refine zk_iconst dX5_readsStatement_200 zc_0 ?_
              refine zk_zret rfl (by decide) dX5_readsStatement_201 ?_
              first
                | (have e : zu_st (zu_h (M 6) k) st = (false, st + 1 + 1 + 1 + 1 + 1 + 1) := (by rw [zu_st_h ho, decide_eq_true hd1, decide_eq_true hd2, decide_eq_true hd3, decide_eq_true hd4, decide_eq_true hd5, decide_eq_false h197]; rfl); exact ⟨by rw [e]; rfl, hpr5, by rw [e]; exact hq5, fun q => by rw [e] at q; cases q⟩)
                | (have e : zu_st (zu_h (M 6) k) st = (false, st + 1 + 1 + 1 + 1 + 1) := (by rw [zu_st_h ho, decide_eq_true hd1, decide_eq_true hd2, decide_eq_true hd3, decide_eq_true hd4, decide_eq_false hd5]; rfl); exact ⟨by rw [e]; rfl, hpr5, by rw [e]; rw [gr5.2.1, if_neg hd5], fun q => by rw [e] at q; cases q⟩)
                | (have e : zu_st (zu_h (M 6) k) st = (false, st + 1 + 1 + 1 + 1) := (by rw [zu_st_h ho, decide_eq_true hd1, decide_eq_true hd2, decide_eq_true hd3, decide_eq_false hd4]; rfl); exact ⟨by rw [e]; rfl, hpr4, by rw [e]; rw [gr4.2.1, if_neg hd4], fun q => by rw [e] at q; cases q⟩)
                | (have e : zu_st (zu_h (M 6) k) st = (false, st + 1 + 1 + 1) := (by rw [zu_st_h ho, decide_eq_true hd1, decide_eq_true hd2, decide_eq_false hd3]; rfl); exact ⟨by rw [e]; rfl, hpr3, by rw [e]; rw [gr3.2.1, if_neg hd3], fun q => by rw [e] at q; cases q⟩)
                | (have e : zu_st (zu_h (M 6) k) st = (false, st + 1 + 1) := (by rw [zu_st_h ho, decide_eq_true hd1, decide_eq_false hd2]; rfl); exact ⟨by rw [e]; rfl, hpr2, by rw [e]; rw [gr2.2.1, if_neg hd2], fun q => by rw [e] at q; cases q⟩)
                | (have e : zu_st (zu_h (M 6) k) st = (false, st + 1) := (by rw [zu_st_h ho, decide_eq_false hd1]; rfl); exact ⟨by rw [e]; rfl, hpr1, by rw [e]; rw [gr1.2.1, if_neg hd1], fun q => by rw [e] at q; cases q⟩)
set_option maxRecDepth 100000 in
set_option maxHeartbeats 4000000 in
theorem qX5_rs_0 {l : Launch} {M : zk_M} {L : zk_L} {k : Nat} (hL : zs_L M k) {st : Nat} (hst : st < 150) (hp : M 0 11 = nI st) (h1 : ¬ (zu_h (M 6) k) st = 97) (h2 : ¬ (zu_h (M 6) k) st = 100) (h3 : ¬ (zu_h (M 6) k) st = 104) (h4 : ¬ (zu_h (M 6) k) st = 114) (h5 : ¬ (zu_h (M 6) k) st = 115) (h6 : ¬ (zu_h (M 6) k) st = 119) : zk_C l zm 2 muX5_readsStatement [.ref 0] M L (fun r M1 _ => r = some (.int (zs_bi (zu_st (zu_h (M 6) k) st).1)) ∧ zs_pr M M1 ∧ M1 0 11 = nI (zu_st (zu_h (M 6) k) st).2 ∧ ((zu_st (zu_h (M 6) k) st).1 = true → True)) := by
  refine zk_ofR (ls := [some (.ref 0), none, none]) (by decide) rfl (Nat.le_of_ble_eq_true rfl) rfl ?_
  refine zk_aload_n dX5_readsStatement_0 rfl ?_
  refine zk_cVi (qX5_here hL (by omega) hp) dX5_readsStatement_1 mwX5_here ml_X5_90 (by decide : 0 < zm.1) rfl rfl (by decide) rfl (Nat.le_of_ble_eq_true rfl) ?_
  refine zk_istore_n dX5_readsStatement_4 zk_S_1 ?_
  refine zk_aload_n dX5_readsStatement_5 rfl ?_
  refine zk_dup dX5_readsStatement_6 rfl ?_
  refine zk_getI dX5_readsStatement_7 fl_X5_87 (by decide : 0 < zm.1) rfl rfl ?_
  rw [hp]
  refine zk_iconst dX5_readsStatement_10 zc_1 ?_
  refine zk_iadd dX5_readsStatement_11 ?_
  rw [← nI_succ]
  refine zk_putG dX5_readsStatement_12 fl_X5_87 ft_5_11 rfl rfl (by decide : 0 < zm.1) rfl rfl ?_
  refine zk_iload_n dX5_readsStatement_15 rfl ?_
  refine zk_lookup (off := 159) (tgt := 175) dX5_readsStatement_16 (by decide) (by rw [lv_osw h1 (by decide), lv_osw h2 (by decide), lv_osw h3 (by decide), lv_osw h4 (by decide), lv_osw h5 (by decide), lv_osw h6 (by decide)]; rfl) (by decide) ?_
  refine zk_aload_n dX5_readsStatement_175 rfl ?_
  refine zk_dup dX5_readsStatement_176 rfl ?_
  refine zk_getI dX5_readsStatement_177 fl_X5_87 (by decide : 0 < zm.1) rfl rfl ?_
  rw [zk_up_eq, zk_up_eq]
  refine zk_iconst dX5_readsStatement_180 zc_1 ?_
  refine zk_isub dX5_readsStatement_181 ?_
  refine zk_putG dX5_readsStatement_182 fl_X5_87 ft_5_11 rfl rfl (by decide : 0 < zm.1) rfl rfl ?_
  refine zk_iconst dX5_readsStatement_185 zc_0 ?_
  refine zk_zret rfl (by decide) dX5_readsStatement_186 ?_
  have e : zu_st (zu_h (M 6) k) st = (false, st) := zu_st_0 h1 h2 h3 h4 h5 h6
  refine ⟨by rw [e]; rfl, zs_pr.rf.up11.up11, ?_, fun q => by rw [e] at q; cases q⟩
  rw [e, zk_up_eq, zk_up_eq, nI_succ, Int32.add_sub_cancel]
