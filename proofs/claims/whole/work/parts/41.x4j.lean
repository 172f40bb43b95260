theorem zb_7 : (Int8.ofInt 7).toInt32 = (7 : Int32) := by decide +kernel
def zs_agl (n : Nat) (f g : Nat → Int64) : Prop := ∀ i, i < n → f i = g i
theorem zs_agl.rf {n : Nat} {f : Nat → Int64} : zs_agl n f f := fun _ _ => rfl
theorem zs_agl.sm {n : Nat} {f g : Nat → Int64} (h : zs_agl n f g) : zs_agl n g f := fun i hi => (h i hi).symm
theorem zs_agl.tr {n : Nat} {f g h : Nat → Int64} (h1 : zs_agl n f g) (h2 : zs_agl n g h) : zs_agl n f h := fun i hi => (h1 i hi).trans (h2 i hi)
theorem zs_agl.up' {n k : Nat} {f g : Nat → Int64} {v v' : Int64} (h : zs_agl n f g) (hv : v = v') : zs_agl n (va_up f k v) (va_up g k v') := fun i hi => by
  simp only [va_up]
  split
  · exact hv
  · exact h i hi
theorem zs_agl.ups {n : Nat} {f g : Nat → Int64} {v : Int64} (h : zs_agl n f g) (hv : v = g n) : zs_agl (n + 1) (va_up f n v) g := fun i hi => by
  simp only [va_up]
  split
  · next e => rw [e]; exact hv
  · exact h i (by omega)
def zs_c0 (a : Int32) (i : Nat) : Int64 := if nI i = a then 1 else 0
def zs_nxp (J T f : Nat → Int32) (i : Nat) : Int32 := zs_nx J T f (nI i) 8 0 (nI i)
def zs_spf (J T f : Nat → Int32) (o : Int32) (C : Nat → Int64) (i : Nat) (D : Nat → Int64) : Nat → Int64 := va_up D (zs_nxp J T f i).toNatClampNeg (D (zs_nxp J T f i).toNatClampNeg + C i * (o - 1).toInt64)
def zs_sp (J T f : Nat → Int32) (o : Int32) (C : Nat → Int64) : Nat → Int64 := zs_for (zs_spf J T f o C) 8 0 C
theorem zs_nxp_p {J T f : Nat → Int32} {i : Nat} (hi : i < 8) : zs_p (zs_nxp J T f i) := zs_for_p 8 0 _ (by decide) (zs_p_nI hi)
theorem zs_sp_ag {J J' T T' f f' : Nat → Int32} {o : Int32} {C C' D D' : Nat → Int64} (hJ : zs_ag 8 J J') (hT : zs_ag 64 T T') (hf : zs_ag 7 f f') (ok : zs_ok f) (hC : zs_agl 8 C C') (hD : zs_agl 8 D D') : zs_agl 8 (zs_for (zs_spf J T f o C) 8 0 D) (zs_for (zs_spf J' T' f' o C') 8 0 D') := by
  refine zs_for_rel (fun _ A B => zs_agl 8 A B) 8 0 D D' (fun j A B _ hj h => ?_) hD
  have e : zs_nxp J T f j = zs_nxp J' T' f' j := zs_nx_ag hJ hT hf (zs_p_nI (by omega)) ok 8 0 _ (by decide) (zs_p_nI (by omega))
  unfold zs_spf
  rw [e]
  have hp : zs_p (zs_nxp J' T' f' j) := zs_nxp_p (by omega)
  exact h.up' (by rw [h _ (zs_p_tn hp), hC j (by omega)])
set_option maxRecDepth 100000 in
set_option maxHeartbeats 4000000 in
theorem lX4_sc {l : Launch} {M : zk_M} {p : Nat} {Q : Option Value → zk_M → zk_L → Prop} : ∀ (m i : Nat) (L : zk_L), i + m = 8 → zs_agl i (L 44) (zs_c0 (M 37 4)) → (∀ L', zs_agl 8 (L' 44) (zs_c0 (M 37 4)) → zk_R l zc 2 muX4_startChances 41 [some (.ref 0), some (.int (nI p)), none] [] M L' Q) → zk_R l zc 2 muX4_startChances 7 [some (.ref 0), some (.int (nI p)), some (.int (nI i))] [] M L Q := by
  intro m
  induction m with
  | zero =>
    intro i L hi hc k
    obtain rfl : i = 8 := by omega
    refine zk_iload_n dX4_startChances_7 rfl ?_
    refine zk_bipush (v := 8) dX4_startChances_8 (by decide) ?_
    refine zk_icmp_ge (tgt := 41) dX4_startChances_10 (by decide) (fun _ => ?_) (fun q => absurd (by decide) q)
    refine zk_forget ?_ (k L hc)
    exact ⟨Or.inr rfl, Or.inr rfl, Or.inl rfl, trivial⟩
  | succ m ih =>
    intro i L hi hc k
    have hi8 : i < 8 := by omega
    refine zk_iload_n dX4_startChances_7 rfl ?_
    refine zk_bipush dX4_startChances_8 zb_8 ?_
    refine zk_icmp_ge (tgt := 41) dX4_startChances_10 (by decide) (fun h10 => absurd h10 (nI_ge (b := 8) hi8 (by decide))) (fun _ => ?_)
    refine zk_aload_n dX4_startChances_13 rfl ?_
    refine zk_getRc (q := 44) dX4_startChances_14 fl_X4_56 (by decide : 0 < zc.1) rfl rfl rfl ?_
    refine zk_iload_n dX4_startChances_17 rfl ?_
    refine zk_iload_n dX4_startChances_18 rfl ?_
    refine zk_aload_n dX4_startChances_19 rfl ?_
    refine zk_getRc (q := 37) dX4_startChances_20 fl_X4_32 (by decide : 0 < zc.1) rfl rfl rfl ?_
    refine zk_getI dX4_startChances_23 fl_X4_106 (by decide : 37 < zc.1) rfl rfl ?_
    refine zk_icmp_ne (tgt := 33) dX4_startChances_26 (by decide) (fun h26 => ?_) (fun h26 => ?_)
    · refine zk_lconst (v := 0) dX4_startChances_33 (by decide) ?_
      refine zk_last (j := i) dX4_startChances_34 (by decide : 44 < zc.1) rfl (zs_in rfl (vp_in_nI hi8 (by decide))) (nI_clamp (Nat.lt_trans hi8 (by decide))) ?_
      refine zk_iinc dX4_startChances_35 zc_1 rfl zk_S_2 ?_
      refine zk_goto (tgt := 7) dX4_startChances_38 (by decide) ?_
      rw [← nI_succ]
      first
        | exact ih (i + 1) _ (by omega) (by rw [zk_up_eq]; exact zs_agl.ups hc (by unfold zs_c0; rw [if_pos h26])) k
        | exact ih (i + 1) _ (by omega) (by rw [zk_up_eq]; exact zs_agl.ups hc (by unfold zs_c0; rw [if_neg h26])) k
    · refine zk_lconst (v := 1) dX4_startChances_29 (by decide) ?_
      refine zk_goto (tgt := 34) dX4_startChances_30 (by decide) ?_
      refine zk_last (j := i) dX4_startChances_34 (by decide : 44 < zc.1) rfl (zs_in rfl (vp_in_nI hi8 (by decide))) (nI_clamp (Nat.lt_trans hi8 (by decide))) ?_
      refine zk_iinc dX4_startChances_35 zc_1 rfl zk_S_2 ?_
      refine zk_goto (tgt := 7) dX4_startChances_38 (by decide) ?_
      rw [← nI_succ]
      first
        | exact ih (i + 1) _ (by omega) (by rw [zk_up_eq]; exact zs_agl.ups hc (by unfold zs_c0; rw [if_pos h26])) k
        | exact ih (i + 1) _ (by omega) (by rw [zk_up_eq]; exact zs_agl.ups hc (by unfold zs_c0; rw [if_neg h26])) k
set_option maxRecDepth 100000 in
set_option maxHeartbeats 4000000 in
theorem qX4_startChances {l : Launch} {M : zk_M} {L : zk_L} {n : Nat} (hI : zs_I M n) {p : Nat} (hp : p < n) : zk_C l zc 2 muX4_startChances [.ref 0, .int (nI p)] M L (fun r M1 L1 => r = none ∧ zs_same M M1 ∧ zs_ag 7 (M1 37) (M (6 + p)) ∧ zs_agl 8 (L1 44) (zs_c0 (M (6 + p) 4))) := by
  refine zk_ofR (ls := [some (.ref 0), some (.int (nI p)), none]) (by decide) rfl (Nat.le_of_ble_eq_true rfl) rfl ?_
  refine zk_aload_n dX4_startChances_0 rfl ?_
  refine zk_iload_n dX4_startChances_1 rfl ?_
  refine zk_cVv (qX4_thinkOf hI hp) dX4_startChances_2 mwX4_thinkOf ml_X4_167 (by decide : 0 < zc.1) rfl rfl (by decide) rfl (Nat.le_of_ble_eq_true rfl) ?_
  refine zk_iconst dX4_startChances_5 zc_0 ?_
  refine zk_istore_n dX4_startChances_6 zk_S_2 ?_
  refine lX4_sc 8 0 L rfl (fun i hi => by omega) (fun L1 h1 => ?_)
  refine zk_vret rfl dX4_startChances_41 ?_
  refine ⟨rfl, zs_same.rf.up (by omega), by rw [zk_up_eq]; exact zs_cp_ag, ?_⟩
  rw [zk_up_eq] at h1
  exact h1
set_option maxRecDepth 100000 in
set_option maxHeartbeats 4000000 in
theorem lX4_sp1 {l : Launch} {M : zk_M} {o : Int32} {S : Nat → Int64} {L0 : zk_L} {Q : Option Value → zk_M → zk_L → Prop} : ∀ (m i : Nat) (L : zk_L), i + m = 8 → L 44 = S → zs_agl i (L 45) S → (∀ q, q ≠ 44 → q ≠ 45 → L q = L0 q) → (∀ L', L' 44 = S → zs_agl 8 (L' 45) S → zk_R l zc 3 muX4_spreadChances 26 [some (.ref 0), some (.int o), none, none] [] M L' Q) → zk_R l zc 3 muX4_spreadChances 2 [some (.ref 0), some (.int o), some (.int (nI i)), none] [] M L Q := by
  intro m
  induction m with
  | zero =>
    intro i L hi hS hc hO k
    obtain rfl : i = 8 := by omega
    refine zk_iload_n dX4_spreadChances_2 rfl ?_
    refine zk_bipush (v := 8) dX4_spreadChances_3 (by decide) ?_
    refine zk_icmp_ge (tgt := 26) dX4_spreadChances_5 (by decide) (fun _ => ?_) (fun q => absurd (by decide) q)
    refine zk_forget ?_ (k L hS hc)
    exact ⟨Or.inr rfl, Or.inr rfl, Or.inl rfl, Or.inl rfl, trivial⟩
  | succ m ih =>
    intro i L hi hS hc hO k
    have hi8 : i < 8 := by omega
    refine zk_iload_n dX4_spreadChances_2 rfl ?_
    refine zk_bipush dX4_spreadChances_3 zb_8 ?_
    refine zk_icmp_ge (tgt := 26) dX4_spreadChances_5 (by decide) (fun h5 => absurd h5 (nI_ge (b := 8) hi8 (by decide))) (fun _ => ?_)
    refine zk_aload_n dX4_spreadChances_8 rfl ?_
    refine zk_getRc (q := 45) dX4_spreadChances_9 fl_X4_60 (by decide : 0 < zc.1) rfl rfl rfl ?_
    refine zk_iload_n dX4_spreadChances_12 rfl ?_
    refine zk_aload_n dX4_spreadChances_13 rfl ?_
    refine zk_getRc (q := 44) dX4_spreadChances_14 fl_X4_56 (by decide : 0 < zc.1) rfl rfl rfl ?_
    refine zk_iload_n dX4_spreadChances_17 rfl ?_
    refine zk_lald (j := i) dX4_spreadChances_18 (by decide : 44 < zc.1) rfl (zs_in rfl (vp_in_nI hi8 (by decide))) (nI_clamp (Nat.lt_trans hi8 (by decide))) ?_
    refine zk_last (j := i) dX4_spreadChances_19 (by decide : 45 < zc.1) rfl (zs_in rfl (vp_in_nI hi8 (by decide))) (nI_clamp (Nat.lt_trans hi8 (by decide))) ?_
    refine zk_iinc dX4_spreadChances_20 zc_1 rfl zk_S_2 ?_
    refine zk_goto (tgt := 2) dX4_spreadChances_23 (by decide) ?_
    rw [← nI_succ]
    exact ih (i + 1) _ (by omega) (by rw [zk_up_ne (by decide)]; exact hS) (by rw [zk_up_eq]; exact zs_agl.ups hc (by rw [hS])) (fun q h1 h2 => by rw [zk_up_ne h2]; exact hO q h1 h2) k
set_option maxRecDepth 100000 in
set_option maxHeartbeats 4000000 in
theorem lX4_sp3 {l : Launch} {M : zk_M} {o : Int32} {S : Nat → Int64} {L0 : zk_L} {Q : Option Value → zk_M → zk_L → Prop} : ∀ (m i : Nat) (L : zk_L), i + m = 8 → L 45 = S → zs_agl i (L 44) S → (∀ q, q ≠ 45 → q ≠ 44 → L q = L0 q) → (∀ L', L' 45 = S → zs_agl 8 (L' 44) S → zk_R l zc 3 muX4_spreadChances 109 [some (.ref 0), some (.int o), none, none] [] M L' Q) → zk_R l zc 3 muX4_spreadChances 85 [some (.ref 0), some (.int o), some (.int (nI i)), none] [] M L Q := by
  intro m
  induction m with
  | zero =>
    intro i L hi hS hc hO k
    obtain rfl : i = 8 := by omega
    refine zk_iload_n dX4_spreadChances_85 rfl ?_
    refine zk_bipush (v := 8) dX4_spreadChances_86 (by decide) ?_
    refine zk_icmp_ge (tgt := 109) dX4_spreadChances_88 (by decide) (fun _ => ?_) (fun q => absurd (by decide) q)
    refine zk_forget ?_ (k L hS hc)
    exact ⟨Or.inr rfl, Or.inr rfl, Or.inl rfl, Or.inl rfl, trivial⟩
  | succ m ih =>
    intro i L hi hS hc hO k
    have hi8 : i < 8 := by omega
    refine zk_iload_n dX4_spreadChances_85 rfl ?_
    refine zk_bipush dX4_spreadChances_86 zb_8 ?_
    refine zk_icmp_ge (tgt := 109) dX4_spreadChances_88 (by decide) (fun h88 => absurd h88 (nI_ge (b := 8) hi8 (by decide))) (fun _ => ?_)
    refine zk_aload_n dX4_spreadChances_91 rfl ?_
    refine zk_getRc (q := 44) dX4_spreadChances_92 fl_X4_56 (by decide : 0 < zc.1) rfl rfl rfl ?_
    refine zk_iload_n dX4_spreadChances_95 rfl ?_
    refine zk_aload_n dX4_spreadChances_96 rfl ?_
    refine zk_getRc (q := 45) dX4_spreadChances_97 fl_X4_60 (by decide : 0 < zc.1) rfl rfl rfl ?_
    refine zk_iload_n dX4_spreadChances_100 rfl ?_
    refine zk_lald (j := i) dX4_spreadChances_101 (by decide : 45 < zc.1) rfl (zs_in rfl (vp_in_nI hi8 (by decide))) (nI_clamp (Nat.lt_trans hi8 (by decide))) ?_
    refine zk_last (j := i) dX4_spreadChances_102 (by decide : 44 < zc.1) rfl (zs_in rfl (vp_in_nI hi8 (by decide))) (nI_clamp (Nat.lt_trans hi8 (by decide))) ?_
    refine zk_iinc dX4_spreadChances_103 zc_1 rfl zk_S_2 ?_
    refine zk_goto (tgt := 85) dX4_spreadChances_106 (by decide) ?_
    rw [← nI_succ]
    exact ih (i + 1) _ (by omega) (by rw [zk_up_ne (by decide)]; exact hS) (by rw [zk_up_eq]; exact zs_agl.ups hc (by rw [hS])) (fun q h1 h2 => by rw [zk_up_ne h2]; exact hO q h1 h2) k
theorem q37_next {l : Launch} {M : zk_M} {L : zk_L} {a : Int32} (ha : zs_p a) (ok : zs_ok (M 37)) : zk_C l zc 2 muX1_nextFrom [.ref 37, .ref 2, .int a] M L (zk_Ei (zs_nx (M 3) (M 4) (M 37) a 8 0 a) M L) := qX1_nextFrom zc_h37 zc_r2 ha ok.1 ok.2.1
set_option maxRecDepth 100000 in
set_option maxHeartbeats 4000000 in
theorem lX4_sp2 {l : Launch} {M : zk_M} (ok : zs_ok (M 37)) {o : Int32} {C : Nat → Int64} {Q : Option Value → zk_M → zk_L → Prop} : ∀ (m i : Nat) (L : zk_L), i + m = 8 → L 44 = C → (∀ L', L' 44 = C → L' 45 = zs_for (zs_spf (M 3) (M 4) (M 37) o C) m i (L 45) → zk_R l zc 3 muX4_spreadChances 83 [some (.ref 0), some (.int o), none, none] [] M L' Q) → zk_R l zc 3 muX4_spreadChances 28 [some (.ref 0), some (.int o), some (.int (nI i)), none] [] M L Q := by
  intro m
  induction m with
  | zero =>
    intro i L hi hC k
    obtain rfl : i = 8 := by omega
    refine zk_iload_n dX4_spreadChances_28 rfl ?_
    refine zk_bipush (v := 8) dX4_spreadChances_29 (by decide) ?_
    refine zk_icmp_ge (tgt := 83) dX4_spreadChances_31 (by decide) (fun _ => ?_) (fun q => absurd (by decide) q)
    refine zk_forget ?_ (k L hC rfl)
    exact ⟨Or.inr rfl, Or.inr rfl, Or.inl rfl, Or.inl rfl, trivial⟩
  | succ m ih =>
    intro i L hi hC k
    have hi8 : i < 8 := by omega
    refine zk_iload_n dX4_spreadChances_28 rfl ?_
    refine zk_bipush dX4_spreadChances_29 zb_8 ?_
    refine zk_icmp_ge (tgt := 83) dX4_spreadChances_31 (by decide) (fun h31 => absurd h31 (nI_ge (b := 8) hi8 (by decide))) (fun _ => ?_)
    refine zk_aload_n dX4_spreadChances_34 rfl ?_
    refine zk_getRc (q := 37) dX4_spreadChances_35 fl_X4_32 (by decide : 0 < zc.1) rfl rfl rfl ?_
    refine zk_aload_n dX4_spreadChances_38 rfl ?_
    refine zk_getRc (q := 1) dX4_spreadChances_39 fl_X4_12 (by decide : 0 < zc.1) rfl rfl rfl ?_
    refine zk_getRc (q := 2) dX4_spreadChances_42 fl_X4_122 (by decide : 1 < zc.1) rfl rfl rfl ?_
    refine zk_iload_n dX4_spreadChances_45 rfl ?_
    refine zk_cVi (q37_next (zs_p_nI hi8) ok) dX4_spreadChances_46 mwX1_nextFrom ml_X4_299 (by decide : 37 < zc.1) rfl rfl (by decide) rfl (Nat.le_of_ble_eq_true rfl) ?_
    have hnp : zs_p (zs_nxp (M 3) (M 4) (M 37) i) := zs_nxp_p hi8
    refine zk_istore_n dX4_spreadChances_49 zk_S_3 ?_
    refine zk_iload_n dX4_spreadChances_50 rfl ?_
    refine zk_cSi (qX4_isPlace_t hnp) dX4_spreadChances_51 miX4_isPlace ml_X4_119 stX4_isPlace rfl (by decide) rfl (Nat.le_of_ble_eq_true rfl) ?_
    refine zk_if_eq (tgt := 77) dX4_spreadChances_54 (by decide) (fun h54 => absurd h54 (by decide)) (fun _ => ?_)
    refine zk_aload_n dX4_spreadChances_57 rfl ?_
    refine zk_getRc (q := 45) dX4_spreadChances_58 fl_X4_60 (by decide : 0 < zc.1) rfl rfl rfl ?_
    refine zk_iload_n dX4_spreadChances_61 rfl ?_
    refine zk_dup2 dX4_spreadChances_62 rfl rfl ?_
    refine zk_lald (j := _) dX4_spreadChances_63 (by decide : 45 < zc.1) rfl (zs_in rfl (zs_pin hnp)) rfl ?_
    refine zk_aload_n dX4_spreadChances_64 rfl ?_
    refine zk_getRc (q := 44) dX4_spreadChances_65 fl_X4_56 (by decide : 0 < zc.1) rfl rfl rfl ?_
    refine zk_iload_n dX4_spreadChances_68 rfl ?_
    refine zk_lald (j := i) dX4_spreadChances_69 (by decide : 44 < zc.1) rfl (zs_in rfl (vp_in_nI hi8 (by decide))) (nI_clamp (by omega)) ?_
    rw [hC]
    refine zk_iload_n dX4_spreadChances_70 rfl ?_
    refine zk_iconst dX4_spreadChances_71 zc_1 ?_
    refine zk_isub dX4_spreadChances_72 ?_
    refine zk_i2l dX4_spreadChances_73 ?_
    refine zk_lmul dX4_spreadChances_74 ?_
    refine zk_ladd dX4_spreadChances_75 ?_
    refine zk_last (j := _) dX4_spreadChances_76 (by decide : 45 < zc.1) rfl (zs_in rfl (zs_pin hnp)) rfl ?_
    refine zk_iinc dX4_spreadChances_77 zc_1 rfl zk_S_2 ?_
    refine zk_goto (tgt := 28) dX4_spreadChances_80 (by decide) ?_
    rw [← nI_succ]
    refine zk_forget (ls' := [some (.ref 0), some (.int o), some (.int (nI (i + 1))), none]) ⟨Or.inr rfl, Or.inr rfl, Or.inr rfl, Or.inl rfl, trivial⟩ (ih (i + 1) _ (by omega) (by rw [zk_up_ne (by decide)]; exact hC) (fun L' h1 h2 => k L' h1 ?_))
    rw [h2, zk_up_eq]
    rfl
set_option maxRecDepth 100000 in
set_option maxHeartbeats 4000000 in
theorem qX4_spreadChances {l : Launch} {M : zk_M} {L : zk_L} {M0 : zk_M} {f : Nat → Int32} {C : Nat → Int64} {o : Int32} (hs : zs_same M0 M) (hf : zs_ag 7 (M 37) f) (okf : zs_ok f) (hC : zs_agl 8 (L 44) C) : zk_C l zc 3 muX4_spreadChances [.ref 0, .int o] M L (fun r M1 L1 => r = none ∧ M1 = M ∧ zs_agl 8 (L1 44) (zs_sp (M0 3) (M0 4) f o C)) := by
  refine zk_ofR (ls := [some (.ref 0), some (.int o), none, none]) (by decide) rfl (Nat.le_of_ble_eq_true rfl) rfl ?_
  refine zk_iconst dX4_spreadChances_0 zc_0 ?_
  refine zk_istore_n dX4_spreadChances_1 zk_S_2 ?_
  refine lX4_sp1 (S := L 44) (L0 := L) 8 0 L rfl rfl (fun i hi => by omega) (fun _ _ _ => rfl) (fun L1 h1 h2 => ?_)
  refine zk_iconst dX4_spreadChances_26 zc_0 ?_
  refine zk_istore_n dX4_spreadChances_27 zk_S_2 ?_
  refine lX4_sp2 (zs_ok_ag hf.sm okf) (C := L 44) 8 0 L1 rfl h1 (fun L2 h3 h4 => ?_)
  refine zk_iconst dX4_spreadChances_83 zc_0 ?_
  refine zk_istore_n dX4_spreadChances_84 zk_S_2 ?_
  refine lX4_sp3 (S := L2 45) (L0 := L2) 8 0 L2 rfl rfl (fun i hi => by omega) (fun _ _ _ => rfl) (fun L3 h5 h6 => ?_)
  refine zk_vret rfl dX4_spreadChances_109 ?_
  refine ⟨rfl, rfl, h6.tr ?_⟩
  rw [h4, hs 3 (by decide) (by decide), hs 4 (by decide) (by decide)]
  exact zs_sp_ag zs_ag.rf zs_ag.rf hf (zs_ok_ag hf.sm okf) hC (h2.tr hC)
def zs_mdl (J T : Nat → Int32) (o : Int32) : Nat → (Nat → Int32) → (Nat → Int64) → Int64 → (Nat → Int64) × Int64
  | 0, _, C, x => (C, x)
  | m + 1, f, C, x => zs_mdl J T o m (zs_wear f) (zs_sp J T (zs_wear f) o C) (x * o.toInt64)
set_option maxRecDepth 100000 in
set_option maxHeartbeats 4000000 in
theorem lX4_mud {l : Launch} {M0 : zk_M} {p t : Nat} (ht : t ≤ 7) {pl o y : Int32} {Q : Option Value → zk_M → zk_L → Prop} : ∀ (m i : Nat) (f : Nat → Int32) (C : Nat → Int64) (x : Int64) (M : zk_M) (L : zk_L), i + m = t → zs_same M0 M → zs_ag 7 (M 37) f → zs_ok f → zs_agl 8 (L 44) C → (∀ M' L', zs_same M0 M' → zs_agl 8 (L' 44) (zs_mdl (M0 3) (M0 4) o m f C x).1 → zk_R l zc 4 muX4_mud 121 [some (.ref 0), some (.int (nI p)), some (.int pl), some (.int (nI t)), some (.int o), some (.int y), some (.long (zs_mdl (M0 3) (M0 4) o m f C x).2), none, none] [] M' L' Q) → zk_R l zc 4 muX4_mud 88 [some (.ref 0), some (.int (nI p)), some (.int pl), some (.int (nI t)), some (.int o), some (.int y), some (.long x), none, some (.int (nI i))] [] M L Q := by
  intro m
  induction m with
  | zero =>
    intro i f C x M L hi hs hf okf hC k
    obtain rfl : i = t := by omega
    refine zk_iload dX4_mud_88 rfl ?_
    refine zk_iload_n dX4_mud_90 rfl ?_
    refine zk_icmp_ge (tgt := 121) dX4_mud_91 (by decide) (fun _ => ?_) (fun q => absurd (nI_le (Nat.le_refl _) (by omega)) q)
    refine zk_forget ?_ (k M L hs hC)
    exact ⟨Or.inr rfl, Or.inr rfl, Or.inr rfl, Or.inr rfl, Or.inr rfl, Or.inr rfl, Or.inr rfl, Or.inl rfl, Or.inl rfl, trivial⟩
  | succ m ih =>
    intro i f C x M L hi hs hf okf hC k
    have hi : i < t := by omega
    refine zk_iload dX4_mud_88 rfl ?_
    refine zk_iload_n dX4_mud_90 rfl ?_
    refine zk_icmp_ge (tgt := 121) dX4_mud_91 (by decide) (fun h91 => absurd h91 (nI_ge hi (by omega))) (fun _ => ?_)
    refine zk_aload_n dX4_mud_94 rfl ?_
    refine zk_getRc (q := 37) dX4_mud_95 fl_X4_32 (by decide : 0 < zc.1) rfl rfl rfl ?_
    refine zk_cVv (qX1_wearIron zc_h37) dX4_mud_98 mwX1_wearIron ml_X4_222 (by decide : 37 < zc.1) rfl rfl (by decide) rfl (Nat.le_of_ble_eq_true rfl) ?_
    refine zk_aload_n dX4_mud_101 rfl ?_
    refine zk_iload dX4_mud_102 rfl ?_
    refine zk_callV (qX4_spreadChances (f := zs_wear f) (hs.up (by omega)) (by rw [zk_up_eq]; exact zs_wear_ag hf) (zs_wear_ok okf) hC) dX4_mud_104 mwX4_spreadChances ml_X4_238 (by decide : 0 < zc.1) rfl rfl (by decide) rfl (Nat.le_of_ble_eq_true rfl) (fun r2 M2 L2 h2 => ?_)
    obtain ⟨rfl, rfl, hC2⟩ := h2
    refine zk_lload dX4_mud_107 rfl ?_
    refine zk_iload dX4_mud_109 rfl ?_
    refine zk_i2l dX4_mud_111 ?_
    refine zk_lmul dX4_mud_112 ?_
    refine zk_lstore dX4_mud_113 zk_S2_6 ?_
    refine zk_iinc dX4_mud_115 zc_1 rfl zk_S_8 ?_
    refine zk_goto (tgt := 88) dX4_mud_118 (by decide) ?_
    rw [← nI_succ]
    exact ih (i + 1) (zs_wear f) _ _ _ L2 (by omega) (hs.up (by omega)) (by rw [zk_up_eq]; exact zs_wear_ag hf) (zs_wear_ok okf) hC2 k
set_option maxRecDepth 100000 in
set_option maxHeartbeats 4000000 in
theorem qX4_mud_r1 {l : Launch} {M : zk_M} {L : zk_L} {n : Nat} (hI : zs_I M n) {r x a b y : Int32} (hn : ¬ (zs_isr (M 1 2) r ∧ zs_p x)) : zk_C l zc 4 muX4_mud [.ref 0, .int r, .int x, .int a, .int b, .int y] M L (zq_l 4000000000000000001 (zs_ref M 1)) := by
  refine zk_ofR (ls := [some (.ref 0), some (.int r), some (.int x), some (.int a), some (.int b), some (.int y), none, none, none]) (by decide) rfl (Nat.le_of_ble_eq_true rfl) rfl ?_
  refine zk_aload_n dX4_mud_0 rfl ?_
  refine zk_getRc (q := 1) dX4_mud_1 fl_X4_12 (by decide : 0 < zc.1) rfl rfl rfl ?_
  refine zk_iload_n dX4_mud_4 rfl ?_
  refine zk_cVi (q1_hasRider hI) dX4_mud_5 mwX0_hasRider ml_X4_85 (by decide : 1 < zc.1) rfl rfl (by decide) rfl (Nat.le_of_ble_eq_true rfl) ?_
  refine zk_if_eq (tgt := 18) dX4_mud_8 (by decide) (fun h8 => ?_) (fun h8 => ?_)
  · have hr := zs_if0 h8
    refine zk_aload_n dX4_mud_18 rfl ?_
    refine zk_iconst dX4_mud_19 zc_m1 ?_
    refine zk_cVl (qrl1) dX4_mud_20 mwX4_refuseLong ml_X4_231 (by decide : 0 < zc.1) rfl rfl (by decide) rfl (Nat.le_of_ble_eq_true rfl) ?_
    refine zk_lret rfl dX4_mud_23 ?_
    exact ⟨rfl, zs_same.rf⟩
  · have hr := zs_if1 h8
    refine zk_iload_n dX4_mud_11 rfl ?_
    refine zk_cSi (qX4_isPlace) dX4_mud_12 miX4_isPlace ml_X4_119 stX4_isPlace rfl (by decide) rfl (Nat.le_of_ble_eq_true rfl) ?_
    refine zk_if_ne (tgt := 24) dX4_mud_15 (by decide) (fun h15 => ?_) (fun h15 => ?_)
    · have hx := zs_if1 h15
      exact absurd ⟨hr, hx⟩ hn
    · have hx := zs_if0 h15
      refine zk_aload_n dX4_mud_18 rfl ?_
      refine zk_iconst dX4_mud_19 zc_m1 ?_
      refine zk_cVl (qrl1) dX4_mud_20 mwX4_refuseLong ml_X4_231 (by decide : 0 < zc.1) rfl rfl (by decide) rfl (Nat.le_of_ble_eq_true rfl) ?_
      refine zk_lret rfl dX4_mud_23 ?_
      exact ⟨rfl, zs_same.rf⟩
set_option maxRecDepth 100000 in
set_option maxHeartbeats 4000000 in
theorem qX4_mud_r4 {l : Launch} {M : zk_M} {L : zk_L} {n : Nat} (hI : zs_I M n) {p : Nat} (hp : p < n) {x : Int32} (hx : zs_p x) {a b y : Int32} (hn : a < 0 ∨ b < 2) : zk_C l zc 4 muX4_mud [.ref 0, .int (nI p), .int x, .int a, .int b, .int y] M L (zq_l 4000000000000000004 (zs_ref M 4)) := by
  refine zk_ofR (ls := [some (.ref 0), some (.int (nI p)), some (.int x), some (.int a), some (.int b), some (.int y), none, none, none]) (by decide) rfl (Nat.le_of_ble_eq_true rfl) rfl ?_
  refine zk_aload_n dX4_mud_0 rfl ?_
  refine zk_getRc (q := 1) dX4_mud_1 fl_X4_12 (by decide : 0 < zc.1) rfl rfl rfl ?_
  refine zk_iload_n dX4_mud_4 rfl ?_
  refine zk_cVi (q1_hasRider_t hI hp) dX4_mud_5 mwX0_hasRider ml_X4_85 (by decide : 1 < zc.1) rfl rfl (by decide) rfl (Nat.le_of_ble_eq_true rfl) ?_
  refine zk_if_eq (tgt := 18) dX4_mud_8 (by decide) (fun h8 => absurd h8 (by decide)) (fun _ => ?_)
  refine zk_iload_n dX4_mud_11 rfl ?_
  refine zk_cSi (qX4_isPlace_t hx) dX4_mud_12 miX4_isPlace ml_X4_119 stX4_isPlace rfl (by decide) rfl (Nat.le_of_ble_eq_true rfl) ?_
  refine zk_if_ne (tgt := 24) dX4_mud_15 (by decide) (fun _ => ?_) (fun h15 => absurd h15 (by decide))
  refine zk_iload_n dX4_mud_24 rfl ?_
  refine zk_if_lt (tgt := 34) dX4_mud_25 (by decide) (fun h25 => ?_) (fun h25 => ?_)
  · refine zk_aload_n dX4_mud_34 rfl ?_
    refine zk_bipush dX4_mud_35 zb_m4 ?_
    refine zk_cVl (qrl4) dX4_mud_37 mwX4_refuseLong ml_X4_231 (by decide : 0 < zc.1) rfl rfl (by decide) rfl (Nat.le_of_ble_eq_true rfl) ?_
    refine zk_lret rfl dX4_mud_40 ?_
    exact ⟨rfl, zs_same.rf⟩
  · refine zk_iload dX4_mud_28 rfl ?_
    refine zk_iconst dX4_mud_30 zc_2 ?_
    refine zk_icmp_ge (tgt := 41) dX4_mud_31 (by decide) (fun h31 => absurd h31 (fun q => hn.elim h25 (fun z => absurd q (Int32.not_le.mpr z)))) (fun _ => ?_)
    refine zk_aload_n dX4_mud_34 rfl ?_
    refine zk_bipush dX4_mud_35 zb_m4 ?_
    refine zk_cVl (qrl4) dX4_mud_37 mwX4_refuseLong ml_X4_231 (by decide : 0 < zc.1) rfl rfl (by decide) rfl (Nat.le_of_ble_eq_true rfl) ?_
    refine zk_lret rfl dX4_mud_40 ?_
    exact ⟨rfl, zs_same.rf⟩
set_option maxRecDepth 100000 in
set_option maxHeartbeats 4000000 in
theorem qX4_mud_r6 {l : Launch} {M : zk_M} {L : zk_L} {n : Nat} (hI : zs_I M n) {p : Nat} (hp : p < n) {x : Int32} (hx : zs_p x) {a b y : Int32} (h1 : ¬ a < 0) (h2 : ¬ b < 2) (hn : 7 < a ∨ 20 < b) : zk_C l zc 4 muX4_mud [.ref 0, .int (nI p), .int x, .int a, .int b, .int y] M L (zq_l 4000000000000000006 (zs_ref M 6)) := by
  refine zk_ofR (ls := [some (.ref 0), some (.int (nI p)), some (.int x), some (.int a), some (.int b), some (.int y), none, none, none]) (by decide) rfl (Nat.le_of_ble_eq_true rfl) rfl ?_
  refine zk_aload_n dX4_mud_0 rfl ?_
  refine zk_getRc (q := 1) dX4_mud_1 fl_X4_12 (by decide : 0 < zc.1) rfl rfl rfl ?_
  refine zk_iload_n dX4_mud_4 rfl ?_
  refine zk_cVi (q1_hasRider_t hI hp) dX4_mud_5 mwX0_hasRider ml_X4_85 (by decide : 1 < zc.1) rfl rfl (by decide) rfl (Nat.le_of_ble_eq_true rfl) ?_
  refine zk_if_eq (tgt := 18) dX4_mud_8 (by decide) (fun h8 => absurd h8 (by decide)) (fun _ => ?_)
  refine zk_iload_n dX4_mud_11 rfl ?_
  refine zk_cSi (qX4_isPlace_t hx) dX4_mud_12 miX4_isPlace ml_X4_119 stX4_isPlace rfl (by decide) rfl (Nat.le_of_ble_eq_true rfl) ?_
  refine zk_if_ne (tgt := 24) dX4_mud_15 (by decide) (fun _ => ?_) (fun h15 => absurd h15 (by decide))
  refine zk_iload_n dX4_mud_24 rfl ?_
  refine zk_if_lt (tgt := 34) dX4_mud_25 (by decide) (fun h25 => absurd h25 (h1)) (fun _ => ?_)
  refine zk_iload dX4_mud_28 rfl ?_
  refine zk_iconst dX4_mud_30 zc_2 ?_
  refine zk_icmp_ge (tgt := 41) dX4_mud_31 (by decide) (fun _ => ?_) (fun h31 => absurd (Int32.not_lt.mp h2) h31)
  refine zk_iload_n dX4_mud_41 rfl ?_
  refine zk_bipush dX4_mud_42 zb_7 ?_
  refine zk_icmp_gt (tgt := 54) dX4_mud_44 (by decide) (fun h44 => ?_) (fun h44 => ?_)
  · refine zk_aload_n dX4_mud_54 rfl ?_
    refine zk_bipush dX4_mud_55 zb_m6 ?_
    refine zk_cVl (qrl6) dX4_mud_57 mwX4_refuseLong ml_X4_231 (by decide : 0 < zc.1) rfl rfl (by decide) rfl (Nat.le_of_ble_eq_true rfl) ?_
    refine zk_lret rfl dX4_mud_60 ?_
    exact ⟨rfl, zs_same.rf⟩
  · refine zk_iload dX4_mud_47 rfl ?_
    refine zk_bipush dX4_mud_49 zb_20 ?_
    refine zk_icmp_le (tgt := 61) dX4_mud_51 (by decide) (fun h51 => absurd h51 (fun q => hn.elim h44 (fun z => absurd q (Int32.not_le.mpr z)))) (fun _ => ?_)
    refine zk_aload_n dX4_mud_54 rfl ?_
    refine zk_bipush dX4_mud_55 zb_m6 ?_
    refine zk_cVl (qrl6) dX4_mud_57 mwX4_refuseLong ml_X4_231 (by decide : 0 < zc.1) rfl rfl (by decide) rfl (Nat.le_of_ble_eq_true rfl) ?_
    refine zk_lret rfl dX4_mud_60 ?_
    exact ⟨rfl, zs_same.rf⟩
set_option maxRecDepth 100000 in
set_option maxHeartbeats 4000000 in
theorem qX4_mud_r2 {l : Launch} {M : zk_M} {L : zk_L} {n : Nat} (hI : zs_I M n) {p : Nat} (hp : p < n) {x : Int32} (hx : zs_p x) {a b y : Int32} (h1 : ¬ a < 0) (h2 : ¬ b < 2) (h3 : ¬ 7 < a) (h4 : ¬ 20 < b) (hy : ¬ (0 ≤ y ∧ y < 2)) : zk_C l zc 4 muX4_mud [.ref 0, .int (nI p), .int x, .int a, .int b, .int y] M L (zq_l 4000000000000000002 (zs_ref M 2)) := by
  refine zk_ofR (ls := [some (.ref 0), some (.int (nI p)), some (.int x), some (.int a), some (.int b), some (.int y), none, none, none]) (by decide) rfl (Nat.le_of_ble_eq_true rfl) rfl ?_
  refine zk_aload_n dX4_mud_0 rfl ?_
  refine zk_getRc (q := 1) dX4_mud_1 fl_X4_12 (by decide : 0 < zc.1) rfl rfl rfl ?_
  refine zk_iload_n dX4_mud_4 rfl ?_
  refine zk_cVi (q1_hasRider_t hI hp) dX4_mud_5 mwX0_hasRider ml_X4_85 (by decide : 1 < zc.1) rfl rfl (by decide) rfl (Nat.le_of_ble_eq_true rfl) ?_
  refine zk_if_eq (tgt := 18) dX4_mud_8 (by decide) (fun h8 => absurd h8 (by decide)) (fun _ => ?_)
  refine zk_iload_n dX4_mud_11 rfl ?_
  refine zk_cSi (qX4_isPlace_t hx) dX4_mud_12 miX4_isPlace ml_X4_119 stX4_isPlace rfl (by decide) rfl (Nat.le_of_ble_eq_true rfl) ?_
  refine zk_if_ne (tgt := 24) dX4_mud_15 (by decide) (fun _ => ?_) (fun h15 => absurd h15 (by decide))
  refine zk_iload_n dX4_mud_24 rfl ?_
  refine zk_if_lt (tgt := 34) dX4_mud_25 (by decide) (fun h25 => absurd h25 (h1)) (fun _ => ?_)
  refine zk_iload dX4_mud_28 rfl ?_
  refine zk_iconst dX4_mud_30 zc_2 ?_
  refine zk_icmp_ge (tgt := 41) dX4_mud_31 (by decide) (fun _ => ?_) (fun h31 => absurd (Int32.not_lt.mp h2) h31)
  refine zk_iload_n dX4_mud_41 rfl ?_
  refine zk_bipush dX4_mud_42 zb_7 ?_
  refine zk_icmp_gt (tgt := 54) dX4_mud_44 (by decide) (fun h44 => absurd h44 (h3)) (fun _ => ?_)
  refine zk_iload dX4_mud_47 rfl ?_
  refine zk_bipush dX4_mud_49 zb_20 ?_
  refine zk_icmp_le (tgt := 61) dX4_mud_51 (by decide) (fun _ => ?_) (fun h51 => absurd (Int32.not_lt.mp h4) h51)
  refine zk_iload dX4_mud_61 rfl ?_
  refine zk_iconst dX4_mud_63 zc_2 ?_
  refine zk_cSi (qX4_isBelow_f hy) dX4_mud_64 miX4_isBelow ml_X4_149 stX4_isBelow rfl (by decide) rfl (Nat.le_of_ble_eq_true rfl) ?_
  refine zk_if_ne (tgt := 77) dX4_mud_67 (by decide) (fun h67 => absurd (rfl) h67) (fun _ => ?_)
  refine zk_aload_n dX4_mud_70 rfl ?_
  refine zk_bipush dX4_mud_71 zb_m2 ?_
  refine zk_cVl (qrl2) dX4_mud_73 mwX4_refuseLong ml_X4_231 (by decide : 0 < zc.1) rfl rfl (by decide) rfl (Nat.le_of_ble_eq_true rfl) ?_
  refine zk_lret rfl dX4_mud_76 ?_
  exact ⟨rfl, zs_same.rf⟩
set_option maxRecDepth 100000 in
set_option maxHeartbeats 4000000 in
theorem qX4_mud_t {l : Launch} {M : zk_M} {L : zk_L} {n : Nat} (hI : zs_I M n) {p : Nat} (hp : p < n) {x : Int32} (hx : zs_p x) {t : Nat} (ht : t ≤ 7) {b y : Int32} (h2 : ¬ b < 2) (h4 : ¬ 20 < b) (hy : 0 ≤ y ∧ y < 2) : zk_C l zc 4 muX4_mud [.ref 0, .int (nI p), .int x, .int (nI t), .int b, .int y] M L (zq_l (zs_frac ((zs_mdl (M 3) (M 4) b t (M (6 + p)) (zs_c0 (M (6 + p) 4)) 1).1 x.toNatClampNeg) (zs_mdl (M 3) (M 4) b t (M (6 + p)) (zs_c0 (M (6 + p) 4)) 1).2 y) M) := by
  refine zk_ofR (ls := [some (.ref 0), some (.int (nI p)), some (.int x), some (.int (nI t)), some (.int b), some (.int y), none, none, none]) (by decide) rfl (Nat.le_of_ble_eq_true rfl) rfl ?_
  have hp6 : p < 6 := Nat.lt_of_lt_of_le hp hI.1
  refine zk_aload_n dX4_mud_0 rfl ?_
  refine zk_getRc (q := 1) dX4_mud_1 fl_X4_12 (by decide : 0 < zc.1) rfl rfl rfl ?_
  refine zk_iload_n dX4_mud_4 rfl ?_
  refine zk_cVi (q1_hasRider_t hI hp) dX4_mud_5 mwX0_hasRider ml_X4_85 (by decide : 1 < zc.1) rfl rfl (by decide) rfl (Nat.le_of_ble_eq_true rfl) ?_
  refine zk_if_eq (tgt := 18) dX4_mud_8 (by decide) (fun h8 => absurd h8 (by decide)) (fun _ => ?_)
  refine zk_iload_n dX4_mud_11 rfl ?_
  refine zk_cSi (qX4_isPlace_t hx) dX4_mud_12 miX4_isPlace ml_X4_119 stX4_isPlace rfl (by decide) rfl (Nat.le_of_ble_eq_true rfl) ?_
  refine zk_if_ne (tgt := 24) dX4_mud_15 (by decide) (fun _ => ?_) (fun h15 => absurd h15 (by decide))
  refine zk_iload_n dX4_mud_24 rfl ?_
  refine zk_if_lt (tgt := 34) dX4_mud_25 (by decide) (fun h25 => absurd h25 (nI_pos (by omega))) (fun _ => ?_)
  refine zk_iload dX4_mud_28 rfl ?_
  refine zk_iconst dX4_mud_30 zc_2 ?_
  refine zk_icmp_ge (tgt := 41) dX4_mud_31 (by decide) (fun _ => ?_) (fun h31 => absurd (Int32.not_lt.mp h2) h31)
  refine zk_iload_n dX4_mud_41 rfl ?_
  refine zk_bipush dX4_mud_42 zb_7 ?_
  refine zk_icmp_gt (tgt := 54) dX4_mud_44 (by decide) (fun h44 => absurd h44 (nI_nlt (a := 7) ht (by decide))) (fun _ => ?_)
  refine zk_iload dX4_mud_47 rfl ?_
  refine zk_bipush dX4_mud_49 zb_20 ?_
  refine zk_icmp_le (tgt := 61) dX4_mud_51 (by decide) (fun _ => ?_) (fun h51 => absurd (Int32.not_lt.mp h4) h51)
  refine zk_iload dX4_mud_61 rfl ?_
  refine zk_iconst dX4_mud_63 zc_2 ?_
  refine zk_cSi (qX4_isBelow_t hy) dX4_mud_64 miX4_isBelow ml_X4_149 stX4_isBelow rfl (by decide) rfl (Nat.le_of_ble_eq_true rfl) ?_
  refine zk_if_ne (tgt := 77) dX4_mud_67 (by decide) (fun _ => ?_) (fun h67 => absurd h67 (by decide))
  refine zk_lconst (v := 1) dX4_mud_77 (by decide) ?_
  refine zk_lstore dX4_mud_78 zk_S2_6 ?_
  refine zk_aload_n dX4_mud_80 rfl ?_
  refine zk_iload_n dX4_mud_81 rfl ?_
  refine zk_callV (qX4_startChances hI hp) dX4_mud_82 mwX4_startChances ml_X4_235 (by decide : 0 < zc.1) rfl rfl (by decide) rfl (Nat.le_of_ble_eq_true rfl) (fun r1 M1 L1 h1 => ?_)
  obtain ⟨rfl, hs1, hf1, hC1⟩ := h1
  refine zk_iconst dX4_mud_85 zc_0 ?_
  refine zk_istore dX4_mud_86 zk_S_8 ?_
  refine lX4_mud ht t 0 (M (6 + p)) (zs_c0 (M (6 + p) 4)) 1 M1 L1 (by omega) hs1 hf1 (hI.2.2 p hp6) hC1 (fun M2 L2 hs2 hC2 => ?_)
  refine zk_aload_n dX4_mud_121 rfl ?_
  refine zk_getRc (q := 44) dX4_mud_122 fl_X4_56 (by decide : 0 < zc.1) rfl rfl rfl ?_
  refine zk_iload_n dX4_mud_125 rfl ?_
  refine zk_lald (j := _) dX4_mud_126 (by decide : 44 < zc.1) rfl (zs_in rfl (zs_pin hx)) rfl ?_
  rw [hC2 _ (zs_p_tn hx)]
  refine zk_lload dX4_mud_127 rfl ?_
  refine zk_iload dX4_mud_129 rfl ?_
  refine zk_cSl (qX4_partOfFraction) dX4_mud_131 miX4_partOfFraction ml_X4_241 stX4_partOfFraction rfl (by decide) rfl (Nat.le_of_ble_eq_true rfl) ?_
  refine zk_lret rfl dX4_mud_134 ?_
  exact ⟨rfl, hs2⟩
