theorem zk_cong {l : Launch} {σ : zk_Sh} {d : Nat} {μ : zk_I} {pc : Nat} {ls ls' : List (Option Value)} {st : List Value} {M : zk_M} {L : zk_L} {Q : Option Value → zk_M → zk_L → Prop} (h : ls = ls') (k : zk_R l σ d μ pc ls' st M L Q) : zk_R l σ d μ pc ls st M L Q := h ▸ k
set_option maxRecDepth 100000 in
set_option maxHeartbeats 4000000 in
theorem lX2_roadCount {l : Launch} {σ : zk_Sh} {M : zk_M} {L : zk_L} {n : Nat} (hn : zs_r σ n) {Q : Option Value → zk_M → zk_L → Prop} : ∀ (m i : Nat) (x : Int32), i + m = 8 → zk_R l σ 1 muX2_roadCount 28 [some (.ref n), some (.int (zs_for (fun i x => x + zs_bc (M (σ.2.2.2 n 0) i)) m i x)), none] [] M L Q → zk_R l σ 1 muX2_roadCount 4 [some (.ref n), some (.int x), some (.int (nI i))] [] M L Q := by
  intro m
  induction m with
  | zero =>
    intro i x hi k
    obtain rfl : i = 8 := by omega
    refine zk_iload_n dX2_roadCount_4 rfl ?_
    refine zk_bipush dX2_roadCount_5 zb_8 ?_
    refine zk_icmp_ge (tgt := 28) dX2_roadCount_7 (by decide) (fun _ => ?_) (fun h7 => absurd (nI_le (b := 8) (Nat.le_refl _) (by decide)) h7)
    refine zk_forget ?_ k
    exact ⟨Or.inr rfl, Or.inr rfl, Or.inl rfl, trivial⟩
  | succ m ih =>
    intro i x hi k
    have hi8 : i < 8 := by omega
    refine zk_iload_n dX2_roadCount_4 rfl ?_
    refine zk_bipush dX2_roadCount_5 zb_8 ?_
    refine zk_icmp_ge (tgt := 28) dX2_roadCount_7 (by decide) (fun h7 => absurd h7 (nI_ge (b := 8) hi8 (by decide))) (fun _ => ?_)
    refine zk_iload_n dX2_roadCount_10 rfl ?_
    refine zk_aload_n dX2_roadCount_11 rfl ?_
    refine zk_getR dX2_roadCount_12 fl_X2_9 hn.1 hn.2.1 rfl ?_
    refine zk_iload_n dX2_roadCount_15 rfl ?_
    refine zk_iald (j := i) dX2_roadCount_16 hn.2.2.1.1 hn.2.2.1.2.1 (zs_in hn.2.2.1.2.2 (vp_in_nI hi8 (by decide))) (nI_clamp (Nat.lt_trans hi8 (by decide))) ?_
    refine zk_cSi (qJ6_bitCount_0f7a4) dX2_roadCount_17 miJ6_bitCount_0f7a4 ml_X2_31 stJ6_bitCount_0f7a4 rfl (by decide) rfl (Nat.le_of_ble_eq_true rfl) ?_
    refine zk_iadd dX2_roadCount_20 ?_
    refine zk_istore_n dX2_roadCount_21 zk_S_1 ?_
    refine zk_iinc dX2_roadCount_22 zc_1 rfl zk_S_2 ?_
    refine zk_goto (tgt := 4) dX2_roadCount_25 (by decide) ?_
    rw [← nI_succ]
    refine ih (i + 1) _ (by omega) ?_
    exact zk_cong (congrArg (fun v : Int32 => ([some (Value.ref n), some (Value.int v), none] : List (Option Value))) (congrArg (zs_for (fun i x => x + zs_bc (M (σ.2.2.2 n 0) i)) m (i + 1)) (by first | exact (rfl)))) k
set_option maxRecDepth 100000 in
set_option maxHeartbeats 4000000 in
theorem qX2_roadCount {l : Launch} {σ : zk_Sh} {M : zk_M} {L : zk_L} {n : Nat} (hn : zs_r σ n) : zk_C l σ 1 muX2_roadCount [.ref n] M L (zk_Ei (zs_for (fun i x => x + zs_bc (M (σ.2.2.2 n 0) i)) 8 0 0 / 2) M L) := by
  refine zk_ofR (ls := [some (.ref n), none, none]) (by decide) rfl (Nat.le_of_ble_eq_true rfl) rfl ?_
  refine zk_iconst dX2_roadCount_0 zc_0 ?_
  refine zk_istore_n dX2_roadCount_1 zk_S_1 ?_
  refine zk_iconst dX2_roadCount_2 zc_0 ?_
  refine zk_istore_n dX2_roadCount_3 zk_S_2 ?_
  refine lX2_roadCount hn 8 0 0 (by omega) ?_
  refine zk_iload_n dX2_roadCount_28 rfl ?_
  refine zk_iconst dX2_roadCount_29 zc_2 ?_
  refine zk_idiv dX2_roadCount_30 (by decide) ?_
  refine zk_iret rfl dX2_roadCount_31 ?_
  exact ⟨rfl, rfl, rfl⟩
def zs_mx (x y : Int32) : Int32 := if x < y then y else x
set_option maxRecDepth 100000 in
set_option maxHeartbeats 4000000 in
theorem lX2_mostSteps {l : Launch} {σ : zk_Sh} {M : zk_M} {L : zk_L} {n : Nat} (hn : zs_r σ n) {Q : Option Value → zk_M → zk_L → Prop} : ∀ (m i : Nat) (x : Int32), i + m = 64 → zk_R l σ 1 muX2_mostSteps 38 [some (.ref n), some (.int (zs_for (fun i x => if M (σ.2.2.2 n 1) i = 9 then x else zs_mx x (M (σ.2.2.2 n 1) i)) m i x)), none] [] M L Q → zk_R l σ 1 muX2_mostSteps 4 [some (.ref n), some (.int x), some (.int (nI i))] [] M L Q := by
  intro m
  induction m with
  | zero =>
    intro i x hi k
    obtain rfl : i = 64 := by omega
    refine zk_iload_n dX2_mostSteps_4 rfl ?_
    refine zk_bipush dX2_mostSteps_5 zb_64 ?_
    refine zk_icmp_ge (tgt := 38) dX2_mostSteps_7 (by decide) (fun _ => ?_) (fun h7 => absurd (nI_le (b := 64) (Nat.le_refl _) (by decide)) h7)
    refine zk_forget ?_ k
    exact ⟨Or.inr rfl, Or.inr rfl, Or.inl rfl, trivial⟩
  | succ m ih =>
    intro i x hi k
    have hi8 : i < 64 := by omega
    refine zk_iload_n dX2_mostSteps_4 rfl ?_
    refine zk_bipush dX2_mostSteps_5 zb_64 ?_
    refine zk_icmp_ge (tgt := 38) dX2_mostSteps_7 (by decide) (fun h7 => absurd h7 (nI_ge (b := 64) hi8 (by decide))) (fun _ => ?_)
    refine zk_aload_n dX2_mostSteps_10 rfl ?_
    refine zk_getR dX2_mostSteps_11 fl_X2_15 hn.1 hn.2.1 rfl ?_
    refine zk_iload_n dX2_mostSteps_14 rfl ?_
    refine zk_iald (j := i) dX2_mostSteps_15 hn.2.2.2.1.1 hn.2.2.2.1.2.1 (zs_in hn.2.2.2.1.2.2 (vp_in_nI hi8 (by decide))) (nI_clamp (Nat.lt_trans hi8 (by decide))) ?_
    refine zk_bipush dX2_mostSteps_16 zb_9 ?_
    refine zk_icmp_eq (tgt := 32) dX2_mostSteps_18 (by decide) (fun h18 => ?_) (fun h18 => ?_)
    · refine zk_iinc dX2_mostSteps_32 zc_1 rfl zk_S_2 ?_
      refine zk_goto (tgt := 4) dX2_mostSteps_35 (by decide) ?_
      rw [← nI_succ]
      refine ih (i + 1) _ (by omega) ?_
      exact zk_cong (congrArg (fun v : Int32 => ([some (Value.ref n), some (Value.int v), none] : List (Option Value))) (congrArg (zs_for (fun i x => if M (σ.2.2.2 n 1) i = 9 then x else zs_mx x (M (σ.2.2.2 n 1) i)) m (i + 1)) (by first | exact ((if_pos h18).symm) | exact ((if_neg h18).symm)))) k
    · refine zk_iload_n dX2_mostSteps_21 rfl ?_
      refine zk_aload_n dX2_mostSteps_22 rfl ?_
      refine zk_getR dX2_mostSteps_23 fl_X2_15 hn.1 hn.2.1 rfl ?_
      refine zk_iload_n dX2_mostSteps_26 rfl ?_
      refine zk_iald (j := i) dX2_mostSteps_27 hn.2.2.2.1.1 hn.2.2.2.1.2.1 (zs_in hn.2.2.2.1.2.2 (vp_in_nI hi8 (by decide))) (nI_clamp (Nat.lt_trans hi8 (by decide))) ?_
      refine zk_mmax dX2_mostSteps_28 ml_X2_37 st_mmax in_J9 co_mmax (by decide) (Nat.le_of_ble_eq_true rfl) ?_
      refine zk_istore_n dX2_mostSteps_31 zk_S_1 ?_
      refine zk_iinc dX2_mostSteps_32 zc_1 rfl zk_S_2 ?_
      refine zk_goto (tgt := 4) dX2_mostSteps_35 (by decide) ?_
      rw [← nI_succ]
      refine ih (i + 1) _ (by omega) ?_
      exact zk_cong (congrArg (fun v : Int32 => ([some (Value.ref n), some (Value.int v), none] : List (Option Value))) (congrArg (zs_for (fun i x => if M (σ.2.2.2 n 1) i = 9 then x else zs_mx x (M (σ.2.2.2 n 1) i)) m (i + 1)) (by first | exact ((if_pos h18).symm) | exact ((if_neg h18).symm)))) k
set_option maxRecDepth 100000 in
set_option maxHeartbeats 4000000 in
theorem qX2_mostSteps {l : Launch} {σ : zk_Sh} {M : zk_M} {L : zk_L} {n : Nat} (hn : zs_r σ n) : zk_C l σ 1 muX2_mostSteps [.ref n] M L (zk_Ei (zs_for (fun i x => if M (σ.2.2.2 n 1) i = 9 then x else zs_mx x (M (σ.2.2.2 n 1) i)) 64 0 0) M L) := by
  refine zk_ofR (ls := [some (.ref n), none, none]) (by decide) rfl (Nat.le_of_ble_eq_true rfl) rfl ?_
  refine zk_iconst dX2_mostSteps_0 zc_0 ?_
  refine zk_istore_n dX2_mostSteps_1 zk_S_1 ?_
  refine zk_iconst dX2_mostSteps_2 zc_0 ?_
  refine zk_istore_n dX2_mostSteps_3 zk_S_2 ?_
  refine lX2_mostSteps hn 64 0 0 (by omega) ?_
  refine zk_iload_n dX2_mostSteps_38 rfl ?_
  refine zk_iret rfl dX2_mostSteps_39 ?_
  exact ⟨rfl, rfl, rfl⟩
set_option maxRecDepth 100000 in
set_option maxHeartbeats 4000000 in
theorem lX2_farBits {l : Launch} {σ : zk_Sh} {M : zk_M} {L : zk_L} {n : Nat} (hn : zs_r σ n) {Q : Option Value → zk_M → zk_L → Prop} : ∀ (m i : Nat) (x : Int32), i + m = 8 → zk_R l σ 1 muX2_farBits 33 [some (.ref n), some (.int (zs_for (fun i x => if M (σ.2.2.2 n 1) (0 * 8 + i) = 9 then x ||| 1 <<< (nI i &&& 31) else x) m i x)), none] [] M L Q → zk_R l σ 1 muX2_farBits 4 [some (.ref n), some (.int x), some (.int (nI i))] [] M L Q := by
  intro m
  induction m with
  | zero =>
    intro i x hi k
    obtain rfl : i = 8 := by omega
    refine zk_iload_n dX2_farBits_4 rfl ?_
    refine zk_bipush dX2_farBits_5 zb_8 ?_
    refine zk_icmp_ge (tgt := 33) dX2_farBits_7 (by decide) (fun _ => ?_) (fun h7 => absurd (nI_le (b := 8) (Nat.le_refl _) (by decide)) h7)
    refine zk_forget ?_ k
    exact ⟨Or.inr rfl, Or.inr rfl, Or.inl rfl, trivial⟩
  | succ m ih =>
    intro i x hi k
    have hi8 : i < 8 := by omega
    refine zk_iload_n dX2_farBits_4 rfl ?_
    refine zk_bipush dX2_farBits_5 zb_8 ?_
    refine zk_icmp_ge (tgt := 33) dX2_farBits_7 (by decide) (fun h7 => absurd h7 (nI_ge (b := 8) hi8 (by decide))) (fun _ => ?_)
    refine zk_aload_n dX2_farBits_10 rfl ?_
    refine zk_iconst dX2_farBits_11 zc_0 ?_
    refine zk_iload_n dX2_farBits_12 rfl ?_
    refine zk_cVi (qX2_stepsBetween hn (show zs_p 0 by decide) (zs_p_nI hi8)) dX2_farBits_13 mwX2_stepsBetween ml_X2_43 hn.1 hn.2.1 rfl (by decide) rfl (Nat.le_of_ble_eq_true rfl) ?_
    rw [show ((0 : Int32) * 8 + nI i).toNatClampNeg = 0 * 8 + i from zs_ixj (a := 0) (by decide) hi8]
    refine zk_bipush dX2_farBits_16 zb_9 ?_
    refine zk_icmp_ne (tgt := 27) dX2_farBits_18 (by decide) (fun h18 => ?_) (fun h18 => ?_)
    · refine zk_iinc dX2_farBits_27 zc_1 rfl zk_S_2 ?_
      refine zk_goto (tgt := 4) dX2_farBits_30 (by decide) ?_
      rw [← nI_succ]
      refine ih (i + 1) _ (by omega) ?_
      exact zk_cong (congrArg (fun v : Int32 => ([some (Value.ref n), some (Value.int v), none] : List (Option Value))) (congrArg (zs_for (fun i x => if M (σ.2.2.2 n 1) (0 * 8 + i) = 9 then x ||| 1 <<< (nI i &&& 31) else x) m (i + 1)) (by first | exact ((if_pos h18).symm) | exact ((if_neg h18).symm)))) k
    · refine zk_iload_n dX2_farBits_21 rfl ?_
      refine zk_iconst dX2_farBits_22 zc_1 ?_
      refine zk_iload_n dX2_farBits_23 rfl ?_
      refine zk_ishl dX2_farBits_24 ?_
      refine zk_ior dX2_farBits_25 ?_
      refine zk_istore_n dX2_farBits_26 zk_S_1 ?_
      refine zk_iinc dX2_farBits_27 zc_1 rfl zk_S_2 ?_
      refine zk_goto (tgt := 4) dX2_farBits_30 (by decide) ?_
      rw [← nI_succ]
      refine ih (i + 1) _ (by omega) ?_
      exact zk_cong (congrArg (fun v : Int32 => ([some (Value.ref n), some (Value.int v), none] : List (Option Value))) (congrArg (zs_for (fun i x => if M (σ.2.2.2 n 1) (0 * 8 + i) = 9 then x ||| 1 <<< (nI i &&& 31) else x) m (i + 1)) (by first | exact ((if_pos h18).symm) | exact ((if_neg h18).symm)))) k
set_option maxRecDepth 100000 in
set_option maxHeartbeats 4000000 in
theorem qX2_farBits {l : Launch} {σ : zk_Sh} {M : zk_M} {L : zk_L} {n : Nat} (hn : zs_r σ n) : zk_C l σ 1 muX2_farBits [.ref n] M L (zk_Ei (zs_for (fun i x => if M (σ.2.2.2 n 1) (0 * 8 + i) = 9 then x ||| 1 <<< (nI i &&& 31) else x) 8 0 0) M L) := by
  refine zk_ofR (ls := [some (.ref n), none, none]) (by decide) rfl (Nat.le_of_ble_eq_true rfl) rfl ?_
  refine zk_iconst dX2_farBits_0 zc_0 ?_
  refine zk_istore_n dX2_farBits_1 zk_S_1 ?_
  refine zk_iconst dX2_farBits_2 zc_0 ?_
  refine zk_istore_n dX2_farBits_3 zk_S_2 ?_
  refine lX2_farBits hn 8 0 0 (by omega) ?_
  refine zk_iload_n dX2_farBits_33 rfl ?_
  refine zk_iret rfl dX2_farBits_34 ?_
  exact ⟨rfl, rfl, rfl⟩
set_option maxRecDepth 100000 in
set_option maxHeartbeats 4000000 in
theorem lX0_arrivedBits {l : Launch} {σ : zk_Sh} {M : zk_M} {L : zk_L} {c : Nat} (hc : zs_c σ c) {n : Nat} (hn : n ≤ 6) (hcnt : M c 2 = nI n) {Q : Option Value → zk_M → zk_L → Prop} : ∀ (m i : Nat) (x : Int32), i + m = n → zk_R l σ 2 muX0_arrivedBits 36 [some (.ref c), some (.int (zs_for (fun i x => if M (σ.2.2.2 (σ.2.2.2 c 1) i) 4 = M (σ.2.2.2 (σ.2.2.2 c 1) i) 3 then x ||| 1 <<< (nI i &&& 31) else x) m i x)), none] [] M L Q → zk_R l σ 2 muX0_arrivedBits 4 [some (.ref c), some (.int x), some (.int (nI i))] [] M L Q := by
  intro m
  induction m with
  | zero =>
    intro i x hi k
    obtain rfl : i = n := by omega
    refine zk_iload_n dX0_arrivedBits_4 rfl ?_
    refine zk_aload_n dX0_arrivedBits_5 rfl ?_
    refine zk_getI dX0_arrivedBits_6 fl_X0_32 hc.1 hc.2.1 rfl ?_
    rw [hcnt]
    refine zk_icmp_ge (tgt := 36) dX0_arrivedBits_9 (by decide) (fun _ => ?_) (fun h9 => absurd (nI_le (Nat.le_refl _) (by omega)) h9)
    refine zk_forget ?_ k
    exact ⟨Or.inr rfl, Or.inr rfl, Or.inl rfl, trivial⟩
  | succ m ih =>
    intro i x hi k
    have hi8 : i < n := by omega
    have hi6 : i < 6 := by omega
    refine zk_iload_n dX0_arrivedBits_4 rfl ?_
    refine zk_aload_n dX0_arrivedBits_5 rfl ?_
    refine zk_getI dX0_arrivedBits_6 fl_X0_32 hc.1 hc.2.1 rfl ?_
    rw [hcnt]
    refine zk_icmp_ge (tgt := 36) dX0_arrivedBits_9 (by decide) (fun h9 => absurd h9 (nI_ge hi8 (by omega))) (fun _ => ?_)
    refine zk_aload_n dX0_arrivedBits_12 rfl ?_
    refine zk_getR dX0_arrivedBits_13 fl_X0_20 hc.1 hc.2.1 rfl ?_
    refine zk_iload_n dX0_arrivedBits_16 rfl ?_
    refine zk_aald (j := i) (q := (σ.2.2.2 (σ.2.2.2 c 1) i)) dX0_arrivedBits_17 hc.2.2.2.1.1 hc.2.2.2.1.2.1 (zs_in hc.2.2.2.1.2.2 (vp_in_nI hi6 (by decide))) (nI_clamp (by omega)) rfl ?_
    refine zk_cVi (qX1_isWhereHeSays (hc.2.2.2.2.1 i hi6)) dX0_arrivedBits_18 mwX1_isWhereHeSays ml_X0_71 (hc.2.2.2.2.1 i hi6).1 (hc.2.2.2.2.1 i hi6).2 rfl (by decide) rfl (Nat.le_of_ble_eq_true rfl) ?_
    refine zk_if_eq (tgt := 30) dX0_arrivedBits_21 (by decide) (fun h21 => ?_) (fun h21 => ?_)
    · have hq := zs_if0 h21
      refine zk_iinc dX0_arrivedBits_30 zc_1 rfl zk_S_2 ?_
      refine zk_goto (tgt := 4) dX0_arrivedBits_33 (by decide) ?_
      rw [← nI_succ]
      refine ih (i + 1) _ (by omega) ?_
      exact zk_cong (congrArg (fun v : Int32 => ([some (Value.ref c), some (Value.int v), none] : List (Option Value))) (congrArg (zs_for (fun i x => if M (σ.2.2.2 (σ.2.2.2 c 1) i) 4 = M (σ.2.2.2 (σ.2.2.2 c 1) i) 3 then x ||| 1 <<< (nI i &&& 31) else x) m (i + 1)) (by first | exact ((if_pos hq).symm) | exact ((if_neg hq).symm)))) k
    · have hq := zs_if1 h21
      refine zk_iload_n dX0_arrivedBits_24 rfl ?_
      refine zk_iconst dX0_arrivedBits_25 zc_1 ?_
      refine zk_iload_n dX0_arrivedBits_26 rfl ?_
      refine zk_ishl dX0_arrivedBits_27 ?_
      refine zk_ior dX0_arrivedBits_28 ?_
      refine zk_istore_n dX0_arrivedBits_29 zk_S_1 ?_
      refine zk_iinc dX0_arrivedBits_30 zc_1 rfl zk_S_2 ?_
      refine zk_goto (tgt := 4) dX0_arrivedBits_33 (by decide) ?_
      rw [← nI_succ]
      refine ih (i + 1) _ (by omega) ?_
      exact zk_cong (congrArg (fun v : Int32 => ([some (Value.ref c), some (Value.int v), none] : List (Option Value))) (congrArg (zs_for (fun i x => if M (σ.2.2.2 (σ.2.2.2 c 1) i) 4 = M (σ.2.2.2 (σ.2.2.2 c 1) i) 3 then x ||| 1 <<< (nI i &&& 31) else x) m (i + 1)) (by first | exact ((if_pos hq).symm) | exact ((if_neg hq).symm)))) k
set_option maxRecDepth 100000 in
set_option maxHeartbeats 4000000 in
theorem qX0_arrivedBits {l : Launch} {σ : zk_Sh} {M : zk_M} {L : zk_L} {c : Nat} (hc : zs_c σ c) {n : Nat} (hn : n ≤ 6) (hcnt : M c 2 = nI n) : zk_C l σ 2 muX0_arrivedBits [.ref c] M L (zk_Ei (zs_for (fun i x => if M (σ.2.2.2 (σ.2.2.2 c 1) i) 4 = M (σ.2.2.2 (σ.2.2.2 c 1) i) 3 then x ||| 1 <<< (nI i &&& 31) else x) n 0 0) M L) := by
  refine zk_ofR (ls := [some (.ref c), none, none]) (by decide) rfl (Nat.le_of_ble_eq_true rfl) rfl ?_
  refine zk_iconst dX0_arrivedBits_0 zc_0 ?_
  refine zk_istore_n dX0_arrivedBits_1 zk_S_1 ?_
  refine zk_iconst dX0_arrivedBits_2 zc_0 ?_
  refine zk_istore_n dX0_arrivedBits_3 zk_S_2 ?_
  refine lX0_arrivedBits hc hn hcnt n 0 0 (by omega) ?_
  refine zk_iload_n dX0_arrivedBits_36 rfl ?_
  refine zk_iret rfl dX0_arrivedBits_37 ?_
  exact ⟨rfl, rfl, rfl⟩
set_option maxRecDepth 100000 in
set_option maxHeartbeats 4000000 in
theorem lX0_honestBits {l : Launch} {σ : zk_Sh} {M : zk_M} {L : zk_L} {c : Nat} (hc : zs_c σ c) {n : Nat} (hn : n ≤ 6) (hcnt : M c 2 = nI n) {Q : Option Value → zk_M → zk_L → Prop} : ∀ (m i : Nat) (x : Int32), i + m = n → zk_R l σ 2 muX0_honestBits 45 [some (.ref c), some (.int (zs_for (fun i x => if M (σ.2.2.2 (σ.2.2.2 c 1) i) 2 = M (σ.2.2.2 (σ.2.2.2 c 1) i) 3 then x ||| 1 <<< (nI i &&& 31) else x) m i x)), none] [] M L Q → zk_R l σ 2 muX0_honestBits 4 [some (.ref c), some (.int x), some (.int (nI i))] [] M L Q := by
  intro m
  induction m with
  | zero =>
    intro i x hi k
    obtain rfl : i = n := by omega
    refine zk_iload_n dX0_honestBits_4 rfl ?_
    refine zk_aload_n dX0_honestBits_5 rfl ?_
    refine zk_getI dX0_honestBits_6 fl_X0_32 hc.1 hc.2.1 rfl ?_
    rw [hcnt]
    refine zk_icmp_ge (tgt := 45) dX0_honestBits_9 (by decide) (fun _ => ?_) (fun h9 => absurd (nI_le (Nat.le_refl _) (by omega)) h9)
    refine zk_forget ?_ k
    exact ⟨Or.inr rfl, Or.inr rfl, Or.inl rfl, trivial⟩
  | succ m ih =>
    intro i x hi k
    have hi8 : i < n := by omega
    have hi6 : i < 6 := by omega
    refine zk_iload_n dX0_honestBits_4 rfl ?_
    refine zk_aload_n dX0_honestBits_5 rfl ?_
    refine zk_getI dX0_honestBits_6 fl_X0_32 hc.1 hc.2.1 rfl ?_
    rw [hcnt]
    refine zk_icmp_ge (tgt := 45) dX0_honestBits_9 (by decide) (fun h9 => absurd h9 (nI_ge hi8 (by omega))) (fun _ => ?_)
    refine zk_aload_n dX0_honestBits_12 rfl ?_
    refine zk_getR dX0_honestBits_13 fl_X0_20 hc.1 hc.2.1 rfl ?_
    refine zk_iload_n dX0_honestBits_16 rfl ?_
    refine zk_aald (j := i) (q := (σ.2.2.2 (σ.2.2.2 c 1) i)) dX0_honestBits_17 hc.2.2.2.1.1 hc.2.2.2.1.2.1 (zs_in hc.2.2.2.1.2.2 (vp_in_nI hi6 (by decide))) (nI_clamp (by omega)) rfl ?_
    refine zk_getI dX0_honestBits_18 fl_X0_53 (hc.2.2.2.2.1 i hi6).1 (hc.2.2.2.2.1 i hi6).2 rfl ?_
    refine zk_aload_n dX0_honestBits_21 rfl ?_
    refine zk_getR dX0_honestBits_22 fl_X0_20 hc.1 hc.2.1 rfl ?_
    refine zk_iload_n dX0_honestBits_25 rfl ?_
    refine zk_aald (j := i) (q := (σ.2.2.2 (σ.2.2.2 c 1) i)) dX0_honestBits_26 hc.2.2.2.1.1 hc.2.2.2.1.2.1 (zs_in hc.2.2.2.1.2.2 (vp_in_nI hi6 (by decide))) (nI_clamp (by omega)) rfl ?_
    refine zk_getI dX0_honestBits_27 fl_X0_56 (hc.2.2.2.2.1 i hi6).1 (hc.2.2.2.2.1 i hi6).2 rfl ?_
    refine zk_icmp_ne (tgt := 39) dX0_honestBits_30 (by decide) (fun h30 => ?_) (fun h30 => ?_)
    · refine zk_iinc dX0_honestBits_39 zc_1 rfl zk_S_2 ?_
      refine zk_goto (tgt := 4) dX0_honestBits_42 (by decide) ?_
      rw [← nI_succ]
      refine ih (i + 1) _ (by omega) ?_
      exact zk_cong (congrArg (fun v : Int32 => ([some (Value.ref c), some (Value.int v), none] : List (Option Value))) (congrArg (zs_for (fun i x => if M (σ.2.2.2 (σ.2.2.2 c 1) i) 2 = M (σ.2.2.2 (σ.2.2.2 c 1) i) 3 then x ||| 1 <<< (nI i &&& 31) else x) m (i + 1)) (by first | exact ((if_pos h30).symm) | exact ((if_neg h30).symm)))) k
    · refine zk_iload_n dX0_honestBits_33 rfl ?_
      refine zk_iconst dX0_honestBits_34 zc_1 ?_
      refine zk_iload_n dX0_honestBits_35 rfl ?_
      refine zk_ishl dX0_honestBits_36 ?_
      refine zk_ior dX0_honestBits_37 ?_
      refine zk_istore_n dX0_honestBits_38 zk_S_1 ?_
      refine zk_iinc dX0_honestBits_39 zc_1 rfl zk_S_2 ?_
      refine zk_goto (tgt := 4) dX0_honestBits_42 (by decide) ?_
      rw [← nI_succ]
      refine ih (i + 1) _ (by omega) ?_
      exact zk_cong (congrArg (fun v : Int32 => ([some (Value.ref c), some (Value.int v), none] : List (Option Value))) (congrArg (zs_for (fun i x => if M (σ.2.2.2 (σ.2.2.2 c 1) i) 2 = M (σ.2.2.2 (σ.2.2.2 c 1) i) 3 then x ||| 1 <<< (nI i &&& 31) else x) m (i + 1)) (by first | exact ((if_pos h30).symm) | exact ((if_neg h30).symm)))) k
set_option maxRecDepth 100000 in
set_option maxHeartbeats 4000000 in
theorem qX0_honestBits {l : Launch} {σ : zk_Sh} {M : zk_M} {L : zk_L} {c : Nat} (hc : zs_c σ c) {n : Nat} (hn : n ≤ 6) (hcnt : M c 2 = nI n) : zk_C l σ 2 muX0_honestBits [.ref c] M L (zk_Ei (zs_for (fun i x => if M (σ.2.2.2 (σ.2.2.2 c 1) i) 2 = M (σ.2.2.2 (σ.2.2.2 c 1) i) 3 then x ||| 1 <<< (nI i &&& 31) else x) n 0 0) M L) := by
  refine zk_ofR (ls := [some (.ref c), none, none]) (by decide) rfl (Nat.le_of_ble_eq_true rfl) rfl ?_
  refine zk_iconst dX0_honestBits_0 zc_0 ?_
  refine zk_istore_n dX0_honestBits_1 zk_S_1 ?_
  refine zk_iconst dX0_honestBits_2 zc_0 ?_
  refine zk_istore_n dX0_honestBits_3 zk_S_2 ?_
  refine lX0_honestBits hc hn hcnt n 0 0 (by omega) ?_
  refine zk_iload_n dX0_honestBits_45 rfl ?_
  refine zk_iret rfl dX0_honestBits_46 ?_
  exact ⟨rfl, rfl, rfl⟩
set_option maxRecDepth 100000 in
set_option maxHeartbeats 4000000 in
theorem lX0_lostBits {l : Launch} {σ : zk_Sh} {M : zk_M} {L : zk_L} {c : Nat} (hc : zs_c σ c) {n : Nat} (hn : n ≤ 6) (hcnt : M c 2 = nI n) (ok : ∀ q, q < 6 → zs_ok (M (σ.2.2.2 (σ.2.2.2 c 1) q))) {Q : Option Value → zk_M → zk_L → Prop} : ∀ (m i : Nat) (x : Int32), i + m = n → zk_R l σ 2 muX0_lostBits 42 [some (.ref c), some (.int (zs_for (fun i x => if M (σ.2.2.2 (σ.2.2.2 c 0) 1) (M (σ.2.2.2 (σ.2.2.2 c 1) i) 4 * 8 + M (σ.2.2.2 (σ.2.2.2 c 1) i) 3).toNatClampNeg = 9 then x ||| 1 <<< (nI i &&& 31) else x) m i x)), none] [] M L Q → zk_R l σ 2 muX0_lostBits 4 [some (.ref c), some (.int x), some (.int (nI i))] [] M L Q := by
  intro m
  induction m with
  | zero =>
    intro i x hi k
    obtain rfl : i = n := by omega
    refine zk_iload_n dX0_lostBits_4 rfl ?_
    refine zk_aload_n dX0_lostBits_5 rfl ?_
    refine zk_getI dX0_lostBits_6 fl_X0_32 hc.1 hc.2.1 rfl ?_
    rw [hcnt]
    refine zk_icmp_ge (tgt := 42) dX0_lostBits_9 (by decide) (fun _ => ?_) (fun h9 => absurd (nI_le (Nat.le_refl _) (by omega)) h9)
    refine zk_forget ?_ k
    exact ⟨Or.inr rfl, Or.inr rfl, Or.inl rfl, trivial⟩
  | succ m ih =>
    intro i x hi k
    have hi8 : i < n := by omega
    have hi6 : i < 6 := by omega
    refine zk_iload_n dX0_lostBits_4 rfl ?_
    refine zk_aload_n dX0_lostBits_5 rfl ?_
    refine zk_getI dX0_lostBits_6 fl_X0_32 hc.1 hc.2.1 rfl ?_
    rw [hcnt]
    refine zk_icmp_ge (tgt := 42) dX0_lostBits_9 (by decide) (fun h9 => absurd h9 (nI_ge hi8 (by omega))) (fun _ => ?_)
    refine zk_aload_n dX0_lostBits_12 rfl ?_
    refine zk_getR dX0_lostBits_13 fl_X0_20 hc.1 hc.2.1 rfl ?_
    refine zk_iload_n dX0_lostBits_16 rfl ?_
    refine zk_aald (j := i) (q := (σ.2.2.2 (σ.2.2.2 c 1) i)) dX0_lostBits_17 hc.2.2.2.1.1 hc.2.2.2.1.2.1 (zs_in hc.2.2.2.1.2.2 (vp_in_nI hi6 (by decide))) (nI_clamp (by omega)) rfl ?_
    refine zk_aload_n dX0_lostBits_18 rfl ?_
    refine zk_getR dX0_lostBits_19 fl_X0_12 hc.1 hc.2.1 rfl ?_
    refine zk_cVi (qX1_stepsToGo (hc.2.2.2.2.1 i hi6) hc.2.2.1 (ok i hi6).2.2 (ok i hi6).2.1) dX0_lostBits_22 mwX1_stepsToGo ml_X0_75 (hc.2.2.2.2.1 i hi6).1 (hc.2.2.2.2.1 i hi6).2 rfl (by decide) rfl (Nat.le_of_ble_eq_true rfl) ?_
    refine zk_bipush dX0_lostBits_25 zb_9 ?_
    refine zk_icmp_ne (tgt := 36) dX0_lostBits_27 (by decide) (fun h27 => ?_) (fun h27 => ?_)
    · refine zk_iinc dX0_lostBits_36 zc_1 rfl zk_S_2 ?_
      refine zk_goto (tgt := 4) dX0_lostBits_39 (by decide) ?_
      rw [← nI_succ]
      refine ih (i + 1) _ (by omega) ?_
      exact zk_cong (congrArg (fun v : Int32 => ([some (Value.ref c), some (Value.int v), none] : List (Option Value))) (congrArg (zs_for (fun i x => if M (σ.2.2.2 (σ.2.2.2 c 0) 1) (M (σ.2.2.2 (σ.2.2.2 c 1) i) 4 * 8 + M (σ.2.2.2 (σ.2.2.2 c 1) i) 3).toNatClampNeg = 9 then x ||| 1 <<< (nI i &&& 31) else x) m (i + 1)) (by first | exact ((if_pos h27).symm) | exact ((if_neg h27).symm)))) k
    · refine zk_iload_n dX0_lostBits_30 rfl ?_
      refine zk_iconst dX0_lostBits_31 zc_1 ?_
      refine zk_iload_n dX0_lostBits_32 rfl ?_
      refine zk_ishl dX0_lostBits_33 ?_
      refine zk_ior dX0_lostBits_34 ?_
      refine zk_istore_n dX0_lostBits_35 zk_S_1 ?_
      refine zk_iinc dX0_lostBits_36 zc_1 rfl zk_S_2 ?_
      refine zk_goto (tgt := 4) dX0_lostBits_39 (by decide) ?_
      rw [← nI_succ]
      refine ih (i + 1) _ (by omega) ?_
      exact zk_cong (congrArg (fun v : Int32 => ([some (Value.ref c), some (Value.int v), none] : List (Option Value))) (congrArg (zs_for (fun i x => if M (σ.2.2.2 (σ.2.2.2 c 0) 1) (M (σ.2.2.2 (σ.2.2.2 c 1) i) 4 * 8 + M (σ.2.2.2 (σ.2.2.2 c 1) i) 3).toNatClampNeg = 9 then x ||| 1 <<< (nI i &&& 31) else x) m (i + 1)) (by first | exact ((if_pos h27).symm) | exact ((if_neg h27).symm)))) k
set_option maxRecDepth 100000 in
set_option maxHeartbeats 4000000 in
theorem qX0_lostBits {l : Launch} {σ : zk_Sh} {M : zk_M} {L : zk_L} {c : Nat} (hc : zs_c σ c) {n : Nat} (hn : n ≤ 6) (hcnt : M c 2 = nI n) (ok : ∀ q, q < 6 → zs_ok (M (σ.2.2.2 (σ.2.2.2 c 1) q))) : zk_C l σ 2 muX0_lostBits [.ref c] M L (zk_Ei (zs_for (fun i x => if M (σ.2.2.2 (σ.2.2.2 c 0) 1) (M (σ.2.2.2 (σ.2.2.2 c 1) i) 4 * 8 + M (σ.2.2.2 (σ.2.2.2 c 1) i) 3).toNatClampNeg = 9 then x ||| 1 <<< (nI i &&& 31) else x) n 0 0) M L) := by
  refine zk_ofR (ls := [some (.ref c), none, none]) (by decide) rfl (Nat.le_of_ble_eq_true rfl) rfl ?_
  refine zk_iconst dX0_lostBits_0 zc_0 ?_
  refine zk_istore_n dX0_lostBits_1 zk_S_1 ?_
  refine zk_iconst dX0_lostBits_2 zc_0 ?_
  refine zk_istore_n dX0_lostBits_3 zk_S_2 ?_
  refine lX0_lostBits hc hn hcnt ok n 0 0 (by omega) ?_
  refine zk_iload_n dX0_lostBits_42 rfl ?_
  refine zk_iret rfl dX0_lostBits_43 ?_
  exact ⟨rfl, rfl, rfl⟩
set_option maxRecDepth 100000 in
set_option maxHeartbeats 4000000 in
theorem lX0_allShoes {l : Launch} {σ : zk_Sh} {M : zk_M} {L : zk_L} {c : Nat} (hc : zs_c σ c) {n : Nat} (hn : n ≤ 6) (hcnt : M c 2 = nI n) {Q : Option Value → zk_M → zk_L → Prop} : ∀ (m i : Nat) (x : Int32), i + m = n → zk_R l σ 2 muX0_allShoes 30 [some (.ref c), some (.int (zs_for (fun i x => x + M (σ.2.2.2 (σ.2.2.2 c 1) i) 5) m i x)), none] [] M L Q → zk_R l σ 2 muX0_allShoes 4 [some (.ref c), some (.int x), some (.int (nI i))] [] M L Q := by
  intro m
  induction m with
  | zero =>
    intro i x hi k
    obtain rfl : i = n := by omega
    refine zk_iload_n dX0_allShoes_4 rfl ?_
    refine zk_aload_n dX0_allShoes_5 rfl ?_
    refine zk_getI dX0_allShoes_6 fl_X0_32 hc.1 hc.2.1 rfl ?_
    rw [hcnt]
    refine zk_icmp_ge (tgt := 30) dX0_allShoes_9 (by decide) (fun _ => ?_) (fun h9 => absurd (nI_le (Nat.le_refl _) (by omega)) h9)
    refine zk_forget ?_ k
    exact ⟨Or.inr rfl, Or.inr rfl, Or.inl rfl, trivial⟩
  | succ m ih =>
    intro i x hi k
    have hi8 : i < n := by omega
    have hi6 : i < 6 := by omega
    refine zk_iload_n dX0_allShoes_4 rfl ?_
    refine zk_aload_n dX0_allShoes_5 rfl ?_
    refine zk_getI dX0_allShoes_6 fl_X0_32 hc.1 hc.2.1 rfl ?_
    rw [hcnt]
    refine zk_icmp_ge (tgt := 30) dX0_allShoes_9 (by decide) (fun h9 => absurd h9 (nI_ge hi8 (by omega))) (fun _ => ?_)
    refine zk_iload_n dX0_allShoes_12 rfl ?_
    refine zk_aload_n dX0_allShoes_13 rfl ?_
    refine zk_getR dX0_allShoes_14 fl_X0_20 hc.1 hc.2.1 rfl ?_
    refine zk_iload_n dX0_allShoes_17 rfl ?_
    refine zk_aald (j := i) (q := (σ.2.2.2 (σ.2.2.2 c 1) i)) dX0_allShoes_18 hc.2.2.2.1.1 hc.2.2.2.1.2.1 (zs_in hc.2.2.2.1.2.2 (vp_in_nI hi6 (by decide))) (nI_clamp (by omega)) rfl ?_
    refine zk_getI dX0_allShoes_19 fl_X0_79 (hc.2.2.2.2.1 i hi6).1 (hc.2.2.2.2.1 i hi6).2 rfl ?_
    refine zk_iadd dX0_allShoes_22 ?_
    refine zk_istore_n dX0_allShoes_23 zk_S_1 ?_
    refine zk_iinc dX0_allShoes_24 zc_1 rfl zk_S_2 ?_
    refine zk_goto (tgt := 4) dX0_allShoes_27 (by decide) ?_
    rw [← nI_succ]
    refine ih (i + 1) _ (by omega) ?_
    exact zk_cong (congrArg (fun v : Int32 => ([some (Value.ref c), some (Value.int v), none] : List (Option Value))) (congrArg (zs_for (fun i x => x + M (σ.2.2.2 (σ.2.2.2 c 1) i) 5) m (i + 1)) (by first | exact (rfl)))) k
set_option maxRecDepth 100000 in
set_option maxHeartbeats 4000000 in
theorem qX0_allShoes {l : Launch} {σ : zk_Sh} {M : zk_M} {L : zk_L} {c : Nat} (hc : zs_c σ c) {n : Nat} (hn : n ≤ 6) (hcnt : M c 2 = nI n) : zk_C l σ 2 muX0_allShoes [.ref c] M L (zk_Ei (zs_for (fun i x => x + M (σ.2.2.2 (σ.2.2.2 c 1) i) 5) n 0 0) M L) := by
  refine zk_ofR (ls := [some (.ref c), none, none]) (by decide) rfl (Nat.le_of_ble_eq_true rfl) rfl ?_
  refine zk_iconst dX0_allShoes_0 zc_0 ?_
  refine zk_istore_n dX0_allShoes_1 zk_S_1 ?_
  refine zk_iconst dX0_allShoes_2 zc_0 ?_
  refine zk_istore_n dX0_allShoes_3 zk_S_2 ?_
  refine lX0_allShoes hc hn hcnt n 0 0 (by omega) ?_
  refine zk_iload_n dX0_allShoes_30 rfl ?_
  refine zk_iret rfl dX0_allShoes_31 ?_
  exact ⟨rfl, rfl, rfl⟩
set_option maxRecDepth 100000 in
set_option maxHeartbeats 4000000 in
theorem lX0_allWorn {l : Launch} {σ : zk_Sh} {M : zk_M} {L : zk_L} {c : Nat} (hc : zs_c σ c) {n : Nat} (hn : n ≤ 6) (hcnt : M c 2 = nI n) {Q : Option Value → zk_M → zk_L → Prop} : ∀ (m i : Nat) (x : Int32), i + m = n → zk_R l σ 2 muX0_allWorn 30 [some (.ref c), some (.int (zs_for (fun i x => x + M (σ.2.2.2 (σ.2.2.2 c 1) i) 6) m i x)), none] [] M L Q → zk_R l σ 2 muX0_allWorn 4 [some (.ref c), some (.int x), some (.int (nI i))] [] M L Q := by
  intro m
  induction m with
  | zero =>
    intro i x hi k
    obtain rfl : i = n := by omega
    refine zk_iload_n dX0_allWorn_4 rfl ?_
    refine zk_aload_n dX0_allWorn_5 rfl ?_
    refine zk_getI dX0_allWorn_6 fl_X0_32 hc.1 hc.2.1 rfl ?_
    rw [hcnt]
    refine zk_icmp_ge (tgt := 30) dX0_allWorn_9 (by decide) (fun _ => ?_) (fun h9 => absurd (nI_le (Nat.le_refl _) (by omega)) h9)
    refine zk_forget ?_ k
    exact ⟨Or.inr rfl, Or.inr rfl, Or.inl rfl, trivial⟩
  | succ m ih =>
    intro i x hi k
    have hi8 : i < n := by omega
    have hi6 : i < 6 := by omega
    refine zk_iload_n dX0_allWorn_4 rfl ?_
    refine zk_aload_n dX0_allWorn_5 rfl ?_
    refine zk_getI dX0_allWorn_6 fl_X0_32 hc.1 hc.2.1 rfl ?_
    rw [hcnt]
    refine zk_icmp_ge (tgt := 30) dX0_allWorn_9 (by decide) (fun h9 => absurd h9 (nI_ge hi8 (by omega))) (fun _ => ?_)
    refine zk_iload_n dX0_allWorn_12 rfl ?_
    refine zk_aload_n dX0_allWorn_13 rfl ?_
    refine zk_getR dX0_allWorn_14 fl_X0_20 hc.1 hc.2.1 rfl ?_
    refine zk_iload_n dX0_allWorn_17 rfl ?_
    refine zk_aald (j := i) (q := (σ.2.2.2 (σ.2.2.2 c 1) i)) dX0_allWorn_18 hc.2.2.2.1.1 hc.2.2.2.1.2.1 (zs_in hc.2.2.2.1.2.2 (vp_in_nI hi6 (by decide))) (nI_clamp (by omega)) rfl ?_
    refine zk_getI dX0_allWorn_19 fl_X0_82 (hc.2.2.2.2.1 i hi6).1 (hc.2.2.2.2.1 i hi6).2 rfl ?_
    refine zk_iadd dX0_allWorn_22 ?_
    refine zk_istore_n dX0_allWorn_23 zk_S_1 ?_
    refine zk_iinc dX0_allWorn_24 zc_1 rfl zk_S_2 ?_
    refine zk_goto (tgt := 4) dX0_allWorn_27 (by decide) ?_
    rw [← nI_succ]
    refine ih (i + 1) _ (by omega) ?_
    exact zk_cong (congrArg (fun v : Int32 => ([some (Value.ref c), some (Value.int v), none] : List (Option Value))) (congrArg (zs_for (fun i x => x + M (σ.2.2.2 (σ.2.2.2 c 1) i) 6) m (i + 1)) (by first | exact (rfl)))) k
set_option maxRecDepth 100000 in
set_option maxHeartbeats 4000000 in
theorem qX0_allWorn {l : Launch} {σ : zk_Sh} {M : zk_M} {L : zk_L} {c : Nat} (hc : zs_c σ c) {n : Nat} (hn : n ≤ 6) (hcnt : M c 2 = nI n) : zk_C l σ 2 muX0_allWorn [.ref c] M L (zk_Ei (zs_for (fun i x => x + M (σ.2.2.2 (σ.2.2.2 c 1) i) 6) n 0 0) M L) := by
  refine zk_ofR (ls := [some (.ref c), none, none]) (by decide) rfl (Nat.le_of_ble_eq_true rfl) rfl ?_
  refine zk_iconst dX0_allWorn_0 zc_0 ?_
  refine zk_istore_n dX0_allWorn_1 zk_S_1 ?_
  refine zk_iconst dX0_allWorn_2 zc_0 ?_
  refine zk_istore_n dX0_allWorn_3 zk_S_2 ?_
  refine lX0_allWorn hc hn hcnt n 0 0 (by omega) ?_
  refine zk_iload_n dX0_allWorn_30 rfl ?_
  refine zk_iret rfl dX0_allWorn_31 ?_
  exact ⟨rfl, rfl, rfl⟩
