theorem zb_16 : (Int8.ofInt 16).toInt32 = (16 : Int32) := by decide +kernel
theorem zb_63 : (Int8.ofInt 63).toInt32 = (63 : Int32) := by decide +kernel
theorem zb_64 : (Int8.ofInt 64).toInt32 = (64 : Int32) := by decide +kernel
theorem zb_9 : (Int8.ofInt 9).toInt32 = (9 : Int32) := by decide +kernel
def zs_us (x y : Int32) : Int32 := (x.toUInt32 >>> (y.toUInt32 &&& Int32.toUInt32 31)).toInt32
def zs_bc1 (x : Int32) : Int32 := x - (zs_us x 1 &&& 1431655765)
def zs_bc2 (x : Int32) : Int32 := (x &&& 858993459) + (zs_us x 2 &&& 858993459)
def zs_bc3 (x : Int32) : Int32 := (x + zs_us x 4) &&& 252645135
def zs_bc4 (x : Int32) : Int32 := x + zs_us x 8
def zs_bc5 (x : Int32) : Int32 := x + zs_us x 16
/-- Integer.bitCount, as it reckons -/
def zs_bc (x : Int32) : Int32 := zs_bc5 (zs_bc4 (zs_bc3 (zs_bc2 (zs_bc1 x)))) &&& 63
theorem zs_ixin {a b : Nat} (ha : a < 8) (hb : b < 8) : vp_in (nI a * 8 + nI b) 64 := by rw [zs_ix ha hb]; exact vp_in_nI (by omega) (by decide)
theorem zs_ixj {a b : Nat} (ha : a < 8) (hb : b < 8) : (nI a * 8 + nI b).toNatClampNeg = a * 8 + b := by rw [zs_ix ha hb]; exact nI_clamp (by omega)
theorem zs_nI_inj {a b : Nat} (ha : a < 2 ^ 31) (hb : b < 2 ^ 31) (h : nI a = nI b) : a = b := by
  have := congrArg Int32.toInt h
  rw [nI_toInt ha, nI_toInt hb] at this
  omega
theorem zs_d0_0 {J : Nat → Int32} {a b : Nat} (h : a = b) : zs_d0 J a b = 0 := if_pos h
theorem zs_d0_1 {J : Nat → Int32} {a b : Nat} (h : ¬ a = b) (hj : zs_j J (nI a) (nI b)) : zs_d0 J a b = 1 := by rw [zs_d0, if_neg h, if_pos hj]
theorem zs_d0_9 {J : Nat → Int32} {a b : Nat} (h : ¬ a = b) (hj : ¬ zs_j J (nI a) (nI b)) : zs_d0 J a b = 9 := by rw [zs_d0, if_neg h, if_neg hj]
set_option maxRecDepth 100000 in
set_option maxHeartbeats 4000000 in
theorem qJ6_bitCount_0f7a4 {l : Launch} {σ : zk_Sh} {M : zk_M} {L : zk_L} {x : Int32} : zk_C l σ 0 muJ6_bitCount_0f7a4 [.int x] M L (zk_Ei (zs_bc x) M L) := by
  refine zk_ofR (ls := [some (.int x)]) (by decide) rfl (Nat.le_of_ble_eq_true rfl) rfl ?_
  refine zk_iload_n dJ6_bitCount_0f7a4_0 rfl ?_
  refine zk_iload_n dJ6_bitCount_0f7a4_1 rfl ?_
  refine zk_iconst dJ6_bitCount_0f7a4_2 zc_1 ?_
  refine zk_iushr dJ6_bitCount_0f7a4_3 ?_
  refine zk_ldcw dJ6_bitCount_0f7a4_4 ct_J6_265 ?_
  refine zk_iand dJ6_bitCount_0f7a4_7 ?_
  refine zk_isub dJ6_bitCount_0f7a4_8 ?_
  refine zk_istore_n dJ6_bitCount_0f7a4_9 zk_S_0 ?_
  refine zk_iload_n dJ6_bitCount_0f7a4_10 rfl ?_
  refine zk_ldcw dJ6_bitCount_0f7a4_11 ct_J6_266 ?_
  refine zk_iand dJ6_bitCount_0f7a4_14 ?_
  refine zk_iload_n dJ6_bitCount_0f7a4_15 rfl ?_
  refine zk_iconst dJ6_bitCount_0f7a4_16 zc_2 ?_
  refine zk_iushr dJ6_bitCount_0f7a4_17 ?_
  refine zk_ldcw dJ6_bitCount_0f7a4_18 ct_J6_266 ?_
  refine zk_iand dJ6_bitCount_0f7a4_21 ?_
  refine zk_iadd dJ6_bitCount_0f7a4_22 ?_
  refine zk_istore_n dJ6_bitCount_0f7a4_23 zk_S_0 ?_
  refine zk_iload_n dJ6_bitCount_0f7a4_24 rfl ?_
  refine zk_iload_n dJ6_bitCount_0f7a4_25 rfl ?_
  refine zk_iconst dJ6_bitCount_0f7a4_26 zc_4 ?_
  refine zk_iushr dJ6_bitCount_0f7a4_27 ?_
  refine zk_iadd dJ6_bitCount_0f7a4_28 ?_
  refine zk_ldcw dJ6_bitCount_0f7a4_29 ct_J6_267 ?_
  refine zk_iand dJ6_bitCount_0f7a4_32 ?_
  refine zk_istore_n dJ6_bitCount_0f7a4_33 zk_S_0 ?_
  refine zk_iload_n dJ6_bitCount_0f7a4_34 rfl ?_
  refine zk_iload_n dJ6_bitCount_0f7a4_35 rfl ?_
  refine zk_bipush dJ6_bitCount_0f7a4_36 zb_8 ?_
  refine zk_iushr dJ6_bitCount_0f7a4_38 ?_
  refine zk_iadd dJ6_bitCount_0f7a4_39 ?_
  refine zk_istore_n dJ6_bitCount_0f7a4_40 zk_S_0 ?_
  refine zk_iload_n dJ6_bitCount_0f7a4_41 rfl ?_
  refine zk_iload_n dJ6_bitCount_0f7a4_42 rfl ?_
  refine zk_bipush dJ6_bitCount_0f7a4_43 zb_16 ?_
  refine zk_iushr dJ6_bitCount_0f7a4_45 ?_
  refine zk_iadd dJ6_bitCount_0f7a4_46 ?_
  refine zk_istore_n dJ6_bitCount_0f7a4_47 zk_S_0 ?_
  refine zk_iload_n dJ6_bitCount_0f7a4_48 rfl ?_
  refine zk_bipush dJ6_bitCount_0f7a4_49 zb_63 ?_
  refine zk_iand dJ6_bitCount_0f7a4_51 ?_
  refine zk_iret rfl dJ6_bitCount_0f7a4_52 ?_
  exact ⟨rfl, rfl, rfl⟩
set_option maxRecDepth 100000 in
set_option maxHeartbeats 4000000 in
theorem lX2_rs1 {l : Launch} {σ : zk_Sh} {L : zk_L} {n : Nat} (hn : zs_r σ n) {Q : Option Value → zk_M → zk_L → Prop} {a : Nat} (ha : a < 8) : ∀ (m b : Nat) (M : zk_M), b + m = 8 → zk_R l σ 2 muX2_reckonSteps 59 [some (.ref n), some (.int (nI a)), none, none, none] [] (va_up M (σ.2.2.2 n 1) (zs_for (fun b T => va_up T (a * 8 + b) (zs_d0 (M (σ.2.2.2 n 0)) a b)) m b (M (σ.2.2.2 n 1)))) L Q → zk_R l σ 2 muX2_reckonSteps 10 [some (.ref n), some (.int (nI a)), some (.int (nI b)), none, none] [] M L Q := by
  intro m
  induction m with
  | zero =>
    intro b M hi k
    obtain rfl : b = 8 := by omega
    refine zk_iload_n dX2_reckonSteps_10 rfl ?_
    refine zk_bipush dX2_reckonSteps_11 zb_8 ?_
    refine zk_icmp_ge (tgt := 59) dX2_reckonSteps_13 (by decide) (fun _ => ?_) (fun q => absurd (by decide) q)
    rw [zs_for, zs_up_self] at k
    refine zk_forget ?_ k
    exact ⟨Or.inr rfl, Or.inr rfl, Or.inl rfl, Or.inl rfl, Or.inl rfl, trivial⟩
  | succ m ih =>
    intro b M hi k
    have h8 : b < 8 := by omega
    refine zk_iload_n dX2_reckonSteps_10 rfl ?_
    refine zk_bipush dX2_reckonSteps_11 zb_8 ?_
    refine zk_icmp_ge (tgt := 59) dX2_reckonSteps_13 (by decide) (fun h13 => absurd h13 (nI_ge h8 (by decide))) (fun _ => ?_)
    refine zk_aload_n dX2_reckonSteps_16 rfl ?_
    refine zk_iload_n dX2_reckonSteps_17 rfl ?_
    refine zk_iload_n dX2_reckonSteps_18 rfl ?_
    refine zk_cVi (qX2_joins hn (zs_p_nI ha) (zs_p_nI h8)) dX2_reckonSteps_19 mwX2_joins ml_X2_46 hn.1 hn.2.1 rfl (by decide) rfl (Nat.le_of_ble_eq_true rfl) ?_
    refine zk_if_eq (tgt := 29) dX2_reckonSteps_22 (by decide) (fun h22 => ?_) (fun h22 => ?_)
    · have hj : ¬ zs_j (M (σ.2.2.2 n 0)) (nI a) (nI b) := fun q => absurd h22 (by rw [if_pos q]; decide)
      refine zk_bipush dX2_reckonSteps_29 zb_9 ?_
      refine zk_istore_n dX2_reckonSteps_31 zk_S_3 ?_
      refine zk_aload_n dX2_reckonSteps_32 rfl ?_
      refine zk_getR dX2_reckonSteps_33 fl_X2_15 hn.1 hn.2.1 rfl ?_
      refine zk_iload_n dX2_reckonSteps_36 rfl ?_
      refine zk_bipush dX2_reckonSteps_37 zb_8 ?_
      refine zk_imul dX2_reckonSteps_39 ?_
      refine zk_iload_n dX2_reckonSteps_40 rfl ?_
      refine zk_iadd dX2_reckonSteps_41 ?_
      refine zk_iload_n dX2_reckonSteps_42 rfl ?_
      refine zk_iload_n dX2_reckonSteps_43 rfl ?_
      refine zk_icmp_ne (tgt := 51) dX2_reckonSteps_44 (by decide) (fun h44 => ?_) (fun h44 => ?_)
      · have hab : ¬ a = b := fun q => h44 (by rw [q])
        refine zk_iload_n dX2_reckonSteps_51 rfl ?_
        refine zk_iast (j := a * 8 + b) dX2_reckonSteps_52 hn.2.2.2.1.1 hn.2.2.2.1.2.1 (zs_in hn.2.2.2.1.2.2 (zs_ixin ha h8)) (zs_ixj ha h8) ?_
        refine zk_iinc dX2_reckonSteps_53 zc_1 rfl zk_S_2 ?_
        refine zk_goto (tgt := 10) dX2_reckonSteps_56 (by decide) ?_
        rw [← nI_succ]
        refine zk_post (M' := va_up M (σ.2.2.2 n 1) (va_up (M (σ.2.2.2 n 1)) (a * 8 + b) (zs_d0 (M (σ.2.2.2 n 0)) a b))) (congrArg (fun v => va_up M (σ.2.2.2 n 1) (va_up (M (σ.2.2.2 n 1)) (a * 8 + b) v)) (by first | exact (zs_d0_0 hab).symm | exact (zs_d0_1 hab hj).symm | exact (zs_d0_9 hab hj).symm)) rfl ?_
        refine zk_forget ?_ (ih (b + 1) _ (by omega) ?_)
        · exact ⟨Or.inr rfl, Or.inr rfl, Or.inr rfl, Or.inl rfl, Or.inl rfl, trivial⟩
        · rw [zs_up2, zk_up_eq, zk_up_ne hn.2.2.2.2]
          exact k
      · have hab : a = b := zs_nI_inj (by omega) (by omega) h44
        refine zk_iconst dX2_reckonSteps_47 zc_0 ?_
        refine zk_goto (tgt := 52) dX2_reckonSteps_48 (by decide) ?_
        refine zk_iast (j := a * 8 + b) dX2_reckonSteps_52 hn.2.2.2.1.1 hn.2.2.2.1.2.1 (zs_in hn.2.2.2.1.2.2 (zs_ixin ha h8)) (zs_ixj ha h8) ?_
        refine zk_iinc dX2_reckonSteps_53 zc_1 rfl zk_S_2 ?_
        refine zk_goto (tgt := 10) dX2_reckonSteps_56 (by decide) ?_
        rw [← nI_succ]
        refine zk_post (M' := va_up M (σ.2.2.2 n 1) (va_up (M (σ.2.2.2 n 1)) (a * 8 + b) (zs_d0 (M (σ.2.2.2 n 0)) a b))) (congrArg (fun v => va_up M (σ.2.2.2 n 1) (va_up (M (σ.2.2.2 n 1)) (a * 8 + b) v)) (by first | exact (zs_d0_0 hab).symm | exact (zs_d0_1 hab hj).symm | exact (zs_d0_9 hab hj).symm)) rfl ?_
        refine zk_forget ?_ (ih (b + 1) _ (by omega) ?_)
        · exact ⟨Or.inr rfl, Or.inr rfl, Or.inr rfl, Or.inl rfl, Or.inl rfl, trivial⟩
        · rw [zs_up2, zk_up_eq, zk_up_ne hn.2.2.2.2]
          exact k
    · have hj : zs_j (M (σ.2.2.2 n 0)) (nI a) (nI b) := Classical.byContradiction (fun q => h22 (by rw [if_neg q]))
      refine zk_iconst dX2_reckonSteps_25 zc_1 ?_
      refine zk_goto (tgt := 31) dX2_reckonSteps_26 (by decide) ?_
      refine zk_istore_n dX2_reckonSteps_31 zk_S_3 ?_
      refine zk_aload_n dX2_reckonSteps_32 rfl ?_
      refine zk_getR dX2_reckonSteps_33 fl_X2_15 hn.1 hn.2.1 rfl ?_
      refine zk_iload_n dX2_reckonSteps_36 rfl ?_
      refine zk_bipush dX2_reckonSteps_37 zb_8 ?_
      refine zk_imul dX2_reckonSteps_39 ?_
      refine zk_iload_n dX2_reckonSteps_40 rfl ?_
      refine zk_iadd dX2_reckonSteps_41 ?_
      refine zk_iload_n dX2_reckonSteps_42 rfl ?_
      refine zk_iload_n dX2_reckonSteps_43 rfl ?_
      refine zk_icmp_ne (tgt := 51) dX2_reckonSteps_44 (by decide) (fun h44 => ?_) (fun h44 => ?_)
      · have hab : ¬ a = b := fun q => h44 (by rw [q])
        refine zk_iload_n dX2_reckonSteps_51 rfl ?_
        refine zk_iast (j := a * 8 + b) dX2_reckonSteps_52 hn.2.2.2.1.1 hn.2.2.2.1.2.1 (zs_in hn.2.2.2.1.2.2 (zs_ixin ha h8)) (zs_ixj ha h8) ?_
        refine zk_iinc dX2_reckonSteps_53 zc_1 rfl zk_S_2 ?_
        refine zk_goto (tgt := 10) dX2_reckonSteps_56 (by decide) ?_
        rw [← nI_succ]
        refine zk_post (M' := va_up M (σ.2.2.2 n 1) (va_up (M (σ.2.2.2 n 1)) (a * 8 + b) (zs_d0 (M (σ.2.2.2 n 0)) a b))) (congrArg (fun v => va_up M (σ.2.2.2 n 1) (va_up (M (σ.2.2.2 n 1)) (a * 8 + b) v)) (by first | exact (zs_d0_0 hab).symm | exact (zs_d0_1 hab hj).symm | exact (zs_d0_9 hab hj).symm)) rfl ?_
        refine zk_forget ?_ (ih (b + 1) _ (by omega) ?_)
        · exact ⟨Or.inr rfl, Or.inr rfl, Or.inr rfl, Or.inl rfl, Or.inl rfl, trivial⟩
        · rw [zs_up2, zk_up_eq, zk_up_ne hn.2.2.2.2]
          exact k
      · have hab : a = b := zs_nI_inj (by omega) (by omega) h44
        refine zk_iconst dX2_reckonSteps_47 zc_0 ?_
        refine zk_goto (tgt := 52) dX2_reckonSteps_48 (by decide) ?_
        refine zk_iast (j := a * 8 + b) dX2_reckonSteps_52 hn.2.2.2.1.1 hn.2.2.2.1.2.1 (zs_in hn.2.2.2.1.2.2 (zs_ixin ha h8)) (zs_ixj ha h8) ?_
        refine zk_iinc dX2_reckonSteps_53 zc_1 rfl zk_S_2 ?_
        refine zk_goto (tgt := 10) dX2_reckonSteps_56 (by decide) ?_
        rw [← nI_succ]
        refine zk_post (M' := va_up M (σ.2.2.2 n 1) (va_up (M (σ.2.2.2 n 1)) (a * 8 + b) (zs_d0 (M (σ.2.2.2 n 0)) a b))) (congrArg (fun v => va_up M (σ.2.2.2 n 1) (va_up (M (σ.2.2.2 n 1)) (a * 8 + b) v)) (by first | exact (zs_d0_0 hab).symm | exact (zs_d0_1 hab hj).symm | exact (zs_d0_9 hab hj).symm)) rfl ?_
        refine zk_forget ?_ (ih (b + 1) _ (by omega) ?_)
        · exact ⟨Or.inr rfl, Or.inr rfl, Or.inr rfl, Or.inl rfl, Or.inl rfl, trivial⟩
        · rw [zs_up2, zk_up_eq, zk_up_ne hn.2.2.2.2]
          exact k
set_option maxRecDepth 100000 in
set_option maxHeartbeats 4000000 in
theorem lX2_rs2 {l : Launch} {σ : zk_Sh} {L : zk_L} {n : Nat} (hn : zs_r σ n) {Q : Option Value → zk_M → zk_L → Prop}  : ∀ (m a : Nat) (M : zk_M), a + m = 8 → zk_R l σ 2 muX2_reckonSteps 65 [some (.ref n), none, none, none, none] [] (va_up M (σ.2.2.2 n 1) (zs_for (fun a T => zs_for (fun b T => va_up T (a * 8 + b) (zs_d0 (M (σ.2.2.2 n 0)) a b)) 8 0 T) m a (M (σ.2.2.2 n 1)))) L Q → zk_R l σ 2 muX2_reckonSteps 2 [some (.ref n), some (.int (nI a)), none, none, none] [] M L Q := by
  intro m
  induction m with
  | zero =>
    intro a M hi k
    obtain rfl : a = 8 := by omega
    refine zk_iload_n dX2_reckonSteps_2 rfl ?_
    refine zk_bipush dX2_reckonSteps_3 zb_8 ?_
    refine zk_icmp_ge (tgt := 65) dX2_reckonSteps_5 (by decide) (fun _ => ?_) (fun q => absurd (by decide) q)
    rw [zs_for, zs_up_self] at k
    refine zk_forget ?_ k
    exact ⟨Or.inr rfl, Or.inl rfl, Or.inl rfl, Or.inl rfl, Or.inl rfl, trivial⟩
  | succ m ih =>
    intro a M hi k
    have h8 : a < 8 := by omega
    refine zk_iload_n dX2_reckonSteps_2 rfl ?_
    refine zk_bipush dX2_reckonSteps_3 zb_8 ?_
    refine zk_icmp_ge (tgt := 65) dX2_reckonSteps_5 (by decide) (fun h5 => absurd h5 (nI_ge h8 (by decide))) (fun _ => ?_)
    refine zk_iconst dX2_reckonSteps_8 zc_0 ?_
    refine zk_istore_n dX2_reckonSteps_9 zk_S_2 ?_
    refine lX2_rs1 hn h8 8 0 M rfl ?_
    refine zk_iinc dX2_reckonSteps_59 zc_1 rfl zk_S_1 ?_
    refine zk_goto (tgt := 2) dX2_reckonSteps_62 (by decide) ?_
    rw [← nI_succ]
    refine ih (a + 1) _ (by omega) ?_
    rw [zs_up2, zk_up_eq, zk_up_ne hn.2.2.2.2]
    exact k
set_option maxRecDepth 100000 in
set_option maxHeartbeats 4000000 in
theorem lX2_rs3 {l : Launch} {σ : zk_Sh} {L : zk_L} {n : Nat} (hn : zs_r σ n) {Q : Option Value → zk_M → zk_L → Prop} {a kk : Nat} (ha : a < 8) (hk : kk < 8) : ∀ (m b : Nat) (M : zk_M), b + m = 8 → zk_R l σ 2 muX2_reckonSteps 147 [some (.ref n), some (.int (nI kk)), some (.int (nI a)), none, none] [] (va_up M (σ.2.2.2 n 1) (zs_for (fun b T => va_up T (a * 8 + b) (zs_min (T (a * 8 + b)) (T (a * 8 + kk) + T (kk * 8 + b)))) m b (M (σ.2.2.2 n 1)))) L Q → zk_R l σ 2 muX2_reckonSteps 83 [some (.ref n), some (.int (nI kk)), some (.int (nI a)), some (.int (nI b)), none] [] M L Q := by
  intro m
  induction m with
  | zero =>
    intro b M hi k
    obtain rfl : b = 8 := by omega
    refine zk_iload_n dX2_reckonSteps_83 rfl ?_
    refine zk_bipush dX2_reckonSteps_84 zb_8 ?_
    refine zk_icmp_ge (tgt := 147) dX2_reckonSteps_86 (by decide) (fun _ => ?_) (fun q => absurd (by decide) q)
    rw [zs_for, zs_up_self] at k
    refine zk_forget ?_ k
    exact ⟨Or.inr rfl, Or.inr rfl, Or.inr rfl, Or.inl rfl, Or.inl rfl, trivial⟩
  | succ m ih =>
    intro b M hi k
    have h8 : b < 8 := by omega
    refine zk_iload_n dX2_reckonSteps_83 rfl ?_
    refine zk_bipush dX2_reckonSteps_84 zb_8 ?_
    refine zk_icmp_ge (tgt := 147) dX2_reckonSteps_86 (by decide) (fun h86 => absurd h86 (nI_ge h8 (by decide))) (fun _ => ?_)
    refine zk_aload_n dX2_reckonSteps_89 rfl ?_
    refine zk_getR dX2_reckonSteps_90 fl_X2_15 hn.1 hn.2.1 rfl ?_
    refine zk_iload_n dX2_reckonSteps_93 rfl ?_
    refine zk_bipush dX2_reckonSteps_94 zb_8 ?_
    refine zk_imul dX2_reckonSteps_96 ?_
    refine zk_iload_n dX2_reckonSteps_97 rfl ?_
    refine zk_iadd dX2_reckonSteps_98 ?_
    refine zk_iald (j := a * 8 + kk) dX2_reckonSteps_99 hn.2.2.2.1.1 hn.2.2.2.1.2.1 (zs_in hn.2.2.2.1.2.2 (zs_ixin ha hk)) (zs_ixj ha hk) ?_
    refine zk_aload_n dX2_reckonSteps_100 rfl ?_
    refine zk_getR dX2_reckonSteps_101 fl_X2_15 hn.1 hn.2.1 rfl ?_
    refine zk_iload_n dX2_reckonSteps_104 rfl ?_
    refine zk_bipush dX2_reckonSteps_105 zb_8 ?_
    refine zk_imul dX2_reckonSteps_107 ?_
    refine zk_iload_n dX2_reckonSteps_108 rfl ?_
    refine zk_iadd dX2_reckonSteps_109 ?_
    refine zk_iald (j := kk * 8 + b) dX2_reckonSteps_110 hn.2.2.2.1.1 hn.2.2.2.1.2.1 (zs_in hn.2.2.2.1.2.2 (zs_ixin hk h8)) (zs_ixj hk h8) ?_
    refine zk_iadd dX2_reckonSteps_111 ?_
    refine zk_istore dX2_reckonSteps_112 zk_S_4 ?_
    refine zk_aload_n dX2_reckonSteps_114 rfl ?_
    refine zk_getR dX2_reckonSteps_115 fl_X2_15 hn.1 hn.2.1 rfl ?_
    refine zk_iload_n dX2_reckonSteps_118 rfl ?_
    refine zk_bipush dX2_reckonSteps_119 zb_8 ?_
    refine zk_imul dX2_reckonSteps_121 ?_
    refine zk_iload_n dX2_reckonSteps_122 rfl ?_
    refine zk_iadd dX2_reckonSteps_123 ?_
    refine zk_aload_n dX2_reckonSteps_124 rfl ?_
    refine zk_getR dX2_reckonSteps_125 fl_X2_15 hn.1 hn.2.1 rfl ?_
    refine zk_iload_n dX2_reckonSteps_128 rfl ?_
    refine zk_bipush dX2_reckonSteps_129 zb_8 ?_
    refine zk_imul dX2_reckonSteps_131 ?_
    refine zk_iload_n dX2_reckonSteps_132 rfl ?_
    refine zk_iadd dX2_reckonSteps_133 ?_
    refine zk_iald (j := a * 8 + b) dX2_reckonSteps_134 hn.2.2.2.1.1 hn.2.2.2.1.2.1 (zs_in hn.2.2.2.1.2.2 (zs_ixin ha h8)) (zs_ixj ha h8) ?_
    refine zk_iload dX2_reckonSteps_135 rfl ?_
    refine zk_mmin dX2_reckonSteps_137 ml_X2_50 st_mmin in_J9 co_mmin (by decide) (Nat.le_of_ble_eq_true rfl) ?_
    refine zk_iast (j := a * 8 + b) dX2_reckonSteps_140 hn.2.2.2.1.1 hn.2.2.2.1.2.1 (zs_in hn.2.2.2.1.2.2 (zs_ixin ha h8)) (zs_ixj ha h8) ?_
    refine zk_iinc dX2_reckonSteps_141 zc_1 rfl zk_S_3 ?_
    refine zk_goto (tgt := 83) dX2_reckonSteps_144 (by decide) ?_
    rw [← nI_succ]
    refine zk_forget ?_ (ih (b + 1) _ (by omega) ?_)
    · exact ⟨Or.inr rfl, Or.inr rfl, Or.inr rfl, Or.inr rfl, Or.inl rfl, trivial⟩
    · rw [zs_up2, zk_up_eq]
      exact k
set_option maxRecDepth 100000 in
set_option maxHeartbeats 4000000 in
theorem lX2_rs4 {l : Launch} {σ : zk_Sh} {L : zk_L} {n : Nat} (hn : zs_r σ n) {Q : Option Value → zk_M → zk_L → Prop} {kk : Nat} (hk : kk < 8) : ∀ (m a : Nat) (M : zk_M), a + m = 8 → zk_R l σ 2 muX2_reckonSteps 153 [some (.ref n), some (.int (nI kk)), none, none, none] [] (va_up M (σ.2.2.2 n 1) (zs_for (fun a T => zs_for (fun b T => va_up T (a * 8 + b) (zs_min (T (a * 8 + b)) (T (a * 8 + kk) + T (kk * 8 + b)))) 8 0 T) m a (M (σ.2.2.2 n 1)))) L Q → zk_R l σ 2 muX2_reckonSteps 75 [some (.ref n), some (.int (nI kk)), some (.int (nI a)), none, none] [] M L Q := by
  intro m
  induction m with
  | zero =>
    intro a M hi k
    obtain rfl : a = 8 := by omega
    refine zk_iload_n dX2_reckonSteps_75 rfl ?_
    refine zk_bipush dX2_reckonSteps_76 zb_8 ?_
    refine zk_icmp_ge (tgt := 153) dX2_reckonSteps_78 (by decide) (fun _ => ?_) (fun q => absurd (by decide) q)
    rw [zs_for, zs_up_self] at k
    refine zk_forget ?_ k
    exact ⟨Or.inr rfl, Or.inr rfl, Or.inl rfl, Or.inl rfl, Or.inl rfl, trivial⟩
  | succ m ih =>
    intro a M hi k
    have h8 : a < 8 := by omega
    refine zk_iload_n dX2_reckonSteps_75 rfl ?_
    refine zk_bipush dX2_reckonSteps_76 zb_8 ?_
    refine zk_icmp_ge (tgt := 153) dX2_reckonSteps_78 (by decide) (fun h78 => absurd h78 (nI_ge h8 (by decide))) (fun _ => ?_)
    refine zk_iconst dX2_reckonSteps_81 zc_0 ?_
    refine zk_istore_n dX2_reckonSteps_82 zk_S_3 ?_
    refine lX2_rs3 hn h8 hk 8 0 M rfl ?_
    refine zk_iinc dX2_reckonSteps_147 zc_1 rfl zk_S_2 ?_
    refine zk_goto (tgt := 75) dX2_reckonSteps_150 (by decide) ?_
    rw [← nI_succ]
    refine ih (a + 1) _ (by omega) ?_
    rw [zs_up2, zk_up_eq]
    exact k
set_option maxRecDepth 100000 in
set_option maxHeartbeats 4000000 in
theorem lX2_rs5 {l : Launch} {σ : zk_Sh} {L : zk_L} {n : Nat} (hn : zs_r σ n) {Q : Option Value → zk_M → zk_L → Prop}  : ∀ (m kk : Nat) (M : zk_M), kk + m = 8 → zk_R l σ 2 muX2_reckonSteps 159 [some (.ref n), none, none, none, none] [] (va_up M (σ.2.2.2 n 1) (zs_for (fun kk T => zs_for (fun a T => zs_for (fun b T => va_up T (a * 8 + b) (zs_min (T (a * 8 + b)) (T (a * 8 + kk) + T (kk * 8 + b)))) 8 0 T) 8 0 T) m kk (M (σ.2.2.2 n 1)))) L Q → zk_R l σ 2 muX2_reckonSteps 67 [some (.ref n), some (.int (nI kk)), none, none, none] [] M L Q := by
  intro m
  induction m with
  | zero =>
    intro kk M hi k
    obtain rfl : kk = 8 := by omega
    refine zk_iload_n dX2_reckonSteps_67 rfl ?_
    refine zk_bipush dX2_reckonSteps_68 zb_8 ?_
    refine zk_icmp_ge (tgt := 159) dX2_reckonSteps_70 (by decide) (fun _ => ?_) (fun q => absurd (by decide) q)
    rw [zs_for, zs_up_self] at k
    refine zk_forget ?_ k
    exact ⟨Or.inr rfl, Or.inl rfl, Or.inl rfl, Or.inl rfl, Or.inl rfl, trivial⟩
  | succ m ih =>
    intro kk M hi k
    have h8 : kk < 8 := by omega
    refine zk_iload_n dX2_reckonSteps_67 rfl ?_
    refine zk_bipush dX2_reckonSteps_68 zb_8 ?_
    refine zk_icmp_ge (tgt := 159) dX2_reckonSteps_70 (by decide) (fun h70 => absurd h70 (nI_ge h8 (by decide))) (fun _ => ?_)
    refine zk_iconst dX2_reckonSteps_73 zc_0 ?_
    refine zk_istore_n dX2_reckonSteps_74 zk_S_2 ?_
    refine lX2_rs4 hn h8 8 0 M rfl ?_
    refine zk_iinc dX2_reckonSteps_153 zc_1 rfl zk_S_1 ?_
    refine zk_goto (tgt := 67) dX2_reckonSteps_156 (by decide) ?_
    rw [← nI_succ]
    refine ih (kk + 1) _ (by omega) ?_
    rw [zs_up2, zk_up_eq]
    exact k
set_option maxRecDepth 100000 in
set_option maxHeartbeats 4000000 in
theorem qX2_reckonSteps {l : Launch} {σ : zk_Sh} {M : zk_M} {L : zk_L} {n : Nat} (hn : zs_r σ n) : zk_C l σ 2 muX2_reckonSteps [.ref n] M L (zk_Ev (va_up M (σ.2.2.2 n 1) (zs_fw (M (σ.2.2.2 n 0)) (M (σ.2.2.2 n 1)))) L) := by
  refine zk_ofR (ls := [some (.ref n), none, none, none, none]) (by decide) rfl (Nat.le_of_ble_eq_true rfl) rfl ?_
  refine zk_iconst dX2_reckonSteps_0 zc_0 ?_
  refine zk_istore_n dX2_reckonSteps_1 zk_S_1 ?_
  refine lX2_rs2 hn 8 0 M rfl ?_
  refine zk_iconst dX2_reckonSteps_65 zc_0 ?_
  refine zk_istore_n dX2_reckonSteps_66 zk_S_1 ?_
  refine lX2_rs5 hn 8 0 _ rfl ?_
  refine zk_vret rfl dX2_reckonSteps_159 ?_
  exact zk_Ev_of (by rw [zs_up2, zk_up_eq]; rfl) rfl
/-- a road turned between a and b -/
def zs_turn (J : Nat → Int32) (a b : Int32) : Nat → Int32 := va_up (va_up J a.toNatClampNeg (J a.toNatClampNeg ^^^ 1 <<< (b &&& 31))) b.toNatClampNeg (va_up J a.toNatClampNeg (J a.toNatClampNeg ^^^ 1 <<< (b &&& 31)) b.toNatClampNeg ^^^ 1 <<< (a &&& 31))
set_option maxRecDepth 100000 in
set_option maxHeartbeats 4000000 in
theorem qX2_change {l : Launch} {σ : zk_Sh} {M : zk_M} {L : zk_L} {n : Nat} (hn : zs_r σ n) {a b : Int32} (ha : zs_p a) (hb : zs_p b) (hab : ¬ a = b) : zk_C l σ 3 muX2_change [.ref n, .int a, .int b] M L (zk_Ev (va_up (va_up M (σ.2.2.2 n 0) (zs_turn (M (σ.2.2.2 n 0)) a b)) (σ.2.2.2 n 1) (zs_fw (zs_turn (M (σ.2.2.2 n 0)) a b) (M (σ.2.2.2 n 1)))) L) := by
  refine zk_ofR (ls := [some (.ref n), some (.int a), some (.int b)]) (by decide) rfl (Nat.le_of_ble_eq_true rfl) rfl ?_
  refine zk_iload_n dX2_change_0 rfl ?_
  refine zk_cNi (qX4_isPlace_t ha) dX2_change_1 miX4_isPlace nl_X2_27 stX4_isPlace rfl (by decide) rfl (Nat.le_of_ble_eq_true rfl) ?_
  refine zk_if_eq (tgt := 47) dX2_change_4 (by decide) (fun h4 => absurd h4 (by decide)) (fun _ => ?_)
  refine zk_iload_n dX2_change_7 rfl ?_
  refine zk_cNi (qX4_isPlace_t hb) dX2_change_8 miX4_isPlace nl_X2_27 stX4_isPlace rfl (by decide) rfl (Nat.le_of_ble_eq_true rfl) ?_
  refine zk_if_eq (tgt := 47) dX2_change_11 (by decide) (fun h11 => absurd h11 (by decide)) (fun _ => ?_)
  refine zk_iload_n dX2_change_14 rfl ?_
  refine zk_iload_n dX2_change_15 rfl ?_
  refine zk_icmp_eq (tgt := 47) dX2_change_16 (by decide) (fun h16 => absurd h16 (hab)) (fun _ => ?_)
  refine zk_aload_n dX2_change_19 rfl ?_
  refine zk_getR dX2_change_20 fl_X2_9 hn.1 hn.2.1 rfl ?_
  refine zk_iload_n dX2_change_23 rfl ?_
  refine zk_dup2 dX2_change_24 rfl rfl ?_
  refine zk_iald (j := _) dX2_change_25 hn.2.2.1.1 hn.2.2.1.2.1 (zs_in hn.2.2.1.2.2 (zs_pin ha)) rfl ?_
  refine zk_iconst dX2_change_26 zc_1 ?_
  refine zk_iload_n dX2_change_27 rfl ?_
  refine zk_ishl dX2_change_28 ?_
  refine zk_ixor dX2_change_29 ?_
  refine zk_iast (j := _) dX2_change_30 hn.2.2.1.1 hn.2.2.1.2.1 (zs_in hn.2.2.1.2.2 (zs_pin ha)) rfl ?_
  refine zk_aload_n dX2_change_31 rfl ?_
  refine zk_getR dX2_change_32 fl_X2_9 hn.1 hn.2.1 rfl ?_
  refine zk_iload_n dX2_change_35 rfl ?_
  refine zk_dup2 dX2_change_36 rfl rfl ?_
  refine zk_iald (j := _) dX2_change_37 hn.2.2.1.1 hn.2.2.1.2.1 (zs_in hn.2.2.1.2.2 (zs_pin hb)) rfl ?_
  refine zk_iconst dX2_change_38 zc_1 ?_
  refine zk_iload_n dX2_change_39 rfl ?_
  refine zk_ishl dX2_change_40 ?_
  refine zk_ixor dX2_change_41 ?_
  refine zk_iast (j := _) dX2_change_42 hn.2.2.1.1 hn.2.2.1.2.1 (zs_in hn.2.2.1.2.2 (zs_pin hb)) rfl ?_
  refine zk_aload_n dX2_change_43 rfl ?_
  refine zk_cVv (qX2_reckonSteps hn) dX2_change_44 mwX2_reckonSteps ml_X2_18 hn.1 hn.2.1 rfl (by decide) rfl (Nat.le_of_ble_eq_true rfl) ?_
  refine zk_vret rfl dX2_change_47 ?_
  refine zk_Ev_of ?_ rfl
  simp only [zk_up_eq, zs_up2, zk_up_ne hn.2.2.2.2.symm, zs_turn]
set_option maxRecDepth 100000 in
set_option maxHeartbeats 4000000 in
theorem qX2_becomes {l : Launch} {σ : zk_Sh} {M : zk_M} {L : zk_L} {n : Nat} (hn : zs_r σ n) {g : Nat} (hg : zs_r σ g) (h1 : σ.2.2.2 g 1 ≠ σ.2.2.2 n 0) : zk_C l σ 1 muX2_becomes [.ref n, .ref g] M L (zk_Ev (va_up (va_up M (σ.2.2.2 n 0) (zs_cp 8 (M (σ.2.2.2 g 0)) (M (σ.2.2.2 n 0)))) (σ.2.2.2 n 1) (zs_cp 64 (M (σ.2.2.2 g 1)) (M (σ.2.2.2 n 1)))) L) := by
  refine zk_ofR (ls := [some (.ref n), some (.ref g)]) (by decide) rfl (Nat.le_of_ble_eq_true rfl) rfl ?_
  refine zk_aload_n dX2_becomes_0 rfl ?_
  refine zk_getR dX2_becomes_1 fl_X2_9 hg.1 hg.2.1 rfl ?_
  refine zk_iconst dX2_becomes_4 zc_0 ?_
  refine zk_aload_n dX2_becomes_5 rfl ?_
  refine zk_getR dX2_becomes_6 fl_X2_9 hn.1 hn.2.1 rfl ?_
  refine zk_iconst dX2_becomes_9 zc_0 ?_
  refine zk_bipush dX2_becomes_10 zb_8 ?_
  refine zk_copy dX2_becomes_12 ml_X2_21 na_copy st_copy in_J10 hg.2.2.1.1 hg.2.2.1.2.1 hn.2.2.1.1 hn.2.2.1.2.1 (by decide) (by decide) (by decide) (by rw [hg.2.2.1.2.2]; decide) (by rw [hn.2.2.1.2.2]; decide) (by decide) (Nat.le_of_ble_eq_true rfl) ?_
  refine zk_aload_n dX2_becomes_15 rfl ?_
  refine zk_getR dX2_becomes_16 fl_X2_15 hg.1 hg.2.1 rfl ?_
  refine zk_iconst dX2_becomes_19 zc_0 ?_
  refine zk_aload_n dX2_becomes_20 rfl ?_
  refine zk_getR dX2_becomes_21 fl_X2_15 hn.1 hn.2.1 rfl ?_
  refine zk_iconst dX2_becomes_24 zc_0 ?_
  refine zk_bipush dX2_becomes_25 zb_64 ?_
  refine zk_copy dX2_becomes_27 ml_X2_21 na_copy st_copy in_J10 hg.2.2.2.1.1 hg.2.2.2.1.2.1 hn.2.2.2.1.1 hn.2.2.2.1.2.1 (by decide) (by decide) (by decide) (by rw [hg.2.2.2.1.2.2]; decide) (by rw [hn.2.2.2.1.2.2]; decide) (by decide) (Nat.le_of_ble_eq_true rfl) ?_
  refine zk_vret rfl dX2_becomes_30 ?_
  refine zk_Ev_of ?_ rfl
  rw [zk_up_ne h1, zk_up_ne hn.2.2.2.2.symm]
  have e8 : ∀ f g : Nat → Int32, va_cpy f g (0 : Int32).toNatClampNeg (0 : Int32).toNatClampNeg (8 : Int32).toNatClampNeg = zs_cp 8 f g := by
    intro f g
    funext i
    have e1 : (0 : Int32).toNatClampNeg = 0 := by decide
    have e2 : (8 : Int32).toNatClampNeg = 8 := by decide
    simp [va_cpy, zs_cp, e1, e2]
  have e64 : ∀ f g : Nat → Int32, va_cpy f g (0 : Int32).toNatClampNeg (0 : Int32).toNatClampNeg (64 : Int32).toNatClampNeg = zs_cp 64 f g := by
    intro f g
    funext i
    have e1 : (0 : Int32).toNatClampNeg = 0 := by decide
    have e2 : (64 : Int32).toNatClampNeg = 64 := by decide
    simp [va_cpy, zs_cp, e1, e2]
  rw [e8, e64]
