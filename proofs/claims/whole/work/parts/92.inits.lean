/-! the constructors one by one -/
theorem zn_c0 : zn_Cl 0 RX0 4 [.null, .null, .int 0, .int 0] := ⟨TX0, tyX0, rfl, zk_u0, ins_X0, in_X0, tyX0_ok, fun j hj => by rcases (show j = 0 ∨ j = 1 ∨ j = 2 ∨ j = 3 by omega) with rfl | rfl | rfl | rfl <;> rfl⟩
theorem zn_c1 : zn_Cl 1 RX1 7 [.int 0, .int 0, .int 0, .int 0, .int 0, .int 0, .int 0] := ⟨TX1, tyX1, rfl, zk_u1, ins_X1, in_X1, tyX1_ok, fun j hj => by rcases (show j = 0 ∨ j = 1 ∨ j = 2 ∨ j = 3 ∨ j = 4 ∨ j = 5 ∨ j = 6 by omega) with rfl | rfl | rfl | rfl | rfl | rfl | rfl <;> rfl⟩
theorem zn_c2 : zn_Cl 2 RX2 2 [.null, .null] := ⟨TX2, tyX2, rfl, zk_u2, ins_X2, in_X2, tyX2_ok, fun j hj => by rcases (show j = 0 ∨ j = 1 by omega) with rfl | rfl <;> rfl⟩
theorem zn_c3 : zn_Cl 3 RX3 2 [.null, .int 0] := ⟨TX3, tyX3, rfl, zk_u3, ins_X3, in_X3, tyX3_ok, fun j hj => by rcases (show j = 0 ∨ j = 1 by omega) with rfl | rfl <;> rfl⟩
theorem zn_c4 : zn_Cl 4 RX4 14 [.null, .null, .null, .null, .null, .null, .null, .null, .null, .null, .null, .null, .int 0, .int 0] := ⟨TX4, tyX4, rfl, zk_u4, ins_X4, in_X4, tyX4_ok, fun j hj => by rcases (show j = 0 ∨ j = 1 ∨ j = 2 ∨ j = 3 ∨ j = 4 ∨ j = 5 ∨ j = 6 ∨ j = 7 ∨ j = 8 ∨ j = 9 ∨ j = 10 ∨ j = 11 ∨ j = 12 ∨ j = 13 by omega) with rfl | rfl | rfl | rfl | rfl | rfl | rfl | rfl | rfl | rfl | rfl | rfl | rfl | rfl <;> rfl⟩
theorem zn_c5 : zn_Cl 5 RX5 15 [.null, .null, .null, .null, .null, .int 0, .null, .null, .null, .int 0, .int 0, .int 0, .null, .null, .int 0] := ⟨TX5, tyX5, rfl, zk_u5, ins_X5, in_X5, tyX5_ok, fun j hj => by rcases (show j = 0 ∨ j = 1 ∨ j = 2 ∨ j = 3 ∨ j = 4 ∨ j = 5 ∨ j = 6 ∨ j = 7 ∨ j = 8 ∨ j = 9 ∨ j = 10 ∨ j = 11 ∨ j = 12 ∨ j = 13 ∨ j = 14 by omega) with rfl | rfl | rfl | rfl | rfl | rfl | rfl | rfl | rfl | rfl | rfl | rfl | rfl | rfl | rfl <;> rfl⟩
theorem gt_X0_0 : zn_FT RX0 0 0 (.object RX2) := fun C T N h => by
  have e : (RX0, TX0, 4) = (C, T, N) := Option.some.inj h
  cases e
  exact ⟨⟨tyX0, tyX0_ok⟩, nmX0, rfl, rfl, by decide +kernel⟩
theorem gt_X0_1 : zn_FT RX0 0 1 (.array (.object RX1)) := fun C T N h => by
  have e : (RX0, TX0, 4) = (C, T, N) := Option.some.inj h
  cases e
  exact ⟨⟨tyX0, tyX0_ok⟩, nmX0, rfl, rfl, by decide +kernel⟩
theorem gt_X2_0 : zn_FT RX2 2 0 (.array .int) := fun C T N h => by
  have e : (RX2, TX2, 2) = (C, T, N) := Option.some.inj h
  cases e
  exact ⟨⟨tyX2, tyX2_ok⟩, nmX2, rfl, rfl, by decide +kernel⟩
theorem gt_X2_1 : zn_FT RX2 2 1 (.array .int) := fun C T N h => by
  have e : (RX2, TX2, 2) = (C, T, N) := Option.some.inj h
  cases e
  exact ⟨⟨tyX2, tyX2_ok⟩, nmX2, rfl, rfl, by decide +kernel⟩
theorem gt_X3_0 : zn_FT RX3 3 0 (.array .int) := fun C T N h => by
  have e : (RX3, TX3, 2) = (C, T, N) := Option.some.inj h
  cases e
  exact ⟨⟨tyX3, tyX3_ok⟩, nmX3, rfl, rfl, by decide +kernel⟩
theorem gt_X4_0 : zn_FT RX4 4 0 (.object RX0) := fun C T N h => by
  have e : (RX4, TX4, 14) = (C, T, N) := Option.some.inj h
  cases e
  exact ⟨⟨tyX4, tyX4_ok⟩, nmX4, rfl, rfl, by decide +kernel⟩
theorem gt_X4_1 : zn_FT RX4 4 1 (.object RX0) := fun C T N h => by
  have e : (RX4, TX4, 14) = (C, T, N) := Option.some.inj h
  cases e
  exact ⟨⟨tyX4, tyX4_ok⟩, nmX4, rfl, rfl, by decide +kernel⟩
theorem gt_X4_2 : zn_FT RX4 4 2 (.object RX0) := fun C T N h => by
  have e : (RX4, TX4, 14) = (C, T, N) := Option.some.inj h
  cases e
  exact ⟨⟨tyX4, tyX4_ok⟩, nmX4, rfl, rfl, by decide +kernel⟩
theorem gt_X4_3 : zn_FT RX4 4 3 (.object RX2) := fun C T N h => by
  have e : (RX4, TX4, 14) = (C, T, N) := Option.some.inj h
  cases e
  exact ⟨⟨tyX4, tyX4_ok⟩, nmX4, rfl, rfl, by decide +kernel⟩
theorem gt_X4_4 : zn_FT RX4 4 4 (.object RX1) := fun C T N h => by
  have e : (RX4, TX4, 14) = (C, T, N) := Option.some.inj h
  cases e
  exact ⟨⟨tyX4, tyX4_ok⟩, nmX4, rfl, rfl, by decide +kernel⟩
theorem gt_X4_5 : zn_FT RX4 4 5 (.object RX1) := fun C T N h => by
  have e : (RX4, TX4, 14) = (C, T, N) := Option.some.inj h
  cases e
  exact ⟨⟨tyX4, tyX4_ok⟩, nmX4, rfl, rfl, by decide +kernel⟩
theorem gt_X4_6 : zn_FT RX4 4 6 (.object RX3) := fun C T N h => by
  have e : (RX4, TX4, 14) = (C, T, N) := Option.some.inj h
  cases e
  exact ⟨⟨tyX4, tyX4_ok⟩, nmX4, rfl, rfl, by decide +kernel⟩
theorem gt_X4_7 : zn_FT RX4 4 7 (.array .int) := fun C T N h => by
  have e : (RX4, TX4, 14) = (C, T, N) := Option.some.inj h
  cases e
  exact ⟨⟨tyX4, tyX4_ok⟩, nmX4, rfl, rfl, by decide +kernel⟩
theorem gt_X4_8 : zn_FT RX4 4 8 (.array .int) := fun C T N h => by
  have e : (RX4, TX4, 14) = (C, T, N) := Option.some.inj h
  cases e
  exact ⟨⟨tyX4, tyX4_ok⟩, nmX4, rfl, rfl, by decide +kernel⟩
theorem gt_X4_9 : zn_FT RX4 4 9 (.array .int) := fun C T N h => by
  have e : (RX4, TX4, 14) = (C, T, N) := Option.some.inj h
  cases e
  exact ⟨⟨tyX4, tyX4_ok⟩, nmX4, rfl, rfl, by decide +kernel⟩
theorem gt_X4_10 : zn_FT RX4 4 10 (.array .long) := fun C T N h => by
  have e : (RX4, TX4, 14) = (C, T, N) := Option.some.inj h
  cases e
  exact ⟨⟨tyX4, tyX4_ok⟩, nmX4, rfl, rfl, by decide +kernel⟩
theorem gt_X4_11 : zn_FT RX4 4 11 (.array .long) := fun C T N h => by
  have e : (RX4, TX4, 14) = (C, T, N) := Option.some.inj h
  cases e
  exact ⟨⟨tyX4, tyX4_ok⟩, nmX4, rfl, rfl, by decide +kernel⟩
theorem gt_X5_0 : zn_FT RX5 5 0 (.array .int) := fun C T N h => by
  have e : (RX5, TX5, 15) = (C, T, N) := Option.some.inj h
  cases e
  exact ⟨⟨tyX5, tyX5_ok⟩, nmX5, rfl, rfl, by decide +kernel⟩
theorem gt_X5_1 : zn_FT RX5 5 1 (.array .int) := fun C T N h => by
  have e : (RX5, TX5, 15) = (C, T, N) := Option.some.inj h
  cases e
  exact ⟨⟨tyX5, tyX5_ok⟩, nmX5, rfl, rfl, by decide +kernel⟩
theorem gt_X5_2 : zn_FT RX5 5 2 (.array .int) := fun C T N h => by
  have e : (RX5, TX5, 15) = (C, T, N) := Option.some.inj h
  cases e
  exact ⟨⟨tyX5, tyX5_ok⟩, nmX5, rfl, rfl, by decide +kernel⟩
theorem gt_X5_3 : zn_FT RX5 5 3 (.array .int) := fun C T N h => by
  have e : (RX5, TX5, 15) = (C, T, N) := Option.some.inj h
  cases e
  exact ⟨⟨tyX5, tyX5_ok⟩, nmX5, rfl, rfl, by decide +kernel⟩
theorem gt_X5_4 : zn_FT RX5 5 4 (.array .int) := fun C T N h => by
  have e : (RX5, TX5, 15) = (C, T, N) := Option.some.inj h
  cases e
  exact ⟨⟨tyX5, tyX5_ok⟩, nmX5, rfl, rfl, by decide +kernel⟩
theorem gt_X5_6 : zn_FT RX5 5 6 (.array .int) := fun C T N h => by
  have e : (RX5, TX5, 15) = (C, T, N) := Option.some.inj h
  cases e
  exact ⟨⟨tyX5, tyX5_ok⟩, nmX5, rfl, rfl, by decide +kernel⟩
theorem gt_X5_7 : zn_FT RX5 5 7 (.array .int) := fun C T N h => by
  have e : (RX5, TX5, 15) = (C, T, N) := Option.some.inj h
  cases e
  exact ⟨⟨tyX5, tyX5_ok⟩, nmX5, rfl, rfl, by decide +kernel⟩
theorem gt_X5_8 : zn_FT RX5 5 8 (.array .int) := fun C T N h => by
  have e : (RX5, TX5, 15) = (C, T, N) := Option.some.inj h
  cases e
  exact ⟨⟨tyX5, tyX5_ok⟩, nmX5, rfl, rfl, by decide +kernel⟩
theorem gt_X5_12 : zn_FT RX5 5 12 (.array .int) := fun C T N h => by
  have e : (RX5, TX5, 15) = (C, T, N) := Option.some.inj h
  cases e
  exact ⟨⟨tyX5, tyX5_ok⟩, nmX5, rfl, rfl, by decide +kernel⟩
theorem gt_X5_13 : zn_FT RX5 5 13 (.array .int) := fun C T N h => by
  have e : (RX5, TX5, 15) = (C, T, N) := Option.some.inj h
  cases e
  exact ⟨⟨tyX5, tyX5_ok⟩, nmX5, rfl, rfl, by decide +kernel⟩
def zn_T0 : Nat → Int32 := zs_fw (fun _ => 0) (fun _ => 0)
def zn_h : zk_Sh := (1, fun _ => 1, fun _ => 0, fun _ _ => 0)
def zn_t : zk_Sh := (2, fun o => ([3, 100] : List Nat).getD o 0, fun o => ([0, 96] : List Nat).getD o 0, fun _ _ => 1)
def zn_r : zk_Sh := (3, fun o => ([2, 100, 100] : List Nat).getD o 0, fun o => ([0, 8, 64] : List Nat).getD o 0, fun _ k => 1 + k)
def zn_cr (o k : Nat) : Nat := match o with
  | 0 => if k = 0 then 1 else 4
  | 1 => 2 + k
  | 4 => 5 + k
  | _ => 0
def zn_c : zk_Sh := (11, fun o => ([0, 2, 100, 100, 102, 1, 1, 1, 1, 1, 1] : List Nat).getD o 0, fun o => ([0, 0, 8, 64, 6, 0, 0, 0, 0, 0, 0] : List Nat).getD o 0, zn_cr)
def zn_M0 : zk_M := fun _ _ => 0
def zn_L0 : zk_L := fun _ _ => 0
def zn_Mr : zk_M := va_up zn_M0 2 zn_T0
def zn_Mc : zk_M := va_up zn_M0 3 zn_T0
def zn_M4 : zk_M := va_up (va_up (va_up (va_up zn_M0 4 zn_T0) 15 zn_T0) 26 zn_T0) 36 zn_T0
theorem zn_hA {h sz : Nat} : ∀ q, sz ≤ q → zn_A h sz q := fun _ h => Or.inr h
set_option maxRecDepth 100000 in
set_option maxHeartbeats 4000000 in
theorem zn_X1 {l : Launch} : zn_C l 1 0 0 muX1_init 1 [.int 0, .int 0, .int 0, .int 0, .int 0, .int 0, .int 0] zn_h zn_M0 zn_L0 := by
  refine zn_ofW (by decide) rfl rfl (by decide) ?_
  intro p e s m args below meth c cs D h ls X hin Z hl
  refine lv_aload_n X.1.1 X.1.2.1 dX1_init_0 rfl (lv_at hl 0 rfl) ?_
  refine zn_obj X hl.1 ml_X1_3 dX1_init_1 (Nat.le_of_ble_eq_true rfl) (Nat.le_of_ble_eq_true rfl) ?_
  exact zn_ret (ad := fun _ => h) X rfl Z.2.2 rfl (zn_toH Z (fun o ho => by
    have ho : o < 1 := ho
    obtain rfl : o = 0 := by omega
    exact ⟨_, rfl, fun x => x⟩)) (Nat.le_of_ble_eq_true rfl) (Nat.le_of_ble_eq_true rfl) dX1_init_4
set_option maxRecDepth 100000 in
set_option maxHeartbeats 4000000 in
theorem zn_X3 {l : Launch} : zn_C l 1 1 96 muX3_init 3 [.null, .int 0] zn_t zn_M0 zn_L0 := by
  refine zn_ofW (by decide) rfl rfl (by decide) ?_
  intro p e s m args below meth c cs D h ls X hin Z hl
  refine lv_aload_n X.1.1 X.1.2.1 dX3_init_0 rfl (lv_at hl 0 rfl) ?_
  refine zn_obj X hl.1 ml_X3_3 dX3_init_1 (Nat.le_of_ble_eq_true rfl) (Nat.le_of_ble_eq_true rfl) ?_
  refine lv_aload_n X.1.1 X.1.2.1 dX3_init_4 rfl (lv_at hl 0 rfl) ?_
  refine lv_bipush (v := 96) X.1.1 X.1.2.1 dX3_init_5 (by decide) ?_
  refine zn_newI (N := 96) X zn_hA Z (by decide) (by decide) (Nat.le_of_ble_eq_true rfl) dX3_init_7 (Nat.le_of_ble_eq_true rfl) (Nat.le_of_ble_eq_true rfl) (fun q1 H Z => ?_)
  refine zn_put (o := 0) X hin Z rfl fl_X3_9 gt_X3_0 rfl rfl (Nat.le_of_ble_eq_true rfl) dX3_init_9 (fun H locs Z => ?_)
  exact zn_ret (ad := fun o => ([h, q1] : List Nat).getD o 0) X rfl Z.2.2 rfl (zn_toH Z (fun o ho => by
    have ho : o < 2 := ho
    rcases (show o = 0 ∨ o = 1 by omega) with rfl | rfl <;> exact ⟨_, rfl, fun x => x⟩)) (Nat.le_of_ble_eq_true rfl) (Nat.le_of_ble_eq_true rfl) dX3_init_12
set_option maxRecDepth 100000 in
set_option maxHeartbeats 4000000 in
theorem zn_X2 {l : Launch} : zn_C l 3 2 72 muX2_init 2 [.null, .null] zn_r zn_Mr zn_L0 := by
  refine zn_ofW (by decide) rfl rfl (by decide) ?_
  intro p e s m args below meth c cs D h ls X hin Z hl
  refine lv_aload_n X.1.1 X.1.2.1 dX2_init_0 rfl (lv_at hl 0 rfl) ?_
  refine zn_obj X hl.1 ml_X2_3 dX2_init_1 (Nat.le_of_ble_eq_true rfl) (Nat.le_of_ble_eq_true rfl) ?_
  refine lv_aload_n X.1.1 X.1.2.1 dX2_init_4 rfl (lv_at hl 0 rfl) ?_
  refine lv_bipush (v := 8) X.1.1 X.1.2.1 dX2_init_5 (by decide) ?_
  refine zn_newI (N := 8) X zn_hA Z (by decide) (by decide) (Nat.le_of_ble_eq_true rfl) dX2_init_7 (Nat.le_of_ble_eq_true rfl) (Nat.le_of_ble_eq_true rfl) (fun q1 H Z => ?_)
  refine zn_put (o := 0) X hin Z rfl fl_X2_9 gt_X2_0 rfl rfl (Nat.le_of_ble_eq_true rfl) dX2_init_9 (fun H locs Z => ?_)
  refine lv_aload_n X.1.1 X.1.2.1 dX2_init_12 rfl (lv_at hl 0 rfl) ?_
  refine lv_bipush (v := 64) X.1.1 X.1.2.1 dX2_init_13 (by decide) ?_
  refine zn_newI (N := 64) X zn_hA Z (by decide) (by decide) (Nat.le_of_ble_eq_true rfl) dX2_init_15 (Nat.le_of_ble_eq_true rfl) (Nat.le_of_ble_eq_true rfl) (fun q2 H Z => ?_)
  refine zn_put (o := 0) X hin Z rfl fl_X2_15 gt_X2_1 rfl rfl (Nat.le_of_ble_eq_true rfl) dX2_init_17 (fun H locs Z => ?_)
  refine lv_aload_n X.1.1 X.1.2.1 dX2_init_20 rfl (lv_at hl 0 rfl) ?_
  have hH : zk_H zn_r (fun o => ([h, q1, q2] : List Nat).getD o 0) cs D (zn_A h s.heap.size) zn_M0 zn_L0 H := zn_toH Z (fun o ho => by
    have ho : o < 3 := ho
    rcases (show o = 0 ∨ o = 1 ∨ o = 2 by omega) with rfl | rfl | rfl <;> exact ⟨_, rfl, fun x => x⟩)
  refine zw_callV (as := []) (o := 0) (st := []) X.1 hH Z.2.2 zn_hA hl.1 (qX2_reckonSteps (n := 0) ⟨by decide, rfl, ⟨by decide, rfl, rfl⟩, ⟨by decide, rfl, rfl⟩, by decide⟩) dX2_init_21 mwX2_reckonSteps ml_X2_18 (by decide) rfl rfl (Nat.le_of_ble_eq_true rfl) (Nat.le_of_ble_eq_true rfl) (Nat.le_of_ble_eq_true rfl) (Nat.le_of_ble_eq_true rfl) (Nat.le_of_ble_eq_true rfl) rfl (fun r M1 L1 H1 locs1 hq hH1 hS1 _ _ => ?_)
  obtain ⟨rfl, rfl, rfl⟩ := hq
  exact zn_ret X rfl hS1 rfl hH1 (Nat.le_of_ble_eq_true rfl) (Nat.le_of_ble_eq_true rfl) dX2_init_24
set_option maxRecDepth 100000 in
set_option maxHeartbeats 4000000 in
theorem zn_X0 {l : Launch} : zn_C l 4 10 122 muX0_init 0 [.null, .null, .int 0, .int 0] zn_c zn_Mc zn_L0 := by
  refine zn_ofW (by decide) rfl rfl (by decide) ?_
  intro p e s m args below meth c cs D h ls X hin Z hl
  refine lv_aload_n X.1.1 X.1.2.1 dX0_init_0 rfl (lv_at hl 0 rfl) ?_
  refine zn_obj X hl.1 ml_X0_3 dX0_init_1 (Nat.le_of_ble_eq_true rfl) (Nat.le_of_ble_eq_true rfl) ?_
  refine lv_aload_n X.1.1 X.1.2.1 dX0_init_4 rfl (lv_at hl 0 rfl) ?_
  refine zn_new X zn_hA Z zn_c2 cl_X0_9 dX0_init_5 (Nat.le_of_ble_eq_true rfl) (Nat.le_of_ble_eq_true rfl) (fun r H Z => ?_)
  refine lv_dup X.1.1 X.1.2.1 dX0_init_8 rfl ?_
  refine zn_init X zn_hA Z hl.1 zn_X2 miX2_init rfl rfl im_X2 ml_X0_11 dX0_init_9 (Nat.le_of_ble_eq_true rfl) (Nat.le_of_ble_eq_true rfl) (Nat.le_of_ble_eq_true rfl) (Nat.le_of_ble_eq_true rfl) (Nat.le_of_ble_eq_true rfl) (fun ad H locs had Z => ?_)
  have Z : zn_S D (zn_A h s.heap.size) s H locs [(h, .inr (0, [.null, .null, .int 0, .int 0])), (ad 0, .inr (2, [.ref (ad 1), .ref (ad 2)])), (ad 1, .inl (cs.1, 8, .inl (fun _ => 0))), (ad 2, .inl (cs.1, 64, .inl zn_T0))] := Z
  rw [had] at Z
  refine zn_put (o := 0) X hin Z rfl fl_X0_12 gt_X0_0 rfl rfl (Nat.le_of_ble_eq_true rfl) dX0_init_12 (fun H locs Z => ?_)
  refine lv_aload_n X.1.1 X.1.2.1 dX0_init_15 rfl (lv_at hl 0 rfl) ?_
  refine lv_bipush (v := 6) X.1.1 X.1.2.1 dX0_init_16 (by decide) ?_
  refine zn_newR (N := 6) X zn_hA Z cl_X0_18 (by decide) (by decide) (Nat.le_of_ble_eq_true rfl) dX0_init_18 (Nat.le_of_ble_eq_true rfl) (Nat.le_of_ble_eq_true rfl) (fun q H Z => ?_)
  refine zn_put (o := 0) X hin Z rfl fl_X0_20 gt_X0_1 rfl rfl (Nat.le_of_ble_eq_true rfl) dX0_init_21 (fun H locs Z => ?_)
  have Z : zn_S D (zn_A h s.heap.size) s H locs [(h, .inr (0, [.ref r, .ref q, .int 0, .int 0])), (r, .inr (2, [.ref (ad 1), .ref (ad 2)])), (ad 1, .inl (cs.1, 8, .inl (fun _ => 0))), (ad 2, .inl (cs.1, 64, .inl zn_T0)), (q, .inl (cs.2.2, 6, .inr (.inr (.inr (.inr (fun _ => none))))))] := Z
  refine lv_iconst (v := 0) X.1.1 X.1.2.1 dX0_init_24 (by decide) ?_
  refine lv_istore_n X.1.1 X.1.2.1 dX0_init_25 rfl hl (by decide) rfl (fun ls hl => ?_)
  have hl : lv_has ls 2 [(1, .int 0), (0, .ref h)] := hl
  refine lv_iload_n X.1.1 X.1.2.1 dX0_init_26 rfl (lv_at hl 0 rfl) ?_
  refine lv_bipush (v := 6) X.1.1 X.1.2.1 dX0_init_27 (by decide) ?_
  refine lv_icmp_ge (tgt := 51) X.1.1 X.1.2.1 dX0_init_29 (by decide) (fun hh => absurd hh (by decide)) (fun _ => ?_)
  refine lv_aload_n X.1.1 X.1.2.1 dX0_init_32 rfl (lv_at hl 1 rfl) ?_
  refine zn_get (o := 0) X Z rfl fl_X0_20 rfl dX0_init_33 ?_
  refine lv_iload_n X.1.1 X.1.2.1 dX0_init_36 rfl (lv_at hl 0 rfl) ?_
  refine zn_new X zn_hA Z zn_c1 cl_X0_18 dX0_init_37 (Nat.le_of_ble_eq_true rfl) (Nat.le_of_ble_eq_true rfl) (fun k0 H Z => ?_)
  refine lv_dup X.1.1 X.1.2.1 dX0_init_40 rfl ?_
  refine zn_init X zn_hA Z hl.1 zn_X1 miX1_init rfl rfl im_X1 ml_X0_24 dX0_init_41 (Nat.le_of_ble_eq_true rfl) (Nat.le_of_ble_eq_true rfl) (Nat.le_of_ble_eq_true rfl) (Nat.le_of_ble_eq_true rfl) (Nat.le_of_ble_eq_true rfl) (fun a0 H locs had Z => ?_)
  have Z : zn_S D (zn_A h s.heap.size) s H locs ([(h, .inr (0, [.ref r, .ref q, .int 0, .int 0])), (r, .inr (2, [.ref (ad 1), .ref (ad 2)])), (ad 1, .inl (cs.1, 8, .inl (fun _ => 0))), (ad 2, .inl (cs.1, 64, .inl zn_T0)), (q, .inl (cs.2.2, 6, .inr (.inr (.inr (.inr (fun _ => none))))))] ++ [(a0 0, .inr (1, [.int 0, .int 0, .int 0, .int 0, .int 0, .int 0, .int 0]))]) := Z
  rw [had] at Z
  have Z : zn_S D (zn_A h s.heap.size) s H locs [(h, .inr (0, [.ref r, .ref q, .int 0, .int 0])), (r, .inr (2, [.ref (ad 1), .ref (ad 2)])), (ad 1, .inl (cs.1, 8, .inl (fun _ => 0))), (ad 2, .inl (cs.1, 64, .inl zn_T0)), (q, .inl (cs.2.2, 6, .inr (.inr (.inr (.inr (fun _ => none)))))), (k0, .inr (1, [.int 0, .int 0, .int 0, .int 0, .int 0, .int 0, .int 0]))] := Z
  refine zn_ast (o := 4) (ok := 5) X Z rfl rfl (vp_in_iff.mpr (by decide)) dX0_init_44 (fun H locs Z => ?_)
  have Z : zn_S D (zn_A h s.heap.size) s H locs [(h, .inr (0, [.ref r, .ref q, .int 0, .int 0])), (r, .inr (2, [.ref (ad 1), .ref (ad 2)])), (ad 1, .inl (cs.1, 8, .inl (fun _ => 0))), (ad 2, .inl (cs.1, 64, .inl zn_T0)), (q, .inl (cs.2.2, 6, .inr (.inr (.inr (.inr (va_up (fun _ => none) 0 (some k0))))))), (k0, .inr (1, [.int 0, .int 0, .int 0, .int 0, .int 0, .int 0, .int 0]))] := Z
  refine lv_iinc (k := 0) (v := 1) X.1.1 X.1.2.1 dX0_init_45 hl rfl (by decide) (by decide) rfl (fun ls hl => ?_)
  have hl : lv_has ls 2 [(1, .int 1), (0, .ref h)] := hl
  refine lv_goto (tgt := 26) X.1.1 X.1.2.1 dX0_init_48 (by decide) ?_
  refine lv_iload_n X.1.1 X.1.2.1 dX0_init_26 rfl (lv_at hl 0 rfl) ?_
  refine lv_bipush (v := 6) X.1.1 X.1.2.1 dX0_init_27 (by decide) ?_
  refine lv_icmp_ge (tgt := 51) X.1.1 X.1.2.1 dX0_init_29 (by decide) (fun hh => absurd hh (by decide)) (fun _ => ?_)
  refine lv_aload_n X.1.1 X.1.2.1 dX0_init_32 rfl (lv_at hl 1 rfl) ?_
  refine zn_get (o := 0) X Z rfl fl_X0_20 rfl dX0_init_33 ?_
  refine lv_iload_n X.1.1 X.1.2.1 dX0_init_36 rfl (lv_at hl 0 rfl) ?_
  refine zn_new X zn_hA Z zn_c1 cl_X0_18 dX0_init_37 (Nat.le_of_ble_eq_true rfl) (Nat.le_of_ble_eq_true rfl) (fun k1 H Z => ?_)
  refine lv_dup X.1.1 X.1.2.1 dX0_init_40 rfl ?_
  refine zn_init X zn_hA Z hl.1 zn_X1 miX1_init rfl rfl im_X1 ml_X0_24 dX0_init_41 (Nat.le_of_ble_eq_true rfl) (Nat.le_of_ble_eq_true rfl) (Nat.le_of_ble_eq_true rfl) (Nat.le_of_ble_eq_true rfl) (Nat.le_of_ble_eq_true rfl) (fun a1 H locs had Z => ?_)
  have Z : zn_S D (zn_A h s.heap.size) s H locs ([(h, .inr (0, [.ref r, .ref q, .int 0, .int 0])), (r, .inr (2, [.ref (ad 1), .ref (ad 2)])), (ad 1, .inl (cs.1, 8, .inl (fun _ => 0))), (ad 2, .inl (cs.1, 64, .inl zn_T0)), (q, .inl (cs.2.2, 6, .inr (.inr (.inr (.inr (va_up (fun _ => none) 0 (some k0))))))), (k0, .inr (1, [.int 0, .int 0, .int 0, .int 0, .int 0, .int 0, .int 0]))] ++ [(a1 0, .inr (1, [.int 0, .int 0, .int 0, .int 0, .int 0, .int 0, .int 0]))]) := Z
  rw [had] at Z
  have Z : zn_S D (zn_A h s.heap.size) s H locs [(h, .inr (0, [.ref r, .ref q, .int 0, .int 0])), (r, .inr (2, [.ref (ad 1), .ref (ad 2)])), (ad 1, .inl (cs.1, 8, .inl (fun _ => 0))), (ad 2, .inl (cs.1, 64, .inl zn_T0)), (q, .inl (cs.2.2, 6, .inr (.inr (.inr (.inr (va_up (fun _ => none) 0 (some k0))))))), (k0, .inr (1, [.int 0, .int 0, .int 0, .int 0, .int 0, .int 0, .int 0])), (k1, .inr (1, [.int 0, .int 0, .int 0, .int 0, .int 0, .int 0, .int 0]))] := Z
  refine zn_ast (o := 4) (ok := 6) X Z rfl rfl (vp_in_iff.mpr (by decide)) dX0_init_44 (fun H locs Z => ?_)
  have Z : zn_S D (zn_A h s.heap.size) s H locs [(h, .inr (0, [.ref r, .ref q, .int 0, .int 0])), (r, .inr (2, [.ref (ad 1), .ref (ad 2)])), (ad 1, .inl (cs.1, 8, .inl (fun _ => 0))), (ad 2, .inl (cs.1, 64, .inl zn_T0)), (q, .inl (cs.2.2, 6, .inr (.inr (.inr (.inr (va_up (va_up (fun _ => none) 0 (some k0)) 1 (some k1))))))), (k0, .inr (1, [.int 0, .int 0, .int 0, .int 0, .int 0, .int 0, .int 0])), (k1, .inr (1, [.int 0, .int 0, .int 0, .int 0, .int 0, .int 0, .int 0]))] := Z
  refine lv_iinc (k := 0) (v := 2) X.1.1 X.1.2.1 dX0_init_45 hl rfl (by decide) (by decide) rfl (fun ls hl => ?_)
  have hl : lv_has ls 2 [(1, .int 2), (0, .ref h)] := hl
  refine lv_goto (tgt := 26) X.1.1 X.1.2.1 dX0_init_48 (by decide) ?_
  refine lv_iload_n X.1.1 X.1.2.1 dX0_init_26 rfl (lv_at hl 0 rfl) ?_
  refine lv_bipush (v := 6) X.1.1 X.1.2.1 dX0_init_27 (by decide) ?_
  refine lv_icmp_ge (tgt := 51) X.1.1 X.1.2.1 dX0_init_29 (by decide) (fun hh => absurd hh (by decide)) (fun _ => ?_)
  refine lv_aload_n X.1.1 X.1.2.1 dX0_init_32 rfl (lv_at hl 1 rfl) ?_
  refine zn_get (o := 0) X Z rfl fl_X0_20 rfl dX0_init_33 ?_
  refine lv_iload_n X.1.1 X.1.2.1 dX0_init_36 rfl (lv_at hl 0 rfl) ?_
  refine zn_new X zn_hA Z zn_c1 cl_X0_18 dX0_init_37 (Nat.le_of_ble_eq_true rfl) (Nat.le_of_ble_eq_true rfl) (fun k2 H Z => ?_)
  refine lv_dup X.1.1 X.1.2.1 dX0_init_40 rfl ?_
  refine zn_init X zn_hA Z hl.1 zn_X1 miX1_init rfl rfl im_X1 ml_X0_24 dX0_init_41 (Nat.le_of_ble_eq_true rfl) (Nat.le_of_ble_eq_true rfl) (Nat.le_of_ble_eq_true rfl) (Nat.le_of_ble_eq_true rfl) (Nat.le_of_ble_eq_true rfl) (fun a2 H locs had Z => ?_)
  have Z : zn_S D (zn_A h s.heap.size) s H locs ([(h, .inr (0, [.ref r, .ref q, .int 0, .int 0])), (r, .inr (2, [.ref (ad 1), .ref (ad 2)])), (ad 1, .inl (cs.1, 8, .inl (fun _ => 0))), (ad 2, .inl (cs.1, 64, .inl zn_T0)), (q, .inl (cs.2.2, 6, .inr (.inr (.inr (.inr (va_up (va_up (fun _ => none) 0 (some k0)) 1 (some k1))))))), (k0, .inr (1, [.int 0, .int 0, .int 0, .int 0, .int 0, .int 0, .int 0])), (k1, .inr (1, [.int 0, .int 0, .int 0, .int 0, .int 0, .int 0, .int 0]))] ++ [(a2 0, .inr (1, [.int 0, .int 0, .int 0, .int 0, .int 0, .int 0, .int 0]))]) := Z
  rw [had] at Z
  have Z : zn_S D (zn_A h s.heap.size) s H locs [(h, .inr (0, [.ref r, .ref q, .int 0, .int 0])), (r, .inr (2, [.ref (ad 1), .ref (ad 2)])), (ad 1, .inl (cs.1, 8, .inl (fun _ => 0))), (ad 2, .inl (cs.1, 64, .inl zn_T0)), (q, .inl (cs.2.2, 6, .inr (.inr (.inr (.inr (va_up (va_up (fun _ => none) 0 (some k0)) 1 (some k1))))))), (k0, .inr (1, [.int 0, .int 0, .int 0, .int 0, .int 0, .int 0, .int 0])), (k1, .inr (1, [.int 0, .int 0, .int 0, .int 0, .int 0, .int 0, .int 0])), (k2, .inr (1, [.int 0, .int 0, .int 0, .int 0, .int 0, .int 0, .int 0]))] := Z
  refine zn_ast (o := 4) (ok := 7) X Z rfl rfl (vp_in_iff.mpr (by decide)) dX0_init_44 (fun H locs Z => ?_)
  have Z : zn_S D (zn_A h s.heap.size) s H locs [(h, .inr (0, [.ref r, .ref q, .int 0, .int 0])), (r, .inr (2, [.ref (ad 1), .ref (ad 2)])), (ad 1, .inl (cs.1, 8, .inl (fun _ => 0))), (ad 2, .inl (cs.1, 64, .inl zn_T0)), (q, .inl (cs.2.2, 6, .inr (.inr (.inr (.inr (va_up (va_up (va_up (fun _ => none) 0 (some k0)) 1 (some k1)) 2 (some k2))))))), (k0, .inr (1, [.int 0, .int 0, .int 0, .int 0, .int 0, .int 0, .int 0])), (k1, .inr (1, [.int 0, .int 0, .int 0, .int 0, .int 0, .int 0, .int 0])), (k2, .inr (1, [.int 0, .int 0, .int 0, .int 0, .int 0, .int 0, .int 0]))] := Z
  refine lv_iinc (k := 0) (v := 3) X.1.1 X.1.2.1 dX0_init_45 hl rfl (by decide) (by decide) rfl (fun ls hl => ?_)
  have hl : lv_has ls 2 [(1, .int 3), (0, .ref h)] := hl
  refine lv_goto (tgt := 26) X.1.1 X.1.2.1 dX0_init_48 (by decide) ?_
  refine lv_iload_n X.1.1 X.1.2.1 dX0_init_26 rfl (lv_at hl 0 rfl) ?_
  refine lv_bipush (v := 6) X.1.1 X.1.2.1 dX0_init_27 (by decide) ?_
  refine lv_icmp_ge (tgt := 51) X.1.1 X.1.2.1 dX0_init_29 (by decide) (fun hh => absurd hh (by decide)) (fun _ => ?_)
  refine lv_aload_n X.1.1 X.1.2.1 dX0_init_32 rfl (lv_at hl 1 rfl) ?_
  refine zn_get (o := 0) X Z rfl fl_X0_20 rfl dX0_init_33 ?_
  refine lv_iload_n X.1.1 X.1.2.1 dX0_init_36 rfl (lv_at hl 0 rfl) ?_
  refine zn_new X zn_hA Z zn_c1 cl_X0_18 dX0_init_37 (Nat.le_of_ble_eq_true rfl) (Nat.le_of_ble_eq_true rfl) (fun k3 H Z => ?_)
  refine lv_dup X.1.1 X.1.2.1 dX0_init_40 rfl ?_
  refine zn_init X zn_hA Z hl.1 zn_X1 miX1_init rfl rfl im_X1 ml_X0_24 dX0_init_41 (Nat.le_of_ble_eq_true rfl) (Nat.le_of_ble_eq_true rfl) (Nat.le_of_ble_eq_true rfl) (Nat.le_of_ble_eq_true rfl) (Nat.le_of_ble_eq_true rfl) (fun a3 H locs had Z => ?_)
  have Z : zn_S D (zn_A h s.heap.size) s H locs ([(h, .inr (0, [.ref r, .ref q, .int 0, .int 0])), (r, .inr (2, [.ref (ad 1), .ref (ad 2)])), (ad 1, .inl (cs.1, 8, .inl (fun _ => 0))), (ad 2, .inl (cs.1, 64, .inl zn_T0)), (q, .inl (cs.2.2, 6, .inr (.inr (.inr (.inr (va_up (va_up (va_up (fun _ => none) 0 (some k0)) 1 (some k1)) 2 (some k2))))))), (k0, .inr (1, [.int 0, .int 0, .int 0, .int 0, .int 0, .int 0, .int 0])), (k1, .inr (1, [.int 0, .int 0, .int 0, .int 0, .int 0, .int 0, .int 0])), (k2, .inr (1, [.int 0, .int 0, .int 0, .int 0, .int 0, .int 0, .int 0]))] ++ [(a3 0, .inr (1, [.int 0, .int 0, .int 0, .int 0, .int 0, .int 0, .int 0]))]) := Z
  rw [had] at Z
  have Z : zn_S D (zn_A h s.heap.size) s H locs [(h, .inr (0, [.ref r, .ref q, .int 0, .int 0])), (r, .inr (2, [.ref (ad 1), .ref (ad 2)])), (ad 1, .inl (cs.1, 8, .inl (fun _ => 0))), (ad 2, .inl (cs.1, 64, .inl zn_T0)), (q, .inl (cs.2.2, 6, .inr (.inr (.inr (.inr (va_up (va_up (va_up (fun _ => none) 0 (some k0)) 1 (some k1)) 2 (some k2))))))), (k0, .inr (1, [.int 0, .int 0, .int 0, .int 0, .int 0, .int 0, .int 0])), (k1, .inr (1, [.int 0, .int 0, .int 0, .int 0, .int 0, .int 0, .int 0])), (k2, .inr (1, [.int 0, .int 0, .int 0, .int 0, .int 0, .int 0, .int 0])), (k3, .inr (1, [.int 0, .int 0, .int 0, .int 0, .int 0, .int 0, .int 0]))] := Z
  refine zn_ast (o := 4) (ok := 8) X Z rfl rfl (vp_in_iff.mpr (by decide)) dX0_init_44 (fun H locs Z => ?_)
  have Z : zn_S D (zn_A h s.heap.size) s H locs [(h, .inr (0, [.ref r, .ref q, .int 0, .int 0])), (r, .inr (2, [.ref (ad 1), .ref (ad 2)])), (ad 1, .inl (cs.1, 8, .inl (fun _ => 0))), (ad 2, .inl (cs.1, 64, .inl zn_T0)), (q, .inl (cs.2.2, 6, .inr (.inr (.inr (.inr (va_up (va_up (va_up (va_up (fun _ => none) 0 (some k0)) 1 (some k1)) 2 (some k2)) 3 (some k3))))))), (k0, .inr (1, [.int 0, .int 0, .int 0, .int 0, .int 0, .int 0, .int 0])), (k1, .inr (1, [.int 0, .int 0, .int 0, .int 0, .int 0, .int 0, .int 0])), (k2, .inr (1, [.int 0, .int 0, .int 0, .int 0, .int 0, .int 0, .int 0])), (k3, .inr (1, [.int 0, .int 0, .int 0, .int 0, .int 0, .int 0, .int 0]))] := Z
  refine lv_iinc (k := 0) (v := 4) X.1.1 X.1.2.1 dX0_init_45 hl rfl (by decide) (by decide) rfl (fun ls hl => ?_)
  have hl : lv_has ls 2 [(1, .int 4), (0, .ref h)] := hl
  refine lv_goto (tgt := 26) X.1.1 X.1.2.1 dX0_init_48 (by decide) ?_
  refine lv_iload_n X.1.1 X.1.2.1 dX0_init_26 rfl (lv_at hl 0 rfl) ?_
  refine lv_bipush (v := 6) X.1.1 X.1.2.1 dX0_init_27 (by decide) ?_
  refine lv_icmp_ge (tgt := 51) X.1.1 X.1.2.1 dX0_init_29 (by decide) (fun hh => absurd hh (by decide)) (fun _ => ?_)
  refine lv_aload_n X.1.1 X.1.2.1 dX0_init_32 rfl (lv_at hl 1 rfl) ?_
  refine zn_get (o := 0) X Z rfl fl_X0_20 rfl dX0_init_33 ?_
  refine lv_iload_n X.1.1 X.1.2.1 dX0_init_36 rfl (lv_at hl 0 rfl) ?_
  refine zn_new X zn_hA Z zn_c1 cl_X0_18 dX0_init_37 (Nat.le_of_ble_eq_true rfl) (Nat.le_of_ble_eq_true rfl) (fun k4 H Z => ?_)
  refine lv_dup X.1.1 X.1.2.1 dX0_init_40 rfl ?_
  refine zn_init X zn_hA Z hl.1 zn_X1 miX1_init rfl rfl im_X1 ml_X0_24 dX0_init_41 (Nat.le_of_ble_eq_true rfl) (Nat.le_of_ble_eq_true rfl) (Nat.le_of_ble_eq_true rfl) (Nat.le_of_ble_eq_true rfl) (Nat.le_of_ble_eq_true rfl) (fun a4 H locs had Z => ?_)
  have Z : zn_S D (zn_A h s.heap.size) s H locs ([(h, .inr (0, [.ref r, .ref q, .int 0, .int 0])), (r, .inr (2, [.ref (ad 1), .ref (ad 2)])), (ad 1, .inl (cs.1, 8, .inl (fun _ => 0))), (ad 2, .inl (cs.1, 64, .inl zn_T0)), (q, .inl (cs.2.2, 6, .inr (.inr (.inr (.inr (va_up (va_up (va_up (va_up (fun _ => none) 0 (some k0)) 1 (some k1)) 2 (some k2)) 3 (some k3))))))), (k0, .inr (1, [.int 0, .int 0, .int 0, .int 0, .int 0, .int 0, .int 0])), (k1, .inr (1, [.int 0, .int 0, .int 0, .int 0, .int 0, .int 0, .int 0])), (k2, .inr (1, [.int 0, .int 0, .int 0, .int 0, .int 0, .int 0, .int 0])), (k3, .inr (1, [.int 0, .int 0, .int 0, .int 0, .int 0, .int 0, .int 0]))] ++ [(a4 0, .inr (1, [.int 0, .int 0, .int 0, .int 0, .int 0, .int 0, .int 0]))]) := Z
  rw [had] at Z
  have Z : zn_S D (zn_A h s.heap.size) s H locs [(h, .inr (0, [.ref r, .ref q, .int 0, .int 0])), (r, .inr (2, [.ref (ad 1), .ref (ad 2)])), (ad 1, .inl (cs.1, 8, .inl (fun _ => 0))), (ad 2, .inl (cs.1, 64, .inl zn_T0)), (q, .inl (cs.2.2, 6, .inr (.inr (.inr (.inr (va_up (va_up (va_up (va_up (fun _ => none) 0 (some k0)) 1 (some k1)) 2 (some k2)) 3 (some k3))))))), (k0, .inr (1, [.int 0, .int 0, .int 0, .int 0, .int 0, .int 0, .int 0])), (k1, .inr (1, [.int 0, .int 0, .int 0, .int 0, .int 0, .int 0, .int 0])), (k2, .inr (1, [.int 0, .int 0, .int 0, .int 0, .int 0, .int 0, .int 0])), (k3, .inr (1, [.int 0, .int 0, .int 0, .int 0, .int 0, .int 0, .int 0])), (k4, .inr (1, [.int 0, .int 0, .int 0, .int 0, .int 0, .int 0, .int 0]))] := Z
  refine zn_ast (o := 4) (ok := 9) X Z rfl rfl (vp_in_iff.mpr (by decide)) dX0_init_44 (fun H locs Z => ?_)
  have Z : zn_S D (zn_A h s.heap.size) s H locs [(h, .inr (0, [.ref r, .ref q, .int 0, .int 0])), (r, .inr (2, [.ref (ad 1), .ref (ad 2)])), (ad 1, .inl (cs.1, 8, .inl (fun _ => 0))), (ad 2, .inl (cs.1, 64, .inl zn_T0)), (q, .inl (cs.2.2, 6, .inr (.inr (.inr (.inr (va_up (va_up (va_up (va_up (va_up (fun _ => none) 0 (some k0)) 1 (some k1)) 2 (some k2)) 3 (some k3)) 4 (some k4))))))), (k0, .inr (1, [.int 0, .int 0, .int 0, .int 0, .int 0, .int 0, .int 0])), (k1, .inr (1, [.int 0, .int 0, .int 0, .int 0, .int 0, .int 0, .int 0])), (k2, .inr (1, [.int 0, .int 0, .int 0, .int 0, .int 0, .int 0, .int 0])), (k3, .inr (1, [.int 0, .int 0, .int 0, .int 0, .int 0, .int 0, .int 0])), (k4, .inr (1, [.int 0, .int 0, .int 0, .int 0, .int 0, .int 0, .int 0]))] := Z
  refine lv_iinc (k := 0) (v := 5) X.1.1 X.1.2.1 dX0_init_45 hl rfl (by decide) (by decide) rfl (fun ls hl => ?_)
  have hl : lv_has ls 2 [(1, .int 5), (0, .ref h)] := hl
  refine lv_goto (tgt := 26) X.1.1 X.1.2.1 dX0_init_48 (by decide) ?_
  refine lv_iload_n X.1.1 X.1.2.1 dX0_init_26 rfl (lv_at hl 0 rfl) ?_
  refine lv_bipush (v := 6) X.1.1 X.1.2.1 dX0_init_27 (by decide) ?_
  refine lv_icmp_ge (tgt := 51) X.1.1 X.1.2.1 dX0_init_29 (by decide) (fun hh => absurd hh (by decide)) (fun _ => ?_)
  refine lv_aload_n X.1.1 X.1.2.1 dX0_init_32 rfl (lv_at hl 1 rfl) ?_
  refine zn_get (o := 0) X Z rfl fl_X0_20 rfl dX0_init_33 ?_
  refine lv_iload_n X.1.1 X.1.2.1 dX0_init_36 rfl (lv_at hl 0 rfl) ?_
  refine zn_new X zn_hA Z zn_c1 cl_X0_18 dX0_init_37 (Nat.le_of_ble_eq_true rfl) (Nat.le_of_ble_eq_true rfl) (fun k5 H Z => ?_)
  refine lv_dup X.1.1 X.1.2.1 dX0_init_40 rfl ?_
  refine zn_init X zn_hA Z hl.1 zn_X1 miX1_init rfl rfl im_X1 ml_X0_24 dX0_init_41 (Nat.le_of_ble_eq_true rfl) (Nat.le_of_ble_eq_true rfl) (Nat.le_of_ble_eq_true rfl) (Nat.le_of_ble_eq_true rfl) (Nat.le_of_ble_eq_true rfl) (fun a5 H locs had Z => ?_)
  have Z : zn_S D (zn_A h s.heap.size) s H locs ([(h, .inr (0, [.ref r, .ref q, .int 0, .int 0])), (r, .inr (2, [.ref (ad 1), .ref (ad 2)])), (ad 1, .inl (cs.1, 8, .inl (fun _ => 0))), (ad 2, .inl (cs.1, 64, .inl zn_T0)), (q, .inl (cs.2.2, 6, .inr (.inr (.inr (.inr (va_up (va_up (va_up (va_up (va_up (fun _ => none) 0 (some k0)) 1 (some k1)) 2 (some k2)) 3 (some k3)) 4 (some k4))))))), (k0, .inr (1, [.int 0, .int 0, .int 0, .int 0, .int 0, .int 0, .int 0])), (k1, .inr (1, [.int 0, .int 0, .int 0, .int 0, .int 0, .int 0, .int 0])), (k2, .inr (1, [.int 0, .int 0, .int 0, .int 0, .int 0, .int 0, .int 0])), (k3, .inr (1, [.int 0, .int 0, .int 0, .int 0, .int 0, .int 0, .int 0])), (k4, .inr (1, [.int 0, .int 0, .int 0, .int 0, .int 0, .int 0, .int 0]))] ++ [(a5 0, .inr (1, [.int 0, .int 0, .int 0, .int 0, .int 0, .int 0, .int 0]))]) := Z
  rw [had] at Z
  have Z : zn_S D (zn_A h s.heap.size) s H locs [(h, .inr (0, [.ref r, .ref q, .int 0, .int 0])), (r, .inr (2, [.ref (ad 1), .ref (ad 2)])), (ad 1, .inl (cs.1, 8, .inl (fun _ => 0))), (ad 2, .inl (cs.1, 64, .inl zn_T0)), (q, .inl (cs.2.2, 6, .inr (.inr (.inr (.inr (va_up (va_up (va_up (va_up (va_up (fun _ => none) 0 (some k0)) 1 (some k1)) 2 (some k2)) 3 (some k3)) 4 (some k4))))))), (k0, .inr (1, [.int 0, .int 0, .int 0, .int 0, .int 0, .int 0, .int 0])), (k1, .inr (1, [.int 0, .int 0, .int 0, .int 0, .int 0, .int 0, .int 0])), (k2, .inr (1, [.int 0, .int 0, .int 0, .int 0, .int 0, .int 0, .int 0])), (k3, .inr (1, [.int 0, .int 0, .int 0, .int 0, .int 0, .int 0, .int 0])), (k4, .inr (1, [.int 0, .int 0, .int 0, .int 0, .int 0, .int 0, .int 0])), (k5, .inr (1, [.int 0, .int 0, .int 0, .int 0, .int 0, .int 0, .int 0]))] := Z
  refine zn_ast (o := 4) (ok := 10) X Z rfl rfl (vp_in_iff.mpr (by decide)) dX0_init_44 (fun H locs Z => ?_)
  have Z : zn_S D (zn_A h s.heap.size) s H locs [(h, .inr (0, [.ref r, .ref q, .int 0, .int 0])), (r, .inr (2, [.ref (ad 1), .ref (ad 2)])), (ad 1, .inl (cs.1, 8, .inl (fun _ => 0))), (ad 2, .inl (cs.1, 64, .inl zn_T0)), (q, .inl (cs.2.2, 6, .inr (.inr (.inr (.inr (va_up (va_up (va_up (va_up (va_up (va_up (fun _ => none) 0 (some k0)) 1 (some k1)) 2 (some k2)) 3 (some k3)) 4 (some k4)) 5 (some k5))))))), (k0, .inr (1, [.int 0, .int 0, .int 0, .int 0, .int 0, .int 0, .int 0])), (k1, .inr (1, [.int 0, .int 0, .int 0, .int 0, .int 0, .int 0, .int 0])), (k2, .inr (1, [.int 0, .int 0, .int 0, .int 0, .int 0, .int 0, .int 0])), (k3, .inr (1, [.int 0, .int 0, .int 0, .int 0, .int 0, .int 0, .int 0])), (k4, .inr (1, [.int 0, .int 0, .int 0, .int 0, .int 0, .int 0, .int 0])), (k5, .inr (1, [.int 0, .int 0, .int 0, .int 0, .int 0, .int 0, .int 0]))] := Z
  refine lv_iinc (k := 0) (v := 6) X.1.1 X.1.2.1 dX0_init_45 hl rfl (by decide) (by decide) rfl (fun ls hl => ?_)
  have hl : lv_has ls 2 [(1, .int 6), (0, .ref h)] := hl
  refine lv_goto (tgt := 26) X.1.1 X.1.2.1 dX0_init_48 (by decide) ?_
  refine lv_iload_n X.1.1 X.1.2.1 dX0_init_26 rfl (lv_at hl 0 rfl) ?_
  refine lv_bipush (v := 6) X.1.1 X.1.2.1 dX0_init_27 (by decide) ?_
  refine lv_icmp_ge (tgt := 51) X.1.1 X.1.2.1 dX0_init_29 (by decide) (fun _ => ?_) (fun hh => absurd (by decide) hh)
  refine zn_ret (ad := fun o => ([h, r, ad 1, ad 2, q, k0, k1, k2, k3, k4, k5] : List Nat).getD o 0) X rfl Z.2.2 rfl (zn_toH Z (fun o ho => ?_)) (Nat.le_of_ble_eq_true rfl) (Nat.le_of_ble_eq_true rfl) dX0_init_51
  have ho : o < 11 := ho
  rcases (show o = 0 ∨ o = 1 ∨ o = 2 ∨ o = 3 ∨ o = 4 ∨ o = 5 ∨ o = 6 ∨ o = 7 ∨ o = 8 ∨ o = 9 ∨ o = 10 by omega) with rfl | rfl | rfl | rfl | rfl | rfl | rfl | rfl | rfl | rfl | rfl
  · exact ⟨_, rfl, fun x => x⟩
  · exact ⟨_, rfl, fun x => x⟩
  · exact ⟨_, rfl, fun x => x⟩
  · exact ⟨_, rfl, fun x => x⟩
  · refine ⟨_, rfl, fun x => Eq.trans x (congrArg some (zn_cell (fun j hj => ?_)))⟩
    rcases (show j = 0 ∨ j = 1 ∨ j = 2 ∨ j = 3 ∨ j = 4 ∨ j = 5 by omega) with rfl | rfl | rfl | rfl | rfl | rfl <;> rfl
  · exact ⟨_, rfl, fun x => x⟩
  · exact ⟨_, rfl, fun x => x⟩
  · exact ⟨_, rfl, fun x => x⟩
  · exact ⟨_, rfl, fun x => x⟩
  · exact ⟨_, rfl, fun x => x⟩
  · exact ⟨_, rfl, fun x => x⟩
