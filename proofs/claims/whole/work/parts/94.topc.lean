set_option maxRecDepth 100000 in
set_option maxHeartbeats 4000000 in
theorem zn_X4 {l : Launch} : zn_C l 5 45 611 muX4_init 4 [.null, .null, .null, .null, .null, .null, .null, .null, .null, .null, .null, .null, .int 0, .int 0] zc zn_M4 zn_L0 := by
  refine zn_ofW (by decide) rfl rfl (by decide) ?_
  intro p e s m args below meth c cs D h ls X hin Z hl
  refine lv_aload_n X.1.1 X.1.2.1 dX4_init_0 rfl (lv_at hl 0 rfl) ?_
  refine zn_obj X hl.1 ml_X4_3 dX4_init_1 (Nat.le_of_ble_eq_true rfl) (Nat.le_of_ble_eq_true rfl) ?_
  refine lv_aload_n X.1.1 X.1.2.1 dX4_init_4 rfl (lv_at hl 0 rfl) ?_
  refine zn_new X zn_hA Z zn_c0 cl_X4_9 dX4_init_5 (Nat.le_of_ble_eq_true rfl) (Nat.le_of_ble_eq_true rfl) (fun q1 H Z => ?_)
  refine lv_dup X.1.1 X.1.2.1 dX4_init_8 rfl ?_
  refine zn_init X zn_hA Z hl.1 zn_X0 miX0_init rfl rfl im_X0 ml_X4_11 dX4_init_9 (Nat.le_of_ble_eq_true rfl) (Nat.le_of_ble_eq_true rfl) (Nat.le_of_ble_eq_true rfl) (Nat.le_of_ble_eq_true rfl) (Nat.le_of_ble_eq_true rfl) (fun a1 H locs had1 Z => ?_)
  have Z : zn_S D (zn_A h s.heap.size) s H locs ((h, .inr (4, [.null, .null, .null, .null, .null, .null, .null, .null, .null, .null, .null, .null, .int 0, .int 0])) :: (zk_ws a1 cs zn_c zn_Mc zn_L0)) := Z
  refine zn_put (o := 0) X hin Z rfl fl_X4_12 gt_X4_0 rfl rfl (Nat.le_of_ble_eq_true rfl) dX4_init_12 (fun H locs Z => ?_)
  have Z : zn_S D (zn_A h s.heap.size) s H locs ((h, .inr (4, [.ref q1, .null, .null, .null, .null, .null, .null, .null, .null, .null, .null, .null, .int 0, .int 0])) :: (zk_ws a1 cs zn_c zn_Mc zn_L0)) := Z
  rw [← had1] at Z
  have Z : zn_S D (zn_A h s.heap.size) s H locs ((h, .inr (4, [.ref (a1 0), .null, .null, .null, .null, .null, .null, .null, .null, .null, .null, .null, .int 0, .int 0])) :: (zk_ws a1 cs zn_c zn_Mc zn_L0)) := Z
  refine lv_aload_n X.1.1 X.1.2.1 dX4_init_15 rfl (lv_at hl 0 rfl) ?_
  refine zn_new X zn_hA Z zn_c0 cl_X4_9 dX4_init_16 (Nat.le_of_ble_eq_true rfl) (Nat.le_of_ble_eq_true rfl) (fun q2 H Z => ?_)
  refine lv_dup X.1.1 X.1.2.1 dX4_init_19 rfl ?_
  refine zn_init X zn_hA Z hl.1 zn_X0 miX0_init rfl rfl im_X0 ml_X4_11 dX4_init_20 (Nat.le_of_ble_eq_true rfl) (Nat.le_of_ble_eq_true rfl) (Nat.le_of_ble_eq_true rfl) (Nat.le_of_ble_eq_true rfl) (Nat.le_of_ble_eq_true rfl) (fun a2 H locs had2 Z => ?_)
  have Z : zn_S D (zn_A h s.heap.size) s H locs ((h, .inr (4, [.ref (a1 0), .null, .null, .null, .null, .null, .null, .null, .null, .null, .null, .null, .int 0, .int 0])) :: (zk_ws a1 cs zn_c zn_Mc zn_L0 ++ zk_ws a2 cs zn_c zn_Mc zn_L0)) := Z
  refine zn_put (o := 0) X hin Z rfl fl_X4_16 gt_X4_1 rfl rfl (Nat.le_of_ble_eq_true rfl) dX4_init_23 (fun H locs Z => ?_)
  have Z : zn_S D (zn_A h s.heap.size) s H locs ((h, .inr (4, [.ref (a1 0), .ref q2, .null, .null, .null, .null, .null, .null, .null, .null, .null, .null, .int 0, .int 0])) :: (zk_ws a1 cs zn_c zn_Mc zn_L0 ++ zk_ws a2 cs zn_c zn_Mc zn_L0)) := Z
  rw [← had2] at Z
  have Z : zn_S D (zn_A h s.heap.size) s H locs ((h, .inr (4, [.ref (a1 0), .ref (a2 0), .null, .null, .null, .null, .null, .null, .null, .null, .null, .null, .int 0, .int 0])) :: (zk_ws a1 cs zn_c zn_Mc zn_L0 ++ zk_ws a2 cs zn_c zn_Mc zn_L0)) := Z
  refine lv_aload_n X.1.1 X.1.2.1 dX4_init_26 rfl (lv_at hl 0 rfl) ?_
  refine zn_new X zn_hA Z zn_c0 cl_X4_9 dX4_init_27 (Nat.le_of_ble_eq_true rfl) (Nat.le_of_ble_eq_true rfl) (fun q3 H Z => ?_)
  refine lv_dup X.1.1 X.1.2.1 dX4_init_30 rfl ?_
  refine zn_init X zn_hA Z hl.1 zn_X0 miX0_init rfl rfl im_X0 ml_X4_11 dX4_init_31 (Nat.le_of_ble_eq_true rfl) (Nat.le_of_ble_eq_true rfl) (Nat.le_of_ble_eq_true rfl) (Nat.le_of_ble_eq_true rfl) (Nat.le_of_ble_eq_true rfl) (fun a3 H locs had3 Z => ?_)
  have Z : zn_S D (zn_A h s.heap.size) s H locs ((h, .inr (4, [.ref (a1 0), .ref (a2 0), .null, .null, .null, .null, .null, .null, .null, .null, .null, .null, .int 0, .int 0])) :: (zk_ws a1 cs zn_c zn_Mc zn_L0 ++ zk_ws a2 cs zn_c zn_Mc zn_L0 ++ zk_ws a3 cs zn_c zn_Mc zn_L0)) := Z
  refine zn_put (o := 0) X hin Z rfl fl_X4_19 gt_X4_2 rfl rfl (Nat.le_of_ble_eq_true rfl) dX4_init_34 (fun H locs Z => ?_)
  have Z : zn_S D (zn_A h s.heap.size) s H locs ((h, .inr (4, [.ref (a1 0), .ref (a2 0), .ref q3, .null, .null, .null, .null, .null, .null, .null, .null, .null, .int 0, .int 0])) :: (zk_ws a1 cs zn_c zn_Mc zn_L0 ++ zk_ws a2 cs zn_c zn_Mc zn_L0 ++ zk_ws a3 cs zn_c zn_Mc zn_L0)) := Z
  rw [← had3] at Z
  have Z : zn_S D (zn_A h s.heap.size) s H locs ((h, .inr (4, [.ref (a1 0), .ref (a2 0), .ref (a3 0), .null, .null, .null, .null, .null, .null, .null, .null, .null, .int 0, .int 0])) :: (zk_ws a1 cs zn_c zn_Mc zn_L0 ++ zk_ws a2 cs zn_c zn_Mc zn_L0 ++ zk_ws a3 cs zn_c zn_Mc zn_L0)) := Z
  refine lv_aload_n X.1.1 X.1.2.1 dX4_init_37 rfl (lv_at hl 0 rfl) ?_
  refine zn_new X zn_hA Z zn_c2 cl_X4_22 dX4_init_38 (Nat.le_of_ble_eq_true rfl) (Nat.le_of_ble_eq_true rfl) (fun q4 H Z => ?_)
  refine lv_dup X.1.1 X.1.2.1 dX4_init_41 rfl ?_
  refine zn_init X zn_hA Z hl.1 zn_X2 miX2_init rfl rfl im_X2 ml_X4_24 dX4_init_42 (Nat.le_of_ble_eq_true rfl) (Nat.le_of_ble_eq_true rfl) (Nat.le_of_ble_eq_true rfl) (Nat.le_of_ble_eq_true rfl) (Nat.le_of_ble_eq_true rfl) (fun a4 H locs had4 Z => ?_)
  have Z : zn_S D (zn_A h s.heap.size) s H locs ((h, .inr (4, [.ref (a1 0), .ref (a2 0), .ref (a3 0), .null, .null, .null, .null, .null, .null, .null, .null, .null, .int 0, .int 0])) :: (zk_ws a1 cs zn_c zn_Mc zn_L0 ++ zk_ws a2 cs zn_c zn_Mc zn_L0 ++ zk_ws a3 cs zn_c zn_Mc zn_L0 ++ zk_ws a4 cs zn_r zn_Mr zn_L0)) := Z
  refine zn_put (o := 0) X hin Z rfl fl_X4_25 gt_X4_3 rfl rfl (Nat.le_of_ble_eq_true rfl) dX4_init_45 (fun H locs Z => ?_)
  have Z : zn_S D (zn_A h s.heap.size) s H locs ((h, .inr (4, [.ref (a1 0), .ref (a2 0), .ref (a3 0), .ref q4, .null, .null, .null, .null, .null, .null, .null, .null, .int 0, .int 0])) :: (zk_ws a1 cs zn_c zn_Mc zn_L0 ++ zk_ws a2 cs zn_c zn_Mc zn_L0 ++ zk_ws a3 cs zn_c zn_Mc zn_L0 ++ zk_ws a4 cs zn_r zn_Mr zn_L0)) := Z
  rw [← had4] at Z
  have Z : zn_S D (zn_A h s.heap.size) s H locs ((h, .inr (4, [.ref (a1 0), .ref (a2 0), .ref (a3 0), .ref (a4 0), .null, .null, .null, .null, .null, .null, .null, .null, .int 0, .int 0])) :: (zk_ws a1 cs zn_c zn_Mc zn_L0 ++ zk_ws a2 cs zn_c zn_Mc zn_L0 ++ zk_ws a3 cs zn_c zn_Mc zn_L0 ++ zk_ws a4 cs zn_r zn_Mr zn_L0)) := Z
  refine lv_aload_n X.1.1 X.1.2.1 dX4_init_48 rfl (lv_at hl 0 rfl) ?_
  refine zn_new X zn_hA Z zn_c1 cl_X4_29 dX4_init_49 (Nat.le_of_ble_eq_true rfl) (Nat.le_of_ble_eq_true rfl) (fun q5 H Z => ?_)
  refine lv_dup X.1.1 X.1.2.1 dX4_init_52 rfl ?_
  refine zn_init X zn_hA Z hl.1 zn_X1 miX1_init rfl rfl im_X1 ml_X4_31 dX4_init_53 (Nat.le_of_ble_eq_true rfl) (Nat.le_of_ble_eq_true rfl) (Nat.le_of_ble_eq_true rfl) (Nat.le_of_ble_eq_true rfl) (Nat.le_of_ble_eq_true rfl) (fun a5 H locs had5 Z => ?_)
  have Z : zn_S D (zn_A h s.heap.size) s H locs ((h, .inr (4, [.ref (a1 0), .ref (a2 0), .ref (a3 0), .ref (a4 0), .null, .null, .null, .null, .null, .null, .null, .null, .int 0, .int 0])) :: (zk_ws a1 cs zn_c zn_Mc zn_L0 ++ zk_ws a2 cs zn_c zn_Mc zn_L0 ++ zk_ws a3 cs zn_c zn_Mc zn_L0 ++ zk_ws a4 cs zn_r zn_Mr zn_L0 ++ zk_ws a5 cs zn_h zn_M0 zn_L0)) := Z
  refine zn_put (o := 0) X hin Z rfl fl_X4_32 gt_X4_4 rfl rfl (Nat.le_of_ble_eq_true rfl) dX4_init_56 (fun H locs Z => ?_)
  have Z : zn_S D (zn_A h s.heap.size) s H locs ((h, .inr (4, [.ref (a1 0), .ref (a2 0), .ref (a3 0), .ref (a4 0), .ref q5, .null, .null, .null, .null, .null, .null, .null, .int 0, .int 0])) :: (zk_ws a1 cs zn_c zn_Mc zn_L0 ++ zk_ws a2 cs zn_c zn_Mc zn_L0 ++ zk_ws a3 cs zn_c zn_Mc zn_L0 ++ zk_ws a4 cs zn_r zn_Mr zn_L0 ++ zk_ws a5 cs zn_h zn_M0 zn_L0)) := Z
  rw [← had5] at Z
  have Z : zn_S D (zn_A h s.heap.size) s H locs ((h, .inr (4, [.ref (a1 0), .ref (a2 0), .ref (a3 0), .ref (a4 0), .ref (a5 0), .null, .null, .null, .null, .null, .null, .null, .int 0, .int 0])) :: (zk_ws a1 cs zn_c zn_Mc zn_L0 ++ zk_ws a2 cs zn_c zn_Mc zn_L0 ++ zk_ws a3 cs zn_c zn_Mc zn_L0 ++ zk_ws a4 cs zn_r zn_Mr zn_L0 ++ zk_ws a5 cs zn_h zn_M0 zn_L0)) := Z
  refine lv_aload_n X.1.1 X.1.2.1 dX4_init_59 rfl (lv_at hl 0 rfl) ?_
  refine zn_new X zn_hA Z zn_c1 cl_X4_29 dX4_init_60 (Nat.le_of_ble_eq_true rfl) (Nat.le_of_ble_eq_true rfl) (fun q6 H Z => ?_)
  refine lv_dup X.1.1 X.1.2.1 dX4_init_63 rfl ?_
  refine zn_init X zn_hA Z hl.1 zn_X1 miX1_init rfl rfl im_X1 ml_X4_31 dX4_init_64 (Nat.le_of_ble_eq_true rfl) (Nat.le_of_ble_eq_true rfl) (Nat.le_of_ble_eq_true rfl) (Nat.le_of_ble_eq_true rfl) (Nat.le_of_ble_eq_true rfl) (fun a6 H locs had6 Z => ?_)
  have Z : zn_S D (zn_A h s.heap.size) s H locs ((h, .inr (4, [.ref (a1 0), .ref (a2 0), .ref (a3 0), .ref (a4 0), .ref (a5 0), .null, .null, .null, .null, .null, .null, .null, .int 0, .int 0])) :: (zk_ws a1 cs zn_c zn_Mc zn_L0 ++ zk_ws a2 cs zn_c zn_Mc zn_L0 ++ zk_ws a3 cs zn_c zn_Mc zn_L0 ++ zk_ws a4 cs zn_r zn_Mr zn_L0 ++ zk_ws a5 cs zn_h zn_M0 zn_L0 ++ zk_ws a6 cs zn_h zn_M0 zn_L0)) := Z
  refine zn_put (o := 0) X hin Z rfl fl_X4_36 gt_X4_5 rfl rfl (Nat.le_of_ble_eq_true rfl) dX4_init_67 (fun H locs Z => ?_)
  have Z : zn_S D (zn_A h s.heap.size) s H locs ((h, .inr (4, [.ref (a1 0), .ref (a2 0), .ref (a3 0), .ref (a4 0), .ref (a5 0), .ref q6, .null, .null, .null, .null, .null, .null, .int 0, .int 0])) :: (zk_ws a1 cs zn_c zn_Mc zn_L0 ++ zk_ws a2 cs zn_c zn_Mc zn_L0 ++ zk_ws a3 cs zn_c zn_Mc zn_L0 ++ zk_ws a4 cs zn_r zn_Mr zn_L0 ++ zk_ws a5 cs zn_h zn_M0 zn_L0 ++ zk_ws a6 cs zn_h zn_M0 zn_L0)) := Z
  rw [← had6] at Z
  have Z : zn_S D (zn_A h s.heap.size) s H locs ((h, .inr (4, [.ref (a1 0), .ref (a2 0), .ref (a3 0), .ref (a4 0), .ref (a5 0), .ref (a6 0), .null, .null, .null, .null, .null, .null, .int 0, .int 0])) :: (zk_ws a1 cs zn_c zn_Mc zn_L0 ++ zk_ws a2 cs zn_c zn_Mc zn_L0 ++ zk_ws a3 cs zn_c zn_Mc zn_L0 ++ zk_ws a4 cs zn_r zn_Mr zn_L0 ++ zk_ws a5 cs zn_h zn_M0 zn_L0 ++ zk_ws a6 cs zn_h zn_M0 zn_L0)) := Z
  refine lv_aload_n X.1.1 X.1.2.1 dX4_init_70 rfl (lv_at hl 0 rfl) ?_
  refine zn_new X zn_hA Z zn_c3 cl_X4_39 dX4_init_71 (Nat.le_of_ble_eq_true rfl) (Nat.le_of_ble_eq_true rfl) (fun q7 H Z => ?_)
  refine lv_dup X.1.1 X.1.2.1 dX4_init_74 rfl ?_
  refine zn_init X zn_hA Z hl.1 zn_X3 miX3_init rfl rfl im_X3 ml_X4_41 dX4_init_75 (Nat.le_of_ble_eq_true rfl) (Nat.le_of_ble_eq_true rfl) (Nat.le_of_ble_eq_true rfl) (Nat.le_of_ble_eq_true rfl) (Nat.le_of_ble_eq_true rfl) (fun a7 H locs had7 Z => ?_)
  have Z : zn_S D (zn_A h s.heap.size) s H locs ((h, .inr (4, [.ref (a1 0), .ref (a2 0), .ref (a3 0), .ref (a4 0), .ref (a5 0), .ref (a6 0), .null, .null, .null, .null, .null, .null, .int 0, .int 0])) :: (zk_ws a1 cs zn_c zn_Mc zn_L0 ++ zk_ws a2 cs zn_c zn_Mc zn_L0 ++ zk_ws a3 cs zn_c zn_Mc zn_L0 ++ zk_ws a4 cs zn_r zn_Mr zn_L0 ++ zk_ws a5 cs zn_h zn_M0 zn_L0 ++ zk_ws a6 cs zn_h zn_M0 zn_L0 ++ zk_ws a7 cs zn_t zn_M0 zn_L0)) := Z
  refine zn_put (o := 0) X hin Z rfl fl_X4_42 gt_X4_6 rfl rfl (Nat.le_of_ble_eq_true rfl) dX4_init_78 (fun H locs Z => ?_)
  have Z : zn_S D (zn_A h s.heap.size) s H locs ((h, .inr (4, [.ref (a1 0), .ref (a2 0), .ref (a3 0), .ref (a4 0), .ref (a5 0), .ref (a6 0), .ref q7, .null, .null, .null, .null, .null, .int 0, .int 0])) :: (zk_ws a1 cs zn_c zn_Mc zn_L0 ++ zk_ws a2 cs zn_c zn_Mc zn_L0 ++ zk_ws a3 cs zn_c zn_Mc zn_L0 ++ zk_ws a4 cs zn_r zn_Mr zn_L0 ++ zk_ws a5 cs zn_h zn_M0 zn_L0 ++ zk_ws a6 cs zn_h zn_M0 zn_L0 ++ zk_ws a7 cs zn_t zn_M0 zn_L0)) := Z
  rw [← had7] at Z
  have Z : zn_S D (zn_A h s.heap.size) s H locs ((h, .inr (4, [.ref (a1 0), .ref (a2 0), .ref (a3 0), .ref (a4 0), .ref (a5 0), .ref (a6 0), .ref (a7 0), .null, .null, .null, .null, .null, .int 0, .int 0])) :: (zk_ws a1 cs zn_c zn_Mc zn_L0 ++ zk_ws a2 cs zn_c zn_Mc zn_L0 ++ zk_ws a3 cs zn_c zn_Mc zn_L0 ++ zk_ws a4 cs zn_r zn_Mr zn_L0 ++ zk_ws a5 cs zn_h zn_M0 zn_L0 ++ zk_ws a6 cs zn_h zn_M0 zn_L0 ++ zk_ws a7 cs zn_t zn_M0 zn_L0)) := Z
  refine lv_aload_n X.1.1 X.1.2.1 dX4_init_81 rfl (lv_at hl 0 rfl) ?_
  refine lv_bipush (v := 16) X.1.1 X.1.2.1 dX4_init_82 (by decide) ?_
  refine zn_newI (N := 16) X zn_hA Z (by decide) (by decide) (Nat.le_of_ble_eq_true rfl) dX4_init_84 (Nat.le_of_ble_eq_true rfl) (Nat.le_of_ble_eq_true rfl) (fun q8 H Z => ?_)
  refine zn_put (o := 0) X hin Z rfl fl_X4_46 gt_X4_7 rfl rfl (Nat.le_of_ble_eq_true rfl) dX4_init_86 (fun H locs Z => ?_)
  have Z : zn_S D (zn_A h s.heap.size) s H locs ((h, .inr (4, [.ref (a1 0), .ref (a2 0), .ref (a3 0), .ref (a4 0), .ref (a5 0), .ref (a6 0), .ref (a7 0), .ref q8, .null, .null, .null, .null, .int 0, .int 0])) :: (zk_ws a1 cs zn_c zn_Mc zn_L0 ++ zk_ws a2 cs zn_c zn_Mc zn_L0 ++ zk_ws a3 cs zn_c zn_Mc zn_L0 ++ zk_ws a4 cs zn_r zn_Mr zn_L0 ++ zk_ws a5 cs zn_h zn_M0 zn_L0 ++ zk_ws a6 cs zn_h zn_M0 zn_L0 ++ zk_ws a7 cs zn_t zn_M0 zn_L0 ++ [(q8, .inl (cs.1, 16, .inl (fun _ => 0)))])) := Z
  refine lv_aload_n X.1.1 X.1.2.1 dX4_init_89 rfl (lv_at hl 0 rfl) ?_
  refine lv_bipush (v := 7) X.1.1 X.1.2.1 dX4_init_90 (by decide) ?_
  refine zn_newI (N := 7) X zn_hA Z (by decide) (by decide) (Nat.le_of_ble_eq_true rfl) dX4_init_92 (Nat.le_of_ble_eq_true rfl) (Nat.le_of_ble_eq_true rfl) (fun q9 H Z => ?_)
  refine zn_put (o := 0) X hin Z rfl fl_X4_50 gt_X4_8 rfl rfl (Nat.le_of_ble_eq_true rfl) dX4_init_94 (fun H locs Z => ?_)
  have Z : zn_S D (zn_A h s.heap.size) s H locs ((h, .inr (4, [.ref (a1 0), .ref (a2 0), .ref (a3 0), .ref (a4 0), .ref (a5 0), .ref (a6 0), .ref (a7 0), .ref q8, .ref q9, .null, .null, .null, .int 0, .int 0])) :: (zk_ws a1 cs zn_c zn_Mc zn_L0 ++ zk_ws a2 cs zn_c zn_Mc zn_L0 ++ zk_ws a3 cs zn_c zn_Mc zn_L0 ++ zk_ws a4 cs zn_r zn_Mr zn_L0 ++ zk_ws a5 cs zn_h zn_M0 zn_L0 ++ zk_ws a6 cs zn_h zn_M0 zn_L0 ++ zk_ws a7 cs zn_t zn_M0 zn_L0 ++ [(q8, .inl (cs.1, 16, .inl (fun _ => 0)))] ++ [(q9, .inl (cs.1, 7, .inl (fun _ => 0)))])) := Z
  refine lv_aload_n X.1.1 X.1.2.1 dX4_init_97 rfl (lv_at hl 0 rfl) ?_
  refine lv_bipush (v := 8) X.1.1 X.1.2.1 dX4_init_98 (by decide) ?_
  refine zn_newI (N := 8) X zn_hA Z (by decide) (by decide) (Nat.le_of_ble_eq_true rfl) dX4_init_100 (Nat.le_of_ble_eq_true rfl) (Nat.le_of_ble_eq_true rfl) (fun q10 H Z => ?_)
  refine zn_put (o := 0) X hin Z rfl fl_X4_53 gt_X4_9 rfl rfl (Nat.le_of_ble_eq_true rfl) dX4_init_102 (fun H locs Z => ?_)
  have Z : zn_S D (zn_A h s.heap.size) s H locs ((h, .inr (4, [.ref (a1 0), .ref (a2 0), .ref (a3 0), .ref (a4 0), .ref (a5 0), .ref (a6 0), .ref (a7 0), .ref q8, .ref q9, .ref q10, .null, .null, .int 0, .int 0])) :: (zk_ws a1 cs zn_c zn_Mc zn_L0 ++ zk_ws a2 cs zn_c zn_Mc zn_L0 ++ zk_ws a3 cs zn_c zn_Mc zn_L0 ++ zk_ws a4 cs zn_r zn_Mr zn_L0 ++ zk_ws a5 cs zn_h zn_M0 zn_L0 ++ zk_ws a6 cs zn_h zn_M0 zn_L0 ++ zk_ws a7 cs zn_t zn_M0 zn_L0 ++ [(q8, .inl (cs.1, 16, .inl (fun _ => 0)))] ++ [(q9, .inl (cs.1, 7, .inl (fun _ => 0)))] ++ [(q10, .inl (cs.1, 8, .inl (fun _ => 0)))])) := Z
  refine lv_aload_n X.1.1 X.1.2.1 dX4_init_105 rfl (lv_at hl 0 rfl) ?_
  refine lv_bipush (v := 8) X.1.1 X.1.2.1 dX4_init_106 (by decide) ?_
  refine zn_newL (N := 8) X zn_hA Z (by decide) (by decide) (Nat.le_of_ble_eq_true rfl) dX4_init_108 (Nat.le_of_ble_eq_true rfl) (Nat.le_of_ble_eq_true rfl) (fun q11 H Z => ?_)
  refine zn_put (o := 0) X hin Z rfl fl_X4_56 gt_X4_10 rfl rfl (Nat.le_of_ble_eq_true rfl) dX4_init_110 (fun H locs Z => ?_)
  have Z : zn_S D (zn_A h s.heap.size) s H locs ((h, .inr (4, [.ref (a1 0), .ref (a2 0), .ref (a3 0), .ref (a4 0), .ref (a5 0), .ref (a6 0), .ref (a7 0), .ref q8, .ref q9, .ref q10, .ref q11, .null, .int 0, .int 0])) :: (zk_ws a1 cs zn_c zn_Mc zn_L0 ++ zk_ws a2 cs zn_c zn_Mc zn_L0 ++ zk_ws a3 cs zn_c zn_Mc zn_L0 ++ zk_ws a4 cs zn_r zn_Mr zn_L0 ++ zk_ws a5 cs zn_h zn_M0 zn_L0 ++ zk_ws a6 cs zn_h zn_M0 zn_L0 ++ zk_ws a7 cs zn_t zn_M0 zn_L0 ++ [(q8, .inl (cs.1, 16, .inl (fun _ => 0)))] ++ [(q9, .inl (cs.1, 7, .inl (fun _ => 0)))] ++ [(q10, .inl (cs.1, 8, .inl (fun _ => 0)))] ++ [(q11, .inl (cs.2.1, 8, .inr (.inl (fun _ => 0))))])) := Z
  refine lv_aload_n X.1.1 X.1.2.1 dX4_init_113 rfl (lv_at hl 0 rfl) ?_
  refine lv_bipush (v := 8) X.1.1 X.1.2.1 dX4_init_114 (by decide) ?_
  refine zn_newL (N := 8) X zn_hA Z (by decide) (by decide) (Nat.le_of_ble_eq_true rfl) dX4_init_116 (Nat.le_of_ble_eq_true rfl) (Nat.le_of_ble_eq_true rfl) (fun q12 H Z => ?_)
  refine zn_put (o := 0) X hin Z rfl fl_X4_60 gt_X4_11 rfl rfl (Nat.le_of_ble_eq_true rfl) dX4_init_118 (fun H locs Z => ?_)
  have Z : zn_S D (zn_A h s.heap.size) s H locs ((h, .inr (4, [.ref (a1 0), .ref (a2 0), .ref (a3 0), .ref (a4 0), .ref (a5 0), .ref (a6 0), .ref (a7 0), .ref q8, .ref q9, .ref q10, .ref q11, .ref q12, .int 0, .int 0])) :: (zk_ws a1 cs zn_c zn_Mc zn_L0 ++ zk_ws a2 cs zn_c zn_Mc zn_L0 ++ zk_ws a3 cs zn_c zn_Mc zn_L0 ++ zk_ws a4 cs zn_r zn_Mr zn_L0 ++ zk_ws a5 cs zn_h zn_M0 zn_L0 ++ zk_ws a6 cs zn_h zn_M0 zn_L0 ++ zk_ws a7 cs zn_t zn_M0 zn_L0 ++ [(q8, .inl (cs.1, 16, .inl (fun _ => 0)))] ++ [(q9, .inl (cs.1, 7, .inl (fun _ => 0)))] ++ [(q10, .inl (cs.1, 8, .inl (fun _ => 0)))] ++ [(q11, .inl (cs.2.1, 8, .inr (.inl (fun _ => 0))))] ++ [(q12, .inl (cs.2.1, 8, .inr (.inl (fun _ => 0))))])) := Z
  refine zn_ret (ad := fun o => ([h, a1 0, a1 1, a1 2, a1 3, a1 4, a1 5, a1 6, a1 7, a1 8, a1 9, a1 10, a2 0, a2 1, a2 2, a2 3, a2 4, a2 5, a2 6, a2 7, a2 8, a2 9, a2 10, a3 0, a3 1, a3 2, a3 3, a3 4, a3 5, a3 6, a3 7, a3 8, a3 9, a3 10, a4 0, a4 1, a4 2, a5 0, a6 0, a7 0, a7 1, q8, q9, q10, q11, q12] : List Nat).getD o 0) X rfl Z.2.2 rfl (zn_toH Z (fun o ho => ?_)) (Nat.le_of_ble_eq_true rfl) (Nat.le_of_ble_eq_true rfl) dX4_init_121
  have ho : o < 46 := ho
  rcases (show o = 0 ∨ o = 1 ∨ o = 2 ∨ o = 3 ∨ o = 4 ∨ o = 5 ∨ o = 6 ∨ o = 7 ∨ o = 8 ∨ o = 9 ∨ o = 10 ∨ o = 11 ∨ o = 12 ∨ o = 13 ∨ o = 14 ∨ o = 15 ∨ o = 16 ∨ o = 17 ∨ o = 18 ∨ o = 19 ∨ o = 20 ∨ o = 21 ∨ o = 22 ∨ o = 23 ∨ o = 24 ∨ o = 25 ∨ o = 26 ∨ o = 27 ∨ o = 28 ∨ o = 29 ∨ o = 30 ∨ o = 31 ∨ o = 32 ∨ o = 33 ∨ o = 34 ∨ o = 35 ∨ o = 36 ∨ o = 37 ∨ o = 38 ∨ o = 39 ∨ o = 40 ∨ o = 41 ∨ o = 42 ∨ o = 43 ∨ o = 44 ∨ o = 45 by omega) with rfl | rfl | rfl | rfl | rfl | rfl | rfl | rfl | rfl | rfl | rfl | rfl | rfl | rfl | rfl | rfl | rfl | rfl | rfl | rfl | rfl | rfl | rfl | rfl | rfl | rfl | rfl | rfl | rfl | rfl | rfl | rfl | rfl | rfl | rfl | rfl | rfl | rfl | rfl | rfl | rfl | rfl | rfl | rfl | rfl | rfl
  · exact ⟨_, rfl, fun x => x⟩
  · exact ⟨_, rfl, fun x => x⟩
  · exact ⟨_, rfl, fun x => x⟩
  · exact ⟨_, rfl, fun x => x⟩
  · exact ⟨_, rfl, fun x => x⟩
  · refine ⟨_, rfl, fun x => Eq.trans x (congrArg some (zn_cell (fun j hj => ?_)))⟩
    have hj : j < 6 := hj
    rcases (show j = 0 ∨ j = 1 ∨ j = 2 ∨ j = 3 ∨ j = 4 ∨ j = 5 by omega) with rfl | rfl | rfl | rfl | rfl | rfl <;> rfl
  · exact ⟨_, rfl, fun x => x⟩
  · exact ⟨_, rfl, fun x => x⟩
  · exact ⟨_, rfl, fun x => x⟩
  · exact ⟨_, rfl, fun x => x⟩
  · exact ⟨_, rfl, fun x => x⟩
  · exact ⟨_, rfl, fun x => x⟩
  · exact ⟨_, rfl, fun x => x⟩
  · exact ⟨_, rfl, fun x => x⟩
  · exact ⟨_, rfl, fun x => x⟩
  · exact ⟨_, rfl, fun x => x⟩
  · refine ⟨_, rfl, fun x => Eq.trans x (congrArg some (zn_cell (fun j hj => ?_)))⟩
    have hj : j < 6 := hj
    rcases (show j = 0 ∨ j = 1 ∨ j = 2 ∨ j = 3 ∨ j = 4 ∨ j = 5 by omega) with rfl | rfl | rfl | rfl | rfl | rfl <;> rfl
  · exact ⟨_, rfl, fun x => x⟩
  · exact ⟨_, rfl, fun x => x⟩
  · exact ⟨_, rfl, fun x => x⟩
  · exact ⟨_, rfl, fun x => x⟩
  · exact ⟨_, rfl, fun x => x⟩
  · exact ⟨_, rfl, fun x => x⟩
  · exact ⟨_, rfl, fun x => x⟩
  · exact ⟨_, rfl, fun x => x⟩
  · exact ⟨_, rfl, fun x => x⟩
  · exact ⟨_, rfl, fun x => x⟩
  · refine ⟨_, rfl, fun x => Eq.trans x (congrArg some (zn_cell (fun j hj => ?_)))⟩
    have hj : j < 6 := hj
    rcases (show j = 0 ∨ j = 1 ∨ j = 2 ∨ j = 3 ∨ j = 4 ∨ j = 5 by omega) with rfl | rfl | rfl | rfl | rfl | rfl <;> rfl
  · exact ⟨_, rfl, fun x => x⟩
  · exact ⟨_, rfl, fun x => x⟩
  · exact ⟨_, rfl, fun x => x⟩
  · exact ⟨_, rfl, fun x => x⟩
  · exact ⟨_, rfl, fun x => x⟩
  · exact ⟨_, rfl, fun x => x⟩
  · exact ⟨_, rfl, fun x => x⟩
  · exact ⟨_, rfl, fun x => x⟩
  · exact ⟨_, rfl, fun x => x⟩
  · exact ⟨_, rfl, fun x => x⟩
  · exact ⟨_, rfl, fun x => x⟩
  · exact ⟨_, rfl, fun x => x⟩
  · exact ⟨_, rfl, fun x => x⟩
  · exact ⟨_, rfl, fun x => x⟩
  · exact ⟨_, rfl, fun x => x⟩
  · exact ⟨_, rfl, fun x => x⟩
  · exact ⟨_, rfl, fun x => x⟩
  · exact ⟨_, rfl, fun x => x⟩
