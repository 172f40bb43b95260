/-! the constructors of the class and of the reference -/
set_option maxRecDepth 100000 in
set_option maxHeartbeats 4000000 in
theorem zn_X5 {l : Launch} : zn_C l 1 10 404 muX5_init 5 [.null, .null, .null, .null, .null, .int 0, .null, .null, .null, .int 0, .int 0, .int 0, .null, .null, .int 0] zm zn_M0 zn_L0 := by
  refine zn_ofW (by decide) rfl rfl (by decide) ?_
  intro p e s m args below meth c cs D h ls X hin Z hl
  refine lv_aload_n X.1.1 X.1.2.1 dX5_init_0 rfl (lv_at hl 0 rfl) ?_
  refine zn_obj X hl.1 ml_X5_1 dX5_init_1 (Nat.le_of_ble_eq_true rfl) (Nat.le_of_ble_eq_true rfl) ?_
  refine lv_aload_n X.1.1 X.1.2.1 dX5_init_4 rfl (lv_at hl 0 rfl) ?_
  refine lv_bipush (v := 52) X.1.1 X.1.2.1 dX5_init_5 (by decide) ?_
  refine zn_newI (N := 52) X zn_hA Z (by decide) (by decide) (Nat.le_of_ble_eq_true rfl) dX5_init_7 (Nat.le_of_ble_eq_true rfl) (Nat.le_of_ble_eq_true rfl) (fun q1 H Z => ?_)
  have Z : zn_S D (zn_A h s.heap.size) s H _ [(h, .inr (5, [.null, .null, .null, .null, .null, .int 0, .null, .null, .null, .int 0, .int 0, .int 0, .null, .null, .int 0])), (q1, .inl (cs.1, 52, .inl (fun _ => 0)))] := Z
  refine zn_put (o := 0) X hin Z rfl fl_X5_9 gt_X5_0 rfl rfl (Nat.le_of_ble_eq_true rfl) dX5_init_9 (fun H locs Z => ?_)
  have Z : zn_S D (zn_A h s.heap.size) s H locs [(h, .inr (5, [.ref q1, .null, .null, .null, .null, .int 0, .null, .null, .null, .int 0, .int 0, .int 0, .null, .null, .int 0])), (q1, .inl (cs.1, 52, .inl (fun _ => 0)))] := Z
  refine lv_aload_n X.1.1 X.1.2.1 dX5_init_12 rfl (lv_at hl 0 rfl) ?_
  refine lv_bipush (v := 52) X.1.1 X.1.2.1 dX5_init_13 (by decide) ?_
  refine zn_newI (N := 52) X zn_hA Z (by decide) (by decide) (Nat.le_of_ble_eq_true rfl) dX5_init_15 (Nat.le_of_ble_eq_true rfl) (Nat.le_of_ble_eq_true rfl) (fun q2 H Z => ?_)
  have Z : zn_S D (zn_A h s.heap.size) s H _ [(h, .inr (5, [.ref q1, .null, .null, .null, .null, .int 0, .null, .null, .null, .int 0, .int 0, .int 0, .null, .null, .int 0])), (q1, .inl (cs.1, 52, .inl (fun _ => 0))), (q2, .inl (cs.1, 52, .inl (fun _ => 0)))] := Z
  refine zn_put (o := 0) X hin Z rfl fl_X5_13 gt_X5_1 rfl rfl (Nat.le_of_ble_eq_true rfl) dX5_init_17 (fun H locs Z => ?_)
  have Z : zn_S D (zn_A h s.heap.size) s H locs [(h, .inr (5, [.ref q1, .ref q2, .null, .null, .null, .int 0, .null, .null, .null, .int 0, .int 0, .int 0, .null, .null, .int 0])), (q1, .inl (cs.1, 52, .inl (fun _ => 0))), (q2, .inl (cs.1, 52, .inl (fun _ => 0)))] := Z
  refine lv_aload_n X.1.1 X.1.2.1 dX5_init_20 rfl (lv_at hl 0 rfl) ?_
  refine lv_bipush (v := 52) X.1.1 X.1.2.1 dX5_init_21 (by decide) ?_
  refine zn_newI (N := 52) X zn_hA Z (by decide) (by decide) (Nat.le_of_ble_eq_true rfl) dX5_init_23 (Nat.le_of_ble_eq_true rfl) (Nat.le_of_ble_eq_true rfl) (fun q3 H Z => ?_)
  have Z : zn_S D (zn_A h s.heap.size) s H _ [(h, .inr (5, [.ref q1, .ref q2, .null, .null, .null, .int 0, .null, .null, .null, .int 0, .int 0, .int 0, .null, .null, .int 0])), (q1, .inl (cs.1, 52, .inl (fun _ => 0))), (q2, .inl (cs.1, 52, .inl (fun _ => 0))), (q3, .inl (cs.1, 52, .inl (fun _ => 0)))] := Z
  refine zn_put (o := 0) X hin Z rfl fl_X5_16 gt_X5_2 rfl rfl (Nat.le_of_ble_eq_true rfl) dX5_init_25 (fun H locs Z => ?_)
  have Z : zn_S D (zn_A h s.heap.size) s H locs [(h, .inr (5, [.ref q1, .ref q2, .ref q3, .null, .null, .int 0, .null, .null, .null, .int 0, .int 0, .int 0, .null, .null, .int 0])), (q1, .inl (cs.1, 52, .inl (fun _ => 0))), (q2, .inl (cs.1, 52, .inl (fun _ => 0))), (q3, .inl (cs.1, 52, .inl (fun _ => 0)))] := Z
  refine lv_aload_n X.1.1 X.1.2.1 dX5_init_28 rfl (lv_at hl 0 rfl) ?_
  refine lv_bipush (v := 52) X.1.1 X.1.2.1 dX5_init_29 (by decide) ?_
  refine zn_newI (N := 52) X zn_hA Z (by decide) (by decide) (Nat.le_of_ble_eq_true rfl) dX5_init_31 (Nat.le_of_ble_eq_true rfl) (Nat.le_of_ble_eq_true rfl) (fun q4 H Z => ?_)
  have Z : zn_S D (zn_A h s.heap.size) s H _ [(h, .inr (5, [.ref q1, .ref q2, .ref q3, .null, .null, .int 0, .null, .null, .null, .int 0, .int 0, .int 0, .null, .null, .int 0])), (q1, .inl (cs.1, 52, .inl (fun _ => 0))), (q2, .inl (cs.1, 52, .inl (fun _ => 0))), (q3, .inl (cs.1, 52, .inl (fun _ => 0))), (q4, .inl (cs.1, 52, .inl (fun _ => 0)))] := Z
  refine zn_put (o := 0) X hin Z rfl fl_X5_19 gt_X5_3 rfl rfl (Nat.le_of_ble_eq_true rfl) dX5_init_33 (fun H locs Z => ?_)
  have Z : zn_S D (zn_A h s.heap.size) s H locs [(h, .inr (5, [.ref q1, .ref q2, .ref q3, .ref q4, .null, .int 0, .null, .null, .null, .int 0, .int 0, .int 0, .null, .null, .int 0])), (q1, .inl (cs.1, 52, .inl (fun _ => 0))), (q2, .inl (cs.1, 52, .inl (fun _ => 0))), (q3, .inl (cs.1, 52, .inl (fun _ => 0))), (q4, .inl (cs.1, 52, .inl (fun _ => 0)))] := Z
  refine lv_aload_n X.1.1 X.1.2.1 dX5_init_36 rfl (lv_at hl 0 rfl) ?_
  refine lv_bipush (v := 64) X.1.1 X.1.2.1 dX5_init_37 (by decide) ?_
  refine zn_newI (N := 64) X zn_hA Z (by decide) (by decide) (Nat.le_of_ble_eq_true rfl) dX5_init_39 (Nat.le_of_ble_eq_true rfl) (Nat.le_of_ble_eq_true rfl) (fun q5 H Z => ?_)
  have Z : zn_S D (zn_A h s.heap.size) s H _ [(h, .inr (5, [.ref q1, .ref q2, .ref q3, .ref q4, .null, .int 0, .null, .null, .null, .int 0, .int 0, .int 0, .null, .null, .int 0])), (q1, .inl (cs.1, 52, .inl (fun _ => 0))), (q2, .inl (cs.1, 52, .inl (fun _ => 0))), (q3, .inl (cs.1, 52, .inl (fun _ => 0))), (q4, .inl (cs.1, 52, .inl (fun _ => 0))), (q5, .inl (cs.1, 64, .inl (fun _ => 0)))] := Z
  refine zn_put (o := 0) X hin Z rfl fl_X5_22 gt_X5_4 rfl rfl (Nat.le_of_ble_eq_true rfl) dX5_init_41 (fun H locs Z => ?_)
  have Z : zn_S D (zn_A h s.heap.size) s H locs [(h, .inr (5, [.ref q1, .ref q2, .ref q3, .ref q4, .ref q5, .int 0, .null, .null, .null, .int 0, .int 0, .int 0, .null, .null, .int 0])), (q1, .inl (cs.1, 52, .inl (fun _ => 0))), (q2, .inl (cs.1, 52, .inl (fun _ => 0))), (q3, .inl (cs.1, 52, .inl (fun _ => 0))), (q4, .inl (cs.1, 52, .inl (fun _ => 0))), (q5, .inl (cs.1, 64, .inl (fun _ => 0)))] := Z
  refine lv_aload_n X.1.1 X.1.2.1 dX5_init_44 rfl (lv_at hl 0 rfl) ?_
  refine lv_bipush (v := 96) X.1.1 X.1.2.1 dX5_init_45 (by decide) ?_
  refine zn_newI (N := 96) X zn_hA Z (by decide) (by decide) (Nat.le_of_ble_eq_true rfl) dX5_init_47 (Nat.le_of_ble_eq_true rfl) (Nat.le_of_ble_eq_true rfl) (fun q6 H Z => ?_)
  have Z : zn_S D (zn_A h s.heap.size) s H _ [(h, .inr (5, [.ref q1, .ref q2, .ref q3, .ref q4, .ref q5, .int 0, .null, .null, .null, .int 0, .int 0, .int 0, .null, .null, .int 0])), (q1, .inl (cs.1, 52, .inl (fun _ => 0))), (q2, .inl (cs.1, 52, .inl (fun _ => 0))), (q3, .inl (cs.1, 52, .inl (fun _ => 0))), (q4, .inl (cs.1, 52, .inl (fun _ => 0))), (q5, .inl (cs.1, 64, .inl (fun _ => 0))), (q6, .inl (cs.1, 96, .inl (fun _ => 0)))] := Z
  refine zn_put (o := 0) X hin Z rfl fl_X5_25 gt_X5_6 rfl rfl (Nat.le_of_ble_eq_true rfl) dX5_init_49 (fun H locs Z => ?_)
  have Z : zn_S D (zn_A h s.heap.size) s H locs [(h, .inr (5, [.ref q1, .ref q2, .ref q3, .ref q4, .ref q5, .int 0, .ref q6, .null, .null, .int 0, .int 0, .int 0, .null, .null, .int 0])), (q1, .inl (cs.1, 52, .inl (fun _ => 0))), (q2, .inl (cs.1, 52, .inl (fun _ => 0))), (q3, .inl (cs.1, 52, .inl (fun _ => 0))), (q4, .inl (cs.1, 52, .inl (fun _ => 0))), (q5, .inl (cs.1, 64, .inl (fun _ => 0))), (q6, .inl (cs.1, 96, .inl (fun _ => 0)))] := Z
  refine lv_aload_n X.1.1 X.1.2.1 dX5_init_52 rfl (lv_at hl 0 rfl) ?_
  refine lv_bipush (v := 16) X.1.1 X.1.2.1 dX5_init_53 (by decide) ?_
  refine zn_newI (N := 16) X zn_hA Z (by decide) (by decide) (Nat.le_of_ble_eq_true rfl) dX5_init_55 (Nat.le_of_ble_eq_true rfl) (Nat.le_of_ble_eq_true rfl) (fun q7 H Z => ?_)
  have Z : zn_S D (zn_A h s.heap.size) s H _ [(h, .inr (5, [.ref q1, .ref q2, .ref q3, .ref q4, .ref q5, .int 0, .ref q6, .null, .null, .int 0, .int 0, .int 0, .null, .null, .int 0])), (q1, .inl (cs.1, 52, .inl (fun _ => 0))), (q2, .inl (cs.1, 52, .inl (fun _ => 0))), (q3, .inl (cs.1, 52, .inl (fun _ => 0))), (q4, .inl (cs.1, 52, .inl (fun _ => 0))), (q5, .inl (cs.1, 64, .inl (fun _ => 0))), (q6, .inl (cs.1, 96, .inl (fun _ => 0))), (q7, .inl (cs.1, 16, .inl (fun _ => 0)))] := Z
  refine zn_put (o := 0) X hin Z rfl fl_X5_28 gt_X5_7 rfl rfl (Nat.le_of_ble_eq_true rfl) dX5_init_57 (fun H locs Z => ?_)
  have Z : zn_S D (zn_A h s.heap.size) s H locs [(h, .inr (5, [.ref q1, .ref q2, .ref q3, .ref q4, .ref q5, .int 0, .ref q6, .ref q7, .null, .int 0, .int 0, .int 0, .null, .null, .int 0])), (q1, .inl (cs.1, 52, .inl (fun _ => 0))), (q2, .inl (cs.1, 52, .inl (fun _ => 0))), (q3, .inl (cs.1, 52, .inl (fun _ => 0))), (q4, .inl (cs.1, 52, .inl (fun _ => 0))), (q5, .inl (cs.1, 64, .inl (fun _ => 0))), (q6, .inl (cs.1, 96, .inl (fun _ => 0))), (q7, .inl (cs.1, 16, .inl (fun _ => 0)))] := Z
  refine lv_aload_n X.1.1 X.1.2.1 dX5_init_60 rfl (lv_at hl 0 rfl) ?_
  refine lv_bipush (v := 7) X.1.1 X.1.2.1 dX5_init_61 (by decide) ?_
  refine zn_newI (N := 7) X zn_hA Z (by decide) (by decide) (Nat.le_of_ble_eq_true rfl) dX5_init_63 (Nat.le_of_ble_eq_true rfl) (Nat.le_of_ble_eq_true rfl) (fun q8 H Z => ?_)
  have Z : zn_S D (zn_A h s.heap.size) s H _ [(h, .inr (5, [.ref q1, .ref q2, .ref q3, .ref q4, .ref q5, .int 0, .ref q6, .ref q7, .null, .int 0, .int 0, .int 0, .null, .null, .int 0])), (q1, .inl (cs.1, 52, .inl (fun _ => 0))), (q2, .inl (cs.1, 52, .inl (fun _ => 0))), (q3, .inl (cs.1, 52, .inl (fun _ => 0))), (q4, .inl (cs.1, 52, .inl (fun _ => 0))), (q5, .inl (cs.1, 64, .inl (fun _ => 0))), (q6, .inl (cs.1, 96, .inl (fun _ => 0))), (q7, .inl (cs.1, 16, .inl (fun _ => 0))), (q8, .inl (cs.1, 7, .inl (fun _ => 0)))] := Z
  refine zn_put (o := 0) X hin Z rfl fl_X5_31 gt_X5_8 rfl rfl (Nat.le_of_ble_eq_true rfl) dX5_init_65 (fun H locs Z => ?_)
  have Z : zn_S D (zn_A h s.heap.size) s H locs [(h, .inr (5, [.ref q1, .ref q2, .ref q3, .ref q4, .ref q5, .int 0, .ref q6, .ref q7, .ref q8, .int 0, .int 0, .int 0, .null, .null, .int 0])), (q1, .inl (cs.1, 52, .inl (fun _ => 0))), (q2, .inl (cs.1, 52, .inl (fun _ => 0))), (q3, .inl (cs.1, 52, .inl (fun _ => 0))), (q4, .inl (cs.1, 52, .inl (fun _ => 0))), (q5, .inl (cs.1, 64, .inl (fun _ => 0))), (q6, .inl (cs.1, 96, .inl (fun _ => 0))), (q7, .inl (cs.1, 16, .inl (fun _ => 0))), (q8, .inl (cs.1, 7, .inl (fun _ => 0)))] := Z
  refine lv_aload_n X.1.1 X.1.2.1 dX5_init_68 rfl (lv_at hl 0 rfl) ?_
  refine lv_iconst (v := 5) X.1.1 X.1.2.1 dX5_init_69 (by decide) ?_
  refine zn_newI (N := 5) X zn_hA Z (by decide) (by decide) (Nat.le_of_ble_eq_true rfl) dX5_init_70 (Nat.le_of_ble_eq_true rfl) (Nat.le_of_ble_eq_true rfl) (fun q9 H Z => ?_)
  have Z : zn_S D (zn_A h s.heap.size) s H _ [(h, .inr (5, [.ref q1, .ref q2, .ref q3, .ref q4, .ref q5, .int 0, .ref q6, .ref q7, .ref q8, .int 0, .int 0, .int 0, .null, .null, .int 0])), (q1, .inl (cs.1, 52, .inl (fun _ => 0))), (q2, .inl (cs.1, 52, .inl (fun _ => 0))), (q3, .inl (cs.1, 52, .inl (fun _ => 0))), (q4, .inl (cs.1, 52, .inl (fun _ => 0))), (q5, .inl (cs.1, 64, .inl (fun _ => 0))), (q6, .inl (cs.1, 96, .inl (fun _ => 0))), (q7, .inl (cs.1, 16, .inl (fun _ => 0))), (q8, .inl (cs.1, 7, .inl (fun _ => 0))), (q9, .inl (cs.1, 5, .inl (fun _ => 0)))] := Z
  refine zn_put (o := 0) X hin Z rfl fl_X5_34 gt_X5_12 rfl rfl (Nat.le_of_ble_eq_true rfl) dX5_init_72 (fun H locs Z => ?_)
  have Z : zn_S D (zn_A h s.heap.size) s H locs [(h, .inr (5, [.ref q1, .ref q2, .ref q3, .ref q4, .ref q5, .int 0, .ref q6, .ref q7, .ref q8, .int 0, .int 0, .int 0, .ref q9, .null, .int 0])), (q1, .inl (cs.1, 52, .inl (fun _ => 0))), (q2, .inl (cs.1, 52, .inl (fun _ => 0))), (q3, .inl (cs.1, 52, .inl (fun _ => 0))), (q4, .inl (cs.1, 52, .inl (fun _ => 0))), (q5, .inl (cs.1, 64, .inl (fun _ => 0))), (q6, .inl (cs.1, 96, .inl (fun _ => 0))), (q7, .inl (cs.1, 16, .inl (fun _ => 0))), (q8, .inl (cs.1, 7, .inl (fun _ => 0))), (q9, .inl (cs.1, 5, .inl (fun _ => 0)))] := Z
  refine lv_aload_n X.1.1 X.1.2.1 dX5_init_75 rfl (lv_at hl 0 rfl) ?_
  refine lv_bipush (v := 8) X.1.1 X.1.2.1 dX5_init_76 (by decide) ?_
  refine zn_newI (N := 8) X zn_hA Z (by decide) (by decide) (Nat.le_of_ble_eq_true rfl) dX5_init_78 (Nat.le_of_ble_eq_true rfl) (Nat.le_of_ble_eq_true rfl) (fun q10 H Z => ?_)
  have Z : zn_S D (zn_A h s.heap.size) s H _ [(h, .inr (5, [.ref q1, .ref q2, .ref q3, .ref q4, .ref q5, .int 0, .ref q6, .ref q7, .ref q8, .int 0, .int 0, .int 0, .ref q9, .null, .int 0])), (q1, .inl (cs.1, 52, .inl (fun _ => 0))), (q2, .inl (cs.1, 52, .inl (fun _ => 0))), (q3, .inl (cs.1, 52, .inl (fun _ => 0))), (q4, .inl (cs.1, 52, .inl (fun _ => 0))), (q5, .inl (cs.1, 64, .inl (fun _ => 0))), (q6, .inl (cs.1, 96, .inl (fun _ => 0))), (q7, .inl (cs.1, 16, .inl (fun _ => 0))), (q8, .inl (cs.1, 7, .inl (fun _ => 0))), (q9, .inl (cs.1, 5, .inl (fun _ => 0))), (q10, .inl (cs.1, 8, .inl (fun _ => 0)))] := Z
  refine zn_put (o := 0) X hin Z rfl fl_X5_37 gt_X5_13 rfl rfl (Nat.le_of_ble_eq_true rfl) dX5_init_80 (fun H locs Z => ?_)
  have Z : zn_S D (zn_A h s.heap.size) s H locs [(h, .inr (5, [.ref q1, .ref q2, .ref q3, .ref q4, .ref q5, .int 0, .ref q6, .ref q7, .ref q8, .int 0, .int 0, .int 0, .ref q9, .ref q10, .int 0])), (q1, .inl (cs.1, 52, .inl (fun _ => 0))), (q2, .inl (cs.1, 52, .inl (fun _ => 0))), (q3, .inl (cs.1, 52, .inl (fun _ => 0))), (q4, .inl (cs.1, 52, .inl (fun _ => 0))), (q5, .inl (cs.1, 64, .inl (fun _ => 0))), (q6, .inl (cs.1, 96, .inl (fun _ => 0))), (q7, .inl (cs.1, 16, .inl (fun _ => 0))), (q8, .inl (cs.1, 7, .inl (fun _ => 0))), (q9, .inl (cs.1, 5, .inl (fun _ => 0))), (q10, .inl (cs.1, 8, .inl (fun _ => 0)))] := Z
  refine zn_ret (ad := fun o => ([h, q1, q2, q3, q4, q5, q6, q7, q8, q9, q10] : List Nat).getD o 0) X rfl Z.2.2 rfl (zn_toH Z (fun o ho => ?_)) (Nat.le_of_ble_eq_true rfl) (Nat.le_of_ble_eq_true rfl) dX5_init_83
  have ho : o < 11 := ho
  rcases (show o = 0 ∨ o = 1 ∨ o = 2 ∨ o = 3 ∨ o = 4 ∨ o = 5 ∨ o = 6 ∨ o = 7 ∨ o = 8 ∨ o = 9 ∨ o = 10 by omega) with rfl | rfl | rfl | rfl | rfl | rfl | rfl | rfl | rfl | rfl | rfl <;> exact ⟨_, rfl, fun x => x⟩
