/-! the start -/
theorem zl_split {cs : ClassId × ClassId × ClassId} {D : va_G} {adC adM : Nat → Nat} {s : State} {H : Heap} {locs : List Loc} {M N : zk_M} {LC LM : zk_L} (Z : zn_S D (zl_A s) s H locs ([] ++ zk_ws adC cs zc M LC ++ zk_ws adM cs zm N LM)) : zl_V cs D adC adM s H locs M LC N LM := by
  have len : ([] ++ zk_ws adC cs zc M LC).length = 46 := by simp [zk_ws]; rfl
  have g1 : ∀ (k : Nat) (q : Nat × va_E), (zk_ws adC cs zc M LC)[k]? = some q → ([] ++ zk_ws adC cs zc M LC ++ zk_ws adM cs zm N LM)[k]? = some q := fun k q h => by
    rw [List.getElem?_append_left (by rw [List.nil_append]; exact (List.getElem?_eq_some_iff.mp h).1)]; exact h
  have g2 : ∀ (k : Nat) (q : Nat × va_E), (zk_ws adM cs zm N LM)[k]? = some q → ([] ++ zk_ws adC cs zc M LC ++ zk_ws adM cs zm N LM)[46 + k]? = some q := fun k q h => by
    rw [List.getElem?_append_right (by rw [len]; omega), len, Nat.add_sub_cancel_left]; exact h
  refine ⟨⟨fun k q h => Z.1 k q (g1 k q h), fun i j a b hi hj e => Z.2.1.1 i j a b (g1 i a hi) (g1 j b hj) e, fun k q h => Z.2.1.2 k q (g1 k q h)⟩, ⟨fun k q h => Z.1 _ q (g2 k q h), fun i j a b hi hj e => by have := Z.2.1.1 _ _ a b (g2 i a hi) (g2 j b hj) e; omega, fun k q h => Z.2.1.2 _ q (g2 k q h)⟩, Z.2.2, fun o o' ho ho' e => ?_⟩
  have := Z.2.1.1 o (46 + o') _ _ (g1 o _ (zk_at ho)) (g2 o' _ (zk_at ho')) e
  have h46 : o < 46 := ho
  omega
theorem zl_A0 : zs_A (fun _ => 0) 0 := ⟨by decide, rfl, fun p hp => ⟨⟨(by decide : zs_p 0), (by decide : zs_p 0), (by decide : zs_p 0)⟩, (by decide : (0 : Int32) ≤ 0 ∧ (0 : Int32) < 6)⟩⟩
theorem zl_r0 : zr 0 0 (fun _ => 0) zn_T0 (fun _ _ => 0) (fun _ => 0) 0 := ⟨zl_A0, rfl, rfl, fun _ _ => rfl, fun _ _ => rfl, fun _ _ _ _ => rfl, fun _ _ => (by decide : (0 : Int32) ≤ 0 ∧ (0 : Int32) < 256), fun _ _ => (by decide : ((0 : Int32) ≤ 0 ∧ (0 : Int32) ≤ 4) ∧ (0 : Int32) ≤ 0 ∧ (0 : Int32) ≤ 99)⟩
theorem zn_M4_ne {o : Nat} (h4 : o ≠ 4) (h15 : o ≠ 15) (h26 : o ≠ 26) (h36 : o ≠ 36) : zn_M4 o = fun _ => 0 := by
  unfold zn_M4
  rw [zk_up_ne h36, zk_up_ne h26, zk_up_ne h15, zk_up_ne h4]
  rfl
/-- the new object and the new reference stand alike -/
theorem zl_start : zR zn_M4 zn_M0 := by
  refine ⟨⟨0, ?_⟩, ⟨0, ?_⟩, ⟨0, ⟨by decide, by rw [zn_M4_ne (by decide) (by decide) (by decide) (by decide)]; rfl⟩, ⟨by decide, rfl⟩, fun i hi => absurd hi (Nat.not_lt_zero i)⟩, ⟨0, ⟨by decide, by rw [zn_M4_ne (by decide) (by decide) (by decide) (by decide)]; rfl⟩, ⟨by decide, rfl⟩, fun i hi => absurd hi (Nat.not_lt_zero i)⟩, ?_, ?_⟩
  · refine zl_r0.cg ?_ ?_ ?_ ?_ (fun p hp => ?_)
    · rw [zn_M4_ne (by decide) (by decide) (by decide) (by decide)]
    · rw [zn_M4_ne (by decide) (by decide) (by decide) (by decide)]
    · rw [zn_M4_ne (by decide) (by decide) (by decide) (by decide)]; exact zs_ag.rf
    · have e : zn_M4 4 = zn_T0 := by unfold zn_M4; rw [zk_up_ne (by decide), zk_up_ne (by decide), zk_up_ne (by decide), zk_up_eq]
      rw [e]; exact zs_ag.rf
    · show zs_ag 7 (zn_M4 (6 + p)) _
      rw [zn_M4_ne (by omega) (by omega) (by omega) (by omega)]; exact zs_ag.rf
  · refine zl_r0.cg ?_ ?_ ?_ ?_ (fun p hp => ?_)
    · rw [zn_M4_ne (by decide) (by decide) (by decide) (by decide)]
    · rw [zn_M4_ne (by decide) (by decide) (by decide) (by decide)]
    · rw [zn_M4_ne (by decide) (by decide) (by decide) (by decide)]; exact zs_ag.rf
    · have e : zn_M4 15 = zn_T0 := by unfold zn_M4; rw [zk_up_ne (by decide), zk_up_ne (by decide), zk_up_eq]
      rw [e]; exact zs_ag.rf
    · show zs_ag 7 (zn_M4 (17 + p)) _
      rw [zn_M4_ne (by omega) (by omega) (by omega) (by omega)]; exact zs_ag.rf
  · rw [zn_M4_ne (by decide) (by decide) (by decide) (by decide)]; exact zs_ag.rf
  · rw [zn_M4_ne (by decide) (by decide) (by decide) (by decide)]; exact Iff.rfl
set_option maxRecDepth 100000 in
set_option maxHeartbeats 4000000 in
theorem whole_start {p : Program} {e : Env} {s : State} {m : MethodId} {below : List Frame} {meth : Method} {c : Code} (l : Launch) (hflags : l.flags = flags0) {b L : Nat} {xs : Nat → Int32} (hL : L ≤ 3072) (C0 : lw_At p s m meth c b L xs) : W p l e room_1 s m #[Value.ref b] below meth c s.heap [] 0 0 (lw_Z below #[Value.ref b] s) (entryFrame m ([Value.ref b] : List Value).toArray 4) := by
  obtain ⟨hx, hb, hr, hml, hown, hts, hX, hbl, hlocks, hgv⟩ := id C0
  have hT : ∀ w ∈ zk_tb, w.before #[Value.ref b] s = true := fun w hw => hts w (List.mem_filter.mp hw).1
  have hN : ∀ w ∈ zk_nw, va_Nw w s := fun w hw => va_Nw.of (zk_nw_tab w hw) (hts w (List.mem_filter.mp hw).1)
  have hO : va_AO RX1 s := va_AO.of (hts _ ao_X1)
  have hA : ∀ q : Nat, s.heap.size ≤ q → zl_A s q := fun _ h => h
  obtain ⟨c0, iS0, hK0⟩ := u_known (C := RX0) (T := TX0) (N := 4) (n := 4) hT zk_u0 (hT _ ins_X0)
  obtain ⟨c1, iS1, hK1⟩ := u_known (C := RX1) (T := TX1) (N := 7) (n := 7) hT zk_u1 (hT _ ins_X1)
  obtain ⟨c2, iS2, hK2⟩ := u_known (C := RX2) (T := TX2) (N := 2) (n := 2) hT zk_u2 (hT _ ins_X2)
  obtain ⟨c3, iS3, hK3⟩ := u_known (C := RX3) (T := TX3) (N := 2) (n := 2) hT zk_u3 (hT _ ins_X3)
  obtain ⟨c4, iS4, hK4⟩ := u_known (C := RX4) (T := TX4) (N := 14) (n := 14) hT zk_u4 (hT _ ins_X4)
  obtain ⟨c5, iS5, hK5⟩ := u_known (C := RX5) (T := TX5) (N := 15) (n := 15) hT zk_u5 (hT _ ins_X5)
  obtain ⟨D, hKc⟩ : ∃ D : va_G, ∀ (k : Nat) (q : vw_C), vwCl[k]? = some q → u_Kn s q.1 q.2.1 q.2.2 (D.1 k) (D.2 k) := by
    refine ⟨(fun k => if k = 0 then c0 else if k = 1 then c1 else if k = 2 then c2 else if k = 3 then c3 else if k = 4 then c4 else c5, fun k => if k = 0 then iS0 else if k = 1 then iS1 else if k = 2 then iS2 else if k = 3 then iS3 else if k = 4 then iS4 else iS5), ?_⟩
    intro k q hq
    match k, hq with
    | 0, hq => cases hq; exact hK0
    | 1, hq => cases hq; exact hK1
    | 2, hq => cases hq; exact hK2
    | 3, hq => cases hq; exact hK3
    | 4, hq => cases hq; exact hK4
    | 5, hq => cases hq; exact hK5
    | k + 6, hq => simp [vwCl] at hq
  obtain ⟨a1, k1, m1, f1, g1, r1⟩ := Cond.arrayClass_spec (hT _ ac_int)
  obtain ⟨a2, k2, m2, f2, g2, r2⟩ := Cond.arrayClass_spec (hT _ ac_long)
  obtain ⟨m3, a3, k3, w3, -, g3, r3, f3⟩ := Cond.arrayOver_spec (hts _ ao_X1)
  have hK : va_K D vwCl (zk_ty (a1, a2, a3)) s := ⟨hKc, fun k q hq => by
    match k, hq with
    | 0, hq => cases hq; exact ⟨fun n z => ⟨fun k h => (by cases h), k1, g1, m1, r1⟩, f1⟩
    | 1, hq => cases hq; exact ⟨fun n z => ⟨fun k h => (by cases h), k2, g2, m2, r2⟩, f2⟩
    | 2, hq => cases hq; exact ⟨fun n z => ⟨fun k h => (by cases h), k3, g3, m3, r3⟩, k3, m3, g3, r3, w3, f3⟩
    | k + 3, hq => simp [zk_ty] at hq⟩
  generalize (a1, a2, a3) = cs at hK
  have X : zn_X zl_mu cs D p s m #[Value.ref b] meth c := ⟨⟨hx, hb, hr, hml, hown, hT, hN, hlocks, hK⟩, hO⟩
  have Z : zn_S D (zl_A s) s s.heap [] [] := ⟨fun k q h => by simp at h, ⟨fun i j p q h => by simp at h, fun k q h => by simp at h⟩, va_S.rf⟩
  have hl := lv_entry ([.ref b]) (n := 4) (Nat.le_of_ble_eq_true rfl)
  rw [lg_entry_eq]
  generalize (lg_sl ([.ref b]) ++ List.replicate (4 - (lg_sl ([.ref b])).length) Slot.unset).toArray = ls at hl ⊢
  have hl : lv_has ls 4 [(0, .ref b)] := hl
  refine zn_new X hA Z zn_c4 cl_L_7 dL_law_0 (Nat.le_of_ble_eq_true rfl) (Nat.le_of_ble_eq_true rfl) (fun q1 H Z => ?_)
  refine lv_dup X.1.1 X.1.2.1 dL_law_3 rfl ?_
  refine zn_init X hA Z hl.1 zn_X4 miX4_init rfl rfl im_X4 ml_L_9 dL_law_4 (Nat.le_of_ble_eq_true rfl) (Nat.le_of_ble_eq_true rfl) (Nat.le_of_ble_eq_true rfl) (Nat.le_of_ble_eq_true rfl) (Nat.le_of_ble_eq_true rfl) (fun adC H locs had1 Z => ?_)
  refine lv_astore_n (lv' := [(1, .ref q1), (0, .ref b)]) X.1.1 X.1.2.1 dL_law_7 rfl hl (by decide) rfl (fun ls hl => ?_)
  refine zn_new X hA Z zn_c5 cl_L_10 dL_law_8 (Nat.le_of_ble_eq_true rfl) (Nat.le_of_ble_eq_true rfl) (fun q2 H Z => ?_)
  refine lv_dup X.1.1 X.1.2.1 dL_law_11 rfl ?_
  refine zn_init X hA Z hl.1 zn_X5 miX5_init rfl rfl im_X5 ml_L_12 dL_law_12 (Nat.le_of_ble_eq_true rfl) (Nat.le_of_ble_eq_true rfl) (Nat.le_of_ble_eq_true rfl) (Nat.le_of_ble_eq_true rfl) (Nat.le_of_ble_eq_true rfl) (fun adM H locs had2 Z => ?_)
  refine lv_astore_n (lv' := [(2, .ref q2), (1, .ref q1), (0, .ref b)]) X.1.1 X.1.2.1 dL_law_15 rfl hl (by decide) rfl (fun ls hl => ?_)
  refine lv_iconst (v := 0) X.1.1 X.1.2.1 dL_law_16 (by decide) ?_
  refine lv_istore_n (lv' := [(3, .int 0), (2, .ref q2), (1, .ref q1), (0, .ref b)]) X.1.1 X.1.2.1 dL_law_17 rfl hl (by decide) rfl (fun ls hl => ?_)
  rw [← had1, ← had2] at hl
  refine W.widen (k := 57) (n := 1044) (Nat.le_of_ble_eq_true rfl) (Nat.le_of_ble_eq_true rfl) ?_
  exact zl_loop hL (L + 1) 0 zn_M4 zn_M0 (by omega) (by omega) zl_start p e s m below meth c b cs D adC adM H locs ls zn_L0 zn_L0 C0 X.1 (zl_split Z) hl
