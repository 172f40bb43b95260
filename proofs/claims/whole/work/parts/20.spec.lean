theorem zb_8 : (Int8.ofInt 8).toInt32 = (8 : Int32) := by decide +kernel
theorem zc_0 : Int32.ofInt 0 = (0 : Int32) := by decide +kernel
theorem zc_1 : Int32.ofInt 1 = (1 : Int32) := by decide +kernel
theorem zc_2 : Int32.ofInt 2 = (2 : Int32) := by decide +kernel
theorem zc_3 : Int32.ofInt 3 = (3 : Int32) := by decide +kernel
theorem zc_4 : Int32.ofInt 4 = (4 : Int32) := by decide +kernel

/-! the words of the specification: a rider's record f (kind, figure, wants, says, at, shoes, worn), roads J (bits), steps T -/
abbrev zs_p (x : Int32) : Prop := 0 ≤ x ∧ x < 8
def zs_for {α : Type} (f : Nat → α → α) : Nat → Nat → α → α
  | 0, _, s => s
  | n + 1, i, s => zs_for f n (i + 1) (f i s)
def zs_a (σ : zk_Sh) (o n : Nat) : Prop := o < σ.1 ∧ σ.2.1 o = 100 ∧ σ.2.2.1 o = n
def zs_h (σ : zk_Sh) (h : Nat) : Prop := h < σ.1 ∧ σ.2.1 h = 1
def zs_r (σ : zk_Sh) (n : Nat) : Prop := n < σ.1 ∧ σ.2.1 n = 2 ∧ zs_a σ (σ.2.2.2 n 0) 8 ∧ zs_a σ (σ.2.2.2 n 1) 64 ∧ σ.2.2.2 n 0 ≠ σ.2.2.2 n 1
def zs_sk (k : Int32) : Int32 := if k = 0 then 4 else if k = 1 then 1 else if k = 2 then 3 else if k = 4 then 2 else if k = 5 then 3 else 0
def zs_dk (k f : Int32) : Int32 := if k = 0 then f / 3 + 1 else if k = 1 then f / 3 + 1 else if k = 2 then (f / 3 + 1) / 2 + 1 else if k = 4 then 2 * (f / 3 + 1) else if k = 5 then (f / 3 + 1) / 2 + 1 + 1 else 0
def zs_w (x : Int32) : Int32 := if (99 : Int32) < x + 1 then 99 else x + 1
def zs_wear (f : Nat → Int32) : Nat → Int32 := if 0 < zs_dk (f 0) (f 1) ∧ zs_w (f 6) - zs_w (f 6) / zs_dk (f 0) (f 1) * zs_dk (f 0) (f 1) = 0 ∧ 0 < f 5 then va_up (va_up f 6 (zs_w (f 6))) 5 (f 5 - 1) else va_up f 6 (zs_w (f 6))
def zs_pull (T f : Nat → Int32) (a : Int32) : Int32 := f 5 * T (a * 8 + f 2).toNatClampNeg + (4 - f 5) * T (a * 8 + f 3).toNatClampNeg
abbrev zs_j (J : Nat → Int32) (a b : Int32) : Prop := J a.toNatClampNeg >>> (b &&& 31) &&& 1 = 1
def zs_nx (J T f : Nat → Int32) (a : Int32) : Nat → Nat → Int32 → Int32 := fun n i b => zs_for (fun c b => if zs_j J a (nI c) ∧ zs_pull T f (nI c) < zs_pull T f b then nI c else b) n i b
def zs_ride (J T f : Nat → Int32) : Nat → Int32 := va_up (zs_wear f) 4 (zs_nx J T (zs_wear f) (zs_wear f 4) 8 0 (zs_wear f 4))
def zs_rides (J T : Nat → Int32) : Nat → (Nat → Int32) → Nat → Int32
  | 0, f => f
  | n + 1, f => zs_rides J T n (zs_ride J T f)
/-- behind how many days he is at p, counting from day: and his record then -/
def zs_until (J T : Nat → Int32) (p : Int32) : Nat → Nat → (Nat → Int32) → Int32 × (Nat → Int32)
  | 0, _, f => (61, f)
  | n + 1, day, f => if f 4 = p then (nI day, f) else zs_until J T p n (day + 1) (zs_ride J T f)
def zs_d0 (J : Nat → Int32) (a b : Nat) : Int32 := if a = b then 0 else if zs_j J (nI a) (nI b) then 1 else 9
def zs_min (x y : Int32) : Int32 := if y < x then y else x
def zs_fw1 (J T : Nat → Int32) : Nat → Int32 := zs_for (fun a T => zs_for (fun b T => va_up T (a * 8 + b) (zs_d0 J a b)) 8 0 T) 8 0 T
def zs_fw2 (T : Nat → Int32) : Nat → Int32 := zs_for (fun k T => zs_for (fun a T => zs_for (fun b T => va_up T (a * 8 + b) (zs_min (T (a * 8 + b)) (T (a * 8 + k) + T (k * 8 + b)))) 8 0 T) 8 0 T) 8 0 T
def zs_fw (J T : Nat → Int32) : Nat → Int32 := zs_fw2 (zs_fw1 J T)
def zs_cp (n : Nat) (f g : Nat → Int32) : Nat → Int32 := fun i => if i < n then f i else g i
abbrev zs_ok (f : Nat → Int32) : Prop := zs_p (f 2) ∧ zs_p (f 3) ∧ zs_p (f 4)
theorem zs_up2 {α : Type} {f : Nat → α} {k : Nat} {u v : α} : va_up (va_up f k u) k v = va_up f k v := by funext j; simp only [va_up]; split <;> rfl
theorem zs_up_self {α : Type} {f : Nat → α} {k : Nat} : va_up f k (f k) = f := by
  funext j
  simp only [va_up]
  split
  · next h => rw [h]
  · rfl
theorem zs_p_nI {i : Nat} (h : i < 8) : zs_p (nI i) := ⟨nI_pos' (by omega), nI_lt h (by decide)⟩
theorem zs_pin {x : Int32} (h : zs_p x) : vp_in x 8 := vp_in_iff.mpr ⟨by simpa [Int32.le_iff_toInt_le] using h.1, by simpa [Int32.lt_iff_toInt_lt] using h.2⟩
theorem zs_p_of {x : Int32} (h : zs_p x) : ∃ i, i < 8 ∧ x = nI i := vp_in_of (zs_pin h) (by decide)
theorem zs_ix {a b : Nat} (ha : a < 8) (hb : b < 8) : nI a * 8 + nI b = nI (a * 8 + b) := by
  rcases (show a = 0 ∨ a = 1 ∨ a = 2 ∨ a = 3 ∨ a = 4 ∨ a = 5 ∨ a = 6 ∨ a = 7 by omega) with rfl | rfl | rfl | rfl | rfl | rfl | rfl | rfl <;> rcases (show b = 0 ∨ b = 1 ∨ b = 2 ∨ b = 3 ∨ b = 4 ∨ b = 5 ∨ b = 6 ∨ b = 7 by omega) with rfl | rfl | rfl | rfl | rfl | rfl | rfl | rfl <;> decide +kernel
theorem zs_ix64 {a b : Int32} (ha : zs_p a) (hb : zs_p b) : vp_in (a * 8 + b) 64 := by
  obtain ⟨i, hi, rfl⟩ := zs_p_of ha
  obtain ⟨j, hj, rfl⟩ := zs_p_of hb
  rw [zs_ix hi hj]
  exact vp_in_nI (by omega) (by decide)
theorem zs_nlt0 {x : Int32} (h : 0 ≤ x) : ¬ x < 0 := Int32.not_lt.mpr h
theorem zs_nge {x y : Int32} (h : x < y) : ¬ y ≤ x := Int32.not_le.mpr h
theorem zs_out05 {x : Int32} (h0 : ¬ x = 0) (h1 : ¬ x = 1) (h2 : ¬ x = 2) (h3 : ¬ x = 3) (h4 : ¬ x = 4) (h5 : ¬ x = 5) : x.toInt < 0 ∨ 5 < x.toInt := by
  simp only [← Int32.toInt_inj] at *
  have e0 : (0 : Int32).toInt = 0 := rfl
  have e1 : (1 : Int32).toInt = 1 := rfl
  have e2 : (2 : Int32).toInt = 2 := rfl
  have e3 : (3 : Int32).toInt = 3 := rfl
  have e4 : (4 : Int32).toInt = 4 := rfl
  have e5 : (5 : Int32).toInt = 5 := rfl
  omega
theorem zk_Ei_of {v w : Int32} {M M' : zk_M} {L L' : zk_L} (h : v = w) (hM : M = M') (hL : L = L') : zk_Ei w M' L' (some (.int v)) M L := ⟨by rw [h], hM, hL⟩
theorem zk_Ev_of {M M' : zk_M} {L L' : zk_L} (hM : M = M') (hL : L = L') : zk_Ev M' L' none M L := ⟨rfl, hM, hL⟩

set_option maxRecDepth 100000 in
set_option maxHeartbeats 4000000 in
theorem qX4_isPlace {l : Launch} {σ : zk_Sh} {M : zk_M} {L : zk_L} {x : Int32} : zk_C l σ 0 muX4_isPlace [.int x] M L (zk_Ei (if zs_p x then 1 else 0) M L) := by
  refine zk_ofR (ls := [some (.int x)]) (by decide) rfl (Nat.le_of_ble_eq_true rfl) rfl ?_
  refine zk_iload_n dX4_isPlace_0 rfl ?_
  refine zk_if_lt (tgt := 14) dX4_isPlace_1 (by decide) (fun h1 => ?_) (fun h1 => ?_)
  · refine zk_iconst dX4_isPlace_14 zc_0 ?_
    refine zk_zret rfl (by decide) dX4_isPlace_15 ?_
    exact zk_Ei_of (by first | exact (if_pos ⟨Int32.not_lt.mp h1, Int32.not_le.mp h7⟩).symm | exact (if_neg (fun h => absurd h.1 (Int32.not_le.mpr h1))).symm | exact (if_neg (fun h => absurd h.2 (Int32.not_lt.mpr h7))).symm) rfl rfl
  · refine zk_iload_n dX4_isPlace_4 rfl ?_
    refine zk_bipush dX4_isPlace_5 zb_8 ?_
    refine zk_icmp_ge (tgt := 14) dX4_isPlace_7 (by decide) (fun h7 => ?_) (fun h7 => ?_)
    · refine zk_iconst dX4_isPlace_14 zc_0 ?_
      refine zk_zret rfl (by decide) dX4_isPlace_15 ?_
      exact zk_Ei_of (by first | exact (if_pos ⟨Int32.not_lt.mp h1, Int32.not_le.mp h7⟩).symm | exact (if_neg (fun h => absurd h.1 (Int32.not_le.mpr h1))).symm | exact (if_neg (fun h => absurd h.2 (Int32.not_lt.mpr h7))).symm) rfl rfl
    · refine zk_iconst dX4_isPlace_10 zc_1 ?_
      refine zk_goto (tgt := 15) dX4_isPlace_11 (by decide) ?_
      refine zk_zret rfl (by decide) dX4_isPlace_15 ?_
      exact zk_Ei_of (by first | exact (if_pos ⟨Int32.not_lt.mp h1, Int32.not_le.mp h7⟩).symm | exact (if_neg (fun h => absurd h.1 (Int32.not_le.mpr h1))).symm | exact (if_neg (fun h => absurd h.2 (Int32.not_lt.mpr h7))).symm) rfl rfl
set_option maxRecDepth 100000 in
set_option maxHeartbeats 4000000 in
theorem qX4_isBelow {l : Launch} {σ : zk_Sh} {M : zk_M} {L : zk_L} {x y : Int32} : zk_C l σ 0 muX4_isBelow [.int x, .int y] M L (zk_Ei (if 0 ≤ x ∧ x < y then 1 else 0) M L) := by
  refine zk_ofR (ls := [some (.int x), some (.int y)]) (by decide) rfl (Nat.le_of_ble_eq_true rfl) rfl ?_
  refine zk_iload_n dX4_isBelow_0 rfl ?_
  refine zk_if_lt (tgt := 13) dX4_isBelow_1 (by decide) (fun h1 => ?_) (fun h1 => ?_)
  · refine zk_iconst dX4_isBelow_13 zc_0 ?_
    refine zk_zret rfl (by decide) dX4_isBelow_14 ?_
    exact zk_Ei_of (by first | exact (if_pos ⟨Int32.not_lt.mp h1, Int32.not_le.mp h6⟩).symm | exact (if_neg (fun h => absurd h.1 (Int32.not_le.mpr h1))).symm | exact (if_neg (fun h => absurd h.2 (Int32.not_lt.mpr h6))).symm) rfl rfl
  · refine zk_iload_n dX4_isBelow_4 rfl ?_
    refine zk_iload_n dX4_isBelow_5 rfl ?_
    refine zk_icmp_ge (tgt := 13) dX4_isBelow_6 (by decide) (fun h6 => ?_) (fun h6 => ?_)
    · refine zk_iconst dX4_isBelow_13 zc_0 ?_
      refine zk_zret rfl (by decide) dX4_isBelow_14 ?_
      exact zk_Ei_of (by first | exact (if_pos ⟨Int32.not_lt.mp h1, Int32.not_le.mp h6⟩).symm | exact (if_neg (fun h => absurd h.1 (Int32.not_le.mpr h1))).symm | exact (if_neg (fun h => absurd h.2 (Int32.not_lt.mpr h6))).symm) rfl rfl
    · refine zk_iconst dX4_isBelow_9 zc_1 ?_
      refine zk_goto (tgt := 14) dX4_isBelow_10 (by decide) ?_
      refine zk_zret rfl (by decide) dX4_isBelow_14 ?_
      exact zk_Ei_of (by first | exact (if_pos ⟨Int32.not_lt.mp h1, Int32.not_le.mp h6⟩).symm | exact (if_neg (fun h => absurd h.1 (Int32.not_le.mpr h1))).symm | exact (if_neg (fun h => absurd h.2 (Int32.not_lt.mpr h6))).symm) rfl rfl
theorem qX4_isPlace_t {l : Launch} {σ : zk_Sh} {M : zk_M} {L : zk_L} {x : Int32} (h : zs_p x) : zk_C l σ 0 muX4_isPlace [.int x] M L (zk_Ei 1 M L) := by
  have := qX4_isPlace (l := l) (σ := σ) (M := M) (L := L) (x := x)
  rwa [if_pos h] at this
set_option maxRecDepth 100000 in
set_option maxHeartbeats 4000000 in
theorem qX4_shoesOfKind {l : Launch} {σ : zk_Sh} {M : zk_M} {L : zk_L} {k : Int32} : zk_C l σ 0 muX4_shoesOfKind [.int k] M L (zk_Ei (zs_sk k) M L) := by
  refine zk_ofR (ls := [some (.int k)]) (by decide) rfl (Nat.le_of_ble_eq_true rfl) rfl ?_
  refine zk_iload_n dX4_shoesOfKind_0 rfl ?_
  by_cases hx0 : k = 0
  · rw [hx0]
    refine zk_tabIn (off := 39) (tgt := 40) dX4_shoesOfKind_1 (by decide) (by decide) (by decide) (by decide) ?_
    refine zk_iconst dX4_shoesOfKind_40 zc_4 ?_
    refine zk_iret rfl dX4_shoesOfKind_41 ?_
    exact zk_Ei_of (by simp_all [zs_sk]) rfl rfl
  by_cases hx1 : k = 1
  · rw [hx1]
    refine zk_tabIn (off := 41) (tgt := 42) dX4_shoesOfKind_1 (by decide) (by decide) (by decide) (by decide) ?_
    refine zk_iconst dX4_shoesOfKind_42 zc_1 ?_
    refine zk_iret rfl dX4_shoesOfKind_43 ?_
    exact zk_Ei_of (by simp_all [zs_sk]) rfl rfl
  by_cases hx2 : k = 2
  · rw [hx2]
    refine zk_tabIn (off := 43) (tgt := 44) dX4_shoesOfKind_1 (by decide) (by decide) (by decide) (by decide) ?_
    refine zk_iconst dX4_shoesOfKind_44 zc_3 ?_
    refine zk_iret rfl dX4_shoesOfKind_45 ?_
    exact zk_Ei_of (by simp_all [zs_sk]) rfl rfl
  by_cases hx3 : k = 3
  · rw [hx3]
    refine zk_tabIn (off := 49) (tgt := 50) dX4_shoesOfKind_1 (by decide) (by decide) (by decide) (by decide) ?_
    refine zk_iconst dX4_shoesOfKind_50 zc_0 ?_
    refine zk_iret rfl dX4_shoesOfKind_51 ?_
    exact zk_Ei_of (by simp_all [zs_sk]) rfl rfl
  by_cases hx4 : k = 4
  · rw [hx4]
    refine zk_tabIn (off := 45) (tgt := 46) dX4_shoesOfKind_1 (by decide) (by decide) (by decide) (by decide) ?_
    refine zk_iconst dX4_shoesOfKind_46 zc_2 ?_
    refine zk_iret rfl dX4_shoesOfKind_47 ?_
    exact zk_Ei_of (by simp_all [zs_sk]) rfl rfl
  by_cases hx5 : k = 5
  · rw [hx5]
    refine zk_tabIn (off := 47) (tgt := 48) dX4_shoesOfKind_1 (by decide) (by decide) (by decide) (by decide) ?_
    refine zk_iconst dX4_shoesOfKind_48 zc_3 ?_
    refine zk_iret rfl dX4_shoesOfKind_49 ?_
    exact zk_Ei_of (by simp_all [zs_sk]) rfl rfl
  refine zk_tabOut (tgt := 50) dX4_shoesOfKind_1 (zs_out05 hx0 hx1 hx2 hx3 hx4 hx5) (by decide) ?_
  refine zk_iconst dX4_shoesOfKind_50 zc_0 ?_
  refine zk_iret rfl dX4_shoesOfKind_51 ?_
  exact zk_Ei_of (by simp_all [zs_sk]) rfl rfl
set_option maxRecDepth 100000 in
set_option maxHeartbeats 4000000 in
theorem qX4_daysOfKind {l : Launch} {σ : zk_Sh} {M : zk_M} {L : zk_L} {k f : Int32} : zk_C l σ 0 muX4_daysOfKind [.int k, .int f] M L (zk_Ei (zs_dk k f) M L) := by
  refine zk_ofR (ls := [some (.int k), some (.int f), none, none]) (by decide) rfl (Nat.le_of_ble_eq_true rfl) rfl ?_
  refine zk_iload_n dX4_daysOfKind_0 rfl ?_
  refine zk_iconst dX4_daysOfKind_1 zc_3 ?_
  refine zk_idiv dX4_daysOfKind_2 (by decide) ?_
  refine zk_iconst dX4_daysOfKind_3 zc_1 ?_
  refine zk_iadd dX4_daysOfKind_4 ?_
  refine zk_istore_n dX4_daysOfKind_5 zk_S_2 ?_
  refine zk_iload_n dX4_daysOfKind_6 rfl ?_
  refine zk_iconst dX4_daysOfKind_7 zc_2 ?_
  refine zk_idiv dX4_daysOfKind_8 (by decide) ?_
  refine zk_iconst dX4_daysOfKind_9 zc_1 ?_
  refine zk_iadd dX4_daysOfKind_10 ?_
  refine zk_istore_n dX4_daysOfKind_11 zk_S_3 ?_
  refine zk_iload_n dX4_daysOfKind_12 rfl ?_
  by_cases hx0 : k = 0
  · rw [hx0]
    refine zk_tabIn (off := 39) (tgt := 52) dX4_daysOfKind_13 (by decide) (by decide) (by decide) (by decide) ?_
    refine zk_iload_n dX4_daysOfKind_52 rfl ?_
    refine zk_iret rfl dX4_daysOfKind_53 ?_
    exact zk_Ei_of (by simp_all [zs_dk]) rfl rfl
  by_cases hx1 : k = 1
  · rw [hx1]
    refine zk_tabIn (off := 41) (tgt := 54) dX4_daysOfKind_13 (by decide) (by decide) (by decide) (by decide) ?_
    refine zk_iload_n dX4_daysOfKind_54 rfl ?_
    refine zk_iret rfl dX4_daysOfKind_55 ?_
    exact zk_Ei_of (by simp_all [zs_dk]) rfl rfl
  by_cases hx2 : k = 2
  · rw [hx2]
    refine zk_tabIn (off := 43) (tgt := 56) dX4_daysOfKind_13 (by decide) (by decide) (by decide) (by decide) ?_
    refine zk_iload_n dX4_daysOfKind_56 rfl ?_
    refine zk_iret rfl dX4_daysOfKind_57 ?_
    exact zk_Ei_of (by simp_all [zs_dk]) rfl rfl
  by_cases hx3 : k = 3
  · rw [hx3]
    refine zk_tabIn (off := 53) (tgt := 66) dX4_daysOfKind_13 (by decide) (by decide) (by decide) (by decide) ?_
    refine zk_iconst dX4_daysOfKind_66 zc_0 ?_
    refine zk_iret rfl dX4_daysOfKind_67 ?_
    exact zk_Ei_of (by simp_all [zs_dk]) rfl rfl
  by_cases hx4 : k = 4
  · rw [hx4]
    refine zk_tabIn (off := 45) (tgt := 58) dX4_daysOfKind_13 (by decide) (by decide) (by decide) (by decide) ?_
    refine zk_iconst dX4_daysOfKind_58 zc_2 ?_
    refine zk_iload_n dX4_daysOfKind_59 rfl ?_
    refine zk_imul dX4_daysOfKind_60 ?_
    refine zk_iret rfl dX4_daysOfKind_61 ?_
    exact zk_Ei_of (by simp_all [zs_dk]) rfl rfl
  by_cases hx5 : k = 5
  · rw [hx5]
    refine zk_tabIn (off := 49) (tgt := 62) dX4_daysOfKind_13 (by decide) (by decide) (by decide) (by decide) ?_
    refine zk_iload_n dX4_daysOfKind_62 rfl ?_
    refine zk_iconst dX4_daysOfKind_63 zc_1 ?_
    refine zk_iadd dX4_daysOfKind_64 ?_
    refine zk_iret rfl dX4_daysOfKind_65 ?_
    exact zk_Ei_of (by simp_all [zs_dk]) rfl rfl
  refine zk_tabOut (tgt := 66) dX4_daysOfKind_13 (zs_out05 hx0 hx1 hx2 hx3 hx4 hx5) (by decide) ?_
  refine zk_iconst dX4_daysOfKind_66 zc_0 ?_
  refine zk_iret rfl dX4_daysOfKind_67 ?_
  exact zk_Ei_of (by simp_all [zs_dk]) rfl rfl
