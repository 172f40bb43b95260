theorem zs_255 : (Int16.ofInt 255).toInt32 = (255 : Int32) := by decide +kernel
theorem zs_m1000 : (Int16.ofInt (-1000)).toInt32 = (-1000 : Int32) := by decide +kernel
theorem zs_m2000 : (Int16.ofInt (-2000)).toInt32 = (-2000 : Int32) := by decide +kernel
def zs_I23 (M : zk_M) (n : Nat) : Prop := n ≤ 6 ∧ M 23 2 = nI n ∧ ∀ q, q < 6 → zs_ok (M (28 + q))
theorem zs_nI_add (a b : Nat) : nI a + nI b = nI (a + b) := (Int32.ofNat_add a b).symm
theorem zs_I23.le6 {M : zk_M} {n : Nat} (h : zs_I23 M n) : M 23 2 ≤ 6 := by rw [h.2.1]; exact nI_le (b := 6) h.1 (by decide)
theorem zs_isr_nI {n : Nat} (hn : n ≤ 6) {r : Int32} (hr : zs_isr (nI n) r) : ∃ p, p < n ∧ r = nI p := by
  refine vp_in_of (vp_in_iff.mpr ⟨by simpa [Int32.le_iff_toInt_le] using hr.1, ?_⟩) (by omega)
  have h2 := hr.2
  rw [Int32.lt_iff_toInt_lt, nI_toInt (by omega)] at h2
  exact h2
/-- what a statement does to the county told to; none: it is not as it must be -/
def zs_tsx (M : zk_M) (n : Nat) (o a b kd x y z : Int32) : Option zk_M :=
  if o = 97 then (if zs_isr (nI n) a ∧ zs_p b then some (va_up M (28 + a.toNatClampNeg) (va_up (M (28 + a.toNatClampNeg)) 4 b)) else none)
  else if o = 100 then (if 1 ≤ 10 * a + b ∧ 10 * a + b ≤ 60 ∧ M 23 3 + (10 * a + b) ≤ 999 then some (zs_pass zc 23 n (10 * a + b).toNatClampNeg M) else none)
  else if o = 104 then (if n < 6 ∧ zs_p x ∧ zs_p y ∧ zs_p z then some (va_up (va_up M (28 + n) (zs_new (M (28 + n)) kd b x y z)) 23 (va_up (M 23) 2 (nI (n + 1)))) else none)
  else if o = 114 then (if zs_p a ∧ zs_p b ∧ ¬ a = b then some (va_up (va_up M 25 (zs_turn (M 25) a b)) 26 (zs_fw (zs_turn (M 25) a b) (M 26))) else none)
  else if o = 115 then (if zs_isr (nI n) a then some (va_up M (28 + a.toNatClampNeg) (zs_shod (M (28 + a.toNatClampNeg)))) else none)
  else if o = 119 then (if zs_isr (nI n) a ∧ zs_p b then some (va_up M (28 + a.toNatClampNeg) (va_up (M (28 + a.toNatClampNeg)) 2 b)) else none)
  else none
def zs_oi (x : Option zk_M) : Int32 := if x.isSome = true then 1 else 0
def zs_ts (M : zk_M) (n : Nat) (S : Nat → Int32) (k st : Nat) : Option zk_M := zs_tsx M n (zs_sg S k st) (zs_sg S k (st + 1) - 48) (zs_sg S k (st + 2) - 48) (zs_kl (zs_sg S k (st + 1))) (zs_sg S k (st + 3) - 48) (zs_sg S k (st + 4) - 48) (zs_sg S k (st + 5) - 48)
theorem q23_change_t {l : Launch} {M : zk_M} {L : zk_L} {a b : Int32} (ha : zs_p a) (hb : zs_p b) (hab : ¬ a = b) : zk_C l zc 4 muX0_changeRoad [.ref 23, .int a, .int b] M L (zk_Ei 1 (va_up (va_up M 25 (zs_turn (M 25) a b)) 26 (zs_fw (zs_turn (M 25) a b) (M 26))) L) := qX0_changeRoad_t zc_c23 ha hb hab
theorem q23_change_f {l : Launch} {M : zk_M} {L : zk_L} {a b : Int32} (hn : ¬ (zs_p a ∧ zs_p b ∧ ¬ a = b)) : zk_C l zc 4 muX0_changeRoad [.ref 23, .int a, .int b] M L (zk_Ei 0 M L) := qX0_changeRoad_f zc_c23 hn
theorem q23_shoe_t {l : Launch} {M : zk_M} {L : zk_L} {n : Nat} (hI : zs_I23 M n) {p : Nat} (hp : p < n) : zk_C l zc 2 muX0_shoeAnew [.ref 23, .int (nI p)] M L (zk_Ei 1 (va_up M (28 + p) (zs_shod (M (28 + p)))) L) := qX0_shoeAnew_t zc_c23 (Nat.lt_of_lt_of_le hp hI.1) hI.le6 (by have := hI.1; rw [hI.2.1]; exact ⟨nI_pos' (by omega), nI_lt hp (by omega)⟩)
theorem q23_shoe_f {l : Launch} {M : zk_M} {L : zk_L} {n : Nat} (hI : zs_I23 M n) {r : Int32} (hr : ¬ zs_isr (nI n) r) : zk_C l zc 2 muX0_shoeAnew [.ref 23, .int r] M L (zk_Ei 0 M L) := qX0_shoeAnew_f zc_c23 hI.le6 (by rw [hI.2.1]; exact hr)
theorem q23_setGoal_t {l : Launch} {M : zk_M} {L : zk_L} {n : Nat} (hI : zs_I23 M n) {p : Nat} (hp : p < n) {x : Int32} (hx : zs_p x) : zk_C l zc 1 muX0_setGoal [.ref 23, .int (nI p), .int x] M L (zk_Ei 1 (va_up M (28 + p) (va_up (M (28 + p)) 2 x)) L) := qX0_setGoal_t zc_c23 (Nat.lt_of_lt_of_le hp hI.1) hI.le6 (by have := hI.1; rw [hI.2.1]; exact ⟨nI_pos' (by omega), nI_lt hp (by omega)⟩) hx
theorem q23_setGoal_f {l : Launch} {M : zk_M} {L : zk_L} {n : Nat} (hI : zs_I23 M n) {r x : Int32} (hn : ¬ (zs_isr (nI n) r ∧ zs_p x)) : zk_C l zc 1 muX0_setGoal [.ref 23, .int r, .int x] M L (zk_Ei 0 M L) := qX0_setGoal_f zc_c23 hI.le6 (by rw [hI.2.1]; exact hn)
theorem q23_setAt_t {l : Launch} {M : zk_M} {L : zk_L} {n : Nat} (hI : zs_I23 M n) {p : Nat} (hp : p < n) {x : Int32} (hx : zs_p x) : zk_C l zc 1 muX0_setAt [.ref 23, .int (nI p), .int x] M L (zk_Ei 1 (va_up M (28 + p) (va_up (M (28 + p)) 4 x)) L) := qX0_setAt_t zc_c23 (Nat.lt_of_lt_of_le hp hI.1) hI.le6 (by have := hI.1; rw [hI.2.1]; exact ⟨nI_pos' (by omega), nI_lt hp (by omega)⟩) hx
theorem q23_setAt_f {l : Launch} {M : zk_M} {L : zk_L} {n : Nat} (hI : zs_I23 M n) {r x : Int32} (hn : ¬ (zs_isr (nI n) r ∧ zs_p x)) : zk_C l zc 1 muX0_setAt [.ref 23, .int r, .int x] M L (zk_Ei 0 M L) := qX0_setAt_f zc_c23 hI.le6 (by rw [hI.2.1]; exact hn)
theorem q23_pass_t {l : Launch} {M : zk_M} {L : zk_L} {n : Nat} (hI : zs_I23 M n) {t : Nat} (h1 : 1 ≤ t) (h60 : t ≤ 60) (hday : M 23 3 + nI t ≤ 999) : zk_C l zc 4 muX0_passDays [.ref 23, .int (nI t)] M L (zk_Ei 1 (zs_pass zc 23 n t M) L) := qX0_passDays_t zc_c23 hI.1 hI.2.1 hI.2.2 h1 h60 hday
theorem q23_pass_f {l : Launch} {M : zk_M} {L : zk_L} {t : Int32} (hn : ¬ (1 ≤ t ∧ t ≤ 60 ∧ M 23 3 + t ≤ 999)) : zk_C l zc 4 muX0_passDays [.ref 23, .int t] M L (zk_Ei 0 M L) := qX0_passDays_f zc_c23 hn
theorem q23_add_t {l : Launch} {M : zk_M} {L : zk_L} {n : Nat} (hI : zs_I23 M n) (hn : n < 6) {kd g x y z : Int32} (hx : zs_p x) (hy : zs_p y) (hz : zs_p z) : zk_C l zc 2 muX0_addRider [.ref 23, .int kd, .int g, .int x, .int y, .int z] M L (zk_Ei 1 (va_up (va_up M (28 + n) (zs_new (M (28 + n)) kd g x y z)) 23 (va_up (M 23) 2 (nI (n + 1)))) L) := by
  have := qX0_addRider_t (l := l) (L := L) zc_c23 hn hI.2.1 (kd := kd) (g := g) hx hy hz
  rw [hI.2.1, ← nI_succ] at this
  exact this
theorem q23_add_f {l : Launch} {M : zk_M} {L : zk_L} {n : Nat} (hI : zs_I23 M n) {kd g x y z : Int32} (hn : ¬ (n < 6 ∧ zs_p x ∧ zs_p y ∧ zs_p z)) : zk_C l zc 2 muX0_addRider [.ref 23, .int kd, .int g, .int x, .int y, .int z] M L (zk_Ei 0 M L) := qX0_addRider_f zc_c23 (fun q => hn ⟨by have h := q.1; have := hI.1; rw [hI.2.1, Int32.lt_iff_toInt_lt, nI_toInt (by omega)] at h; have e : (6 : Int32).toInt = 6 := rfl; omega, q.2⟩)
set_option maxRecDepth 100000 in
set_option maxHeartbeats 4000000 in
theorem qX3_tellRider_t {l : Launch} {M : zk_M} {L : zk_L} {k : Nat} (hS : zs_S M k) {n : Nat} (hI : zs_I23 M n) {st : Nat} (hst : st < 2 ^ 30) (hx : zs_p (zs_sg (M 40) k (st + 3) - 48)) (hy : zs_p (zs_sg (M 40) k (st + 4) - 48)) (hz : zs_p (zs_sg (M 40) k (st + 5) - 48)) (hn : n < 6) : zk_C l zc 3 muX3_tellRider [.ref 39, .ref 23, .int (nI st)] M L (zk_Ei 1 (va_up (va_up M (28 + n) (zs_new (M (28 + n)) (zs_kl (zs_sg (M 40) k (st + 1))) (zs_sg (M 40) k (st + 2) - 48) (zs_sg (M 40) k (st + 3) - 48) (zs_sg (M 40) k (st + 4) - 48) (zs_sg (M 40) k (st + 5) - 48))) 23 (va_up (M 23) 2 (nI (n + 1)))) L) := by
  refine zk_ofR (ls := [some (.ref 39), some (.ref 23), some (.int (nI st)), none]) (by decide) rfl (Nat.le_of_ble_eq_true rfl) rfl ?_
  refine zk_aload_n dX3_tellRider_0 rfl ?_
  refine zk_iload_n dX3_tellRider_1 rfl ?_
  refine zk_iconst dX3_tellRider_2 zc_1 ?_
  refine zk_iadd dX3_tellRider_3 ?_
  rw [show nI st + 1 = nI (st + 1) from zs_nI_add st 1]
  refine zk_cVi (qX3_signAt hS (by omega)) dX3_tellRider_4 mwX3_signAt ml_X3_31 (by decide : 39 < zc.1) rfl rfl (by decide) rfl (Nat.le_of_ble_eq_true rfl) ?_
  refine zk_cNi (qX4_kindOfLetter) dX3_tellRider_7 miX4_kindOfLetter nl_X3_45 stX4_kindOfLetter rfl (by decide) rfl (Nat.le_of_ble_eq_true rfl) ?_
  refine zk_istore_n dX3_tellRider_10 zk_S_3 ?_
  refine zk_aload_n dX3_tellRider_11 rfl ?_
  refine zk_iload_n dX3_tellRider_12 rfl ?_
  refine zk_aload_n dX3_tellRider_13 rfl ?_
  refine zk_iload_n dX3_tellRider_14 rfl ?_
  refine zk_iconst dX3_tellRider_15 zc_2 ?_
  refine zk_iadd dX3_tellRider_16 ?_
  rw [show nI st + 2 = nI (st + 2) from zs_nI_add st 2]
  refine zk_cVi (qX3_digitAt hS (by omega)) dX3_tellRider_17 mwX3_digitAt ml_X3_48 (by decide : 39 < zc.1) rfl rfl (by decide) rfl (Nat.le_of_ble_eq_true rfl) ?_
  refine zk_aload_n dX3_tellRider_20 rfl ?_
  refine zk_iload_n dX3_tellRider_21 rfl ?_
  refine zk_iconst dX3_tellRider_22 zc_3 ?_
  refine zk_iadd dX3_tellRider_23 ?_
  rw [show nI st + 3 = nI (st + 3) from zs_nI_add st 3]
  refine zk_cVi (qX3_digitAt hS (by omega)) dX3_tellRider_24 mwX3_digitAt ml_X3_48 (by decide : 39 < zc.1) rfl rfl (by decide) rfl (Nat.le_of_ble_eq_true rfl) ?_
  refine zk_aload_n dX3_tellRider_27 rfl ?_
  refine zk_iload_n dX3_tellRider_28 rfl ?_
  refine zk_iconst dX3_tellRider_29 zc_4 ?_
  refine zk_iadd dX3_tellRider_30 ?_
  rw [show nI st + 4 = nI (st + 4) from zs_nI_add st 4]
  refine zk_cVi (qX3_digitAt hS (by omega)) dX3_tellRider_31 mwX3_digitAt ml_X3_48 (by decide : 39 < zc.1) rfl rfl (by decide) rfl (Nat.le_of_ble_eq_true rfl) ?_
  refine zk_aload_n dX3_tellRider_34 rfl ?_
  refine zk_iload_n dX3_tellRider_35 rfl ?_
  refine zk_iconst dX3_tellRider_36 zc_5 ?_
  refine zk_iadd dX3_tellRider_37 ?_
  rw [show nI st + 5 = nI (st + 5) from zs_nI_add st 5]
  refine zk_cVi (qX3_digitAt hS (by omega)) dX3_tellRider_38 mwX3_digitAt ml_X3_48 (by decide : 39 < zc.1) rfl rfl (by decide) rfl (Nat.le_of_ble_eq_true rfl) ?_
  refine zk_cVi (q23_add_t hI hn hx hy hz) dX3_tellRider_41 mwX0_addRider ml_X3_72 (by decide : 23 < zc.1) rfl rfl (by decide) rfl (Nat.le_of_ble_eq_true rfl) ?_
  refine zk_zret rfl (by decide) dX3_tellRider_44 ?_
  exact ⟨rfl, rfl, rfl⟩
set_option maxRecDepth 100000 in
set_option maxHeartbeats 4000000 in
theorem qX3_tellRider_f {l : Launch} {M : zk_M} {L : zk_L} {k : Nat} (hS : zs_S M k) {n : Nat} (hI : zs_I23 M n) {st : Nat} (hst : st < 2 ^ 30) (hn : ¬ (n < 6 ∧ zs_p (zs_sg (M 40) k (st + 3) - 48) ∧ zs_p (zs_sg (M 40) k (st + 4) - 48) ∧ zs_p (zs_sg (M 40) k (st + 5) - 48))) : zk_C l zc 3 muX3_tellRider [.ref 39, .ref 23, .int (nI st)] M L (zk_Ei 0 M L) := by
  refine zk_ofR (ls := [some (.ref 39), some (.ref 23), some (.int (nI st)), none]) (by decide) rfl (Nat.le_of_ble_eq_true rfl) rfl ?_
  refine zk_aload_n dX3_tellRider_0 rfl ?_
  refine zk_iload_n dX3_tellRider_1 rfl ?_
  refine zk_iconst dX3_tellRider_2 zc_1 ?_
  refine zk_iadd dX3_tellRider_3 ?_
  rw [show nI st + 1 = nI (st + 1) from zs_nI_add st 1]
  refine zk_cVi (qX3_signAt hS (by omega)) dX3_tellRider_4 mwX3_signAt ml_X3_31 (by decide : 39 < zc.1) rfl rfl (by decide) rfl (Nat.le_of_ble_eq_true rfl) ?_
  refine zk_cNi (qX4_kindOfLetter) dX3_tellRider_7 miX4_kindOfLetter nl_X3_45 stX4_kindOfLetter rfl (by decide) rfl (Nat.le_of_ble_eq_true rfl) ?_
  refine zk_istore_n dX3_tellRider_10 zk_S_3 ?_
  refine zk_aload_n dX3_tellRider_11 rfl ?_
  refine zk_iload_n dX3_tellRider_12 rfl ?_
  refine zk_aload_n dX3_tellRider_13 rfl ?_
  refine zk_iload_n dX3_tellRider_14 rfl ?_
  refine zk_iconst dX3_tellRider_15 zc_2 ?_
  refine zk_iadd dX3_tellRider_16 ?_
  rw [show nI st + 2 = nI (st + 2) from zs_nI_add st 2]
  refine zk_cVi (qX3_digitAt hS (by omega)) dX3_tellRider_17 mwX3_digitAt ml_X3_48 (by decide : 39 < zc.1) rfl rfl (by decide) rfl (Nat.le_of_ble_eq_true rfl) ?_
  refine zk_aload_n dX3_tellRider_20 rfl ?_
  refine zk_iload_n dX3_tellRider_21 rfl ?_
  refine zk_iconst dX3_tellRider_22 zc_3 ?_
  refine zk_iadd dX3_tellRider_23 ?_
  rw [show nI st + 3 = nI (st + 3) from zs_nI_add st 3]
  refine zk_cVi (qX3_digitAt hS (by omega)) dX3_tellRider_24 mwX3_digitAt ml_X3_48 (by decide : 39 < zc.1) rfl rfl (by decide) rfl (Nat.le_of_ble_eq_true rfl) ?_
  refine zk_aload_n dX3_tellRider_27 rfl ?_
  refine zk_iload_n dX3_tellRider_28 rfl ?_
  refine zk_iconst dX3_tellRider_29 zc_4 ?_
  refine zk_iadd dX3_tellRider_30 ?_
  rw [show nI st + 4 = nI (st + 4) from zs_nI_add st 4]
  refine zk_cVi (qX3_digitAt hS (by omega)) dX3_tellRider_31 mwX3_digitAt ml_X3_48 (by decide : 39 < zc.1) rfl rfl (by decide) rfl (Nat.le_of_ble_eq_true rfl) ?_
  refine zk_aload_n dX3_tellRider_34 rfl ?_
  refine zk_iload_n dX3_tellRider_35 rfl ?_
  refine zk_iconst dX3_tellRider_36 zc_5 ?_
  refine zk_iadd dX3_tellRider_37 ?_
  rw [show nI st + 5 = nI (st + 5) from zs_nI_add st 5]
  refine zk_cVi (qX3_digitAt hS (by omega)) dX3_tellRider_38 mwX3_digitAt ml_X3_48 (by decide : 39 < zc.1) rfl rfl (by decide) rfl (Nat.le_of_ble_eq_true rfl) ?_
  refine zk_cVi (q23_add_f hI hn) dX3_tellRider_41 mwX0_addRider ml_X3_72 (by decide : 23 < zc.1) rfl rfl (by decide) rfl (Nat.le_of_ble_eq_true rfl) ?_
  refine zk_zret rfl (by decide) dX3_tellRider_44 ?_
  exact ⟨rfl, rfl, rfl⟩
theorem zs_tsx_a {M : zk_M} {n : Nat} {a b kd x y z : Int32} : zs_tsx M n 97 a b kd x y z = (if zs_isr (nI n) a ∧ zs_p b then some (va_up M (28 + a.toNatClampNeg) (va_up (M (28 + a.toNatClampNeg)) 4 b)) else none) := if_pos rfl
theorem zs_tsx_d {M : zk_M} {n : Nat} {a b kd x y z : Int32} : zs_tsx M n 100 a b kd x y z = (if 1 ≤ 10 * a + b ∧ 10 * a + b ≤ 60 ∧ M 23 3 + (10 * a + b) ≤ 999 then some (zs_pass zc 23 n (10 * a + b).toNatClampNeg M) else none) := by rw [zs_tsx, if_neg (by decide), if_pos rfl]
theorem zs_tsx_h {M : zk_M} {n : Nat} {a b kd x y z : Int32} : zs_tsx M n 104 a b kd x y z = (if n < 6 ∧ zs_p x ∧ zs_p y ∧ zs_p z then some (va_up (va_up M (28 + n) (zs_new (M (28 + n)) kd b x y z)) 23 (va_up (M 23) 2 (nI (n + 1)))) else none) := by rw [zs_tsx, if_neg (by decide), if_neg (by decide), if_pos rfl]
theorem zs_tsx_r {M : zk_M} {n : Nat} {a b kd x y z : Int32} : zs_tsx M n 114 a b kd x y z = (if zs_p a ∧ zs_p b ∧ ¬ a = b then some (va_up (va_up M 25 (zs_turn (M 25) a b)) 26 (zs_fw (zs_turn (M 25) a b) (M 26))) else none) := by rw [zs_tsx, if_neg (by decide), if_neg (by decide), if_neg (by decide), if_pos rfl]
theorem zs_tsx_s {M : zk_M} {n : Nat} {a b kd x y z : Int32} : zs_tsx M n 115 a b kd x y z = (if zs_isr (nI n) a then some (va_up M (28 + a.toNatClampNeg) (zs_shod (M (28 + a.toNatClampNeg)))) else none) := by rw [zs_tsx, if_neg (by decide), if_neg (by decide), if_neg (by decide), if_neg (by decide), if_pos rfl]
theorem zs_tsx_w {M : zk_M} {n : Nat} {a b kd x y z : Int32} : zs_tsx M n 119 a b kd x y z = (if zs_isr (nI n) a ∧ zs_p b then some (va_up M (28 + a.toNatClampNeg) (va_up (M (28 + a.toNatClampNeg)) 2 b)) else none) := by rw [zs_tsx, if_neg (by decide), if_neg (by decide), if_neg (by decide), if_neg (by decide), if_neg (by decide), if_pos rfl]
theorem zs_tsx_0 {M : zk_M} {n : Nat} {o a b kd x y z : Int32} (h1 : ¬ o = 97) (h2 : ¬ o = 100) (h3 : ¬ o = 104) (h4 : ¬ o = 114) (h5 : ¬ o = 115) (h6 : ¬ o = 119) : zs_tsx M n o a b kd x y z = none := by rw [zs_tsx, if_neg h1, if_neg h2, if_neg h3, if_neg h4, if_neg h5, if_neg h6]
theorem zs_oi_s {x : zk_M} : zs_oi (some x) = 1 := rfl
theorem zs_oi_n : zs_oi none = 0 := rfl
theorem zs_days_of {t : Int32} (h1 : 1 ≤ t) (h60 : t ≤ 60) : ∃ j, 1 ≤ j ∧ j ≤ 60 ∧ t = nI j := by
  rw [Int32.le_iff_toInt_le] at h1 h60
  have e1 : (1 : Int32).toInt = 1 := rfl
  have e2 : (60 : Int32).toInt = 60 := rfl
  refine ⟨t.toInt.toNat, by omega, by omega, Int32.toInt_inj.mp ?_⟩
  rw [nI_toInt (by omega)]
  omega
set_option maxRecDepth 100000 in
set_option maxHeartbeats 4000000 in
theorem qX3_tellStatement {l : Launch} {M : zk_M} {L : zk_L} {k : Nat} (hS : zs_S M k) {n : Nat} (hI : zs_I23 M n) {st : Nat} (hst : st < 2 ^ 30) : zk_C l zc 5 muX3_tellStatement [.ref 39, .ref 23, .int (nI st)] M L (zk_Ei (zs_oi (zs_ts M n (M 40) k st)) ((zs_ts M n (M 40) k st).getD M) L) := by
  refine zk_ofR (ls := [some (.ref 39), some (.ref 23), some (.int (nI st)), none, none]) (by decide) rfl (Nat.le_of_ble_eq_true rfl) rfl ?_
  refine zk_aload_n dX3_tellStatement_0 rfl ?_
  refine zk_iload_n dX3_tellStatement_1 rfl ?_
  refine zk_iconst dX3_tellStatement_2 zc_1 ?_
  refine zk_iadd dX3_tellStatement_3 ?_
  rw [show nI st + 1 = nI (st + 1) from zs_nI_add st 1]
  refine zk_cVi (qX3_digitAt hS (by omega)) dX3_tellStatement_4 mwX3_digitAt ml_X3_48 (by decide : 39 < zc.1) rfl rfl (by decide) rfl (Nat.le_of_ble_eq_true rfl) ?_
  refine zk_istore_n dX3_tellStatement_7 zk_S_3 ?_
  refine zk_aload_n dX3_tellStatement_8 rfl ?_
  refine zk_iload_n dX3_tellStatement_9 rfl ?_
  refine zk_iconst dX3_tellStatement_10 zc_2 ?_
  refine zk_iadd dX3_tellStatement_11 ?_
  rw [show nI st + 2 = nI (st + 2) from zs_nI_add st 2]
  refine zk_cVi (qX3_digitAt hS (by omega)) dX3_tellStatement_12 mwX3_digitAt ml_X3_48 (by decide : 39 < zc.1) rfl rfl (by decide) rfl (Nat.le_of_ble_eq_true rfl) ?_
  refine zk_istore dX3_tellStatement_15 zk_S_4 ?_
  refine zk_aload_n dX3_tellStatement_17 rfl ?_
  refine zk_iload_n dX3_tellStatement_18 rfl ?_
  refine zk_cVi (qX3_signAt hS (by omega)) dX3_tellStatement_19 mwX3_signAt ml_X3_31 (by decide : 39 < zc.1) rfl rfl (by decide) rfl (Nat.le_of_ble_eq_true rfl) ?_
  unfold zs_ts
  generalize hd1 : zs_sg (M 40) k (st + 1) - 48 = a
  generalize hd2 : zs_sg (M 40) k (st + 2) - 48 = b
  generalize hd0 : zs_sg (M 40) k st = o
  by_cases hx97 : o = 97
  · rw [hx97]
    refine zk_lookup (off := 87) (tgt := 109) dX3_tellStatement_22 (by decide) (by decide) (by decide) ?_
    by_cases hP : zs_isr (nI n) a ∧ zs_p b
    · obtain ⟨⟨p, hp, rfl⟩, hb⟩ : (∃ p, p < n ∧ a = nI p) ∧ zs_p b := ⟨zs_isr_nI hI.1 hP.1, hP.2⟩
      have hp6 := hI.1
      refine zk_aload_n dX3_tellStatement_109 rfl ?_
      refine zk_iload_n dX3_tellStatement_110 rfl ?_
      refine zk_iload dX3_tellStatement_111 rfl ?_
      refine zk_cVi (q23_setAt_t hI hp hb) dX3_tellStatement_113 mwX0_setAt ml_X3_66 (by decide : 23 < zc.1) rfl rfl (by decide) rfl (Nat.le_of_ble_eq_true rfl) ?_
      refine zk_zret rfl (by decide) dX3_tellStatement_116 ?_
      exact zk_Ei_of (by rw [zs_tsx_a, if_pos hP]; rfl) (by rw [zs_tsx_a, if_pos hP]; (try rw [nI_clamp (by omega)]); rfl) rfl
    · refine zk_aload_n dX3_tellStatement_109 rfl ?_
      refine zk_iload_n dX3_tellStatement_110 rfl ?_
      refine zk_iload dX3_tellStatement_111 rfl ?_
      refine zk_cVi (q23_setAt_f hI hP) dX3_tellStatement_113 mwX0_setAt ml_X3_66 (by decide : 23 < zc.1) rfl rfl (by decide) rfl (Nat.le_of_ble_eq_true rfl) ?_
      refine zk_zret rfl (by decide) dX3_tellStatement_116 ?_
      exact zk_Ei_of (by rw [zs_tsx_a, if_neg hP]; rfl) (by rw [zs_tsx_a, if_neg hP]; rfl) rfl
  by_cases hx100 : o = 100
  · rw [hx100]
    refine zk_lookup (off := 95) (tgt := 117) dX3_tellStatement_22 (by decide) (by decide) (by decide) ?_
    by_cases hP : 1 ≤ 10 * a + b ∧ 10 * a + b ≤ 60 ∧ M 23 3 + (10 * a + b) ≤ 999
    · obtain ⟨j, h1, h60, hj⟩ := zs_days_of hP.1 hP.2.1
      refine zk_aload_n dX3_tellStatement_117 rfl ?_
      refine zk_bipush dX3_tellStatement_118 zb_10 ?_
      refine zk_iload_n dX3_tellStatement_120 rfl ?_
      refine zk_imul dX3_tellStatement_121 ?_
      refine zk_iload dX3_tellStatement_122 rfl ?_
      refine zk_iadd dX3_tellStatement_124 ?_
      rw [hj]
      refine zk_cVi (q23_pass_t hI h1 h60 (by rw [← hj]; exact hP.2.2)) dX3_tellStatement_125 mwX0_passDays ml_X3_69 (by decide : 23 < zc.1) rfl rfl (by decide) rfl (Nat.le_of_ble_eq_true rfl) ?_
      refine zk_zret rfl (by decide) dX3_tellStatement_128 ?_
      exact zk_Ei_of (by rw [zs_tsx_d, if_pos hP]; rfl) (by rw [zs_tsx_d, if_pos hP]; rw [hj, nI_clamp (by omega)]; rfl) rfl
    · refine zk_aload_n dX3_tellStatement_117 rfl ?_
      refine zk_bipush dX3_tellStatement_118 zb_10 ?_
      refine zk_iload_n dX3_tellStatement_120 rfl ?_
      refine zk_imul dX3_tellStatement_121 ?_
      refine zk_iload dX3_tellStatement_122 rfl ?_
      refine zk_iadd dX3_tellStatement_124 ?_
      refine zk_cVi (q23_pass_f hP) dX3_tellStatement_125 mwX0_passDays ml_X3_69 (by decide : 23 < zc.1) rfl rfl (by decide) rfl (Nat.le_of_ble_eq_true rfl) ?_
      refine zk_zret rfl (by decide) dX3_tellStatement_128 ?_
      exact zk_Ei_of (by rw [zs_tsx_d, if_neg hP]; rfl) (by rw [zs_tsx_d, if_neg hP]; rfl) rfl
  by_cases hx104 : o = 104
  · rw [hx104]
    refine zk_lookup (off := 66) (tgt := 88) dX3_tellStatement_22 (by decide) (by decide) (by decide) ?_
    by_cases hP : n < 6 ∧ zs_p (zs_sg (M 40) k (st + 3) - 48) ∧ zs_p (zs_sg (M 40) k (st + 4) - 48) ∧ zs_p (zs_sg (M 40) k (st + 5) - 48)
    · refine zk_aload_n dX3_tellStatement_88 rfl ?_
      refine zk_aload_n dX3_tellStatement_89 rfl ?_
      refine zk_iload_n dX3_tellStatement_90 rfl ?_
      refine zk_cVi (qX3_tellRider_t hS hI hst hP.2.1 hP.2.2.1 hP.2.2.2 hP.1) dX3_tellStatement_91 mwX3_tellRider ml_X3_56 (by decide : 39 < zc.1) rfl rfl (by decide) rfl (Nat.le_of_ble_eq_true rfl) ?_
      refine zk_zret rfl (by decide) dX3_tellStatement_94 ?_
      exact zk_Ei_of (by rw [zs_tsx_h, if_pos hP]; rfl) (by rw [zs_tsx_h, if_pos hP, ← hd2]; rfl) rfl
    · refine zk_aload_n dX3_tellStatement_88 rfl ?_
      refine zk_aload_n dX3_tellStatement_89 rfl ?_
      refine zk_iload_n dX3_tellStatement_90 rfl ?_
      refine zk_cVi (qX3_tellRider_f hS hI hst hP) dX3_tellStatement_91 mwX3_tellRider ml_X3_56 (by decide : 39 < zc.1) rfl rfl (by decide) rfl (Nat.le_of_ble_eq_true rfl) ?_
      refine zk_zret rfl (by decide) dX3_tellStatement_94 ?_
      exact zk_Ei_of (by rw [zs_tsx_h, if_neg hP]; rfl) (by rw [zs_tsx_h, if_neg hP]; rfl) rfl
  by_cases hx114 : o = 114
  · rw [hx114]
    refine zk_lookup (off := 58) (tgt := 80) dX3_tellStatement_22 (by decide) (by decide) (by decide) ?_
    by_cases hP : zs_p a ∧ zs_p b ∧ ¬ a = b
    · refine zk_aload_n dX3_tellStatement_80 rfl ?_
      refine zk_iload_n dX3_tellStatement_81 rfl ?_
      refine zk_iload dX3_tellStatement_82 rfl ?_
      refine zk_cVi (q23_change_t hP.1 hP.2.1 hP.2.2) dX3_tellStatement_84 mwX0_changeRoad ml_X3_51 (by decide : 23 < zc.1) rfl rfl (by decide) rfl (Nat.le_of_ble_eq_true rfl) ?_
      refine zk_zret rfl (by decide) dX3_tellStatement_87 ?_
      exact zk_Ei_of (by rw [zs_tsx_r, if_pos hP]; rfl) (by rw [zs_tsx_r, if_pos hP]; rfl) rfl
    · refine zk_aload_n dX3_tellStatement_80 rfl ?_
      refine zk_iload_n dX3_tellStatement_81 rfl ?_
      refine zk_iload dX3_tellStatement_82 rfl ?_
      refine zk_cVi (q23_change_f hP) dX3_tellStatement_84 mwX0_changeRoad ml_X3_51 (by decide : 23 < zc.1) rfl rfl (by decide) rfl (Nat.le_of_ble_eq_true rfl) ?_
      refine zk_zret rfl (by decide) dX3_tellStatement_87 ?_
      exact zk_Ei_of (by rw [zs_tsx_r, if_neg hP]; rfl) (by rw [zs_tsx_r, if_neg hP]; rfl) rfl
  by_cases hx115 : o = 115
  · rw [hx115]
    refine zk_lookup (off := 73) (tgt := 95) dX3_tellStatement_22 (by decide) (by decide) (by decide) ?_
    by_cases hP : zs_isr (nI n) a
    · obtain ⟨p, hp, rfl⟩ := zs_isr_nI hI.1 hP
      have hp6 := hI.1
      refine zk_aload_n dX3_tellStatement_95 rfl ?_
      refine zk_iload_n dX3_tellStatement_96 rfl ?_
      refine zk_cVi (q23_shoe_t hI hp) dX3_tellStatement_97 mwX0_shoeAnew ml_X3_59 (by decide : 23 < zc.1) rfl rfl (by decide) rfl (Nat.le_of_ble_eq_true rfl) ?_
      refine zk_zret rfl (by decide) dX3_tellStatement_100 ?_
      exact zk_Ei_of (by rw [zs_tsx_s, if_pos hP]; rfl) (by rw [zs_tsx_s, if_pos hP]; (try rw [nI_clamp (by omega)]); rfl) rfl
    · refine zk_aload_n dX3_tellStatement_95 rfl ?_
      refine zk_iload_n dX3_tellStatement_96 rfl ?_
      refine zk_cVi (q23_shoe_f hI hP) dX3_tellStatement_97 mwX0_shoeAnew ml_X3_59 (by decide : 23 < zc.1) rfl rfl (by decide) rfl (Nat.le_of_ble_eq_true rfl) ?_
      refine zk_zret rfl (by decide) dX3_tellStatement_100 ?_
      exact zk_Ei_of (by rw [zs_tsx_s, if_neg hP]; rfl) (by rw [zs_tsx_s, if_neg hP]; rfl) rfl
  by_cases hx119 : o = 119
  · rw [hx119]
    refine zk_lookup (off := 79) (tgt := 101) dX3_tellStatement_22 (by decide) (by decide) (by decide) ?_
    by_cases hP : zs_isr (nI n) a ∧ zs_p b
    · obtain ⟨⟨p, hp, rfl⟩, hb⟩ : (∃ p, p < n ∧ a = nI p) ∧ zs_p b := ⟨zs_isr_nI hI.1 hP.1, hP.2⟩
      have hp6 := hI.1
      refine zk_aload_n dX3_tellStatement_101 rfl ?_
      refine zk_iload_n dX3_tellStatement_102 rfl ?_
      refine zk_iload dX3_tellStatement_103 rfl ?_
      refine zk_cVi (q23_setGoal_t hI hp hb) dX3_tellStatement_105 mwX0_setGoal ml_X3_63 (by decide : 23 < zc.1) rfl rfl (by decide) rfl (Nat.le_of_ble_eq_true rfl) ?_
      refine zk_zret rfl (by decide) dX3_tellStatement_108 ?_
      exact zk_Ei_of (by rw [zs_tsx_w, if_pos hP]; rfl) (by rw [zs_tsx_w, if_pos hP]; (try rw [nI_clamp (by omega)]); rfl) rfl
    · refine zk_aload_n dX3_tellStatement_101 rfl ?_
      refine zk_iload_n dX3_tellStatement_102 rfl ?_
      refine zk_iload dX3_tellStatement_103 rfl ?_
      refine zk_cVi (q23_setGoal_f hI hP) dX3_tellStatement_105 mwX0_setGoal ml_X3_63 (by decide : 23 < zc.1) rfl rfl (by decide) rfl (Nat.le_of_ble_eq_true rfl) ?_
      refine zk_zret rfl (by decide) dX3_tellStatement_108 ?_
      exact zk_Ei_of (by rw [zs_tsx_w, if_neg hP]; rfl) (by rw [zs_tsx_w, if_neg hP]; rfl) rfl
  refine zk_lookup (off := 107) (tgt := 129) dX3_tellStatement_22 (by decide) (by rw [lv_osw hx97 (by decide), lv_osw hx100 (by decide), lv_osw hx104 (by decide), lv_osw hx114 (by decide), lv_osw hx115 (by decide), lv_osw hx119 (by decide)]; rfl) (by decide) ?_
  refine zk_iconst dX3_tellStatement_129 zc_0 ?_
  refine zk_zret rfl (by decide) dX3_tellStatement_130 ?_
  exact zk_Ei_of (by rw [zs_tsx_0 hx97 hx100 hx104 hx114 hx115 hx119]; rfl) (by rw [zs_tsx_0 hx97 hx100 hx104 hx114 hx115 hx119]; rfl) rfl
theorem zs_ts_I {M : zk_M} {n k st : Nat} {S : Nat → Int32} (hI : zs_I23 M n) {M' : zk_M} (h : zs_ts M n S k st = some M') : ∃ n', zs_I23 M' n' ∧ (∀ o, o < 23 ∨ 33 < o → M' o = M o) ∧ n' = (M' 23 2).toNatClampNeg := by
  have fin : ∀ {A : zk_M} {n' : Nat}, zs_I23 A n' → (∀ o, o < 23 ∨ 33 < o → A o = M o) → ∃ n', zs_I23 A n' ∧ (∀ o, o < 23 ∨ 33 < o → A o = M o) ∧ n' = (A 23 2).toNatClampNeg := fun {A n'} h1 h2 => ⟨n', h1, h2, by rw [h1.2.1, nI_clamp (by have := h1.1; omega)]⟩
  have rid : ∀ {p : Nat} {f : Nat → Int32}, p < 6 → zs_ok f → zs_I23 (va_up M (28 + p) f) n ∧ (∀ o, o < 23 ∨ 33 < o → va_up M (28 + p) f o = M o) := fun {p f} hp ok => by
    refine ⟨⟨hI.1, by rw [zk_up_ne (by omega)]; exact hI.2.1, fun q hq => ?_⟩, fun o ho => zk_up_ne (by omega)⟩
    by_cases e : q = p
    · subst e; rw [zk_up_eq]; exact ok
    · rw [zk_up_ne (by omega)]; exact hI.2.2 q hq
  unfold zs_ts zs_tsx at h
  have hn6 := hI.1
  split at h
  · split at h
    · next hP =>
      cases h
      obtain ⟨p, hp, e⟩ := zs_isr_nI hI.1 hP.1
      rw [e, nI_clamp (by omega)]
      obtain ⟨r1, r2⟩ := rid (p := p) (f := va_up (M (28 + p)) 4 (zs_sg S k (st + 2) - 48)) (by omega) ⟨by rw [zk_up_ne (by decide)]; exact (hI.2.2 p (by omega)).1, by rw [zk_up_ne (by decide)]; exact (hI.2.2 p (by omega)).2.1, by rw [zk_up_eq]; exact hP.2⟩
      exact fin r1 r2
    · cases h
  · split at h
    · split at h
      · next hP =>
        cases h
        have key := zs_for_rel (fun _ (A : zk_M) (_ : Unit) => zs_I23 A n ∧ ∀ o, o < 23 ∨ 33 < o → A o = M o) n 0 (va_up M 23 (va_up (M 23) 3 (M 23 3 + nI (10 * (zs_sg S k (st + 1) - 48) + (zs_sg S k (st + 2) - 48)).toNatClampNeg))) () (f := fun p M => va_up M (28 + p) (zs_rides (M 25) (M 26) (10 * (zs_sg S k (st + 1) - 48) + (zs_sg S k (st + 2) - 48)).toNatClampNeg (M (28 + p)))) (g := fun _ u => u) (fun j A _ _ hj h => ?_) ⟨⟨hI.1, by rw [zk_up_eq, zk_up_ne (by decide)]; exact hI.2.1, fun q hq => by rw [zk_up_ne (by omega)]; exact hI.2.2 q hq⟩, fun o ho => zk_up_ne (by omega)⟩
        · exact fin key.1 key.2
        · refine ⟨⟨hI.1, by rw [zk_up_ne (by omega)]; exact h.1.2.1, fun q hq => ?_⟩, fun o ho => by rw [zk_up_ne (by omega)]; exact h.2 o ho⟩
          by_cases e : q = j
          · subst e; rw [zk_up_eq]; exact zs_rides_ok _ _ (h.1.2.2 q hq)
          · rw [zk_up_ne (by omega)]; exact h.1.2.2 q hq
      · cases h
    · split at h
      · split at h
        · next hP =>
          cases h
          refine fin (n' := n + 1) ⟨by omega, by rw [zk_up_eq, zk_up_eq], fun q hq => ?_⟩ (fun o ho => by rw [zk_up_ne (by omega), zk_up_ne (by omega)])
          rw [zk_up_ne (by omega)]
          by_cases e : q = n
          · subst e
            rw [zk_up_eq]
            refine zs_shod_ok ⟨?_, ?_, ?_⟩
            · rw [zk_up_ne (by decide), zk_up_ne (by decide), zk_up_eq]; exact hP.2.1
            · rw [zk_up_ne (by decide), zk_up_eq]; exact hP.2.2.1
            · rw [zk_up_eq]; exact hP.2.2.2
          · rw [zk_up_ne (by omega)]; exact hI.2.2 q hq
        · cases h
      · split at h
        · split at h
          · cases h
            refine fin (n' := n) ⟨hI.1, by rw [zk_up_ne (by decide), zk_up_ne (by decide)]; exact hI.2.1, fun q hq => by rw [zk_up_ne (by omega), zk_up_ne (by omega)]; exact hI.2.2 q hq⟩ (fun o ho => by rw [zk_up_ne (by omega), zk_up_ne (by omega)])
          · cases h
        · split at h
          · split at h
            · next hP =>
              cases h
              obtain ⟨p, hp, e⟩ := zs_isr_nI hI.1 hP
              rw [e, nI_clamp (by omega)]
              obtain ⟨r1, r2⟩ := rid (p := p) (by omega) (zs_shod_ok (hI.2.2 p (by omega)))
              exact fin r1 r2
            · cases h
          · split at h
            · split at h
              · next hP =>
                cases h
                obtain ⟨p, hp, e⟩ := zs_isr_nI hI.1 hP.1
                rw [e, nI_clamp (by omega)]
                obtain ⟨r1, r2⟩ := rid (p := p) (f := va_up (M (28 + p)) 2 (zs_sg S k (st + 2) - 48)) (by omega) ⟨by rw [zk_up_eq]; exact hP.2, by rw [zk_up_ne (by decide)]; exact (hI.2.2 p (by omega)).2.1, by rw [zk_up_ne (by decide)]; exact (hI.2.2 p (by omega)).2.2⟩
                exact fin r1 r2
              · cases h
            · cases h
/-- what the telling answers, and the memory then; the county's riders are counted anew out of it -/
def zs_tt (S : Nat → Int32) (k : Nat) : Nat → zk_M → Nat → Nat → Int32 × zk_M
  | 0, M, _, c => (nI c, M)
  | m + 1, M, st, c => if st < k then (match zs_ts M (M 23 2).toNatClampNeg S k st with
    | none => (-2000 - nI st, M)
    | some M' => zs_tt S k m M' (st + zs_lt (zs_sg S k st) + 1) (c + 1)) else (nI c, M)
theorem zs_tt_s {S : Nat → Int32} {k m st c : Nat} {M M' : zk_M} (h : st < k) (e : zs_ts M (M 23 2).toNatClampNeg S k st = some M') : zs_tt S k (m + 1) M st c = zs_tt S k m M' (st + zs_lt (zs_sg S k st) + 1) (c + 1) := by rw [zs_tt, if_pos h, e]
theorem zs_tt_n {S : Nat → Int32} {k m st c : Nat} {M : zk_M} (h : st < k) (e : zs_ts M (M 23 2).toNatClampNeg S k st = none) : zs_tt S k (m + 1) M st c = (-2000 - nI st, M) := by rw [zs_tt, if_pos h, e]
theorem zs_I23.tn {M : zk_M} {n : Nat} (h : zs_I23 M n) : (M 23 2).toNatClampNeg = n := by rw [h.2.1, nI_clamp (by have := h.1; omega)]
set_option maxRecDepth 100000 in
set_option maxHeartbeats 4000000 in
theorem lX3_tt {l : Launch} {L : zk_L} {S : Nat → Int32} {k : Nat} {v : Int32 × zk_M} : ∀ (m st c : Nat) (M : zk_M) (n : Nat), k + 1 ≤ st + m → st ≤ 200 → zs_S M k → M 40 = S → zs_I23 M n → v = zs_tt S k m M st c → zk_R l zc 6 muX3_tellTo 20 [some (.ref 39), some (.ref 23), none, some (.int (nI c)), some (.int (nI st))] [] M L (zk_Ei v.1 v.2 L) := by
  intro m
  induction m with
  | zero =>
    intro st c M n hm h200 hS hSm hI ek
    have hk96 := hS.1
    refine zk_iload dX3_tellTo_20 rfl ?_
    refine zk_aload_n dX3_tellTo_22 rfl ?_
    refine zk_getI dX3_tellTo_23 fl_X3_15 (by decide) rfl rfl ?_
    rw [hS.2]
    refine zk_icmp_ge (tgt := 68) dX3_tellTo_26 (by decide) (fun _ => ?_) (fun q => absurd (nI_le (show k ≤ st by omega) (by omega)) q)
    refine zk_iload_n dX3_tellTo_68 rfl ?_
    refine zk_iret rfl dX3_tellTo_69 ?_
    exact zk_Ei_of (by rw [ek]; rfl) (by rw [ek]; rfl) rfl
  | succ m ih =>
    intro st c M n hm h200 hS hSm hI ek
    have hk96 := hS.1
    by_cases hsk : st < k
    · skip
      refine zk_iload dX3_tellTo_20 rfl ?_
      refine zk_aload_n dX3_tellTo_22 rfl ?_
      refine zk_getI dX3_tellTo_23 fl_X3_15 (by decide : 39 < zc.1) rfl rfl ?_
      rw [hS.2]
      refine zk_icmp_ge (tgt := 68) dX3_tellTo_26 (by decide) (fun h26 => absurd h26 (nI_ge hsk (by omega))) (fun _ => ?_)
      refine zk_aload_n dX3_tellTo_29 rfl ?_
      refine zk_aload_n dX3_tellTo_30 rfl ?_
      refine zk_iload dX3_tellTo_31 rfl ?_
      refine zk_cVi (qX3_tellStatement hS hI (by omega)) dX3_tellTo_33 mwX3_tellStatement ml_X3_27 (by decide : 39 < zc.1) rfl rfl (by decide) rfl (Nat.le_of_ble_eq_true rfl) ?_
      rw [hSm]
      cases e : zs_ts M n S k st with
      | none =>
        have e1 : zs_oi (none : Option zk_M) = 0 := rfl
        have e2 : (none : Option zk_M).getD M = M := rfl
        rw [e1, e2]
        refine zk_if_ne (tgt := 46) dX3_tellTo_36 (by decide) (fun h36 => absurd (rfl) h36) (fun _ => ?_)
        refine zk_sipush dX3_tellTo_39 zs_m2000 ?_
        refine zk_iload dX3_tellTo_42 rfl ?_
        refine zk_isub dX3_tellTo_44 ?_
        refine zk_iret rfl dX3_tellTo_45 ?_
        exact zk_Ei_of (by rw [ek, zs_tt_n hsk (by rw [hI.tn]; exact e)]) (by rw [ek, zs_tt_n hsk (by rw [hI.tn]; exact e)]) rfl
      | some M' =>
        obtain ⟨n', hI', hfr, -⟩ := zs_ts_I hI e
        have e40 : M' 40 = S := (hfr 40 (by omega)).trans hSm
        have hS' : zs_S M' k := ⟨hS.1, by rw [hfr 39 (by omega)]; exact hS.2⟩
        have e1 : zs_oi (some M') = 1 := rfl
        have e2 : (some M').getD M = M' := rfl
        rw [e1, e2]
        refine zk_if_ne (tgt := 46) dX3_tellTo_36 (by decide) (fun _ => ?_) (fun h36 => absurd h36 (by decide))
        refine zk_iinc dX3_tellTo_46 zc_1 rfl zk_S_3 ?_
        refine zk_iload dX3_tellTo_49 rfl ?_
        refine zk_aload_n dX3_tellTo_51 rfl ?_
        refine zk_iload dX3_tellTo_52 rfl ?_
        refine zk_cVi (qX3_signAt hS' (by omega)) dX3_tellTo_54 mwX3_signAt ml_X3_31 (by decide : 39 < zc.1) rfl rfl (by decide) rfl (Nat.le_of_ble_eq_true rfl) ?_
        refine zk_cSi (qX3_lettersOf) dX3_tellTo_57 miX3_lettersOf ml_X3_35 stX3_lettersOf rfl (by decide) rfl (Nat.le_of_ble_eq_true rfl) ?_
        refine zk_iconst dX3_tellTo_60 zc_1 ?_
        refine zk_iadd dX3_tellTo_61 ?_
        refine zk_iadd dX3_tellTo_62 ?_
        refine zk_istore dX3_tellTo_63 zk_S_4 ?_
        refine zk_goto (tgt := 20) dX3_tellTo_65 (by decide) ?_
        rw [show nI st + (nI (zs_lt (zs_sg (M' 40) k st)) + 1) = nI (st + zs_lt (zs_sg S k st) + 1) by rw [e40, ← nI_succ, zs_nI_add]; try rfl, ← nI_succ]
        exact ih _ (c + 1) M' n' (by have := zs_lt_6 (zs_sg S k st); omega) (by have := zs_lt_6 (zs_sg S k st); omega) hS' e40 hI' (by rw [ek, zs_tt_s hsk (by rw [hI.tn]; exact e)])
    · refine zk_iload dX3_tellTo_20 rfl ?_
      refine zk_aload_n dX3_tellTo_22 rfl ?_
      refine zk_getI dX3_tellTo_23 fl_X3_15 (by decide) rfl rfl ?_
      rw [hS.2]
      refine zk_icmp_ge (tgt := 68) dX3_tellTo_26 (by decide) (fun _ => ?_) (fun q => absurd (nI_le (show k ≤ st by omega) (by omega)) q)
      refine zk_iload_n dX3_tellTo_68 rfl ?_
      refine zk_iret rfl dX3_tellTo_69 ?_
      exact zk_Ei_of (by rw [ek, zs_tt, if_neg hsk]) (by rw [ek, zs_tt, if_neg hsk]) rfl
def zs_tell (M : zk_M) (k : Nat) : Int32 × zk_M := if zs_fu (M 40) k k 0 0 < 0 then zs_tt (M 40) k (k + 1) M 0 0 else (-1000 - zs_fu (M 40) k k 0 0, M)
set_option maxRecDepth 100000 in
set_option maxHeartbeats 4000000 in
theorem qX3_tellTo {l : Launch} {M : zk_M} {L : zk_L} {k : Nat} (hS : zs_S M k) {n : Nat} (hI : zs_I23 M n) : zk_C l zc 6 muX3_tellTo [.ref 39, .ref 23] M L (zk_Ei (zs_tell M k).1 (zs_tell M k).2 L) := by
  refine zk_ofR (ls := [some (.ref 39), some (.ref 23), none, none, none]) (by decide) rfl (Nat.le_of_ble_eq_true rfl) rfl ?_
  refine zk_aload_n dX3_tellTo_0 rfl ?_
  refine zk_cVi (qX3_firstUnfit hS) dX3_tellTo_1 mwX3_firstUnfit ml_X3_23 (by decide : 39 < zc.1) rfl rfl (by decide) rfl (Nat.le_of_ble_eq_true rfl) ?_
  refine zk_istore_n dX3_tellTo_4 zk_S_2 ?_
  refine zk_iload_n dX3_tellTo_5 rfl ?_
  refine zk_if_lt (tgt := 15) dX3_tellTo_6 (by decide) (fun h6 => ?_) (fun h6 => ?_)
  · refine zk_iconst dX3_tellTo_15 zc_0 ?_
    refine zk_istore_n dX3_tellTo_16 zk_S_3 ?_
    refine zk_iconst dX3_tellTo_17 zc_0 ?_
    refine zk_istore dX3_tellTo_18 zk_S_4 ?_
    have e : zs_tell M k = zs_tt (M 40) k (k + 1) M 0 0 := if_pos h6
    rw [e]
    exact zk_forget (ls' := [some (.ref 39), some (.ref 23), none, some (.int (nI 0)), some (.int (nI 0))]) ⟨Or.inr rfl, Or.inr rfl, Or.inl rfl, Or.inr rfl, Or.inr rfl, trivial⟩ (lX3_tt (k + 1) 0 0 M n (by omega) (by omega) hS rfl hI rfl)
  · refine zk_sipush dX3_tellTo_9 zs_m1000 ?_
    refine zk_iload_n dX3_tellTo_12 rfl ?_
    refine zk_isub dX3_tellTo_13 ?_
    refine zk_iret rfl dX3_tellTo_14 ?_
    exact zk_Ei_of (by rw [zs_tell, if_neg h6]) (by rw [zs_tell, if_neg h6]) rfl
set_option maxRecDepth 100000 in
set_option maxHeartbeats 4000000 in
theorem qX4_letter_r4 {l : Launch} {M : zk_M} {L : zk_L} {k : Nat} (hS : zs_S M k) {c : Int32} (hc : c < 0) : zk_C l zc 2 muX4_letter [.ref 0, .int c] M L (zq_i (-4) (zs_ref M 4)) := by
  refine zk_ofR (ls := [some (.ref 0), some (.int c)]) (by decide) rfl (Nat.le_of_ble_eq_true rfl) rfl ?_
  refine zk_iload_n dX4_letter_0 rfl ?_
  refine zk_if_ge (tgt := 11) dX4_letter_1 (by decide) (fun h1 => absurd h1 (Int32.not_le.mpr hc)) (fun _ => ?_)
  refine zk_aload_n dX4_letter_4 rfl ?_
  refine zk_bipush dX4_letter_5 zb_m4 ?_
  refine zk_cVi (qrf4) dX4_letter_7 mwX4_refuse ml_X4_63 (by decide : 0 < zc.1) rfl rfl (by decide) rfl (Nat.le_of_ble_eq_true rfl) ?_
  refine zk_iret rfl dX4_letter_10 ?_
  exact ⟨rfl, zs_same.rf⟩
set_option maxRecDepth 100000 in
set_option maxHeartbeats 4000000 in
theorem qX4_letter_r6 {l : Launch} {M : zk_M} {L : zk_L} {k : Nat} (hS : zs_S M k) {c : Int32} (hc : ¬ c < 0) (hn : 255 < c ∨ 96 ≤ k) : zk_C l zc 2 muX4_letter [.ref 0, .int c] M L (zq_i (-6) (zs_ref M 6)) := by
  refine zk_ofR (ls := [some (.ref 0), some (.int c)]) (by decide) rfl (Nat.le_of_ble_eq_true rfl) rfl ?_
  refine zk_iload_n dX4_letter_0 rfl ?_
  refine zk_if_ge (tgt := 11) dX4_letter_1 (by decide) (fun _ => ?_) (fun h1 => absurd (Int32.not_lt.mp hc) h1)
  refine zk_iload_n dX4_letter_11 rfl ?_
  refine zk_sipush dX4_letter_12 zs_255 ?_
  refine zk_icmp_gt (tgt := 28) dX4_letter_15 (by decide) (fun h15 => ?_) (fun h15 => ?_)
  · refine zk_aload_n dX4_letter_28 rfl ?_
    refine zk_bipush dX4_letter_29 zb_m6 ?_
    refine zk_cVi (qrf6) dX4_letter_31 mwX4_refuse ml_X4_63 (by decide : 0 < zc.1) rfl rfl (by decide) rfl (Nat.le_of_ble_eq_true rfl) ?_
    refine zk_iret rfl dX4_letter_34 ?_
    exact ⟨rfl, zs_same.rf⟩
  · refine zk_aload_n dX4_letter_18 rfl ?_
    refine zk_getRc (q := 39) dX4_letter_19 fl_X4_42 (by decide : 0 < zc.1) rfl rfl rfl ?_
    refine zk_cVi (qX3_isFull hS) dX4_letter_22 mwX3_isFull ml_X4_67 (by decide : 39 < zc.1) rfl rfl (by decide) rfl (Nat.le_of_ble_eq_true rfl) ?_
    refine zk_if_eq (tgt := 35) dX4_letter_25 (by decide) (fun h25 => ?_) (fun h25 => ?_)
    · have hf := zs_if0 h25
      exact absurd (hn.elim (fun q => absurd q h15) id) hf
    · have hf := zs_if1 h25
      refine zk_aload_n dX4_letter_28 rfl ?_
      refine zk_bipush dX4_letter_29 zb_m6 ?_
      refine zk_cVi (qrf6) dX4_letter_31 mwX4_refuse ml_X4_63 (by decide : 0 < zc.1) rfl rfl (by decide) rfl (Nat.le_of_ble_eq_true rfl) ?_
      refine zk_iret rfl dX4_letter_34 ?_
      exact ⟨rfl, zs_same.rf⟩
set_option maxRecDepth 100000 in
set_option maxHeartbeats 4000000 in
theorem qX4_letter_t {l : Launch} {M : zk_M} {L : zk_L} {k : Nat} (hS : zs_S M k) {c : Int32} (hc : ¬ c < 0) (h2 : ¬ 255 < c) (hk : k < 96) : zk_C l zc 2 muX4_letter [.ref 0, .int c] M L (zq_i (nI (k + 1)) (zs_addM M k c)) := by
  refine zk_ofR (ls := [some (.ref 0), some (.int c)]) (by decide) rfl (Nat.le_of_ble_eq_true rfl) rfl ?_
  refine zk_iload_n dX4_letter_0 rfl ?_
  refine zk_if_ge (tgt := 11) dX4_letter_1 (by decide) (fun _ => ?_) (fun h1 => absurd (Int32.not_lt.mp hc) h1)
  refine zk_iload_n dX4_letter_11 rfl ?_
  refine zk_sipush dX4_letter_12 zs_255 ?_
  refine zk_icmp_gt (tgt := 28) dX4_letter_15 (by decide) (fun h15 => absurd h15 (h2)) (fun _ => ?_)
  refine zk_aload_n dX4_letter_18 rfl ?_
  refine zk_getRc (q := 39) dX4_letter_19 fl_X4_42 (by decide : 0 < zc.1) rfl rfl rfl ?_
  refine zk_cVi (qX3_isFull hS) dX4_letter_22 mwX3_isFull ml_X4_67 (by decide : 39 < zc.1) rfl rfl (by decide) rfl (Nat.le_of_ble_eq_true rfl) ?_
  refine zk_if_eq (tgt := 35) dX4_letter_25 (by decide) (fun h25 => ?_) (fun h25 => ?_)
  · have hf := zs_if0 h25
    refine zk_aload_n dX4_letter_35 rfl ?_
    refine zk_getRc (q := 39) dX4_letter_36 fl_X4_42 (by decide : 0 < zc.1) rfl rfl rfl ?_
    refine zk_iload_n dX4_letter_39 rfl ?_
    refine zk_cVi (qX3_add hS hk) dX4_letter_40 mwX3_add ml_X4_71 (by decide : 39 < zc.1) rfl rfl (by decide) rfl (Nat.le_of_ble_eq_true rfl) ?_
    refine zk_iret rfl dX4_letter_43 ?_
    exact ⟨rfl, zs_same.rf⟩
  · have hf := zs_if1 h25
    exact absurd hf (by omega)
def zs_ct1 (M : zk_M) : zk_M := zs_cbec2 zc 23 1 (zs_cbec zc 23 1 M)
def zs_ct3 (M : zk_M) : zk_M := zs_cbec2 zc 1 23 (zs_cbec zc 1 23 M)
def zs_fgt (M : zk_M) : zk_M := va_up M 39 (va_up (M 39) 1 0)
def zs_ctM (M : zk_M) (k : Nat) : zk_M := zs_fgt (if 0 ≤ (zs_tell (zs_ct1 M) k).1 then zs_ct3 (zs_tell (zs_ct1 M) k).2 else (zs_tell (zs_ct1 M) k).2)
set_option maxRecDepth 100000 in
set_option maxHeartbeats 4000000 in
theorem qX4_county_t {l : Launch} {M : zk_M} {L : zk_L} {k : Nat} (hS : zs_S (zs_ct1 M) k) {n : Nat} (hI : zs_I23 (zs_ct1 M) n) : zk_C l zc 7 muX4_county [.ref 0] M L (zq_i (zs_tell (zs_ct1 M) k).1 (zs_ctM M k)) := by
  refine zk_ofR (ls := [some (.ref 0), none]) (by decide) rfl (Nat.le_of_ble_eq_true rfl) rfl ?_
  refine zk_aload_n dX4_county_0 rfl ?_
  refine zk_getRc (q := 23) dX4_county_1 fl_X4_19 (by decide : 0 < zc.1) rfl rfl rfl ?_
  refine zk_aload_n dX4_county_4 rfl ?_
  refine zk_getRc (q := 1) dX4_county_5 fl_X4_12 (by decide : 0 < zc.1) rfl rfl rfl ?_
  refine zk_cVv (q23_becomes) dX4_county_8 mwX0_becomes ml_X4_74 (by decide : 23 < zc.1) rfl rfl (by decide) rfl (Nat.le_of_ble_eq_true rfl) ?_
  refine zk_aload_n dX4_county_11 rfl ?_
  refine zk_getRc (q := 39) dX4_county_12 fl_X4_42 (by decide : 0 < zc.1) rfl rfl rfl ?_
  refine zk_aload_n dX4_county_15 rfl ?_
  refine zk_getRc (q := 23) dX4_county_16 fl_X4_19 (by decide : 0 < zc.1) rfl rfl rfl ?_
  refine zk_cVi (qX3_tellTo (M := zs_ct1 M) hS hI) dX4_county_19 mwX3_tellTo ml_X4_78 (by decide : 39 < zc.1) rfl rfl (by decide) rfl (Nat.le_of_ble_eq_true rfl) ?_
  refine zk_istore_n dX4_county_22 zk_S_1 ?_
  refine zk_iload_n dX4_county_23 rfl ?_
  refine zk_if_lt (tgt := 38) dX4_county_24 (by decide) (fun h24 => ?_) (fun h24 => ?_)
  · refine zk_aload_n dX4_county_38 rfl ?_
    refine zk_getRc (q := 39) dX4_county_39 fl_X4_42 (by decide : 0 < zc.1) rfl rfl rfl ?_
    refine zk_cVv (qX3_forget) dX4_county_42 mwX3_forget ml_X4_82 (by decide : 39 < zc.1) rfl rfl (by decide) rfl (Nat.le_of_ble_eq_true rfl) ?_
    refine zk_iload_n dX4_county_45 rfl ?_
    refine zk_iret rfl dX4_county_46 ?_
    exact ⟨rfl, by unfold zs_ctM; first | (rw [if_pos (Int32.not_lt.mp h24)]; exact zs_same.rf) | (rw [if_neg (Int32.not_le.mpr h24)]; exact zs_same.rf)⟩
  · refine zk_aload_n dX4_county_27 rfl ?_
    refine zk_getRc (q := 1) dX4_county_28 fl_X4_12 (by decide : 0 < zc.1) rfl rfl rfl ?_
    refine zk_aload_n dX4_county_31 rfl ?_
    refine zk_getRc (q := 23) dX4_county_32 fl_X4_19 (by decide : 0 < zc.1) rfl rfl rfl ?_
    refine zk_cVv (q1_becomes23) dX4_county_35 mwX0_becomes ml_X4_74 (by decide : 1 < zc.1) rfl rfl (by decide) rfl (Nat.le_of_ble_eq_true rfl) ?_
    refine zk_aload_n dX4_county_38 rfl ?_
    refine zk_getRc (q := 39) dX4_county_39 fl_X4_42 (by decide : 0 < zc.1) rfl rfl rfl ?_
    refine zk_cVv (qX3_forget) dX4_county_42 mwX3_forget ml_X4_82 (by decide : 39 < zc.1) rfl rfl (by decide) rfl (Nat.le_of_ble_eq_true rfl) ?_
    refine zk_iload_n dX4_county_45 rfl ?_
    refine zk_iret rfl dX4_county_46 ?_
    exact ⟨rfl, by unfold zs_ctM; first | (rw [if_pos (Int32.not_lt.mp h24)]; exact zs_same.rf) | (rw [if_neg (Int32.not_le.mpr h24)]; exact zs_same.rf)⟩
