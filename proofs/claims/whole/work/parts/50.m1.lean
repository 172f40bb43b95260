/-! the reference's objects: 0 itself; 1 s, 2 m, 3 image, 4 was (52 each); 5 far; 6 letters; 7 row; 8 refused; 9 numbers; 10 stays -/
def zm_k (o : Nat) : Nat := ([5, 100, 100, 100, 100, 100, 100, 100, 100, 100, 100] : List Nat).getD o 0
def zm_n (o : Nat) : Nat := ([0, 52, 52, 52, 52, 64, 96, 16, 7, 5, 8] : List Nat).getD o 0
def zm_r (_ k : Nat) : Nat := ([1, 2, 3, 4, 5, 0, 6, 7, 8, 0, 0, 0, 9, 10, 0] : List Nat).getD k 0
def zm : zk_Sh := (11, zm_k, zm_n, zm_r)
theorem zm_a1 : zs_a zm 1 52 := ⟨by decide, rfl, rfl⟩
theorem zm_a2 : zs_a zm 2 52 := ⟨by decide, rfl, rfl⟩
theorem zm_a3 : zs_a zm 3 52 := ⟨by decide, rfl, rfl⟩
theorem zm_a4 : zs_a zm 4 52 := ⟨by decide, rfl, rfl⟩
/-- a county in one row: its roads, its riders' records -/
def zs_J (a : Nat → Int32) : Nat → Int32 := fun i => a (2 + i)
def zs_get (a : Nat → Int32) (p : Nat) : Nat → Int32 := fun k => a (10 + 7 * p + k)
def zs_put (a : Nat → Int32) (p : Nat) (f : Nat → Int32) : Nat → Int32 := fun i => if 10 + 7 * p ≤ i ∧ i < 17 + 7 * p then f (i - (10 + 7 * p)) else a i
theorem zs_put1 {a : Nat → Int32} {p k : Nat} {v : Int32} (hk : k < 7) : va_up a (10 + 7 * p + k) v = zs_put a p (va_up (zs_get a p) k v) := by
  funext i
  simp only [zs_put, va_up, zs_get]
  by_cases h : 10 + 7 * p ≤ i ∧ i < 17 + 7 * p
  · rw [if_pos h]
    by_cases e : i = 10 + 7 * p + k
    · rw [if_pos e, if_pos (by omega)]
    · rw [if_neg e, if_neg (by omega)]
      congr 1
      omega
  · rw [if_neg h, if_neg (by omega)]
theorem zs_put_put {a f g : Nat → Int32} {p : Nat} : zs_put (zs_put a p f) p g = zs_put a p g := by
  funext i
  simp only [zs_put]
  split
  · rfl
  · rfl
theorem zs_put_cg {a f g : Nat → Int32} {p : Nat} (h : zs_ag 7 f g) : zs_put a p f = zs_put a p g := by
  funext i
  simp only [zs_put]
  split
  · next q => exact h _ (by omega)
  · rfl
theorem zs_get_put {a f : Nat → Int32} {p : Nat} : zs_ag 7 (zs_get (zs_put a p f) p) f := fun i hi => by
  simp only [zs_get, zs_put]
  rw [if_pos (by omega)]
  congr 1
  omega
theorem zs_get_put_ne {a f : Nat → Int32} {p q : Nat} (h : q ≠ p) : zs_ag 7 (zs_get (zs_put a p f) q) (zs_get a q) := fun i hi => by
  simp only [zs_get, zs_put]
  rw [if_neg (by omega)]
theorem zs_put_lo {a f : Nat → Int32} {p i : Nat} (h : i < 10) : zs_put a p f i = a i := by
  simp only [zs_put]
  rw [if_neg (by omega)]
theorem zs_J_put {a f : Nat → Int32} {p : Nat} : zs_ag 8 (zs_J (zs_put a p f)) (zs_J a) := fun i hi => zs_put_lo (by omega)
abbrev zs_okk (f : Nat → Int32) : Prop := zs_ok f ∧ (0 ≤ f 0 ∧ f 0 < 6)
theorem zs_okk_ag {f g : Nat → Int32} (h : zs_ag 7 f g) (ok : zs_okk f) : zs_okk g := ⟨zs_ok_ag h ok.1, by rw [← h 0 (by decide)]; exact ok.2⟩
def zs_A (a : Nat → Int32) (n : Nat) : Prop := n ≤ 6 ∧ a 0 = nI n ∧ ∀ p, p < 6 → zs_okk (zs_get a p)
theorem zs_A.put {a f : Nat → Int32} {n p : Nat} (h : zs_A a n) (ok : zs_okk f) : zs_A (zs_put a p f) n := ⟨h.1, by rw [zs_put_lo (by decide)]; exact h.2.1, fun q hq => by
  by_cases e : q = p
  · subst e; exact zs_okk_ag zs_get_put.sm ok
  · exact zs_okk_ag (zs_get_put_ne e).sm (h.2.2 q hq)⟩
theorem zs_ride_okk {J T f : Nat → Int32} (h : zs_okk f) : zs_okk (zs_ride J T f) := ⟨zs_ride_ok h.1, by rw [zs_ride_ne (by decide) (by decide) (by decide)]; exact h.2⟩
theorem zs_wear_okk {f : Nat → Int32} (h : zs_okk f) : zs_okk (zs_wear f) := ⟨zs_wear_ok h.1, by rw [zs_wear_ne (by decide) (by decide)]; exact h.2⟩
set_option maxRecDepth 100000 in
set_option maxHeartbeats 4000000 in
theorem qX5_isIn {l : Launch} {σ : zk_Sh} {M : zk_M} {L : zk_L} {x a b : Int32} : zk_C l σ 0 muX5_isIn [.int x, .int a, .int b] M L (zk_Ei (if a ≤ x ∧ x ≤ b then 1 else 0) M L) := by
  refine zk_ofR (ls := [some (.int x), some (.int a), some (.int b)]) (by decide) rfl (Nat.le_of_ble_eq_true rfl) rfl ?_
  refine zk_iload_n dX5_isIn_0 rfl ?_
  refine zk_iload_n dX5_isIn_1 rfl ?_
  refine zk_icmp_lt (tgt := 14) dX5_isIn_2 (by decide) (fun h2 => ?_) (fun h2 => ?_)
  · refine zk_iconst dX5_isIn_14 zc_0 ?_
    refine zk_zret rfl (by decide) dX5_isIn_15 ?_
    exact zk_Ei_of (by first | exact (if_pos ⟨Int32.not_lt.mp h2, Int32.not_lt.mp h7⟩).symm | exact (if_neg (fun q => absurd q.1 (Int32.not_le.mpr h2))).symm | exact (if_neg (fun q => absurd q.2 (Int32.not_le.mpr h7))).symm) rfl rfl
  · refine zk_iload_n dX5_isIn_5 rfl ?_
    refine zk_iload_n dX5_isIn_6 rfl ?_
    refine zk_icmp_gt (tgt := 14) dX5_isIn_7 (by decide) (fun h7 => ?_) (fun h7 => ?_)
    · refine zk_iconst dX5_isIn_14 zc_0 ?_
      refine zk_zret rfl (by decide) dX5_isIn_15 ?_
      exact zk_Ei_of (by first | exact (if_pos ⟨Int32.not_lt.mp h2, Int32.not_lt.mp h7⟩).symm | exact (if_neg (fun q => absurd q.1 (Int32.not_le.mpr h2))).symm | exact (if_neg (fun q => absurd q.2 (Int32.not_le.mpr h7))).symm) rfl rfl
    · refine zk_iconst dX5_isIn_10 zc_1 ?_
      refine zk_goto (tgt := 15) dX5_isIn_11 (by decide) ?_
      refine zk_zret rfl (by decide) dX5_isIn_15 ?_
      exact zk_Ei_of (by first | exact (if_pos ⟨Int32.not_lt.mp h2, Int32.not_lt.mp h7⟩).symm | exact (if_neg (fun q => absurd q.1 (Int32.not_le.mpr h2))).symm | exact (if_neg (fun q => absurd q.2 (Int32.not_le.mpr h7))).symm) rfl rfl
theorem qX5_isIn_t {l : Launch} {σ : zk_Sh} {M : zk_M} {L : zk_L} {x a b : Int32} (h : a ≤ x ∧ x ≤ b) : zk_C l σ 0 muX5_isIn [.int x, .int a, .int b] M L (zk_Ei 1 M L) := by
  have := qX5_isIn (l := l) (σ := σ) (M := M) (L := L) (x := x) (a := a) (b := b)
  rwa [if_pos h] at this
theorem qX5_isIn_f {l : Launch} {σ : zk_Sh} {M : zk_M} {L : zk_L} {x a b : Int32} (h : ¬ (a ≤ x ∧ x ≤ b)) : zk_C l σ 0 muX5_isIn [.int x, .int a, .int b] M L (zk_Ei 0 M L) := by
  have := qX5_isIn (l := l) (σ := σ) (M := M) (L := L) (x := x) (a := a) (b := b)
  rwa [if_neg h] at this
set_option maxRecDepth 100000 in
set_option maxHeartbeats 4000000 in
theorem qX5_least {l : Launch} {σ : zk_Sh} {M : zk_M} {L : zk_L} {x y : Int32} : zk_C l σ 0 muX5_least [.int x, .int y] M L (zk_Ei (if x < y then x else y) M L) := by
  refine zk_ofR (ls := [some (.int x), some (.int y)]) (by decide) rfl (Nat.le_of_ble_eq_true rfl) rfl ?_
  refine zk_iload_n dX5_least_0 rfl ?_
  refine zk_iload_n dX5_least_1 rfl ?_
  refine zk_icmp_ge (tgt := 9) dX5_least_2 (by decide) (fun h2 => ?_) (fun h2 => ?_)
  · refine zk_iload_n dX5_least_9 rfl ?_
    refine zk_iret rfl dX5_least_10 ?_
    exact zk_Ei_of (by first | exact (if_neg (Int32.not_lt.mpr h2)).symm | exact (if_pos (Int32.not_le.mp h2)).symm) rfl rfl
  · refine zk_iload_n dX5_least_5 rfl ?_
    refine zk_goto (tgt := 10) dX5_least_6 (by decide) ?_
    refine zk_iret rfl dX5_least_10 ?_
    exact zk_Ei_of (by first | exact (if_neg (Int32.not_lt.mpr h2)).symm | exact (if_pos (Int32.not_le.mp h2)).symm) rfl rfl
theorem zs_min_eq {x y : Int32} : (if x < y then x else y) = zs_min x y := by
  unfold zs_min
  by_cases h : x < y
  · rw [if_pos h, if_neg (fun q => by rw [Int32.lt_iff_toInt_lt] at h q; omega)]
  · rw [if_neg h]
    by_cases h2 : y < x
    · rw [if_pos h2]
    · rw [if_neg h2]
      rw [Int32.lt_iff_toInt_lt] at h h2
      exact Int32.toInt_inj.mp (by omega)
theorem qX5_least' {l : Launch} {σ : zk_Sh} {M : zk_M} {L : zk_L} {x y : Int32} : zk_C l σ 0 muX5_least [.int x, .int y] M L (zk_Ei (zs_min x y) M L) := by
  have := qX5_least (l := l) (σ := σ) (M := M) (L := L) (x := x) (y := y)
  rwa [zs_min_eq] at this
theorem zs_min_w {x : Int32} : zs_min 99 (x + 1) = zs_w x := by
  rw [← zs_min_eq]
  unfold zs_w
  by_cases h : (99 : Int32) < x + 1
  · rw [if_pos h]
  · rw [if_neg h]
theorem zs_nI_mul (a b : Nat) : nI a * nI b = nI (a * b) := (Int32.ofNat_mul a b).symm
set_option maxRecDepth 100000 in
set_option maxHeartbeats 4000000 in
theorem qX5_of {l : Launch} {σ : zk_Sh} {M : zk_M} {L : zk_L} {p k : Nat} : zk_C l σ 0 muX5_of [.int (nI p), .int (nI k)] M L (zk_Ei (nI (10 + 7 * p + k)) M L) := by
  refine zk_ofR (ls := [some (.int (nI p)), some (.int (nI k))]) (by decide) rfl (Nat.le_of_ble_eq_true rfl) rfl ?_
  refine zk_bipush dX5_of_0 zb_10 ?_
  refine zk_bipush dX5_of_2 zb_7 ?_
  refine zk_iload_n dX5_of_4 rfl ?_
  refine zk_imul dX5_of_5 ?_
  refine zk_iadd dX5_of_6 ?_
  refine zk_iload_n dX5_of_7 rfl ?_
  refine zk_iadd dX5_of_8 ?_
  refine zk_iret rfl dX5_of_9 ?_
  exact zk_Ei_of (by rw [← zs_nI_add, ← zs_nI_add, ← zs_nI_mul]; rfl) rfl rfl
set_option maxRecDepth 100000 in
set_option maxHeartbeats 4000000 in
theorem qX5_has {l : Launch} {σ : zk_Sh} {M : zk_M} {L : zk_L} {x k : Int32} : zk_C l σ 0 muX5_has [.int x, .int k] M L (zk_Ei (if x >>> (k &&& 31) &&& 1 = 1 then 1 else 0) M L) := by
  refine zk_ofR (ls := [some (.int x), some (.int k)]) (by decide) rfl (Nat.le_of_ble_eq_true rfl) rfl ?_
  refine zk_iload_n dX5_has_0 rfl ?_
  refine zk_iload_n dX5_has_1 rfl ?_
  refine zk_ishr dX5_has_2 ?_
  refine zk_iconst dX5_has_3 zc_1 ?_
  refine zk_iand dX5_has_4 ?_
  refine zk_iconst dX5_has_5 zc_1 ?_
  refine zk_icmp_ne (tgt := 13) dX5_has_6 (by decide) (fun h6 => ?_) (fun h6 => ?_)
  · refine zk_iconst dX5_has_13 zc_0 ?_
    refine zk_zret rfl (by decide) dX5_has_14 ?_
    exact zk_Ei_of (by first | exact (if_pos h6).symm | exact (if_neg h6).symm) rfl rfl
  · refine zk_iconst dX5_has_9 zc_1 ?_
    refine zk_goto (tgt := 14) dX5_has_10 (by decide) ?_
    refine zk_zret rfl (by decide) dX5_has_14 ?_
    exact zk_Ei_of (by first | exact (if_pos h6).symm | exact (if_neg h6).symm) rfl rfl
theorem zs_p7 {x : Int32} : (0 ≤ x ∧ x ≤ 7) ↔ zs_p x := by
  refine and_congr Iff.rfl ?_
  rw [Int32.le_iff_toInt_le, Int32.lt_iff_toInt_lt]
  have e1 : (7 : Int32).toInt = 7 := rfl
  have e2 : (8 : Int32).toInt = 8 := rfl
  rw [e1, e2]
  omega
set_option maxRecDepth 100000 in
set_option maxHeartbeats 4000000 in
theorem qX5_isPlace {l : Launch} {σ : zk_Sh} {M : zk_M} {L : zk_L} {x : Int32} : zk_C l σ 1 muX5_isPlace [.int x] M L (zk_Ei (if zs_p x then 1 else 0) M L) := by
  refine zk_ofR (ls := [some (.int x)]) (by decide) rfl (Nat.le_of_ble_eq_true rfl) rfl ?_
  refine zk_iload_n dX5_isPlace_0 rfl ?_
  refine zk_iconst dX5_isPlace_1 zc_0 ?_
  refine zk_bipush dX5_isPlace_2 zb_7 ?_
  refine zk_cSi (qX5_isIn) dX5_isPlace_4 miX5_isIn ml_X5_46 stX5_isIn rfl (by decide) rfl (Nat.le_of_ble_eq_true rfl) ?_
  refine zk_zret rfl zs_nar dX5_isPlace_7 ?_
  exact zk_Ei_of (by by_cases h : zs_p x <;> first | exact (if_pos (zs_p7.mpr h)).trans (if_pos h).symm | exact (if_neg (fun q => h (zs_p7.mp q))).trans (if_neg h).symm) rfl rfl
theorem qX5_isPlace_t {l : Launch} {σ : zk_Sh} {M : zk_M} {L : zk_L} {x : Int32} (h : zs_p x) : zk_C l σ 1 muX5_isPlace [.int x] M L (zk_Ei 1 M L) := by
  have := qX5_isPlace (l := l) (σ := σ) (M := M) (L := L) (x := x)
  rwa [if_pos h] at this
theorem qX5_isPlace_f {l : Launch} {σ : zk_Sh} {M : zk_M} {L : zk_L} {x : Int32} (h : ¬ zs_p x) : zk_C l σ 1 muX5_isPlace [.int x] M L (zk_Ei 0 M L) := by
  have := qX5_isPlace (l := l) (σ := σ) (M := M) (L := L) (x := x)
  rwa [if_neg h] at this
def zs_bits (x : Int32) : Int32 := zs_for (fun k n => n + (x >>> (nI k &&& 31) &&& 1)) 8 0 0
set_option maxRecDepth 100000 in
set_option maxHeartbeats 4000000 in
theorem lX5_bits {l : Launch} {σ : zk_Sh} {M : zk_M} {L : zk_L} {x : Int32} {Q : Option Value → zk_M → zk_L → Prop} : ∀ (m i : Nat) (n : Int32), i + m = 8 → zk_R l σ 0 muX5_bits 24 [some (.int x), some (.int (zs_for (fun k n => n + (x >>> (nI k &&& 31) &&& 1)) m i n)), none] [] M L Q → zk_R l σ 0 muX5_bits 4 [some (.int x), some (.int n), some (.int (nI i))] [] M L Q := by
  intro m
  induction m with
  | zero =>
    intro i n hi k
    obtain rfl : i = 8 := by omega
    refine zk_iload_n dX5_bits_4 rfl ?_
    refine zk_bipush (v := 8) dX5_bits_5 (by decide) ?_
    refine zk_icmp_ge (tgt := 24) dX5_bits_7 (by decide) (fun _ => ?_) (fun q => absurd (by decide) q)
    refine zk_forget ?_ k
    exact ⟨Or.inr rfl, Or.inr rfl, Or.inl rfl, trivial⟩
  | succ m ih =>
    intro i n hi k
    have hi8 : i < 8 := by omega
    refine zk_iload_n dX5_bits_4 rfl ?_
    refine zk_bipush dX5_bits_5 zb_8 ?_
    refine zk_icmp_ge (tgt := 24) dX5_bits_7 (by decide) (fun h7 => absurd h7 (nI_ge (b := 8) hi8 (by decide))) (fun _ => ?_)
    refine zk_iload_n dX5_bits_10 rfl ?_
    refine zk_iload_n dX5_bits_11 rfl ?_
    refine zk_iload_n dX5_bits_12 rfl ?_
    refine zk_ishr dX5_bits_13 ?_
    refine zk_iconst dX5_bits_14 zc_1 ?_
    refine zk_iand dX5_bits_15 ?_
    refine zk_iadd dX5_bits_16 ?_
    refine zk_istore_n dX5_bits_17 zk_S_1 ?_
    refine zk_iinc dX5_bits_18 zc_1 rfl zk_S_2 ?_
    refine zk_goto (tgt := 4) dX5_bits_21 (by decide) ?_
    rw [← nI_succ]
    exact ih (i + 1) _ (by omega) k
set_option maxRecDepth 100000 in
set_option maxHeartbeats 4000000 in
theorem qX5_bits {l : Launch} {σ : zk_Sh} {M : zk_M} {L : zk_L} {x : Int32} : zk_C l σ 0 muX5_bits [.int x] M L (zk_Ei (zs_bits x) M L) := by
  refine zk_ofR (ls := [some (.int x), none, none]) (by decide) rfl (Nat.le_of_ble_eq_true rfl) rfl ?_
  refine zk_iconst dX5_bits_0 zc_0 ?_
  refine zk_istore_n dX5_bits_1 zk_S_1 ?_
  refine zk_iconst dX5_bits_2 zc_0 ?_
  refine zk_istore_n dX5_bits_3 zk_S_2 ?_
  refine lX5_bits 8 0 0 rfl ?_
  refine zk_iload_n dX5_bits_24 rfl ?_
  refine zk_iret rfl dX5_bits_25 ?_
  exact ⟨rfl, rfl, rfl⟩
theorem zs_k6 {k : Int32} (h : 0 ≤ k ∧ k < 6) : k = 0 ∨ k = 1 ∨ k = 2 ∨ k = 3 ∨ k = 4 ∨ k = 5 := by
  have h1 := h.1
  have h2 := h.2
  rw [Int32.le_iff_toInt_le] at h1
  rw [Int32.lt_iff_toInt_lt] at h2
  have e0 : (0 : Int32).toInt = 0 := rfl
  have e1 : (1 : Int32).toInt = 1 := rfl
  have e2 : (2 : Int32).toInt = 2 := rfl
  have e3 : (3 : Int32).toInt = 3 := rfl
  have e4 : (4 : Int32).toInt = 4 := rfl
  have e5 : (5 : Int32).toInt = 5 := rfl
  have e6 : (6 : Int32).toInt = 6 := rfl
  simp only [← Int32.toInt_inj]
  omega
theorem zs_out15 {x : Int32} (h1 : ¬ x = 1) (h2 : ¬ x = 2) (h3 : ¬ x = 3) (h4 : ¬ x = 4) (h5 : ¬ x = 5) : x.toInt < 1 ∨ 5 < x.toInt := by
  simp only [← Int32.toInt_inj] at *
  have e1 : (1 : Int32).toInt = 1 := rfl
  have e2 : (2 : Int32).toInt = 2 := rfl
  have e3 : (3 : Int32).toInt = 3 := rfl
  have e4 : (4 : Int32).toInt = 4 := rfl
  have e5 : (5 : Int32).toInt = 5 := rfl
  omega
theorem zs_out25 {x : Int32} (h2 : ¬ x = 2) (h3 : ¬ x = 3) (h4 : ¬ x = 4) (h5 : ¬ x = 5) : x.toInt < 2 ∨ 5 < x.toInt := by
  simp only [← Int32.toInt_inj] at *
  have e2 : (2 : Int32).toInt = 2 := rfl
  have e3 : (3 : Int32).toInt = 3 := rfl
  have e4 : (4 : Int32).toInt = 4 := rfl
  have e5 : (5 : Int32).toInt = 5 := rfl
  omega
set_option maxRecDepth 100000 in
set_option maxHeartbeats 4000000 in
theorem qX5_shoesBy {l : Launch} {σ : zk_Sh} {M : zk_M} {L : zk_L} {k : Int32} (hk : 0 ≤ k ∧ k < 6) : zk_C l σ 0 muX5_shoesBy [.int k] M L (zk_Ei (zs_sk k) M L) := by
  refine zk_ofR (ls := [some (.int k)]) (by decide) rfl (Nat.le_of_ble_eq_true rfl) rfl ?_
  refine zk_iload_n dX5_shoesBy_0 rfl ?_
  by_cases hx1 : k = 1
  · rw [hx1]
    refine zk_tabIn (off := 35) (tgt := 36) dX5_shoesBy_1 (by decide) (by decide) (by decide) (by decide) ?_
    refine zk_iconst dX5_shoesBy_36 zc_1 ?_
    refine zk_iret rfl dX5_shoesBy_37 ?_
    exact zk_Ei_of (by first | rfl | (rcases zs_k6 hk with q | q | q | q | q | q <;> first | exact absurd q (by assumption) | (rw [q]; rfl))) rfl rfl
  by_cases hx2 : k = 2
  · rw [hx2]
    refine zk_tabIn (off := 37) (tgt := 38) dX5_shoesBy_1 (by decide) (by decide) (by decide) (by decide) ?_
    refine zk_iconst dX5_shoesBy_38 zc_3 ?_
    refine zk_iret rfl dX5_shoesBy_39 ?_
    exact zk_Ei_of (by first | rfl | (rcases zs_k6 hk with q | q | q | q | q | q <;> first | exact absurd q (by assumption) | (rw [q]; rfl))) rfl rfl
  by_cases hx3 : k = 3
  · rw [hx3]
    refine zk_tabIn (off := 39) (tgt := 40) dX5_shoesBy_1 (by decide) (by decide) (by decide) (by decide) ?_
    refine zk_iconst dX5_shoesBy_40 zc_0 ?_
    refine zk_iret rfl dX5_shoesBy_41 ?_
    exact zk_Ei_of (by first | rfl | (rcases zs_k6 hk with q | q | q | q | q | q <;> first | exact absurd q (by assumption) | (rw [q]; rfl))) rfl rfl
  by_cases hx4 : k = 4
  · rw [hx4]
    refine zk_tabIn (off := 41) (tgt := 42) dX5_shoesBy_1 (by decide) (by decide) (by decide) (by decide) ?_
    refine zk_iconst dX5_shoesBy_42 zc_2 ?_
    refine zk_iret rfl dX5_shoesBy_43 ?_
    exact zk_Ei_of (by first | rfl | (rcases zs_k6 hk with q | q | q | q | q | q <;> first | exact absurd q (by assumption) | (rw [q]; rfl))) rfl rfl
  by_cases hx5 : k = 5
  · rw [hx5]
    refine zk_tabIn (off := 37) (tgt := 38) dX5_shoesBy_1 (by decide) (by decide) (by decide) (by decide) ?_
    refine zk_iconst dX5_shoesBy_38 zc_3 ?_
    refine zk_iret rfl dX5_shoesBy_39 ?_
    exact zk_Ei_of (by first | rfl | (rcases zs_k6 hk with q | q | q | q | q | q <;> first | exact absurd q (by assumption) | (rw [q]; rfl))) rfl rfl
  refine zk_tabOut (tgt := 44) dX5_shoesBy_1 (zs_out15 hx1 hx2 hx3 hx4 hx5) (by decide) ?_
  refine zk_iconst dX5_shoesBy_44 zc_4 ?_
  refine zk_iret rfl dX5_shoesBy_45 ?_
  exact zk_Ei_of (by first | rfl | (rcases zs_k6 hk with q | q | q | q | q | q <;> first | exact absurd q (by assumption) | (rw [q]; rfl))) rfl rfl
set_option maxRecDepth 100000 in
set_option maxHeartbeats 4000000 in
theorem qX5_daysBy {l : Launch} {σ : zk_Sh} {M : zk_M} {L : zk_L} {k f : Int32} (hk : 0 ≤ k ∧ k < 6) : zk_C l σ 0 muX5_daysBy [.int k, .int f] M L (zk_Ei (zs_dk k f) M L) := by
  refine zk_ofR (ls := [some (.int k), some (.int f), none]) (by decide) rfl (Nat.le_of_ble_eq_true rfl) rfl ?_
  refine zk_iload_n dX5_daysBy_0 rfl ?_
  refine zk_iconst dX5_daysBy_1 zc_3 ?_
  refine zk_idiv dX5_daysBy_2 (by decide) ?_
  refine zk_iconst dX5_daysBy_3 zc_1 ?_
  refine zk_iadd dX5_daysBy_4 ?_
  refine zk_istore_n dX5_daysBy_5 zk_S_2 ?_
  refine zk_iload_n dX5_daysBy_6 rfl ?_
  by_cases hx2 : k = 2
  · rw [hx2]
    refine zk_tabIn (off := 29) (tgt := 36) dX5_daysBy_7 (by decide) (by decide) (by decide) (by decide) ?_
    refine zk_iload_n dX5_daysBy_36 rfl ?_
    refine zk_iconst dX5_daysBy_37 zc_2 ?_
    refine zk_idiv dX5_daysBy_38 (by decide) ?_
    refine zk_iconst dX5_daysBy_39 zc_1 ?_
    refine zk_iadd dX5_daysBy_40 ?_
    refine zk_iret rfl dX5_daysBy_41 ?_
    exact zk_Ei_of (by first | rfl | (rcases zs_k6 hk with q | q | q | q | q | q <;> first | exact absurd q (by assumption) | (rw [q]; rfl))) rfl rfl
  by_cases hx3 : k = 3
  · rw [hx3]
    refine zk_tabIn (off := 35) (tgt := 42) dX5_daysBy_7 (by decide) (by decide) (by decide) (by decide) ?_
    refine zk_iconst dX5_daysBy_42 zc_0 ?_
    refine zk_iret rfl dX5_daysBy_43 ?_
    exact zk_Ei_of (by first | rfl | (rcases zs_k6 hk with q | q | q | q | q | q <;> first | exact absurd q (by assumption) | (rw [q]; rfl))) rfl rfl
  by_cases hx4 : k = 4
  · rw [hx4]
    refine zk_tabIn (off := 37) (tgt := 44) dX5_daysBy_7 (by decide) (by decide) (by decide) (by decide) ?_
    refine zk_iconst dX5_daysBy_44 zc_2 ?_
    refine zk_iload_n dX5_daysBy_45 rfl ?_
    refine zk_imul dX5_daysBy_46 ?_
    refine zk_iret rfl dX5_daysBy_47 ?_
    exact zk_Ei_of (by first | rfl | (rcases zs_k6 hk with q | q | q | q | q | q <;> first | exact absurd q (by assumption) | (rw [q]; rfl))) rfl rfl
  by_cases hx5 : k = 5
  · rw [hx5]
    refine zk_tabIn (off := 41) (tgt := 48) dX5_daysBy_7 (by decide) (by decide) (by decide) (by decide) ?_
    refine zk_iload_n dX5_daysBy_48 rfl ?_
    refine zk_iconst dX5_daysBy_49 zc_2 ?_
    refine zk_idiv dX5_daysBy_50 (by decide) ?_
    refine zk_iconst dX5_daysBy_51 zc_2 ?_
    refine zk_iadd dX5_daysBy_52 ?_
    refine zk_iret rfl dX5_daysBy_53 ?_
    exact zk_Ei_of (by show _ = zs_dk 5 f; rw [zs_dk, if_neg (by decide), if_neg (by decide), if_neg (by decide), if_neg (by decide), if_pos rfl, Int32.add_assoc]; rfl) rfl rfl
  refine zk_tabOut (tgt := 54) dX5_daysBy_7 (zs_out25 hx2 hx3 hx4 hx5) (by decide) ?_
  refine zk_iload_n dX5_daysBy_54 rfl ?_
  refine zk_iret rfl dX5_daysBy_55 ?_
  exact zk_Ei_of (by first | rfl | (rcases zs_k6 hk with q | q | q | q | q | q <;> first | exact absurd q (by assumption) | (rw [q]; rfl))) rfl rfl
set_option maxRecDepth 100000 in
set_option maxHeartbeats 4000000 in
theorem qX5_kindBy {l : Launch} {σ : zk_Sh} {M : zk_M} {L : zk_L} {c : Int32} : zk_C l σ 0 muX5_kindBy [.int c] M L (zk_Ei (zs_kl c) M L) := by
  refine zk_ofR (ls := [some (.int c)]) (by decide) rfl (Nat.le_of_ble_eq_true rfl) rfl ?_
  refine zk_iload_n dX5_kindBy_0 rfl ?_
  by_cases hx98 : c = 98
  · rw [hx98]
    refine zk_lookup (off := 61) (tgt := 62) dX5_kindBy_1 (by decide) (by decide) (by decide) ?_
    refine zk_iconst dX5_kindBy_62 zc_1 ?_
    refine zk_iret rfl dX5_kindBy_63 ?_
    exact zk_Ei_of (by simp_all [zs_kl]) rfl rfl
  by_cases hx109 : c = 109
  · rw [hx109]
    refine zk_lookup (off := 65) (tgt := 66) dX5_kindBy_1 (by decide) (by decide) (by decide) ?_
    refine zk_iconst dX5_kindBy_66 zc_3 ?_
    refine zk_iret rfl dX5_kindBy_67 ?_
    exact zk_Ei_of (by simp_all [zs_kl]) rfl rfl
  by_cases hx112 : c = 112
  · rw [hx112]
    refine zk_lookup (off := 67) (tgt := 68) dX5_kindBy_1 (by decide) (by decide) (by decide) ?_
    refine zk_iconst dX5_kindBy_68 zc_4 ?_
    refine zk_iret rfl dX5_kindBy_69 ?_
    exact zk_Ei_of (by simp_all [zs_kl]) rfl rfl
  by_cases hx114 : c = 114
  · rw [hx114]
    refine zk_lookup (off := 59) (tgt := 60) dX5_kindBy_1 (by decide) (by decide) (by decide) ?_
    refine zk_iconst dX5_kindBy_60 zc_0 ?_
    refine zk_iret rfl dX5_kindBy_61 ?_
    exact zk_Ei_of (by simp_all [zs_kl]) rfl rfl
  by_cases hx117 : c = 117
  · rw [hx117]
    refine zk_lookup (off := 63) (tgt := 64) dX5_kindBy_1 (by decide) (by decide) (by decide) ?_
    refine zk_iconst dX5_kindBy_64 zc_2 ?_
    refine zk_iret rfl dX5_kindBy_65 ?_
    exact zk_Ei_of (by simp_all [zs_kl]) rfl rfl
  by_cases hx120 : c = 120
  · rw [hx120]
    refine zk_lookup (off := 69) (tgt := 70) dX5_kindBy_1 (by decide) (by decide) (by decide) ?_
    refine zk_iconst dX5_kindBy_70 zc_5 ?_
    refine zk_iret rfl dX5_kindBy_71 ?_
    exact zk_Ei_of (by simp_all [zs_kl]) rfl rfl
  refine zk_lookup (off := 71) (tgt := 72) dX5_kindBy_1 (by decide) (by rw [lv_osw hx98 (by decide), lv_osw hx109 (by decide), lv_osw hx112 (by decide), lv_osw hx114 (by decide), lv_osw hx117 (by decide), lv_osw hx120 (by decide)]; rfl) (by decide) ?_
  refine zk_bipush dX5_kindBy_72 zb_m9 ?_
  refine zk_iret rfl dX5_kindBy_74 ?_
  exact zk_Ei_of (by simp_all [zs_kl]) rfl rfl
