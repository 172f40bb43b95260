/-! the class's objects: 0 itself; 1 now (2 its roads, 3 joined, 4 steps, 5 riders, 6 .. 11); 12 kept (13 .. 22); 23 thought (24 .. 33); 34 thoughtRoads (35, 36); 37 mind; 38 otherMind; 39 telling (40 its signs); 41 rowNumbers; 42 refusals; 43 riderBits; 44 chances; 45 laterChances -/
def zc_k (o : Nat) : Nat := ([4, 0, 2, 100, 100, 102, 1, 1, 1, 1, 1, 1, 0, 2, 100, 100, 102, 1, 1, 1, 1, 1, 1, 0, 2, 100, 100, 102, 1, 1, 1, 1, 1, 1, 2, 100, 100, 1, 1, 3, 100, 100, 100, 100, 101, 101] : List Nat).getD o 0
def zc_n (o : Nat) : Nat := ([0, 0, 0, 8, 64, 6, 0, 0, 0, 0, 0, 0, 0, 0, 8, 64, 6, 0, 0, 0, 0, 0, 0, 0, 0, 8, 64, 6, 0, 0, 0, 0, 0, 0, 0, 8, 64, 0, 0, 0, 96, 16, 7, 8, 8, 8] : List Nat).getD o 0
def zc_r (o k : Nat) : Nat := match o with
  | 0 => ([1, 12, 23, 34, 37, 38, 39, 41, 42, 43, 44, 45] : List Nat).getD k 0
  | 1 => ([2, 5] : List Nat).getD k 0
  | 2 => ([3, 4] : List Nat).getD k 0
  | 5 => 6 + k
  | 12 => ([13, 16] : List Nat).getD k 0
  | 13 => ([14, 15] : List Nat).getD k 0
  | 16 => 17 + k
  | 23 => ([24, 27] : List Nat).getD k 0
  | 24 => ([25, 26] : List Nat).getD k 0
  | 27 => 28 + k
  | 34 => ([35, 36] : List Nat).getD k 0
  | 39 => ([40] : List Nat).getD k 0
  | _ => 0
def zc : zk_Sh := (46, zc_k, zc_n, zc_r)
theorem zc_h6 {p : Nat} (h : p < 6) : zs_h zc (6 + p) := by
  rcases (show p = 0 ∨ p = 1 ∨ p = 2 ∨ p = 3 ∨ p = 4 ∨ p = 5 by omega) with rfl | rfl | rfl | rfl | rfl | rfl <;> exact ⟨by decide, rfl⟩
theorem zc_h17 {p : Nat} (h : p < 6) : zs_h zc (17 + p) := by
  rcases (show p = 0 ∨ p = 1 ∨ p = 2 ∨ p = 3 ∨ p = 4 ∨ p = 5 by omega) with rfl | rfl | rfl | rfl | rfl | rfl <;> exact ⟨by decide, rfl⟩
theorem zc_h28 {p : Nat} (h : p < 6) : zs_h zc (28 + p) := by
  rcases (show p = 0 ∨ p = 1 ∨ p = 2 ∨ p = 3 ∨ p = 4 ∨ p = 5 by omega) with rfl | rfl | rfl | rfl | rfl | rfl <;> exact ⟨by decide, rfl⟩
theorem zc_h37 : zs_h zc 37 := ⟨by decide, rfl⟩
theorem zc_h38 : zs_h zc 38 := ⟨by decide, rfl⟩
theorem zc_r2 : zs_r zc 2 := ⟨by decide, rfl, ⟨by decide, rfl, rfl⟩, ⟨by decide, rfl, rfl⟩, by decide⟩
theorem zc_r13 : zs_r zc 13 := ⟨by decide, rfl, ⟨by decide, rfl, rfl⟩, ⟨by decide, rfl, rfl⟩, by decide⟩
theorem zc_r24 : zs_r zc 24 := ⟨by decide, rfl, ⟨by decide, rfl, rfl⟩, ⟨by decide, rfl, rfl⟩, by decide⟩
theorem zc_r34 : zs_r zc 34 := ⟨by decide, rfl, ⟨by decide, rfl, rfl⟩, ⟨by decide, rfl, rfl⟩, by decide⟩
theorem zc_c1 : zs_c zc 1 := ⟨by decide, rfl, zc_r2, ⟨by decide, rfl, rfl⟩, fun _ h => zc_h6 h, fun p q _ _ h => by have h : 6 + p = 6 + q := h; omega⟩
theorem zc_c12 : zs_c zc 12 := ⟨by decide, rfl, zc_r13, ⟨by decide, rfl, rfl⟩, fun _ h => zc_h17 h, fun p q _ _ h => by have h : 17 + p = 17 + q := h; omega⟩
theorem zc_c23 : zs_c zc 23 := ⟨by decide, rfl, zc_r24, ⟨by decide, rfl, rfl⟩, fun _ h => zc_h28 h, fun p q _ _ h => by have h : 28 + p = 28 + q := h; omega⟩
theorem zc_d12_1 : zs_dis zc 12 1 := ⟨by decide, fun p q hp hq h => by have h : 6 + q = 17 + p := h; omega, by decide⟩
theorem zc_d1_12 : zs_dis zc 1 12 := ⟨by decide, fun p q hp hq h => by have h : 17 + q = 6 + p := h; omega, by decide⟩
theorem zc_d23_1 : zs_dis zc 23 1 := ⟨by decide, fun p q hp hq h => by have h : 6 + q = 28 + p := h; omega, by decide⟩
theorem zc_d1_23 : zs_dis zc 1 23 := ⟨by decide, fun p q hp hq h => by have h : 28 + q = 6 + p := h; omega, by decide⟩
/-! agreement of rows up to a place -/
def zs_ag (n : Nat) (f g : Nat → Int32) : Prop := ∀ i, i < n → f i = g i
theorem zs_ag.rf {n : Nat} {f : Nat → Int32} : zs_ag n f f := fun _ _ => rfl
theorem zs_ag.sm {n : Nat} {f g : Nat → Int32} (h : zs_ag n f g) : zs_ag n g f := fun i hi => (h i hi).symm
theorem zs_ag.tr {n : Nat} {f g h : Nat → Int32} (h1 : zs_ag n f g) (h2 : zs_ag n g h) : zs_ag n f h := fun i hi => (h1 i hi).trans (h2 i hi)
theorem zs_ag.up {n k : Nat} {f g : Nat → Int32} {v : Int32} (h : zs_ag n f g) : zs_ag n (va_up f k v) (va_up g k v) := fun i hi => by
  simp only [va_up]
  split
  · rfl
  · exact h i hi
theorem zs_cp_ag {n : Nat} {f g : Nat → Int32} : zs_ag n (zs_cp n f g) f := fun i hi => if_pos hi
theorem zs_ok_ag {f g : Nat → Int32} (h : zs_ag 7 f g) (ok : zs_ok f) : zs_ok g := ⟨by rw [← h 2 (by decide)]; exact ok.1, by rw [← h 3 (by decide)]; exact ok.2.1, by rw [← h 4 (by decide)]; exact ok.2.2⟩
theorem zs_wear_ag {f g : Nat → Int32} (h : zs_ag 7 f g) : zs_ag 7 (zs_wear f) (zs_wear g) := by
  have h0 := h 0 (by decide)
  have h1 := h 1 (by decide)
  have h5 := h 5 (by decide)
  have h6 := h 6 (by decide)
  unfold zs_wear
  rw [h0, h1, h5, h6]
  split
  · exact (h.up).up
  · exact h.up
theorem zs_p_tn {x : Int32} (h : zs_p x) : x.toNatClampNeg < 8 := by
  obtain ⟨i, hi, rfl⟩ := zs_p_of h
  rw [nI_clamp (by omega)]
  exact hi
theorem zs_p_tn64 {a b : Int32} (ha : zs_p a) (hb : zs_p b) : (a * 8 + b).toNatClampNeg < 64 := by
  obtain ⟨i, hi, rfl⟩ := zs_p_of ha
  obtain ⟨j, hj, rfl⟩ := zs_p_of hb
  rw [zs_ixj hi hj]
  omega
theorem zs_pull_ag {T T' f g : Nat → Int32} {a : Int32} (hT : zs_ag 64 T T') (h : zs_ag 7 f g) (ha : zs_p a) (ok : zs_ok f) : zs_pull T f a = zs_pull T' g a := by
  unfold zs_pull
  rw [← h 5 (by decide), ← h 2 (by decide), ← h 3 (by decide), hT _ (zs_p_tn64 ha ok.1), hT _ (zs_p_tn64 ha ok.2.1)]
theorem zs_nx_s {J T f : Nat → Int32} {a : Int32} {n i : Nat} {b : Int32} : zs_nx J T f a (n + 1) i b = zs_nx J T f a n (i + 1) (if zs_j J a (nI i) ∧ zs_pull T f (nI i) < zs_pull T f b then nI i else b) := by simp only [zs_nx, zs_for]
theorem zs_nx_ag {J J' T T' f g : Nat → Int32} {a : Int32} (hJ : zs_ag 8 J J') (hT : zs_ag 64 T T') (h : zs_ag 7 f g) (ha : zs_p a) (ok : zs_ok f) : ∀ (n i : Nat) (b : Int32), i + n ≤ 8 → zs_p b → zs_nx J T f a n i b = zs_nx J' T' g a n i b := by
  intro n
  induction n with
  | zero => intro i b _ _; simp only [zs_nx, zs_for]
  | succ n ih =>
    intro i b hi hb
    rw [zs_nx_s, zs_nx_s]
    have e : (if zs_j J a (nI i) ∧ zs_pull T f (nI i) < zs_pull T f b then nI i else b) = (if zs_j J' a (nI i) ∧ zs_pull T' g (nI i) < zs_pull T' g b then nI i else b) := by
      rw [zs_pull_ag hT h (zs_p_nI (by omega)) ok, zs_pull_ag hT h hb ok]
      unfold zs_j
      rw [hJ _ (zs_p_tn ha)]
    rw [e]
    apply ih (i + 1) _ (by omega)
    split
    · exact zs_p_nI (by omega)
    · exact hb
theorem zs_wear_ok {f : Nat → Int32} (ok : zs_ok f) : zs_ok (zs_wear f) := ⟨by rw [zs_wear_ne (by decide) (by decide)]; exact ok.1, by rw [zs_wear_ne (by decide) (by decide)]; exact ok.2.1, by rw [zs_wear_ne (by decide) (by decide)]; exact ok.2.2⟩
theorem zs_ride_ag {J J' T T' f g : Nat → Int32} (hJ : zs_ag 8 J J') (hT : zs_ag 64 T T') (h : zs_ag 7 f g) (ok : zs_ok f) : zs_ag 7 (zs_ride J T f) (zs_ride J' T' g) := by
  have hw := zs_wear_ag h
  unfold zs_ride
  rw [zs_nx_ag hJ hT hw (zs_wear_ok ok).2.2 (zs_wear_ok ok) 8 0 _ (by decide) (zs_wear_ok ok).2.2, hw 4 (by decide)]
  exact hw.up
theorem zs_rides_ag {J J' T T' : Nat → Int32} (hJ : zs_ag 8 J J') (hT : zs_ag 64 T T') : ∀ (n : Nat) (f g : Nat → Int32), zs_ag 7 f g → zs_ok f → zs_ag 7 (zs_rides J T n f) (zs_rides J' T' n g)
  | 0, _, _, h, _ => h
  | n + 1, f, g, h, ok => zs_rides_ag hJ hT n _ _ (zs_ride_ag hJ hT h ok) (zs_ride_ok ok)
theorem zs_until_ag {J J' T T' : Nat → Int32} {p : Int32} (hJ : zs_ag 8 J J') (hT : zs_ag 64 T T') : ∀ (n d : Nat) (f g : Nat → Int32), zs_ag 7 f g → zs_ok f → (zs_until J T p n d f).1 = (zs_until J' T' p n d g).1
  | 0, _, _, _, _, _ => rfl
  | n + 1, d, f, g, h, ok => by
    unfold zs_until
    rw [← h 4 (by decide)]
    split
    · rfl
    · exact zs_until_ag hJ hT n (d + 1) _ _ (zs_ride_ag hJ hT h ok) (zs_ride_ok ok)
/-! what questions leave as it was: all but what is scratch -/
def zs_same (M M' : zk_M) : Prop := ∀ o, (o < 23 ∨ 38 < o) → o ≠ 43 → M' o = M o
theorem zs_same.rf {M : zk_M} : zs_same M M := fun _ _ _ => rfl
theorem zs_same.tr {M M' M'' : zk_M} (h : zs_same M M') (h' : zs_same M' M'') : zs_same M M'' := fun o h1 h2 => (h' o h1 h2).trans (h o h1 h2)
theorem zs_same.up {M M' : zk_M} {o : Nat} {f : Nat → Int32} (h : zs_same M M') (ho : (23 ≤ o ∧ o ≤ 38) ∨ o = 43) : zs_same M (va_up M' o f) := fun q h1 h2 => by
  rw [zk_up_ne (by omega)]
  exact h q h1 h2
def zq_i (v : Int32) (M : zk_M) : Option Value → zk_M → zk_L → Prop := fun r M' _ => r = some (.int v) ∧ zs_same M M'
def zq_l (v : Int64) (M : zk_M) : Option Value → zk_M → zk_L → Prop := fun r M' _ => r = some (.long v) ∧ zs_same M M'
def zq_v (M : zk_M) : Option Value → zk_M → zk_L → Prop := fun r M' _ => r = none ∧ zs_same M M'
/-- the class's own state: n riders, each at places -/
def zs_I (M : zk_M) (n : Nat) : Prop := n ≤ 6 ∧ M 1 2 = nI n ∧ ∀ q, q < 6 → zs_ok (M (6 + q))
theorem zs_I.sm {M M' : zk_M} {n : Nat} (h : zs_I M n) (hs : zs_same M M') : zs_I M' n := ⟨h.1, by rw [hs 1 (by decide) (by decide)]; exact h.2.1, fun q hq => by rw [hs (6 + q) (by omega) (by omega)]; exact h.2.2 q hq⟩
theorem zs_I.le6 {M : zk_M} {n : Nat} (h : zs_I M n) : M 1 2 ≤ 6 := by rw [h.2.1]; exact nI_le (b := 6) h.1 (by decide)
theorem zs_I.isr {M : zk_M} {n p : Nat} (h : zs_I M n) (hp : p < n) : zs_isr (M 1 2) (nI p) := by
  have := h.1
  rw [h.2.1]
  exact ⟨nI_pos' (by omega), nI_lt hp (by omega)⟩
theorem zs_I.of {M : zk_M} {n : Nat} (h : zs_I M n) {r : Int32} (hr : zs_isr (M 1 2) r) : ∃ p, p < n ∧ r = nI p := by
  have h6 := h.1
  rw [h.2.1] at hr
  refine vp_in_of (vp_in_iff.mpr ⟨by simpa [Int32.le_iff_toInt_le] using hr.1, ?_⟩) (by omega)
  have h2 := hr.2
  rw [Int32.lt_iff_toInt_lt, nI_toInt (by omega)] at h2
  exact h2
theorem zk_cSqi {l : Launch} {σ : zk_Sh} {d d' : Nat} {μ μ' : zk_I} {pc : Nat} {ls : List (Option Value)} {as st rest : List Value} {M M0 : zk_M} {L : zk_L} {Q : Option Value → zk_M → zk_L → Prop} {n idx : Nat} {v : Int32} (hc : zk_C l σ d' μ' as M L (zq_i v M0)) (hd : decode μ.2.1 pc = .ok (.invokestatic idx, 3)) (hi : zk_MI μ' n) (hlk : Cond.methodLink μ.2.2.2.2 idx μ'.1 ∈ zk_tb) (hst : Cond.static μ'.1 ∈ zk_tb) (hn : as.length = n) (hdd : d' + 1 ≤ d) (hs : st = as.reverse ++ rest) (hcat : (rest.map fun v => v.category).sum ≤ 8) (kk : ∀ (M1 : zk_M) (L1 : zk_L), zs_same M0 M1 → zk_R l σ d μ (pc + 3) ls (.int v :: rest) M1 L1 Q) : zk_R l σ d μ pc ls st M L Q :=
  zk_callS hc hd hi hlk hst hn hdd hs hcat (fun r M2 L2 h => by obtain ⟨rfl, h2⟩ := h; exact kk M2 L2 h2)
theorem zk_cSql {l : Launch} {σ : zk_Sh} {d d' : Nat} {μ μ' : zk_I} {pc : Nat} {ls : List (Option Value)} {as st rest : List Value} {M M0 : zk_M} {L : zk_L} {Q : Option Value → zk_M → zk_L → Prop} {n idx : Nat} {v : Int64} (hc : zk_C l σ d' μ' as M L (zq_l v M0)) (hd : decode μ.2.1 pc = .ok (.invokestatic idx, 3)) (hi : zk_MI μ' n) (hlk : Cond.methodLink μ.2.2.2.2 idx μ'.1 ∈ zk_tb) (hst : Cond.static μ'.1 ∈ zk_tb) (hn : as.length = n) (hdd : d' + 1 ≤ d) (hs : st = as.reverse ++ rest) (hcat : (rest.map fun v => v.category).sum ≤ 8) (kk : ∀ (M1 : zk_M) (L1 : zk_L), zs_same M0 M1 → zk_R l σ d μ (pc + 3) ls (.long v :: rest) M1 L1 Q) : zk_R l σ d μ pc ls st M L Q :=
  zk_callS hc hd hi hlk hst hn hdd hs hcat (fun r M2 L2 h => by obtain ⟨rfl, h2⟩ := h; exact kk M2 L2 h2)
theorem zk_cSqv {l : Launch} {σ : zk_Sh} {d d' : Nat} {μ μ' : zk_I} {pc : Nat} {ls : List (Option Value)} {as st rest : List Value} {M M0 : zk_M} {L : zk_L} {Q : Option Value → zk_M → zk_L → Prop} {n idx : Nat}  (hc : zk_C l σ d' μ' as M L (zq_v M0)) (hd : decode μ.2.1 pc = .ok (.invokestatic idx, 3)) (hi : zk_MI μ' n) (hlk : Cond.methodLink μ.2.2.2.2 idx μ'.1 ∈ zk_tb) (hst : Cond.static μ'.1 ∈ zk_tb) (hn : as.length = n) (hdd : d' + 1 ≤ d) (hs : st = as.reverse ++ rest) (hcat : (rest.map fun v => v.category).sum ≤ 8) (kk : ∀ (M1 : zk_M) (L1 : zk_L), zs_same M0 M1 → zk_R l σ d μ (pc + 3) ls (rest) M1 L1 Q) : zk_R l σ d μ pc ls st M L Q :=
  zk_callS hc hd hi hlk hst hn hdd hs hcat (fun r M2 L2 h => by obtain ⟨rfl, h2⟩ := h; exact kk M2 L2 h2)
theorem zk_cVqi {l : Launch} {σ : zk_Sh} {d d' : Nat} {μ μ' : zk_I} {pc : Nat} {ls : List (Option Value)} {as st rest : List Value} {M M0 : zk_M} {L : zk_L} {Q : Option Value → zk_M → zk_L → Prop} {n idx ci o : Nat} {v : Int32} (hc : zk_C l σ d' μ' (.ref o :: as) M L (zq_i v M0)) (hd : decode μ.2.1 pc = .ok (.invokevirtual idx, 3)) (hi : zk_MV μ' n ci) (hlk : Cond.methodLink μ.2.2.2.2 idx μ'.1 ∈ zk_tb) (ho : o < σ.1) (hk : σ.2.1 o = ci) (hn : as.length = n) (hdd : d' + 1 ≤ d) (hs : st = as.reverse ++ .ref o :: rest) (hcat : (rest.map fun v => v.category).sum ≤ 8) (kk : ∀ (M1 : zk_M) (L1 : zk_L), zs_same M0 M1 → zk_R l σ d μ (pc + 3) ls (.int v :: rest) M1 L1 Q) : zk_R l σ d μ pc ls st M L Q :=
  zk_callV hc hd hi hlk ho hk hn hdd hs hcat (fun r M2 L2 h => by obtain ⟨rfl, h2⟩ := h; exact kk M2 L2 h2)
theorem zk_cVql {l : Launch} {σ : zk_Sh} {d d' : Nat} {μ μ' : zk_I} {pc : Nat} {ls : List (Option Value)} {as st rest : List Value} {M M0 : zk_M} {L : zk_L} {Q : Option Value → zk_M → zk_L → Prop} {n idx ci o : Nat} {v : Int64} (hc : zk_C l σ d' μ' (.ref o :: as) M L (zq_l v M0)) (hd : decode μ.2.1 pc = .ok (.invokevirtual idx, 3)) (hi : zk_MV μ' n ci) (hlk : Cond.methodLink μ.2.2.2.2 idx μ'.1 ∈ zk_tb) (ho : o < σ.1) (hk : σ.2.1 o = ci) (hn : as.length = n) (hdd : d' + 1 ≤ d) (hs : st = as.reverse ++ .ref o :: rest) (hcat : (rest.map fun v => v.category).sum ≤ 8) (kk : ∀ (M1 : zk_M) (L1 : zk_L), zs_same M0 M1 → zk_R l σ d μ (pc + 3) ls (.long v :: rest) M1 L1 Q) : zk_R l σ d μ pc ls st M L Q :=
  zk_callV hc hd hi hlk ho hk hn hdd hs hcat (fun r M2 L2 h => by obtain ⟨rfl, h2⟩ := h; exact kk M2 L2 h2)
theorem zk_cVqv {l : Launch} {σ : zk_Sh} {d d' : Nat} {μ μ' : zk_I} {pc : Nat} {ls : List (Option Value)} {as st rest : List Value} {M M0 : zk_M} {L : zk_L} {Q : Option Value → zk_M → zk_L → Prop} {n idx ci o : Nat}  (hc : zk_C l σ d' μ' (.ref o :: as) M L (zq_v M0)) (hd : decode μ.2.1 pc = .ok (.invokevirtual idx, 3)) (hi : zk_MV μ' n ci) (hlk : Cond.methodLink μ.2.2.2.2 idx μ'.1 ∈ zk_tb) (ho : o < σ.1) (hk : σ.2.1 o = ci) (hn : as.length = n) (hdd : d' + 1 ≤ d) (hs : st = as.reverse ++ .ref o :: rest) (hcat : (rest.map fun v => v.category).sum ≤ 8) (kk : ∀ (M1 : zk_M) (L1 : zk_L), zs_same M0 M1 → zk_R l σ d μ (pc + 3) ls (rest) M1 L1 Q) : zk_R l σ d μ pc ls st M L Q :=
  zk_callV hc hd hi hlk ho hk hn hdd hs hcat (fun r M2 L2 h => by obtain ⟨rfl, h2⟩ := h; exact kk M2 L2 h2)
