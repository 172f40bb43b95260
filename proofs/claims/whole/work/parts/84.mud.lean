/-! mud: chances by day are weights summed over the muddy days -/
def zv_W (f : Nat → Int32) : Nat → Nat → Int32
  | 0 => f
  | k + 1 => zs_wear (zv_W f k)
theorem zv_W_s {f : Nat → Int32} : ∀ k, zv_W (zs_wear f) k = zv_W f (k + 1)
  | 0 => rfl
  | k + 1 => by show zs_wear (zv_W (zs_wear f) k) = _; rw [zv_W_s k]; rfl
theorem zv_up_comm {f : Nat → Int32} {i j : Nat} {x y : Int32} (h : i ≠ j) : va_up (va_up f i x) j y = va_up (va_up f j y) i x := by
  funext q
  simp only [va_up]
  by_cases h1 : q = i
  · subst h1; simp [h]
  · simp [h1]
theorem zv_wear4 {f : Nat → Int32} {x : Int32} : zs_wear (va_up f 4 x) = va_up (zs_wear f) 4 x := by
  unfold zs_wear
  rw [show va_up f 4 x 0 = f 0 from zk_up_ne (by decide), show va_up f 4 x 1 = f 1 from zk_up_ne (by decide), show va_up f 4 x 5 = f 5 from zk_up_ne (by decide), show va_up f 4 x 6 = f 6 from zk_up_ne (by decide)]
  split
  · rw [zv_up_comm (i := 4) (j := 6) (by decide), zv_up_comm (i := 4) (j := 5) (by decide)]
  · rw [zv_up_comm (i := 4) (j := 6) (by decide)]
theorem zv_pull4 {T f : Nat → Int32} {x y : Int32} : zs_pull T (va_up f 4 x) y = zs_pull T f y := by
  unfold zs_pull
  rw [show va_up f 4 x 2 = f 2 from zk_up_ne (by decide), show va_up f 4 x 3 = f 3 from zk_up_ne (by decide), show va_up f 4 x 5 = f 5 from zk_up_ne (by decide)]
theorem zv_nx4 {J T f : Nat → Int32} {x y b : Int32} {n i : Nat} : zs_nx J T (va_up f 4 x) y n i b = zs_nx J T f y n i b := by
  unfold zs_nx
  simp only [zv_pull4]
theorem zv_ride4 {J T f : Nat → Int32} {i : Nat} : zs_ride J T (va_up f 4 (nI i)) = va_up (zs_wear f) 4 (zs_nxp J T (zs_wear f) i) := by
  unfold zs_ride
  rw [zv_wear4, zk_up_eq, zv_nx4, zs_up2]
  rfl
/-- the sum of the first terms -/
def zv_sum (t : Nat → Int64) : Nat → Int64
  | 0 => 0
  | n + 1 => zv_sum t n + t n
theorem zv_sum_for {t : Nat → Int64} : ∀ n, zs_for (fun s x => x + t s) n 0 0 = zv_sum t n
  | 0 => rfl
  | n + 1 => by rw [zv_last, zv_sum_for n, Nat.zero_add]; rfl
theorem zv_sum_cg {t u : Nat → Int64} : ∀ n, (∀ s, s < n → t s = u s) → zv_sum t n = zv_sum u n
  | 0, _ => rfl
  | n + 1, h => by show zv_sum t n + t n = zv_sum u n + u n; rw [zv_sum_cg n (fun s hs => h s (by omega)), h n (by omega)]
theorem zv_sum_add {t u : Nat → Int64} : ∀ n, zv_sum (fun s => t s + u s) n = zv_sum t n + zv_sum u n
  | 0 => rfl
  | n + 1 => by
    show zv_sum (fun s => t s + u s) n + (t n + u n) = zv_sum t n + t n + (zv_sum u n + u n)
    rw [zv_sum_add n, Int64.add_assoc, Int64.add_assoc, ← Int64.add_assoc (zv_sum u n), Int64.add_comm (zv_sum u n), Int64.add_assoc]
theorem zv_sum_app {t : Nat → Int64} (m : Nat) : ∀ n, zv_sum t (m + n) = zv_sum t m + zv_sum (fun s => t (m + s)) n
  | 0 => by show zv_sum t m = zv_sum t m + 0; rw [Int64.add_zero]
  | n + 1 => by
    show zv_sum t (m + n) + t (m + n) = zv_sum t m + (zv_sum (fun s => t (m + s)) n + t (m + n))
    rw [zv_sum_app m n, Int64.add_assoc]
theorem zv_sum_one {v : Int64} {i : Nat} : ∀ n, zv_sum (fun s => if s = i then v else 0) n = if i < n then v else 0
  | 0 => rfl
  | n + 1 => by
    show zv_sum (fun s => if s = i then v else 0) n + (if n = i then v else 0) = _
    rw [zv_sum_one n]
    by_cases c : n = i
    · rw [if_pos c, if_neg (by omega), if_pos (by omega), Int64.zero_add]
    · rw [if_neg c, Int64.add_zero]
      by_cases d : i < n
      · rw [if_pos d, if_pos (by omega)]
      · rw [if_neg d, if_neg (by omega)]
/-! bits of a set of days -/
theorem zv_bit : ∀ s : Fin 256, ∀ i : Fin 8, zu_bit s.1 i.1 ↔ s.1.testBit i.1 = true := by decide +kernel
theorem zv_sub_cg {J T : Nat → Int32} {o : Int32} {s s' : Nat} : ∀ (m i : Nat) (f : Nat → Int32) (w : Int64), (∀ j, i ≤ j → j < i + m → (zu_bit s j ↔ zu_bit s' j)) → zu_sub J T o s m i f w = zu_sub J T o s' m i f w
  | 0, _, _, _, _ => rfl
  | m + 1, i, f, w, h => by
    unfold zu_sub
    have e := h i (Nat.le_refl _) (by omega)
    rw [zv_sub_cg m (i + 1) _ _ (fun j h1 h2 => h j (by omega) (by omega))]
    by_cases c : zu_bit s i
    · rw [if_pos c, if_pos c, if_pos (e.mp c), if_pos (e.mp c)]
    · rw [if_neg c, if_neg c, if_neg (fun q => c (e.mpr q)), if_neg (fun q => c (e.mpr q))]
theorem zv_sub_last {J T : Nat → Int32} {o : Int32} {s : Nat} : ∀ (m i : Nat) (f : Nat → Int32) (w : Int64), zu_sub J T o s (m + 1) i f w = (zs_dF J T (if zu_bit s (i + m) then 1 else 0) (zu_sub J T o s m i f w).1, (zu_sub J T o s m i f w).2 * (if zu_bit s (i + m) then 1 else (o - 1).toInt64))
  | 0, i, f, w => rfl
  | m + 1, i, f, w => by
    show zu_sub J T o s (m + 1) (i + 1) _ _ = _
    rw [zv_sub_last m (i + 1), show i + 1 + m = i + (m + 1) by omega]
    rfl
abbrev zv_U (J T : Nat → Int32) (o : Int32) (f : Nat → Int32) (k s : Nat) : (Nat → Int32) × Int64 := zu_sub J T o s k 0 f 1
theorem zv_U_low {J T : Nat → Int32} {o : Int32} {f : Nat → Int32} {k s : Nat} (hk : k < 7) (hs : s < 2 ^ k) : zv_U J T o f (k + 1) s = (zs_ride J T (zv_U J T o f k s).1, (zv_U J T o f k s).2 * (o - 1).toInt64) := by
  have h2 := (zs_2k (k := k) (by omega)).2
  have b : ¬ zu_bit s k := fun q => by
    have q := (zv_bit ⟨s, by omega⟩ ⟨k, by omega⟩).mp q
    have q : s.testBit k = true := q
    rw [Nat.testBit_lt_two_pow hs] at q
    cases q
  rw [zv_U, zv_sub_last, Nat.zero_add, if_neg b, if_neg b, zs_dF0]
theorem zv_U_high {J T : Nat → Int32} {o : Int32} {f : Nat → Int32} {k s : Nat} (hk : k < 7) (hs : s < 2 ^ k) : zv_U J T o f (k + 1) (2 ^ k + s) = (zs_wear (zv_U J T o f k s).1, (zv_U J T o f k s).2) := by
  have h2 := (zs_2k (k := k) (by omega)).2
  have b : zu_bit (2 ^ k + s) k := (zv_bit ⟨2 ^ k + s, by omega⟩ ⟨k, by omega⟩).mpr (by
    show (2 ^ k + s).testBit k = true
    rw [Nat.testBit_two_pow_add_eq, Nat.testBit_lt_two_pow hs]; rfl)
  have e : zu_sub J T o (2 ^ k + s) k 0 f 1 = zu_sub J T o s k 0 f 1 := zv_sub_cg k 0 f 1 (fun j _ hj => by
    have e1 := zv_bit ⟨2 ^ k + s, by omega⟩ ⟨j, by omega⟩
    have e2 := zv_bit ⟨s, by omega⟩ ⟨j, by omega⟩
    rw [e1, e2]
    show (2 ^ k + s).testBit j = true ↔ s.testBit j = true
    rw [Nat.testBit_two_pow_add_gt (by omega)])
  rw [zv_U, zv_sub_last, Nat.zero_add, if_pos b, if_pos b, zs_dF1, e, Int64.mul_one]
theorem zv_U_eq {J T : Nat → Int32} {o : Int32} {f : Nat → Int32} (hf : zs_p (f 4)) : ∀ (k s : Nat), k ≤ 7 → s < 2 ^ k → ∃ i, i < 8 ∧ (zv_U J T o f k s).1 = va_up (zv_W f k) 4 (nI i)
  | 0, s, _, _ => by
    obtain ⟨i, hi, e⟩ := zs_p_of hf
    exact ⟨i, hi, by rw [← e]; exact zs_up_self.symm⟩
  | k + 1, s, hk, hs => by
    by_cases c : s < 2 ^ k
    · obtain ⟨i, hi, e⟩ := zv_U_eq hf k s (by omega) c
      rw [zv_U_low (by omega) c, e]
      show ∃ i, _ ∧ zs_ride J T _ = _
      rw [zv_ride4]
      obtain ⟨j, hj, e2⟩ := zs_p_of (zs_nxp_p (J := J) (T := T) (f := zs_wear (zv_W f k)) hi)
      exact ⟨j, hj, by rw [e2]; rfl⟩
    · obtain ⟨s', rfl⟩ : ∃ s', s = 2 ^ k + s' := ⟨s - 2 ^ k, by omega⟩
      have hs' : s' < 2 ^ k := by rw [Nat.pow_succ] at hs; omega
      obtain ⟨i, hi, e⟩ := zv_U_eq hf k s' (by omega) hs'
      rw [zv_U_high (by omega) hs', e]
      show ∃ i, _ ∧ zs_wear _ = _
      rw [zv_wear4]
      exact ⟨i, hi, rfl⟩
/-! the sum and the chances -/
abbrev zv_t (J T : Nat → Int32) (o : Int32) (f : Nat → Int32) (k : Nat) (y : Int32) (s : Nat) : Int64 := if (zv_U J T o f k s).1 4 = y then (zv_U J T o f k s).2 else 0
theorem zv_mud_sum {J T : Nat → Int32} {o pl : Int32} {k : Nat} {f : Nat → Int32} : zu_mud J T o pl k f = zv_sum (zv_t J T o f k pl) (2 ^ k) := zv_sum_for _
theorem zv_swap {P : Nat → Int32} {w : Nat → Int64} {d : Int64} {y : Int32} {nx : Nat → Int32} {Y : Nat → Int32} : ∀ m, (∀ s, s < m → ∃ i, i < 8 ∧ P s = nI i ∧ Y s = nx i) → zv_sum (fun s => if Y s = y then w s * d else 0) m = zv_sum (fun i => if nx i = y then zv_sum (fun s => if P s = nI i then w s else 0) m * d else 0) 8
  | 0, _ => by
    show (0 : Int64) = _
    rw [zv_sum_cg (u := fun s => if s = 9 then 0 else 0) 8 (fun s _ => by
      show (if nx s = y then (0 : Int64) * d else 0) = _
      rw [Int64.zero_mul]; split <;> split <;> rfl), zv_sum_one]
    rfl
  | m + 1, h => by
    obtain ⟨i, hi, e1, e2⟩ := h m (by omega)
    show zv_sum (fun s => if Y s = y then w s * d else 0) m + (if Y m = y then w m * d else 0) = _
    rw [zv_swap m (fun s hs => h s (by omega))]
    have e3 : (if Y m = y then w m * d else 0) = zv_sum (fun s => if s = i then (if nx i = y then w m * d else 0) else 0) 8 := by
      rw [zv_sum_one, if_pos hi, e2]
    rw [e3, ← zv_sum_add]
    refine zv_sum_cg 8 (fun s hs => ?_)
    show (if nx s = y then zv_sum (fun s' => if P s' = nI s then w s' else 0) m * d else 0) + (if s = i then (if nx i = y then w m * d else 0) else 0) = if nx s = y then (zv_sum (fun s' => if P s' = nI s then w s' else 0) m + (if P m = nI s then w m else 0)) * d else 0
    by_cases c : s = i
    · subst c
      rw [if_pos rfl, e1, if_pos rfl]
      by_cases q : nx s = y
      · rw [if_pos q, if_pos q, if_pos q, Int64.add_mul]
      · rw [if_neg q, if_neg q, if_neg q, Int64.add_zero]
    · rw [if_neg c, Int64.add_zero, e1, if_neg (fun q => c (zs_nI_inj (by omega) (by omega) q).symm), Int64.add_zero]
theorem zv_S_step {J T : Nat → Int32} {o : Int32} {f : Nat → Int32} (hf : zs_p (f 4)) {k : Nat} (hk : k < 7) {y : Int32} : zv_sum (zv_t J T o f (k + 1) y) (2 ^ (k + 1)) = zv_sum (fun i => if zs_nxp J T (zv_W f (k + 1)) i = y then zv_sum (zv_t J T o f k (nI i)) (2 ^ k) * (o - 1).toInt64 else 0) 8 + zv_sum (zv_t J T o f k y) (2 ^ k) := by
  rw [show 2 ^ (k + 1) = 2 ^ k + 2 ^ k by rw [Nat.pow_succ]; omega, zv_sum_app]
  congr 1
  · rw [zv_sum_cg (u := fun s => if (zv_U J T o f (k + 1) s).1 4 = y then (zv_U J T o f k s).2 * (o - 1).toInt64 else 0) (2 ^ k) (fun s hs => by
      show (if (zv_U J T o f (k + 1) s).1 4 = y then (zv_U J T o f (k + 1) s).2 else 0) = _
      rw [show (zv_U J T o f (k + 1) s).2 = (zv_U J T o f k s).2 * (o - 1).toInt64 by rw [zv_U_low hk hs]])]
    refine zv_swap (P := fun s => (zv_U J T o f k s).1 4) (w := fun s => (zv_U J T o f k s).2) (nx := zs_nxp J T (zv_W f (k + 1))) (2 ^ k) (fun s hs => ?_)
    obtain ⟨i, hi, e⟩ := zv_U_eq hf k s (by omega) hs
    refine ⟨i, hi, by rw [e, zk_up_eq], ?_⟩
    rw [zv_U_low hk hs]
    show zs_ride J T _ 4 = _
    rw [e, zv_ride4, zk_up_eq]
    rfl
  · refine zv_sum_cg _ (fun s hs => ?_)
    show (if (zv_U J T o f (k + 1) (2 ^ k + s)).1 4 = y then (zv_U J T o f (k + 1) (2 ^ k + s)).2 else 0) = if (zv_U J T o f k s).1 4 = y then (zv_U J T o f k s).2 else 0
    rw [zv_U_high hk hs]
    show (if zs_wear _ 4 = y then _ else _) = _
    rw [zs_wear_ne (by decide) (by decide)]
theorem zv_sp_sum {J T g : Nat → Int32} {o : Int32} {C : Nat → Int64} {c : Nat} (hc : c < 8) : ∀ m, m ≤ 8 → zs_for (zs_spf J T g o C) m 0 C c = zv_sum (fun i => if zs_nxp J T g i = nI c then C i * (o - 1).toInt64 else 0) m + C c
  | 0, _ => by show C c = 0 + C c; rw [Int64.zero_add]
  | m + 1, hm => by
    rw [zv_last, Nat.zero_add]
    show va_up _ _ _ c = zv_sum _ m + (if zs_nxp J T g m = nI c then C m * (o - 1).toInt64 else 0) + C c
    have hp := zs_nxp_p (J := J) (T := T) (f := g) (i := m) (by omega)
    obtain ⟨j, hj, e⟩ := zs_p_of hp
    rw [e, nI_clamp (by omega)]
    by_cases q : c = j
    · subst q
      rw [if_pos rfl, zk_up_eq, zv_sp_sum hc m (by omega), Int64.add_assoc, Int64.add_assoc, Int64.add_comm (C c)]
    · rw [if_neg (fun w => q (zs_nI_inj (by omega) (by omega) w).symm), zk_up_ne q, zv_sp_sum hc m (by omega), Int64.add_zero]
theorem zv_mdl_last {J T : Nat → Int32} {o : Int32} : ∀ (m : Nat) (f : Nat → Int32) (C : Nat → Int64) (x : Int64), zs_mdl J T o (m + 1) f C x = (zs_sp J T (zv_W f (m + 1)) o (zs_mdl J T o m f C x).1, (zs_mdl J T o m f C x).2 * o.toInt64)
  | 0, _, _, _ => rfl
  | m + 1, f, C, x => by
    show zs_mdl J T o (m + 1) (zs_wear f) _ _ = _
    rw [zv_mdl_last m, zv_W_s]
    rfl
theorem zv_mud_eq {J T : Nat → Int32} {o : Int32} {f : Nat → Int32} (hf : zs_p (f 4)) : ∀ (k : Nat), k ≤ 7 → ∀ c, c < 8 → (zs_mdl J T o k f (zs_c0 (f 4)) 1).1 c = zv_sum (zv_t J T o f k (nI c)) (2 ^ k)
  | 0, _, c, hc => by
    show (if nI c = f 4 then (1 : Int64) else 0) = 0 + (if f 4 = nI c then (1 : Int64) else 0)
    rw [Int64.zero_add]
    by_cases q : nI c = f 4
    · rw [if_pos q, if_pos q.symm]
    · rw [if_neg q, if_neg (fun w => q w.symm)]
  | k + 1, hk, c, hc => by
    rw [zv_mdl_last, zv_S_step hf (by omega)]
    show zs_for (zs_spf J T (zv_W f (k + 1)) o (zs_mdl J T o k f (zs_c0 (f 4)) 1).1) 8 0 (zs_mdl J T o k f (zs_c0 (f 4)) 1).1 c = _
    rw [zv_sp_sum hc 8 (by decide), zv_mud_eq hf k (by omega) c hc]
    refine congrArg (fun z => z + zv_sum (zv_t J T o f k (nI c)) (2 ^ k)) (zv_sum_cg 8 (fun i hi => ?_))
    have e := zv_mud_eq (J := J) (T := T) (o := o) hf k (by omega) i hi
    rw [e]
theorem zv_mdl_pow {J T : Nat → Int32} {o : Int32} {f : Nat → Int32} {C : Nat → Int64} : ∀ k, (zs_mdl J T o k f C 1).2 = zu_pow o k
  | 0 => rfl
  | k + 1 => by rw [zv_mdl_last, zu_pow, zv_last]; show _ * _ = _; rw [zv_mdl_pow k]; rfl
/-! the chances are small -/
def zv_ns (t : Nat → Nat) : Nat → Nat
  | 0 => 0
  | n + 1 => zv_ns t n + t n
theorem zv_ns_up {t : Nat → Nat} {j v : Nat} : ∀ n, zv_ns (va_up t j (t j + v)) n = zv_ns t n + (if j < n then v else 0)
  | 0 => rfl
  | n + 1 => by
    show zv_ns (va_up t j (t j + v)) n + va_up t j (t j + v) n = zv_ns t n + t n + _
    rw [zv_ns_up n]
    by_cases c : n = j
    · subst c; rw [zk_up_eq, if_neg (by omega), if_pos (by omega)]; omega
    · rw [zk_up_ne c]
      by_cases d : j < n
      · rw [if_pos d, if_pos (by omega)]; omega
      · rw [if_neg d, if_neg (by omega)]; omega
theorem zv_ns_le {t : Nat → Nat} : ∀ n i, i < n → t i ≤ zv_ns t n
  | n + 1, i, h => by
    show _ ≤ zv_ns t n + t n
    by_cases c : i = n
    · subst c; omega
    · have := zv_ns_le (t := t) n i (by omega); omega
theorem zv_ns_mul {t : Nat → Nat} {d : Nat} : ∀ n, zv_ns (fun i => t i * d) n = zv_ns t n * d
  | 0 => (Nat.zero_mul d).symm
  | n + 1 => by show zv_ns (fun i => t i * d) n + t n * d = (zv_ns t n + t n) * d; rw [zv_ns_mul n, Nat.add_mul]
theorem zv_sp_nat {J T g : Nat → Int32} {t : Nat} (ht : 2 ≤ t ∧ t ≤ 20) {C : Nat → Int64} {N : Nat → Nat} (hC : ∀ c, c < 8 → C c = lN (N c)) : ∃ N', (∀ c, c < 8 → zs_sp J T g (nI t) C c = lN (N' c)) ∧ zv_ns N' 8 = zv_ns N 8 * t := by
  have hd : (nI t - 1).toInt64 = lN (t - 1) := by
    have e : nI t - 1 = nI (t - 1) := by rw [show t = (t - 1) + 1 by omega]; exact nI_pred _
    rw [e, nI_l (by omega)]
  have := zs_for_rel (f := zs_spf J T g (nI t) C) (g := fun i D => va_up D (zs_nxp J T g i).toNatClampNeg (D (zs_nxp J T g i).toNatClampNeg + N i * (t - 1))) (fun j (D : Nat → Int64) (D' : Nat → Nat) => (∀ c, c < 8 → D c = lN (D' c)) ∧ zv_ns D' 8 = zv_ns N 8 + zv_ns (fun i => N i * (t - 1)) j) 8 0 C N (fun j D D' _ hj q => by
    have hp := zs_nxp_p (J := J) (T := T) (f := g) (i := j) (by omega)
    have h8 := zs_p_tn hp
    refine ⟨fun c hc => ?_, ?_⟩
    · unfold zs_spf
      by_cases e : c = (zs_nxp J T g j).toNatClampNeg
      · subst e
        show va_up _ _ _ _ = lN (va_up _ _ _ _)
        rw [zk_up_eq, zk_up_eq, q.1 _ h8, hC j (by omega), hd]
        show Int64.ofNat _ + Int64.ofNat _ * Int64.ofNat _ = Int64.ofNat _
        rw [← Int64.ofNat_mul, ← Int64.ofNat_add]
      · show va_up _ _ _ _ = lN (va_up _ _ _ _)
        rw [zk_up_ne e, zk_up_ne e]; exact q.1 c hc
    · show zv_ns (va_up D' _ _) 8 = _
      rw [zv_ns_up, if_pos h8, q.2]
      show _ = zv_ns N 8 + (zv_ns (fun i => N i * (t - 1)) j + N j * (t - 1))
      omega) ⟨hC, rfl⟩
  refine ⟨_, this.1, this.2.trans ?_⟩
  show zv_ns N 8 + zv_ns (fun i => N i * (t - 1)) 8 = _
  rw [zv_ns_mul]
  have e : t = (t - 1) + 1 := by omega
  calc zv_ns N 8 + zv_ns N 8 * (t - 1) = zv_ns N 8 * ((t - 1) + 1) := by rw [Nat.mul_add, Nat.mul_one]; omega
    _ = zv_ns N 8 * t := by rw [← e]
theorem zv_c0_sum : ∀ i : Fin 8, zv_ns (fun c => if nI c = nI i.1 then 1 else 0) 8 = 1 := by decide +kernel
theorem zv_mud_nat {J T : Nat → Int32} {t : Nat} (ht : 2 ≤ t ∧ t ≤ 20) {f : Nat → Int32} (hf : zs_p (f 4)) : ∀ k, ∃ N, (∀ c, c < 8 → (zs_mdl J T (nI t) k f (zs_c0 (f 4)) 1).1 c = lN (N c)) ∧ zv_ns N 8 = t ^ k
  | 0 => by
    obtain ⟨i, hi, e⟩ := zs_p_of hf
    refine ⟨fun c => if nI c = nI i then 1 else 0, fun c hc => ?_, zv_c0_sum ⟨i, hi⟩⟩
    show (if nI c = f 4 then (1 : Int64) else 0) = lN (if nI c = nI i then 1 else 0)
    rw [e]
    split <;> rfl
  | k + 1 => by
    obtain ⟨N, h1, h2⟩ := zv_mud_nat ht hf k
    rw [zv_mdl_last]
    obtain ⟨N', h3, h4⟩ := zv_sp_nat (J := J) (T := T) (g := zv_W f (k + 1)) ht h1
    exact ⟨N', h3, by rw [h4, h2, Nat.pow_succ]⟩
theorem zv_pow_nat {t : Nat} (ht : t ≤ 20) : ∀ k, zu_pow (nI t) k = lN (t ^ k)
  | 0 => rfl
  | k + 1 => by
    rw [zu_pow, zv_last]
    show zu_pow (nI t) k * (nI t).toInt64 = _
    rw [zv_pow_nat ht k, nI_l (by omega), Nat.pow_succ]
    exact (Int64.ofNat_mul _ _).symm
theorem e_mud {M : zk_M} {a : Nat → Int32} {n : Nat} (h : zr1 M a n) {p : Nat} (hp : p < 6) {x : Int32} (hx : zs_p x) {k : Nat} (hk : k ≤ 7) {o y : Int32} (h2 : ¬ o < 2) (h4 : ¬ 20 < o) (hy : 0 ≤ y ∧ y < 2) :
    zs_frac ((zs_mdl (M 3) (M 4) o k (M (6 + p)) (zs_c0 (M (6 + p) 4)) 1).1 x.toNatClampNeg) (zs_mdl (M 3) (M 4) o k (M (6 + p)) (zs_c0 (M (6 + p) 4)) 1).2 y = zu_part (zu_mud (zs_J a) (zs_FW (zs_J a)) o x k (zs_get a p)) (zu_pow o k) y ∧ 0 ≤ (zu_mud (zs_J a) (zs_FW (zs_J a)) o x k (zs_get a p)).toInt ∧ 0 ≤ (zu_pow o k).toInt := by
  obtain ⟨c, hc, rfl⟩ := zs_p_of hx
  obtain ⟨t, ht, rfl⟩ : ∃ t, (2 ≤ t ∧ t ≤ 20) ∧ o = nI t := by
    have e2 : (2 : Int32).toInt = 2 := rfl
    have e20 : (20 : Int32).toInt = 20 := rfl
    rw [Int32.lt_iff_toInt_lt] at h2 h4
    obtain ⟨t, ht, e⟩ := vp_in_of (x := o) (n := 21) (vp_in_iff.mpr ⟨by omega, by omega⟩) (by decide)
    subst e
    rw [nI_toInt (by omega)] at h2
    exact ⟨t, ⟨by omega, by omega⟩, rfl⟩
  have hf : zs_p (zs_get a p 4) := (h.1.2.2 p hp).1.2.2
  have em : ∀ (m : Nat) (f g : Nat → Int32) (C D : Nat → Int64) (x : Int64), zs_ag 7 f g → zs_ok f → zs_agl 8 C D → zs_agl 8 (zs_mdl (M 3) (M 4) (nI t) m f C x).1 (zs_mdl (zs_J a) (zs_FW (zs_J a)) (nI t) m g D x).1 := by
    intro m
    induction m with
    | zero => intro f g C D x _ _ hC; exact hC
    | succ m ih =>
      intro f g C D x e ok hC
      exact ih _ _ _ _ _ (zs_wear_ag e) (zs_wear_ok ok) (zs_sp_ag h.J h.T (zs_wear_ag e) (zs_wear_ok ok) hC hC)
  have e1 := em k (M (6 + p)) (zs_get a p) (zs_c0 (M (6 + p) 4)) (zs_c0 (zs_get a p 4)) 1 (h.F hp) (h.ok hp) (fun i _ => by rw [h.F hp 4 (by decide)]) c hc
  rw [nI_clamp (by omega), e1, zv_mud_eq hf k hk c hc, ← zv_mud_sum, zv_mdl_pow]
  obtain ⟨N, n1, n2⟩ := zv_mud_nat (J := zs_J a) (T := zs_FW (zs_J a)) ht hf k
  have hN : N c ≤ t ^ k := by rw [← n2]; exact zv_ns_le 8 c hc
  have hb : t ^ k ≤ 1280000000 := Nat.le_trans (Nat.pow_le_pow_left ht.2 k) (Nat.le_trans (Nat.pow_le_pow_right (by decide) hk) (by decide))
  have hpos : 0 < t ^ k := Nat.pow_pos (by omega)
  have m1 : zu_mud (zs_J a) (zs_FW (zs_J a)) (nI t) (nI c) k (zs_get a p) = lN (N c) := by rw [zv_mud_sum, ← zv_mud_eq hf k hk c hc, n1 c hc]
  have i1 : (lN (N c)).toInt = (N c : Int) := Int64.toInt_ofNat_of_lt (by omega)
  have i2 : (lN (t ^ k)).toInt = ((t ^ k : Nat) : Int) := Int64.toInt_ofNat_of_lt (by omega)
  rw [m1, zv_pow_nat ht.2 k]
  refine ⟨zv_part ?_ ?_ ?_ hy, ?_, ?_⟩
  · rw [i1]; omega
  · rw [i2]; omega
  · right; rw [i2]; omega
  · rw [i1]; omega
  · rw [i2]; omega
