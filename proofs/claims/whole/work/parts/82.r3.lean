/-! bits counted -/
theorem zv_bcN : ∀ k : Fin 256, zs_bc (nI k.1) = zs_bits (nI k.1) := by decide +kernel
theorem zv_bc0 : ∀ k : Fin 256, ¬ zs_bits (nI k.1) < 0 := by decide +kernel
theorem zv_nIof {x : Int32} (h : 0 ≤ x ∧ x < 256) : ∃ k, k < 256 ∧ x = nI k := vp_in_of (n := 256) (vp_in_iff.mpr ⟨by simpa [Int32.le_iff_toInt_le] using h.1, by simpa [Int32.lt_iff_toInt_lt] using h.2⟩) (by decide)
theorem zv_bc {x : Int32} (h : 0 ≤ x ∧ x < 256) : zs_bc x = zs_bits x := by
  obtain ⟨k, hk, rfl⟩ := zv_nIof h
  exact zv_bcN ⟨k, hk⟩
theorem zv_bcp {x : Int32} (h : 0 ≤ x ∧ x < 256) : ¬ zs_bits x < 0 := by
  obtain ⟨k, hk, rfl⟩ := zv_nIof h
  exact zv_bc0 ⟨k, hk⟩
theorem zv_256N {k : Nat} (h : k < 256) : 0 ≤ nI k ∧ nI k < 256 := ⟨nI_pos' (by omega), nI_lt (b := 256) h (by decide)⟩
/-! inn -/
def zv_at (c : Nat) (b : Int32) (G : Nat → Int32) : Nat → Int32 := va_up G c (G c ||| b)
theorem zv_at_comm {c c' : Nat} {b b' : Int32} {G : Nat → Int32} : zv_at c b (zv_at c' b' G) = zv_at c' b' (zv_at c b G) := by
  funext i
  simp only [zv_at, va_up]
  by_cases h1 : i = c
  · by_cases h2 : i = c'
    · subst h1; subst h2; simp only [if_true]; rw [Int32.or_assoc, Int32.or_comm b' b, ← Int32.or_assoc]
    · subst h1; simp [h2]
  · by_cases h2 : i = c'
    · subst h2; simp [h1]
    · simp [h1, h2]
theorem zv_ig_at {F : Nat → Nat → Int32} {c : Nat} {b : Int32} : ∀ (n i : Nat) (G : Nat → Int32), zs_for (zu_ig F) n i (zv_at c b G) = zv_at c b (zs_for (zu_ig F) n i G)
  | 0, _, _ => rfl
  | n + 1, i, G => by
    show zs_for (zu_ig F) n (i + 1) (zv_at (F i 4).toNatClampNeg (1 <<< (nI i &&& 31)) (zv_at c b G)) = zv_at c b (zs_for (zu_ig F) n (i + 1) (zv_at (F i 4).toNatClampNeg (1 <<< (nI i &&& 31)) G))
    rw [zv_at_comm, zv_ig_at n (i + 1)]
theorem zv_ind_at {J T : Nat → Int32} {n c : Nat} {b : Int32} : ∀ (m : Nat) (F : Nat → Nat → Int32) (G : Nat → Int32), zu_ind J T n m F (zv_at c b G) = zv_at c b (zu_ind J T n m F G)
  | 0, _, _ => rfl
  | m + 1, F, G => by
    unfold zu_ind
    rw [zv_ig_at, zv_ind_at m]
theorem zv_ind_0 {J T : Nat → Int32} : ∀ (m : Nat) (F : Nat → Nat → Int32) (G : Nat → Int32), zu_ind J T 0 m F G = G
  | 0, _, _ => rfl
  | m + 1, F, G => zv_ind_0 m _ G
theorem zv_ind_s {J T : Nat → Int32} {n : Nat} : ∀ (m : Nat) (F : Nat → Nat → Int32) (G : Nat → Int32), zu_ind J T (n + 1) m F G = zs_gd J T n m (F n) (zu_ind J T n m F G)
  | 0, _, _ => rfl
  | m + 1, F, G => by
    have e : zs_for (zu_ig F) (n + 1) 0 G = zv_at (F n 4).toNatClampNeg (1 <<< (nI n &&& 31)) (zs_for (zu_ig F) n 0 G) := by rw [zv_last, Nat.zero_add]; rfl
    show zu_ind J T (n + 1) m (fun p => zs_ride J T (F p)) (zs_for (zu_ig F) (n + 1) 0 G) = zs_gd J T n m (zs_ride J T (F n)) (zv_at (F n 4).toNatClampNeg (1 <<< (nI n &&& 31)) (zu_ind J T n m (fun p => zs_ride J T (F p)) (zs_for (zu_ig F) n 0 G)))
    rw [zv_ind_s m, e, zv_ind_at]
theorem e_gst {M : zk_M} {a : Nat → Int32} {n : Nat} (h : zr1 M a n) {t : Nat} : ∀ k, k ≤ 6 → zs_for (zs_gs M t) k 0 (fun _ => 0) = zu_ind (zs_J a) (zs_FW (zs_J a)) k (t + 1) (fun p => zs_get a p) (fun _ => 0)
  | 0, _ => (zv_ind_0 _ _ _).symm
  | k + 1, hk => by
    rw [zv_last, Nat.zero_add, e_gst h k (by omega), zv_ind_s]
    exact zs_gd_ag h.J h.T (t + 1) _ _ _ (h.F (by omega)) (h.ok (by omega))
theorem zv_ind_lo {J T : Nat → Int32} {n : Nat} (hn : n ≤ 6) : ∀ (m : Nat) (F : Nat → Nat → Int32) (G : Nat → Int32), (∀ c, ∃ k, k < 256 ∧ G c = nI k) → ∀ c, ∃ k, k < 256 ∧ zu_ind J T n m F G c = nI k
  | 0, _, _, h => h
  | m + 1, F, G, h => by
    unfold zu_ind
    refine zv_ind_lo hn m _ _ ?_
    exact zs_for_rel (f := zu_ig F) (g := fun _ t => t) (fun _ G (_ : Unit) => ∀ c, ∃ k, k < 256 ∧ G c = nI k) n 0 G () (fun j G _ _ hj q c => by
      show ∃ k, k < 256 ∧ va_up G (F j 4).toNatClampNeg (G (F j 4).toNatClampNeg ||| 1 <<< (nI j &&& 31)) c = nI k
      by_cases e : c = (F j 4).toNatClampNeg
      · subst e
        rw [zk_up_eq]
        obtain ⟨k, hk, e⟩ := q (F j 4).toNatClampNeg
        rw [e, (zs_2k (k := j) (by omega)).1, zv_orN]
        exact ⟨_, Nat.or_lt_two_pow (n := 8) hk (by have := (zs_2k (k := j) (by omega)).2; omega), rfl⟩
      · rw [zk_up_ne e]; exact q c) h
theorem zv_inf {G : Nat → Int32} (hG : ∀ c, 0 ≤ G c ∧ G c < 256) : zs_for (zs_inf G) 8 0 (0, 0) = (zs_for (zu_busf G) 8 0 0, zs_bits (G (zs_for (zu_busf G) 8 0 0).toNatClampNeg)) := by
  have e0 : zs_inf G 0 (0, 0) = (0, zs_bits (G 0)) := by
    unfold zs_inf
    rw [zv_bc (hG 0)]
    split
    · rfl
    · next c =>
      have := zv_bcp (hG 0)
      have c' : ¬ 0 < zs_bits (G 0) := c
      have : zs_bits (G 0) = 0 := by
        rw [Int32.lt_iff_toInt_lt] at this c'
        have z : (0 : Int32).toInt = 0 := rfl
        exact Int32.toInt_inj.mp (by omega)
      rw [this]
  have e1 : zu_busf G 0 0 = 0 := by
    unfold zu_busf
    rw [if_neg]
    exact Int32.lt_irrefl
  show zs_for (zs_inf G) 7 1 (zs_inf G 0 (0, 0)) = (zs_for (zu_busf G) 7 1 (zu_busf G 0 0), zs_bits (G (zs_for (zu_busf G) 7 1 (zu_busf G 0 0)).toNatClampNeg))
  rw [e0, e1]
  refine zs_for_rel (fun _ (s : Int32 × Int32) (t : Int32) => s = (t, zs_bits (G t.toNatClampNeg))) 7 1 _ _ (fun j s t _ hj q => ?_) rfl
  subst q
  unfold zs_inf zu_busf
  rw [zv_bc (hG j)]
  split
  · rw [nI_clamp (by omega)]
  · rfl
theorem e_inn {M : zk_M} {a : Nat → Int32} {n : Nat} (h : zr1 M a n) {t : Nat} {x : Int32} : zs_pk (zs_for (zs_inf (zs_gst M n t)) 8 0 (0, 0)) x = zu_inv (zu_ind (zs_J a) (zs_FW (zs_J a)) n (t + 1) (fun p => zs_get a p) (fun _ => 0)) x := by
  rw [zs_gst, e_gst h n h.1.1, zv_inf (fun c => by
    obtain ⟨k, hk, e⟩ := zv_ind_lo (J := zs_J a) (T := zs_FW (zs_J a)) h.1.1 (t + 1) (fun p => zs_get a p) (fun _ => 0) (fun _ => ⟨0, by decide, rfl⟩) c
    rw [e]; exact zv_256N hk)]
  rfl
/-! busiest -/
theorem e_busiest {M : zk_M} {a : Nat → Int32} {n : Nat} (h : zr1 M a n) : zs_for (zs_busf (M 3)) 7 1 0 = zs_for (zu_busf (zs_J a)) 8 0 0 := by
  have e1 : zu_busf (zs_J a) 0 0 = 0 := by
    unfold zu_busf
    rw [if_neg]
    exact Int32.lt_irrefl
  show _ = zs_for (zu_busf (zs_J a)) 7 1 (zu_busf (zs_J a) 0 0)
  rw [e1]
  refine (zs_for_rel (fun _ (s t : Int32) => s = t ∧ zs_p s) 7 1 _ _ (fun j s t _ hj q => ?_) ⟨rfl, by decide⟩).1
  obtain ⟨rfl, q⟩ := q
  unfold zs_busf zu_busf
  rw [h.J j (by omega), h.J _ (zs_p_tn q), zv_bc (h.B (i := j) (by omega)), zv_bc (h.B (zs_p_tn q))]
  refine ⟨rfl, ?_⟩
  split
  · exact zs_p_nI (by omega)
  · exact q
/-! apart -/
theorem zv_min_le {x y : Int32} (h : x ≤ 9) : zs_min x y ≤ 9 := by
  unfold zs_min
  split
  · next c => exact Int32.le_trans (Int32.le_of_lt c) h
  · exact h
theorem zv_fw9 (J T : Nat → Int32) : ∀ i, i < 64 → zs_fw J T i ≤ 9 := by
  have h1 : ∀ i, i < 64 → zs_fw1 J T i ≤ 9 := by
    have := zs_for_rel (f := fun a T => zs_for (fun b T => va_up T (a * 8 + b) (zs_d0 J a b)) 8 0 T) (g := fun _ t => t) (fun j T (_ : Unit) => ∀ i, i < 8 * j → T i ≤ 9) 8 0 T () (fun a T _ _ ha q => by
      have := zs_for_rel (f := fun b T => va_up T (a * 8 + b) (zs_d0 J a b)) (g := fun _ t => t) (fun j T (_ : Unit) => ∀ i, i < 8 * a + j → T i ≤ 9) 8 0 T () (fun b T _ _ hb q i hi => by
        by_cases e : i = a * 8 + b
        · subst e
          show va_up T (a * 8 + b) (zs_d0 J a b) (a * 8 + b) ≤ 9
          rw [zk_up_eq]
          unfold zs_d0
          split
          · decide
          · split <;> decide
        · show va_up T (a * 8 + b) (zs_d0 J a b) i ≤ 9
          rw [zk_up_ne e]; exact q i (by omega)) (fun i hi => q i (by omega))
      intro i hi
      exact this i (by omega)) (fun i hi => absurd hi (by omega))
    intro i hi
    exact this i (by omega)
  show ∀ i, i < 64 → zs_fw2 (zs_fw1 J T) i ≤ 9
  exact zs_for_rel (f := fun k T => zs_for (fun a T => zs_for (fun b T => va_up T (a * 8 + b) (zs_min (T (a * 8 + b)) (T (a * 8 + k) + T (k * 8 + b)))) 8 0 T) 8 0 T) (g := fun _ t => t) (fun _ T (_ : Unit) => ∀ i, i < 64 → T i ≤ 9) 8 0 _ () (fun k T _ _ hk q =>
    zs_for_rel (f := fun a T => zs_for (fun b T => va_up T (a * 8 + b) (zs_min (T (a * 8 + b)) (T (a * 8 + k) + T (k * 8 + b)))) 8 0 T) (g := fun _ t => t) (fun _ T (_ : Unit) => ∀ i, i < 64 → T i ≤ 9) 8 0 T () (fun a T _ _ ha q =>
      zs_for_rel (f := fun b T => va_up T (a * 8 + b) (zs_min (T (a * 8 + b)) (T (a * 8 + k) + T (k * 8 + b)))) (g := fun _ t => t) (fun _ T (_ : Unit) => ∀ i, i < 64 → T i ≤ 9) 8 0 T () (fun b T _ _ hb q i hi => by
        by_cases e : i = a * 8 + b
        · subst e
          rw [zk_up_eq]; exact zv_min_le (q _ hi)
        · rw [zk_up_ne e]; exact q i hi) q) q) h1
theorem e_apart0 {M : zk_M} {a : Nat → Int32} {n : Nat} (h : zr1 M a n) : zs_for (fun i x => if M 4 i = 9 then x else zs_mx x (M 4 i)) 64 0 0 = zs_for (zu_mxf (zs_FW (zs_J a))) 64 0 0 :=
  zs_for_rel (fun _ (s t : Int32) => s = t) 64 0 _ _ (fun j s t _ hj q => by
    subst q
    show (if M 4 j = 9 then s else zs_mx s (M 4 j)) = zu_mxf (zs_FW (zs_J a)) j s
    unfold zu_mxf zs_mx
    rw [h.T j (by omega)]
    have h9 := zv_fw9 (zs_J a) (fun _ => 0) j (by omega)
    have h9' : zs_FW (zs_J a) j ≤ 9 := h9
    by_cases c : zs_FW (zs_J a) j = 9
    · rw [if_pos c, if_neg (fun q => by rw [c] at q; exact absurd q.1 Int32.lt_irrefl)]
    · have lt : zs_FW (zs_J a) j < 9 := by
        rw [Int32.lt_iff_toInt_lt]
        rw [Int32.le_iff_toInt_le] at h9'
        have : ¬ (zs_FW (zs_J a) j).toInt = (9 : Int32).toInt := fun e => c (Int32.toInt_inj.mp e)
        omega
      rw [if_neg c]
      by_cases c2 : s < zs_FW (zs_J a) j
      · rw [if_pos c2, if_pos ⟨lt, c2⟩]
      · rw [if_neg c2, if_neg (fun q => c2 q.2)]) rfl
theorem zv_orif {c : Prop} [Decidable c] {x b : Int32} : (if c then x ||| b else x) = x ||| (if c then b else 0) := by
  split
  · rfl
  · exact (Int32.or_zero).symm
theorem zv_fors {f g : Nat → Int32 → Int32} {n : Nat} (e : ∀ j, j < n → ∀ s, f j s = g j s) : zs_for f n 0 0 = zs_for g n 0 0 := zs_for_rel (fun _ (s t : Int32) => s = t) n 0 _ _ (fun j s t _ hj q => by subst q; exact e j (by omega) s) rfl
theorem e_apart1 {M : zk_M} {a : Nat → Int32} {n : Nat} (h : zr1 M a n) : zs_for (fun i x => if M 4 (0 * 8 + i) = 9 then x ||| 1 <<< (nI i &&& 31) else x) 8 0 0 = zs_for (zu_far (zs_FW (zs_J a))) 8 0 0 := zv_fors (fun j hj s => by
  show (if M 4 (0 * 8 + j) = 9 then s ||| 1 <<< (nI j &&& 31) else s) = zu_far _ j s
  rw [zv_orif, h.T _ (by omega), Nat.zero_mul, Nat.zero_add]; rfl)
theorem e_apart2 {M : zk_M} {a : Nat → Int32} {n : Nat} (h : zr1 M a n) : zs_for (fun i x => if M (6 + i) 2 = M (6 + i) 3 then x ||| 1 <<< (nI i &&& 31) else x) n 0 0 = zs_for (zu_apf 2 (zs_FW (zs_J a)) (fun p => zs_get a p)) n 0 0 := zv_fors (fun j hj s => by
  show (if M (6 + j) 2 = M (6 + j) 3 then s ||| 1 <<< (nI j &&& 31) else s) = s ||| (if zu_apc 2 (zs_FW (zs_J a)) (fun p => zs_get a p) j then 1 <<< (nI j &&& 31) else 0)
  rw [zv_orif]
  have e : zu_apc 2 (zs_FW (zs_J a)) (fun p => zs_get a p) j ↔ M (6 + j) 2 = M (6 + j) 3 := by
    show (if (2 : Int32) = 2 then zs_get a j 2 = zs_get a j 3 else _) ↔ _
    rw [if_pos rfl, h.F (h.lt hj) 2 (by decide), h.F (h.lt hj) 3 (by decide)]
  by_cases c : M (6 + j) 2 = M (6 + j) 3
  · rw [if_pos c, if_pos (e.mpr c)]
  · rw [if_neg c, if_neg (fun q => c (e.mp q))])
theorem e_apart3 {M : zk_M} {a : Nat → Int32} {n : Nat} (h : zr1 M a n) : zs_for (fun i x => if M 4 (M (6 + i) 4 * 8 + M (6 + i) 3).toNatClampNeg = 9 then x ||| 1 <<< (nI i &&& 31) else x) n 0 0 = zs_for (zu_apf 3 (zs_FW (zs_J a)) (fun p => zs_get a p)) n 0 0 := zv_fors (fun j hj s => by
  show (if M 4 (M (6 + j) 4 * 8 + M (6 + j) 3).toNatClampNeg = 9 then s ||| 1 <<< (nI j &&& 31) else s) = s ||| (if zu_apc 3 (zs_FW (zs_J a)) (fun p => zs_get a p) j then 1 <<< (nI j &&& 31) else 0)
  rw [zv_orif]
  have ok := h.ok (h.lt hj)
  have e : zu_apc 3 (zs_FW (zs_J a)) (fun p => zs_get a p) j ↔ M 4 (M (6 + j) 4 * 8 + M (6 + j) 3).toNatClampNeg = 9 := by
    show (if (3 : Int32) = 2 then _ else zs_FW (zs_J a) (zs_get a j 4 * 8 + zs_get a j 3).toNatClampNeg = 9) ↔ _
    rw [if_neg (by decide), h.T _ (zs_p_tn64 ok.2.2 ok.2.1), h.F (h.lt hj) 4 (by decide), h.F (h.lt hj) 3 (by decide)]
  by_cases c : M 4 (M (6 + j) 4 * 8 + M (6 + j) 3).toNatClampNeg = 9
  · rw [if_pos c, if_pos (e.mpr c)]
  · rw [if_neg c, if_neg (fun q => c (e.mp q))])
/-! tired -/
theorem e_tired {M : zk_M} {a : Nat → Int32} {n : Nat} (h : zr1 M a n) : (zs_for (zs_trf M) n 0 (-9, -1)).1 = zs_on (zs_for (zu_trf (fun p => zs_get a p)) n 0 none) := by
  have := zs_for_rel (f := zs_trf M) (g := zu_trf (fun p => zs_get a p)) (fun _ (s : Int32 × Int32) (t : Option Nat) => match t with | none => s = (-9, -1) | some q => q < n ∧ s = (nI q, zs_get a q 6)) n 0 (-9, -1) none (fun j s t _ hj q => by
    have e6 : M (6 + j) 6 = zs_get a j 6 := h.F (h.lt (by omega)) 6 (by decide)
    cases t with
    | none =>
      have q : s = (-9, -1) := q
      subst q
      show j < n ∧ zs_trf M j (-9, -1) = (nI j, zs_get a j 6)
      refine ⟨by omega, ?_⟩
      unfold zs_trf
      have g := (h.G (h.lt (p := j) (by omega))).2.1
      rw [e6, if_pos]
      rw [Int32.le_iff_toInt_le] at g
      rw [Int32.lt_iff_toInt_lt]
      have z : (0 : Int32).toInt = 0 := rfl
      show (-1 : Int32).toInt < _
      have z1 : (-1 : Int32).toInt = -1 := rfl
      omega
    | some i =>
      have q : i < n ∧ s = (nI i, zs_get a i 6) := q
      obtain ⟨hi, rfl⟩ := q
      unfold zs_trf zu_trf
      rw [e6]
      show (match (if zs_get a i 6 < zs_get a j 6 then some j else some i) with | none => _ | some q => q < n ∧ (if zs_get a i 6 < zs_get a j 6 then (nI j, zs_get a j 6) else (nI i, zs_get a i 6)) = (nI q, zs_get a q 6))
      by_cases c : zs_get a i 6 < zs_get a j 6
      · rw [if_pos c, if_pos c]; exact ⟨by omega, rfl⟩
      · rw [if_neg c, if_neg c]; exact ⟨hi, rfl⟩) rfl
  revert this
  cases zs_for (zu_trf (fun p => zs_get a p)) n 0 none with
  | none => intro q; have q : _ = ((-9, -1) : Int32 × Int32) := q; rw [q]; rfl
  | some i => intro q; have q : _ ∧ _ = (nI i, zs_get a i 6) := q; rw [q.2]; rfl
/-! truly -/
theorem zv_tru {J T : Nat → Int32} : ∀ (m day : Nat) (f g : Nat → Int32), (f 0 = g 0 ∧ f 1 = g 1 ∧ f 5 = g 5 ∧ f 6 = g 6) → zs_tru m day f = zu_tru J T m day g
  | 0, _, _, _, _ => rfl
  | m + 1, day, f, g, h => by
    unfold zs_tru zu_tru
    rw [h.2.2.1, zv_tru m (day + 1) (zs_wear f) (zs_ride J T g) ?_]
    have e : ∀ k, k = 0 ∨ k = 1 ∨ k = 5 ∨ k = 6 → zs_wear f k = zs_wear g k := fun k hk => by
      unfold zs_wear
      rw [h.1, h.2.1, h.2.2.1, h.2.2.2]
      rcases hk with rfl | rfl | rfl | rfl <;> split <;> simp [va_up, h.1, h.2.1, h.2.2.1]
    have e' : ∀ k, k ≠ 4 → zs_ride J T g k = zs_wear g k := fun k hk => zk_up_ne hk
    exact ⟨by rw [e' 0 (by decide)]; exact e 0 (by omega), by rw [e' 1 (by decide)]; exact e 1 (by omega), by rw [e' 5 (by decide)]; exact e 5 (by omega), by rw [e' 6 (by decide)]; exact e 6 (by omega)⟩
theorem e_truly {M : zk_M} {a : Nat → Int32} {n : Nat} (h : zr1 M a n) {p : Nat} (hp : p < 6) : zs_tru 100 0 (M (6 + p)) = zu_tru (zs_J a) (zs_FW (zs_J a)) 100 0 (zs_get a p) := zv_tru 100 0 _ _ ⟨h.F hp 0 (by decide), h.F hp 1 (by decide), h.F hp 5 (by decide), h.F hp 6 (by decide)⟩
/-! total, bare, two -/
theorem e_tg {M : zk_M} {a : Nat → Int32} {n : Nat} (h : zr1 M a n) {f g : Nat → Int32} (e : zs_ag 7 f g) (ok : zs_ok f) : zs_tg M f = zu_tg (zs_FW (zs_J a)) g := by
  unfold zs_tg zu_tg
  rw [h.T _ (zs_p_tn64 ok.2.2 ok.2.1), e 4 (by decide), e 3 (by decide)]
theorem e_tgr {M : zk_M} {a : Nat → Int32} {n : Nat} (h : zr1 M a n) {f g : Nat → Int32} {t : Nat} (e : zs_ag 7 f g) (ok : zs_ok f) : zs_tg M (zs_rides (M 3) (M 4) t f) = zu_tg (zs_FW (zs_J a)) (zs_rides (zs_J a) (zs_FW (zs_J a)) t g) := e_tg h (zs_rides_ag h.J h.T t _ _ e ok) (zs_rides_ok t _ ok)
theorem e_total {M : zk_M} {a : Nat → Int32} {n : Nat} (h : zr1 M a n) {t : Nat} : zs_for (zs_twb M (-9) t) n 0 0 = zu_tot (zs_FW (zs_J a)) (fun p => zs_rides (zs_J a) (zs_FW (zs_J a)) t (zs_get a p)) n := zv_fors (fun j hj s => by
  unfold zs_twb zs_bf
  have c : ¬ nI j = -9 := fun e => absurd (e ▸ nI_pos' (n := j) (by have := h.lt hj; omega) : (0 : Int32) ≤ -9) (by decide)
  rw [if_neg c, e_tgr h (h.F (h.lt hj)) (h.ok (h.lt hj))])
theorem e_btot {M : zk_M} {a : Nat → Int32} {n : Nat} (h : zr1 M a n) {t p : Nat} (hp : p < n) : zs_for (zs_twb M (nI p) t) n 0 0 = zu_btot (zs_J a) (zs_FW (zs_J a)) (fun p => zs_get a p) n t p := zv_fors (fun j hj s => by
  show s + zs_tg M (zs_rides (M 3) (M 4) t (if nI j = nI p then va_up (M (6 + j)) 5 0 else M (6 + j))) = s + zu_tg (zs_FW (zs_J a)) (zs_rides (zs_J a) (zs_FW (zs_J a)) t (if j = p then va_up (zs_get a p) 5 0 else zs_get a j))
  by_cases c : j = p
  · subst c
    rw [if_pos rfl, if_pos rfl, e_tgr h (h.F (h.lt hj)).up (zs_ok_up (h.ok (h.lt hj)) (by decide) (by decide) (by decide))]
  · have hj6 := h.lt hj
    have hp6 := h.lt hp
    have c' : ¬ nI j = nI p := fun e => c (zs_nI_inj (by omega) (by omega) e)
    rw [if_neg c, if_neg c', e_tgr h (h.F hj6) (h.ok hj6)])
theorem e_bare {M : zk_M} {a : Nat → Int32} {n : Nat} (h : zr1 M a n) {t : Nat} : zs_for (zs_brf M n t) n 0 (-9, zs_for (zs_twb M (-9) t) n 0 0) = zs_for (zu_brf (zs_J a) (zs_FW (zs_J a)) (fun p => zs_get a p) n t) n 0 (-9, zu_tot (zs_FW (zs_J a)) (fun p => zs_rides (zs_J a) (zs_FW (zs_J a)) t (zs_get a p)) n) := by
  rw [e_total h]
  refine zs_for_rel (fun _ (s t : Int32 × Int32) => s = t) n 0 _ _ (fun j s t _ hj q => ?_) rfl
  subst q
  unfold zs_brf zu_brf
  rw [e_btot h (by omega)]
theorem e_cost {M : zk_M} {a : Nat → Int32} {n : Nat} (h : zr1 M a n) {t p : Nat} (hp : p < 6) {c : Int32} : zs_cost M t p c = zu_cost (zs_J a) (zs_FW (zs_J a)) t (zs_get a p) c := by
  unfold zs_cost zu_cost
  by_cases q : c = 1
  · rw [if_pos q, if_pos q, e_tgr h (zs_shod_ag (h.F hp)) (zs_shod_ok (h.ok hp))]
  · rw [if_neg q, if_neg q, e_tgr h (h.F hp) (h.ok hp)]
theorem e_two {M : zk_M} {a : Nat → Int32} {n : Nat} (h : zr1 M a n) {t p q : Nat} (hp : p < 6) (hq : q < 6) : zs_twoa M t p q 2 0 = zu_two (zs_J a) (zs_FW (zs_J a)) t (zs_get a p) (zs_get a q) 4 0 := by
  have kp : ∀ i, zs_keep M t p i ↔ zu_keep (zs_J a) (zs_FW (zs_J a)) t (zs_get a p) i := fun i => by unfold zs_keep zu_keep; rw [e_cost h hp, e_cost h hp]
  have kq : ∀ i, zs_keep M t q i ↔ zu_keep (zs_J a) (zs_FW (zs_J a)) t (zs_get a q) i := fun i => by unfold zs_keep zu_keep; rw [e_cost h hq, e_cost h hq]
  have kk : ∀ i j, (zs_keep M t p i ∧ zs_keep M t q j) ↔ (zu_keep (zs_J a) (zs_FW (zs_J a)) t (zs_get a p) i ∧ zu_keep (zs_J a) (zs_FW (zs_J a)) t (zs_get a q) j) := fun i j => by rw [kp, kq]
  have s0 : zs_twoa M t p q 2 0 = if zs_keep M t p 0 ∧ zs_keep M t q 0 then 10 * nI 0 + nI 0 else if zs_keep M t p 0 ∧ zs_keep M t q 1 then 10 * nI 0 + nI 1 else if zs_keep M t p 1 ∧ zs_keep M t q 0 then 10 * nI 1 + nI 0 else if zs_keep M t p 1 ∧ zs_keep M t q 1 then 10 * nI 1 + nI 1 else -9 := by
    show (if zs_keep M t p 0 ∧ zs_keep M t q 0 then some (10 * nI 0 + nI 0) else if zs_keep M t p 0 ∧ zs_keep M t q 1 then some (10 * nI 0 + nI 1) else none).getD ((if zs_keep M t p 1 ∧ zs_keep M t q 0 then some (10 * nI 1 + nI 0) else if zs_keep M t p 1 ∧ zs_keep M t q 1 then some (10 * nI 1 + nI 1) else none).getD (-9)) = _
    by_cases c1 : zs_keep M t p 0 ∧ zs_keep M t q 0
    · rw [if_pos c1, if_pos c1]; rfl
    · rw [if_neg c1, if_neg c1]
      by_cases c2 : zs_keep M t p 0 ∧ zs_keep M t q 1
      · rw [if_pos c2, if_pos c2]; rfl
      · rw [if_neg c2, if_neg c2]
        by_cases c3 : zs_keep M t p 1 ∧ zs_keep M t q 0
        · rw [if_pos c3, if_pos c3]; rfl
        · rw [if_neg c3, if_neg c3]
          by_cases c4 : zs_keep M t p 1 ∧ zs_keep M t q 1
          · rw [if_pos c4, if_pos c4]; rfl
          · rw [if_neg c4, if_neg c4]; rfl
  rw [s0]
  show _ = if zu_keep (zs_J a) (zs_FW (zs_J a)) t (zs_get a p) 0 ∧ zu_keep (zs_J a) (zs_FW (zs_J a)) t (zs_get a q) 0 then 10 * nI 0 + nI 0 else if zu_keep (zs_J a) (zs_FW (zs_J a)) t (zs_get a p) 0 ∧ zu_keep (zs_J a) (zs_FW (zs_J a)) t (zs_get a q) 1 then 10 * nI 0 + nI 1 else if zu_keep (zs_J a) (zs_FW (zs_J a)) t (zs_get a p) 1 ∧ zu_keep (zs_J a) (zs_FW (zs_J a)) t (zs_get a q) 0 then 10 * nI 1 + nI 0 else if zu_keep (zs_J a) (zs_FW (zs_J a)) t (zs_get a p) 1 ∧ zu_keep (zs_J a) (zs_FW (zs_J a)) t (zs_get a q) 1 then 10 * nI 1 + nI 1 else -9
  simp only [kk]
