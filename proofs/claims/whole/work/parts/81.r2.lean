/-! equalities of the questions -/
theorem zv_orN (a b : Nat) : nI a ||| nI b = nI (a ||| b) := by
  apply Int32.toBitVec_inj.1
  show BitVec.ofNat 32 a ||| BitVec.ofNat 32 b = BitVec.ofNat 32 (a ||| b)
  apply BitVec.eq_of_getLsbD_eq
  intro i hi
  simp [hi]
theorem zv_xorN (a b : Nat) : nI a ^^^ nI b = nI (a ^^^ b) := by
  apply Int32.toBitVec_inj.1
  show BitVec.ofNat 32 a ^^^ BitVec.ofNat 32 b = BitVec.ofNat 32 (a ^^^ b)
  apply BitVec.eq_of_getLsbD_eq
  intro i hi
  simp [hi]
theorem zv_le60 {x : Int32} (h : x < 61) : ¬ 60 < x := fun q => by
  have h1 := Int32.lt_iff_toInt_lt.mp h
  have h2 := Int32.lt_iff_toInt_lt.mp q
  have e1 : (61 : Int32).toInt = 61 := rfl
  have e2 : (60 : Int32).toInt = 60 := rfl
  omega
theorem zv_last {α : Type} {f : Nat → α → α} : ∀ (n i : Nat) (s : α), zs_for f (n + 1) i s = f (i + n) (zs_for f n i s)
  | 0, _, _ => rfl
  | n + 1, i, s => by
    rw [show zs_for f (n + 1 + 1) i s = zs_for f (n + 1) (i + 1) (f i s) from rfl, zv_last n (i + 1) (f i s), show i + 1 + n = i + (n + 1) by omega]; rfl
theorem zs_ok2 {f : Nat → Int32} {v : Int32} (ok : zs_ok f) (hv : zs_p v) : zs_ok (va_up f 2 v) := ⟨by rw [zk_up_eq]; exact hv, by rw [zk_up_ne (by decide)]; exact ok.2.1, by rw [zk_up_ne (by decide)]; exact ok.2.2⟩
theorem zs_ok4 {f : Nat → Int32} {v : Int32} (ok : zs_ok f) (hv : zs_p v) : zs_ok (va_up f 4 v) := ⟨by rw [zk_up_ne (by decide)]; exact ok.1, by rw [zk_up_ne (by decide)]; exact ok.2.1, by rw [zk_up_eq]; exact hv⟩
theorem zs_riv_ag {f g : Nat → Int32} (h : zs_ag 7 f g) {x : Int32} (hx : zs_b8 x) : zs_riv f x = zs_riv g x := by
  rcases zs_b8_k hx with ⟨k, hk, rfl⟩ | rfl
  · rw [zs_riv_k hk, zs_riv_k hk]; exact h k hk
  · simp [zs_riv, h 0 (by decide), h 1 (by decide)]
theorem e_steps {M : zk_M} {a : Nat → Int32} {n : Nat} (h : zr1 M a n) {x y : Int32} (hx : zs_p x) (hy : zs_p y) : M 4 (x * 8 + y).toNatClampNeg = zs_FW (zs_J a) (x * 8 + y).toNatClampNeg := h.T _ (zs_p_tn64 hx hy)
theorem e_pulls {M : zk_M} {a : Nat → Int32} {n : Nat} (h : zr1 M a n) {p : Nat} (hp : p < 6) {x : Int32} (hx : zs_p x) : zs_pull (M 4) (M (6 + p)) x = zs_pull (zs_FW (zs_J a)) (zs_get a p) x := zs_pull_ag h.T (h.F hp) hx (h.ok hp)
theorem e_near {M : zk_M} {a : Nat → Int32} {n : Nat} (h : zr1 M a n) {x : Int32} (hx : zs_p x) : M 3 x.toNatClampNeg = zs_J a x.toNatClampNeg := h.J _ (zs_p_tn hx)
/-! shoe, wish -/
theorem e_cmf {M : zk_M} {a : Nat → Int32} {n : Nat} (h : zr1 M a n) {p : Nat} (hp : p < 6) {x : Int32} {k : Nat} {v : Int32} (ok : zs_ok (va_up (M (6 + p)) k v)) : zs_cmf M x (va_up (M (6 + p)) k v) = zu_cm (zs_J a) (zs_FW (zs_J a)) x (va_up (zs_get a p) k v) := zs_until_ag h.J h.T 61 0 _ _ (h.F hp).up ok
def zv_iv (s : Int32 × Int32) : Prop := s = (-9, 61) ∨ ∃ v, v < 8 ∧ s.1 = nI v ∧ s.2 < 61
theorem e_she {M : zk_M} {a : Nat → Int32} {n : Nat} (h : zr1 M a n) {p : Nat} (hp : p < 6) {x : Int32} : zs_for (zs_she M x p) 5 0 (-9, 61) = zs_for (zu_she (zs_J a) (zs_FW (zs_J a)) x (zs_get a p) 5) 5 0 (-9, 61) ∧ zv_iv (zs_for (zs_she M x p) 5 0 (-9, 61)) := by
  refine zs_for_rel (fun _ s t => s = t ∧ zv_iv s) 5 0 _ _ (fun j s t _ hj q => ?_) ⟨rfl, Or.inl rfl⟩
  obtain ⟨rfl, q⟩ := q
  unfold zs_she zu_she
  rw [e_cmf h hp (zs_ok_up (h.ok hp) (by decide) (by decide) (by decide))]
  refine ⟨rfl, ?_⟩
  split
  · next c =>
    refine Or.inr ⟨j, by omega, rfl, ?_⟩
    rcases q with rfl | ⟨v, hv, e1, e2⟩
    · exact c
    · exact Int32.lt_trans c e2
  · exact q
theorem e_shv {s : Int32 × Int32} (q : zv_iv s) {x : Int32} : zs_shv s x = zu_shv s x := by
  unfold zs_shv zu_shv
  rcases q with rfl | ⟨v, hv, e1, e2⟩
  · by_cases c : x = 0
    · rw [if_pos c, if_pos (Or.inr c)]
    · have c1 : ((-9, 61) : Int32 × Int32).1 < 0 := by decide
      have c2 : (60 : Int32) < ((-9, 61) : Int32 × Int32).2 := by decide
      rw [if_neg c, if_pos c2, if_pos (Or.inl c1)]
  · by_cases c : x = 0
    · rw [if_pos c, if_pos (Or.inr c)]
    · have c1 : ¬ (s.1 < 0 ∨ x = 0) := fun o => o.elim (fun o => by rw [e1] at o; exact absurd o (zs_nlt0 (nI_pos' (by omega)))) c
      rw [if_neg c, if_neg (zv_le60 e2), if_neg c1]
theorem e_wish {M : zk_M} {a : Nat → Int32} {n : Nat} (h : zr1 M a n) {p : Nat} (hp : p < 6) {x : Int32} : zs_for (zs_wis M x p) 8 0 (-9, zs_cm M p x) = zs_for (zu_she (zs_J a) (zs_FW (zs_J a)) x (zs_get a p) 2) 8 0 (-9, zu_cm (zs_J a) (zs_FW (zs_J a)) x (zs_get a p)) := by
  rw [e_cm h hp]
  refine zs_for_rel (fun _ s t => s = t) 8 0 _ _ (fun j s t _ hj q => ?_) rfl
  subst q
  unfold zs_wis zu_she
  rw [e_cmf h hp (zs_ok2 (h.ok hp) (zs_p_nI (by omega)))]
/-! arrived -/
theorem zv_sh : ∀ d : Fin 61, ((nI d.1).toInt64 &&& 63).toBitVec.smod 64 = BitVec.ofNat 64 d.1 := by decide +kernel
abbrev zv_b (x : Int64) (d : Nat) : Prop := x >>> ((nI d).toInt64 &&& 63) &&& 1 = 1
theorem zv_b_iff {x : Int64} {d : Nat} (hd : d < 61) : zv_b x d ↔ x.toBitVec.getLsbD d = true := by
  have e : (x >>> ((nI d).toInt64 &&& 63) &&& 1).toBitVec = (x.toBitVec.sshiftRight d) &&& 1#64 := by
    rw [Int64.toBitVec_and, Int64.toBitVec_shiftRight, zv_sh ⟨d, hd⟩]
    show x.toBitVec.sshiftRight (BitVec.ofNat 64 d).toNat &&& 1#64 = _
    rw [BitVec.toNat_ofNat, Nat.mod_eq_of_lt (by omega)]
  have e2 : zv_b x d ↔ (x.toBitVec.sshiftRight d) &&& 1#64 = 1#64 := by
    rw [← e]
    exact ⟨fun q => congrArg Int64.toBitVec q, fun q => Int64.toBitVec_inj.mp q⟩
  have e3 : (x.toBitVec.sshiftRight d).getLsbD 0 = x.toBitVec.getLsbD d := by
    rw [BitVec.getLsbD_sshiftRight, if_pos (by omega)]; simp
  rw [e2, BitVec.and_one_eq_setWidth_ofBool_getLsbD, e3]
  cases x.toBitVec.getLsbD d <;> decide
theorem zv_one : ∀ e d : Fin 61, ((1 : Int64).toBitVec <<< BitVec.ofNat 64 e.1).getLsbD d.1 = decide (d.1 = e.1) := by decide +kernel
theorem zv_b_or {x : Int64} {d e : Nat} (hd : d < 61) (he : e < 61) : zv_b (x ||| 1 <<< ((nI e).toInt64 &&& 63)) d ↔ zv_b x d ∨ d = e := by
  rw [zv_b_iff hd, zv_b_iff hd, Int64.toBitVec_or, BitVec.getLsbD_or, Int64.toBitVec_shiftLeft, zv_sh ⟨e, he⟩, zv_one ⟨e, he⟩ ⟨d, hd⟩, Bool.or_eq_true, decide_eq_true_eq]
theorem zv_b_and {x y : Int64} {d : Nat} (hd : d < 61) : zv_b (x &&& y) d ↔ zv_b x d ∧ zv_b y d := by
  rw [zv_b_iff hd, zv_b_iff hd, zv_b_iff hd, Int64.toBitVec_and, BitVec.getLsbD_and, Bool.and_eq_true]
theorem zv_b_0 : ∀ d : Fin 61, ¬ zv_b 0 d.1 := by decide +kernel
theorem zv_b_1 : ∀ d : Fin 61, zv_b (-1) d.1 := by decide +kernel
theorem zv_dw {J T : Nat → Int32} {d : Nat} (hd : d < 61) : ∀ (m day : Nat) (f : Nat → Int32) (x : Int64), day + m ≤ 61 → (zv_b (zs_dw J T m day f x) d ↔ zv_b x d ∨ (day ≤ d ∧ d < day + m ∧ zs_rides J T (d - day) f 4 = zs_rides J T (d - day) f 3))
  | 0, day, f, x, hm => ⟨Or.inl, fun q => q.elim id (fun q => by omega)⟩
  | m + 1, day, f, x, hm => by
    unfold zs_dw
    rw [zv_dw hd m (day + 1) _ _ (by omega)]
    have e : zv_b (if f 4 = f 3 then x ||| 1 <<< ((nI day).toInt64 &&& 63) else x) d ↔ zv_b x d ∨ (d = day ∧ f 4 = f 3) := by
      split
      · next c => rw [zv_b_or hd (by omega)]; exact ⟨fun q => q.imp id (fun q => ⟨q, c⟩), fun q => q.imp id (fun q => q.1)⟩
      · next c => exact ⟨Or.inl, fun q => q.elim id (fun q => absurd q.2 c)⟩
    rw [e]
    by_cases c : d = day
    · subst c
      rw [Nat.sub_self]
      constructor
      · rintro ((q | q) | q)
        · exact Or.inl q
        · exact Or.inr ⟨Nat.le_refl _, by omega, q.2⟩
        · omega
      · rintro (q | q)
        · exact Or.inl (Or.inl q)
        · exact Or.inl (Or.inr ⟨rfl, q.2.2⟩)
    · by_cases c2 : day < d
      · rw [show d - day = d - (day + 1) + 1 by omega]
        constructor
        · rintro ((q | q) | q)
          · exact Or.inl q
          · exact absurd q.1 c
          · exact Or.inr ⟨by omega, by omega, q.2.2⟩
        · rintro (q | q)
          · exact Or.inl (Or.inl q)
          · exact Or.inr ⟨by omega, by omega, q.2.2⟩
      · constructor
        · rintro ((q | q) | q)
          · exact Or.inl q
          · exact absurd q.1 c
          · omega
        · rintro (q | q)
          · exact Or.inl (Or.inl q)
          · omega
theorem zv_arb {M : zk_M} {a : Nat → Int32} {n : Nat} (h : zr1 M a n) {d : Nat} (hd : d < 61) : zv_b (zs_for (zs_arb M) n 0 (-1)) d ↔ zs_all n (fun p => zs_rides (zs_J a) (zs_FW (zs_J a)) d (zs_get a p)) := by
  have := zs_for_rel (f := zs_arb M) (g := fun _ t => t) (fun j x (_ : Unit) => zv_b x d ↔ ∀ p, p < j → zs_rides (zs_J a) (zs_FW (zs_J a)) d (zs_get a p) 4 = zs_rides (zs_J a) (zs_FW (zs_J a)) d (zs_get a p) 3) n 0 (-1) () (fun j x _ _ hj q => by
    show zv_b (x &&& zs_dw (M 3) (M 4) 61 0 (M (6 + j)) 0) d ↔ _
    rw [zv_b_and hd, q, zs_dw_ag h.J h.T 61 0 _ _ 0 (h.F (h.lt (by omega))) (h.ok (h.lt (by omega))), zv_dw hd 61 0 _ 0 (by omega)]
    constructor
    · rintro ⟨q1, q2⟩ p hp
      by_cases c : p < j
      · exact q1 p c
      · obtain rfl : p = j := by omega
        exact q2.elim (fun q => absurd q (zv_b_0 ⟨d, hd⟩)) (fun q => q.2.2)
    · intro q1
      exact ⟨fun p hp => q1 p (by omega), Or.inr ⟨Nat.zero_le _, by omega, q1 j (by omega)⟩⟩) ⟨fun _ p hp => absurd hp (Nat.not_lt_zero p), fun _ => zv_b_1 ⟨d, hd⟩⟩
  rw [Nat.zero_add] at this
  exact this
theorem zv_bday {J T : Nat → Int32} {n : Nat} {F : Nat → Nat → Int32} {x : Int64} (hx : ∀ d, d < 61 → (zv_b x d ↔ zs_all n (fun p => zs_rides J T d (F p)))) : ∀ (m day : Nat), day + m ≤ 61 → zs_bday x m day = zs_mar J T n m day (fun p => zs_rides J T day (F p))
  | 0, _, _ => rfl
  | m + 1, day, hm => by
    unfold zs_bday zs_mar
    rw [zv_bday hx m (day + 1) (by omega)]
    have e : (fun p => zs_rides J T (day + 1) (F p)) = fun p => zs_ride J T (zs_rides J T day (F p)) := funext fun p => zs_rides_succ _ _
    rw [e]
    by_cases c : zv_b x day
    · rw [if_pos c, if_pos ((hx day (by omega)).mp c)]
    · rw [if_neg c, if_neg (fun q => c ((hx day (by omega)).mpr q))]
theorem e_arrived {M : zk_M} {a : Nat → Int32} {n : Nat} (h : zr1 M a n) : zs_bday (zs_for (zs_arb M) n 0 (-1)) 61 0 = zs_mar (zs_J a) (zs_FW (zs_J a)) n 61 0 (fun p => zs_get a p) := zv_bday (F := fun p => zs_get a p) (fun d hd => zv_arb h hd) 61 0 (by decide)
/-! road, cut -/
theorem e_cmc {M : zk_M} {a : Nat → Int32} {n : Nat} (h : zr1 M a n) {p : Nat} (hp : p < 6) {x u v : Int32} (hu : zs_p u) (hv : zs_p v) : zs_cmc M p x u v = zu_cmc (zs_J a) x (zs_get a p) u v := zs_until_ag (zs_turn_ag h.J hu hv) (zs_fw_ag (zs_turn_ag h.J hu hv) _ _) 61 0 _ _ (h.F hp) (h.ok hp)
theorem zv_n61 {J T : Nat → Int32} {x : Int32} {f : Nat → Int32} : ¬ 61 < zu_cm J T x f := by
  obtain ⟨j, hj, e⟩ := zu_cm_nI J T x f
  rw [e]
  exact nI_nlt (a := 61) hj (by decide)
theorem zv_60 {J T : Nat → Int32} {x : Int32} {f : Nat → Int32} : 60 < zu_cm J T x f ↔ zu_cm J T x f = 61 := by
  obtain ⟨j, hj, e⟩ := zu_cm_nI J T x f
  rw [e]
  exact zs_60 hj
theorem e_rdd {M : zk_M} {a : Nat → Int32} {n : Nat} (h : zr1 M a n) {p : Nat} (hp : p < 6) {x : Int32} {i j : Nat} (hi : i < 8) (hj : j < 8) : zs_rdd M x p i j = if zs_j (zs_J a) (nI i) (nI j) then 61 else zu_cmc (zs_J a) x (zs_get a p) (nI i) (nI j) := by
  unfold zs_rdd zs_j
  rw [h.J _ (zs_p_tn (zs_p_nI hi)), e_cmc h hp (zs_p_nI hi) (zs_p_nI hj)]
theorem e_road {M : zk_M} {a : Nat → Int32} {n : Nat} (h : zr1 M a n) {p : Nat} (hp : p < 6) {x : Int32} : zs_for (zs_rda M x p) 8 0 (-9, zs_cm M p x) = zs_for (zu_rda (zs_J a) x (zs_get a p)) 8 0 (-9, zu_cm (zs_J a) (zs_FW (zs_J a)) x (zs_get a p)) := by
  rw [e_cm h hp]
  refine (zs_for_rel (fun _ s t => s = t ∧ ¬ 61 < s.2) 8 0 _ _ (fun i s t _ hi q => ?_) ⟨rfl, zv_n61⟩).1
  obtain ⟨rfl, q⟩ := q
  unfold zs_rda zu_rda
  refine zs_for_rel (fun _ (s t : Int32 × Int32) => s = t ∧ ¬ 61 < s.2) (7 - i) (i + 1) _ _ (fun j s t hj1 hj2 q => ?_) ⟨rfl, q⟩
  obtain ⟨rfl, q⟩ := q
  unfold zs_rdf zu_rdf zu_rdd
  rw [e_rdd h hp (by omega) (by omega)]
  by_cases c : zs_j (zs_J a) (nI i) (nI j)
  · rw [if_pos c, if_pos c, if_neg q, if_neg (show ¬ s.2 < s.2 from Int32.lt_irrefl)]
    exact ⟨rfl, q⟩
  · rw [if_neg c, if_neg c]
    refine ⟨rfl, ?_⟩
    split
    · exact zv_n61
    · exact q
theorem e_cutb {M : zk_M} {a : Nat → Int32} {n : Nat} (h : zr1 M a n) {p : Nat} (hp : p < 6) {x : Int32} {i : Nat} (hi : i < 8) : ∀ (m j : Nat), j + m ≤ 8 → zs_cutb M x p i m j = zu_cutb (zs_J a) x (zs_get a p) i m j
  | 0, _, _ => rfl
  | m + 1, j, hj => by
    unfold zs_cutb zu_cutb
    rw [e_cutb h hp hi m (j + 1) (by omega), e_cmc h hp (zs_p_nI hi) (zs_p_nI (by omega))]
    unfold zs_j
    rw [h.J _ (zs_p_tn (zs_p_nI hi))]
    by_cases c : zs_j (zs_J a) (nI i) (nI j) ∧ zu_cmc (zs_J a) x (zs_get a p) (nI i) (nI j) = 61
    · rw [if_pos c, if_pos ⟨c.1, zv_60.mpr c.2⟩]
    · rw [if_neg c, if_neg (fun k => c ⟨k.1, zv_60.mp k.2⟩)]
theorem e_cuta {M : zk_M} {a : Nat → Int32} {n : Nat} (h : zr1 M a n) {p : Nat} (hp : p < 6) {x : Int32} : ∀ (m i : Nat), i + m ≤ 8 → zs_cuta M x p m i = zu_cuta (zs_J a) x (zs_get a p) m i
  | 0, _, _ => rfl
  | m + 1, i, hi => by
    unfold zs_cuta zu_cuta
    rw [e_cuta h hp m (i + 1) (by omega), e_cutb h hp (by omega) (7 - i) (i + 1) (by omega)]
theorem e_cut {M : zk_M} {a : Nat → Int32} {n : Nat} (h : zr1 M a n) {p : Nat} (hp : p < 6) {x : Int32} : (if zs_cm M p x = 61 then -9 else zs_cuta M x p 8 0) = (if zs_cmv (zs_J a) (zs_FW (zs_J a)) x 61 0 (zs_get a p) < 0 then -9 else zu_cuta (zs_J a) x (zs_get a p) 8 0) := by
  rw [e_cm h hp, e_cuta h hp 8 0 (by decide)]
  obtain ⟨j, hj, e⟩ := zu_cm_nI (zs_J a) (zs_FW (zs_J a)) x (zs_get a p)
  have e' : (zs_until (zs_J a) (zs_FW (zs_J a)) x 61 0 (zs_get a p)).1 = nI j := e
  rw [zs_cmv, e', e]
  by_cases q : nI j = 61
  · rw [if_pos q, if_pos q, if_pos (by decide)]
  · rw [if_neg q, if_neg q, if_neg (nI_pos (by omega))]
