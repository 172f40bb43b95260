/-! what the reference's questions leave as it was -/
def zs_sm (M M' : zk_M) : Prop := M' 1 = M 1 ∧ M' 3 = M 3 ∧ M' 6 = M 6 ∧ M' 7 = M 7 ∧ M' 8 = M 8 ∧ M' 0 5 = M 0 5 ∧ M' 0 9 = M 0 9 ∧ M' 0 10 = M 0 10
theorem zs_sm.rf {M : zk_M} : zs_sm M M := ⟨rfl, rfl, rfl, rfl, rfl, rfl, rfl, rfl⟩
theorem zs_sm.tr {M M' M'' : zk_M} (h : zs_sm M M') (h' : zs_sm M' M'') : zs_sm M M'' := ⟨h'.1.trans h.1, h'.2.1.trans h.2.1, h'.2.2.1.trans h.2.2.1, h'.2.2.2.1.trans h.2.2.2.1, h'.2.2.2.2.1.trans h.2.2.2.2.1, h'.2.2.2.2.2.1.trans h.2.2.2.2.2.1, h'.2.2.2.2.2.2.1.trans h.2.2.2.2.2.2.1, h'.2.2.2.2.2.2.2.trans h.2.2.2.2.2.2.2⟩
theorem zs_sm.up {M M' : zk_M} {o : Nat} {f : Nat → Int32} (h : zs_sm M M') (ho : o = 2 ∨ o = 4 ∨ o = 5 ∨ 9 ≤ o) : zs_sm M (va_up M' o f) := by
  obtain ⟨h1, h2, h3, h4, h5, h6, h7, h8⟩ := h
  refine ⟨?_, ?_, ?_, ?_, ?_, ?_, ?_, ?_⟩ <;> rw [zk_up_ne (by omega)] <;> assumption
theorem zs_sm.up0 {M M' : zk_M} {k : Nat} {v : Int32} (h : zs_sm M M') (hk : k = 11 ∨ k = 14) : zs_sm M (va_up M' 0 (va_up (M' 0) k v)) := by
  obtain ⟨h1, h2, h3, h4, h5, h6, h7, h8⟩ := h
  refine ⟨?_, ?_, ?_, ?_, ?_, ?_, ?_, ?_⟩
  · rw [zk_up_ne (by decide)]; exact h1
  · rw [zk_up_ne (by decide)]; exact h2
  · rw [zk_up_ne (by decide)]; exact h3
  · rw [zk_up_ne (by decide)]; exact h4
  · rw [zk_up_ne (by decide)]; exact h5
  · rw [zk_up_eq, zk_up_ne (by omega)]; exact h6
  · rw [zk_up_eq, zk_up_ne (by omega)]; exact h7
  · rw [zk_up_eq, zk_up_ne (by omega)]; exact h8
def zp_i (v : Int32) (M : zk_M) : Option Value → zk_M → zk_L → Prop := fun r M' _ => r = some (.int v) ∧ zs_sm M M'
def zp_l (v : Int64) (M : zk_M) : Option Value → zk_M → zk_L → Prop := fun r M' _ => r = some (.long v) ∧ zs_sm M M'
def zp_v (M : zk_M) : Option Value → zk_M → zk_L → Prop := fun r M' _ => r = none ∧ zs_sm M M'
/-- the riders in mind: F, on roads J with steps T -/
def zs_V (M : zk_M) (n : Nat) (J T : Nat → Int32) (F : Nat → Nat → Int32) : Prop := zs_A (M 2) n ∧ zs_ag 8 (zs_J (M 2)) J ∧ zs_ag 64 (M 5) T ∧ ∀ p, p < n → zs_ag 7 (zs_get (M 2) p) (F p)
def zs_dF (J T : Nat → Int32) (d : Int32) (f : Nat → Int32) : Nat → Int32 := if d = 0 then zs_ride J T f else zs_wear f
theorem zs_dF_ag {J J' T T' : Nat → Int32} {d : Int32} {f g : Nat → Int32} (hJ : zs_ag 8 J J') (hT : zs_ag 64 T T') (h : zs_ag 7 f g) (ok : zs_ok f) : zs_ag 7 (zs_dF J T d f) (zs_dF J' T' d g) := by
  unfold zs_dF
  split
  · exact zs_ride_ag hJ hT h ok
  · exact zs_wear_ag h
theorem zs_dput_eq {T a : Nat → Int32} {d : Int32} {p : Nat} : zs_dput T d p a = zs_put a p (zs_dF (zs_J a) T d (zs_get a p)) := by
  unfold zs_dput zs_dF
  split
  · rfl
  · rfl
theorem zs_get_day1 {a : Nat → Int32} {v : Int32} {p : Nat} : zs_ag 7 (zs_get (va_up a 1 v) p) (zs_get a p) := fun i hi => zk_up_ne (by omega)
theorem zs_J_day1 {a : Nat → Int32} {v : Int32} : zs_ag 8 (zs_J (va_up a 1 v)) (zs_J a) := fun i hi => zk_up_ne (by omega)
theorem zs_dayV {T' a J T : Nat → Int32} {d : Int32} {n : Nat} {F : Nat → Nat → Int32} (hA : zs_A a n) (hJ : zs_ag 8 (zs_J a) J) (hT : zs_ag 64 T' T) (hF : ∀ p, p < n → zs_ag 7 (zs_get a p) (F p)) : zs_ag 8 (zs_J (zs_dayA T' d n a)) J ∧ ∀ p, p < n → zs_ag 7 (zs_get (zs_dayA T' d n a) p) (zs_dF J T d (F p)) := by
  have key := zs_for_rel (fun j (A : Nat → Int32) (_ : Unit) => zs_A A n ∧ zs_ag 8 (zs_J A) J ∧ ∀ p, p < n → zs_ag 7 (zs_get A p) (if p < j then zs_dF J T d (F p) else F p)) n 0 (va_up a 1 (a 1 + 1)) () (f := zs_dput T' d) (g := fun _ u => u) (fun j A _ _ hj h => ?_) ⟨hA.day1, zs_J_day1.tr hJ, fun p hp => by rw [if_neg (Nat.not_lt_zero p)]; exact zs_get_day1.tr (hF p hp)⟩
  · refine ⟨key.2.1, fun p hp => ?_⟩
    have := key.2.2 p hp
    rw [if_pos (by omega)] at this
    exact this
  · obtain ⟨h1, h2, h3⟩ := h
    have hj6 : j < 6 := Nat.lt_of_lt_of_le (by omega) hA.1
    have hjn : j < n := by omega
    refine ⟨h1.dput hj6, ?_, fun p hp => ?_⟩
    · rw [zs_dput_eq]; exact zs_J_put.tr h2
    · rw [zs_dput_eq]
      by_cases e : p = j
      · subst e
        rw [if_pos (Nat.lt_succ_self p)]
        have h4 := h3 p hjn
        rw [if_neg (Nat.lt_irrefl p)] at h4
        exact zs_get_put.tr (zs_dF_ag h2 hT h4 (h1.2.2 p hj6).1)
      · have h4 := h3 p hp
        refine (zs_get_put_ne e).tr ?_
        by_cases e2 : p < j
        · rw [if_pos e2] at h4
          rw [if_pos (by omega)]
          exact h4
        · rw [if_neg e2] at h4
          rw [if_neg (by omega)]
          exact h4
theorem zs_V.day {M : zk_M} {n : Nat} {J T : Nat → Int32} {F : Nat → Nat → Int32} (h : zs_V M n J T F) (d : Int32) : zs_V (va_up M 2 (zs_dayA (M 5) d n (M 2))) n J T (fun p => zs_dF J T d (F p)) := by
  obtain ⟨h1, h2, h3, h4⟩ := h
  obtain ⟨k1, k2⟩ := zs_dayV (d := d) h1 h2 h3 h4
  refine ⟨?_, ?_, ?_, fun p hp => ?_⟩
  · rw [zk_up_eq]; exact h1.dayA
  · rw [zk_up_eq]; exact k1
  · rw [zk_up_ne (by decide)]; exact h3
  · rw [zk_up_eq]; exact k2 p hp
theorem zs_V.okk {M : zk_M} {n : Nat} {J T : Nat → Int32} {F : Nat → Nat → Int32} (h : zs_V M n J T F) {p : Nat} (hp : p < n) : zs_okk (F p) := zs_okk_ag (h.2.2.2 p hp) (h.1.2.2 p (Nat.lt_of_lt_of_le hp h.1.1))
theorem zs_V.at {M : zk_M} {n : Nat} {J T : Nat → Int32} {F : Nat → Nat → Int32} (h : zs_V M n J T F) {p k : Nat} (hp : p < n) (hk : k < 7) : M 2 (10 + 7 * p + k) = F p k := h.2.2.2 p hp k hk
theorem zs_dF0 {J T : Nat → Int32} {f : Nat → Int32} : zs_dF J T 0 f = zs_ride J T f := if_pos rfl
theorem zs_dF1 {J T : Nat → Int32} {f : Nat → Int32} : zs_dF J T 1 f = zs_wear f := if_neg (by decide)
theorem zk_cSpi {l : Launch} {σ : zk_Sh} {d d' : Nat} {μ μ' : zk_I} {pc : Nat} {ls : List (Option Value)} {as st rest : List Value} {M M0 : zk_M} {L : zk_L} {Q : Option Value → zk_M → zk_L → Prop} {n idx : Nat} {v : Int32} (hc : zk_C l σ d' μ' as M L (zp_i v M0)) (hd : decode μ.2.1 pc = .ok (.invokestatic idx, 3)) (hi : zk_MI μ' n) (hlk : Cond.methodLink μ.2.2.2.2 idx μ'.1 ∈ zk_tb) (hst : Cond.static μ'.1 ∈ zk_tb) (hn : as.length = n) (hdd : d' + 1 ≤ d) (hs : st = as.reverse ++ rest) (hcat : (rest.map fun v => v.category).sum ≤ 8) (kk : ∀ (M1 : zk_M) (L1 : zk_L), zs_sm M0 M1 → zk_R l σ d μ (pc + 3) ls (.int v :: rest) M1 L1 Q) : zk_R l σ d μ pc ls st M L Q :=
  zk_callS hc hd hi hlk hst hn hdd hs hcat (fun r M2 L2 h => by obtain ⟨rfl, h2⟩ := h; exact kk M2 L2 h2)
theorem zk_cSpl {l : Launch} {σ : zk_Sh} {d d' : Nat} {μ μ' : zk_I} {pc : Nat} {ls : List (Option Value)} {as st rest : List Value} {M M0 : zk_M} {L : zk_L} {Q : Option Value → zk_M → zk_L → Prop} {n idx : Nat} {v : Int64} (hc : zk_C l σ d' μ' as M L (zp_l v M0)) (hd : decode μ.2.1 pc = .ok (.invokestatic idx, 3)) (hi : zk_MI μ' n) (hlk : Cond.methodLink μ.2.2.2.2 idx μ'.1 ∈ zk_tb) (hst : Cond.static μ'.1 ∈ zk_tb) (hn : as.length = n) (hdd : d' + 1 ≤ d) (hs : st = as.reverse ++ rest) (hcat : (rest.map fun v => v.category).sum ≤ 8) (kk : ∀ (M1 : zk_M) (L1 : zk_L), zs_sm M0 M1 → zk_R l σ d μ (pc + 3) ls (.long v :: rest) M1 L1 Q) : zk_R l σ d μ pc ls st M L Q :=
  zk_callS hc hd hi hlk hst hn hdd hs hcat (fun r M2 L2 h => by obtain ⟨rfl, h2⟩ := h; exact kk M2 L2 h2)
theorem zk_cSpv {l : Launch} {σ : zk_Sh} {d d' : Nat} {μ μ' : zk_I} {pc : Nat} {ls : List (Option Value)} {as st rest : List Value} {M M0 : zk_M} {L : zk_L} {Q : Option Value → zk_M → zk_L → Prop} {n idx : Nat}  (hc : zk_C l σ d' μ' as M L (zp_v M0)) (hd : decode μ.2.1 pc = .ok (.invokestatic idx, 3)) (hi : zk_MI μ' n) (hlk : Cond.methodLink μ.2.2.2.2 idx μ'.1 ∈ zk_tb) (hst : Cond.static μ'.1 ∈ zk_tb) (hn : as.length = n) (hdd : d' + 1 ≤ d) (hs : st = as.reverse ++ rest) (hcat : (rest.map fun v => v.category).sum ≤ 8) (kk : ∀ (M1 : zk_M) (L1 : zk_L), zs_sm M0 M1 → zk_R l σ d μ (pc + 3) ls (rest) M1 L1 Q) : zk_R l σ d μ pc ls st M L Q :=
  zk_callS hc hd hi hlk hst hn hdd hs hcat (fun r M2 L2 h => by obtain ⟨rfl, h2⟩ := h; exact kk M2 L2 h2)
theorem zk_cVpi {l : Launch} {σ : zk_Sh} {d d' : Nat} {μ μ' : zk_I} {pc : Nat} {ls : List (Option Value)} {as st rest : List Value} {M M0 : zk_M} {L : zk_L} {Q : Option Value → zk_M → zk_L → Prop} {n idx ci o : Nat} {v : Int32} (hc : zk_C l σ d' μ' (.ref o :: as) M L (zp_i v M0)) (hd : decode μ.2.1 pc = .ok (.invokevirtual idx, 3)) (hi : zk_MV μ' n ci) (hlk : Cond.methodLink μ.2.2.2.2 idx μ'.1 ∈ zk_tb) (ho : o < σ.1) (hk : σ.2.1 o = ci) (hn : as.length = n) (hdd : d' + 1 ≤ d) (hs : st = as.reverse ++ .ref o :: rest) (hcat : (rest.map fun v => v.category).sum ≤ 8) (kk : ∀ (M1 : zk_M) (L1 : zk_L), zs_sm M0 M1 → zk_R l σ d μ (pc + 3) ls (.int v :: rest) M1 L1 Q) : zk_R l σ d μ pc ls st M L Q :=
  zk_callV hc hd hi hlk ho hk hn hdd hs hcat (fun r M2 L2 h => by obtain ⟨rfl, h2⟩ := h; exact kk M2 L2 h2)
theorem zk_cVpl {l : Launch} {σ : zk_Sh} {d d' : Nat} {μ μ' : zk_I} {pc : Nat} {ls : List (Option Value)} {as st rest : List Value} {M M0 : zk_M} {L : zk_L} {Q : Option Value → zk_M → zk_L → Prop} {n idx ci o : Nat} {v : Int64} (hc : zk_C l σ d' μ' (.ref o :: as) M L (zp_l v M0)) (hd : decode μ.2.1 pc = .ok (.invokevirtual idx, 3)) (hi : zk_MV μ' n ci) (hlk : Cond.methodLink μ.2.2.2.2 idx μ'.1 ∈ zk_tb) (ho : o < σ.1) (hk : σ.2.1 o = ci) (hn : as.length = n) (hdd : d' + 1 ≤ d) (hs : st = as.reverse ++ .ref o :: rest) (hcat : (rest.map fun v => v.category).sum ≤ 8) (kk : ∀ (M1 : zk_M) (L1 : zk_L), zs_sm M0 M1 → zk_R l σ d μ (pc + 3) ls (.long v :: rest) M1 L1 Q) : zk_R l σ d μ pc ls st M L Q :=
  zk_callV hc hd hi hlk ho hk hn hdd hs hcat (fun r M2 L2 h => by obtain ⟨rfl, h2⟩ := h; exact kk M2 L2 h2)
theorem zk_cVpv {l : Launch} {σ : zk_Sh} {d d' : Nat} {μ μ' : zk_I} {pc : Nat} {ls : List (Option Value)} {as st rest : List Value} {M M0 : zk_M} {L : zk_L} {Q : Option Value → zk_M → zk_L → Prop} {n idx ci o : Nat}  (hc : zk_C l σ d' μ' (.ref o :: as) M L (zp_v M0)) (hd : decode μ.2.1 pc = .ok (.invokevirtual idx, 3)) (hi : zk_MV μ' n ci) (hlk : Cond.methodLink μ.2.2.2.2 idx μ'.1 ∈ zk_tb) (ho : o < σ.1) (hk : σ.2.1 o = ci) (hn : as.length = n) (hdd : d' + 1 ≤ d) (hs : st = as.reverse ++ .ref o :: rest) (hcat : (rest.map fun v => v.category).sum ≤ 8) (kk : ∀ (M1 : zk_M) (L1 : zk_L), zs_sm M0 M1 → zk_R l σ d μ (pc + 3) ls (rest) M1 L1 Q) : zk_R l σ d μ pc ls st M L Q :=
  zk_callV hc hd hi hlk ho hk hn hdd hs hcat (fun r M2 L2 h => by obtain ⟨rfl, h2⟩ := h; exact kk M2 L2 h2)
theorem qd_day {l : Launch} {M : zk_M} {L : zk_L} {M0 : zk_M} {n : Nat} {J T : Nat → Int32} {F : Nat → Nat → Int32} (hs : zs_sm M0 M) (hV : zs_V M n J T F) {d : Int32} : zk_C l zm 3 muX5_day [.ref 0, .ref 2, .int d] M L (fun r M' _ => r = none ∧ zs_sm M0 M' ∧ zs_V M' n J T (fun p => zs_dF J T d (F p))) := by
  refine zk_C_mono (qX5_day zm_a2 (by decide) hV.1) ?_
  intro r M' L' q
  obtain ⟨rfl, rfl, rfl⟩ := q
  exact ⟨rfl, hs.up (by omega), hV.day d⟩
theorem qd_copies {l : Launch} {M : zk_M} {L : zk_L} : zk_C l zm 0 muX5_copies [.ref 1, .ref 2] M L (zk_Ev (va_up M 2 (zs_cp 52 (M 1) (M 2))) L) := qX5_copies zm_a1 zm_a2 (by decide)
theorem zs_get_cp {a b : Nat → Int32} {p : Nat} (hp : p < 6) : zs_ag 7 (zs_get (zs_cp 52 a b) p) (zs_get a p) := fun i hi => if_pos (by omega)
theorem zs_J_cp {a b : Nat → Int32} : zs_ag 8 (zs_J (zs_cp 52 a b)) (zs_J a) := fun i hi => if_pos (by omega)
theorem zs_A.cp {a b : Nat → Int32} {n : Nat} (h : zs_A a n) : zs_A (zs_cp 52 a b) n := ⟨h.1, h.2.1, fun p hp => zs_okk_ag (zs_get_cp hp).sm (h.2.2 p hp)⟩
theorem zs_daysV {T' J T : Nat → Int32} {n : Nat} (hT : zs_ag 64 T' T) : ∀ (t : Nat) (a : Nat → Int32) (F : Nat → Nat → Int32), zs_A a n → zs_ag 8 (zs_J a) J → (∀ p, p < n → zs_ag 7 (zs_get a p) (F p)) → zs_ag 8 (zs_J (zs_daysA T' n t a)) J ∧ ∀ p, p < n → zs_ag 7 (zs_get (zs_daysA T' n t a) p) (zs_rides J T t (F p))
  | 0, _, _, _, hJ, hF => ⟨hJ, hF⟩
  | t + 1, a, F, hA, hJ, hF => by
    obtain ⟨k1, k2⟩ := zs_dayV (d := 0) hA hJ hT hF
    exact zs_daysV hT t _ _ hA.dayA k1 (fun p hp => by have := k2 p hp; rw [zs_dF0] at this; exact this)
/-- days on, in mind: from any riders in mind -/
theorem qd_daysOn {l : Launch} {M : zk_M} {L : zk_L} {M0 : zk_M} {n : Nat} {J : Nat → Int32} {F : Nat → Nat → Int32} (hs : zs_sm M0 M) (hA : zs_A (M 2) n) (hJ : zs_ag 8 (zs_J (M 2)) J) (hF : ∀ p, p < n → zs_ag 7 (zs_get (M 2) p) (F p)) {t : Nat} (ht : t < 2 ^ 31) : zk_C l zm 4 muX5_daysOn [.ref 0, .ref 2, .int (nI t)] M L (fun r M' _ => r = none ∧ zs_sm M0 M' ∧ zs_V M' n J (zs_FW J) (fun p => zs_rides J (zs_FW J) t (F p))) := by
  refine zk_C_mono (qX5_daysOn zm_a2 (by decide) hA ht) ?_
  intro r M' L' q
  obtain ⟨rfl, rfl, rfl⟩ := q
  have hT : zs_ag 64 (zs_fw (zs_J (M 2)) (M 5)) (zs_FW J) := zs_fw_ag hJ _ _
  obtain ⟨k1, k2⟩ := zs_daysV hT t (M 2) F hA hJ hF
  refine ⟨rfl, (hs.up (by omega)).up (by omega), ?_, ?_, ?_, fun p hp => ?_⟩
  · rw [zk_up_eq]; exact hA.daysA t _
  · rw [zk_up_eq]; exact k1
  · rw [zk_up_ne (by decide), zk_up_eq]; exact hT
  · rw [zk_up_eq]; exact k2 p hp
theorem qd_measures {l : Launch} {M : zk_M} {L : zk_L} {M0 : zk_M} {n : Nat} {J : Nat → Int32} {F : Nat → Nat → Int32} (hs : zs_sm M0 M) (hA : zs_A (M 2) n) (hJ : zs_ag 8 (zs_J (M 2)) J) (hF : ∀ p, p < n → zs_ag 7 (zs_get (M 2) p) (F p)) : zk_C l zm 1 muX5_measures [.ref 0, .ref 2] M L (fun r M' _ => r = none ∧ zs_sm M0 M' ∧ zs_V M' n J (zs_FW J) F) := by
  refine zk_C_mono (qX5_measures zm_a2 (by decide)) ?_
  intro r M' L' q
  obtain ⟨rfl, rfl, rfl⟩ := q
  refine ⟨rfl, hs.up (by omega), ?_, ?_, ?_, fun p hp => ?_⟩
  · rw [zk_up_ne (by decide)]; exact hA
  · rw [zk_up_ne (by decide)]; exact hJ
  · rw [zk_up_eq]; exact zs_fw_ag hJ _ _
  · rw [zk_up_ne (by decide)]; exact hF p hp
set_option maxRecDepth 100000 in
set_option maxHeartbeats 4000000 in
theorem qX5_takes {l : Launch} {M : zk_M} {L : zk_L} {M0 : zk_M} {n : Nat} (hA : zs_A (M0 1) n) (hs : zs_sm M0 M) {t : Nat} (ht : t < 2 ^ 31) : zk_C l zm 5 muX5_takes [.ref 0, .int (nI t)] M L (fun r M1 _ => r = none ∧ zs_sm M0 M1 ∧ zs_V M1 n (zs_J (M0 1)) (zs_FW (zs_J (M0 1))) (fun p => zs_rides (zs_J (M0 1)) (zs_FW (zs_J (M0 1))) t (zs_get (M0 1) p))) := by
  refine zk_ofR (ls := [some (.ref 0), some (.int (nI t))]) (by decide) rfl (Nat.le_of_ble_eq_true rfl) rfl ?_
  refine zk_aload_n dX5_takes_0 rfl ?_
  refine zk_getRc (q := 1) dX5_takes_1 fl_X5_9 (by decide : 0 < zm.1) rfl rfl rfl ?_
  refine zk_aload_n dX5_takes_4 rfl ?_
  refine zk_getRc (q := 2) dX5_takes_5 fl_X5_13 (by decide : 0 < zm.1) rfl rfl rfl ?_
  refine zk_cSv (qd_copies) dX5_takes_8 miX5_copies ml_X5_127 stX5_copies rfl (by decide) rfl (Nat.le_of_ble_eq_true rfl) ?_
  refine zk_aload_n dX5_takes_11 rfl ?_
  refine zk_aload_n dX5_takes_12 rfl ?_
  refine zk_getRc (q := 2) dX5_takes_13 fl_X5_13 (by decide : 0 < zm.1) rfl rfl rfl ?_
  refine zk_iload_n dX5_takes_16 rfl ?_
  refine zk_callV (qd_daysOn (n := n) (J := zs_J (M0 1)) (F := fun p => zs_get (M0 1) p) (hs.up (by omega)) (by rw [zk_up_eq, hs.1]; exact hA.cp) (by rw [zk_up_eq, hs.1]; exact zs_J_cp) (fun p hp => by rw [zk_up_eq, hs.1]; exact zs_get_cp (Nat.lt_of_lt_of_le hp hA.1)) ht) dX5_takes_17 mwX5_daysOn ml_X5_121 (by decide : 0 < zm.1) rfl rfl (by decide) rfl (Nat.le_of_ble_eq_true rfl) (fun r1 M1 L1 h1 => ?_)
  obtain ⟨rfl, hs1, hV1⟩ := h1
  refine zk_vret rfl dX5_takes_20 ?_
  exact ⟨rfl, hs1, hV1⟩
def zs_cmv (J T : Nat → Int32) (pl : Int32) (m day : Nat) (f : Nat → Int32) : Int32 := if (zs_until J T pl m day f).1 = 61 then -9 else (zs_until J T pl m day f).1
theorem zs_until_le {J T : Nat → Int32} {pl : Int32} : ∀ (m day : Nat) (f : Nat → Int32), day + m = 61 → ∃ j, j ≤ 61 ∧ (zs_until J T pl m day f).1 = nI j
  | 0, _, _, _ => ⟨61, Nat.le_refl _, rfl⟩
  | m + 1, day, f, h => by
    unfold zs_until
    split
    · exact ⟨day, by omega, rfl⟩
    · exact zs_until_le m (day + 1) _ (by omega)
set_option maxRecDepth 100000 in
set_option maxHeartbeats 4000000 in
theorem lX5_comesIn {l : Launch} {M0 : zk_M} {n p : Nat} (hp : p < n) (hn6 : n ≤ 6) {J T : Nat → Int32} {pl v : Int32} : ∀ (m i : Nat) (F : Nat → Nat → Int32) (M : zk_M) {L : zk_L}, i + m = 61 → zs_sm M0 M → zs_V M n J T F → v = zs_cmv J T pl m i (F p) → zk_R l zm 4 muX5_comesIn 10 [some (.ref 0), some (.int (nI p)), some (.int pl), some (.int (nI i))] [] M L (zp_i v M0) := by
  have hp6 : p < 6 := by omega
  intro m
  induction m with
  | zero =>
    intro i F M L hi hs hV ek
    obtain rfl : i = 61 := by omega
    refine zk_iload_n dX5_comesIn_10 rfl ?_
    refine zk_bipush (v := 60) dX5_comesIn_11 (by decide) ?_
    refine zk_icmp_gt (tgt := 47) dX5_comesIn_13 (by decide) (fun _ => ?_) (fun q => absurd (by decide) q)
    refine zk_bipush (v := -9) dX5_comesIn_47 (by decide) ?_
    refine zk_iret rfl dX5_comesIn_49 ?_
    exact ⟨by rw [ek]; rfl, hs⟩
  | succ m ih =>
    intro i F M L hi hs hV ek
    refine zk_iload_n dX5_comesIn_10 rfl ?_
    refine zk_bipush dX5_comesIn_11 zb_60 ?_
    refine zk_icmp_gt (tgt := 47) dX5_comesIn_13 (by decide) (fun h13 => absurd h13 (nI_nlt (a := 60) (show i ≤ 60 by omega) (by decide))) (fun _ => ?_)
    refine zk_aload_n dX5_comesIn_16 rfl ?_
    refine zk_getRc (q := 2) dX5_comesIn_17 fl_X5_13 (by decide : 0 < zm.1) rfl rfl rfl ?_
    refine zk_iload_n dX5_comesIn_20 rfl ?_
    refine zk_iconst dX5_comesIn_21 zc_4 ?_
    refine zk_cSi (qX5_of (p := p) (k := 4)) dX5_comesIn_22 miX5_of ml_X5_58 stX5_of rfl (by decide) rfl (Nat.le_of_ble_eq_true rfl) ?_
    refine zk_iald (j := 10 + 7 * p + 4) dX5_comesIn_25 (by decide : 2 < zm.1) rfl (zs_in rfl (vp_in_nI (zs_7p hp6 (show 4 < 7 by decide)) (by decide))) (nI_clamp (by omega)) ?_
    rw [hV.at hp (by decide)]
    refine zk_iload_n dX5_comesIn_26 rfl ?_
    refine zk_icmp_ne (tgt := 32) dX5_comesIn_27 (by decide) (fun h27 => ?_) (fun h27 => ?_)
    · refine zk_aload_n dX5_comesIn_32 rfl ?_
      refine zk_aload_n dX5_comesIn_33 rfl ?_
      refine zk_getRc (q := 2) dX5_comesIn_34 fl_X5_13 (by decide : 0 < zm.1) rfl rfl rfl ?_
      refine zk_iconst dX5_comesIn_37 zc_0 ?_
      refine zk_callV (qd_day hs hV) dX5_comesIn_38 mwX5_day ml_X5_76 (by decide : 0 < zm.1) rfl rfl (by decide) rfl (Nat.le_of_ble_eq_true rfl) (fun r1 M1 L1 h1 => ?_)
      obtain ⟨rfl, hs1, hV1⟩ := h1
      refine zk_iinc dX5_comesIn_41 zc_1 rfl zk_S_3 ?_
      refine zk_goto (tgt := 10) dX5_comesIn_44 (by decide) ?_
      rw [← nI_succ]
      refine ih (i + 1) _ M1 (by omega) hs1 hV1 ?_
      rw [ek]
      unfold zs_cmv
      rw [zs_until, if_neg h27, zs_dF0]
    · refine zk_iload_n dX5_comesIn_30 rfl ?_
      refine zk_iret rfl dX5_comesIn_31 ?_
      refine ⟨?_, hs⟩
      rw [ek]
      unfold zs_cmv
      rw [zs_until, if_pos h27, if_neg (fun e => by have := zs_nI_inj (b := 61) (by omega) (by decide) e; omega)]
set_option maxRecDepth 100000 in
set_option maxHeartbeats 4000000 in
theorem qX5_comesIn {l : Launch} {M : zk_M} {L : zk_L} {M0 : zk_M} {n p : Nat} (hp : p < n) (hs : zs_sm M0 M) (hA : zs_A (M 2) n) {J : Nat → Int32} {F : Nat → Nat → Int32} (hJ : zs_ag 8 (zs_J (M 2)) J) (hF : ∀ p, p < n → zs_ag 7 (zs_get (M 2) p) (F p)) {pl : Int32} : zk_C l zm 4 muX5_comesIn [.ref 0, .int (nI p), .int pl] M L (zp_i (zs_cmv J (zs_FW J) pl 61 0 (F p)) M0) := by
  refine zk_ofR (ls := [some (.ref 0), some (.int (nI p)), some (.int pl), none]) (by decide) rfl (Nat.le_of_ble_eq_true rfl) rfl ?_
  refine zk_aload_n dX5_comesIn_0 rfl ?_
  refine zk_aload_n dX5_comesIn_1 rfl ?_
  refine zk_getRc (q := 2) dX5_comesIn_2 fl_X5_13 (by decide : 0 < zm.1) rfl rfl rfl ?_
  refine zk_callV (qd_measures hs hA hJ hF) dX5_comesIn_5 mwX5_measures ml_X5_72 (by decide : 0 < zm.1) rfl rfl (by decide) rfl (Nat.le_of_ble_eq_true rfl) (fun r1 M1 L1 h1 => ?_)
  obtain ⟨rfl, hs1, hV1⟩ := h1
  refine zk_iconst dX5_comesIn_8 zc_0 ?_
  refine zk_istore_n dX5_comesIn_9 zk_S_3 ?_
  exact lX5_comesIn hp hA.1 61 0 F M1 rfl hs1 hV1 rfl
set_option maxRecDepth 100000 in
set_option maxHeartbeats 4000000 in
theorem qX5_comesNow {l : Launch} {M : zk_M} {L : zk_L} {M0 : zk_M} {n : Nat} (hA : zs_A (M0 1) n) (hs : zs_sm M0 M) {p : Nat} (hp : p < n) {pl : Int32} : zk_C l zm 5 muX5_comesNow [.ref 0, .int (nI p), .int pl] M L (zp_i (zs_cmv (zs_J (M0 1)) (zs_FW (zs_J (M0 1))) pl 61 0 (zs_get (M0 1) p)) M0) := by
  refine zk_ofR (ls := [some (.ref 0), some (.int (nI p)), some (.int pl)]) (by decide) rfl (Nat.le_of_ble_eq_true rfl) rfl ?_
  refine zk_aload_n dX5_comesNow_0 rfl ?_
  refine zk_getRc (q := 1) dX5_comesNow_1 fl_X5_9 (by decide : 0 < zm.1) rfl rfl rfl ?_
  refine zk_aload_n dX5_comesNow_4 rfl ?_
  refine zk_getRc (q := 2) dX5_comesNow_5 fl_X5_13 (by decide : 0 < zm.1) rfl rfl rfl ?_
  refine zk_cSv (qd_copies) dX5_comesNow_8 miX5_copies ml_X5_127 stX5_copies rfl (by decide) rfl (Nat.le_of_ble_eq_true rfl) ?_
  refine zk_aload_n dX5_comesNow_11 rfl ?_
  refine zk_iload_n dX5_comesNow_12 rfl ?_
  refine zk_iload_n dX5_comesNow_13 rfl ?_
  refine zk_cVpi (qX5_comesIn hp (hs.up (by omega)) (by rw [zk_up_eq, hs.1]; exact hA.cp) (J := zs_J (M0 1)) (F := fun p => zs_get (M0 1) p) (by rw [zk_up_eq, hs.1]; exact zs_J_cp) (fun p hp => by rw [zk_up_eq, hs.1]; exact zs_get_cp (Nat.lt_of_lt_of_le hp hA.1))) dX5_comesNow_14 mwX5_comesIn ml_X5_152 (by decide : 0 < zm.1) rfl rfl (by decide) rfl (Nat.le_of_ble_eq_true rfl) (fun M1 L1 hs1 => ?_)
  refine zk_iret rfl dX5_comesNow_17 ?_
  exact ⟨rfl, hs1⟩
set_option maxRecDepth 100000 in
set_option maxHeartbeats 4000000 in
theorem qX5_orNever {l : Launch} {M : zk_M} {L : zk_L} {x : Int32} : zk_C l zm 0 muX5_orNever [.int x] M L (zk_Ei (if x < 0 then 61 else x) M L) := by
  refine zk_ofR (ls := [some (.int x)]) (by decide) rfl (Nat.le_of_ble_eq_true rfl) rfl ?_
  refine zk_iload_n dX5_orNever_0 rfl ?_
  refine zk_if_ge (tgt := 9) dX5_orNever_1 (by decide) (fun h1 => ?_) (fun h1 => ?_)
  · refine zk_iload_n dX5_orNever_9 rfl ?_
    refine zk_iret rfl dX5_orNever_10 ?_
    exact zk_Ei_of (by first | exact (if_neg (Int32.not_lt.mpr h1)).symm | exact (if_pos (Int32.not_le.mp h1)).symm) rfl rfl
  · refine zk_bipush dX5_orNever_4 zb_61 ?_
    refine zk_goto (tgt := 10) dX5_orNever_6 (by decide) ?_
    refine zk_iret rfl dX5_orNever_10 ?_
    exact zk_Ei_of (by first | exact (if_neg (Int32.not_lt.mpr h1)).symm | exact (if_pos (Int32.not_le.mp h1)).symm) rfl rfl
theorem qX5_orNever_c {l : Launch} {M : zk_M} {L : zk_L} {J T : Nat → Int32} {pl : Int32} {f : Nat → Int32} : zk_C l zm 0 muX5_orNever [.int (zs_cmv J T pl 61 0 f)] M L (zk_Ei (zs_until J T pl 61 0 f).1 M L) := by
  have h := qX5_orNever (l := l) (M := M) (L := L) (x := zs_cmv J T pl 61 0 f)
  obtain ⟨j, hj, e⟩ := zs_until_le (J := J) (T := T) (pl := pl) 61 0 f rfl
  rwa [show (if zs_cmv J T pl 61 0 f < 0 then 61 else zs_cmv J T pl 61 0 f) = (zs_until J T pl 61 0 f).1 by
    unfold zs_cmv
    rw [e]
    by_cases h61 : nI j = 61
    · rw [if_pos h61, h61]; decide
    · rw [if_neg h61, if_neg (nI_pos (by omega))]] at h
abbrev zs_w2 (n : Nat) (r x : Int32) : Prop := zs_isr (nI n) r ∧ zs_p x
set_option maxRecDepth 100000 in
set_option maxHeartbeats 4000000 in
theorem qX5_areWrong {l : Launch} {M : zk_M} {L : zk_L} {n : Nat} (hn : n ≤ 6) (hc : M 1 0 = nI n) {r x : Int32} : zk_C l zm 2 muX5_areWrong [.ref 0, .int r, .int x] M L (zk_Ei (if ¬ zs_w2 n r x then 1 else 0) M L) := by
  refine zk_ofR (ls := [some (.ref 0), some (.int r), some (.int x)]) (by decide) rfl (Nat.le_of_ble_eq_true rfl) rfl ?_
  refine zk_aload_n dX5_areWrong_0 rfl ?_
  refine zk_iload_n dX5_areWrong_1 rfl ?_
  refine zk_cVi (qX5_isRider hn hc) dX5_areWrong_2 mwX5_isRider ml_X5_118 (by decide : 0 < zm.1) rfl rfl (by decide) rfl (Nat.le_of_ble_eq_true rfl) ?_
  refine zk_if_eq (tgt := 15) dX5_areWrong_5 (by decide) (fun h5 => ?_) (fun h5 => ?_)
  · have hr := zs_if0 h5
    refine zk_iconst dX5_areWrong_15 zc_1 ?_
    refine zk_goto (tgt := 20) dX5_areWrong_16 (by decide) ?_
    refine zk_zret rfl (by decide) dX5_areWrong_20 ?_
    exact zk_Ei_of (by first | exact (if_pos (fun q => hr q.1)).symm | exact (if_pos (fun q => hx q.2)).symm | exact (if_neg (fun q => q ⟨hr, hx⟩)).symm) rfl rfl
  · have hr := zs_if1 h5
    refine zk_iload_n dX5_areWrong_8 rfl ?_
    refine zk_cSi (qX5_isPlace) dX5_areWrong_9 miX5_isPlace ml_X5_104 stX5_isPlace rfl (by decide) rfl (Nat.le_of_ble_eq_true rfl) ?_
    refine zk_if_ne (tgt := 19) dX5_areWrong_12 (by decide) (fun h12 => ?_) (fun h12 => ?_)
    · have hx := zs_if1 h12
      refine zk_iconst dX5_areWrong_19 zc_0 ?_
      refine zk_zret rfl (by decide) dX5_areWrong_20 ?_
      exact zk_Ei_of (by first | exact (if_pos (fun q => hr q.1)).symm | exact (if_pos (fun q => hx q.2)).symm | exact (if_neg (fun q => q ⟨hr, hx⟩)).symm) rfl rfl
    · have hx := zs_if0 h12
      refine zk_iconst dX5_areWrong_15 zc_1 ?_
      refine zk_goto (tgt := 20) dX5_areWrong_16 (by decide) ?_
      refine zk_zret rfl (by decide) dX5_areWrong_20 ?_
      exact zk_Ei_of (by first | exact (if_pos (fun q => hr q.1)).symm | exact (if_pos (fun q => hx q.2)).symm | exact (if_neg (fun q => q ⟨hr, hx⟩)).symm) rfl rfl
