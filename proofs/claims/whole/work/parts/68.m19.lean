/-! the telling as the reference does it -/
def zu_nums (h : Nat → Int32) (st j : Nat) : Int32 := if h st = 104 then (if j = 0 then zs_kl (h (st + 1)) else h (st + 1 + j) - 48) else if h st = 100 then 10 * (h (st + 1) - 48) + (h (st + 2) - 48) else h (st + 1 + j) - 48
def zu_use (o : Int32) : Nat := if o = 104 then 5 else if o = 100 then 1 else if o = 115 then 1 else 2
abbrev zs_six (o : Int32) : Prop := o = 97 ∨ o = 100 ∨ o = 104 ∨ o = 114 ∨ o = 115 ∨ o = 119
theorem zu_st_six {h : Nat → Int32} {st : Nat} (e : (zu_st h st).1 = true) : zs_six (h st) := Classical.byContradiction (fun q => by
  rw [zu_st_0 (fun x => q (Or.inl x)) (fun x => q (Or.inr (Or.inl x))) (fun x => q (Or.inr (Or.inr (Or.inl x)))) (fun x => q (Or.inr (Or.inr (Or.inr (Or.inl x))))) (fun x => q (Or.inr (Or.inr (Or.inr (Or.inr (Or.inl x)))))) (fun x => q (Or.inr (Or.inr (Or.inr (Or.inr (Or.inr x))))))] at e
  cases e)
theorem zu_chk_t : ∀ (bs : List Bool) (i : Nat), (zu_chk bs i).1 = true → (∀ b, b ∈ bs → b = true) ∧ (zu_chk bs i).2 = i + bs.length
  | [], i, _ => ⟨fun b hb => absurd hb (by simp), rfl⟩
  | b :: bs, i, e => by
    unfold zu_chk at e ⊢
    by_cases hb : b = true
    · rw [if_pos hb] at e ⊢
      obtain ⟨h1, h2⟩ := zu_chk_t bs (i + 1) e
      refine ⟨fun c hc => ?_, by rw [h2, List.length_cons]; omega⟩
      rcases List.mem_cons.mp hc with rfl | hc
      · exact hb
      · exact h1 c hc
    · rw [if_neg hb] at e; cases e
theorem zu_chk_le : ∀ (bs : List Bool) (i : Nat), (zu_chk bs i).2 ≤ i + bs.length
  | [], i => Nat.le_refl _
  | b :: bs, i => by
    unfold zu_chk
    split
    · have := zu_chk_le bs (i + 1); rw [List.length_cons]; omega
    · exact Nat.le_add_right _ _
theorem zu_tests_len (h : Nat → Int32) (st : Nat) : (zu_tests h st).length ≤ 7 ∧ 1 ≤ (zu_tests h st).length := by
  unfold zu_tests
  repeat' split
  all_goals exact ⟨by simp, by simp⟩
theorem zu_st_le (h : Nat → Int32) (st : Nat) : (zu_st h st).2 ≤ st + 7 := Nat.le_trans (zu_chk_le _ _) (Nat.add_le_add_left (zu_tests_len h st).1 _)
theorem zu_st_gt {h : Nat → Int32} {st : Nat} (e : (zu_st h st).1 = true) : st < (zu_st h st).2 := by
  have := (zu_chk_t _ _ e).2
  have h2 := (zu_tests_len h st).2
  unfold zu_st
  omega
theorem zu_st_kl {h : Nat → Int32} {st : Nat} (e : (zu_st h st).1 = true) (ho : h st = 104) : 0 ≤ zs_kl (h (st + 1)) := by
  rw [zu_st_h ho] at e
  exact of_decide_eq_true ((zu_chk_t _ _ e).1 _ (by simp))
theorem zu_do_cg {a : Nat → Int32} {n : Nat} {o : Int32} {N N' : Nat → Int32} (ho : zs_six o) (h : zs_ag (zu_use o) N N') : zu_do a n o N = zu_do a n o N' := by
  rcases ho with rfl | rfl | rfl | rfl | rfl | rfl
  · rw [zu_do_a, zu_do_a, h 0 (by decide), h 1 (by decide)]
  · rw [zu_do_d, zu_do_d, h 0 (by decide)]
  · rw [zu_do_h, zu_do_h]; unfold zu_new; rw [h 0 (by decide), h 1 (by decide), h 2 (by decide), h 3 (by decide), h 4 (by decide)]
  · rw [zu_do_r, zu_do_r, h 0 (by decide), h 1 (by decide)]
  · rw [zu_do_s, zu_do_s, h 0 (by decide)]
  · rw [zu_do_w, zu_do_w, h 0 (by decide), h 1 (by decide)]
theorem zs_A.tn {a : Nat → Int32} {n : Nat} (h : zs_A a n) : (a 0).toNatClampNeg = n := by rw [h.2.1, nI_clamp (by have := h.1; omega)]
theorem zs_new_okk {f : Nat → Int32} {k g x y z : Int32} (hk : 0 ≤ k ∧ k < 6) (hx : zs_p x) (hy : zs_p y) (hz : zs_p z) : zs_okk (zs_new f k g x y z) := by
  unfold zs_new
  refine zs_shod_okk ⟨⟨?_, ?_, ?_⟩, ?_⟩
  · rw [zk_up_ne (by decide), zk_up_ne (by decide), zk_up_eq]; exact hx
  · rw [zk_up_ne (by decide), zk_up_eq]; exact hy
  · rw [zk_up_eq]; exact hz
  · rw [zk_up_ne (by decide), zk_up_ne (by decide), zk_up_ne (by decide), zk_up_ne (by decide), zk_up_eq]; exact hk
theorem zs_get_up0 {a : Nat → Int32} {v : Int32} {p : Nat} : zs_get (va_up a 0 v) p = zs_get a p := by
  funext i
  simp only [zs_get, va_up]
  rw [if_neg (by omega)]
theorem zu_do_A {a a' : Nat → Int32} {n : Nat} {o : Int32} {N : Nat → Int32} (hA : zs_A a n) (ho : zs_six o) (hk : o = 104 → 0 ≤ N 0 ∧ N 0 < 6) (e : zu_do a n o N = some a') : ∃ n', zs_A a' n' := by
  have hn6 := hA.1
  rcases ho with rfl | rfl | rfl | rfl | rfl | rfl
  · rw [zu_do_a] at e
    split at e
    · next q =>
      cases e
      obtain ⟨p, hp, ep⟩ := zs_isr_nI hA.1 q.1
      rw [ep, nI_clamp (by omega)]
      exact ⟨n, hA.put (zs_okk4 (hA.2.2 p (by omega)) q.2)⟩
    · cases e
  · rw [zu_do_d] at e
    split at e
    · cases e; exact ⟨n, hA.daysA _ _⟩
    · cases e
  · rw [zu_do_h] at e
    split at e
    · next q =>
      cases e
      refine ⟨n + 1, by omega, by rw [zu_new, zk_up_eq], fun p hp => ?_⟩
      rw [zu_new, zs_get_up0]
      have := (hA.put (p := n) (zs_new_okk (f := zs_get a n) (g := N 1) (hk rfl) q.1 q.2.1 q.2.2.1)).2.2 p hp
      exact this
    · cases e
  · rw [zu_do_r] at e
    split at e
    · next q => cases e; exact ⟨n, hA.trn q.1 q.2.1⟩
    · cases e
  · rw [zu_do_s] at e
    split at e
    · next q =>
      cases e
      obtain ⟨p, hp, ep⟩ := zs_isr_nI hA.1 q
      rw [ep, nI_clamp (by omega)]
      exact ⟨n, hA.put (zs_shod_okk (hA.2.2 p (by omega)))⟩
    · cases e
  · rw [zu_do_w] at e
    split at e
    · next q =>
      cases e
      obtain ⟨p, hp, ep⟩ := zs_isr_nI hA.1 q.1
      rw [ep, nI_clamp (by omega)]
      exact ⟨n, hA.put (zs_okk2 (hA.2.2 p (by omega)) q.2)⟩
    · cases e
theorem zs_ag2 {f g : Nat → Int32} (h0 : f 0 = g 0) (h1 : f 1 = g 1) : zs_ag 2 f g := fun i hi => by
  rcases (show i = 0 ∨ i = 1 by omega) with rfl | rfl
  · exact h0
  · exact h1
theorem zs_ag1 {f g : Nat → Int32} (h0 : f 0 = g 0) : zs_ag 1 f g := fun i hi => by
  obtain rfl : i = 0 := by omega
  exact h0
theorem qX5_rs {l : Launch} {M : zk_M} {L : zk_L} {k : Nat} (hL : zs_L M k) {st : Nat} (hst : st < 150) (hp : M 0 11 = nI st) : zk_C l zm 2 muX5_readsStatement [.ref 0] M L (fun r M1 _ => r = some (.int (zs_bi (zu_st (zu_h (M 6) k) st).1)) ∧ zs_pr M M1 ∧ M1 0 11 = nI (zu_st (zu_h (M 6) k) st).2 ∧ ((zu_st (zu_h (M 6) k) st).1 = true → zs_ag (zu_use (zu_h (M 6) k st)) (M1 9) (zu_nums (zu_h (M 6) k) st))) := by
  by_cases h1 : zu_h (M 6) k st = 97
  · refine zk_C_mono (qX5_rs_a hL hst hp h1) (fun r M' L' q => ⟨q.1, q.2.1, q.2.2.1, fun e => ?_⟩)
    rw [h1]
    exact zs_ag2 (by rw [(q.2.2.2 e).1, zu_nums, if_neg (by rw [h1]; decide), if_neg (by rw [h1]; decide)]) (by rw [(q.2.2.2 e).2, zu_nums, if_neg (by rw [h1]; decide), if_neg (by rw [h1]; decide)])
  by_cases h2 : zu_h (M 6) k st = 100
  · refine zk_C_mono (qX5_rs_d hL hst hp h2) (fun r M' L' q => ⟨q.1, q.2.1, q.2.2.1, fun e => ?_⟩)
    rw [h2]
    exact zs_ag1 (by rw [q.2.2.2 e, zu_nums, if_neg (by rw [h2]; decide), if_pos h2])
  by_cases h3 : zu_h (M 6) k st = 104
  · refine zk_C_mono (qX5_rs_h hL hst hp h3) (fun r M' L' q => ⟨q.1, q.2.1, q.2.2.1, fun e => ?_⟩)
    rw [h3]
    obtain ⟨q0, q1, q2, q3, q4⟩ := q.2.2.2 e
    intro i hi
    have hi : i < 5 := hi
    rw [zu_nums, if_pos h3]
    rcases (show i = 0 ∨ i = 1 ∨ i = 2 ∨ i = 3 ∨ i = 4 by omega) with rfl | rfl | rfl | rfl | rfl
    · rw [q0, if_pos rfl]
    · rw [q1, if_neg (by decide)]
    · rw [q2, if_neg (by decide)]
    · rw [q3, if_neg (by decide)]
    · rw [q4, if_neg (by decide)]
  by_cases h4 : zu_h (M 6) k st = 114
  · refine zk_C_mono (qX5_rs_r hL hst hp h4) (fun r M' L' q => ⟨q.1, q.2.1, q.2.2.1, fun e => ?_⟩)
    rw [h4]
    exact zs_ag2 (by rw [(q.2.2.2 e).1, zu_nums, if_neg (by rw [h4]; decide), if_neg (by rw [h4]; decide)]) (by rw [(q.2.2.2 e).2, zu_nums, if_neg (by rw [h4]; decide), if_neg (by rw [h4]; decide)])
  by_cases h5 : zu_h (M 6) k st = 115
  · refine zk_C_mono (qX5_rs_s hL hst hp h5) (fun r M' L' q => ⟨q.1, q.2.1, q.2.2.1, fun e => ?_⟩)
    rw [h5]
    exact zs_ag1 (by rw [q.2.2.2 e, zu_nums, if_neg (by rw [h5]; decide), if_neg (by rw [h5]; decide)])
  by_cases h6 : zu_h (M 6) k st = 119
  · refine zk_C_mono (qX5_rs_w hL hst hp h6) (fun r M' L' q => ⟨q.1, q.2.1, q.2.2.1, fun e => ?_⟩)
    rw [h6]
    exact zs_ag2 (by rw [(q.2.2.2 e).1, zu_nums, if_neg (by rw [h6]; decide), if_neg (by rw [h6]; decide)]) (by rw [(q.2.2.2 e).2, zu_nums, if_neg (by rw [h6]; decide), if_neg (by rw [h6]; decide)])
  · refine zk_C_mono (qX5_rs_0 hL hst hp h1 h2 h3 h4 h5 h6) (fun r M' L' q => ⟨q.1, q.2.1, q.2.2.1, fun e => ?_⟩)
    rw [zu_st_0 h1 h2 h3 h4 h5 h6] at e
    cases e
theorem qX5_isDone {l : Launch} {M : zk_M} {L : zk_L} {n : Nat} (hA : zs_A (M 1) n) {o : Int32} (ho : zs_six o) (hk : o = 104 → 0 ≤ M 9 0 ∧ M 9 0 < 6) : zk_C l zm 5 muX5_isDone [.ref 0, .int o] M L (fun r M1 _ => r = some (.int (zs_bi (zu_do (M 1) n o (M 9)).isSome)) ∧ M1 1 = (zu_do (M 1) n o (M 9)).getD (M 1) ∧ zs_dn M M1) := by
  rcases ho with rfl | rfl | rfl | rfl | rfl | rfl
  · exact qX5_do_a hA
  · exact qX5_do_d hA
  · exact qX5_do_h hA (hk rfl)
  · exact qX5_do_r hA
  · exact qX5_do_s hA
  · exact qX5_do_w hA
def zu_p1 (h : Nat → Int32) (k : Nat) : Nat → Nat → Nat → Int32 × Nat
  | 0, _, c => (-9, c)
  | m + 1, st, c => if (zu_st h st).1 = true then (if (zu_st h st).2 < k then zu_p1 h k m (zu_st h st).2 (c + 1) else (-9, c + 1)) else (-1000 - nI (zu_st h st).2, c + 1)
def zu_all (h : Nat → Int32) (k : Nat) : Nat → Nat → Bool
  | 0, _ => true
  | m + 1, st => if st < k then (zu_st h st).1 && zu_all h k m (zu_st h st).2 else true
def zu_p2 (h : Nat → Int32) (k : Nat) : Nat → Nat → (Nat → Int32) → Int32 × Option (Nat → Int32)
  | 0, _, a => (-9, some a)
  | m + 1, st, a => if st < k then (match zu_do a (a 0).toNatClampNeg (h st) (zu_nums h st) with
    | none => (-2000 - nI st, none)
    | some a' => zu_p2 h k m (zu_st h st).2 a') else (-9, some a)
theorem zs_mk {j : Nat} (h : j < 300) : ¬ (-1000 : Int32) - nI j = -9 ∧ ¬ (-2000 : Int32) - nI j = -9 := by
  have c1 : (-1000 : Int32).toInt = -1000 := by decide
  have c2 : (-2000 : Int32).toInt = -2000 := by decide
  have c9 : (-9 : Int32).toInt = -9 := by decide
  have e1 : ((-1000 : Int32) - nI j).toInt = -1000 - j := by
    rw [Kit.i32_sub (by rw [nI_toInt (by omega), c1]; omega) (by rw [nI_toInt (by omega), c1]; omega), nI_toInt (by omega), c1]
  have e2 : ((-2000 : Int32) - nI j).toInt = -2000 - j := by
    rw [Kit.i32_sub (by rw [nI_toInt (by omega), c2]; omega) (by rw [nI_toInt (by omega), c2]; omega), nI_toInt (by omega), c2]
  refine ⟨fun e => ?_, fun e => ?_⟩
  · have := congrArg Int32.toInt e
    rw [e1, c9] at this
    omega
  · have := congrArg Int32.toInt e
    rw [e2, c9] at this
    omega
theorem zu_p1_all {h : Nat → Int32} {k : Nat} : ∀ (m st c : Nat), st < 150 → k ≤ 96 → (zu_p1 h k m st c).1 = -9 → zu_all h k m st = true
  | 0, _, _, _, _, _ => rfl
  | m + 1, st, c, hst, hk, e => by
    unfold zu_p1 at e
    unfold zu_all
    by_cases q : (zu_st h st).1 = true
    · rw [if_pos q] at e
      split
      · rw [q, Bool.true_and]
        by_cases q2 : (zu_st h st).2 < k
        · rw [if_pos q2] at e
          exact zu_p1_all m _ _ (by omega) hk e
        · cases m with
          | zero => rfl
          | succ m => unfold zu_all; rw [if_neg q2]
      · rfl
    · rw [if_neg q] at e
      exact absurd e (zs_mk (by have := zu_st_le h st; omega)).1
