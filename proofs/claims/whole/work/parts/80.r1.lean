/-! a county of the class and a row of the reference -/
def zs_rg (f : Nat → Int32) : Prop := (0 ≤ f 5 ∧ f 5 ≤ 4) ∧ 0 ≤ f 6 ∧ f 6 ≤ 99
def zr (cnt day : Int32) (J T : Nat → Int32) (R : Nat → Nat → Int32) (a : Nat → Int32) (n : Nat) : Prop :=
  zs_A a n ∧ cnt = nI n ∧ day = a 1 ∧ zs_ag 8 J (zs_J a) ∧ zs_ag 64 T (zs_FW (zs_J a)) ∧ (∀ p, p < 6 → zs_ag 7 (R p) (zs_get a p)) ∧ (∀ i, i < 8 → 0 ≤ zs_J a i ∧ zs_J a i < 256) ∧ ∀ p, p < 6 → zs_rg (zs_get a p)
abbrev zr1 (M : zk_M) (a : Nat → Int32) (n : Nat) : Prop := zr (M 1 2) (M 1 3) (M 3) (M 4) (fun p => M (6 + p)) a n
theorem zr.A {cnt day : Int32} {J T : Nat → Int32} {R : Nat → Nat → Int32} {a : Nat → Int32} {n : Nat} (h : zr cnt day J T R a n) : zs_A a n := h.1
theorem zr.J {cnt day : Int32} {J T : Nat → Int32} {R : Nat → Nat → Int32} {a : Nat → Int32} {n : Nat} (h : zr cnt day J T R a n) : zs_ag 8 J (zs_J a) := h.2.2.2.1
theorem zr.T {cnt day : Int32} {J T : Nat → Int32} {R : Nat → Nat → Int32} {a : Nat → Int32} {n : Nat} (h : zr cnt day J T R a n) : zs_ag 64 T (zs_FW (zs_J a)) := h.2.2.2.2.1
theorem zr.F {cnt day : Int32} {J T : Nat → Int32} {R : Nat → Nat → Int32} {a : Nat → Int32} {n : Nat} (h : zr cnt day J T R a n) {p : Nat} (hp : p < 6) : zs_ag 7 (R p) (zs_get a p) := h.2.2.2.2.2.1 p hp
theorem zr.B {cnt day : Int32} {J T : Nat → Int32} {R : Nat → Nat → Int32} {a : Nat → Int32} {n : Nat} (h : zr cnt day J T R a n) {i : Nat} (hi : i < 8) : 0 ≤ zs_J a i ∧ zs_J a i < 256 := h.2.2.2.2.2.2.1 i hi
theorem zr.G {cnt day : Int32} {J T : Nat → Int32} {R : Nat → Nat → Int32} {a : Nat → Int32} {n : Nat} (h : zr cnt day J T R a n) {p : Nat} (hp : p < 6) : zs_rg (zs_get a p) := h.2.2.2.2.2.2.2 p hp
theorem zr.ok {cnt day : Int32} {J T : Nat → Int32} {R : Nat → Nat → Int32} {a : Nat → Int32} {n : Nat} (h : zr cnt day J T R a n) {p : Nat} (hp : p < 6) : zs_ok (R p) := zs_ok_ag (h.F hp).sm (h.1.2.2 p hp).1
theorem zr.I {M : zk_M} {a : Nat → Int32} {n : Nat} (h : zr1 M a n) : zs_I M n := ⟨h.1.1, h.2.1, fun q hq => h.ok hq⟩
theorem zr.lt {cnt day : Int32} {J T : Nat → Int32} {R : Nat → Nat → Int32} {a : Nat → Int32} {n : Nat} (h : zr cnt day J T R a n) {p : Nat} (hp : p < n) : p < 6 := Nat.lt_of_lt_of_le hp h.1.1
theorem e_cm {M : zk_M} {a : Nat → Int32} {n : Nat} (h : zr1 M a n) {p : Nat} (hp : p < 6) {x : Int32} : zs_cm M p x = zu_cm (zs_J a) (zs_FW (zs_J a)) x (zs_get a p) := zs_until_ag h.J h.T 61 0 _ _ (h.F hp) (h.ok hp)
theorem zu_cm_nI (J T : Nat → Int32) (x : Int32) (f : Nat → Int32) : ∃ j, j ≤ 61 ∧ zu_cm J T x f = nI j := zs_until_le 61 0 f rfl
theorem zs_60 {j : Nat} (h : j ≤ 61) : (60 : Int32) < nI j ↔ nI j = 61 := by
  constructor
  · intro q
    have : ¬ j ≤ 60 := fun k => absurd q (nI_nlt (a := 60) k (by decide))
    rw [show j = 61 by omega]; rfl
  · intro q
    rw [q]; decide
theorem e_comes {M : zk_M} {a : Nat → Int32} {n : Nat} (h : zr1 M a n) {p : Nat} (hp : p < 6) {x : Int32} : (if 60 < zs_cm M p x then -9 else zs_cm M p x) = zs_cmv (zs_J a) (zs_FW (zs_J a)) x 61 0 (zs_get a p) := by
  rw [e_cm h hp]
  obtain ⟨j, hj, e⟩ := zu_cm_nI (zs_J a) (zs_FW (zs_J a)) x (zs_get a p)
  have e' : (zs_until (zs_J a) (zs_FW (zs_J a)) x 61 0 (zs_get a p)).1 = nI j := e
  rw [zs_cmv, e', e]
  by_cases q : nI j = 61
  · rw [if_pos q, if_pos ((zs_60 hj).mpr q)]
  · rw [if_neg q, if_neg (fun k => q ((zs_60 hj).mp k))]
theorem e_first {M : zk_M} {a : Nat → Int32} {n : Nat} (h : zr1 M a n) {x : Int32} : zs_for (zs_fst M x) n 0 (-9, 61) = zs_for (zu_fst (zs_J a) (zs_FW (zs_J a)) x (fun p => zs_get a p)) n 0 (-9, 61) :=
  zs_for_rel (fun _ s t => s = t) n 0 _ _ (fun j s t _ hj e => by
    subst e
    unfold zs_fst zu_fst
    rw [e_cm h (h.lt (by omega))]) rfl
theorem e_th {M : zk_M} {a : Nat → Int32} {n : Nat} (h : zr1 M a n) {p : Nat} (hp : p < 6) {t k : Nat} (hk : k < 2) : zs_th M p t (nI k) = zs_rides (zs_J a) (zs_FW (zs_J a)) t (zs_get a p) (4 + k) := by
  have q := zs_rides_ag h.J h.T t _ _ (h.F hp) (h.ok hp)
  unfold zs_th
  rcases (show k = 0 ∨ k = 1 by omega) with rfl | rfl
  · rw [if_pos (by decide)]; exact q 4 (by decide)
  · rw [if_neg (by decide)]; exact q 5 (by decide)
theorem e_meet {M : zk_M} {a : Nat → Int32} {n : Nat} (h : zr1 M a n) {p q : Nat} (hp : p < 6) (hq : q < 6) {x : Int32} : zs_meet (M 3) (M 4) x 61 0 (M (6 + p)) (M (6 + q)) = zs_meet (zs_J a) (zs_FW (zs_J a)) x 61 0 (zs_get a p) (zs_get a q) := zs_meet_ag h.J h.T 61 0 _ _ _ _ (h.F hp) (h.F hq) (h.ok hp) (h.ok hq)
/-! rests -/
theorem zs_rides_succ {J T : Nat → Int32} : ∀ (n : Nat) (f : Nat → Int32), zs_rides J T (n + 1) f = zs_ride J T (zs_rides J T n f)
  | 0, _ => rfl
  | n + 1, f => zs_rides_succ n (zs_ride J T f)
theorem zs_rides_add {J T : Nat → Int32} : ∀ (m n : Nat) (f : Nat → Int32), zs_rides J T (n + m) f = zs_rides J T m (zs_rides J T n f)
  | 0, _, _ => rfl
  | m + 1, n, f => by rw [show n + (m + 1) = (n + m) + 1 by omega, zs_rides_succ, zs_rides_succ, zs_rides_add m n f]
def zv_cr (pos : Nat → Int32) : Nat → Nat → Nat → Int32
  | 0, _, _ => -9
  | m + 1, day, since => if day = since + 5 then nI since else zv_cr pos m (day + 1) (if pos (day + 1) = pos day then since else day + 1)
abbrev zv_P (pos : Nat → Int32) (i : Nat) : Prop := ∀ j, j < 5 → pos (i + j + 1) = pos i
def zv_mr (pos : Nat → Int32) : Nat → Nat → Int32
  | 0, _ => -9
  | m + 1, i => if zv_P pos i then nI i else zv_mr pos m (i + 1)
theorem zv_skip {pos : Nat → Int32} : ∀ (k s : Nat), (∀ i, s ≤ i → i < s + k → ¬ zv_P pos i) → zv_mr pos (61 - s) s = zv_mr pos (61 - (s + k)) (s + k)
  | 0, _, _ => rfl
  | k + 1, s, h => by
    have h1 := zv_skip k (s + 1) (fun i h1 h2 => h i (by omega) (by omega))
    rw [show s + (k + 1) = s + 1 + k by omega, ← h1]
    by_cases q : s < 61
    · rw [show 61 - s = (61 - (s + 1)) + 1 by omega, zv_mr, if_neg (h s (Nat.le_refl _) (by omega))]
    · rw [show 61 - s = 0 by omega, show 61 - (s + 1) = 0 by omega]; rfl
theorem zv_rest {pos : Nat → Int32} : ∀ (m day since : Nat), m + day = 66 → since ≤ day → day ≤ since + 5 → (∀ i, since ≤ i → i ≤ day → pos i = pos since) → zv_cr pos m day since = zv_mr pos (61 - since) since
  | 0, day, since, hm, h1, h2, hc => by rw [show 61 - since = 0 by omega]; rfl
  | m + 1, day, since, hm, h1, h2, hc => by
    unfold zv_cr
    by_cases q : day = since + 5
    · rw [if_pos q, show 61 - since = (60 - since) + 1 by omega, zv_mr, if_pos (fun j hj => hc _ (by omega) (by omega))]
    · rw [if_neg q]
      by_cases e : pos (day + 1) = pos day
      · rw [if_pos e]
        refine zv_rest m (day + 1) since (by omega) (by omega) (by omega) (fun i hi1 hi2 => ?_)
        by_cases e2 : i = day + 1
        · rw [e2, e]; exact hc day h1 (Nat.le_refl _)
        · exact hc i hi1 (by omega)
      · rw [if_neg e, zv_rest m (day + 1) (day + 1) (by omega) (Nat.le_refl _) (by omega) (fun i hi1 hi2 => by rw [show i = day + 1 by omega])]
        have := zv_skip (pos := pos) (day + 1 - since) since (fun i hi1 hi2 hP => e (by
          have h3 := hP (day - i) (by omega)
          rw [show i + (day - i) + 1 = day + 1 by omega] at h3
          rw [h3, hc i hi1 (by omega), hc day h1 (Nat.le_refl _)]))
        rw [this, show since + (day + 1 - since) = day + 1 by omega]
theorem zs_rest_cr {J T f : Nat → Int32} : ∀ (m day since : Nat), since ≤ day → m + day < 100 → zs_rest J T m day since (zs_rides J T day f) = zv_cr (fun i => zs_rides J T i f 4) m day since
  | 0, _, _, _, _ => rfl
  | m + 1, day, since, h, hm => by
    unfold zs_rest zv_cr
    rw [zs_nI_sub h (by omega)]
    by_cases q : day = since + 5
    · rw [if_pos q, if_pos (by rw [q, Nat.add_sub_cancel_left]; rfl)]
    · rw [if_neg q, if_neg (fun e => q (by have := zs_nI_inj (b := 5) (by omega) (by decide) e; omega)), ← zs_rides_succ]
      have e2 : (if zs_rides J T (day + 1) f 4 = zs_rides J T day f 4 then since else day + 1) ≤ day + 1 := by split <;> omega
      exact zs_rest_cr m (day + 1) _ e2 (by omega)
theorem zs_ir_P {J T f : Nat → Int32} {x : Int32} : ∀ (m i : Nat), zs_ir J T x m (zs_rides J T i f) = true ↔ ∀ j, j < m → zs_rides J T (i + j + 1) f 4 = x
  | 0, _ => ⟨fun _ j hj => absurd hj (Nat.not_lt_zero j), fun _ => rfl⟩
  | m + 1, i => by
    unfold zs_ir
    rw [Bool.and_eq_true, decide_eq_true_eq, ← zs_rides_succ, zs_ir_P m (i + 1)]
    constructor
    · intro ⟨h1, h2⟩ j hj
      cases j with
      | zero => exact h1
      | succ j => have := h2 j (by omega); rwa [show i + 1 + j + 1 = i + (j + 1) + 1 by omega] at this
    · intro h
      exact ⟨h 0 (by omega), fun j hj => by have := h (j + 1) (by omega); rwa [show i + (j + 1) + 1 = i + 1 + j + 1 by omega] at this⟩
theorem zs_mrs_mr {J T f : Nat → Int32} : ∀ (m i : Nat), zs_mrs J T f m i = zv_mr (fun i => zs_rides J T i f 4) m i
  | 0, _ => rfl
  | m + 1, i => by
    unfold zs_mrs zv_mr
    have e : zs_irb J T (zs_rides J T i f) = true ↔ zv_P (fun i => zs_rides J T i f 4) i := zs_ir_P 5 i
    by_cases q : zv_P (fun i => zs_rides J T i f 4) i
    · rw [if_pos q, if_pos (e.mpr q)]
    · rw [if_neg q, if_neg (fun k => q (e.mp k)), zs_mrs_mr m (i + 1)]
theorem e_rests {M : zk_M} {a : Nat → Int32} {n : Nat} (h : zr1 M a n) {p : Nat} (hp : p < 6) : zs_rest (M 3) (M 4) 66 0 0 (M (6 + p)) = zs_mrs (zs_J a) (zs_FW (zs_J a)) (zs_get a p) 61 0 := by
  rw [zs_rest_ag h.J h.T 66 0 0 _ _ (h.F hp) (h.ok hp), zs_mrs_mr]
  have := zs_rest_cr (J := zs_J a) (T := zs_FW (zs_J a)) (f := zs_get a p) 66 0 0 (Nat.le_refl _) (by decide)
  rw [show zs_rides (zs_J a) (zs_FW (zs_J a)) 0 (zs_get a p) = zs_get a p from rfl] at this
  rw [this]
  exact zv_rest 66 0 0 rfl (Nat.le_refl _) (by omega) (fun i h1 h2 => by rw [show i = 0 by omega])
