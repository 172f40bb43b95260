/-! the judgement zk_R: a method of a class whose objects are all made, over a static shape; memory as numbers by object and slot -/
abbrev zk_Sh : Type := Nat × (Nat → Nat) × (Nat → Nat) × (Nat → Nat → Nat)
abbrev zk_M : Type := Nat → Nat → Int32
abbrev zk_L : Type := Nat → Nat → Int64
/-- a method: name, code, locals, answer, its class -/
abbrev zk_I : Type := MethodName × ByteArray × Nat × Option FieldType × String
def zk_isref (c k : Nat) : Bool := match c with
  | 0 => decide (k < 2)
  | 2 => true
  | 3 => decide (k = 0)
  | 4 => decide (k < 12)
  | 5 => decide (k < 5) || decide (6 ≤ k ∧ k < 9) || decide (12 ≤ k ∧ k < 14)
  | _ => false
def zk_nf (c : Nat) : Nat := match c with
  | 0 => 4
  | 1 => 7
  | 2 => 2
  | 3 => 2
  | 4 => 14
  | 5 => 15
  | _ => 0
def zk_mv (ad : Nat → Nat) (v : Value) : Value := match v with
  | .ref k => .ref (ad k)
  | v => v
theorem zk_mv_cat (ad : Nat → Nat) (v : Value) : (zk_mv ad v).category = v.category := by cases v <;> rfl
def zk_fv (ad : Nat → Nat) (σ : zk_Sh) (M : zk_M) (o k : Nat) : Value := if zk_isref (σ.2.1 o) k = true then .ref (ad (σ.2.2.2 o k)) else .int (M o k)
def zk_ent (ad : Nat → Nat) (cs : ClassId × ClassId × ClassId) (σ : zk_Sh) (M : zk_M) (L : zk_L) (o : Nat) : va_E :=
  if σ.2.1 o = 100 then .inl (cs.1, σ.2.2.1 o, .inl (M o))
  else if σ.2.1 o = 101 then .inl (cs.2.1, σ.2.2.1 o, .inr (.inl (L o)))
  else if σ.2.1 o = 102 then .inl (cs.2.2, σ.2.2.1 o, .inr (.inr (.inr (.inr (fun j => some (ad (σ.2.2.2 o j)))))))
  else .inr (σ.2.1 o, (List.range (zk_nf (σ.2.1 o))).map (zk_fv ad σ M o))
def zk_ws (ad : Nat → Nat) (cs : ClassId × ClassId × ClassId) (σ : zk_Sh) (M : zk_M) (L : zk_L) : va_W := (List.range σ.1).map (fun o => (ad o, zk_ent ad cs σ M L o))
def zk_ty (cs : ClassId × ClassId × ClassId) : List (ClassId × FieldType) := [(cs.1, .int), (cs.2.1, .long), (cs.2.2, .object RX1)]
def zk_A (σ : zk_Sh) (ad : Nat → Nat) (sz : Nat) : Nat → Prop := fun q => (∃ o, o < σ.1 ∧ q = ad o) ∨ sz ≤ q
def zk_tb : List Cond := lw_tbl.filter goodWord
def zk_nw : List Cond := lw_tbl.filter (fun w => match w with | .methodLinkNest _ _ _ _ => true | _ => false)
def zk_wd (μ : zk_I) : List Cond := .code μ.1 μ.2.1 μ.2.2.1 μ.2.2.2.1 :: zk_tb
def zk_rm (d : Nat) : Room := { frames := d, cells := 0, slots := 0, locals := 38 * d }
def zk_lv (lsA : Array Slot) (nL : Nat) (ad : Nat → Nat) (ls : List (Option Value)) : Prop := lsA.size = nL ∧ lv_wf lsA ∧ ls.length = nL ∧ ∀ (i : Nat) (v : Value), ls[i]? = some (some v) → lsA[i]? = some (.val (zk_mv ad v))
def zk_X (μ : zk_I) (cs : ClassId × ClassId × ClassId) (D : va_G) (p : Program) (s : State) (m : MethodId) (args : Array Value) (meth : Method) (c : Code) : Prop :=
  p.tables.exec = Jvm.exec ∧ c.code = μ.2.1 ∧ meth.sig.returnType = μ.2.2.2.1 ∧ c.maxLocals = μ.2.2.1 ∧ s.vm.findClass μ.2.2.2.2 = some m.cls ∧ (∀ w ∈ zk_tb, w.before args s = true) ∧ (∀ w ∈ zk_nw, va_Nw w s) ∧ meth.locks = false ∧ va_K D vwCl (zk_ty cs) s
def zk_H (σ : zk_Sh) (ad : Nat → Nat) (cs : ClassId × ClassId × ClassId) (D : va_G) (A : Nat → Prop) (M : zk_M) (L : zk_L) (H : Heap) : Prop := va_P D vwCl (zk_ws ad cs σ M L) H ∧ va_D A (zk_ws ad cs σ M L)
def zk_Q (σ : zk_Sh) (ad : Nat → Nat) (cs : ClassId × ClassId × ClassId) (D : va_G) (A : Nat → Prop) (Q : Option Value → zk_M → zk_L → Prop) : Array Value → State → Outcome → State → Prop := fun _ st oc t =>
  (∃ (r : Option Value) (M : zk_M) (L : zk_L), oc = .returned (r.map (zk_mv ad)) ∧ Q r M L ∧ zk_H σ ad cs D A M L t.heap ∧ va_K D vwCl (zk_ty cs) t) ∧ va_F A st t
/-- at pc with these locals and this stack, over this memory, the method comes to its end, with Q -/
def zk_R (l : Launch) (σ : zk_Sh) (d : Nat) (μ : zk_I) (pc : Nat) (ls : List (Option Value)) (st : List Value) (M : zk_M) (L : zk_L) (Q : Option Value → zk_M → zk_L → Prop) : Prop :=
  ∀ (p : Program) (e : Env) (s : State) (m : MethodId) (args : Array Value) (below : List Frame) (meth : Method) (c : Code) (ad : Nat → Nat) (cs : ClassId × ClassId × ClassId) (D : va_G) (H : Heap) (locs : List Loc) (lsA : Array Slot),
    zk_X μ cs D p s m args meth c → zk_H σ ad cs D (zk_A σ ad s.heap.size) M L H → va_S (zk_A σ ad s.heap.size) s.heap H locs → zk_lv lsA μ.2.2.1 ad ls →
    W p l e (zk_rm d) s m args below meth c H locs 0 0 (MQ below (zk_Q σ ad cs D (zk_A σ ad s.heap.size) Q) args s 0 0 (zk_A σ ad s.heap.size)) (F0 m pc lsA (st.map (zk_mv ad)))
/-- the contract of a method -/
def zk_C (l : Launch) (σ : zk_Sh) (d : Nat) (μ : zk_I) (as : List Value) (M : zk_M) (L : zk_L) (Q : Option Value → zk_M → zk_L → Prop) : Prop :=
  ∀ (ad : Nat → Nat) (cs : ClassId × ClassId × ClassId) (D : va_G) (sz : Nat), Met l μ.1 (zk_wd μ) (zk_rm d) (va_Pc (as.map (zk_mv ad)) (fun U => U.heap.size = sz ∧ zk_H σ ad cs D (fun _ => True) M L U.heap ∧ va_K D vwCl (zk_ty cs) U ∧ ∀ w ∈ zk_nw, va_Nw w U)) (zk_Q σ ad cs D (zk_A σ ad sz) Q) 0 0 (zk_A σ ad sz)
def zk_Ei (v : Int32) (M' : zk_M) (L' : zk_L) : Option Value → zk_M → zk_L → Prop := fun r M L => r = some (.int v) ∧ M = M' ∧ L = L'
def zk_El (v : Int64) (M' : zk_M) (L' : zk_L) : Option Value → zk_M → zk_L → Prop := fun r M L => r = some (.long v) ∧ M = M' ∧ L = L'
def zk_Ev (M' : zk_M) (L' : zk_L) : Option Value → zk_M → zk_L → Prop := fun r M L => r = none ∧ M = M' ∧ L = L'
theorem zk_in {w : Cond} (i : Nat) (h : lw_tbl[i]? = some w) (hg : goodWord w = true) : w ∈ zk_tb := List.mem_filter.mpr ⟨List.mem_of_getElem? h, hg⟩
theorem zk_good : ∀ w ∈ zk_tb, (w.onTables && w.keeps) = true ∨ ∃ ty, w = .arrayClass ty := fun _ h => good_of_word (List.mem_filter.mp h).2
theorem zk_at {ad : Nat → Nat} {cs : ClassId × ClassId × ClassId} {σ : zk_Sh} {M : zk_M} {L : zk_L} {o : Nat} (ho : o < σ.1) : (zk_ws ad cs σ M L)[o]? = some (ad o, zk_ent ad cs σ M L o) := by simp [zk_ws, ho]
theorem zk_ent_o {ad : Nat → Nat} {cs : ClassId × ClassId × ClassId} {σ : zk_Sh} {M : zk_M} {L : zk_L} {o c : Nat} (hc : σ.2.1 o = c) (h6 : c < 6) : zk_ent ad cs σ M L o = .inr (c, (List.range (zk_nf c)).map (zk_fv ad σ M o)) := by
  subst hc
  simp only [zk_ent]
  rw [if_neg (by omega), if_neg (by omega), if_neg (by omega)]
theorem zk_ent_i {ad : Nat → Nat} {cs : ClassId × ClassId × ClassId} {σ : zk_Sh} {M : zk_M} {L : zk_L} {o : Nat} (hc : σ.2.1 o = 100) : zk_ent ad cs σ M L o = .inl (cs.1, σ.2.2.1 o, .inl (M o)) := by simp [zk_ent, hc]
theorem zk_ent_l {ad : Nat → Nat} {cs : ClassId × ClassId × ClassId} {σ : zk_Sh} {M : zk_M} {L : zk_L} {o : Nat} (hc : σ.2.1 o = 101) : zk_ent ad cs σ M L o = .inl (cs.2.1, σ.2.2.1 o, .inr (.inl (L o))) := by simp [zk_ent, hc]
theorem zk_ent_q {ad : Nat → Nat} {cs : ClassId × ClassId × ClassId} {σ : zk_Sh} {M : zk_M} {L : zk_L} {o : Nat} (hc : σ.2.1 o = 102) : zk_ent ad cs σ M L o = .inl (cs.2.2, σ.2.2.1 o, .inr (.inr (.inr (.inr (fun j => some (ad (σ.2.2.2 o j))))))) := by simp [zk_ent, hc]
theorem zk_up_ne {α : Type} {f : Nat → α} {k j : Nat} {v : α} (h : j ≠ k) : va_up f k v j = f j := by simp [va_up, h]
theorem zk_up_eq {α : Type} {f : Nat → α} {k : Nat} {v : α} : va_up f k v k = v := by simp [va_up]
theorem zk_ent_congr {ad : Nat → Nat} {cs : ClassId × ClassId × ClassId} {σ : zk_Sh} {M M' : zk_M} {L L' : zk_L} {j : Nat} (h : M j = M' j) (h' : L j = L' j) : zk_ent ad cs σ M L j = zk_ent ad cs σ M' L' j := by
  have e : zk_fv ad σ M j = zk_fv ad σ M' j := by funext k; simp only [zk_fv, h]
  simp only [zk_ent, h, h', e]
theorem zk_setW {ad : Nat → Nat} {cs : ClassId × ClassId × ClassId} {σ : zk_Sh} {M M' : zk_M} {L L' : zk_L} {o : Nat} (hM : ∀ j, j ≠ o → M j = M' j) (hL : ∀ j, j ≠ o → L j = L' j) : (zk_ws ad cs σ M L).set o (ad o, zk_ent ad cs σ M' L' o) = zk_ws ad cs σ M' L' := by
  apply List.ext_getElem?
  intro j
  by_cases hj : j = o
  · subst hj
    by_cases hl : j < σ.1
    · rw [List.getElem?_set_self (by simp [zk_ws, hl]), zk_at hl]
    · rw [List.getElem?_eq_none (by simp [zk_ws]; omega), List.getElem?_eq_none (by simp [zk_ws]; omega)]
  · rw [List.getElem?_set_ne (fun h => hj h.symm)]
    by_cases hl : j < σ.1
    · rw [zk_at hl, zk_at hl, zk_ent_congr (hM j hj) (hL j hj)]
    · rw [List.getElem?_eq_none (by simp [zk_ws]; omega), List.getElem?_eq_none (by simp [zk_ws]; omega)]
theorem zk_setM {ad : Nat → Nat} {cs : ClassId × ClassId × ClassId} {σ : zk_Sh} {M : zk_M} {L : zk_L} {o : Nat} {f : Nat → Int32} : (zk_ws ad cs σ M L).set o (ad o, zk_ent ad cs σ (va_up M o f) L o) = zk_ws ad cs σ (va_up M o f) L := zk_setW (fun _ h => (zk_up_ne h).symm) (fun _ _ => rfl)
theorem zk_setL {ad : Nat → Nat} {cs : ClassId × ClassId × ClassId} {σ : zk_Sh} {M : zk_M} {L : zk_L} {o : Nat} {f : Nat → Int64} : (zk_ws ad cs σ M L).set o (ad o, zk_ent ad cs σ M (va_up L o f) o) = zk_ws ad cs σ M (va_up L o f) := zk_setW (fun _ _ => rfl) (fun _ h => (zk_up_ne h).symm)
/-! locals -/
def zk_g : List (Option Value) → Nat → Option Value
  | [], _ => none
  | a :: _, 0 => a
  | _ :: t, i + 1 => zk_g t i
theorem zk_g_get : ∀ {ls : List (Option Value)} {i : Nat} {v : Value}, zk_g ls i = some v → ls[i]? = some (some v)
  | [], i, v, h => by simp [zk_g] at h
  | a :: t, 0, v, h => by simp only [zk_g] at h; simp [h]
  | a :: t, i + 1, v, h => by simp only [zk_g] at h; simpa using zk_g_get h
def zk_nl (b : Option Value) : Bool := match b with
  | some v => v.category == 1
  | none => true
/-- ls' is ls with v (of one slot) at i -/
def zk_S (ls : List (Option Value)) (i : Nat) (ls' : List (Option Value)) (v : Value) : Prop := i < ls.length ∧ ls' = ls.set i (some v) ∧ ∀ (j : Nat) (w : Value), j + 1 = i → ls[j]? = some (some w) → w.category = 1
/-- ls' is ls with v (of two slots) at i -/
def zk_S2 (ls : List (Option Value)) (i : Nat) (ls' : List (Option Value)) (v : Value) : Prop := i + 1 < ls.length ∧ ls' = (ls.set i (some v)).set (i + 1) none ∧ ∀ (j : Nat) (w : Value), j + 1 = i → ls[j]? = some (some w) → w.category = 1
def zk_ll (ad : Nat → Nat) (ls : List (Option Value)) : List (Nat × Value) := ls.zipIdx.filterMap (fun q => q.1.map (fun v => (q.2, zk_mv ad v)))
theorem zk_ll_mem {ad : Nat → Nat} {ls : List (Option Value)} {i : Nat} {u : Value} : (i, u) ∈ zk_ll ad ls ↔ ∃ v, ls[i]? = some (some v) ∧ u = zk_mv ad v := by
  simp only [zk_ll, List.mem_filterMap]
  constructor
  · rintro ⟨⟨a, j⟩, h1, h2⟩
    rw [List.mem_zipIdx_iff_getElem?] at h1
    cases a with
    | none => simp at h2
    | some v =>
      simp only [Option.map_some, Option.some.injEq, Prod.mk.injEq] at h2
      obtain ⟨rfl, rfl⟩ := h2
      exact ⟨v, by simpa using h1, rfl⟩
  · rintro ⟨v, h1, rfl⟩
    exact ⟨(some v, i), by rw [List.mem_zipIdx_iff_getElem?]; simpa using h1, rfl⟩
theorem zk_lv_has {lsA : Array Slot} {nL : Nat} {ad : Nat → Nat} {ls : List (Option Value)} (h : zk_lv lsA nL ad ls) : lv_has lsA nL (zk_ll ad ls) := by
  refine ⟨h.1, h.2.1, fun q hq => ?_⟩
  obtain ⟨i, u⟩ := q
  obtain ⟨v, h1, rfl⟩ := zk_ll_mem.mp hq
  exact h.2.2.2 i v h1
theorem zk_lv_at {lsA : Array Slot} {nL : Nat} {ad : Nat → Nat} {ls : List (Option Value)} (h : zk_lv lsA nL ad ls) {i : Nat} {v : Value} (hg : zk_g ls i = some v) : lsA[i]? = some (.val (zk_mv ad v)) := h.2.2.2 i v (zk_g_get hg)
theorem zk_lv_set {lsA lsB : Array Slot} {nL i : Nat} {ad : Nat → Nat} {ls ls' : List (Option Value)} {v : Value} (h : zk_lv lsA nL ad ls) (hs : zk_S ls i ls' v)
    (h' : lv_has lsB nL ((i, zk_mv ad v) :: (zk_ll ad ls).filter (fun q => !(q.1 == i) && !(q.1 + 1 == i && q.2.category == 2)))) : zk_lv lsB nL ad ls' := by
  obtain ⟨hi, rfl, hp⟩ := hs
  refine ⟨h'.1, h'.2.1, by simp [h.2.2.1], fun j w hw => ?_⟩
  by_cases hj : j = i
  · subst hj
    rw [List.getElem?_set_self hi] at hw
    cases hw
    exact h'.2.2 (j, _) List.mem_cons_self
  · rw [List.getElem?_set_ne (fun e => hj e.symm)] at hw
    refine h'.2.2 (j, zk_mv ad w) (List.mem_cons_of_mem _ (List.mem_filter.mpr ⟨zk_ll_mem.mpr ⟨w, hw, rfl⟩, ?_⟩))
    have hc : j + 1 = i → w.category = 1 := fun e => hp j w e hw
    by_cases e : j + 1 = i
    · simp [hj, zk_mv_cat, hc e]
    · simp [hj, e]
theorem zk_lv_set2 {lsA lsB : Array Slot} {nL i : Nat} {ad : Nat → Nat} {ls ls' : List (Option Value)} {v : Value} (h : zk_lv lsA nL ad ls) (hs : zk_S2 ls i ls' v)
    (h' : lv_has lsB nL ((i, zk_mv ad v) :: (zk_ll ad ls).filter (fun q => !(q.1 == i) && (!(q.1 == i + 1) && !(q.1 + 1 == i && q.2.category == 2))))) : zk_lv lsB nL ad ls' := by
  obtain ⟨hi, rfl, hp⟩ := hs
  refine ⟨h'.1, h'.2.1, by simp [h.2.2.1], fun j w hw => ?_⟩
  by_cases hj1 : j = i + 1
  · subst hj1
    rw [List.getElem?_set_self (by simpa using hi)] at hw
    cases hw
  · rw [List.getElem?_set_ne (fun e => hj1 e.symm)] at hw
    by_cases hj : j = i
    · subst hj
      rw [List.getElem?_set_self (by omega)] at hw
      cases hw
      exact h'.2.2 (j, _) List.mem_cons_self
    · rw [List.getElem?_set_ne (fun e => hj e.symm)] at hw
      refine h'.2.2 (j, zk_mv ad w) (List.mem_cons_of_mem _ (List.mem_filter.mpr ⟨zk_ll_mem.mpr ⟨w, hw, rfl⟩, ?_⟩))
      have hc : j + 1 = i → w.category = 1 := fun e => hp j w e hw
      by_cases e : j + 1 = i
      · simp [hj, hj1, zk_mv_cat, hc e]
      · simp [hj, hj1, e]
/-- fewer locals known -/
def zk_le : List (Option Value) → List (Option Value) → Prop
  | [], [] => True
  | a :: s, b :: t => (b = none ∨ a = b) ∧ zk_le s t
  | _, _ => False
theorem zk_le_get : ∀ {s t : List (Option Value)}, zk_le s t → s.length = t.length ∧ ∀ (i : Nat) (v : Value), t[i]? = some (some v) → s[i]? = some (some v)
  | [], [], _ => ⟨rfl, fun i v h => h⟩
  | a :: s, b :: t, h => by
    obtain ⟨h1, h2⟩ := zk_le_get h.2
    refine ⟨by simp [h1], fun i v hv => ?_⟩
    cases i with
    | zero =>
      rcases h.1 with e | e
      · subst e; simp at hv
      · subst e; exact hv
    | succ i => simpa using h2 i v (by simpa using hv)
  | [], _ :: _, h => h.elim
  | _ :: _, [], h => h.elim
theorem zk_forget {l : Launch} {σ : zk_Sh} {d : Nat} {μ : zk_I} {pc : Nat} {ls ls' : List (Option Value)} {st : List Value} {M : zk_M} {L : zk_L} {Q : Option Value → zk_M → zk_L → Prop} (h : zk_le ls ls') (k : zk_R l σ d μ pc ls' st M L Q) : zk_R l σ d μ pc ls st M L Q := by
  intro p e s m args below meth c ad cs D H locs lsA X hH hS hl
  obtain ⟨h1, h2⟩ := zk_le_get h
  exact k p e s m args below meth c ad cs D H locs lsA X hH hS ⟨hl.1, hl.2.1, by rw [← h1]; exact hl.2.2.1, fun i v hv => hl.2.2.2 i v (h2 i v hv)⟩
theorem zk_post {l : Launch} {σ : zk_Sh} {d : Nat} {μ : zk_I} {pc : Nat} {ls : List (Option Value)} {st : List Value} {M M' : zk_M} {L L' : zk_L} {Q : Option Value → zk_M → zk_L → Prop} (hM : M = M') (hL : L = L') (k : zk_R l σ d μ pc ls st M' L' Q) : zk_R l σ d μ pc ls st M L Q := by subst hM; subst hL; exact k
theorem zk_S_0 {a0 : Option Value} {t : List (Option Value)} {v : Value} : zk_S (a0 :: t) 0 (some v :: t) v := by
  exact ⟨by simp, by simp, fun j w e => by omega⟩
theorem zk_S_1 {a0 a1 : Option Value} {t : List (Option Value)} {v : Value} (h : zk_nl a0 = true := by rfl) : zk_S (a0 :: a1 :: t) 1 (a0 :: some v :: t) v := by
  refine ⟨by simp, by simp, fun j w e hw => ?_⟩
  obtain rfl : j = 0 := by omega
  simp at hw
  subst hw
  simpa [zk_nl] using h
theorem zk_S_2 {a0 a1 a2 : Option Value} {t : List (Option Value)} {v : Value} (h : zk_nl a1 = true := by rfl) : zk_S (a0 :: a1 :: a2 :: t) 2 (a0 :: a1 :: some v :: t) v := by
  refine ⟨by simp, by simp, fun j w e hw => ?_⟩
  obtain rfl : j = 1 := by omega
  simp at hw
  subst hw
  simpa [zk_nl] using h
theorem zk_S_3 {a0 a1 a2 a3 : Option Value} {t : List (Option Value)} {v : Value} (h : zk_nl a2 = true := by rfl) : zk_S (a0 :: a1 :: a2 :: a3 :: t) 3 (a0 :: a1 :: a2 :: some v :: t) v := by
  refine ⟨by simp, by simp, fun j w e hw => ?_⟩
  obtain rfl : j = 2 := by omega
  simp at hw
  subst hw
  simpa [zk_nl] using h
theorem zk_S_4 {a0 a1 a2 a3 a4 : Option Value} {t : List (Option Value)} {v : Value} (h : zk_nl a3 = true := by rfl) : zk_S (a0 :: a1 :: a2 :: a3 :: a4 :: t) 4 (a0 :: a1 :: a2 :: a3 :: some v :: t) v := by
  refine ⟨by simp, by simp, fun j w e hw => ?_⟩
  obtain rfl : j = 3 := by omega
  simp at hw
  subst hw
  simpa [zk_nl] using h
theorem zk_S_5 {a0 a1 a2 a3 a4 a5 : Option Value} {t : List (Option Value)} {v : Value} (h : zk_nl a4 = true := by rfl) : zk_S (a0 :: a1 :: a2 :: a3 :: a4 :: a5 :: t) 5 (a0 :: a1 :: a2 :: a3 :: a4 :: some v :: t) v := by
  refine ⟨by simp, by simp, fun j w e hw => ?_⟩
  obtain rfl : j = 4 := by omega
  simp at hw
  subst hw
  simpa [zk_nl] using h
theorem zk_S_6 {a0 a1 a2 a3 a4 a5 a6 : Option Value} {t : List (Option Value)} {v : Value} (h : zk_nl a5 = true := by rfl) : zk_S (a0 :: a1 :: a2 :: a3 :: a4 :: a5 :: a6 :: t) 6 (a0 :: a1 :: a2 :: a3 :: a4 :: a5 :: some v :: t) v := by
  refine ⟨by simp, by simp, fun j w e hw => ?_⟩
  obtain rfl : j = 5 := by omega
  simp at hw
  subst hw
  simpa [zk_nl] using h
theorem zk_S_7 {a0 a1 a2 a3 a4 a5 a6 a7 : Option Value} {t : List (Option Value)} {v : Value} (h : zk_nl a6 = true := by rfl) : zk_S (a0 :: a1 :: a2 :: a3 :: a4 :: a5 :: a6 :: a7 :: t) 7 (a0 :: a1 :: a2 :: a3 :: a4 :: a5 :: a6 :: some v :: t) v := by
  refine ⟨by simp, by simp, fun j w e hw => ?_⟩
  obtain rfl : j = 6 := by omega
  simp at hw
  subst hw
  simpa [zk_nl] using h
theorem zk_S_8 {a0 a1 a2 a3 a4 a5 a6 a7 a8 : Option Value} {t : List (Option Value)} {v : Value} (h : zk_nl a7 = true := by rfl) : zk_S (a0 :: a1 :: a2 :: a3 :: a4 :: a5 :: a6 :: a7 :: a8 :: t) 8 (a0 :: a1 :: a2 :: a3 :: a4 :: a5 :: a6 :: a7 :: some v :: t) v := by
  refine ⟨by simp, by simp, fun j w e hw => ?_⟩
  obtain rfl : j = 7 := by omega
  simp at hw
  subst hw
  simpa [zk_nl] using h
theorem zk_S_9 {a0 a1 a2 a3 a4 a5 a6 a7 a8 a9 : Option Value} {t : List (Option Value)} {v : Value} (h : zk_nl a8 = true := by rfl) : zk_S (a0 :: a1 :: a2 :: a3 :: a4 :: a5 :: a6 :: a7 :: a8 :: a9 :: t) 9 (a0 :: a1 :: a2 :: a3 :: a4 :: a5 :: a6 :: a7 :: a8 :: some v :: t) v := by
  refine ⟨by simp, by simp, fun j w e hw => ?_⟩
  obtain rfl : j = 8 := by omega
  simp at hw
  subst hw
  simpa [zk_nl] using h
theorem zk_S_10 {a0 a1 a2 a3 a4 a5 a6 a7 a8 a9 a10 : Option Value} {t : List (Option Value)} {v : Value} (h : zk_nl a9 = true := by rfl) : zk_S (a0 :: a1 :: a2 :: a3 :: a4 :: a5 :: a6 :: a7 :: a8 :: a9 :: a10 :: t) 10 (a0 :: a1 :: a2 :: a3 :: a4 :: a5 :: a6 :: a7 :: a8 :: a9 :: some v :: t) v := by
  refine ⟨by simp, by simp, fun j w e hw => ?_⟩
  obtain rfl : j = 9 := by omega
  simp at hw
  subst hw
  simpa [zk_nl] using h
theorem zk_S_11 {a0 a1 a2 a3 a4 a5 a6 a7 a8 a9 a10 a11 : Option Value} {t : List (Option Value)} {v : Value} (h : zk_nl a10 = true := by rfl) : zk_S (a0 :: a1 :: a2 :: a3 :: a4 :: a5 :: a6 :: a7 :: a8 :: a9 :: a10 :: a11 :: t) 11 (a0 :: a1 :: a2 :: a3 :: a4 :: a5 :: a6 :: a7 :: a8 :: a9 :: a10 :: some v :: t) v := by
  refine ⟨by simp, by simp, fun j w e hw => ?_⟩
  obtain rfl : j = 10 := by omega
  simp at hw
  subst hw
  simpa [zk_nl] using h
theorem zk_S_12 {a0 a1 a2 a3 a4 a5 a6 a7 a8 a9 a10 a11 a12 : Option Value} {t : List (Option Value)} {v : Value} (h : zk_nl a11 = true := by rfl) : zk_S (a0 :: a1 :: a2 :: a3 :: a4 :: a5 :: a6 :: a7 :: a8 :: a9 :: a10 :: a11 :: a12 :: t) 12 (a0 :: a1 :: a2 :: a3 :: a4 :: a5 :: a6 :: a7 :: a8 :: a9 :: a10 :: a11 :: some v :: t) v := by
  refine ⟨by simp, by simp, fun j w e hw => ?_⟩
  obtain rfl : j = 11 := by omega
  simp at hw
  subst hw
  simpa [zk_nl] using h
theorem zk_S_13 {a0 a1 a2 a3 a4 a5 a6 a7 a8 a9 a10 a11 a12 a13 : Option Value} {t : List (Option Value)} {v : Value} (h : zk_nl a12 = true := by rfl) : zk_S (a0 :: a1 :: a2 :: a3 :: a4 :: a5 :: a6 :: a7 :: a8 :: a9 :: a10 :: a11 :: a12 :: a13 :: t) 13 (a0 :: a1 :: a2 :: a3 :: a4 :: a5 :: a6 :: a7 :: a8 :: a9 :: a10 :: a11 :: a12 :: some v :: t) v := by
  refine ⟨by simp, by simp, fun j w e hw => ?_⟩
  obtain rfl : j = 12 := by omega
  simp at hw
  subst hw
  simpa [zk_nl] using h
theorem zk_S2_0 {a0 a1 : Option Value} {t : List (Option Value)} {v : Value} : zk_S2 (a0 :: a1 :: t) 0 (some v :: none :: t) v := by
  exact ⟨by simp, by simp, fun j w e => by omega⟩
theorem zk_S2_1 {a0 a1 a2 : Option Value} {t : List (Option Value)} {v : Value} (h : zk_nl a0 = true := by rfl) : zk_S2 (a0 :: a1 :: a2 :: t) 1 (a0 :: some v :: none :: t) v := by
  refine ⟨by simp, by simp, fun j w e hw => ?_⟩
  obtain rfl : j = 0 := by omega
  simp at hw
  subst hw
  simpa [zk_nl] using h
theorem zk_S2_2 {a0 a1 a2 a3 : Option Value} {t : List (Option Value)} {v : Value} (h : zk_nl a1 = true := by rfl) : zk_S2 (a0 :: a1 :: a2 :: a3 :: t) 2 (a0 :: a1 :: some v :: none :: t) v := by
  refine ⟨by simp, by simp, fun j w e hw => ?_⟩
  obtain rfl : j = 1 := by omega
  simp at hw
  subst hw
  simpa [zk_nl] using h
theorem zk_S2_3 {a0 a1 a2 a3 a4 : Option Value} {t : List (Option Value)} {v : Value} (h : zk_nl a2 = true := by rfl) : zk_S2 (a0 :: a1 :: a2 :: a3 :: a4 :: t) 3 (a0 :: a1 :: a2 :: some v :: none :: t) v := by
  refine ⟨by simp, by simp, fun j w e hw => ?_⟩
  obtain rfl : j = 2 := by omega
  simp at hw
  subst hw
  simpa [zk_nl] using h
theorem zk_S2_4 {a0 a1 a2 a3 a4 a5 : Option Value} {t : List (Option Value)} {v : Value} (h : zk_nl a3 = true := by rfl) : zk_S2 (a0 :: a1 :: a2 :: a3 :: a4 :: a5 :: t) 4 (a0 :: a1 :: a2 :: a3 :: some v :: none :: t) v := by
  refine ⟨by simp, by simp, fun j w e hw => ?_⟩
  obtain rfl : j = 3 := by omega
  simp at hw
  subst hw
  simpa [zk_nl] using h
theorem zk_S2_5 {a0 a1 a2 a3 a4 a5 a6 : Option Value} {t : List (Option Value)} {v : Value} (h : zk_nl a4 = true := by rfl) : zk_S2 (a0 :: a1 :: a2 :: a3 :: a4 :: a5 :: a6 :: t) 5 (a0 :: a1 :: a2 :: a3 :: a4 :: some v :: none :: t) v := by
  refine ⟨by simp, by simp, fun j w e hw => ?_⟩
  obtain rfl : j = 4 := by omega
  simp at hw
  subst hw
  simpa [zk_nl] using h
theorem zk_S2_6 {a0 a1 a2 a3 a4 a5 a6 a7 : Option Value} {t : List (Option Value)} {v : Value} (h : zk_nl a5 = true := by rfl) : zk_S2 (a0 :: a1 :: a2 :: a3 :: a4 :: a5 :: a6 :: a7 :: t) 6 (a0 :: a1 :: a2 :: a3 :: a4 :: a5 :: some v :: none :: t) v := by
  refine ⟨by simp, by simp, fun j w e hw => ?_⟩
  obtain rfl : j = 5 := by omega
  simp at hw
  subst hw
  simpa [zk_nl] using h
theorem zk_S2_7 {a0 a1 a2 a3 a4 a5 a6 a7 a8 : Option Value} {t : List (Option Value)} {v : Value} (h : zk_nl a6 = true := by rfl) : zk_S2 (a0 :: a1 :: a2 :: a3 :: a4 :: a5 :: a6 :: a7 :: a8 :: t) 7 (a0 :: a1 :: a2 :: a3 :: a4 :: a5 :: a6 :: some v :: none :: t) v := by
  refine ⟨by simp, by simp, fun j w e hw => ?_⟩
  obtain rfl : j = 6 := by omega
  simp at hw
  subst hw
  simpa [zk_nl] using h
theorem zk_S2_8 {a0 a1 a2 a3 a4 a5 a6 a7 a8 a9 : Option Value} {t : List (Option Value)} {v : Value} (h : zk_nl a7 = true := by rfl) : zk_S2 (a0 :: a1 :: a2 :: a3 :: a4 :: a5 :: a6 :: a7 :: a8 :: a9 :: t) 8 (a0 :: a1 :: a2 :: a3 :: a4 :: a5 :: a6 :: a7 :: some v :: none :: t) v := by
  refine ⟨by simp, by simp, fun j w e hw => ?_⟩
  obtain rfl : j = 7 := by omega
  simp at hw
  subst hw
  simpa [zk_nl] using h
theorem zk_S2_9 {a0 a1 a2 a3 a4 a5 a6 a7 a8 a9 a10 : Option Value} {t : List (Option Value)} {v : Value} (h : zk_nl a8 = true := by rfl) : zk_S2 (a0 :: a1 :: a2 :: a3 :: a4 :: a5 :: a6 :: a7 :: a8 :: a9 :: a10 :: t) 9 (a0 :: a1 :: a2 :: a3 :: a4 :: a5 :: a6 :: a7 :: a8 :: some v :: none :: t) v := by
  refine ⟨by simp, by simp, fun j w e hw => ?_⟩
  obtain rfl : j = 8 := by omega
  simp at hw
  subst hw
  simpa [zk_nl] using h
theorem zk_S2_10 {a0 a1 a2 a3 a4 a5 a6 a7 a8 a9 a10 a11 : Option Value} {t : List (Option Value)} {v : Value} (h : zk_nl a9 = true := by rfl) : zk_S2 (a0 :: a1 :: a2 :: a3 :: a4 :: a5 :: a6 :: a7 :: a8 :: a9 :: a10 :: a11 :: t) 10 (a0 :: a1 :: a2 :: a3 :: a4 :: a5 :: a6 :: a7 :: a8 :: a9 :: some v :: none :: t) v := by
  refine ⟨by simp, by simp, fun j w e hw => ?_⟩
  obtain rfl : j = 9 := by omega
  simp at hw
  subst hw
  simpa [zk_nl] using h
theorem zk_S2_11 {a0 a1 a2 a3 a4 a5 a6 a7 a8 a9 a10 a11 a12 : Option Value} {t : List (Option Value)} {v : Value} (h : zk_nl a10 = true := by rfl) : zk_S2 (a0 :: a1 :: a2 :: a3 :: a4 :: a5 :: a6 :: a7 :: a8 :: a9 :: a10 :: a11 :: a12 :: t) 11 (a0 :: a1 :: a2 :: a3 :: a4 :: a5 :: a6 :: a7 :: a8 :: a9 :: a10 :: some v :: none :: t) v := by
  refine ⟨by simp, by simp, fun j w e hw => ?_⟩
  obtain rfl : j = 10 := by omega
  simp at hw
  subst hw
  simpa [zk_nl] using h
theorem zk_S2_12 {a0 a1 a2 a3 a4 a5 a6 a7 a8 a9 a10 a11 a12 a13 : Option Value} {t : List (Option Value)} {v : Value} (h : zk_nl a11 = true := by rfl) : zk_S2 (a0 :: a1 :: a2 :: a3 :: a4 :: a5 :: a6 :: a7 :: a8 :: a9 :: a10 :: a11 :: a12 :: a13 :: t) 12 (a0 :: a1 :: a2 :: a3 :: a4 :: a5 :: a6 :: a7 :: a8 :: a9 :: a10 :: a11 :: some v :: none :: t) v := by
  refine ⟨by simp, by simp, fun j w e hw => ?_⟩
  obtain rfl : j = 11 := by omega
  simp at hw
  subst hw
  simpa [zk_nl] using h
theorem zk_S2_13 {a0 a1 a2 a3 a4 a5 a6 a7 a8 a9 a10 a11 a12 a13 a14 : Option Value} {t : List (Option Value)} {v : Value} (h : zk_nl a12 = true := by rfl) : zk_S2 (a0 :: a1 :: a2 :: a3 :: a4 :: a5 :: a6 :: a7 :: a8 :: a9 :: a10 :: a11 :: a12 :: a13 :: a14 :: t) 13 (a0 :: a1 :: a2 :: a3 :: a4 :: a5 :: a6 :: a7 :: a8 :: a9 :: a10 :: a11 :: a12 :: some v :: none :: t) v := by
  refine ⟨by simp, by simp, fun j w e hw => ?_⟩
  obtain rfl : j = 12 := by omega
  simp at hw
  subst hw
  simpa [zk_nl] using h
