/-! constructors: worlds that grow -/
def zn_rm (d mc ms : Nat) : Room := { frames := d, cells := mc, slots := ms, locals := 38 * d }
def zn_A (h sz : Nat) : Nat → Prop := fun q => q = h ∨ sz ≤ q
def zn_U (cs : ClassId × ClassId × ClassId) (D : va_G) (U : State) : Prop := va_K D vwCl (zk_ty cs) U ∧ (∀ w ∈ zk_nw, va_Nw w U) ∧ va_AO RX1 U
def zn_Q (cs : ClassId × ClassId × ClassId) (D : va_G) (σ : zk_Sh) (M : zk_M) (L : zk_L) (A : Nat → Prop) (h : Nat) : Array Value → State → Outcome → State → Prop := fun _ st oc t =>
  (∃ ad : Nat → Nat, oc = .returned none ∧ ad 0 = h ∧ zk_H σ ad cs D A M L t.heap) ∧ va_F A st t
/-- a constructor: from a new object to a finished one, with all that hangs on it -/
def zn_C (l : Launch) (d mc ms : Nat) (μ : zk_I) (ci : Nat) (fs : List Value) (σ : zk_Sh) (M : zk_M) (L : zk_L) : Prop :=
  ∀ (cs : ClassId × ClassId × ClassId) (D : va_G) (h sz : Nat), Met l μ.1 (zk_wd μ) (zn_rm d mc ms) (va_Pc [.ref h] (fun U => U.heap.size = sz ∧ va_P D vwCl [(h, .inr (ci, fs))] U.heap ∧ zn_U cs D U)) (zn_Q cs D σ M L (zn_A h sz) h) mc ms (zn_A h sz)
def zn_X (μ : zk_I) (cs : ClassId × ClassId × ClassId) (D : va_G) (p : Program) (s : State) (m : MethodId) (args : Array Value) (meth : Method) (c : Code) : Prop := zk_X μ cs D p s m args meth c ∧ va_AO RX1 s
def zn_S (D : va_G) (A : Nat → Prop) (s : State) (H : Heap) (locs : List Loc) (ws : va_W) : Prop := va_P D vwCl ws H ∧ va_D A ws ∧ va_S A s.heap H locs
theorem zn_blind {cs : ClassId × ClassId × ClassId} {D : va_G} {sz : Nat} {av : List Value} {ws : va_W} : FrameBlind (va_Pc av (fun U => U.heap.size = sz ∧ va_P D vwCl ws U.heap ∧ zn_U cs D U)) := by
  intro a U g mk q
  obtain ⟨q0, q1, q2, q3, q4, q5⟩ := q
  exact ⟨q0, q1, q2, va_K.moved (u := U) (U := U.calling g mk a) (Vm.Alike.refl U.vm) q3, fun w hw => va_Nw.same (u := U) (U := U.calling g mk a) (zk_nw_tab w hw) rfl (q4 w hw), va_AO.moved (u := U) (U := U.calling g mk a) (Vm.Alike.refl U.vm) q5⟩
theorem zn_ofW {l : Launch} {d mc ms : Nat} {μ : zk_I} {ci : Nat} {fs : List Value} {σ : zk_Sh} {M : zk_M} {L : zk_L} (hy : plainName μ.1.cls = true) (hown : μ.1.cls = μ.2.2.2.2) (hnm : μ.1.name = "<init>") (hml : 1 ≤ μ.2.2.1)
    (body : ∀ (p : Program) (e : Env) (s : State) (m : MethodId) (args : Array Value) (below : List Frame) (meth : Method) (c : Code) (cs : ClassId × ClassId × ClassId) (D : va_G) (h : Nat) (lsA : Array Slot), zn_X μ cs D p s m args meth c → meth.name = "<init>" → zn_S D (zn_A h s.heap.size) s s.heap [] [(h, .inr (ci, fs))] → lv_has lsA μ.2.2.1 [(0, .ref h)] →
      W p l e (zn_rm d mc ms) s m args below meth c s.heap [] 0 0 (MQ below (zn_Q cs D σ M L (zn_A h s.heap.size) h) args s mc ms (zn_A h s.heap.size)) (F0 m 0 lsA [])) : zn_C l d mc ms μ ci fs σ M L := by
  intro cs D h sz
  refine Met.ofW (cc := μ.2.1) (maxL := μ.2.2.1) (ret := μ.2.2.2.1) hy rfl ?_
  intro p e s m args below meth c s₁ B hml' hv
  obtain ⟨rfl, hsz, hP, hK, hN, hO⟩ := hv
  have hts := atoms_spec (ws := zk_wd μ) B.pre
  have hown' : s.vm.findClass μ.1.cls = some m.cls := findClass_of_methodNamed B.named
  have hin : meth.name = "<init>" := (name_of_methodNamed B.named B.method).1.trans hnm
  subst hsz
  have he := lv_entry [.ref h] (n := μ.2.2.1) hml
  rw [lg_entry_eq]
  generalize (lg_sl [.ref h] ++ List.replicate (μ.2.2.1 - (lg_sl [.ref h]).length) Slot.unset).toArray = lsA at he ⊢
  refine body p e s m _ below meth c cs D h lsA ⟨⟨B.exec, B.bytes, B.returns, hml', by rw [← hown]; exact hown', fun w hw => hts w (List.mem_cons_of_mem _ hw), hN, B.notSynchronized, hK⟩, hO⟩ hin ⟨hP, ⟨fun i j a b hi hj _ => ?_, fun k q hk => ?_⟩, va_S.rf⟩ he
  · have h1 : i < 1 := (List.getElem?_eq_some_iff.mp hi).1
    have h2 : j < 1 := (List.getElem?_eq_some_iff.mp hj).1
    omega
  · have h1 : k < 1 := (List.getElem?_eq_some_iff.mp hk).1
    rw [show k = 0 by omega] at hk
    cases hk
    exact Or.inl rfl
section ZNR
variable {p : Program} {l : Launch} {e : Env} {R : Room} {s : State} {m : MethodId} {args : Array Value} {below : List Frame} {meth : Method} {c : Code} {H : Heap} {locs : List Loc} {cells slots : Nat} {Q : State → Prop}
variable {μ : zk_I} {cs : ClassId × ClassId × ClassId} {D : va_G} {A : Nat → Prop} {pc : Nat} {ls : Array Slot} {st : List Value} {ws : va_W}
theorem zn_obj {idx a : Nat} (X : zn_X μ cs D p s m args meth c) (hl : ls.size = μ.2.2.1) (hlk : Cond.methodLink μ.2.2.2.2 idx objectInit ∈ zk_tb) (hd : decode μ.2.1 pc = .ok (.invokespecial idx, 3)) (hf : 1 ≤ R.frames) (hlo : (st.map fun v => v.category).sum + 12 ≤ R.locals)
    (kk : W p l e R s m args below meth c H locs cells slots Q (F0 m (pc + 3) ls st)) : W p l e R s m args below meth c H locs cells slots Q (F0 m pc ls (.ref a :: st)) := by
  have hT := X.1.2.2.2.2.2.1
  refine W.objInit X.1.1 X.1.2.1 X.1.2.2.2.2.1 (hT _ hlk) (hT _ im_obj) (hT _ co_obj) rfl (by rw [X.1.2.2.2.1]; exact hl) rfl hd hf ?_ kk
  show 2 * 0 + _ + _ ≤ _
  omega
/-- a class's facts -/
def zn_Cl (ci : Nat) (C : String) (N : Nat) (fs : List Value) : Prop := ∃ (T : u_T) (ty : Nat → FieldType), vwCl[ci]? = some (C, T, N) ∧ (∀ w ∈ u_ws C T N, w ∈ zk_tb) ∧ Cond.instantiable C N ∈ zk_tb ∧ Cond.initialized C ∈ zk_tb ∧ (∀ k, k < N → parseFieldDescriptor (T k).2.2.1 = some (ty k)) ∧ ∀ j, j < N → defaultValue (ty j) = vp_V fs j
theorem zn_new {idx ci N : Nat} {C : String} {fs : List Value} (X : zn_X μ cs D p s m args meth c) (hA : ∀ q, s.heap.size ≤ q → A q) (Z : zn_S D A s H locs ws) (hC : zn_Cl ci C N fs) (hcl : Cond.classLink μ.2.2.2.2 idx C ∈ zk_tb) (hd : decode μ.2.1 pc = .ok (.new idx, 3)) (hcells : cells + 1 ≤ R.cells) (hslots : slots + N ≤ R.slots)
    (kk : ∀ (q : Nat) (H1 : Heap), zn_S D A s H1 locs (ws ++ [(q, .inr (ci, fs))]) → W p l e R s m args below meth c H1 locs (cells + 1) (slots + N) Q (F0 m (pc + 3) ls (.ref q :: st))) : W p l e R s m args below meth c H locs cells slots Q (F0 m pc ls st) := by
  have hT := X.1.2.2.2.2.2.1
  obtain ⟨T, ty, h1, h2, h3, h4, h5, h6⟩ := hC
  exact va_new (ci := ci) (fs := fs) (C := C) (T := T) (N := N) X.1.1 X.1.2.1 hT h2 ty h5 X.1.2.2.2.2.1 (hT _ hcl) (hT _ h3) (hT _ h4) X.1.2.2.2.2.2.2.2.2 Z.1 Z.2.1 Z.2.2 hA h1 h6 hcells hslots hd (fun q H1 hP hD hS => kk q H1 ⟨hP, hD, hS⟩)
theorem zn_getP {X Y : va_W} {k : Nat} {q : Nat × va_E} (h : (X ++ Y)[k]? = some q) : (k < X.length ∧ X[k]? = some q) ∨ (X.length ≤ k ∧ Y[k - X.length]? = some q) := by
  by_cases c : k < X.length
  · exact Or.inl ⟨c, by rw [List.getElem?_append_left c] at h; exact h⟩
  · exact Or.inr ⟨by omega, by rw [List.getElem?_append_right (by omega)] at h; exact h⟩
/-- a constructor called on a new object -/
theorem zn_init {idx ci q d' mc ms : Nat} {fs : List Value} {μ' : zk_I} {σ : zk_Sh} {M : zk_M} {L : zk_L} (X : zn_X μ cs D p s m args meth c) (hA : ∀ q, s.heap.size ≤ q → A q) (Z : zn_S D A s H locs (ws ++ [(q, .inr (ci, fs))])) (hl : ls.size = μ.2.2.1) (hc : zn_C l d' mc ms μ' ci fs σ M L) (hi : zk_MI μ' 0) (hnm : μ'.1.name = "<init>") (hret : μ'.2.2.2.1 = none) (him : Cond.instanceMethod μ'.1 ∈ zk_tb) (hlk : Cond.methodLink μ.2.2.2.2 idx μ'.1 ∈ zk_tb) (hd : decode μ.2.1 pc = .ok (.invokespecial idx, 3)) (hR : d' + 1 ≤ R.frames) (hR2 : 38 + 38 * d' ≤ R.locals) (hcs : cells + mc ≤ R.cells) (hsl : slots + ms ≤ R.slots) (hcat : (st.map fun v => v.category).sum ≤ 8)
    (kk : ∀ (ad : Nat → Nat) (H1 : Heap) (locs1 : List Loc), ad 0 = q → zn_S D A s H1 locs1 (ws ++ zk_ws ad cs σ M L) → W p l e R s m args below meth c H1 locs1 (cells + mc) (slots + ms) Q (F0 m (pc + 3) ls st)) : W p l e R s m args below meth c H locs cells slots Q (F0 m pc ls (.ref q :: st)) := by
  have hT := X.1.2.2.2.2.2.1
  have hlast : (ws ++ [(q, (.inr (ci, fs) : va_E))])[ws.length]? = some (q, .inr (ci, fs)) := by simp
  have hPc : va_P D vwCl [(q, .inr (ci, fs))] H := fun k x hk => by
    have h1 : k < 1 := (List.getElem?_eq_some_iff.mp hk).1
    rw [show k = 0 by omega] at hk
    cases hk
    exact Z.1 ws.length _ hlast
  have h19 := hi.2.2.2
  have hr := va_runI (As := []) (rest := st) (b := q) (g := F0 m pc ls (.ref q :: st)) (cells := cells) (slots := slots) (locs := locs) (e := e) (below := below) (meth := meth) ⟨X.1.1, X.1.2.1, X.1.2.2.2.1, X.1.2.2.2.2.1, hT⟩ (hc cs D q H.size) ⟨callB_of (R := R) (bytes := μ'.2.1) (maxL := μ'.2.2.1) 0 hT (zk_gd hi) (by rw [← hret]; rfl) rfl rfl (hT _ hi.2.1) (hT _ hlk) hi.2.2.1 ⟨hR, by show 8 + (μ'.2.2.1 + 11) + 38 * d' ≤ R.locals; omega⟩, hnm, hT _ him⟩ ⟨zn_blind, fun U hU hW => ⟨rfl, by rw [hU], by rw [hU]; exact hPc, va_K.moved hW.alike X.1.2.2.2.2.2.2.2.2, zk_nw_warm hW X.1.2.2.2.2.2.2.1, va_AO.moved hW.alike X.2⟩⟩ rfl rfl hl rfl (lv_room hcat) hd ⟨hcs, hsl⟩
  intro T hT0 X0
  obtain ⟨v, st₀, t, T', L2, h0, X', hL, e1, e2, ⟨⟨ad, hv, had, hH⟩, hz, hk⟩, stp⟩ := hr T hT0 X0
  have hv' : v = none := by injection hv
  subst hv'
  rw [h0] at hz hk
  have hAq : A q := Z.2.1.2 ws.length _ hlast
  have hAA : ∀ x, zn_A q H.size x → A x := fun x h => h.elim (fun e => by rw [e]; exact hAq) (fun h => hA x (Nat.le_trans Z.2.2.1 h))
  have hold : ∀ (k : Nat) (x : Nat × va_E), ws[k]? = some x → x.1 < H.size ∧ x.1 ≠ q := fun k x hx => by
    have hk' : k < ws.length := (List.getElem?_eq_some_iff.mp hx).1
    have hx' : (ws ++ [(q, (.inr (ci, fs) : va_E))])[k]? = some x := by rw [List.getElem?_append_left hk']; exact hx
    refine ⟨(Z.1 k x hx').lt, fun e => ?_⟩
    have := Z.2.1.1 k ws.length x _ hx' hlast e
    omega
  have hnA : ∀ (k : Nat) (x : Nat × va_E), ws[k]? = some x → ¬ zn_A q H.size x.1 := fun k x hx h => by
    have := hold k x hx
    exact h.elim this.2 (fun h => by omega)
  have hP1 : va_P D vwCl (ws ++ zk_ws ad cs σ M L) T'.heap := fun k x hx => by
    rcases zn_getP hx with ⟨_, hx⟩ | ⟨_, hx⟩
    · have hk' : k < ws.length := (List.getElem?_eq_some_iff.mp hx).1
      have hx' : (ws ++ [(q, (.inr (ci, fs) : va_E))])[k]? = some x := by rw [List.getElem?_append_left hk']; exact hx
      exact (Z.1 k x hx').kept (by rw [e1]; exact hk x.1 (hold k x hx).1 (hnA k x hx))
    · rw [e1]; exact hH.1 _ x hx
  have hD1 : va_D A (ws ++ zk_ws ad cs σ M L) := ⟨fun i j a b ha hb eab => by
    rcases zn_getP ha with ⟨_, ha⟩ | ⟨hi1, ha⟩ <;> rcases zn_getP hb with ⟨_, hb⟩ | ⟨hj1, hb⟩
    · have h1 : i < ws.length := (List.getElem?_eq_some_iff.mp ha).1
      have h2 : j < ws.length := (List.getElem?_eq_some_iff.mp hb).1
      exact Z.2.1.1 i j a b (by rw [List.getElem?_append_left h1]; exact ha) (by rw [List.getElem?_append_left h2]; exact hb) eab
    · exact absurd (by rw [eab]; exact hH.2.2 _ b hb) (hnA i a ha)
    · exact absurd (by rw [← eab]; exact hH.2.2 _ a ha) (hnA j b hb)
    · have := hH.2.1 _ _ a b ha hb eab
      omega, fun k x hx => by
    rcases zn_getP hx with ⟨_, hx⟩ | ⟨_, hx⟩
    · have hk' : k < ws.length := (List.getElem?_eq_some_iff.mp hx).1
      exact Z.2.1.2 k x (by rw [List.getElem?_append_left hk']; exact hx)
    · exact hAA _ (hH.2.2 _ x hx)⟩
  have hS1 : va_S A s.heap T'.heap (locs ++ L2) := ⟨Nat.le_trans Z.2.2.1 (by rw [e1]; exact hz), fun x h1 h2 => by rw [e1, hk x (Nat.lt_of_lt_of_le h1 Z.2.2.1) (fun z => h2 (hAA x z))]; exact Z.2.2.2.1 x h1 h2, fun x hx => by
    rcases List.mem_append.mp hx with h | h
    · exact Z.2.2.2.2 x h
    · exact hAA _ (hL x h)⟩
  obtain ⟨t2, a1, b1⟩ := kk ad T'.heap (locs ++ L2) had ⟨hP1, hD1, hS1⟩ T' rfl X'
  exact ⟨t2, stp t2 a1, b1⟩
theorem zn_newI {n : Int32} {N : Nat} (X : zn_X μ cs D p s m args meth c) (hA : ∀ q, s.heap.size ≤ q → A q) (Z : zn_S D A s H locs ws) (hn : ¬ n < 0) (hN : n.toNatClampNeg = N) (hb : N * 4 ≤ 536870912) (hd : decode μ.2.1 pc = .ok (.newarray .int, 2)) (hcells : cells + 1 ≤ R.cells) (hslots : slots + N ≤ R.slots)
    (kk : ∀ (q : Nat) (H1 : Heap), zn_S D A s H1 locs (ws ++ [(q, .inl (cs.1, N, .inl (fun _ => 0)))]) → W p l e R s m args below meth c H1 locs (cells + 1) (slots + N) Q (F0 m (pc + 2) ls (.ref q :: st))) : W p l e R s m args below meth c H locs cells slots Q (F0 m pc ls (.int n :: st)) := by
  have hT := X.1.2.2.2.2.2.1
  have hK := X.1.2.2.2.2.2.2.2.2
  refine va_newa (atype := .int) (ty := .int) (a0 := (N, .inl (fun _ => 0))) X.1.1 X.1.2.1 (hT _ ac_int) rfl hK Z.1 Z.2.1 Z.2.2 hA (fun cA => rfl) hn hN hb hcells hslots hd (fun q cA H1 hK1 hP hD hS => ?_)
  have e1 := (hK.2 0 _ rfl).2
  have e2 := (hK1.2 3 _ rfl).2
  have e : cA = cs.1 := Option.some.inj (e2.symm.trans e1)
  subst e
  exact kk q H1 ⟨hP, hD, hS⟩
theorem zn_newL {n : Int32} {N : Nat} (X : zn_X μ cs D p s m args meth c) (hA : ∀ q, s.heap.size ≤ q → A q) (Z : zn_S D A s H locs ws) (hn : ¬ n < 0) (hN : n.toNatClampNeg = N) (hb : N * 8 ≤ 536870912) (hd : decode μ.2.1 pc = .ok (.newarray .long, 2)) (hcells : cells + 1 ≤ R.cells) (hslots : slots + N ≤ R.slots)
    (kk : ∀ (q : Nat) (H1 : Heap), zn_S D A s H1 locs (ws ++ [(q, .inl (cs.2.1, N, .inr (.inl (fun _ => 0))))]) → W p l e R s m args below meth c H1 locs (cells + 1) (slots + N) Q (F0 m (pc + 2) ls (.ref q :: st))) : W p l e R s m args below meth c H locs cells slots Q (F0 m pc ls (.int n :: st)) := by
  have hT := X.1.2.2.2.2.2.1
  have hK := X.1.2.2.2.2.2.2.2.2
  refine va_newa (atype := .long) (ty := .long) (a0 := (N, .inr (.inl (fun _ => 0)))) X.1.1 X.1.2.1 (hT _ ac_long) rfl hK Z.1 Z.2.1 Z.2.2 hA (fun cA => rfl) hn hN hb hcells hslots hd (fun q cA H1 hK1 hP hD hS => ?_)
  have e1 := (hK.2 1 _ rfl).2
  have e2 := (hK1.2 3 _ rfl).2
  have e : cA = cs.2.1 := Option.some.inj (e2.symm.trans e1)
  subst e
  exact kk q H1 ⟨hP, hD, hS⟩
theorem zn_newR {idx : Nat} {n : Int32} {N : Nat} (X : zn_X μ cs D p s m args meth c) (hA : ∀ q, s.heap.size ≤ q → A q) (Z : zn_S D A s H locs ws) (hcl : Cond.classLink μ.2.2.2.2 idx RX1 ∈ zk_tb) (hn : ¬ n < 0) (hN : n.toNatClampNeg = N) (hb : N * 4 ≤ 536870912) (hd : decode μ.2.1 pc = .ok (.anewarray idx, 3)) (hcells : cells + 1 ≤ R.cells) (hslots : slots + N ≤ R.slots)
    (kk : ∀ (q : Nat) (H1 : Heap), zn_S D A s H1 locs (ws ++ [(q, .inl (cs.2.2, N, .inr (.inr (.inr (.inr (fun _ => none))))))]) → W p l e R s m args below meth c H1 locs (cells + 1) (slots + N) Q (F0 m (pc + 3) ls (.ref q :: st))) : W p l e R s m args below meth c H locs cells slots Q (F0 m pc ls (.int n :: st)) := by
  have hT := X.1.2.2.2.2.2.1
  have hK := X.1.2.2.2.2.2.2.2.2
  refine va_newq X.1.1 X.1.2.1 X.1.2.2.2.2.1 (hT _ hcl) X.2 hK Z.1 Z.2.1 Z.2.2 hA hn hN hb hcells hslots hd (fun q cA H1 hK1 hP hD hS => ?_)
  obtain ⟨_, _, _, _, _, e1⟩ := (hK.2 2 _ rfl).2
  obtain ⟨_, _, _, _, _, e2⟩ := (hK1.2 3 _ rfl).2
  have e : cA = cs.2.2 := Option.some.inj (e2.symm.trans e1)
  subst e
  exact kk q H1 ⟨hP, hD, hS⟩
/-- a final field's facts -/
def zn_FT (own : String) (c k : Nat) (ty : FieldType) : Prop := ∀ (C : String) (T : u_T) (N : Nat), vwCl[c]? = some (C, T, N) → (∃ ty0 : Nat → FieldType, ∀ k, k < N → parseFieldDescriptor (T k).2.2.1 = some (ty0 k)) ∧ (∀ a, a < N → ∀ b, b < N → a ≠ b → (T a).2.1 ≠ (T b).2.1) ∧ (T k).2.2.2 = true ∧ (T k).1 = own ∧ parseFieldDescriptor (T k).2.2.1 = some ty
theorem zn_put {idx ci k h q o : Nat} {fs : List Value} {ty : FieldType} (X : zn_X μ cs D p s m args meth c) (hin : meth.name = "<init>") (Z : zn_S D A s H locs ws) (he : ws[o]? = some (h, .inr (ci, fs))) (hf : zk_FL μ.2.2.2.2 idx ci k) (hty : zn_FT μ.2.2.2.2 ci k ty) (hn : narrow ty (.ref q) = .ref q) (hfit : fits ty (.ref q) = true) (hl : k < fs.length) (hd : decode μ.2.1 pc = .ok (.putfield idx, 3))
    (kk : ∀ (H1 : Heap) (locs1 : List Loc), zn_S D A s H1 locs1 (ws.set o (h, .inr (ci, fs.set k (.ref q)))) → W p l e R s m args below meth c H1 locs1 cells slots Q (F0 m (pc + 3) ls st)) : W p l e R s m args below meth c H locs cells slots Q (F0 m pc ls (.ref q :: .ref h :: st)) := by
  have hT := X.1.2.2.2.2.2.1
  obtain ⟨C, T, N, h1, h2, h3, h4, h5⟩ := hf
  obtain ⟨⟨ty0, t1⟩, t2, t3, t4, t5⟩ := hty C T N h1
  exact va_putF (D := D) (ci := ci) (v := .ref q) (ty := ty) (C := C) (T := T) (N := N) X.1.1 X.1.2.1 hT h4 ty0 t1 t2 X.1.2.2.2.2.1 X.1.2.2.2.2.2.2.2.2 Z.1 Z.2.1 Z.2.2 o he h1 k h2 (hT _ h5) (fun _ h => h) t3 hin t4 t5 hn hfit hl hd (fun H1 locs1 hP hD hS => kk H1 locs1 ⟨hP, hD, hS⟩)
theorem zn_get {idx ci k h o : Nat} {fs : List Value} {v : Value} (X : zn_X μ cs D p s m args meth c) (Z : zn_S D A s H locs ws) (he : ws[o]? = some (h, .inr (ci, fs))) (hf : zk_FL μ.2.2.2.2 idx ci k) (hv : fs[k]? = some v) (hd : decode μ.2.1 pc = .ok (.getfield idx, 3))
    (kk : W p l e R s m args below meth c H locs cells slots Q (F0 m (pc + 3) ls (v :: st))) : W p l e R s m args below meth c H locs cells slots Q (F0 m pc ls (.ref h :: st)) := by
  have hT := X.1.2.2.2.2.2.1
  obtain ⟨C, T, N, h1, h2, h3, h4, h5⟩ := hf
  exact va_get (D := D) (ci := ci) (v := v) (C := C) (T := T) (N := N) X.1.1 X.1.2.1 hT h4 X.1.2.2.2.2.1 X.1.2.2.2.2.2.2.2.2 Z.1 o he h1 k h2 (hT _ h5) (fun _ h => h) hv hd kk
theorem zn_ast {o ok n v : Nat} {a : Nat} {i : Int32} {f : Nat → Option Nat} {vs : List Value} (X : zn_X μ cs D p s m args meth c) (Z : zn_S D A s H locs ws) (ha : ws[o]? = some (a, .inl (cs.2.2, n, .inr (.inr (.inr (.inr f)))))) (hv : ws[ok]? = some (v, .inr (1, vs))) (hin : vp_in i n) (hd : decode μ.2.1 pc = .ok (.aastore, 1))
    (kk : ∀ (H1 : Heap) (locs1 : List Loc), zn_S D A s H1 locs1 (ws.set o (a, .inl (cs.2.2, n, .inr (.inr (.inr (.inr (va_up f i.toNatClampNeg (some v)))))))) → W p l e R s m args below meth c H1 locs1 cells slots Q (F0 m (pc + 1) ls st)) : W p l e R s m args below meth c H locs cells slots Q (F0 m pc ls (.ref v :: .int i :: .ref a :: st)) :=
  va_astq (tys := zk_ty cs) (r := (RX1, TX1, 7)) X.1.1 X.1.2.1 X.1.2.2.2.2.2.2.2.2 Z.1 Z.2.1 Z.2.2 o 2 ok 1 ha rfl hv rfl hin hd (fun H1 locs1 hP hD hS => kk H1 locs1 ⟨hP, hD, hS⟩)
end ZNR
theorem zn_ret {p : Program} {l : Launch} {e : Env} {R : Room} {s : State} {m : MethodId} {args : Array Value} {below : List Frame} {meth : Method} {c : Code} {H : Heap} {locs : List Loc} {cells slots mc ms : Nat} {μ : zk_I} {cs : ClassId × ClassId × ClassId} {D : va_G} {h pc : Nat} {ls : Array Slot} {σ : zk_Sh} {M : zk_M} {L : zk_L} {ad : Nat → Nat} (X : zn_X μ cs D p s m args meth c) (hret : μ.2.2.2.1 = none) (hS : va_S (zn_A h s.heap.size) s.heap H locs) (had : ad 0 = h) (hH : zk_H σ ad cs D (zn_A h s.heap.size) M L H) (hc : cells ≤ mc) (hs : slots ≤ ms) (hd : decode μ.2.1 pc = .ok (.return_, 1)) : W p l e R s m args below meth c H locs cells slots (MQ below (zn_Q cs D σ M L (zn_A h s.heap.size) h) args s mc ms (zn_A h s.heap.size)) (F0 m pc ls []) :=
  W.widen hc hs (W.vret X.1.1 X.1.2.1 (X.1.2.2.1.trans hret) (fun t ht hW => ⟨⟨ad, rfl, had, by rw [ht]; exact hH⟩, hS.F ht⟩) hS.2.2 hd X.1.2.2.2.2.2.2.2.1)
/-- an array of references is known by its own places alone -/
theorem zn_cell {cA : ClassId} {n : Nat} {f g : Nat → Option Nat} (h : ∀ j, j < n → f j = g j) : vp_cell cA (n, .inr (.inr (.inr (.inr f)))) = vp_cell cA (n, .inr (.inr (.inr (.inr g)))) := by
  rw [vp_cell_q, vp_cell_q]
  have e : (fun j : Fin n => va_rf (f j.val)) = fun j : Fin n => va_rf (g j.val) := funext fun j => by rw [h j.1 j.2]
  unfold arrV
  rw [e]
/-- a list that is a shape's world -/
theorem zn_toH {D : va_G} {A : Nat → Prop} {s : State} {H : Heap} {locs : List Loc} {ws : va_W} {σ : zk_Sh} {ad : Nat → Nat} {cs : ClassId × ClassId × ClassId} {M : zk_M} {L : zk_L} (Z : zn_S D A s H locs ws) (h : ∀ o, o < σ.1 → ∃ e : va_E, ws[o]? = some (ad o, e) ∧ (va_at D vwCl (ad o, e) H → va_at D vwCl (ad o, zk_ent ad cs σ M L o) H)) : zk_H σ ad cs D A M L H := by
  have key : ∀ (k : Nat) (q : Nat × va_E), (zk_ws ad cs σ M L)[k]? = some q → k < σ.1 ∧ q = (ad k, zk_ent ad cs σ M L k) := fun k q hq => by
    have hk : k < σ.1 := by have := (List.getElem?_eq_some_iff.mp hq).1; simpa [zk_ws] using this
    rw [zk_at hk] at hq
    exact ⟨hk, (Option.some.inj hq).symm⟩
  refine ⟨fun k q hq => ?_, ⟨fun i j a b hi hj eab => ?_, fun k q hq => ?_⟩⟩
  · obtain ⟨hk, rfl⟩ := key k q hq
    obtain ⟨e, h1, h2⟩ := h k hk
    exact h2 (Z.1 k _ h1)
  · obtain ⟨hk, rfl⟩ := key i a hi
    obtain ⟨hk', rfl⟩ := key j b hj
    obtain ⟨e1, h1, -⟩ := h i hk
    obtain ⟨e2, h2, -⟩ := h j hk'
    exact Z.2.1.1 i j _ _ h1 h2 eab
  · obtain ⟨hk, rfl⟩ := key k q hq
    obtain ⟨e, h1, -⟩ := h k hk
    exact (Z.2.1.2 k (ad k, e) h1 : A (ad k))
/-- a call of a method over a world, the caller's other cells untouched -/
theorem zw_callV {p : Program} {l : Launch} {e : Env} {R : Room} {s : State} {m : MethodId} {args : Array Value} {below : List Frame} {meth : Method} {c : Code} {H : Heap} {locs : List Loc} {cells slots : Nat} {Q : State → Prop} {μ μ' : zk_I} {cs : ClassId × ClassId × ClassId} {D : va_G} {A : Nat → Prop} {pc : Nat} {ls : Array Slot} {st as : List Value} {σ : zk_Sh} {ad : Nat → Nat} {M : zk_M} {L : zk_L} {Q' : Option Value → zk_M → zk_L → Prop} {idx ci o n d' : Nat} {stk : List Value}
    (X : zk_X μ cs D p s m args meth c) (hH : zk_H σ ad cs D A M L H) (hS : va_S A s.heap H locs) (hA : ∀ q, s.heap.size ≤ q → A q) (hls : ls.size = μ.2.2.1) (hc : zk_C l σ d' μ' (.ref o :: as) M L Q') (hd : decode μ.2.1 pc = .ok (.invokevirtual idx, 3)) (hi : zk_MV μ' n ci) (hlk : Cond.methodLink μ.2.2.2.2 idx μ'.1 ∈ zk_tb) (ho : o < σ.1) (hk : σ.2.1 o = ci) (hn : as.length = n) (hR : d' + 1 ≤ R.frames) (hR2 : 38 + 38 * d' ≤ R.locals) (hcs : cells ≤ R.cells) (hsl : slots ≤ R.slots) (hcat : (st.map fun v => v.category).sum ≤ 8) (hstk : stk = (as.map (zk_mv ad)).reverse ++ .ref (ad o) :: st)
    (kk : ∀ (r : Option Value) (M1 : zk_M) (L1 : zk_L) (H1 : Heap) (locs1 : List Loc), Q' r M1 L1 → zk_H σ ad cs D A M1 L1 H1 → va_S A s.heap H1 locs1 → H.size ≤ H1.size → (∀ q, q < H.size → (∀ o, o < σ.1 → q ≠ ad o) → H1[q]? = H[q]?) → W p l e R s m args below meth c H1 locs1 cells slots Q (F0 m (pc + 3) ls ((r.map (zk_mv ad)).toList ++ st))) : W p l e R s m args below meth c H locs cells slots Q (F0 m pc ls stk) := by
  subst hstk
  have hT := X.2.2.2.2.2.1
  obtain ⟨hi, hin, hse, TT, NN, hcl⟩ := hi
  have h19 := hi.2.2.2
  have hrecv := va_recv (q0 := o) (a := ad o) X.2.2.2.2.2.2.2.2 hH.1 hcl (by rw [zk_at ho, zk_ent_o hk (zk_c6 hcl)])
  have hr := va_runV (As := as.map (zk_mv ad)) (rest := st) (b := ad o) (C := μ'.1.cls) (g := F0 m pc ls ((as.map (zk_mv ad)).reverse ++ .ref (ad o) :: st)) (cells := cells) (slots := slots) (locs := locs) (e := e) (below := below) (meth := meth) ⟨X.1, X.2.1, X.2.2.2.1, X.2.2.2.2.1, hT⟩ (hc ad cs D H.size) ⟨callB_of (R := R) n hT (zk_gd hi) rfl rfl rfl (hT _ hi.2.1) (hT _ hlk) hi.2.2.1 ⟨hR, by show 8 + (μ'.2.2.1 + 11) + 38 * d' ≤ R.locals; omega⟩, hT _ hin, hT _ hse⟩ ⟨zk_blind, hrecv, fun U hU hW => ⟨rfl, by rw [hU], by rw [hU]; exact ⟨hH.1, hH.2.weaken (fun _ _ _ _ => trivial)⟩, va_K.moved hW.alike X.2.2.2.2.2.2.2.2, zk_nw_warm hW X.2.2.2.2.2.2.1⟩⟩ rfl (by simpa using hn) hls rfl (lv_room hcat) hd ⟨hcs, hsl⟩
  intro T hT0 X0
  obtain ⟨v, st₀, t, T', L2, h0, X', hL, e1, e2, ⟨⟨r, M1, L1, hv, hq, hH1, hK1⟩, hz, hk1⟩, stp⟩ := hr T hT0 X0
  have hv' : v = r.map (zk_mv ad) := by injection hv
  subst hv'
  rw [h0] at hz hk1
  have hAA : ∀ q, zk_A σ ad H.size q → A q := fun q h => h.elim (fun ⟨o, ho, e⟩ => by rw [e]; exact hH.2.2 o _ (zk_at ho)) (fun h => hA q (Nat.le_trans hS.1 h))
  obtain ⟨t2, a1, b1⟩ := kk r M1 L1 T'.heap (locs ++ L2) hq (by rw [e1]; exact ⟨hH1.1, hH1.2.weaken (fun k q _ h => hAA _ h)⟩) ⟨Nat.le_trans hS.1 (by rw [e1]; exact hz), fun q h1 h2 => by rw [e1, hk1 q (Nat.lt_of_lt_of_le h1 hS.1) (fun z => h2 (hAA q z))]; exact hS.2.1 q h1 h2, fun q hq => by
      rcases List.mem_append.mp hq with h | h
      · exact hS.2.2 q h
      · exact hAA _ (hL q h)⟩ (by rw [e1]; exact hz) (fun q h1 h2 => by rw [e1]; exact hk1 q h1 (fun z => z.elim (fun ⟨o, ho, e⟩ => h2 o ho e) (fun h => by omega))) T' rfl X'
  exact ⟨t2, stp t2 a1, b1⟩
