section ZKC
variable {l : Launch} {σ : zk_Sh} {d d' : Nat} {μ μ' : zk_I} {pc : Nat} {ls : List (Option Value)} {as st rest : List Value} {M M1 : zk_M} {L L1 : zk_L} {Q Q' : Option Value → zk_M → zk_L → Prop}
def zk_sl (as : List Value) : List (Option Value) := as.flatMap (fun v => if v.category = 2 then [some v, none] else [some v])
theorem zk_sl_len (ad : Nat → Nat) (as : List Value) : (lg_sl (as.map (zk_mv ad))).length = (zk_sl as).length := by
  induction as with
  | nil => rfl
  | cons a as ih =>
    simp only [zk_sl, lg_sl, List.map_cons, List.flatMap_cons, List.length_append, zk_mv_cat] at ih ⊢
    rw [ih]
    split <;> rfl
theorem zk_sl_args (ad : Nat → Nat) (n : Nat) : ∀ (as : List Value) (k i : Nat) (v : Value), (zk_sl as ++ List.replicate n none)[i]? = some (some v) → (k + i, zk_mv ad v) ∈ lv_args k (as.map (zk_mv ad))
  | [], k, i, v, h => by
    exfalso
    simp only [zk_sl, List.flatMap_nil, List.nil_append] at h
    have := List.mem_of_getElem? h
    simp at this
  | a :: as, k, i, v, h => by
    simp only [zk_sl, List.flatMap_cons, List.map_cons, lv_args, zk_mv_cat] at h ⊢
    by_cases hc : a.category = 2
    · simp only [hc, if_true, List.cons_append, List.nil_append] at h ⊢
      match i, h with
      | 0, h => simp at h; subst h; exact List.mem_cons_self
      | 1, h => simp at h
      | i + 2, h =>
        refine List.mem_cons_of_mem _ ?_
        have := zk_sl_args ad n as (k + 2) i v (by simpa [zk_sl] using h)
        rwa [show k + (i + 2) = k + 2 + i by omega]
    · simp only [hc, if_false, List.cons_append, List.nil_append] at h ⊢
      match i, h with
      | 0, h => simp at h; subst h; exact List.mem_cons_self
      | i + 1, h =>
        refine List.mem_cons_of_mem _ ?_
        have := zk_sl_args ad n as (k + 1) i v (by simpa [zk_sl] using h)
        rwa [show k + (i + 1) = k + 1 + i by omega]
theorem zk_ofR (hy : plainName μ.1.cls = true) (hown : μ.1.cls = μ.2.2.2.2) (hlen : (zk_sl as).length ≤ μ.2.2.1) (hls : zk_sl as ++ List.replicate (μ.2.2.1 - (zk_sl as).length) none = ls) (h : zk_R l σ d μ 0 ls [] M L Q) : zk_C l σ d μ as M L Q := by
  intro ad cs D sz
  refine Met.ofW (cc := μ.2.1) (maxL := μ.2.2.1) (ret := μ.2.2.2.1) hy rfl ?_
  intro p e s m args below meth c s₁ B hml hv
  obtain ⟨rfl, hsz, hH, hK, hN⟩ := hv
  have hts := atoms_spec (ws := zk_wd μ) B.pre
  have hown' : s.vm.findClass μ.1.cls = some m.cls := findClass_of_methodNamed B.named
  subst hsz
  have he := lv_entry (as.map (zk_mv ad)) (n := μ.2.2.1) (by rw [zk_sl_len]; exact hlen)
  rw [lg_entry_eq]
  generalize (lg_sl (as.map (zk_mv ad)) ++ List.replicate (μ.2.2.1 - (lg_sl (as.map (zk_mv ad))).length) Slot.unset).toArray = lsA at he ⊢
  refine h p e s m _ below meth c ad cs D s.heap [] lsA ⟨B.exec, B.bytes, B.returns, hml, by rw [← hown]; exact hown', fun w hw => hts w (List.mem_cons_of_mem _ hw), hN, B.notSynchronized, hK⟩ ⟨hH.1, hH.2.weaken (fun k q hq _ => ?_)⟩ va_S.rf ⟨he.1, he.2.1, ?_, fun i v hi => ?_⟩
  · have hk : k < σ.1 := by have := (List.getElem?_eq_some_iff.mp hq).1; simpa [zk_ws] using this
    rw [zk_at hk] at hq
    cases hq
    exact Or.inl ⟨k, hk, rfl⟩
  · rw [← hls]
    simp
    omega
  · subst hls
    have := zk_sl_args ad _ as 0 i v hi
    rw [Nat.zero_add] at this
    exact he.2.2 _ this
/-- a call that has come back -/
theorem zk_goes {p : Program} {e : Env} {R : Room} {s : State} {m : MethodId} {args : Array Value} {below : List Frame} {meth : Method} {c : Code} {H : Heap} {locs : List Loc} {QW : State → Prop} {lsA : Array Slot} {st0 rs : List Value} {ad : Nat → Nat} {cs : ClassId × ClassId × ClassId} {D : va_G} {a : Array Value}
    (hr : va_Run p l e R s m args below meth c H locs 0 0 0 0 (F0 m pc lsA st0) rs (zk_Q σ ad cs D (zk_A σ ad H.size) Q' a) (zk_A σ ad H.size)) (hS : va_S (zk_A σ ad s.heap.size) s.heap H locs)
    (kk : ∀ (r : Option Value) (M1 : zk_M) (L1 : zk_L) (H1 : Heap) (locs1 : List Loc), Q' r M1 L1 → zk_H σ ad cs D (zk_A σ ad s.heap.size) M1 L1 H1 → va_S (zk_A σ ad s.heap.size) s.heap H1 locs1 → W p l e R s m args below meth c H1 locs1 0 0 QW (F0 m (pc + 3) lsA ((r.map (zk_mv ad)).toList ++ rs))) : W p l e R s m args below meth c H locs 0 0 QW (F0 m pc lsA st0) := by
  intro T hT X
  obtain ⟨v, st₀, t, T', L2, h0, X', hL, e1, e2, ⟨⟨r, M1, L1, hv, hq, hH1, hK1⟩, hz, hk⟩, st⟩ := hr T hT X
  have hv' : v = r.map (zk_mv ad) := by injection hv
  subst hv'
  rw [h0] at hz hk
  have hA : ∀ q, zk_A σ ad H.size q → zk_A σ ad s.heap.size q := fun q h => h.elim Or.inl (fun h => Or.inr (Nat.le_trans hS.1 h))
  obtain ⟨t2, a1, b1⟩ := kk r M1 L1 T'.heap (locs ++ L2) hq (by rw [e1]; exact ⟨hH1.1, hH1.2.weaken (fun k q _ h => hA _ h)⟩) ⟨Nat.le_trans hS.1 (by rw [e1]; exact hz), fun q h1 h2 => by rw [e1, hk q (Nat.lt_of_lt_of_le h1 hS.1) (fun z => h2 (hA q z))]; exact hS.2.1 q h1 h2, fun q hq => by
      rcases List.mem_append.mp hq with h | h
      · exact hS.2.2 q h
      · exact hA _ (hL q h)⟩ T' rfl X'
  exact ⟨t2, st t2 a1, b1⟩
/-- a method's own facts: its code among the words, its class, its parameters -/
def zk_MI (μ : zk_I) (n : Nat) : Prop := Cond.code μ.1 μ.2.1 μ.2.2.1 μ.2.2.2.1 ∈ zk_tb ∧ Cond.initialized μ.1.cls ∈ zk_tb ∧ (μ.1.cls ≠ "java/lang/invoke/MethodHandle" ∧ μ.1.cls ≠ "java/lang/invoke/VarHandle" ∧ (parseMethodDescriptor μ.1.desc).map (fun d => d.parameters.length) = some n) ∧ μ.2.2.1 ≤ 19
theorem zk_gd {n : Nat} (h : zk_MI μ n) : GoodIn zk_tb (zk_wd μ) := fun w hw => by
  rcases List.mem_cons.mp hw with e | h'
  · rw [e]; exact ⟨h.1, zk_good _ h.1⟩
  · exact ⟨h', zk_good _ h'⟩
theorem zk_room {n : Nat} (h : zk_MI μ n) (hd : d' + 1 ≤ d) : (zk_rm d').frames + 1 ≤ (zk_rm d).frames ∧ 8 + (μ.2.2.1 + 11) + (zk_rm d').locals ≤ (zk_rm d).locals := by
  have := h.2.2.2
  refine ⟨hd, ?_⟩
  show 8 + (μ.2.2.1 + 11) + 38 * d' ≤ 38 * d
  omega
theorem zk_nw_tab : ∀ w ∈ zk_nw, w.onTables = true := fun w h => by
  have h2 := (List.mem_filter.mp h).2
  cases w <;> first | rfl | (exact absurd h2 (fun q => by cases q))
theorem zk_nw_warm {s U : State} (hW : s.WarmedH U.vm) (h : ∀ w ∈ zk_nw, va_Nw w s) : ∀ w ∈ zk_nw, va_Nw w U := fun w hw => by
  have h1 := h w hw
  have h2 := (List.mem_filter.mp hw).2
  cases w <;> first | exact va_Nw.warmM hW h1 | (exact absurd h2 (fun q => by cases q))
theorem zk_blind {ad : Nat → Nat} {cs : ClassId × ClassId × ClassId} {D : va_G} {sz : Nat} {av : List Value} : FrameBlind (va_Pc av (fun U => U.heap.size = sz ∧ zk_H σ ad cs D (fun _ => True) M L U.heap ∧ va_K D vwCl (zk_ty cs) U ∧ ∀ w ∈ zk_nw, va_Nw w U)) := by
  intro a U g mk q
  obtain ⟨q0, q1, q2, q3, q4⟩ := q
  exact ⟨q0, q1, q2, va_K.moved (u := U) (U := U.calling g mk a) (Vm.Alike.refl U.vm) q3, fun w hw => va_Nw.same (u := U) (U := U.calling g mk a) (zk_nw_tab w hw) rfl (q4 w hw)⟩
theorem zk_toL {ad : Nat → Nat} {r : Option Value} {rest : List Value} : (r.map (zk_mv ad)).toList ++ rest.map (zk_mv ad) = (r.toList ++ rest).map (zk_mv ad) := by cases r <;> rfl
theorem zk_cats {ad : Nat → Nat} {rest : List Value} : ((rest.map (zk_mv ad)).map fun v => v.category) = rest.map fun v => v.category := by
  rw [List.map_map]
  exact List.map_congr_left (fun v _ => zk_mv_cat ad v)
theorem zk_callS {n idx : Nat} (hc : zk_C l σ d' μ' as M L Q') (hd : decode μ.2.1 pc = .ok (.invokestatic idx, 3)) (hi : zk_MI μ' n) (hlk : Cond.methodLink μ.2.2.2.2 idx μ'.1 ∈ zk_tb) (hst : Cond.static μ'.1 ∈ zk_tb) (hn : as.length = n) (hdd : d' + 1 ≤ d) (hs : st = as.reverse ++ rest) (hcat : (rest.map fun v => v.category).sum ≤ 8)
    (kk : ∀ (r : Option Value) (M1 : zk_M) (L1 : zk_L), Q' r M1 L1 → zk_R l σ d μ (pc + 3) ls (r.toList ++ rest) M1 L1 Q) : zk_R l σ d μ pc ls st M L Q := by
  intro p e s m args below meth c ad cs D H locs lsA X hH hS hl
  subst hs
  have hT := X.2.2.2.2.2.1
  refine zk_goes (rs := rest.map (zk_mv ad)) (va_runS (As := as.map (zk_mv ad)) (rest := rest.map (zk_mv ad)) ⟨X.1, X.2.1, X.2.2.2.1, X.2.2.2.2.1, hT⟩ (hc ad cs D H.size) ⟨callB_of n hT (zk_gd hi) rfl rfl rfl (hT _ hi.2.1) (hT _ hlk) hi.2.2.1 (zk_room hi hdd), hT _ hst⟩ ⟨zk_blind, fun U hU hW => ⟨rfl, by rw [hU], by rw [hU]; exact ⟨hH.1, hH.2.weaken (fun _ _ _ _ => trivial)⟩, va_K.moved hW.alike X.2.2.2.2.2.2.2.2, zk_nw_warm hW X.2.2.2.2.2.2.1⟩⟩ rfl (by simpa using hn) hl.1 (by simp) (lv_room (by rw [zk_cats]; exact hcat)) hd ⟨Nat.le_refl _, Nat.le_refl _⟩) hS (fun r M1 L1 H1 locs1 hq hH1 hS1 => ?_)
  rw [zk_toL]
  exact kk r M1 L1 hq p e s m args below meth c ad cs D H1 locs1 lsA X hH1 hS1 hl
theorem zk_callN {n idx : Nat} {host : String} (hc : zk_C l σ d' μ' as M L Q') (hd : decode μ.2.1 pc = .ok (.invokestatic idx, 3)) (hi : zk_MI μ' n) (hlk : Cond.methodLinkNest μ.2.2.2.2 idx μ'.1 host ∈ zk_nw) (hst : Cond.static μ'.1 ∈ zk_tb) (hn : as.length = n) (hdd : d' + 1 ≤ d) (hs : st = as.reverse ++ rest) (hcat : (rest.map fun v => v.category).sum ≤ 8)
    (kk : ∀ (r : Option Value) (M1 : zk_M) (L1 : zk_L), Q' r M1 L1 → zk_R l σ d μ (pc + 3) ls (r.toList ++ rest) M1 L1 Q) : zk_R l σ d μ pc ls st M L Q := by
  intro p e s m args below meth c ad cs D H locs lsA X hH hS hl
  subst hs
  have hT := X.2.2.2.2.2.1
  refine zk_goes (rs := rest.map (zk_mv ad)) (va_runSN (As := as.map (zk_mv ad)) (rest := rest.map (zk_mv ad)) ⟨X.1, X.2.1, X.2.2.2.1, X.2.2.2.2.1, hT⟩ (hc ad cs D H.size) ⟨va_cnB n hT (zk_gd hi) rfl rfl rfl (X.2.2.2.2.2.2.1 _ hlk) (hT _ hi.2.1) hi.2.2.1 (zk_room hi hdd), hT _ hst, trivial⟩ ⟨zk_blind, fun U hU hW => ⟨rfl, by rw [hU], by rw [hU]; exact ⟨hH.1, hH.2.weaken (fun _ _ _ _ => trivial)⟩, va_K.moved hW.alike X.2.2.2.2.2.2.2.2, zk_nw_warm hW X.2.2.2.2.2.2.1⟩⟩ rfl (by simpa using hn) hl.1 (by simp) (lv_room (by rw [zk_cats]; exact hcat)) hd ⟨Nat.le_refl _, Nat.le_refl _⟩) hS (fun r M1 L1 H1 locs1 hq hH1 hS1 => ?_)
  rw [zk_toL]
  exact kk r M1 L1 hq p e s m args below meth c ad cs D H1 locs1 lsA X hH1 hS1 hl
/-- an instance method's facts: its class's number -/
def zk_MV (μ : zk_I) (n c : Nat) : Prop := zk_MI μ n ∧ Cond.instanceMethod μ.1 ∈ zk_tb ∧ Cond.selects μ.1.cls μ.1 μ.1 ∈ zk_tb ∧ ∃ (T : u_T) (N : Nat), vwCl[c]? = some (μ.1.cls, T, N)
theorem zk_callV {n idx ci o : Nat} (hc : zk_C l σ d' μ' (.ref o :: as) M L Q') (hd : decode μ.2.1 pc = .ok (.invokevirtual idx, 3)) (hi : zk_MV μ' n ci) (hlk : Cond.methodLink μ.2.2.2.2 idx μ'.1 ∈ zk_tb) (ho : o < σ.1) (hk : σ.2.1 o = ci) (hn : as.length = n) (hdd : d' + 1 ≤ d) (hs : st = as.reverse ++ .ref o :: rest) (hcat : (rest.map fun v => v.category).sum ≤ 8)
    (kk : ∀ (r : Option Value) (M1 : zk_M) (L1 : zk_L), Q' r M1 L1 → zk_R l σ d μ (pc + 3) ls (r.toList ++ rest) M1 L1 Q) : zk_R l σ d μ pc ls st M L Q := by
  intro p e s m args below meth c ad cs D H locs lsA X hH hS hl
  subst hs
  have hT := X.2.2.2.2.2.1
  obtain ⟨hi, hin, hse, TT, NN, hcl⟩ := hi
  have hrecv := va_recv (q0 := o) (a := ad o) X.2.2.2.2.2.2.2.2 hH.1 hcl (by rw [zk_at ho, zk_ent_o hk (zk_c6 hcl)])
  refine zk_goes (rs := rest.map (zk_mv ad)) (va_runV (As := as.map (zk_mv ad)) (rest := rest.map (zk_mv ad)) (b := ad o) (C := μ'.1.cls) ⟨X.1, X.2.1, X.2.2.2.1, X.2.2.2.2.1, hT⟩ (hc ad cs D H.size) ⟨callB_of n hT (zk_gd hi) rfl rfl rfl (hT _ hi.2.1) (hT _ hlk) hi.2.2.1 (zk_room hi hdd), hT _ hin, hT _ hse⟩ ⟨zk_blind, hrecv, fun U hU hW => ⟨rfl, by rw [hU], by rw [hU]; exact ⟨hH.1, hH.2.weaken (fun _ _ _ _ => trivial)⟩, va_K.moved hW.alike X.2.2.2.2.2.2.2.2, zk_nw_warm hW X.2.2.2.2.2.2.1⟩⟩ rfl (by simpa using hn) hl.1 (by simp [zk_mv]) (lv_room (by rw [zk_cats]; exact hcat)) hd ⟨Nat.le_refl _, Nat.le_refl _⟩) hS (fun r M1 L1 H1 locs1 hq hH1 hS1 => ?_)
  rw [zk_toL]
  exact kk r M1 L1 hq p e s m args below meth c ad cs D H1 locs1 lsA X hH1 hS1 hl

theorem zk_cSi {n idx : Nat} {v : Int32} (hc : zk_C l σ d' μ' as M L (zk_Ei v M1 L1)) (hd : decode μ.2.1 pc = .ok (.invokestatic idx, 3)) (hi : zk_MI μ' n) (hlk : Cond.methodLink μ.2.2.2.2 idx μ'.1 ∈ zk_tb) (hst : Cond.static μ'.1 ∈ zk_tb) (hn : as.length = n) (hdd : d' + 1 ≤ d) (hs : st = as.reverse ++ rest) (hcat : (rest.map fun v => v.category).sum ≤ 8) (kk : zk_R l σ d μ (pc + 3) ls (.int v :: rest) M1 L1 Q) : zk_R l σ d μ pc ls st M L Q :=
  zk_callS hc hd hi hlk hst hn hdd hs hcat (fun r M2 L2 h => by obtain ⟨rfl, rfl, rfl⟩ := h; exact kk)
theorem zk_cSl {n idx : Nat} {v : Int64} (hc : zk_C l σ d' μ' as M L (zk_El v M1 L1)) (hd : decode μ.2.1 pc = .ok (.invokestatic idx, 3)) (hi : zk_MI μ' n) (hlk : Cond.methodLink μ.2.2.2.2 idx μ'.1 ∈ zk_tb) (hst : Cond.static μ'.1 ∈ zk_tb) (hn : as.length = n) (hdd : d' + 1 ≤ d) (hs : st = as.reverse ++ rest) (hcat : (rest.map fun v => v.category).sum ≤ 8) (kk : zk_R l σ d μ (pc + 3) ls (.long v :: rest) M1 L1 Q) : zk_R l σ d μ pc ls st M L Q :=
  zk_callS hc hd hi hlk hst hn hdd hs hcat (fun r M2 L2 h => by obtain ⟨rfl, rfl, rfl⟩ := h; exact kk)
theorem zk_cSv {n idx : Nat}  (hc : zk_C l σ d' μ' as M L (zk_Ev M1 L1)) (hd : decode μ.2.1 pc = .ok (.invokestatic idx, 3)) (hi : zk_MI μ' n) (hlk : Cond.methodLink μ.2.2.2.2 idx μ'.1 ∈ zk_tb) (hst : Cond.static μ'.1 ∈ zk_tb) (hn : as.length = n) (hdd : d' + 1 ≤ d) (hs : st = as.reverse ++ rest) (hcat : (rest.map fun v => v.category).sum ≤ 8) (kk : zk_R l σ d μ (pc + 3) ls (rest) M1 L1 Q) : zk_R l σ d μ pc ls st M L Q :=
  zk_callS hc hd hi hlk hst hn hdd hs hcat (fun r M2 L2 h => by obtain ⟨rfl, rfl, rfl⟩ := h; exact kk)
theorem zk_cNi {n idx : Nat} {host : String} {v : Int32} (hc : zk_C l σ d' μ' as M L (zk_Ei v M1 L1)) (hd : decode μ.2.1 pc = .ok (.invokestatic idx, 3)) (hi : zk_MI μ' n) (hlk : Cond.methodLinkNest μ.2.2.2.2 idx μ'.1 host ∈ zk_nw) (hst : Cond.static μ'.1 ∈ zk_tb) (hn : as.length = n) (hdd : d' + 1 ≤ d) (hs : st = as.reverse ++ rest) (hcat : (rest.map fun v => v.category).sum ≤ 8) (kk : zk_R l σ d μ (pc + 3) ls (.int v :: rest) M1 L1 Q) : zk_R l σ d μ pc ls st M L Q :=
  zk_callN hc hd hi hlk hst hn hdd hs hcat (fun r M2 L2 h => by obtain ⟨rfl, rfl, rfl⟩ := h; exact kk)
theorem zk_cNl {n idx : Nat} {host : String} {v : Int64} (hc : zk_C l σ d' μ' as M L (zk_El v M1 L1)) (hd : decode μ.2.1 pc = .ok (.invokestatic idx, 3)) (hi : zk_MI μ' n) (hlk : Cond.methodLinkNest μ.2.2.2.2 idx μ'.1 host ∈ zk_nw) (hst : Cond.static μ'.1 ∈ zk_tb) (hn : as.length = n) (hdd : d' + 1 ≤ d) (hs : st = as.reverse ++ rest) (hcat : (rest.map fun v => v.category).sum ≤ 8) (kk : zk_R l σ d μ (pc + 3) ls (.long v :: rest) M1 L1 Q) : zk_R l σ d μ pc ls st M L Q :=
  zk_callN hc hd hi hlk hst hn hdd hs hcat (fun r M2 L2 h => by obtain ⟨rfl, rfl, rfl⟩ := h; exact kk)
theorem zk_cNv {n idx : Nat} {host : String}  (hc : zk_C l σ d' μ' as M L (zk_Ev M1 L1)) (hd : decode μ.2.1 pc = .ok (.invokestatic idx, 3)) (hi : zk_MI μ' n) (hlk : Cond.methodLinkNest μ.2.2.2.2 idx μ'.1 host ∈ zk_nw) (hst : Cond.static μ'.1 ∈ zk_tb) (hn : as.length = n) (hdd : d' + 1 ≤ d) (hs : st = as.reverse ++ rest) (hcat : (rest.map fun v => v.category).sum ≤ 8) (kk : zk_R l σ d μ (pc + 3) ls (rest) M1 L1 Q) : zk_R l σ d μ pc ls st M L Q :=
  zk_callN hc hd hi hlk hst hn hdd hs hcat (fun r M2 L2 h => by obtain ⟨rfl, rfl, rfl⟩ := h; exact kk)
theorem zk_cVi {n idx ci o : Nat} {v : Int32} (hc : zk_C l σ d' μ' (.ref o :: as) M L (zk_Ei v M1 L1)) (hd : decode μ.2.1 pc = .ok (.invokevirtual idx, 3)) (hi : zk_MV μ' n ci) (hlk : Cond.methodLink μ.2.2.2.2 idx μ'.1 ∈ zk_tb) (ho : o < σ.1) (hk : σ.2.1 o = ci) (hn : as.length = n) (hdd : d' + 1 ≤ d) (hs : st = as.reverse ++ .ref o :: rest) (hcat : (rest.map fun v => v.category).sum ≤ 8) (kk : zk_R l σ d μ (pc + 3) ls (.int v :: rest) M1 L1 Q) : zk_R l σ d μ pc ls st M L Q :=
  zk_callV hc hd hi hlk ho hk hn hdd hs hcat (fun r M2 L2 h => by obtain ⟨rfl, rfl, rfl⟩ := h; exact kk)
theorem zk_cVl {n idx ci o : Nat} {v : Int64} (hc : zk_C l σ d' μ' (.ref o :: as) M L (zk_El v M1 L1)) (hd : decode μ.2.1 pc = .ok (.invokevirtual idx, 3)) (hi : zk_MV μ' n ci) (hlk : Cond.methodLink μ.2.2.2.2 idx μ'.1 ∈ zk_tb) (ho : o < σ.1) (hk : σ.2.1 o = ci) (hn : as.length = n) (hdd : d' + 1 ≤ d) (hs : st = as.reverse ++ .ref o :: rest) (hcat : (rest.map fun v => v.category).sum ≤ 8) (kk : zk_R l σ d μ (pc + 3) ls (.long v :: rest) M1 L1 Q) : zk_R l σ d μ pc ls st M L Q :=
  zk_callV hc hd hi hlk ho hk hn hdd hs hcat (fun r M2 L2 h => by obtain ⟨rfl, rfl, rfl⟩ := h; exact kk)
theorem zk_cVv {n idx ci o : Nat}  (hc : zk_C l σ d' μ' (.ref o :: as) M L (zk_Ev M1 L1)) (hd : decode μ.2.1 pc = .ok (.invokevirtual idx, 3)) (hi : zk_MV μ' n ci) (hlk : Cond.methodLink μ.2.2.2.2 idx μ'.1 ∈ zk_tb) (ho : o < σ.1) (hk : σ.2.1 o = ci) (hn : as.length = n) (hdd : d' + 1 ≤ d) (hs : st = as.reverse ++ .ref o :: rest) (hcat : (rest.map fun v => v.category).sum ≤ 8) (kk : zk_R l σ d μ (pc + 3) ls (rest) M1 L1 Q) : zk_R l σ d μ pc ls st M L Q :=
  zk_callV hc hd hi hlk ho hk hn hdd hs hcat (fun r M2 L2 h => by obtain ⟨rfl, rfl, rfl⟩ := h; exact kk)
theorem zk_mmin {idx : Nat} {x y : Int32} (hd : decode μ.2.1 pc = .ok (.invokestatic idx, 3)) (hlk : Cond.methodLink μ.2.2.2.2 idx Lib.Math.min.name ∈ zk_tb) (hst : Cond.static Lib.Math.min.name ∈ zk_tb) (hin : Cond.initialized "java/lang/Math" ∈ zk_tb) (hco : Cond.code Lib.Math.min.name Lib.Math.min.code 2 (some .int) ∈ zk_tb) (hdd : 1 ≤ d) (hcat : (rest.map fun v => v.category).sum ≤ 8) (kk : zk_R l σ d μ (pc + 3) ls (.int (if y < x then y else x) :: rest) M L Q) : zk_R l σ d μ (pc) ls (.int y :: .int x :: rest) M L Q := by
  intro p e s m args below meth c ad cs D H locs lsA X hH hS hl
  have hT := X.2.2.2.2.2.1
  exact va_mmin X.1 X.2.1 (X.2.2.2.1.trans hl.1.symm) X.2.2.2.2.1 (hT _ hlk) (hT _ hst) (hT _ hin) (hT _ hco) hdd (by rw [zk_cats]; show _ + 13 ≤ 38 * d; omega) (Nat.le_refl _) (Nat.le_refl _) hd (kk p e s m args below meth c ad cs D H locs lsA X hH hS hl)
theorem zk_mmax {idx : Nat} {x y : Int32} (hd : decode μ.2.1 pc = .ok (.invokestatic idx, 3)) (hlk : Cond.methodLink μ.2.2.2.2 idx Lib.Math.max.name ∈ zk_tb) (hst : Cond.static Lib.Math.max.name ∈ zk_tb) (hin : Cond.initialized "java/lang/Math" ∈ zk_tb) (hco : Cond.code Lib.Math.max.name Lib.Math.max.code 2 (some .int) ∈ zk_tb) (hdd : 1 ≤ d) (hcat : (rest.map fun v => v.category).sum ≤ 8) (kk : zk_R l σ d μ (pc + 3) ls (.int (if x < y then y else x) :: rest) M L Q) : zk_R l σ d μ (pc) ls (.int y :: .int x :: rest) M L Q := by
  intro p e s m args below meth c ad cs D H locs lsA X hH hS hl
  have hT := X.2.2.2.2.2.1
  exact va_mmax X.1 X.2.1 (X.2.2.2.1.trans hl.1.symm) X.2.2.2.2.1 (hT _ hlk) (hT _ hst) (hT _ hin) (hT _ hco) hdd (by rw [zk_cats]; show _ + 13 ≤ 38 * d; omega) (Nat.le_refl _) (Nat.le_refl _) hd (kk p e s m args below meth c ad cs D H locs lsA X hH hS hl)
theorem zk_copy {idx o0 o1 : Nat} {sp dp n : Int32} (hd : decode μ.2.1 pc = .ok (.invokestatic idx, 3)) (hlk : Cond.methodLink μ.2.2.2.2 idx arraycopyName ∈ zk_tb) (hna : Cond.native arraycopyName ∈ zk_tb) (hst : Cond.static arraycopyName ∈ zk_tb) (hin : Cond.initialized "java/lang/System" ∈ zk_tb) (ho0 : o0 < σ.1) (hc0 : σ.2.1 o0 = 100) (ho1 : o1 < σ.1) (hc1 : σ.2.1 o1 = 100) (h1 : ¬ sp < 0) (h2 : ¬ dp < 0) (h3 : ¬ n < 0) (h4 : sp.toNatClampNeg + n.toNatClampNeg ≤ σ.2.2.1 o0) (h5 : dp.toNatClampNeg + n.toNatClampNeg ≤ σ.2.2.1 o1) (hdd : 1 ≤ d) (hcat : (rest.map fun v => v.category).sum + (nativeFrameWords "java/lang/System" "arraycopy" 5 + 11) ≤ 38 * d)
    (kk : zk_R l σ d μ (pc + 3) ls (rest) (va_up M o1 (va_cpy (M o0) (M o1) sp.toNatClampNeg dp.toNatClampNeg n.toNatClampNeg)) L Q) : zk_R l σ d μ (pc) ls (.int n :: .int dp :: .ref o1 :: .int sp :: .ref o0 :: rest) M L Q := by
  intro p e s m args below meth c ad cs D H locs lsA X hH hS hl
  have hT := X.2.2.2.2.2.1
  refine va_copyi (D := D) (tys := zk_ty cs) X.1 X.2.1 (X.2.2.2.1.trans hl.1.symm) X.2.2.2.2.1 (hT _ hlk) (hT _ hna) (hT _ hst) (hT _ hin) X.2.2.2.2.2.2.2.2 hH.1 hH.2 hS o0 o1 0 0 (a0 := ad o0) (a := ad o1) (by rw [zk_at ho0, zk_ent_i hc0]) (by rw [zk_at ho1, zk_ent_i hc1]) rfl rfl rfl h1 h2 h3 h4 h5 (fun _ _ => rfl) hdd (by rw [zk_cats]; exact hcat) hd (fun H1 locs1 hP hD hS1 => ?_)
  have e1 : (Sum.inl (cs.1, σ.2.2.1 o1, Sum.inl (va_cpy (M o0) (M o1) sp.toNatClampNeg dp.toNatClampNeg n.toNatClampNeg)) : va_E) = zk_ent ad cs σ (va_up M o1 (va_cpy (M o0) (M o1) sp.toNatClampNeg dp.toNatClampNeg n.toNatClampNeg)) L o1 := by rw [zk_ent_i hc1, zk_up_eq]
  rw [e1, zk_setM] at hP hD
  exact kk p e s m args below meth c ad cs D H1 locs1 lsA X ⟨hP, hD⟩ hS1 hl
end ZKC
