/-! the law's own rows -/
def R_law : String := "ShodForTheRoadLaw"
def lw_P (b : Addr) (xs : List Int32) (args : Array Value) (s : State) : Prop := args = #[.ref b] ∧ s.IntsAt b xs ∧ xs.length ≤ 3072 ∧ (Jvm.Cond.and given_1 narrow_1).before args s = true
def lw_Q (_ : Array Value) (s : State) (o : Outcome) (t : State) : Prop := o = .returned (some (.int 1)) ∧ Framed s o t [] 600000 7302250
def lw_Z (below : List Frame) (a : Array Value) (s : State) : State → Prop := fun t => ∃ o, t.status = .running ∧ Ended t below o ∧ lw_Q a s o t
/-- the law's own end, with 1 on the stack, nothing written that was there before, its room as the claim has it -/
theorem lw_ret {p : Program} {l : Launch} {e : Env} {s : State} {m : MethodId} {below : List Frame} {meth : Method} {c : Code} {b : Nat} (hx : p.tables.exec = Jvm.exec) (hb : c.code = code) (hr : meth.sig.returnType = ret) (hlocks : meth.locks = false) {pc : Nat} {H : Heap} {ls : Array Slot} (hdg : decode code pc = .ok (.ireturn, 1)) : W p l e room_1 s m #[Value.ref b] below meth c H [] 600000 7302250 (lw_Z below #[Value.ref b] s) (F0 m pc ls [.int 1]) := by
  intro T hT X
  obtain ⟨fs, hret, hrun, hended, hW, hframe⟩ := X.leave (v := some (.int 1)) (hlocks := hlocks) (fun h => by rw [hr] at h; cases h)
  have hmeth' : T.vm.method? m = some meth := X.method'
  refine ⟨T.setFrames fs, ?_, .returned (some (.int 1)), hrun, hended, rfl, ⟨_, rfl⟩, hW, hframe⟩
  jvm_step X.here [X.here.top, hx, hb, hdg, hmeth', hr, ret, narrow_b1]
  (try refine ⟨rfl, ?_⟩); (try refine ⟨rfl, ?_⟩)
  first | (intro acts; rw [hret _ acts rfl rfl rfl]) | rw [hret _ _ rfl rfl rfl]
  exact Steps.refl _
/-- what holds at the law's entry: the machine, the code, the tables' words (any of lw_tbl by 'hts w (by decide +kernel)'), the script of L ints xs at the cell b, what the Statement gives of the start (any of its parts by flat_of_before) -/
def lw_At (p : Program) (s : State) (m : MethodId) (meth : Method) (c : Code) (b L : Nat) (xs : Nat → Int32) : Prop :=
  p.tables.exec = Jvm.exec ∧ c.code = code ∧ meth.sig.returnType = ret ∧ c.maxLocals = 4 ∧ s.vm.findClass R_law = some m.cls ∧ (∀ w ∈ lw_tbl, w.before #[Value.ref b] s = true) ∧ va_X b L xs s s.heap ∧ b < s.heap.size ∧ meth.locks = false ∧ (Jvm.Cond.and given_1 narrow_1).before #[Value.ref b] s = true
abbrev zl_mu : zk_I := (yL_law, cL_law, 4, ret, RL)
abbrev zl_A (s : State) : Nat → Prop := fun q => s.heap.size ≤ q
def zl_V (cs : ClassId × ClassId × ClassId) (D : va_G) (adC adM : Nat → Nat) (s : State) (H : Heap) (locs : List Loc) (M : zk_M) (LC : zk_L) (N : zk_M) (LM : zk_L) : Prop := zk_H zc adC cs D (zl_A s) M LC H ∧ zk_H zm adM cs D (zl_A s) N LM H ∧ va_S (zl_A s) s.heap H locs ∧ ∀ o o', o < zc.1 → o' < zm.1 → adC o ≠ adM o'
def zl_ad (b x m : Nat) : Nat → Nat := fun k => if k = 0 then b else if k = 1 then x else m
/-- the law at pc, its counter i, this stack: over these memories it comes to its end with 1 -/
def zl_R (l : Launch) (Ln : Nat) (xs : Nat → Int32) (pc : Nat) (i : Int32) (st : List Value) (M N : zk_M) : Prop :=
  ∀ (p : Program) (e : Env) (s : State) (m : MethodId) (below : List Frame) (meth : Method) (c : Code) (b : Nat) (cs : ClassId × ClassId × ClassId) (D : va_G) (adC adM : Nat → Nat) (H : Heap) (locs : List Loc) (ls : Array Slot) (LC LM : zk_L),
    lw_At p s m meth c b Ln xs → zk_X zl_mu cs D p s m #[Value.ref b] meth c → zl_V cs D adC adM s H locs M LC N LM → lv_has ls 4 [(3, .int i), (2, .ref (adM 0)), (1, .ref (adC 0)), (0, .ref b)] →
    W p l e room_1 s m #[Value.ref b] below meth c H locs 57 1044 (lw_Z below #[Value.ref b] s) (F0 m pc ls (st.map (zk_mv (zl_ad b (adC 0) (adM 0)))))
section ZLR
variable {l : Launch} {Ln : Nat} {xs : Nat → Int32} {pc : Nat} {i : Int32} {st : List Value} {M N : zk_M}
theorem zl_al0 (hd : decode cL_law pc = .ok (.aload_n 0, 1)) (kk : zl_R l Ln xs (pc + 1) i (.ref 0 :: st) M N) : zl_R l Ln xs pc i st M N := by
  intro p e s m below meth c b cs D adC adM H locs ls LC LM C0 X V hl
  exact lv_aload_n X.1 X.2.1 hd rfl (lv_at hl 3 rfl) (kk p e s m below meth c b cs D adC adM H locs ls LC LM C0 X V hl)
theorem zl_al1 (hd : decode cL_law pc = .ok (.aload_n 1, 1)) (kk : zl_R l Ln xs (pc + 1) i (.ref 1 :: st) M N) : zl_R l Ln xs pc i st M N := by
  intro p e s m below meth c b cs D adC adM H locs ls LC LM C0 X V hl
  exact lv_aload_n X.1 X.2.1 hd rfl (lv_at hl 2 rfl) (kk p e s m below meth c b cs D adC adM H locs ls LC LM C0 X V hl)
theorem zl_al2 (hd : decode cL_law pc = .ok (.aload_n 2, 1)) (kk : zl_R l Ln xs (pc + 1) i (.ref 2 :: st) M N) : zl_R l Ln xs pc i st M N := by
  intro p e s m below meth c b cs D adC adM H locs ls LC LM C0 X V hl
  exact lv_aload_n X.1 X.2.1 hd rfl (lv_at hl 1 rfl) (kk p e s m below meth c b cs D adC adM H locs ls LC LM C0 X V hl)
theorem zl_il3 (hd : decode cL_law pc = .ok (.iload_n 3, 1)) (kk : zl_R l Ln xs (pc + 1) i (.int i :: st) M N) : zl_R l Ln xs pc i st M N := by
  intro p e s m below meth c b cs D adC adM H locs ls LC LM C0 X V hl
  exact lv_iload_n X.1 X.2.1 hd rfl (lv_at hl 0 rfl) (kk p e s m below meth c b cs D adC adM H locs ls LC LM C0 X V hl)
theorem zl_ic {n : Int} {v : Int32} (hd : decode cL_law pc = .ok (.iconst n, 1)) (hv : Int32.ofInt n = v) (kk : zl_R l Ln xs (pc + 1) i (.int v :: st) M N) : zl_R l Ln xs pc i st M N := by
  intro p e s m below meth c b cs D adC adM H locs ls LC LM C0 X V hl
  exact lv_iconst X.1 X.2.1 hd hv (kk p e s m below meth c b cs D adC adM H locs ls LC LM C0 X V hl)
theorem zl_bi {n : Int} {v : Int32} (hd : decode cL_law pc = .ok (.bipush n, 2)) (hv : (Int8.ofInt n).toInt32 = v) (kk : zl_R l Ln xs (pc + 2) i (.int v :: st) M N) : zl_R l Ln xs pc i st M N := by
  intro p e s m below meth c b cs D adC adM H locs ls LC LM C0 X V hl
  exact lv_bipush X.1 X.2.1 hd hv (kk p e s m below meth c b cs D adC adM H locs ls LC LM C0 X V hl)
theorem zl_iadd {x y : Int32} (hd : decode cL_law pc = .ok (.iadd, 1)) (kk : zl_R l Ln xs (pc + 1) i (.int (x + y) :: st) M N) : zl_R l Ln xs pc i (.int y :: .int x :: st) M N := by
  intro p e s m below meth c b cs D adC adM H locs ls LC LM C0 X V hl
  exact lv_iadd X.1 X.2.1 hd (kk p e s m below meth c b cs D adC adM H locs ls LC LM C0 X V hl)
theorem zl_isub {x y : Int32} (hd : decode cL_law pc = .ok (.isub, 1)) (kk : zl_R l Ln xs (pc + 1) i (.int (x - y) :: st) M N) : zl_R l Ln xs pc i (.int y :: .int x :: st) M N := by
  intro p e s m below meth c b cs D adC adM H locs ls LC LM C0 X V hl
  exact lv_isub X.1 X.2.1 hd (kk p e s m below meth c b cs D adC adM H locs ls LC LM C0 X V hl)
theorem zl_iand {x y : Int32} (hd : decode cL_law pc = .ok (.iand, 1)) (kk : zl_R l Ln xs (pc + 1) i (.int (x &&& y) :: st) M N) : zl_R l Ln xs pc i (.int y :: .int x :: st) M N := by
  intro p e s m below meth c b cs D adC adM H locs ls LC LM C0 X V hl
  exact lv_iand X.1 X.2.1 hd (kk p e s m below meth c b cs D adC adM H locs ls LC LM C0 X V hl)
theorem zl_iald {j : Nat} (hj : j < Ln) (hL : Ln ≤ 3072) (hd : decode cL_law pc = .ok (.iaload, 1)) (kk : zl_R l Ln xs (pc + 1) i (.int (xs j) :: st) M N) : zl_R l Ln xs pc i (.int (nI j) :: .ref 0 :: st) M N := by
  intro p e s m below meth c b cs D adC adM H locs ls LC LM C0 X V hl
  have hX := C0.2.2.2.2.2.2.1
  have hbl := C0.2.2.2.2.2.2.2.1
  have k2 := kk p e s m below meth c b cs D adC adM H locs ls LC LM C0 X V hl
  refine va_sld (A := zl_A s) X.1 X.2.1 hX hbl (Nat.not_le.mpr hbl) V.2.2.1 (vp_in_nI hj (by omega)) hd ?_
  rw [nI_clamp (by omega)]
  exact k2
theorem zl_alen (hd : decode cL_law pc = .ok (.arraylength, 1)) (kk : zl_R l Ln xs (pc + 1) i (.int (nI Ln) :: st) M N) : zl_R l Ln xs pc i (.ref 0 :: st) M N := by
  intro p e s m below meth c b cs D adC adM H locs ls LC LM C0 X V hl
  have hX := C0.2.2.2.2.2.2.1
  have hbl := C0.2.2.2.2.2.2.2.1
  exact va_slen (A := zl_A s) X.1 X.2.1 hX hbl (Nat.not_le.mpr hbl) V.2.2.1 hd (kk p e s m below meth c b cs D adC adM H locs ls LC LM C0 X V hl)
theorem zl_arg {i0 k : Nat} {n : Int} (hk : Int32.ofInt n = nI k) (hi : i0 + 6 ≤ Ln) (hL : Ln ≤ 3072) (h6 : k < 6) (d0 : decode cL_law pc = .ok (.aload_n 0, 1)) (d1 : decode cL_law (pc + 1) = .ok (.iload_n 3, 1)) (d2 : decode cL_law (pc + 2) = .ok (.iconst n, 1)) (d3 : decode cL_law (pc + 3) = .ok (.iadd, 1)) (d4 : decode cL_law (pc + 4) = .ok (.iaload, 1)) (kk : zl_R l Ln xs (pc + 5) (nI i0) (.int (xs (i0 + k)) :: st) M N) : zl_R l Ln xs pc (nI i0) st M N := by
  refine zl_al0 d0 (zl_il3 d1 (zl_ic d2 hk (zl_iadd d3 ?_)))
  rw [nI_add]
  exact zl_iald (by omega) hL d4 kk
theorem zl_goto {off : Int} {tgt : Nat} (hd : decode cL_law pc = .ok (.goto off, 3)) (ht : (pc : Int) + off = (tgt : Int)) (kk : zl_R l Ln xs tgt i st M N) : zl_R l Ln xs pc i st M N := by
  intro p e s m below meth c b cs D adC adM H locs ls LC LM C0 X V hl
  exact lv_goto X.1 X.2.1 hd ht (kk p e s m below meth c b cs D adC adM H locs ls LC LM C0 X V hl)
theorem zl_eqI {x : Int32} {off : Int} {tgt : Nat} (hd : decode cL_law pc = .ok (.if_icmp .eq off, 3)) (ht : (pc : Int) + off = (tgt : Int)) (kk : zl_R l Ln xs tgt i st M N) : zl_R l Ln xs pc i (.int x :: .int x :: st) M N := by
  intro p e s m below meth c b cs D adC adM H locs ls LC LM C0 X V hl
  exact lv_icmp_eq X.1 X.2.1 hd ht (fun _ => kk p e s m below meth c b cs D adC adM H locs ls LC LM C0 X V hl) (fun q => absurd rfl q)
theorem zl_eqL {x : Int64} {off : Int} {tgt : Nat} (h1 : decode cL_law pc = .ok (.lcmp, 1)) (hd : decode cL_law (pc + 1) = .ok (.ifCond .eq off, 3)) (ht : ((pc + 1 : Nat) : Int) + off = (tgt : Int)) (kk : zl_R l Ln xs tgt i st M N) : zl_R l Ln xs pc i (.long x :: .long x :: st) M N := by
  intro p e s m below meth c b cs D adC adM H locs ls LC LM C0 X V hl
  refine W.lcmp X.1 X.2.1 h1 ?_
  exact lv_if_eq X.1 X.2.1 hd ht (fun _ => kk p e s m below meth c b cs D adC adM H locs ls LC LM C0 X V hl) (fun q => absurd (show lg_cmp x x = 0 by simp [lg_cmp]) q)
theorem zl_inc {i0 : Nat} (hd : decode cL_law pc = .ok (.iinc 3 6, 3)) (kk : zl_R l Ln xs (pc + 3) (nI (i0 + 6)) st M N) : zl_R l Ln xs pc (nI i0) st M N := by
  intro p e s m below meth c b cs D adC adM H locs ls LC LM C0 X V hl
  exact lv_iinc (k := 0) (v := nI (i0 + 6)) X.1 X.2.1 hd hl rfl (by rw [← nI_add]; rfl) (by decide) rfl (fun ls hl => kk p e s m below meth c b cs D adC adM H locs ls LC LM C0 X V hl)
theorem zl_end (d1 : decode cL_law pc = .ok (.ireturn, 1)) : zl_R l Ln xs pc i [.int 1] M N := by
  intro p e s m below meth c b cs D adC adM H locs ls LC LM C0 X V hl
  refine va_forget (fun q hq => V.2.2.1.2.2 q hq) (W.widen (k := 600000) (n := 7302250) (Nat.le_of_ble_eq_true rfl) (Nat.le_of_ble_eq_true rfl) ?_)
  exact lw_ret C0.1 C0.2.1 C0.2.2.1 C0.2.2.2.2.2.2.2.2.1 d1
theorem zl_mvs {a b : Nat → Nat} {as : List Value} (h : ∀ v ∈ as, ∃ x, v = .int x) : as.map (zk_mv a) = as.map (zk_mv b) := List.map_congr_left (fun v hv => by obtain ⟨x, rfl⟩ := h v hv; rfl)
theorem zl_callX {d' idx n : Nat} {μ' : zk_I} {as : List Value} {v : Value} {P : zk_M → Prop} {stk : List Value} (hc : ∀ L, zk_C l zc d' μ' (.ref 0 :: as) M L (fun r M' _ => r = some v ∧ P M')) (hd7 : d' ≤ 7) (hd : decode cL_law pc = .ok (.invokevirtual idx, 3)) (hi : zk_MV μ' n 4) (hlk : Cond.methodLink RL idx μ'.1 ∈ zk_tb) (hn : as.length = n) (has : ∀ v ∈ as, ∃ x, v = .int x) (hv : ∀ ad, zk_mv ad v = v) (hcat : (st.map fun v => v.category).sum ≤ 8) (hstk : stk = as.reverse ++ .ref 1 :: st) (kk : ∀ M', P M' → zl_R l Ln xs (pc + 3) i (v :: st) M' N) : zl_R l Ln xs pc i stk M N := by
  intro p e s m below meth c b cs D adC adM H locs ls LC LM C0 X V hl
  subst hstk
  refine zw_callV (ad := adC) (o := 0) (as := as) (st := st.map (zk_mv (zl_ad b (adC 0) (adM 0)))) X V.1 V.2.2.1 (fun _ h => h) hl.1 (hc LC) hd hi hlk (by decide) rfl hn (by show d' + 1 ≤ 10; omega) (by show 38 + 38 * d' ≤ 372; omega) (Nat.le_of_ble_eq_true rfl) (Nat.le_of_ble_eq_true rfl) (by rw [zk_cats]; exact hcat) (by rw [List.map_append, List.map_reverse, List.map_cons, zl_mvs (b := adC) has]; rfl) (fun r M1 L1 H1 locs1 hq hH1 hS1 hz hfr => ?_)
  obtain ⟨rfl, hP⟩ := hq
  have := kk M1 hP p e s m below meth c b cs D adC adM H1 locs1 ls L1 LM C0 X ⟨hH1, ⟨fun k q hk => ?_, V.2.1.2⟩, hS1, V.2.2.2⟩ hl
  · simp only [Option.map_some, Option.toList_some, List.cons_append, List.nil_append, hv]
    rw [List.map_cons, hv] at this
    exact this
  · have hk' : k < zm.1 := by have := (List.getElem?_eq_some_iff.mp hk).1; simpa [zk_ws] using this
    have hat := V.2.1.1 k q hk
    refine hat.kept (hfr q.1 hat.lt (fun o ho e => ?_))
    rw [zk_at hk'] at hk
    cases hk
    exact V.2.2.2 o k ho hk' e.symm
theorem zl_callM {d' idx n : Nat} {μ' : zk_I} {as : List Value} {v : Value} {P : zk_M → Prop} {stk : List Value} (hc : ∀ L, zk_C l zm d' μ' (.ref 0 :: as) N L (fun r M' _ => r = some v ∧ P M')) (hd7 : d' ≤ 7) (hd : decode cL_law pc = .ok (.invokevirtual idx, 3)) (hi : zk_MV μ' n 5) (hlk : Cond.methodLink RL idx μ'.1 ∈ zk_tb) (hn : as.length = n) (has : ∀ v ∈ as, ∃ x, v = .int x) (hv : ∀ ad, zk_mv ad v = v) (hcat : (st.map fun v => v.category).sum ≤ 8) (hstk : stk = as.reverse ++ .ref 2 :: st) (kk : ∀ N', P N' → zl_R l Ln xs (pc + 3) i (v :: st) M N') : zl_R l Ln xs pc i stk M N := by
  intro p e s m below meth c b cs D adC adM H locs ls LC LM C0 X V hl
  subst hstk
  refine zw_callV (ad := adM) (o := 0) (as := as) (st := st.map (zk_mv (zl_ad b (adC 0) (adM 0)))) X V.2.1 V.2.2.1 (fun _ h => h) hl.1 (hc LM) hd hi hlk (by decide) rfl hn (by show d' + 1 ≤ 10; omega) (by show 38 + 38 * d' ≤ 372; omega) (Nat.le_of_ble_eq_true rfl) (Nat.le_of_ble_eq_true rfl) (by rw [zk_cats]; exact hcat) (by rw [List.map_append, List.map_reverse, List.map_cons, zl_mvs (b := adM) has]; rfl) (fun r M1 L1 H1 locs1 hq hH1 hS1 hz hfr => ?_)
  obtain ⟨rfl, hP⟩ := hq
  have := kk M1 hP p e s m below meth c b cs D adC adM H1 locs1 ls LC L1 C0 X ⟨⟨fun k q hk => ?_, V.1.2⟩, hH1, hS1, V.2.2.2⟩ hl
  · simp only [Option.map_some, Option.toList_some, List.cons_append, List.nil_append, hv]
    rw [List.map_cons, hv] at this
    exact this
  · have hk' : k < zc.1 := by have := (List.getElem?_eq_some_iff.mp hk).1; simpa [zk_ws] using this
    have hat := V.1.1 k q hk
    refine hat.kept (hfr q.1 hat.lt (fun o ho e => ?_))
    rw [zk_at hk'] at hk
    cases hk
    exact V.2.2.2 k o hk' ho e
theorem zl_tab {dflt lo hi : Int} {offs : Array Int} {len : Nat} {x : Int32} {off : Int} {tgt : Nat} (hd : decode cL_law pc = .ok (.tableswitch dflt lo hi offs, len)) (h1 : ¬ x.toInt < lo) (h2 : ¬ hi < x.toInt) (ho : offs[(x.toInt - lo).toNat]? = some off) (ht : (pc : Int) + off = (tgt : Int)) (kk : zl_R l Ln xs tgt i st M N) : zl_R l Ln xs pc i (.int x :: st) M N := by
  intro p e s m below meth c b cs D adC adM H locs ls LC LM C0 X V hl
  exact lv_tableIn X.1 X.2.1 hd h1 h2 ho ht (kk p e s m below meth c b cs D adC adM H locs ls LC LM C0 X V hl)
theorem zl_tabO {dflt lo hi : Int} {offs : Array Int} {len : Nat} {x : Int32} {tgt : Nat} (hd : decode cL_law pc = .ok (.tableswitch dflt lo hi offs, len)) (h : x.toInt < lo ∨ hi < x.toInt) (ht : (pc : Int) + dflt = (tgt : Int)) (kk : zl_R l Ln xs tgt i st M N) : zl_R l Ln xs pc i (.int x :: st) M N := by
  intro p e s m below meth c b cs D adC adM H locs ls LC LM C0 X V hl
  exact lv_tableOut X.1 X.2.1 hd h ht (kk p e s m below meth c b cs D adC adM H locs ls LC LM C0 X V hl)
theorem zl_gt {x y : Int32} {off : Int} {tgt : Nat} (hd : decode cL_law pc = .ok (.if_icmp .gt off, 3)) (ht : (pc : Int) + off = (tgt : Int)) (kt : y < x → zl_R l Ln xs tgt i st M N) (kf : ¬ y < x → zl_R l Ln xs (pc + 3) i st M N) : zl_R l Ln xs pc i (.int y :: .int x :: st) M N := by
  intro p e s m below meth c b cs D adC adM H locs ls LC LM C0 X V hl
  exact lv_icmp_gt X.1 X.2.1 hd ht (fun q => kt q p e s m below meth c b cs D adC adM H locs ls LC LM C0 X V hl) (fun q => kf q p e s m below meth c b cs D adC adM H locs ls LC LM C0 X V hl)
end ZLR
