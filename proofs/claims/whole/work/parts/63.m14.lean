def zu_sdM (M : zk_M) (z : Int32) : zk_M := va_up M 0 (va_up (M 0) 14 z)
theorem zu_sdM_sm {M0 M : zk_M} {z : Int32} (h : zs_sm M0 M) : zs_sm M0 (zu_sdM M z) := h.up0 (by omega)
set_option maxRecDepth 100000 in
set_option maxHeartbeats 4000000 in
theorem qX5_drawn {l : Launch} {M : zk_M} {L : zk_L} {b z : Int32} (hb : ¬ b = 0) (hz : M 0 14 = z) : zk_C l zm 0 muX5_drawn [.ref 0, .int b] M L (zk_Ei (zs_dr (zs_nsd z) b) (zu_sdM M (zs_nsd z)) L) := by
  refine zk_ofR (ls := [some (.ref 0), some (.int b)]) (by decide) rfl (Nat.le_of_ble_eq_true rfl) rfl ?_
  refine zk_aload_n dX5_drawn_0 rfl ?_
  refine zk_aload_n dX5_drawn_1 rfl ?_
  refine zk_getI dX5_drawn_2 fl_X5_203 (by decide : 0 < zm.1) rfl rfl ?_
  rw [hz]
  refine zk_ldc dX5_drawn_5 ct_X5_206 ?_
  refine zk_imul dX5_drawn_7 ?_
  refine zk_ldc dX5_drawn_8 ct_X5_207 ?_
  refine zk_iadd dX5_drawn_10 ?_
  refine zk_putG dX5_drawn_11 fl_X5_203 ft_5_14 rfl rfl (by decide : 0 < zm.1) rfl rfl ?_
  refine zk_aload_n dX5_drawn_14 rfl ?_
  refine zk_getI dX5_drawn_15 fl_X5_203 (by decide : 0 < zm.1) rfl rfl ?_
  rw [zk_up_eq, zk_up_eq]
  refine zk_ldc dX5_drawn_18 ct_X5_208 ?_
  refine zk_iand dX5_drawn_20 ?_
  refine zk_sipush dX5_drawn_21 zs_256 ?_
  refine zk_idiv dX5_drawn_24 (by decide) ?_
  refine zk_iload_n dX5_drawn_25 rfl ?_
  refine zk_irem dX5_drawn_26 hb ?_
  refine zk_iret rfl dX5_drawn_27 ?_
  exact ⟨rfl, rfl, rfl⟩
def zu_ltg (f : Nat → Int32) (z : Int32) : Nat → Int32 := va_up (va_up f 4 (zs_dr (zs_nsd z) 8)) 5 (zs_dr (zs_nsd (zs_nsd z)) 5)
def zu_sd (z : Int32) : Nat → Int32
  | 0 => z
  | p + 1 => zs_nsd (zs_nsd (zu_sd z p))
def zu_ltF (F : Nat → Nat → Int32) (z : Int32) (p q : Nat) : Nat → Int32 := if q < p then zu_ltg (F q) (zu_sd z q) else F q
theorem zs_okk4 {f : Nat → Int32} {v : Int32} (h : zs_okk f) (hv : zs_p v) : zs_okk (va_up f 4 v) := ⟨⟨by rw [zk_up_ne (by decide)]; exact h.1.1, by rw [zk_up_ne (by decide)]; exact h.1.2.1, by rw [zk_up_eq]; exact hv⟩, by rw [zk_up_ne (by decide)]; exact h.2⟩
theorem zs_W.set {M : zk_M} {n : Nat} {J : Nat → Int32} {F : Nat → Nat → Int32} (h : zs_W M n J F) {p k : Nat} {v : Int32} (hp : p < n) (hk : k < 7) (ok : zs_okk (va_up (F p) k v)) : zs_W (va_up M 2 (va_up (M 2) (10 + 7 * p + k) v)) n J (fun q => if q = p then va_up (F p) k v else F q) := by
  have := zs_V.set (M := M) (T := M 5) ⟨h.1, h.2.1, zs_ag.rf, h.2.2⟩ hp hk ok
  exact ⟨this.1, this.2.1, this.2.2.2⟩
theorem zs_W.up {M : zk_M} {n : Nat} {J : Nat → Int32} {F : Nat → Nat → Int32} (h : zs_W M n J F) {o : Nat} {f : Nat → Int32} (h2 : 2 ≠ o) : zs_W (va_up M o f) n J F := by
  unfold zs_W
  rw [zk_up_ne h2]
  exact h
theorem zs_W.cg {M : zk_M} {n : Nat} {J : Nat → Int32} {F G : Nat → Nat → Int32} (h : zs_W M n J F) (e : ∀ q, q < n → F q = G q) : zs_W M n J G := ⟨h.1, h.2.1, fun q hq => by rw [← e q hq]; exact h.2.2 q hq⟩
theorem zs_W.okk {M : zk_M} {n : Nat} {J : Nat → Int32} {F : Nat → Nat → Int32} (h : zs_W M n J F) {p : Nat} (hp : p < n) : zs_okk (F p) := zs_okk_ag (h.2.2 p hp) (h.1.2.2 p (Nat.lt_of_lt_of_le hp h.1.1))
/-- bits of who is there: how many -/
def zu_cnf (F : Nat → Nat → Int32) (p : Nat) (s : Int32) : Int32 := if F p 4 = F p 3 then s + 1 else s
def zs_cb1 (b : Bool) (s : Int32) : Int32 := if b = true then s + 1 else s
theorem zs_cb6 : ∀ b0 b1 b2 b3 b4 b5 : Bool, zs_bits 0 = 0 ∧ zs_bits (zs_ab1 b0 0 0) = zs_cb1 b0 0 ∧ zs_bits (zs_ab1 b1 1 (zs_ab1 b0 0 0)) = zs_cb1 b1 (zs_cb1 b0 0) ∧ zs_bits (zs_ab1 b2 2 (zs_ab1 b1 1 (zs_ab1 b0 0 0))) = zs_cb1 b2 (zs_cb1 b1 (zs_cb1 b0 0)) ∧ zs_bits (zs_ab1 b3 3 (zs_ab1 b2 2 (zs_ab1 b1 1 (zs_ab1 b0 0 0)))) = zs_cb1 b3 (zs_cb1 b2 (zs_cb1 b1 (zs_cb1 b0 0))) ∧ zs_bits (zs_ab1 b4 4 (zs_ab1 b3 3 (zs_ab1 b2 2 (zs_ab1 b1 1 (zs_ab1 b0 0 0))))) = zs_cb1 b4 (zs_cb1 b3 (zs_cb1 b2 (zs_cb1 b1 (zs_cb1 b0 0)))) ∧ zs_bits (zs_ab1 b5 5 (zs_ab1 b4 4 (zs_ab1 b3 3 (zs_ab1 b2 2 (zs_ab1 b1 1 (zs_ab1 b0 0 0)))))) = zs_cb1 b5 (zs_cb1 b4 (zs_cb1 b3 (zs_cb1 b2 (zs_cb1 b1 (zs_cb1 b0 0))))) := by decide +kernel
theorem zs_cbn {b : Nat → Bool} {n : Nat} (hn : n ≤ 6) : zs_bits (zs_for (zs_abf b) n 0 0) = zs_for (fun p s => zs_cb1 (b p) s) n 0 0 := by
  obtain ⟨h0, h1, h2, h3, h4, h5, h6⟩ := zs_cb6 (b 0) (b 1) (b 2) (b 3) (b 4) (b 5)
  rcases (show n = 0 ∨ n = 1 ∨ n = 2 ∨ n = 3 ∨ n = 4 ∨ n = 5 ∨ n = 6 by omega) with rfl | rfl | rfl | rfl | rfl | rfl | rfl
  · exact h0
  · exact h1
  · exact h2
  · exact h3
  · exact h4
  · exact h5
  · exact h6
theorem zs_atc {a : Nat → Int32} {n : Nat} (hn : n ≤ 6) : zs_bits (zs_for (zs_atf a) n 0 0) = zs_for (zu_cnf (fun p => zs_get a p)) n 0 0 := by
  have e : zs_for (zs_atf a) n 0 0 = zs_for (zs_abf (fun p => decide (zs_get a p 4 = zs_get a p 3))) n 0 0 := by
    refine zs_for_rel (fun _ (x y : Int32) => x = y) n 0 0 0 (fun j x y _ hj h => ?_) rfl
    subst h
    unfold zs_atf zs_abf
    by_cases q : zs_get a j 4 = zs_get a j 3
    · rw [if_pos q, if_pos (decide_eq_true q)]
    · rw [if_neg q, if_neg (by simpa using q)]
  rw [e, zs_cbn hn]
  refine zs_for_rel (fun _ (x y : Int32) => x = y) n 0 0 0 (fun j x y _ hj h => ?_) rfl
  subst h
  unfold zs_cb1 zu_cnf
  by_cases q : zs_get a j 4 = zs_get a j 3
  · rw [if_pos q, if_pos (decide_eq_true q)]
  · rw [if_neg q, if_neg (by simpa using q)]
theorem zs_V.cnt {M : zk_M} {n : Nat} {J T : Nat → Int32} {F : Nat → Nat → Int32} (h : zs_V M n J T F) : zs_bits (zs_for (zs_atf (M 2)) n 0 0) = zs_for (zu_cnf F) n 0 0 := by
  rw [zs_atc h.1.1]
  refine zs_for_rel (fun _ (x y : Int32) => x = y) n 0 0 0 (fun j x y _ hj h' => ?_) rfl
  subst h'
  unfold zu_cnf
  show (if zs_get (M 2) j 4 = zs_get (M 2) j 3 then x + 1 else x) = _
  rw [h.2.2.2 j (by omega) 4 (by decide), h.2.2.2 j (by omega) 3 (by decide)]
set_option maxRecDepth 100000 in
set_option maxHeartbeats 4000000 in
theorem lX5_lots1 {l : Launch} {M0 : zk_M} {n t r : Nat} (hA : zs_A (M0 1) n) {z0 y s z : Int32} {Q : Option Value → zk_M → zk_L → Prop} : ∀ (m p : Nat) (M : zk_M) (L : zk_L), p + m = n → zs_sm M0 M → M 0 14 = (zu_sd z p) → zs_W M n (zs_J (M0 1)) (zu_ltF (fun p => zs_get (M0 1) p) z p) → (∀ M' L', zs_sm M0 M' → M' 0 14 = zu_sd z n → zs_W M' n (zs_J (M0 1)) (zu_ltF (fun p => zs_get (M0 1) p) z n) → zk_R l zm 6 muX5_lots 122 [some (.ref 0), some (.int (nI t)), some (.int z0), some (.int y), some (.int s), some (.int (nI r)), none] [] M' L' Q) → zk_R l zm 6 muX5_lots 72 [some (.ref 0), some (.int (nI t)), some (.int z0), some (.int y), some (.int s), some (.int (nI r)), some (.int (nI p))] [] M L Q := by
  have hn6 := hA.1
  intro m
  induction m with
  | zero =>
    intro p M L hpm hs hz hW k
    obtain rfl : p = n := by omega
    refine zk_iload dX5_lots_72 rfl ?_
    refine zk_aload_n dX5_lots_74 rfl ?_
    refine zk_getRc (q := 1) dX5_lots_75 fl_X5_9 (by decide) rfl rfl rfl ?_
    refine zk_iconst dX5_lots_78 zc_0 ?_
    refine zk_iald (j := 0) dX5_lots_79 (by decide) rfl (zs_in rfl (vp_in_iff.mpr (by decide))) (by decide) ?_
    rw [hs.1, hA.2.1]
    refine zk_icmp_ge (tgt := 122) dX5_lots_80 (by decide) (fun _ => ?_) (fun q => absurd (nI_le (Nat.le_refl _) (by omega)) q)
    refine zk_forget ?_ (k M L hs hz hW)
    exact ⟨Or.inr rfl, Or.inr rfl, Or.inr rfl, Or.inr rfl, Or.inr rfl, Or.inr rfl, Or.inl rfl, trivial⟩
  | succ m ih =>
    intro p M L hpm hs hz hW k
    have hp : p < n := by omega
    have hp6 : p < 6 := by omega
    refine zk_iload dX5_lots_72 rfl ?_
    refine zk_aload_n dX5_lots_74 rfl ?_
    refine zk_getRc (q := 1) dX5_lots_75 fl_X5_9 (by decide : 0 < zm.1) rfl rfl rfl ?_
    refine zk_iconst dX5_lots_78 zc_0 ?_
    refine zk_iald (j := 0) dX5_lots_79 (by decide : 1 < zm.1) rfl (zs_in rfl (vp_in_iff.mpr (by decide))) (by decide) ?_
    rw [hs.1, hA.2.1]
    refine zk_icmp_ge (tgt := 122) dX5_lots_80 (by decide) (fun h80 => absurd h80 (nI_ge hp (by omega))) (fun _ => ?_)
    refine zk_aload_n dX5_lots_83 rfl ?_
    refine zk_getRc (q := 2) dX5_lots_84 fl_X5_13 (by decide : 0 < zm.1) rfl rfl rfl ?_
    refine zk_iload dX5_lots_87 rfl ?_
    refine zk_iconst dX5_lots_89 zc_4 ?_
    refine zk_cSi (qX5_of (p := p) (k := 4)) dX5_lots_90 miX5_of ml_X5_58 stX5_of rfl (by decide) rfl (Nat.le_of_ble_eq_true rfl) ?_
    refine zk_aload_n dX5_lots_93 rfl ?_
    refine zk_bipush dX5_lots_94 zb_8 ?_
    refine zk_cVi (qX5_drawn (z := (zu_sd z p)) (by decide) hz) dX5_lots_96 mwX5_drawn ml_X5_209 (by decide : 0 < zm.1) rfl rfl (by decide) rfl (Nat.le_of_ble_eq_true rfl) ?_
    refine zk_iast (j := 10 + 7 * p + 4) dX5_lots_99 (by decide : 2 < zm.1) rfl (zs_in rfl (vp_in_nI (zs_7p hp6 (show 4 < 7 by decide)) (by decide))) (nI_clamp (by omega)) ?_
    refine zk_aload_n dX5_lots_100 rfl ?_
    refine zk_getRc (q := 2) dX5_lots_101 fl_X5_13 (by decide : 0 < zm.1) rfl rfl rfl ?_
    refine zk_iload dX5_lots_104 rfl ?_
    refine zk_iconst dX5_lots_106 zc_5 ?_
    refine zk_cSi (qX5_of (p := p) (k := 5)) dX5_lots_107 miX5_of ml_X5_58 stX5_of rfl (by decide) rfl (Nat.le_of_ble_eq_true rfl) ?_
    refine zk_aload_n dX5_lots_110 rfl ?_
    refine zk_iconst dX5_lots_111 zc_5 ?_
    refine zk_cVi (qX5_drawn (z := zs_nsd (zu_sd z p)) (by decide) (by rw [zk_up_ne (by decide), zu_sdM, zk_up_eq, zk_up_eq])) dX5_lots_112 mwX5_drawn ml_X5_209 (by decide : 0 < zm.1) rfl rfl (by decide) rfl (Nat.le_of_ble_eq_true rfl) ?_
    refine zk_iast (j := 10 + 7 * p + 5) dX5_lots_115 (by decide : 2 < zm.1) rfl (zs_in rfl (vp_in_nI (zs_7p hp6 (show 5 < 7 by decide)) (by decide))) (nI_clamp (by omega)) ?_
    refine zk_iinc dX5_lots_116 zc_1 rfl zk_S_6 ?_
    refine zk_goto (tgt := 72) dX5_lots_119 (by decide) ?_
    rw [← nI_succ]
    refine ih (p + 1) _ L (by omega) ?_ ?_ ?_ k
    · exact (zu_sdM_sm ((zu_sdM_sm hs).up (by omega))).up (by omega)
    · rw [zk_up_ne (by decide), zu_sdM, zk_up_eq, zk_up_eq]; rfl
    · refine zs_W.cg (((hW.up (o := 0) (by decide)).set hp (show 4 < 7 by decide) (zs_okk4 (hW.okk hp) (zs_dr8 _))).up (o := 0) (by decide) |>.set hp (show 5 < 7 by decide) ?_) ?_
      · rw [if_pos rfl]
        exact zs_okk5 (zs_okk4 (hW.okk hp) (zs_dr8 _))
      · intro q hq
        show (if q = p then _ else _) = _
        simp only [zu_ltF]
        by_cases e : q = p
        · subst e
          rw [if_pos rfl, if_pos trivial, if_neg (Nat.lt_irrefl q), if_pos (Nat.lt_succ_self q)]
          rfl
        · rw [if_neg e, if_neg e]
          by_cases e2 : q < p
          · rw [if_pos e2, if_pos (by omega)]
          · rw [if_neg e2, if_neg (by omega)]
def zu_lv (J T : Nat → Int32) (F : Nat → Nat → Int32) (n : Nat) (y z : Int32) : Int32 := if y = 0 then zu_tot T (fun q => zs_rides J T 10 (zu_ltF F z n q)) n else zs_for (zu_cnf (fun q => zs_rides J T 10 (zu_ltF F z n q))) n 0 0
def zu_lot (J T : Nat → Int32) (F : Nat → Nat → Int32) (n : Nat) (y : Int32) (_ : Nat) (s : Int32 × Int32) : Int32 × Int32 := (zu_sd s.1 n, s.2 + zu_lv J T F n y s.1)
set_option maxRecDepth 100000 in
set_option maxHeartbeats 4000000 in
theorem lX5_lots2 {l : Launch} {M0 : zk_M} {n t : Nat} (ht : t ≤ 20) (hA : zs_A (M0 1) n) {z0 y : Int32} {Q : Option Value → zk_M → zk_L → Prop} : ∀ (m r : Nat) (z s : Int32) (M : zk_M) (L : zk_L), r + m = t → zs_sm M0 M → M 0 14 = z → (∀ M' L', zs_sm M0 M' → zk_R l zm 6 muX5_lots 164 [some (.ref 0), some (.int (nI t)), some (.int z0), some (.int y), some (.int (zs_for (zu_lot (zs_J (M0 1)) (zs_FW (zs_J (M0 1))) (fun p => zs_get (M0 1) p) n y) m r (z, s)).2), none, none] [] M' L' Q) → zk_R l zm 6 muX5_lots 52 [some (.ref 0), some (.int (nI t)), some (.int z0), some (.int y), some (.int s), some (.int (nI r)), none] [] M L Q := by
  intro m
  induction m with
  | zero =>
    intro r z s M L hr hs hz k
    obtain rfl : r = t := by omega
    refine zk_iload dX5_lots_52 rfl ?_
    refine zk_iload_n dX5_lots_54 rfl ?_
    refine zk_icmp_ge (tgt := 164) dX5_lots_55 (by decide) (fun _ => ?_) (fun q => absurd (nI_le (Nat.le_refl _) (by omega)) q)
    refine zk_forget ?_ (k M L hs)
    exact ⟨Or.inr rfl, Or.inr rfl, Or.inr rfl, Or.inr rfl, Or.inr rfl, Or.inl rfl, Or.inl rfl, trivial⟩
  | succ m ih =>
    intro r z s M L hrm hs hz k
    have hr : r < t := by omega
    refine zk_iload dX5_lots_52 rfl ?_
    refine zk_iload_n dX5_lots_54 rfl ?_
    refine zk_icmp_ge (tgt := 164) dX5_lots_55 (by decide) (fun h55 => absurd h55 (nI_ge hr (by omega))) (fun _ => ?_)
    refine zk_aload_n dX5_lots_58 rfl ?_
    refine zk_getRc (q := 1) dX5_lots_59 fl_X5_9 (by decide : 0 < zm.1) rfl rfl rfl ?_
    refine zk_aload_n dX5_lots_62 rfl ?_
    refine zk_getRc (q := 2) dX5_lots_63 fl_X5_13 (by decide : 0 < zm.1) rfl rfl rfl ?_
    refine zk_cSv (qd_copies) dX5_lots_66 miX5_copies ml_X5_127 stX5_copies rfl (by decide) rfl (Nat.le_of_ble_eq_true rfl) ?_
    refine zk_iconst dX5_lots_69 zc_0 ?_
    refine zk_istore dX5_lots_70 zk_S_6 ?_
    refine lX5_lots1 (z := z) hA n 0 _ L (by omega) (hs.up (by omega)) (by rw [zk_up_ne (by decide)]; exact hz) (zs_W.cg (zs_W.cp hA hs) (fun q hq => by rw [zu_ltF, if_neg (Nat.not_lt_zero q)])) (fun M2 L2 hs2 hz2 hW => ?_)
    by_cases hy0 : y = 0
    · refine zk_aload_n dX5_lots_122 rfl ?_
      refine zk_aload_n dX5_lots_123 rfl ?_
      refine zk_getRc (q := 2) dX5_lots_124 fl_X5_13 (by decide : 0 < zm.1) rfl rfl rfl ?_
      refine zk_bipush dX5_lots_127 zb_10 ?_
      refine zk_callV (qd_daysOn10 (t := 10) hs2 hW.1 hW.2.1 hW.2.2 (by decide)) dX5_lots_129 mwX5_daysOn ml_X5_121 (by decide : 0 < zm.1) rfl rfl (by decide) rfl (Nat.le_of_ble_eq_true rfl) (fun r3 M3 L3 h3 => ?_)
      obtain ⟨rfl, hs3, hV3, -, h0⟩ := h3
      refine zk_iload dX5_lots_132 rfl ?_
      refine zk_iload_n dX5_lots_134 rfl ?_
      refine zk_if_ne (tgt := 145) dX5_lots_135 (by decide) (fun h135 => absurd (hy0) h135) (fun _ => ?_)
      refine zk_aload_n dX5_lots_138 rfl ?_
      refine zk_cVi (qX5_totalIn hV3) dX5_lots_139 mwX5_totalIn ml_X5_178 (by decide : 0 < zm.1) rfl rfl (by decide) rfl (Nat.le_of_ble_eq_true rfl) ?_
      refine zk_goto (tgt := 155) dX5_lots_142 (by decide) ?_
      refine zk_iadd dX5_lots_155 ?_
      refine zk_istore dX5_lots_156 zk_S_4 ?_
      refine zk_iinc dX5_lots_158 zc_1 rfl zk_S_5 ?_
      refine zk_goto (tgt := 52) dX5_lots_161 (by decide) ?_
      rw [← nI_succ]
      refine zk_forget (ls' := [some (.ref 0), some (.int (nI t)), some (.int z0), some (.int y), some (.int (s + (zu_tot (zs_FW (zs_J (M0 1))) (fun q => zs_rides (zs_J (M0 1)) (zs_FW (zs_J (M0 1))) 10 (zu_ltF (fun p => zs_get (M0 1) p) z n q)) n))), some (.int (nI (r + 1))), none]) ⟨Or.inr rfl, Or.inr rfl, Or.inr rfl, Or.inr rfl, Or.inr rfl, Or.inr rfl, Or.inl rfl, trivial⟩ ?_
      refine ih (r + 1) _ _ M3 L3 (by omega) hs3 (by rw [h0, hz2]) (fun M' L' h' => ?_)
      have := k M' L' h'
      rw [zs_for] at this
      simp only [zu_lot] at this
      rw [show (zu_lv (zs_J (M0 1)) (zs_FW (zs_J (M0 1))) (fun p => zs_get (M0 1) p) n y z) = (zu_tot (zs_FW (zs_J (M0 1))) (fun q => zs_rides (zs_J (M0 1)) (zs_FW (zs_J (M0 1))) 10 (zu_ltF (fun p => zs_get (M0 1) p) z n q)) n) from if_pos hy0] at this
      exact this
    · refine zk_aload_n dX5_lots_122 rfl ?_
      refine zk_aload_n dX5_lots_123 rfl ?_
      refine zk_getRc (q := 2) dX5_lots_124 fl_X5_13 (by decide : 0 < zm.1) rfl rfl rfl ?_
      refine zk_bipush dX5_lots_127 zb_10 ?_
      refine zk_callV (qd_daysOn10 (t := 10) hs2 hW.1 hW.2.1 hW.2.2 (by decide)) dX5_lots_129 mwX5_daysOn ml_X5_121 (by decide : 0 < zm.1) rfl rfl (by decide) rfl (Nat.le_of_ble_eq_true rfl) (fun r3 M3 L3 h3 => ?_)
      obtain ⟨rfl, hs3, hV3, -, h0⟩ := h3
      refine zk_iload dX5_lots_132 rfl ?_
      refine zk_iload_n dX5_lots_134 rfl ?_
      refine zk_if_ne (tgt := 145) dX5_lots_135 (by decide) (fun _ => ?_) (fun h135 => absurd h135 (hy0))
      refine zk_aload_n dX5_lots_145 rfl ?_
      refine zk_getRc (q := 2) dX5_lots_146 fl_X5_13 (by decide : 0 < zm.1) rfl rfl rfl ?_
      refine zk_cSi (qX5_atSaid zm_a2 (n := n) ⟨hV3.1.1, hV3.1.2.1⟩) dX5_lots_149 miX5_atSaid ml_X5_141 stX5_atSaid rfl (by decide) rfl (Nat.le_of_ble_eq_true rfl) ?_
      refine zk_cSi (qX5_bits) dX5_lots_152 miX5_bits ml_X5_145 stX5_bits rfl (by decide) rfl (Nat.le_of_ble_eq_true rfl) ?_
      rw [hV3.cnt]
      refine zk_iadd dX5_lots_155 ?_
      refine zk_istore dX5_lots_156 zk_S_4 ?_
      refine zk_iinc dX5_lots_158 zc_1 rfl zk_S_5 ?_
      refine zk_goto (tgt := 52) dX5_lots_161 (by decide) ?_
      rw [← nI_succ]
      refine zk_forget (ls' := [some (.ref 0), some (.int (nI t)), some (.int z0), some (.int y), some (.int (s + (zs_for (zu_cnf (fun q => zs_rides (zs_J (M0 1)) (zs_FW (zs_J (M0 1))) 10 (zu_ltF (fun p => zs_get (M0 1) p) z n q))) n 0 0))), some (.int (nI (r + 1))), none]) ⟨Or.inr rfl, Or.inr rfl, Or.inr rfl, Or.inr rfl, Or.inr rfl, Or.inr rfl, Or.inl rfl, trivial⟩ ?_
      refine ih (r + 1) _ _ M3 L3 (by omega) hs3 (by rw [h0, hz2]) (fun M' L' h' => ?_)
      have := k M' L' h'
      rw [zs_for] at this
      simp only [zu_lot] at this
      rw [show (zu_lv (zs_J (M0 1)) (zs_FW (zs_J (M0 1))) (fun p => zs_get (M0 1) p) n y z) = (zs_for (zu_cnf (fun q => zs_rides (zs_J (M0 1)) (zs_FW (zs_J (M0 1))) 10 (zu_ltF (fun p => zs_get (M0 1) p) z n q))) n 0 0) from if_neg hy0] at this
      exact this
set_option maxRecDepth 100000 in
set_option maxHeartbeats 4000000 in
theorem qX5_lots_r4 {l : Launch} {M : zk_M} {L : zk_L} {t z y : Int32} (ht : t < 1) : zk_C l zm 6 muX5_lots [.ref 0, .int t, .int z, .int y] M L (zp_i (-4) (zs_nof M 4)) := by
  refine zk_ofR (ls := [some (.ref 0), some (.int t), some (.int z), some (.int y), none, none, none]) (by decide) rfl (Nat.le_of_ble_eq_true rfl) rfl ?_
  refine zk_iload_n dX5_lots_0 rfl ?_
  refine zk_iconst dX5_lots_1 zc_1 ?_
  refine zk_icmp_ge (tgt := 12) dX5_lots_2 (by decide) (fun h2 => absurd h2 (Int32.not_le.mpr ht)) (fun _ => ?_)
  refine zk_aload_n dX5_lots_5 rfl ?_
  refine zk_bipush dX5_lots_6 zb_m4 ?_
  refine zk_cVi (qno4) dX5_lots_8 mwX5_no ml_X5_42 (by decide : 0 < zm.1) rfl rfl (by decide) rfl (Nat.le_of_ble_eq_true rfl) ?_
  refine zk_iret rfl dX5_lots_11 ?_
  exact ⟨rfl, zs_sm.rf⟩
set_option maxRecDepth 100000 in
set_option maxHeartbeats 4000000 in
theorem qX5_lots_r6 {l : Launch} {M : zk_M} {L : zk_L} {t z y : Int32} (ht : ¬ t < 1) (h6 : 20 < t) : zk_C l zm 6 muX5_lots [.ref 0, .int t, .int z, .int y] M L (zp_i (-6) (zs_nof M 6)) := by
  refine zk_ofR (ls := [some (.ref 0), some (.int t), some (.int z), some (.int y), none, none, none]) (by decide) rfl (Nat.le_of_ble_eq_true rfl) rfl ?_
  refine zk_iload_n dX5_lots_0 rfl ?_
  refine zk_iconst dX5_lots_1 zc_1 ?_
  refine zk_icmp_ge (tgt := 12) dX5_lots_2 (by decide) (fun _ => ?_) (fun h2 => absurd (Int32.not_lt.mp ht) h2)
  refine zk_iload_n dX5_lots_12 rfl ?_
  refine zk_bipush dX5_lots_13 zb_20 ?_
  refine zk_icmp_le (tgt := 25) dX5_lots_15 (by decide) (fun h15 => absurd h15 (Int32.not_le.mpr h6)) (fun _ => ?_)
  refine zk_aload_n dX5_lots_18 rfl ?_
  refine zk_bipush dX5_lots_19 zb_m6 ?_
  refine zk_cVi (qno6) dX5_lots_21 mwX5_no ml_X5_42 (by decide : 0 < zm.1) rfl rfl (by decide) rfl (Nat.le_of_ble_eq_true rfl) ?_
  refine zk_iret rfl dX5_lots_24 ?_
  exact ⟨rfl, zs_sm.rf⟩
set_option maxRecDepth 100000 in
set_option maxHeartbeats 4000000 in
theorem qX5_lots_r2 {l : Launch} {M : zk_M} {L : zk_L} {t z y : Int32} (ht : ¬ t < 1) (h6 : ¬ 20 < t) (hy : ¬ (0 ≤ y ∧ y < 2)) : zk_C l zm 6 muX5_lots [.ref 0, .int t, .int z, .int y] M L (zp_i (-2) (zs_nof M 2)) := by
  refine zk_ofR (ls := [some (.ref 0), some (.int t), some (.int z), some (.int y), none, none, none]) (by decide) rfl (Nat.le_of_ble_eq_true rfl) rfl ?_
  refine zk_iload_n dX5_lots_0 rfl ?_
  refine zk_iconst dX5_lots_1 zc_1 ?_
  refine zk_icmp_ge (tgt := 12) dX5_lots_2 (by decide) (fun _ => ?_) (fun h2 => absurd (Int32.not_lt.mp ht) h2)
  refine zk_iload_n dX5_lots_12 rfl ?_
  refine zk_bipush dX5_lots_13 zb_20 ?_
  refine zk_icmp_le (tgt := 25) dX5_lots_15 (by decide) (fun _ => ?_) (fun h15 => absurd (Int32.not_lt.mp h6) h15)
  refine zk_iload_n dX5_lots_25 rfl ?_
  refine zk_iconst dX5_lots_26 zc_0 ?_
  refine zk_iconst dX5_lots_27 zc_1 ?_
  refine zk_cSi (qX5_01_f hy) dX5_lots_28 miX5_isIn ml_X5_46 stX5_isIn rfl (by decide) rfl (Nat.le_of_ble_eq_true rfl) ?_
  refine zk_if_ne (tgt := 41) dX5_lots_31 (by decide) (fun h31 => absurd (rfl) h31) (fun _ => ?_)
  refine zk_aload_n dX5_lots_34 rfl ?_
  refine zk_bipush dX5_lots_35 zb_m2 ?_
  refine zk_cVi (qno2) dX5_lots_37 mwX5_no ml_X5_42 (by decide : 0 < zm.1) rfl rfl (by decide) rfl (Nat.le_of_ble_eq_true rfl) ?_
  refine zk_iret rfl dX5_lots_40 ?_
  exact ⟨rfl, zs_sm.rf⟩
set_option maxRecDepth 100000 in
set_option maxHeartbeats 4000000 in
theorem qX5_lots_t {l : Launch} {M : zk_M} {L : zk_L} {n : Nat} (hA : zs_A (M 1) n) {t : Nat} (h1 : 1 ≤ t) (ht : t ≤ 20) {z y : Int32} (hy : 0 ≤ y ∧ y < 2) : zk_C l zm 6 muX5_lots [.ref 0, .int (nI t), .int z, .int y] M L (zp_i (zs_for (zu_lot (zs_J (M 1)) (zs_FW (zs_J (M 1))) (fun p => zs_get (M 1) p) n y) t 0 (z, 0)).2 M) := by
  refine zk_ofR (ls := [some (.ref 0), some (.int (nI t)), some (.int z), some (.int y), none, none, none]) (by decide) rfl (Nat.le_of_ble_eq_true rfl) rfl ?_
  refine zk_iload_n dX5_lots_0 rfl ?_
  refine zk_iconst dX5_lots_1 zc_1 ?_
  refine zk_icmp_ge (tgt := 12) dX5_lots_2 (by decide) (fun _ => ?_) (fun h2 => absurd (nI_le (a := 1) h1 (by omega)) h2)
  refine zk_iload_n dX5_lots_12 rfl ?_
  refine zk_bipush dX5_lots_13 zb_20 ?_
  refine zk_icmp_le (tgt := 25) dX5_lots_15 (by decide) (fun _ => ?_) (fun h15 => absurd (nI_le (b := 20) ht (by decide)) h15)
  refine zk_iload_n dX5_lots_25 rfl ?_
  refine zk_iconst dX5_lots_26 zc_0 ?_
  refine zk_iconst dX5_lots_27 zc_1 ?_
  refine zk_cSi (qX5_01_t hy) dX5_lots_28 miX5_isIn ml_X5_46 stX5_isIn rfl (by decide) rfl (Nat.le_of_ble_eq_true rfl) ?_
  refine zk_if_ne (tgt := 41) dX5_lots_31 (by decide) (fun _ => ?_) (fun h31 => absurd h31 (by decide))
  refine zk_aload_n dX5_lots_41 rfl ?_
  refine zk_iload_n dX5_lots_42 rfl ?_
  refine zk_putG dX5_lots_43 fl_X5_203 ft_5_14 rfl rfl (by decide : 0 < zm.1) rfl rfl ?_
  refine zk_iconst dX5_lots_46 zc_0 ?_
  refine zk_istore dX5_lots_47 zk_S_4 ?_
  refine zk_iconst dX5_lots_49 zc_0 ?_
  refine zk_istore dX5_lots_50 zk_S_5 ?_
  refine lX5_lots2 ht hA t 0 z 0 _ L (by omega) (zu_sdM_sm zs_sm.rf) (by rw [zk_up_eq, zk_up_eq]) (fun M' L' h' => ?_)
  refine zk_iload dX5_lots_164 rfl ?_
  refine zk_iret rfl dX5_lots_166 ?_
  exact ⟨rfl, h'⟩
def zu_imM (M : zk_M) : zk_M := va_up (va_up M 3 (zs_cp 52 (M 1) (M 3))) 0 (va_up (M 0) 5 1)
def zu_onM (M : zk_M) : zk_M := va_up M 1 (zs_cp 52 (M 3) (M 1))
set_option maxRecDepth 100000 in
set_option maxHeartbeats 4000000 in
theorem qX5_image_t {l : Launch} {M : zk_M} {L : zk_L}  : zk_C l zm 1 muX5_image [.ref 0] M L (zp_i (M 1 1) (zu_imM M)) := by
  refine zk_ofR (ls := [some (.ref 0)]) (by decide) rfl (Nat.le_of_ble_eq_true rfl) rfl ?_
  refine zk_aload_n dX5_image_0 rfl ?_
  refine zk_getRc (q := 1) dX5_image_1 fl_X5_9 (by decide : 0 < zm.1) rfl rfl rfl ?_
  refine zk_aload_n dX5_image_4 rfl ?_
  refine zk_getRc (q := 3) dX5_image_5 fl_X5_16 (by decide : 0 < zm.1) rfl rfl rfl ?_
  refine zk_cSv (qX5_copies zm_a1 zm_a3 (by decide)) dX5_image_8 miX5_copies ml_X5_127 stX5_copies rfl (by decide) rfl (Nat.le_of_ble_eq_true rfl) ?_
  refine zk_aload_n dX5_image_11 rfl ?_
  refine zk_iconst dX5_image_12 zc_1 ?_
  refine zk_putG dX5_image_13 fl_X5_212 ft_5_5 (by decide) rfl (by decide : 0 < zm.1) rfl rfl ?_
  refine zk_aload_n dX5_image_16 rfl ?_
  refine zk_getRc (q := 1) dX5_image_17 fl_X5_9 (by decide : 0 < zm.1) rfl rfl rfl ?_
  refine zk_iconst dX5_image_20 zc_1 ?_
  refine zk_iald (j := 1) dX5_image_21 (by decide : 1 < zm.1) rfl (zs_in rfl (vp_in_iff.mpr (by decide))) (by decide) ?_
  refine zk_iret rfl dX5_image_22 ?_
  exact ⟨by rw [zk_up_ne (by decide), zk_up_ne (by decide)], zs_sm.rf⟩
set_option maxRecDepth 100000 in
set_option maxHeartbeats 4000000 in
theorem qX5_on_r {l : Launch} {M : zk_M} {L : zk_L} (h : M 0 5 = 0) : zk_C l zm 1 muX5_on [.ref 0] M L (zp_i (-3) (zs_nof M 3)) := by
  refine zk_ofR (ls := [some (.ref 0)]) (by decide) rfl (Nat.le_of_ble_eq_true rfl) rfl ?_
  refine zk_aload_n dX5_on_0 rfl ?_
  refine zk_getI dX5_on_1 fl_X5_212 (by decide : 0 < zm.1) rfl rfl ?_
  refine zk_if_ne (tgt := 14) dX5_on_4 (by decide) (fun h4 => absurd (h) h4) (fun _ => ?_)
  refine zk_aload_n dX5_on_7 rfl ?_
  refine zk_bipush dX5_on_8 zb_m3 ?_
  refine zk_cVi (qno3) dX5_on_10 mwX5_no ml_X5_42 (by decide : 0 < zm.1) rfl rfl (by decide) rfl (Nat.le_of_ble_eq_true rfl) ?_
  refine zk_iret rfl dX5_on_13 ?_
  exact ⟨rfl, zs_sm.rf⟩
set_option maxRecDepth 100000 in
set_option maxHeartbeats 4000000 in
theorem qX5_on_t {l : Launch} {M : zk_M} {L : zk_L} (h : ¬ M 0 5 = 0) : zk_C l zm 1 muX5_on [.ref 0] M L (zp_i (M 3 1) (zu_onM M)) := by
  refine zk_ofR (ls := [some (.ref 0)]) (by decide) rfl (Nat.le_of_ble_eq_true rfl) rfl ?_
  refine zk_aload_n dX5_on_0 rfl ?_
  refine zk_getI dX5_on_1 fl_X5_212 (by decide : 0 < zm.1) rfl rfl ?_
  refine zk_if_ne (tgt := 14) dX5_on_4 (by decide) (fun _ => ?_) (fun h4 => absurd h4 (h))
  refine zk_aload_n dX5_on_14 rfl ?_
  refine zk_getRc (q := 3) dX5_on_15 fl_X5_16 (by decide : 0 < zm.1) rfl rfl rfl ?_
  refine zk_aload_n dX5_on_18 rfl ?_
  refine zk_getRc (q := 1) dX5_on_19 fl_X5_9 (by decide : 0 < zm.1) rfl rfl rfl ?_
  refine zk_cSv (qX5_copies zm_a3 zm_a1 (by decide)) dX5_on_22 miX5_copies ml_X5_127 stX5_copies rfl (by decide) rfl (Nat.le_of_ble_eq_true rfl) ?_
  refine zk_aload_n dX5_on_25 rfl ?_
  refine zk_getRc (q := 1) dX5_on_26 fl_X5_9 (by decide : 0 < zm.1) rfl rfl rfl ?_
  refine zk_iconst dX5_on_29 zc_1 ?_
  refine zk_iald (j := 1) dX5_on_30 (by decide : 1 < zm.1) rfl (zs_in rfl (vp_in_iff.mpr (by decide))) (by decide) ?_
  refine zk_iret rfl dX5_on_31 ?_
  exact ⟨by rw [zk_up_eq]; rfl, zs_sm.rf⟩
def zu_cnv (M : zk_M) (n : Nat) (x : Int32) : Int32 := if x = 0 then M 1 0 else if x = 1 then M 1 1 else if x = 2 then zs_for (fun i s => s + zs_bits (zs_J (M 1) i)) 8 0 0 / 2 else if x = 3 then zs_for (zs_atf (M 1)) n 0 0 else if x = 4 then zs_for (fun i s => s + zs_get (M 1) i 5) n 0 0 else if x = 5 then zs_for (fun i s => s + zs_get (M 1) i 6) n 0 0 else if x = 6 then M 0 10 else if x = 7 then M 0 9 else -9
theorem zs_1116 {x : Int32} (h : 11 ≤ x ∧ x ≤ 16) : vp_in (x - 10) 7 ∧ ∃ j, 1 ≤ j ∧ j < 7 ∧ x = nI (j + 10) := by
  obtain ⟨h1, h2⟩ := h
  rw [Int32.le_iff_toInt_le, show (11 : Int32).toInt = 11 from rfl] at h1
  rw [Int32.le_iff_toInt_le, show (16 : Int32).toInt = 16 from rfl] at h2
  have : ∃ j : Nat, 1 ≤ j ∧ j < 7 ∧ x = nI (j + 10) := ⟨x.toInt.toNat - 10, by omega, by omega, by apply Int32.toInt_inj.mp; rw [nI_toInt (by omega)]; omega⟩
  refine ⟨?_, this⟩
  obtain ⟨j, q1, q2, rfl⟩ := this
  rcases (show j = 1 ∨ j = 2 ∨ j = 3 ∨ j = 4 ∨ j = 5 ∨ j = 6 by omega) with rfl | rfl | rfl | rfl | rfl | rfl <;> exact vp_in_iff.mpr (by decide)
set_option maxRecDepth 100000 in
set_option maxHeartbeats 4000000 in
theorem lX5_count {l : Launch} {M : zk_M} {L : zk_L} {x : Int32} {Q : Option Value → zk_M → zk_L → Prop} : ∀ (m i : Nat) (s : Int32), i + m = 8 → zk_R l zm 2 muX5_count 107 [some (.ref 0), some (.int x), some (.int (zs_for (fun i s => s + zs_bits (zs_J (M 1) i)) m i s)), none] [] M L Q → zk_R l zm 2 muX5_count 81 [some (.ref 0), some (.int x), some (.int s), some (.int (nI i))] [] M L Q := by
  intro m
  induction m with
  | zero =>
    intro i s hi k
    obtain rfl : i = 8 := by omega
    refine zk_iload_n dX5_count_81 rfl ?_
    refine zk_bipush (v := 8) dX5_count_82 (by decide) ?_
    refine zk_icmp_ge (tgt := 107) dX5_count_84 (by decide) (fun _ => ?_) (fun q => absurd (by decide) q)
    refine zk_forget ?_ k
    exact ⟨Or.inr rfl, Or.inr rfl, Or.inr rfl, Or.inl rfl, trivial⟩
  | succ m ih =>
    intro i s him k
    have hi : i < 8 := by omega
    refine zk_iload_n dX5_count_81 rfl ?_
    refine zk_bipush dX5_count_82 zb_8 ?_
    refine zk_icmp_ge (tgt := 107) dX5_count_84 (by decide) (fun h84 => absurd h84 (nI_ge (b := 8) hi (by decide))) (fun _ => ?_)
    refine zk_iload_n dX5_count_87 rfl ?_
    refine zk_aload_n dX5_count_88 rfl ?_
    refine zk_getRc (q := 1) dX5_count_89 fl_X5_9 (by decide : 0 < zm.1) rfl rfl rfl ?_
    refine zk_iconst dX5_count_92 zc_2 ?_
    refine zk_iload_n dX5_count_93 rfl ?_
    refine zk_iadd dX5_count_94 ?_
    rw [show 2 + nI i = nI (2 + i) from zs_nI_add 2 i]
    refine zk_iald (j := 2 + i) dX5_count_95 (by decide : 1 < zm.1) rfl (zs_in rfl (vp_in_nI (show 2 + i < 52 by omega) (by decide))) (nI_clamp (by omega)) ?_
    refine zk_cSi (qX5_bits) dX5_count_96 miX5_bits ml_X5_145 stX5_bits rfl (by decide) rfl (Nat.le_of_ble_eq_true rfl) ?_
    refine zk_iadd dX5_count_99 ?_
    refine zk_istore_n dX5_count_100 zk_S_2 ?_
    refine zk_iinc dX5_count_101 zc_1 rfl zk_S_3 ?_
    refine zk_goto (tgt := 81) dX5_count_104 (by decide) ?_
    rw [← nI_succ]
    exact ih (i + 1) _ (by omega) k
set_option maxRecDepth 100000 in
set_option maxHeartbeats 4000000 in
theorem qX5_count_n {l : Launch} {M : zk_M} {L : zk_L} {x : Int32} (hx : 11 ≤ x ∧ x ≤ 16) : zk_C l zm 2 muX5_count [.ref 0, .int x] M L (zp_i (M 8 (x - 10).toNatClampNeg) M) := by
  refine zk_ofR (ls := [some (.ref 0), some (.int x), none, none]) (by decide) rfl (Nat.le_of_ble_eq_true rfl) rfl ?_
  refine zk_iload_n dX5_count_0 rfl ?_
  refine zk_bipush dX5_count_1 zb_11 ?_
  refine zk_bipush dX5_count_3 zb_16 ?_
  refine zk_cSi (qX5_isIn_t hx) dX5_count_5 miX5_isIn ml_X5_46 stX5_isIn rfl (by decide) rfl (Nat.le_of_ble_eq_true rfl) ?_
  refine zk_if_eq (tgt := 21) dX5_count_8 (by decide) (fun h8 => absurd h8 (by decide)) (fun _ => ?_)
  refine zk_aload_n dX5_count_11 rfl ?_
  refine zk_getRc (q := 8) dX5_count_12 fl_X5_31 (by decide : 0 < zm.1) rfl rfl rfl ?_
  refine zk_iload_n dX5_count_15 rfl ?_
  refine zk_bipush dX5_count_16 zb_10 ?_
  refine zk_isub dX5_count_18 ?_
  refine zk_iald (j := _) dX5_count_19 (by decide : 8 < zm.1) rfl (zs_in rfl ((zs_1116 hx).1)) rfl ?_
  refine zk_iret rfl dX5_count_20 ?_
  exact ⟨rfl, zs_sm.rf⟩
set_option maxRecDepth 100000 in
set_option maxHeartbeats 4000000 in
theorem qX5_count_t {l : Launch} {M : zk_M} {L : zk_L} {n : Nat} (hA : zs_A (M 1) n) {x : Int32} (hx : ¬ (11 ≤ x ∧ x ≤ 16)) : zk_C l zm 2 muX5_count [.ref 0, .int x] M L (zp_i (zu_cnv M n x) M) := by
  refine zk_ofR (ls := [some (.ref 0), some (.int x), none, none]) (by decide) rfl (Nat.le_of_ble_eq_true rfl) rfl ?_
  refine zk_iload_n dX5_count_0 rfl ?_
  refine zk_bipush dX5_count_1 zb_11 ?_
  refine zk_bipush dX5_count_3 zb_16 ?_
  refine zk_cSi (qX5_isIn_f hx) dX5_count_5 miX5_isIn ml_X5_46 stX5_isIn rfl (by decide) rfl (Nat.le_of_ble_eq_true rfl) ?_
  refine zk_if_eq (tgt := 21) dX5_count_8 (by decide) (fun _ => ?_) (fun h8 => absurd (rfl) h8)
  refine zk_iconst dX5_count_21 zc_0 ?_
  refine zk_istore_n dX5_count_22 zk_S_2 ?_
  refine zk_iload_n dX5_count_23 rfl ?_
  by_cases hx0 : x = 0
  · rw [hx0]
    refine zk_tabIn (off := 48) (tgt := 72) dX5_count_24 (by decide) (by decide) (by decide) (by decide) ?_
    refine zk_aload_n dX5_count_72 rfl ?_
    refine zk_getRc (q := 1) dX5_count_73 fl_X5_9 (by decide : 0 < zm.1) rfl rfl rfl ?_
    refine zk_iload_n dX5_count_76 rfl ?_
    refine zk_iald (j := _) dX5_count_77 (by decide : 1 < zm.1) rfl (zs_in rfl (vp_in_iff.mpr (by decide))) rfl ?_
    refine zk_iret rfl dX5_count_78 ?_
    exact ⟨congrArg (fun v => some (Value.int v)) (by unfold zu_cnv; first | (rw [if_pos rfl]; first | done | rfl) | (rw [if_neg (by decide), if_pos rfl]; first | done | rfl) | (rw [if_neg (by decide), if_neg (by decide), if_pos rfl]; first | done | rfl) | (rw [if_neg (by decide), if_neg (by decide), if_neg (by decide), if_pos rfl]; first | done | rfl) | (rw [if_neg (by decide), if_neg (by decide), if_neg (by decide), if_neg (by decide), if_pos rfl]; first | done | rfl) | (rw [if_neg (by decide), if_neg (by decide), if_neg (by decide), if_neg (by decide), if_neg (by decide), if_pos rfl]; first | done | rfl) | (rw [if_neg (by decide), if_neg (by decide), if_neg (by decide), if_neg (by decide), if_neg (by decide), if_neg (by decide), if_pos rfl]; first | done | rfl) | (rw [if_neg (by decide), if_neg (by decide), if_neg (by decide), if_neg (by decide), if_neg (by decide), if_neg (by decide), if_neg (by decide), if_pos rfl]; first | done | rfl) | (rw [if_neg hx0, if_neg hx1, if_neg hx2, if_neg hx3, if_neg hx4, if_neg hx5, if_neg hx6, if_neg hx7]; done)), zs_sm.rf⟩
  by_cases hx1 : x = 1
  · rw [hx1]
    refine zk_tabIn (off := 48) (tgt := 72) dX5_count_24 (by decide) (by decide) (by decide) (by decide) ?_
    refine zk_aload_n dX5_count_72 rfl ?_
    refine zk_getRc (q := 1) dX5_count_73 fl_X5_9 (by decide : 0 < zm.1) rfl rfl rfl ?_
    refine zk_iload_n dX5_count_76 rfl ?_
    refine zk_iald (j := _) dX5_count_77 (by decide : 1 < zm.1) rfl (zs_in rfl (vp_in_iff.mpr (by decide))) rfl ?_
    refine zk_iret rfl dX5_count_78 ?_
    exact ⟨congrArg (fun v => some (Value.int v)) (by unfold zu_cnv; first | (rw [if_pos rfl]; first | done | rfl) | (rw [if_neg (by decide), if_pos rfl]; first | done | rfl) | (rw [if_neg (by decide), if_neg (by decide), if_pos rfl]; first | done | rfl) | (rw [if_neg (by decide), if_neg (by decide), if_neg (by decide), if_pos rfl]; first | done | rfl) | (rw [if_neg (by decide), if_neg (by decide), if_neg (by decide), if_neg (by decide), if_pos rfl]; first | done | rfl) | (rw [if_neg (by decide), if_neg (by decide), if_neg (by decide), if_neg (by decide), if_neg (by decide), if_pos rfl]; first | done | rfl) | (rw [if_neg (by decide), if_neg (by decide), if_neg (by decide), if_neg (by decide), if_neg (by decide), if_neg (by decide), if_pos rfl]; first | done | rfl) | (rw [if_neg (by decide), if_neg (by decide), if_neg (by decide), if_neg (by decide), if_neg (by decide), if_neg (by decide), if_neg (by decide), if_pos rfl]; first | done | rfl) | (rw [if_neg hx0, if_neg hx1, if_neg hx2, if_neg hx3, if_neg hx4, if_neg hx5, if_neg hx6, if_neg hx7]; done)), zs_sm.rf⟩
  by_cases hx2 : x = 2
  · rw [hx2]
    refine zk_tabIn (off := 55) (tgt := 79) dX5_count_24 (by decide) (by decide) (by decide) (by decide) ?_
    refine zk_iconst dX5_count_79 zc_0 ?_
    refine zk_istore_n dX5_count_80 zk_S_3 ?_
    refine lX5_count 8 0 0 rfl ?_
    refine zk_iload_n dX5_count_107 rfl ?_
    refine zk_iconst dX5_count_108 zc_2 ?_
    refine zk_idiv dX5_count_109 (by decide) ?_
    refine zk_iret rfl dX5_count_110 ?_
    exact ⟨congrArg (fun v => some (Value.int v)) (by unfold zu_cnv; first | (rw [if_pos rfl]; first | done | rfl) | (rw [if_neg (by decide), if_pos rfl]; first | done | rfl) | (rw [if_neg (by decide), if_neg (by decide), if_pos rfl]; first | done | rfl) | (rw [if_neg (by decide), if_neg (by decide), if_neg (by decide), if_pos rfl]; first | done | rfl) | (rw [if_neg (by decide), if_neg (by decide), if_neg (by decide), if_neg (by decide), if_pos rfl]; first | done | rfl) | (rw [if_neg (by decide), if_neg (by decide), if_neg (by decide), if_neg (by decide), if_neg (by decide), if_pos rfl]; first | done | rfl) | (rw [if_neg (by decide), if_neg (by decide), if_neg (by decide), if_neg (by decide), if_neg (by decide), if_neg (by decide), if_pos rfl]; first | done | rfl) | (rw [if_neg (by decide), if_neg (by decide), if_neg (by decide), if_neg (by decide), if_neg (by decide), if_neg (by decide), if_neg (by decide), if_pos rfl]; first | done | rfl) | (rw [if_neg hx0, if_neg hx1, if_neg hx2, if_neg hx3, if_neg hx4, if_neg hx5, if_neg hx6, if_neg hx7]; done)), zs_sm.rf⟩
  by_cases hx3 : x = 3
  · rw [hx3]
    refine zk_tabIn (off := 87) (tgt := 111) dX5_count_24 (by decide) (by decide) (by decide) (by decide) ?_
    refine zk_aload_n dX5_count_111 rfl ?_
    refine zk_getRc (q := 1) dX5_count_112 fl_X5_9 (by decide : 0 < zm.1) rfl rfl rfl ?_
    refine zk_cSi (qX5_atSaid zm_a1 (n := n) ⟨hA.1, hA.2.1⟩) dX5_count_115 miX5_atSaid ml_X5_141 stX5_atSaid rfl (by decide) rfl (Nat.le_of_ble_eq_true rfl) ?_
    refine zk_iret rfl dX5_count_118 ?_
    exact ⟨congrArg (fun v => some (Value.int v)) (by unfold zu_cnv; first | (rw [if_pos rfl]; first | done | rfl) | (rw [if_neg (by decide), if_pos rfl]; first | done | rfl) | (rw [if_neg (by decide), if_neg (by decide), if_pos rfl]; first | done | rfl) | (rw [if_neg (by decide), if_neg (by decide), if_neg (by decide), if_pos rfl]; first | done | rfl) | (rw [if_neg (by decide), if_neg (by decide), if_neg (by decide), if_neg (by decide), if_pos rfl]; first | done | rfl) | (rw [if_neg (by decide), if_neg (by decide), if_neg (by decide), if_neg (by decide), if_neg (by decide), if_pos rfl]; first | done | rfl) | (rw [if_neg (by decide), if_neg (by decide), if_neg (by decide), if_neg (by decide), if_neg (by decide), if_neg (by decide), if_pos rfl]; first | done | rfl) | (rw [if_neg (by decide), if_neg (by decide), if_neg (by decide), if_neg (by decide), if_neg (by decide), if_neg (by decide), if_neg (by decide), if_pos rfl]; first | done | rfl) | (rw [if_neg hx0, if_neg hx1, if_neg hx2, if_neg hx3, if_neg hx4, if_neg hx5, if_neg hx6, if_neg hx7]; done)), zs_sm.rf⟩
  by_cases hx4 : x = 4
  · rw [hx4]
    refine zk_tabIn (off := 95) (tgt := 119) dX5_count_24 (by decide) (by decide) (by decide) (by decide) ?_
    refine zk_aload_n dX5_count_119 rfl ?_
    refine zk_iconst dX5_count_120 zc_5 ?_
    refine zk_cVi (qX5_sum (j := 5) hA (by decide)) dX5_count_121 mwX5_sum ml_X5_197 (by decide : 0 < zm.1) rfl rfl (by decide) rfl (Nat.le_of_ble_eq_true rfl) ?_
    refine zk_iret rfl dX5_count_124 ?_
    exact ⟨congrArg (fun v => some (Value.int v)) (by unfold zu_cnv; first | (rw [if_pos rfl]; first | done | rfl) | (rw [if_neg (by decide), if_pos rfl]; first | done | rfl) | (rw [if_neg (by decide), if_neg (by decide), if_pos rfl]; first | done | rfl) | (rw [if_neg (by decide), if_neg (by decide), if_neg (by decide), if_pos rfl]; first | done | rfl) | (rw [if_neg (by decide), if_neg (by decide), if_neg (by decide), if_neg (by decide), if_pos rfl]; first | done | rfl) | (rw [if_neg (by decide), if_neg (by decide), if_neg (by decide), if_neg (by decide), if_neg (by decide), if_pos rfl]; first | done | rfl) | (rw [if_neg (by decide), if_neg (by decide), if_neg (by decide), if_neg (by decide), if_neg (by decide), if_neg (by decide), if_pos rfl]; first | done | rfl) | (rw [if_neg (by decide), if_neg (by decide), if_neg (by decide), if_neg (by decide), if_neg (by decide), if_neg (by decide), if_neg (by decide), if_pos rfl]; first | done | rfl) | (rw [if_neg hx0, if_neg hx1, if_neg hx2, if_neg hx3, if_neg hx4, if_neg hx5, if_neg hx6, if_neg hx7]; done)), zs_sm.rf⟩
  by_cases hx5 : x = 5
  · rw [hx5]
    refine zk_tabIn (off := 101) (tgt := 125) dX5_count_24 (by decide) (by decide) (by decide) (by decide) ?_
    refine zk_aload_n dX5_count_125 rfl ?_
    refine zk_bipush dX5_count_126 zb_6 ?_
    refine zk_cVi (qX5_sum (j := 6) hA (by decide)) dX5_count_128 mwX5_sum ml_X5_197 (by decide : 0 < zm.1) rfl rfl (by decide) rfl (Nat.le_of_ble_eq_true rfl) ?_
    refine zk_iret rfl dX5_count_131 ?_
    exact ⟨congrArg (fun v => some (Value.int v)) (by unfold zu_cnv; first | (rw [if_pos rfl]; first | done | rfl) | (rw [if_neg (by decide), if_pos rfl]; first | done | rfl) | (rw [if_neg (by decide), if_neg (by decide), if_pos rfl]; first | done | rfl) | (rw [if_neg (by decide), if_neg (by decide), if_neg (by decide), if_pos rfl]; first | done | rfl) | (rw [if_neg (by decide), if_neg (by decide), if_neg (by decide), if_neg (by decide), if_pos rfl]; first | done | rfl) | (rw [if_neg (by decide), if_neg (by decide), if_neg (by decide), if_neg (by decide), if_neg (by decide), if_pos rfl]; first | done | rfl) | (rw [if_neg (by decide), if_neg (by decide), if_neg (by decide), if_neg (by decide), if_neg (by decide), if_neg (by decide), if_pos rfl]; first | done | rfl) | (rw [if_neg (by decide), if_neg (by decide), if_neg (by decide), if_neg (by decide), if_neg (by decide), if_neg (by decide), if_neg (by decide), if_pos rfl]; first | done | rfl) | (rw [if_neg hx0, if_neg hx1, if_neg hx2, if_neg hx3, if_neg hx4, if_neg hx5, if_neg hx6, if_neg hx7]; done)), zs_sm.rf⟩
  by_cases hx6 : x = 6
  · rw [hx6]
    refine zk_tabIn (off := 108) (tgt := 132) dX5_count_24 (by decide) (by decide) (by decide) (by decide) ?_
    refine zk_aload_n dX5_count_132 rfl ?_
    refine zk_getI dX5_count_133 fl_X5_200 (by decide : 0 < zm.1) rfl rfl ?_
    refine zk_iret rfl dX5_count_136 ?_
    exact ⟨congrArg (fun v => some (Value.int v)) (by unfold zu_cnv; first | (rw [if_pos rfl]; first | done | rfl) | (rw [if_neg (by decide), if_pos rfl]; first | done | rfl) | (rw [if_neg (by decide), if_neg (by decide), if_pos rfl]; first | done | rfl) | (rw [if_neg (by decide), if_neg (by decide), if_neg (by decide), if_pos rfl]; first | done | rfl) | (rw [if_neg (by decide), if_neg (by decide), if_neg (by decide), if_neg (by decide), if_pos rfl]; first | done | rfl) | (rw [if_neg (by decide), if_neg (by decide), if_neg (by decide), if_neg (by decide), if_neg (by decide), if_pos rfl]; first | done | rfl) | (rw [if_neg (by decide), if_neg (by decide), if_neg (by decide), if_neg (by decide), if_neg (by decide), if_neg (by decide), if_pos rfl]; first | done | rfl) | (rw [if_neg (by decide), if_neg (by decide), if_neg (by decide), if_neg (by decide), if_neg (by decide), if_neg (by decide), if_neg (by decide), if_pos rfl]; first | done | rfl) | (rw [if_neg hx0, if_neg hx1, if_neg hx2, if_neg hx3, if_neg hx4, if_neg hx5, if_neg hx6, if_neg hx7]; done)), zs_sm.rf⟩
  by_cases hx7 : x = 7
  · rw [hx7]
    refine zk_tabIn (off := 113) (tgt := 137) dX5_count_24 (by decide) (by decide) (by decide) (by decide) ?_
    refine zk_aload_n dX5_count_137 rfl ?_
    refine zk_getI dX5_count_138 fl_X5_83 (by decide : 0 < zm.1) rfl rfl ?_
    refine zk_iret rfl dX5_count_141 ?_
    exact ⟨congrArg (fun v => some (Value.int v)) (by unfold zu_cnv; first | (rw [if_pos rfl]; first | done | rfl) | (rw [if_neg (by decide), if_pos rfl]; first | done | rfl) | (rw [if_neg (by decide), if_neg (by decide), if_pos rfl]; first | done | rfl) | (rw [if_neg (by decide), if_neg (by decide), if_neg (by decide), if_pos rfl]; first | done | rfl) | (rw [if_neg (by decide), if_neg (by decide), if_neg (by decide), if_neg (by decide), if_pos rfl]; first | done | rfl) | (rw [if_neg (by decide), if_neg (by decide), if_neg (by decide), if_neg (by decide), if_neg (by decide), if_pos rfl]; first | done | rfl) | (rw [if_neg (by decide), if_neg (by decide), if_neg (by decide), if_neg (by decide), if_neg (by decide), if_neg (by decide), if_pos rfl]; first | done | rfl) | (rw [if_neg (by decide), if_neg (by decide), if_neg (by decide), if_neg (by decide), if_neg (by decide), if_neg (by decide), if_neg (by decide), if_pos rfl]; first | done | rfl) | (rw [if_neg hx0, if_neg hx1, if_neg hx2, if_neg hx3, if_neg hx4, if_neg hx5, if_neg hx6, if_neg hx7]; done)), zs_sm.rf⟩
  refine zk_tabOut (tgt := 142) dX5_count_24 (zs_out07 hx0 hx1 hx2 hx3 hx4 hx5 hx6 hx7) (by decide) ?_
  refine zk_bipush dX5_count_142 zb_m9 ?_
  refine zk_iret rfl dX5_count_144 ?_
  exact ⟨congrArg (fun v => some (Value.int v)) (by unfold zu_cnv; first | (rw [if_pos rfl]; first | done | rfl) | (rw [if_neg (by decide), if_pos rfl]; first | done | rfl) | (rw [if_neg (by decide), if_neg (by decide), if_pos rfl]; first | done | rfl) | (rw [if_neg (by decide), if_neg (by decide), if_neg (by decide), if_pos rfl]; first | done | rfl) | (rw [if_neg (by decide), if_neg (by decide), if_neg (by decide), if_neg (by decide), if_pos rfl]; first | done | rfl) | (rw [if_neg (by decide), if_neg (by decide), if_neg (by decide), if_neg (by decide), if_neg (by decide), if_pos rfl]; first | done | rfl) | (rw [if_neg (by decide), if_neg (by decide), if_neg (by decide), if_neg (by decide), if_neg (by decide), if_neg (by decide), if_pos rfl]; first | done | rfl) | (rw [if_neg (by decide), if_neg (by decide), if_neg (by decide), if_neg (by decide), if_neg (by decide), if_neg (by decide), if_neg (by decide), if_pos rfl]; first | done | rfl) | (rw [if_neg hx0, if_neg hx1, if_neg hx2, if_neg hx3, if_neg hx4, if_neg hx5, if_neg hx6, if_neg hx7]; done)), zs_sm.rf⟩
