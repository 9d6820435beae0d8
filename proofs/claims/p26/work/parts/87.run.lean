theorem tk_in {z q : Nat → Int32} {s : Int32} {t : Nat} (ht : t < nN z q s) : (0 : Int32) ≤ nI t ∧ nI t < nI (nN z q s) := by
  have := nN_le (se := z) (q := q) (s := s)
  exact ⟨nI_pos' (by omega), nI_lt ht (by omega)⟩
theorem tk_0 {A : AS} {n k N v t : Nat} (hs : StOk (aZ A) n) (hk : k < n) (hq : CartOk (qOf (aZ A) k) N) (h1 : 1 ≤ v) (h9 : v ≤ 9) (ht : t < nN (aZ A) (qOf (aZ A) k) (nI v)) : o_tick A (nI k) (nI v) (nI t) 0 = nI (ldN (aZ A) (qOf (aZ A) k) N (nI v) t) := by
  have := nN_le (se := aZ A) (q := qOf (aZ A) k) (s := nI v)
  unfold o_tick
  rw [if_pos (in_c hs hk), if_pos (s_in h1 h9), qA_k hs hk, if_pos (tk_in ht), if_pos rfl, cK_nI (by omega)]
  exact (ld_ok hq _ _).1
theorem tk_1 {A : AS} {n k N v t : Nat} (hs : StOk (aZ A) n) (hk : k < n) (hq : CartOk (qOf (aZ A) k) N) (h1 : 1 ≤ v) (h9 : v ≤ 9) (ht : t < nN (aZ A) (qOf (aZ A) k) (nI v)) : o_tick A (nI k) (nI v) (nI t) 1 = nI (swN (aZ A) (qOf (aZ A) k) N (nI v) t) := by
  have := nN_le (se := aZ A) (q := qOf (aZ A) k) (s := nI v)
  unfold o_tick
  rw [if_pos (in_c hs hk), if_pos (s_in h1 h9), qA_k hs hk, if_pos (tk_in ht), if_neg (by decide), if_pos rfl, cK_nI (by omega)]
  exact (sw_ok hs.1 hq _ _).1
theorem tk_2 {A : AS} {n k v t : Nat} (hs : StOk (aZ A) n) (hk : k < n) (h1 : 1 ≤ v) (h9 : v ≤ 9) (ht : t < nN (aZ A) (qOf (aZ A) k) (nI v)) : o_tick A (nI k) (nI v) (nI t) 2 = rdQ (aZ A) (qOf (aZ A) k) (nI v) t := by
  have := nN_le (se := aZ A) (q := qOf (aZ A) k) (s := nI v)
  unfold o_tick
  rw [if_pos (in_c hs hk), if_pos (s_in h1 h9), qA_k hs hk, if_pos (tk_in ht), if_neg (by decide), if_neg (by decide), if_pos rfl, cK_nI (by omega)]
theorem tk_3 {A : AS} {n k v t : Nat} (hs : StOk (aZ A) n) (hk : k < n) (h1 : 1 ≤ v) (h9 : v ≤ 9) (ht : t < nN (aZ A) (qOf (aZ A) k) (nI v)) : o_tick A (nI k) (nI v) (nI t) 3 = stF (rdQ (aZ A) (qOf (aZ A) k) (nI v)) (wN (aZ A)) (aZ A 4) t := by
  have := nN_le (se := aZ A) (q := qOf (aZ A) k) (s := nI v)
  unfold o_tick
  rw [if_pos (in_c hs hk), if_pos (s_in h1 h9), qA_k hs hk, if_pos (tk_in ht), if_neg (by decide), if_neg (by decide), if_neg (by decide), if_pos rfl, cK_nI (by omega)]
theorem tk_e {A : AS} {n k v : Nat} (hs : StOk (aZ A) n) (hk : k < n) (h1 : 1 ≤ v) (h9 : v ≤ 9) (w : Int32) : o_tick A (nI k) (nI v) (nI (nN (aZ A) (qOf (aZ A) k) (nI v))) w = -1 := by
  have := nN_le (se := aZ A) (q := qOf (aZ A) k) (s := nI v)
  exact to_t hs hk (s_in h1 h9) (fun h => absurd h.2 (nI_nlt (Nat.le_refl _) (by omega))) w
/-! the swing -/
theorem ch_1 {l a : Nat} (hl : l < 2 ^ 30) (ha : a < 2 ^ 30) (h : ¬ nI l ≤ nI a) : nI l - nI a = abF (nI l - nI a) := by
  have h2 : a < l := by
    rcases Nat.lt_or_ge a l with q | q
    · exact q
    · exact absurd (nI_le q (by omega)) h
  rw [ab_N hl ha, pk_sub (by omega), show l - a + (a - l) = l - a by omega]
theorem ch_2 {l a : Nat} (hl : l < 2 ^ 30) (ha : a < 2 ^ 30) (h : nI l ≤ nI a) : nI a - nI l = abF (nI l - nI a) := by
  have h2 := (nI_leI (by omega) (by omega)).mp h
  rw [ab_N hl ha, pk_sub h2, show l - a + (a - l) = a - l by omega]
theorem sa_0 {z q : Nat → Int32} {N t : Nat} {s y : Int32} (hz : SetOk z) (hq : CartOk q N) (ht : t = 0) (hy : y = abF (nI (ldN z q N s t) - nI 0)) : 0 * z 2 / 100 + y * z 1 / 100 = nI (swN z q N s t) := by
  subst ht
  rw [← (sw_ok hz hq s 0).1, hy, ← (ld_ok hq s 0).1]
  rfl
theorem sa_S {z q : Nat → Int32} {N t : Nat} {s y : Int32} (hz : SetOk z) (hq : CartOk q N) (ht : 1 ≤ t) (hy : y = abF (nI (ldN z q N s t) - nI (ldN z q N s (t - 1)))) : nI (swN z q N s (t - 1)) * z 2 / 100 + y * z 1 / 100 = nI (swN z q N s t) := by
  obtain ⟨u, rfl⟩ : ∃ u, t = u + 1 := ⟨t - 1, by omega⟩
  rw [Nat.add_sub_cancel] at hy ⊢
  rw [← (sw_ok hz hq s (u + 1)).1, hy, ← (ld_ok hq s (u + 1)).1, ← (ld_ok hq s u).1, ← (sw_ok hz hq s u).1]
  rfl
/-! axles on the plate -/
theorem on_add {z q : Nat → Int32} {N a t : Nat} {s : Int32} {x : Nat} (h : onN z q N s t a = x) : nI (sumN (onN z q N s t) a) + nI x = nI (sumN (onN z q N s t) (a + 1)) := by
  rw [nI_add]
  show _ = nI (sumN (onN z q N s t) a + onN z q N s t a)
  rw [h]
theorem on_neg {z q : Nat → Int32} {N a t : Nat} {s : Int32} (h : s * nI t - sumF (dQ q) (a + 1) < 0) : nI (sumN (onN z q N s t) a) + 0 = nI (sumN (onN z q N s t) (a + 1)) := on_add (x := 0) (by
  unfold onN
  refine if_neg (fun h2 => ?_)
  have h3 : 0 ≤ s * nI t - sumF (dQ q) (a + 1) := h2.1
  grind)
theorem on_out {z q : Nat → Int32} {N a t : Nat} {s : Int32} (h : z 0 ≤ s * nI t - sumF (dQ q) (a + 1)) : nI (sumN (onN z q N s t) a) + 0 = nI (sumN (onN z q N s t) (a + 1)) := on_add (x := 0) (by
  unfold onN
  refine if_neg (fun h2 => ?_)
  have h3 : s * nI t - sumF (dQ q) (a + 1) < z 0 := h2.2
  grind)
theorem on_in {z q : Nat → Int32} {N a t : Nat} {s : Int32} (h1 : ¬ s * nI t - sumF (dQ q) (a + 1) < 0) (h2 : ¬ z 0 ≤ s * nI t - sumF (dQ q) (a + 1)) : nI (sumN (onN z q N s t) a) + nI (bnN q N a) = nI (sumN (onN z q N s t) (a + 1)) := on_add (by
  unfold onN
  refine if_pos ⟨?_, ?_⟩
  · show 0 ≤ s * nI t - sumF (dQ q) (a + 1)
    grind
  · show s * nI t - sumF (dQ q) (a + 1) < z 0
    grind)
/-! the reading -/
theorem du_nat {z q : Nat → Int32} {N t x : Nat} {s y : Int32} (hz : SetOk z) (hq : CartOk q N) (e : rdN z q N s t = x) (hy : y = nI x) : (if y < 0 then 0 else y) = rdQ z q s t := by
  obtain ⟨h1, h2⟩ := rd_ok hz hq s t
  rw [h1, e, hy, if_neg (nI_pos (by omega))]
theorem du_0 {z q : Nat → Int32} {N t : Nat} {s : Int32} (hz : SetOk z) (hq : CartOk q N) (h4 : t % 4 = 0) : (if nI (ldN z q N s t) + nI (swN z q N s t) < 0 then 0 else nI (ldN z q N s t) + nI (swN z q N s t)) = rdQ z q s t :=
  du_nat hz hq (if_pos h4) (nI_add _ _)
theorem du_1 {z q : Nat → Int32} {N t : Nat} {s : Int32} (hz : SetOk z) (hq : CartOk q N) (h4 : t % 4 = 1 ∨ t % 4 = 3) : (if nI (ldN z q N s t) + 0 < 0 then 0 else nI (ldN z q N s t) + 0) = rdQ z q s t :=
  du_nat (x := ldN z q N s t) hz hq (by unfold rdN; rw [if_neg (by omega), if_neg (by omega)]) (nI_add _ 0)
theorem du_2 {z q : Nat → Int32} {N t : Nat} {s : Int32} (hz : SetOk z) (hq : CartOk q N) (h4 : t % 4 = 2) : (if nI (ldN z q N s t) + -nI (swN z q N s t) < 0 then 0 else nI (ldN z q N s t) + -nI (swN z q N s t)) = rdQ z q s t := by
  obtain ⟨h1, h2⟩ := rd_ok hz hq s t
  have hal := (al_ok hq).2.2
  have hl := (ld_ok (z := z) hq s t).2
  have hw := (sw_ok hz hq s t).2
  have e : rdN z q N s t = ldN z q N s t - swN z q N s t := by unfold rdN; rw [if_neg (by omega), if_pos h4]
  rw [h1, e, show nI (ldN z q N s t) + -nI (swN z q N s t) = nI (ldN z q N s t) - nI (swN z q N s t) by grind]
  by_cases h : swN z q N s t ≤ ldN z q N s t
  · rw [pk_sub h, if_neg (nI_pos (by omega))]
  · rw [if_pos (pk_sneg (by omega) (by omega)), Nat.sub_eq_zero_of_le (by omega)]
    rfl
theorem du_t {x y : Int32} (h : (if y < 0 then 0 else y) = x) (h0 : 0 ≤ y) : x = y := by
  rw [← h, if_neg (by grind)]
theorem du_f {x y : Int32} (h : (if y < 0 then 0 else y) = x) (h0 : ¬ 0 ≤ y) : x = 0 := by
  rw [← h, if_pos (by grind)]
/-! the window -/
theorem bx_1 {f : Nat → Int32} {t j : Nat} (h : ¬ f (t - (j + 1)) ≤ bmx f t j) : f (t - (j + 1)) = bmx f t (j + 1) := by
  show _ = if bmx f t j < f (t - (j + 1)) then f (t - (j + 1)) else bmx f t j
  rw [if_pos (by grind)]
theorem bx_0 {f : Nat → Int32} {t j : Nat} (h : f (t - (j + 1)) ≤ bmx f t j) : bmx f t j = bmx f t (j + 1) := by
  show _ = if bmx f t j < f (t - (j + 1)) then f (t - (j + 1)) else bmx f t j
  rw [if_neg (by grind)]
theorem bn_1 {f : Nat → Int32} {t j : Nat} (h : ¬ bmn f t j ≤ f (t - (j + 1))) : f (t - (j + 1)) = bmn f t (j + 1) := by
  show _ = if f (t - (j + 1)) < bmn f t j then f (t - (j + 1)) else bmn f t j
  rw [if_pos (by grind)]
theorem bn_0 {f : Nat → Int32} {t j : Nat} (h : bmn f t j ≤ f (t - (j + 1))) : bmn f t j = bmn f t (j + 1) := by
  show _ = if f (t - (j + 1)) < bmn f t j then f (t - (j + 1)) else bmn f t j
  rw [if_neg (by grind)]
theorem st_yes {f : Nat → Int32} {t w j : Nat} {bo : Int32} (hw : 1 ≤ w) (hwt : w ≤ t + 1) (hj : j = w - 1) (h : ¬ bo < bmx f t j - bmn f t j) : stF f w bo t = 1 := by
  subst hj
  rw [bmx_eq hw hwt, bmn_eq hw hwt] at h
  exact if_pos ⟨hwt, by grind⟩
theorem st_no {f : Nat → Int32} {t w j : Nat} {bo : Int32} (hw : 1 ≤ w) (hwt : w ≤ t + 1) (hj : j = w - 1) (h : bo < bmx f t j - bmn f t j) : stF f w bo t = 0 := by
  subst hj
  rw [bmx_eq hw hwt, bmn_eq hw hwt] at h
  exact if_neg (fun q => by have := q.2; grind)
theorem st_out {f : Nat → Int32} {t w : Nat} {bo : Int32} (hwt : t + 1 < w) : stF f w bo t = 0 := if_neg (fun q => by have := q.1; omega)
theorem sz_fn {x r : UInt32} (h : FN x 0 (2 ^ 144)) (hr : r = x ∨ r = FP.fneg x) : FN r 0 (2 ^ 144) := by
  rcases hr with rfl | rfl
  · exact h
  · have := fn_neg2 h
    rw [Int.neg_zero] at this
    exact this
theorem sz_lt {r : UInt32} (h : FN r 0 (2 ^ 144)) : ¬ (0 : Int32) ≤ Op.cmpValue (FP.fcmp r 0x3f800000) .g := by
  rw [fn_lt1 h]
  decide
theorem sz_2 : Op.cmpValue (FP.fcmp 0x40000000 0x40000000) .l = 0 := by decide +kernel
theorem fn_lw {g al : Nat} (hg : g ≤ 22000) (h1 : 1 ≤ al) (h2 : al ≤ 1000) : FN (FP.fmul (FP.fdiv (FP.i2f (nI g - nI al)) (FP.i2f (nI al))) (FP.i2f (nI al))) (((g : Int) - al) * 2 ^ 149) (2 ^ 142) ∧ FN (FP.fsub (FP.fmul (FP.fdiv (FP.i2f (nI g - nI al)) (FP.i2f (nI al))) (FP.i2f (nI al))) (FP.i2f (nI g))) (-(al * 2 ^ 149)) (2 ^ 143) ∧ FN (FP.fadd (FP.fsub (FP.fmul (FP.fdiv (FP.i2f (nI g - nI al)) (FP.i2f (nI al))) (FP.i2f (nI al))) (FP.i2f (nI g))) (FP.i2f (nI al))) 0 (2 ^ 144) :=
  fn_law (nI_toInt (by omega)) hg (nI_toInt (by omega)) h1 h2 (pk_sub_toInt (by omega) (by omega))

set_option maxHeartbeats 40000000 in
set_option maxRecDepth 100000 in
theorem c_L_isRun0 {l : Launch} {b : Nat} {D : va_G} {cA : Nat → ClassId} {ad : Nat → Nat} {S : ST} {A : AS} {n k N v tt nn tn c w5 t : Nat} {r we lv gr ba g8 : Int32} (hC : CRel S A n) (hk : k < n) (hq : CartOk (qOf (aZ A) k) N) (hv1 : 1 ≤ v) (hv9 : v ≤ 9) (htt : tt < 120) (hnn : nN (aZ A) (qOf (aZ A) k) (nI v) = nn) (hn1 : 1 ≤ nn) (hn2 : nn ≤ 120) (ht : tt % nn = t) (enn : o_runOf A (nI k) (nI v) 2 = nI nn) (etn : (aZ A 0 + sumF (dQ (qOf (aZ A) k)) N + nI v - 1) / nI v + 1 = nI tn) (ht1000 : tn < 1000) (er : o_runOf A (nI k) (nI v) 1 = r) (ew : o_runOf A (nI k) (nI v) 0 = we) (el : o_runOf A (nI k) (nI v) 3 = lv) (eg : o_runOf A (nI k) (nI v) 4 = gr) (eb : o_runOf A (nI k) (nI v) 7 = ba) (H : (r = 1 ∧ 120 < tn ∧ nn = 120 ∧ we = -5 ∧ ba = -5) ∨ (r = 2 ∧ tn ≤ 120 ∧ nn = tn ∧ lv = 0 ∧ we = -5 ∧ ba = -5) ∨ (r = 0 ∧ tn ≤ 120 ∧ nn = tn ∧ ¬ lv = 0 ∧ we = gr ∧ ba = -5) ∨ (r = 3 ∧ tn ≤ 120 ∧ nn = tn ∧ ¬ lv = 0 ∧ we = -5 ∧ ba = -5) ∨ (r = 3 ∧ tn ≤ 120 ∧ nn = tn ∧ ¬ lv = 0 ∧ we = -5 ∧ ¬ ba = -5 ∧ gr ≤ ba)) (e6 : o_runOf A (nI k) (nI v) 6 = nI c) (hc1 : 1 ≤ c) (hc2 : c ≤ dwN (qOf (aZ A) k) N) (e5 : o_runOf A (nI k) (nI v) 5 = nI w5) (hw51 : 1 ≤ w5) (hw52 : w5 ≤ v) (e8 : o_runOf A (nI k) (nI v) 8 = g8) (h8 : ¬ nI nn ≤ g8) (hgl1 : ¬ lv ≤ 0 → 0 ≤ gr) (hgl2 : -5 ≤ gr) (hoff0 : r = 0 → o_off A (nI k) (nI v) = FP.fdiv (FP.i2f (we - nI (alN (qOf (aZ A) k) N))) (FP.i2f (nI (alN (qOf (aZ A) k) N))) ∧ ∃ g, g ≤ 22000 ∧ we = nI g) (hoff1 : ¬ r = 0 → o_off A (nI k) (nI v) = 0x40000000) : MT l b D cA NN ad zT yL_isRun cL_isRun 28 (some .boolean) 6 [.ref (ad 0), .int (nI k), .int (nI v), .int (nI tt)] S (RI (fun r S2 => r = 1 ∧ CRel S2 A n)) := by
  have hs := hC.st
  have n6 := hs.2.2.1
  have h5 := hq.2.2.1
  have hal := (al_ok hq).2.2
  have hdw := dw_le (qOf (aZ A) k) N
  have htn : t < nN (aZ A) (qOf (aZ A) k) (nI v) := by rw [hnn, ← ht]; exact Nat.mod_lt _ hn1
  have ht120 : t < 120 := by rw [hnn] at htn; omega
  have hw1 := (wN_ok hs.1).2.1
  have hw9 := (wN_ok hs.1).2.2
  have hld : ∀ t, ldN (aZ A) (qOf (aZ A) k) N (nI v) t ≤ 1000 := fun t => Nat.le_trans (ld_ok hq _ t).2 hal
  refine MT.intro (j := 24) (ls := [some (.ref (ad 0)), some (.int (nI k)), some (.int (nI v)), some (.int (nI tt)), none, none, none, none, none, none, none, none, none, none, none, none, none, none, none, none, none, none, none, none, none, none, none, none]) pn_L rfl rfl rfl (fun pr en s0 mi below meth c' K _ => ?_)
  refine g_aload_n K dL_isRun_0 rfl ?_
  refine g_iload_n K dL_isRun_1 rfl ?_
  refine g_iconst K dL_isRun_2 kc_2 ?_
  refine g_rdV K (rd hC (c_X6_cartOf hC) (xc_2 hs hk hq)) mw_X6_cartOf ml_L_20 dL_isRun_3 (by rfl) rfl rfl (by decide) (by simp [Value.category]) ⟨by decide, by decide⟩ ⟨by decide, by decide⟩ ?_
  clear hC
  intro S3 hC
  refine g_istore (ls2 := [_, _, _, _, some (.int _), _, _, _, _, _, _, _, _, _, _, _, _, _, _, _, _, _, _, _, _, _, _, _]) K dL_isRun_6 (by decide) rfl ?_
  refine g_aload_n K dL_isRun_8 rfl ?_
  refine g_iload_n K dL_isRun_9 rfl ?_
  refine g_iload_n K dL_isRun_10 rfl ?_
  refine g_iconst K dL_isRun_11 kc_2 ?_
  refine g_rdV K (rd hC (c_X6_runOf hC) (enn)) mw_X6_runOf ml_L_30 dL_isRun_12 (by rfl) rfl rfl (by decide) (by simp [Value.category]) ⟨by decide, by decide⟩ ⟨by decide, by decide⟩ ?_
  clear hC
  intro S12 hC
  refine g_istore (ls2 := [_, _, _, _, _, some (.int _), _, _, _, _, _, _, _, _, _, _, _, _, _, _, _, _, _, _, _, _, _, _]) K dL_isRun_15 (by decide) rfl ?_
  refine g_aload_n K dL_isRun_17 rfl ?_
  refine g_iload_n K dL_isRun_18 rfl ?_
  refine g_iload_n K dL_isRun_19 rfl ?_
  refine g_iconst K dL_isRun_20 kc_1 ?_
  refine g_rdV K (rd hC (c_X6_runOf hC) (er)) mw_X6_runOf ml_L_30 dL_isRun_21 (by rfl) rfl rfl (by decide) (by simp [Value.category]) ⟨by decide, by decide⟩ ⟨by decide, by decide⟩ ?_
  clear hC
  intro S21 hC
  refine g_istore (ls2 := [_, _, _, _, _, _, some (.int _), _, _, _, _, _, _, _, _, _, _, _, _, _, _, _, _, _, _, _, _, _]) K dL_isRun_24 (by decide) rfl ?_
  refine g_aload_n K dL_isRun_26 rfl ?_
  refine g_iload_n K dL_isRun_27 rfl ?_
  refine g_iload_n K dL_isRun_28 rfl ?_
  refine g_iconst K dL_isRun_29 kc_0 ?_
  refine g_rdV K (rd hC (c_X6_runOf hC) (ew)) mw_X6_runOf ml_L_30 dL_isRun_30 (by rfl) rfl rfl (by decide) (by simp [Value.category]) ⟨by decide, by decide⟩ ⟨by decide, by decide⟩ ?_
  clear hC
  intro S30 hC
  refine g_istore (ls2 := [_, _, _, _, _, _, _, some (.int _), _, _, _, _, _, _, _, _, _, _, _, _, _, _, _, _, _, _, _, _]) K dL_isRun_33 (by decide) rfl ?_
  refine g_aload_n K dL_isRun_35 rfl ?_
  refine g_iload_n K dL_isRun_36 rfl ?_
  refine g_iload_n K dL_isRun_37 rfl ?_
  refine g_iconst K dL_isRun_38 kc_3 ?_
  refine g_rdV K (rd hC (c_X6_runOf hC) (el)) mw_X6_runOf ml_L_30 dL_isRun_39 (by rfl) rfl rfl (by decide) (by simp [Value.category]) ⟨by decide, by decide⟩ ⟨by decide, by decide⟩ ?_
  clear hC
  intro S39 hC
  refine g_istore (ls2 := [_, _, _, _, _, _, _, _, some (.int _), _, _, _, _, _, _, _, _, _, _, _, _, _, _, _, _, _, _, _]) K dL_isRun_42 (by decide) rfl ?_
  refine g_aload_n K dL_isRun_44 rfl ?_
  refine g_iload_n K dL_isRun_45 rfl ?_
  refine g_iload_n K dL_isRun_46 rfl ?_
  refine g_iconst K dL_isRun_47 kc_4 ?_
  refine g_rdV K (rd hC (c_X6_runOf hC) (eg)) mw_X6_runOf ml_L_30 dL_isRun_48 (by rfl) rfl rfl (by decide) (by simp [Value.category]) ⟨by decide, by decide⟩ ⟨by decide, by decide⟩ ?_
  clear hC
  intro S48 hC
  refine g_istore (ls2 := [_, _, _, _, _, _, _, _, _, some (.int _), _, _, _, _, _, _, _, _, _, _, _, _, _, _, _, _, _, _]) K dL_isRun_51 (by decide) rfl ?_
  refine g_aload_n K dL_isRun_53 rfl ?_
  refine g_iload_n K dL_isRun_54 rfl ?_
  refine g_iload_n K dL_isRun_55 rfl ?_
  refine g_bipush K dL_isRun_56 kb_7 ?_
  refine g_rdV K (rd hC (c_X6_runOf hC) (eb)) mw_X6_runOf ml_L_30 dL_isRun_58 (by rfl) rfl rfl (by decide) (by simp [Value.category]) ⟨by decide, by decide⟩ ⟨by decide, by decide⟩ ?_
  clear hC
  intro S58 hC
  refine g_istore (ls2 := [_, _, _, _, _, _, _, _, _, _, some (.int _), _, _, _, _, _, _, _, _, _, _, _, _, _, _, _, _, _]) K dL_isRun_61 (by decide) rfl ?_
  refine g_aload_n K dL_isRun_63 rfl ?_
  refine g_bipush K dL_isRun_64 kb_6 ?_
  refine g_rdV K (rd hC (c_X6_count hC) (cn_s A 0 (by decide))) mw_X6_count ml_L_14 dL_isRun_66 (by rfl) rfl rfl (by decide) (by simp [Value.category]) ⟨by decide, by decide⟩ ⟨by decide, by decide⟩ ?_
  clear hC
  intro S66 hC
  refine g_istore (ls2 := [_, _, _, _, _, _, _, _, _, _, _, some (.int _), _, _, _, _, _, _, _, _, _, _, _, _, _, _, _, _]) K dL_isRun_69 (by decide) rfl ?_
  refine g_iload K dL_isRun_71 rfl ?_
  refine g_aload_n K dL_isRun_73 rfl ?_
  refine g_iload_n K dL_isRun_74 rfl ?_
  refine g_iconst K dL_isRun_75 kc_3 ?_
  refine g_rdV K (rd hC (c_X6_cartOf hC) (xc_3 hs hk hq)) mw_X6_cartOf ml_L_20 dL_isRun_76 (by rfl) rfl rfl (by decide) (by simp [Value.category]) ⟨by decide, by decide⟩ ⟨by decide, by decide⟩ ?_
  clear hC
  intro S76 hC
  refine g_iadd K dL_isRun_79 ?_
  refine g_iload_n K dL_isRun_80 rfl ?_
  refine g_iadd K dL_isRun_81 ?_
  refine g_iconst K dL_isRun_82 kc_1 ?_
  refine g_isub K dL_isRun_83 ?_
  refine g_iload_n K dL_isRun_84 rfl ?_
  refine g_idiv K dL_isRun_85 (nI_ne0 hv1 (by omega)) ?_
  refine g_iconst K dL_isRun_86 kc_1 ?_
  refine g_iadd K dL_isRun_87 ?_
  refine g_nm (y := (nI tn)) etn ?_
  refine g_istore (ls2 := [_, _, _, _, _, _, _, _, _, _, _, _, some (.int _), _, _, _, _, _, _, _, _, _, _, _, _, _, _, _]) K dL_isRun_88 (by decide) rfl ?_
  have k286 : ∀ (S1 : ST), (CRel S1 A n) → G pr l en (rmd 6) s0 mi (List.toArray [.ref (ad 0), .int (nI k), .int (nI v), .int (nI tt)]) below meth c' (MQ below (QQ b D cA NN ad zT (RI (fun r S2 => r = 1 ∧ CRel S2 A n))) (List.toArray [.ref (ad 0), .int (nI k), .int (nI v), .int (nI tt)]) s0 0 0 (aF b)) b D cA 28 NN ad zT 0 0 286 [some (.ref (ad 0)), some (.int (nI k)), some (.int (nI v)), some (.int (nI tt)), some (.int (nI (alN (qOf (aZ A) k) N))), some (.int (nI nn)), some (.int r), some (.int we), some (.int lv), some (.int gr), some (.int ba), some (.int (aZ A 0)), some (.int (nI tn)), none, none, none, none, none, none, none, none, none, none, none, none, none, none, none] [.int 1] S1 := by
    intro S1  hC
    refine g_istore (ls2 := [_, _, _, _, _, _, _, _, _, _, _, _, _, some (.int _), _, _, _, _, _, _, _, _, _, _, _, _, _, _]) K dL_isRun_286 (by decide) rfl ?_
    refine g_iload_n K dL_isRun_288 rfl ?_
    refine g_iload K dL_isRun_289 rfl ?_
    refine g_irem K dL_isRun_291 (nI_ne0 hn1 (by omega)) ?_
    refine g_nm (y := (nI t)) ((pk_rem (by omega) hn1 (by omega)).trans (by rw [ht])) ?_
    refine g_istore (ls2 := [_, _, _, _, _, _, _, _, _, _, _, _, _, _, some (.int _), _, _, _, _, _, _, _, _, _, _, _, _, _]) K dL_isRun_292 (by decide) rfl ?_
    refine g_aload_n K dL_isRun_294 rfl ?_
    refine g_iload_n K dL_isRun_295 rfl ?_
    refine g_iload_n K dL_isRun_296 rfl ?_
    refine g_iload K dL_isRun_297 rfl ?_
    refine g_iconst K dL_isRun_299 kc_0 ?_
    refine g_rdV K (rd hC (c_X6_tick hC) (tk_0 hs hk hq hv1 hv9 htn)) mw_X6_tick ml_L_33 dL_isRun_300 (by rfl) rfl rfl (by decide) (by simp [Value.category]) ⟨by decide, by decide⟩ ⟨by decide, by decide⟩ ?_
    clear hC
    intro S300 hC
    refine g_istore (ls2 := [_, _, _, _, _, _, _, _, _, _, _, _, _, _, _, some (.int _), _, _, _, _, _, _, _, _, _, _, _, _]) K dL_isRun_303 (by decide) rfl ?_
    refine g_aload_n K dL_isRun_305 rfl ?_
    refine g_iload_n K dL_isRun_306 rfl ?_
    refine g_iload_n K dL_isRun_307 rfl ?_
    refine g_iload K dL_isRun_308 rfl ?_
    refine g_iconst K dL_isRun_310 kc_1 ?_
    refine g_rdV K (rd hC (c_X6_tick hC) (tk_1 hs hk hq hv1 hv9 htn)) mw_X6_tick ml_L_33 dL_isRun_311 (by rfl) rfl rfl (by decide) (by simp [Value.category]) ⟨by decide, by decide⟩ ⟨by decide, by decide⟩ ?_
    clear hC
    intro S311 hC
    refine g_istore (ls2 := [_, _, _, _, _, _, _, _, _, _, _, _, _, _, _, _, some (.int _), _, _, _, _, _, _, _, _, _, _, _]) K dL_isRun_314 (by decide) rfl ?_
    have k382 : ∀ (y18 y19 : Int32) (S1 : ST), (CRel S1 A n) → (y18 * aZ A 2 / 100 + y19 * aZ A 1 / 100 = nI (swN (aZ A) (qOf (aZ A) k) N (nI v) t)) → G pr l en (rmd 6) s0 mi (List.toArray [.ref (ad 0), .int (nI k), .int (nI v), .int (nI tt)]) below meth c' (MQ below (QQ b D cA NN ad zT (RI (fun r S2 => r = 1 ∧ CRel S2 A n))) (List.toArray [.ref (ad 0), .int (nI k), .int (nI v), .int (nI tt)]) s0 0 0 (aF b)) b D cA 28 NN ad zT 0 0 382 [some (.ref (ad 0)), some (.int (nI k)), some (.int (nI v)), some (.int (nI tt)), some (.int (nI (alN (qOf (aZ A) k) N))), some (.int (nI nn)), some (.int r), some (.int we), some (.int lv), some (.int gr), some (.int ba), some (.int (aZ A 0)), some (.int (nI tn)), some (.int 1), some (.int (nI t)), some (.int (nI (ldN (aZ A) (qOf (aZ A) k) N (nI v) t))), some (.int (nI (swN (aZ A) (qOf (aZ A) k) N (nI v) t))), none, some (.int y18), some (.int y19), none, none, none, none, none, none, none, none] [] S1 := by
      intro y18 y19  S1  hC hsw
      refine g_iconst K dL_isRun_382 kc_0 ?_
      refine g_istore (ls2 := [_, _, _, _, _, _, _, _, _, _, _, _, _, _, _, _, _, _, _, _, some (.int _), _, _, _, _, _, _, _]) K dL_isRun_383 (by decide) rfl ?_
      refine g_iconst K dL_isRun_385 kc_0 ?_
      refine g_istore (ls2 := [_, _, _, _, _, _, _, _, _, _, _, _, _, _, _, _, _, _, _, _, _, some (.int _), _, _, _, _, _, _]) K dL_isRun_386 (by decide) rfl ?_
      refine g_iconst K dL_isRun_388 kc_0 ?_
      refine g_istore (ls2 := [_, _, _, _, _, _, _, _, _, _, _, _, _, _, _, _, _, _, _, _, _, _, some (.int _), _, _, _, _, _]) K dL_isRun_389 (by decide) rfl ?_
      have l391 : ∀ (fuel : Nat) (a : Nat) (S2 : ST), (N + 1 ≤ a + fuel) → (a ≤ N) → (CRel S2 A n) → G pr l en (rmd 6) s0 mi (List.toArray [.ref (ad 0), .int (nI k), .int (nI v), .int (nI tt)]) below meth c' (MQ below (QQ b D cA NN ad zT (RI (fun r S2 => r = 1 ∧ CRel S2 A n))) (List.toArray [.ref (ad 0), .int (nI k), .int (nI v), .int (nI tt)]) s0 0 0 (aF b)) b D cA 28 NN ad zT 0 0 391 [some (.ref (ad 0)), some (.int (nI k)), some (.int (nI v)), some (.int (nI tt)), some (.int (nI (alN (qOf (aZ A) k) N))), some (.int (nI nn)), some (.int r), some (.int we), some (.int lv), some (.int gr), some (.int ba), some (.int (aZ A 0)), some (.int (nI tn)), some (.int 1), some (.int (nI t)), some (.int (nI (ldN (aZ A) (qOf (aZ A) k) N (nI v) t))), some (.int (nI (swN (aZ A) (qOf (aZ A) k) N (nI v) t))), none, some (.int y18), some (.int y19), some (.int (nI (sumN (onN (aZ A) (qOf (aZ A) k) N (nI v) t) a))), some (.int (sumF (dQ (qOf (aZ A) k)) a)), some (.int (nI a)), none, none, none, none, none] [] S2 := by
        intro fuel
        induction fuel with
        | zero =>
          intro a  S2  ha ha2 hC
          omega
        | succ fuel ih =>
          intro a  S2  ha ha2 hC
          refine g_iload K dL_isRun_391 rfl ?_
          refine g_aload_n K dL_isRun_393 rfl ?_
          refine g_iload_n K dL_isRun_394 rfl ?_
          refine g_iconst K dL_isRun_395 kc_0 ?_
          refine g_rdV K (rd hC (c_X6_cartOf hC) (xc_0 hs hk hq)) mw_X6_cartOf ml_L_20 dL_isRun_396 (by rfl) rfl rfl (by decide) (by simp [Value.category]) ⟨by decide, by decide⟩ ⟨by decide, by decide⟩ ?_
          clear hC
          intro S396 hC
          refine g_icmp_ge (tgt := 459) K dL_isRun_399 (by decide) (fun u399 => ?_) (fun u399 => ?_)
          · have haN : N = a := by
              rw [nI_leI (by omega) (by omega)] at u399
              omega
            subst haN
            have k491 : ∀ (y22 : Int32) (S3 : ST), (CRel S3 A n) → ((if y22 < 0 then 0 else y22) = (rdQ (aZ A) (qOf (aZ A) k) (nI v)) t) → G pr l en (rmd 6) s0 mi (List.toArray [.ref (ad 0), .int (nI k), .int (nI v), .int (nI tt)]) below meth c' (MQ below (QQ b D cA NN ad zT (RI (fun r S2 => r = 1 ∧ CRel S2 A n))) (List.toArray [.ref (ad 0), .int (nI k), .int (nI v), .int (nI tt)]) s0 0 0 (aF b)) b D cA 28 NN ad zT 0 0 491 [some (.ref (ad 0)), some (.int (nI k)), some (.int (nI v)), some (.int (nI tt)), some (.int (nI (alN (qOf (aZ A) k) N))), some (.int (nI nn)), some (.int r), some (.int we), some (.int lv), some (.int gr), some (.int ba), some (.int (aZ A 0)), some (.int (nI tn)), some (.int 1), some (.int (nI t)), some (.int (nI (ldN (aZ A) (qOf (aZ A) k) N (nI v) t))), some (.int (nI (swN (aZ A) (qOf (aZ A) k) N (nI v) t))), none, some (.int y18), some (.int y19), some (.int (nI (sumN (onN (aZ A) (qOf (aZ A) k) N (nI v) t) N))), none, some (.int y22), none, none, none, none, none] [] S3 := by
              intro y22  S3  hC hdu
              refine g_iload K dL_isRun_491 rfl ?_
              refine g_if_eq (tgt := 588) K dL_isRun_493 (by decide) (fun u493 => absurd u493 (by decide)) (fun u493 => ?_)
              refine g_iload K dL_isRun_496 rfl ?_
              refine g_iload K dL_isRun_498 rfl ?_
              refine g_icmp_ne (tgt := 588) K dL_isRun_500 (by decide) (fun u500 => absurd u500 (fun h => h rfl)) (fun u500 => ?_)
              refine g_iload K dL_isRun_503 rfl ?_
              refine g_if_lt (tgt := 588) K dL_isRun_505 (by decide) (fun u505 => absurd u505 (nI_pos (by have := hld t; omega))) (fun u505 => ?_)
              refine g_iload K dL_isRun_508 rfl ?_
              refine g_iload K dL_isRun_510 rfl ?_
              refine g_icmp_gt (tgt := 588) K dL_isRun_512 (by decide) (fun u512 => absurd u512 (nI_nlt (ld_ok hq _ _).2 (by omega))) (fun u512 => ?_)
              refine g_iload K dL_isRun_515 rfl ?_
              refine g_iload K dL_isRun_517 rfl ?_
              refine g_aload_n K dL_isRun_519 rfl ?_
              refine g_bipush K dL_isRun_520 kb_8 ?_
              refine g_rdV K (rd hC (c_X6_count hC) (cn_s A 2 (by decide))) mw_X6_count ml_L_14 dL_isRun_522 (by rfl) rfl rfl (by decide) (by simp [Value.category]) ⟨by decide, by decide⟩ ⟨by decide, by decide⟩ ?_
              clear hC
              intro S522 hC
              refine g_imul K dL_isRun_525 ?_
              refine g_bipush K dL_isRun_526 kb_100 ?_
              refine g_idiv K dL_isRun_528 (by first | assumption | decide) ?_
              refine g_iload K dL_isRun_529 rfl ?_
              refine g_aload_n K dL_isRun_531 rfl ?_
              refine g_bipush K dL_isRun_532 kb_7 ?_
              refine g_rdV K (rd hC (c_X6_count hC) (cn_s A 1 (by decide))) mw_X6_count ml_L_14 dL_isRun_534 (by rfl) rfl rfl (by decide) (by simp [Value.category]) ⟨by decide, by decide⟩ ⟨by decide, by decide⟩ ?_
              clear hC
              intro S534 hC
              refine g_imul K dL_isRun_537 ?_
              refine g_bipush K dL_isRun_538 kb_100 ?_
              refine g_idiv K dL_isRun_540 (by first | assumption | decide) ?_
              refine g_iadd K dL_isRun_541 ?_
              refine g_icmp_ne (tgt := 588) K dL_isRun_542 (by decide) (fun u542 => absurd u542 (fun h => h hsw.symm)) (fun u542 => ?_)
              have k591 : ∀ (S4 : ST), (CRel S4 A n) → G pr l en (rmd 6) s0 mi (List.toArray [.ref (ad 0), .int (nI k), .int (nI v), .int (nI tt)]) below meth c' (MQ below (QQ b D cA NN ad zT (RI (fun r S2 => r = 1 ∧ CRel S2 A n))) (List.toArray [.ref (ad 0), .int (nI k), .int (nI v), .int (nI tt)]) s0 0 0 (aF b)) b D cA 28 NN ad zT 0 0 591 [some (.ref (ad 0)), some (.int (nI k)), some (.int (nI v)), some (.int (nI tt)), some (.int (nI (alN (qOf (aZ A) k) N))), some (.int (nI nn)), some (.int r), some (.int we), some (.int lv), some (.int gr), some (.int ba), some (.int (aZ A 0)), some (.int (nI tn)), some (.int 1), some (.int (nI t)), some (.int (nI (ldN (aZ A) (qOf (aZ A) k) N (nI v) t))), some (.int (nI (swN (aZ A) (qOf (aZ A) k) N (nI v) t))), none, none, none, none, none, none, none, none, none, none, none] [] S4 := by
                intro S4  hC
                refine g_aload_n K dL_isRun_591 rfl ?_
                refine g_bipush K dL_isRun_592 kb_9 ?_
                refine g_rdV K (rd hC (c_X6_count hC) ((cn_s A 3 (by decide)).trans (wN_ok hs.1).1)) mw_X6_count ml_L_14 dL_isRun_594 (by rfl) rfl rfl (by decide) (by simp [Value.category]) ⟨by decide, by decide⟩ ⟨by decide, by decide⟩ ?_
                clear hC
                intro S594 hC
                refine g_istore (ls2 := [_, _, _, _, _, _, _, _, _, _, _, _, _, _, _, _, _, _, _, _, _, _, _, some (.int _), _, _, _, _]) K dL_isRun_597 (by decide) rfl ?_
                refine g_aload_n K dL_isRun_599 rfl ?_
                refine g_iload_n K dL_isRun_600 rfl ?_
                refine g_iload_n K dL_isRun_601 rfl ?_
                refine g_iload K dL_isRun_602 rfl ?_
                refine g_iconst K dL_isRun_604 kc_2 ?_
                refine g_rdV K (rd hC (c_X6_tick hC) (tk_2 hs hk hv1 hv9 htn)) mw_X6_tick ml_L_33 dL_isRun_605 (by rfl) rfl rfl (by decide) (by simp [Value.category]) ⟨by decide, by decide⟩ ⟨by decide, by decide⟩ ?_
                clear hC
                intro S605 hC
                refine g_istore (ls2 := [_, _, _, _, _, _, _, _, _, _, _, _, _, _, _, _, _, _, _, _, _, _, _, _, some (.int _), _, _, _]) K dL_isRun_608 (by decide) rfl ?_
                refine g_iload K dL_isRun_610 rfl ?_
                refine g_istore (ls2 := [_, _, _, _, _, _, _, _, _, _, _, _, _, _, _, _, _, _, _, _, _, _, _, _, _, some (.int _), _, _]) K dL_isRun_612 (by decide) rfl ?_
                refine g_iconst K dL_isRun_614 kc_1 ?_
                refine g_istore (ls2 := [_, _, _, _, _, _, _, _, _, _, _, _, _, _, _, _, _, _, _, _, _, _, _, _, _, _, some (.int _), _]) K dL_isRun_615 (by decide) rfl ?_
                have l617 : ∀ (fuel : Nat) (j : Nat) (S5 : ST), (t + 2 ≤ j + fuel) → (j ≤ t) → (j + 1 ≤ wN (aZ A)) → (CRel S5 A n) → G pr l en (rmd 6) s0 mi (List.toArray [.ref (ad 0), .int (nI k), .int (nI v), .int (nI tt)]) below meth c' (MQ below (QQ b D cA NN ad zT (RI (fun r S2 => r = 1 ∧ CRel S2 A n))) (List.toArray [.ref (ad 0), .int (nI k), .int (nI v), .int (nI tt)]) s0 0 0 (aF b)) b D cA 28 NN ad zT 0 0 617 [some (.ref (ad 0)), some (.int (nI k)), some (.int (nI v)), some (.int (nI tt)), some (.int (nI (alN (qOf (aZ A) k) N))), some (.int (nI nn)), some (.int r), some (.int we), some (.int lv), some (.int gr), some (.int ba), some (.int (aZ A 0)), some (.int (nI tn)), some (.int 1), some (.int (nI t)), some (.int (nI (ldN (aZ A) (qOf (aZ A) k) N (nI v) t))), some (.int (nI (swN (aZ A) (qOf (aZ A) k) N (nI v) t))), none, none, none, none, none, none, some (.int (nI (wN (aZ A)))), some (.int (bmx (rdQ (aZ A) (qOf (aZ A) k) (nI v)) t j)), some (.int (bmn (rdQ (aZ A) (qOf (aZ A) k) (nI v)) t j)), some (.int (nI (j + 1))), none] [] S5 := by
                  intro fuel
                  induction fuel with
                  | zero =>
                    intro j  S5  hj hj2 hjw hC
                    omega
                  | succ fuel ih =>
                    intro j  S5  hj hj2 hjw hC
                    refine g_iload K dL_isRun_617 rfl ?_
                    refine g_iload K dL_isRun_619 rfl ?_
                    refine g_icmp_ge (tgt := 683) K dL_isRun_621 (by decide) (fun u621 => ?_) (fun u621 => ?_)
                    · have hx : wN (aZ A) ≤ j + 1 := by
                        rw [nI_leI (by omega) (by omega)] at u621
                        exact u621
                      rcases Nat.lt_or_ge (t + 1) (wN (aZ A)) with hwt | hwt
                      · skip
                        refine g_iload K dL_isRun_683 rfl ?_
                        refine g_if_eq (tgt := 790) K dL_isRun_685 (by decide) (fun u685 => absurd u685 (by decide)) (fun u685 => ?_)
                        refine g_aload_n K dL_isRun_688 rfl ?_
                        refine g_iload_n K dL_isRun_689 rfl ?_
                        refine g_iload_n K dL_isRun_690 rfl ?_
                        refine g_iload K dL_isRun_691 rfl ?_
                        refine g_iconst K dL_isRun_693 kc_3 ?_
                        refine g_rdV K (rd hC (c_X6_tick hC) (tk_3 hs hk hv1 hv9 htn)) mw_X6_tick ml_L_33 dL_isRun_694 (by rfl) rfl rfl (by decide) (by simp [Value.category]) ⟨by decide, by decide⟩ ⟨by decide, by decide⟩ ?_
                        clear hC
                        intro S694 hC
                        refine g_iload K dL_isRun_697 rfl ?_
                        refine g_iconst K dL_isRun_699 kc_1 ?_
                        refine g_iadd K dL_isRun_700 ?_
                        refine g_nm (y := (nI (t + 1))) (nI_1 t) ?_
                        refine g_iload K dL_isRun_701 rfl ?_
                        refine g_icmp_lt (tgt := 724) K dL_isRun_703 (by decide) (fun u703 => ?_) (fun u703 => absurd (nI_lt (a := t + 1) hwt (by omega)) u703)
                        refine g_iconst K dL_isRun_724 kc_0 ?_
                        refine g_icmp_ne (tgt := 790) K dL_isRun_725 (by decide) (fun u725 => absurd u725 (fun h => h (st_out hwt))) (fun u725 => ?_)
                        refine g_aload_n K dL_isRun_728 rfl ?_
                        refine g_iload_n K dL_isRun_729 rfl ?_
                        refine g_iload_n K dL_isRun_730 rfl ?_
                        refine g_iload K dL_isRun_731 rfl ?_
                        refine g_iconst K dL_isRun_733 kc_0 ?_
                        refine g_rdV K (rd hC (c_X6_tick hC) ((congrArg (fun x => o_tick A (nI k) (nI v) (nI x) 0) hnn.symm).trans (tk_e hs hk hv1 hv9 0))) mw_X6_tick ml_L_33 dL_isRun_734 (by rfl) rfl rfl (by decide) (by simp [Value.category]) ⟨by decide, by decide⟩ ⟨by decide, by decide⟩ ?_
                        clear hC
                        intro S734 hC
                        refine g_iconst K dL_isRun_737 kc_m1 ?_
                        refine g_icmp_ne (tgt := 790) K dL_isRun_738 (by decide) (fun u738 => absurd u738 (by decide)) (fun u738 => ?_)
                        refine g_iload K dL_isRun_741 rfl ?_
                        refine g_if_ne (tgt := 775) K dL_isRun_743 (by decide) (fun u743 => ?_) (fun u743 => ?_)
                        · refine g_aload_n K dL_isRun_775 rfl ?_
                          refine g_iload_n K dL_isRun_776 rfl ?_
                          refine g_iload_n K dL_isRun_777 rfl ?_
                          refine g_rdfV K (rdf hC (c_X6_off hC) (hoff1 u743)) mw_X6_off ml_L_37 dL_isRun_778 (by rfl) rfl rfl (by decide) (by simp [Value.category]) ⟨by decide, by decide⟩ ⟨by decide, by decide⟩ ?_
                          clear hC
                          intro S778 hC
                          refine g_fconst2 K dL_isRun_781 ?_
                          refine g_fcmp K dL_isRun_782 ?_
                          refine g_if_ne (tgt := 790) K dL_isRun_783 (by decide) (fun u783 => absurd u783 (fun h => h sz_2)) (fun u783 => ?_)
                          refine g_iconst K dL_isRun_786 kc_1 ?_
                          refine g_goto (tgt := 791) K dL_isRun_787 (by decide) ?_
                          refine g_zret K dL_isRun_791 (by first | exact Or.inl rfl | exact Or.inr rfl | assumption) ⟨_, rfl, ?_⟩
                          exact ⟨rfl, hC⟩
                        · obtain ⟨ho, g, hg, rfl⟩ := hoff0 u743
                          have hfl := fn_lw hg (al_ok hq).2.1 (al_ok hq).2.2
                          refine g_aload_n K dL_isRun_746 rfl ?_
                          refine g_iload_n K dL_isRun_747 rfl ?_
                          refine g_iload_n K dL_isRun_748 rfl ?_
                          refine g_rdfV K (rdf hC (c_X6_off hC) ho) mw_X6_off ml_L_37 dL_isRun_749 (by rfl) rfl rfl (by decide) (by simp [Value.category]) ⟨by decide, by decide⟩ ⟨by decide, by decide⟩ ?_
                          clear hC
                          intro S749 hC
                          refine g_iload K dL_isRun_752 rfl ?_
                          refine g_i2f K dL_isRun_754 ?_
                          refine g_fmul K dL_isRun_755 (fn_vf hfl.1) ?_
                          refine g_iload K dL_isRun_756 rfl ?_
                          refine g_i2f K dL_isRun_758 ?_
                          refine g_fsub K dL_isRun_759 (fn_vf hfl.2.1) ?_
                          refine g_iload K dL_isRun_760 rfl ?_
                          refine g_i2f K dL_isRun_762 ?_
                          refine g_fadd K dL_isRun_763 (fn_vf hfl.2.2) ?_
                          refine g_callSpf K c_L_size mw_L_size ml_L_41 dL_isRun_764 (by rfl) rfl (by simp [Value.category]) ⟨by decide, by decide⟩ ⟨by decide, by decide⟩ (fun r764 S764 h764 => ?_)
                          obtain ⟨hr764, rfl⟩ := h764
                          have hfr := sz_fn hfl.2.2 hr764
                          refine g_fconst1 K dL_isRun_767 ?_
                          refine g_fcmp K dL_isRun_768 ?_
                          refine g_if_ge (tgt := 790) K dL_isRun_769 (by decide) (fun u769 => absurd u769 (sz_lt hfr)) (fun u769 => ?_)
                          refine g_goto (tgt := 786) K dL_isRun_772 (by decide) ?_
                          refine g_iconst K dL_isRun_786 kc_1 ?_
                          refine g_goto (tgt := 791) K dL_isRun_787 (by decide) ?_
                          refine g_zret K dL_isRun_791 (by first | exact Or.inl rfl | exact Or.inr rfl | assumption) ⟨_, rfl, ?_⟩
                          exact ⟨rfl, hC⟩
                      · have hjx : j = wN (aZ A) - 1 := by omega
                        refine g_iload K dL_isRun_683 rfl ?_
                        refine g_if_eq (tgt := 790) K dL_isRun_685 (by decide) (fun u685 => absurd u685 (by decide)) (fun u685 => ?_)
                        refine g_aload_n K dL_isRun_688 rfl ?_
                        refine g_iload_n K dL_isRun_689 rfl ?_
                        refine g_iload_n K dL_isRun_690 rfl ?_
                        refine g_iload K dL_isRun_691 rfl ?_
                        refine g_iconst K dL_isRun_693 kc_3 ?_
                        refine g_rdV K (rd hC (c_X6_tick hC) (tk_3 hs hk hv1 hv9 htn)) mw_X6_tick ml_L_33 dL_isRun_694 (by rfl) rfl rfl (by decide) (by simp [Value.category]) ⟨by decide, by decide⟩ ⟨by decide, by decide⟩ ?_
                        clear hC
                        intro S694 hC
                        refine g_iload K dL_isRun_697 rfl ?_
                        refine g_iconst K dL_isRun_699 kc_1 ?_
                        refine g_iadd K dL_isRun_700 ?_
                        refine g_nm (y := (nI (t + 1))) (nI_1 t) ?_
                        refine g_iload K dL_isRun_701 rfl ?_
                        refine g_icmp_lt (tgt := 724) K dL_isRun_703 (by decide) (fun u703 => absurd u703 (nI_nlt (a := t + 1) (b := wN (aZ A)) hwt (by omega))) (fun u703 => ?_)
                        refine g_iload K dL_isRun_706 rfl ?_
                        refine g_iload K dL_isRun_708 rfl ?_
                        refine g_isub K dL_isRun_710 ?_
                        refine g_aload_n K dL_isRun_711 rfl ?_
                        refine g_bipush K dL_isRun_712 kb_10 ?_
                        refine g_rdV K (rd hC (c_X6_count hC) (cn_s A 4 (by decide))) mw_X6_count ml_L_14 dL_isRun_714 (by rfl) rfl rfl (by decide) (by simp [Value.category]) ⟨by decide, by decide⟩ ⟨by decide, by decide⟩ ?_
                        clear hC
                        intro S714 hC
                        refine g_icmp_gt (tgt := 724) K dL_isRun_717 (by decide) (fun u717 => ?_) (fun u717 => ?_)
                        · have hst := st_no hw1 hwt hjx u717
                          refine g_iconst K dL_isRun_724 kc_0 ?_
                          refine g_icmp_ne (tgt := 790) K dL_isRun_725 (by decide) (fun u725 => absurd u725 (fun h => h hst)) (fun u725 => ?_)
                          refine g_aload_n K dL_isRun_728 rfl ?_
                          refine g_iload_n K dL_isRun_729 rfl ?_
                          refine g_iload_n K dL_isRun_730 rfl ?_
                          refine g_iload K dL_isRun_731 rfl ?_
                          refine g_iconst K dL_isRun_733 kc_0 ?_
                          refine g_rdV K (rd hC (c_X6_tick hC) ((congrArg (fun x => o_tick A (nI k) (nI v) (nI x) 0) hnn.symm).trans (tk_e hs hk hv1 hv9 0))) mw_X6_tick ml_L_33 dL_isRun_734 (by rfl) rfl rfl (by decide) (by simp [Value.category]) ⟨by decide, by decide⟩ ⟨by decide, by decide⟩ ?_
                          clear hC
                          intro S734 hC
                          refine g_iconst K dL_isRun_737 kc_m1 ?_
                          refine g_icmp_ne (tgt := 790) K dL_isRun_738 (by decide) (fun u738 => absurd u738 (by decide)) (fun u738 => ?_)
                          refine g_iload K dL_isRun_741 rfl ?_
                          refine g_if_ne (tgt := 775) K dL_isRun_743 (by decide) (fun u743 => ?_) (fun u743 => ?_)
                          · refine g_aload_n K dL_isRun_775 rfl ?_
                            refine g_iload_n K dL_isRun_776 rfl ?_
                            refine g_iload_n K dL_isRun_777 rfl ?_
                            refine g_rdfV K (rdf hC (c_X6_off hC) (hoff1 u743)) mw_X6_off ml_L_37 dL_isRun_778 (by rfl) rfl rfl (by decide) (by simp [Value.category]) ⟨by decide, by decide⟩ ⟨by decide, by decide⟩ ?_
                            clear hC
                            intro S778 hC
                            refine g_fconst2 K dL_isRun_781 ?_
                            refine g_fcmp K dL_isRun_782 ?_
                            refine g_if_ne (tgt := 790) K dL_isRun_783 (by decide) (fun u783 => absurd u783 (fun h => h sz_2)) (fun u783 => ?_)
                            refine g_iconst K dL_isRun_786 kc_1 ?_
                            refine g_goto (tgt := 791) K dL_isRun_787 (by decide) ?_
                            refine g_zret K dL_isRun_791 (by first | exact Or.inl rfl | exact Or.inr rfl | assumption) ⟨_, rfl, ?_⟩
                            exact ⟨rfl, hC⟩
                          · obtain ⟨ho, g, hg, rfl⟩ := hoff0 u743
                            have hfl := fn_lw hg (al_ok hq).2.1 (al_ok hq).2.2
                            refine g_aload_n K dL_isRun_746 rfl ?_
                            refine g_iload_n K dL_isRun_747 rfl ?_
                            refine g_iload_n K dL_isRun_748 rfl ?_
                            refine g_rdfV K (rdf hC (c_X6_off hC) ho) mw_X6_off ml_L_37 dL_isRun_749 (by rfl) rfl rfl (by decide) (by simp [Value.category]) ⟨by decide, by decide⟩ ⟨by decide, by decide⟩ ?_
                            clear hC
                            intro S749 hC
                            refine g_iload K dL_isRun_752 rfl ?_
                            refine g_i2f K dL_isRun_754 ?_
                            refine g_fmul K dL_isRun_755 (fn_vf hfl.1) ?_
                            refine g_iload K dL_isRun_756 rfl ?_
                            refine g_i2f K dL_isRun_758 ?_
                            refine g_fsub K dL_isRun_759 (fn_vf hfl.2.1) ?_
                            refine g_iload K dL_isRun_760 rfl ?_
                            refine g_i2f K dL_isRun_762 ?_
                            refine g_fadd K dL_isRun_763 (fn_vf hfl.2.2) ?_
                            refine g_callSpf K c_L_size mw_L_size ml_L_41 dL_isRun_764 (by rfl) rfl (by simp [Value.category]) ⟨by decide, by decide⟩ ⟨by decide, by decide⟩ (fun r764 S764 h764 => ?_)
                            obtain ⟨hr764, rfl⟩ := h764
                            have hfr := sz_fn hfl.2.2 hr764
                            refine g_fconst1 K dL_isRun_767 ?_
                            refine g_fcmp K dL_isRun_768 ?_
                            refine g_if_ge (tgt := 790) K dL_isRun_769 (by decide) (fun u769 => absurd u769 (sz_lt hfr)) (fun u769 => ?_)
                            refine g_goto (tgt := 786) K dL_isRun_772 (by decide) ?_
                            refine g_iconst K dL_isRun_786 kc_1 ?_
                            refine g_goto (tgt := 791) K dL_isRun_787 (by decide) ?_
                            refine g_zret K dL_isRun_791 (by first | exact Or.inl rfl | exact Or.inr rfl | assumption) ⟨_, rfl, ?_⟩
                            exact ⟨rfl, hC⟩
                        · have hst := st_yes hw1 hwt hjx u717
                          refine g_iconst K dL_isRun_720 kc_1 ?_
                          refine g_goto (tgt := 725) K dL_isRun_721 (by decide) ?_
                          refine g_icmp_ne (tgt := 790) K dL_isRun_725 (by decide) (fun u725 => absurd u725 (fun h => h hst)) (fun u725 => ?_)
                          refine g_aload_n K dL_isRun_728 rfl ?_
                          refine g_iload_n K dL_isRun_729 rfl ?_
                          refine g_iload_n K dL_isRun_730 rfl ?_
                          refine g_iload K dL_isRun_731 rfl ?_
                          refine g_iconst K dL_isRun_733 kc_0 ?_
                          refine g_rdV K (rd hC (c_X6_tick hC) ((congrArg (fun x => o_tick A (nI k) (nI v) (nI x) 0) hnn.symm).trans (tk_e hs hk hv1 hv9 0))) mw_X6_tick ml_L_33 dL_isRun_734 (by rfl) rfl rfl (by decide) (by simp [Value.category]) ⟨by decide, by decide⟩ ⟨by decide, by decide⟩ ?_
                          clear hC
                          intro S734 hC
                          refine g_iconst K dL_isRun_737 kc_m1 ?_
                          refine g_icmp_ne (tgt := 790) K dL_isRun_738 (by decide) (fun u738 => absurd u738 (by decide)) (fun u738 => ?_)
                          refine g_iload K dL_isRun_741 rfl ?_
                          refine g_if_ne (tgt := 775) K dL_isRun_743 (by decide) (fun u743 => ?_) (fun u743 => ?_)
                          · refine g_aload_n K dL_isRun_775 rfl ?_
                            refine g_iload_n K dL_isRun_776 rfl ?_
                            refine g_iload_n K dL_isRun_777 rfl ?_
                            refine g_rdfV K (rdf hC (c_X6_off hC) (hoff1 u743)) mw_X6_off ml_L_37 dL_isRun_778 (by rfl) rfl rfl (by decide) (by simp [Value.category]) ⟨by decide, by decide⟩ ⟨by decide, by decide⟩ ?_
                            clear hC
                            intro S778 hC
                            refine g_fconst2 K dL_isRun_781 ?_
                            refine g_fcmp K dL_isRun_782 ?_
                            refine g_if_ne (tgt := 790) K dL_isRun_783 (by decide) (fun u783 => absurd u783 (fun h => h sz_2)) (fun u783 => ?_)
                            refine g_iconst K dL_isRun_786 kc_1 ?_
                            refine g_goto (tgt := 791) K dL_isRun_787 (by decide) ?_
                            refine g_zret K dL_isRun_791 (by first | exact Or.inl rfl | exact Or.inr rfl | assumption) ⟨_, rfl, ?_⟩
                            exact ⟨rfl, hC⟩
                          · obtain ⟨ho, g, hg, rfl⟩ := hoff0 u743
                            have hfl := fn_lw hg (al_ok hq).2.1 (al_ok hq).2.2
                            refine g_aload_n K dL_isRun_746 rfl ?_
                            refine g_iload_n K dL_isRun_747 rfl ?_
                            refine g_iload_n K dL_isRun_748 rfl ?_
                            refine g_rdfV K (rdf hC (c_X6_off hC) ho) mw_X6_off ml_L_37 dL_isRun_749 (by rfl) rfl rfl (by decide) (by simp [Value.category]) ⟨by decide, by decide⟩ ⟨by decide, by decide⟩ ?_
                            clear hC
                            intro S749 hC
                            refine g_iload K dL_isRun_752 rfl ?_
                            refine g_i2f K dL_isRun_754 ?_
                            refine g_fmul K dL_isRun_755 (fn_vf hfl.1) ?_
                            refine g_iload K dL_isRun_756 rfl ?_
                            refine g_i2f K dL_isRun_758 ?_
                            refine g_fsub K dL_isRun_759 (fn_vf hfl.2.1) ?_
                            refine g_iload K dL_isRun_760 rfl ?_
                            refine g_i2f K dL_isRun_762 ?_
                            refine g_fadd K dL_isRun_763 (fn_vf hfl.2.2) ?_
                            refine g_callSpf K c_L_size mw_L_size ml_L_41 dL_isRun_764 (by rfl) rfl (by simp [Value.category]) ⟨by decide, by decide⟩ ⟨by decide, by decide⟩ (fun r764 S764 h764 => ?_)
                            obtain ⟨hr764, rfl⟩ := h764
                            have hfr := sz_fn hfl.2.2 hr764
                            refine g_fconst1 K dL_isRun_767 ?_
                            refine g_fcmp K dL_isRun_768 ?_
                            refine g_if_ge (tgt := 790) K dL_isRun_769 (by decide) (fun u769 => absurd u769 (sz_lt hfr)) (fun u769 => ?_)
                            refine g_goto (tgt := 786) K dL_isRun_772 (by decide) ?_
                            refine g_iconst K dL_isRun_786 kc_1 ?_
                            refine g_goto (tgt := 791) K dL_isRun_787 (by decide) ?_
                            refine g_zret K dL_isRun_791 (by first | exact Or.inl rfl | exact Or.inr rfl | assumption) ⟨_, rfl, ?_⟩
                            exact ⟨rfl, hC⟩
                    · have hx : j + 1 < wN (aZ A) := by
                        rw [nI_leI (by omega) (by omega)] at u621
                        omega
                      refine g_iload K dL_isRun_624 rfl ?_
                      refine g_iload K dL_isRun_626 rfl ?_
                      refine g_icmp_gt (tgt := 683) K dL_isRun_628 (by decide) (fun u628 => ?_) (fun u628 => ?_)
                      · have hy : t < j + 1 := by
                          rw [nI_ltI (by omega) (by omega)] at u628
                          exact u628
                        rcases Nat.lt_or_ge (t + 1) (wN (aZ A)) with hwt | hwt
                        · skip
                          refine g_iload K dL_isRun_683 rfl ?_
                          refine g_if_eq (tgt := 790) K dL_isRun_685 (by decide) (fun u685 => absurd u685 (by decide)) (fun u685 => ?_)
                          refine g_aload_n K dL_isRun_688 rfl ?_
                          refine g_iload_n K dL_isRun_689 rfl ?_
                          refine g_iload_n K dL_isRun_690 rfl ?_
                          refine g_iload K dL_isRun_691 rfl ?_
                          refine g_iconst K dL_isRun_693 kc_3 ?_
                          refine g_rdV K (rd hC (c_X6_tick hC) (tk_3 hs hk hv1 hv9 htn)) mw_X6_tick ml_L_33 dL_isRun_694 (by rfl) rfl rfl (by decide) (by simp [Value.category]) ⟨by decide, by decide⟩ ⟨by decide, by decide⟩ ?_
                          clear hC
                          intro S694 hC
                          refine g_iload K dL_isRun_697 rfl ?_
                          refine g_iconst K dL_isRun_699 kc_1 ?_
                          refine g_iadd K dL_isRun_700 ?_
                          refine g_nm (y := (nI (t + 1))) (nI_1 t) ?_
                          refine g_iload K dL_isRun_701 rfl ?_
                          refine g_icmp_lt (tgt := 724) K dL_isRun_703 (by decide) (fun u703 => ?_) (fun u703 => absurd (nI_lt (a := t + 1) hwt (by omega)) u703)
                          refine g_iconst K dL_isRun_724 kc_0 ?_
                          refine g_icmp_ne (tgt := 790) K dL_isRun_725 (by decide) (fun u725 => absurd u725 (fun h => h (st_out hwt))) (fun u725 => ?_)
                          refine g_aload_n K dL_isRun_728 rfl ?_
                          refine g_iload_n K dL_isRun_729 rfl ?_
                          refine g_iload_n K dL_isRun_730 rfl ?_
                          refine g_iload K dL_isRun_731 rfl ?_
                          refine g_iconst K dL_isRun_733 kc_0 ?_
                          refine g_rdV K (rd hC (c_X6_tick hC) ((congrArg (fun x => o_tick A (nI k) (nI v) (nI x) 0) hnn.symm).trans (tk_e hs hk hv1 hv9 0))) mw_X6_tick ml_L_33 dL_isRun_734 (by rfl) rfl rfl (by decide) (by simp [Value.category]) ⟨by decide, by decide⟩ ⟨by decide, by decide⟩ ?_
                          clear hC
                          intro S734 hC
                          refine g_iconst K dL_isRun_737 kc_m1 ?_
                          refine g_icmp_ne (tgt := 790) K dL_isRun_738 (by decide) (fun u738 => absurd u738 (by decide)) (fun u738 => ?_)
                          refine g_iload K dL_isRun_741 rfl ?_
                          refine g_if_ne (tgt := 775) K dL_isRun_743 (by decide) (fun u743 => ?_) (fun u743 => ?_)
                          · refine g_aload_n K dL_isRun_775 rfl ?_
                            refine g_iload_n K dL_isRun_776 rfl ?_
                            refine g_iload_n K dL_isRun_777 rfl ?_
                            refine g_rdfV K (rdf hC (c_X6_off hC) (hoff1 u743)) mw_X6_off ml_L_37 dL_isRun_778 (by rfl) rfl rfl (by decide) (by simp [Value.category]) ⟨by decide, by decide⟩ ⟨by decide, by decide⟩ ?_
                            clear hC
                            intro S778 hC
                            refine g_fconst2 K dL_isRun_781 ?_
                            refine g_fcmp K dL_isRun_782 ?_
                            refine g_if_ne (tgt := 790) K dL_isRun_783 (by decide) (fun u783 => absurd u783 (fun h => h sz_2)) (fun u783 => ?_)
                            refine g_iconst K dL_isRun_786 kc_1 ?_
                            refine g_goto (tgt := 791) K dL_isRun_787 (by decide) ?_
                            refine g_zret K dL_isRun_791 (by first | exact Or.inl rfl | exact Or.inr rfl | assumption) ⟨_, rfl, ?_⟩
                            exact ⟨rfl, hC⟩
                          · obtain ⟨ho, g, hg, rfl⟩ := hoff0 u743
                            have hfl := fn_lw hg (al_ok hq).2.1 (al_ok hq).2.2
                            refine g_aload_n K dL_isRun_746 rfl ?_
                            refine g_iload_n K dL_isRun_747 rfl ?_
                            refine g_iload_n K dL_isRun_748 rfl ?_
                            refine g_rdfV K (rdf hC (c_X6_off hC) ho) mw_X6_off ml_L_37 dL_isRun_749 (by rfl) rfl rfl (by decide) (by simp [Value.category]) ⟨by decide, by decide⟩ ⟨by decide, by decide⟩ ?_
                            clear hC
                            intro S749 hC
                            refine g_iload K dL_isRun_752 rfl ?_
                            refine g_i2f K dL_isRun_754 ?_
                            refine g_fmul K dL_isRun_755 (fn_vf hfl.1) ?_
                            refine g_iload K dL_isRun_756 rfl ?_
                            refine g_i2f K dL_isRun_758 ?_
                            refine g_fsub K dL_isRun_759 (fn_vf hfl.2.1) ?_
                            refine g_iload K dL_isRun_760 rfl ?_
                            refine g_i2f K dL_isRun_762 ?_
                            refine g_fadd K dL_isRun_763 (fn_vf hfl.2.2) ?_
                            refine g_callSpf K c_L_size mw_L_size ml_L_41 dL_isRun_764 (by rfl) rfl (by simp [Value.category]) ⟨by decide, by decide⟩ ⟨by decide, by decide⟩ (fun r764 S764 h764 => ?_)
                            obtain ⟨hr764, rfl⟩ := h764
                            have hfr := sz_fn hfl.2.2 hr764
                            refine g_fconst1 K dL_isRun_767 ?_
                            refine g_fcmp K dL_isRun_768 ?_
                            refine g_if_ge (tgt := 790) K dL_isRun_769 (by decide) (fun u769 => absurd u769 (sz_lt hfr)) (fun u769 => ?_)
                            refine g_goto (tgt := 786) K dL_isRun_772 (by decide) ?_
                            refine g_iconst K dL_isRun_786 kc_1 ?_
                            refine g_goto (tgt := 791) K dL_isRun_787 (by decide) ?_
                            refine g_zret K dL_isRun_791 (by first | exact Or.inl rfl | exact Or.inr rfl | assumption) ⟨_, rfl, ?_⟩
                            exact ⟨rfl, hC⟩
                        · have hjx : j = wN (aZ A) - 1 := by omega
                          refine g_iload K dL_isRun_683 rfl ?_
                          refine g_if_eq (tgt := 790) K dL_isRun_685 (by decide) (fun u685 => absurd u685 (by decide)) (fun u685 => ?_)
                          refine g_aload_n K dL_isRun_688 rfl ?_
                          refine g_iload_n K dL_isRun_689 rfl ?_
                          refine g_iload_n K dL_isRun_690 rfl ?_
                          refine g_iload K dL_isRun_691 rfl ?_
                          refine g_iconst K dL_isRun_693 kc_3 ?_
                          refine g_rdV K (rd hC (c_X6_tick hC) (tk_3 hs hk hv1 hv9 htn)) mw_X6_tick ml_L_33 dL_isRun_694 (by rfl) rfl rfl (by decide) (by simp [Value.category]) ⟨by decide, by decide⟩ ⟨by decide, by decide⟩ ?_
                          clear hC
                          intro S694 hC
                          refine g_iload K dL_isRun_697 rfl ?_
                          refine g_iconst K dL_isRun_699 kc_1 ?_
                          refine g_iadd K dL_isRun_700 ?_
                          refine g_nm (y := (nI (t + 1))) (nI_1 t) ?_
                          refine g_iload K dL_isRun_701 rfl ?_
                          refine g_icmp_lt (tgt := 724) K dL_isRun_703 (by decide) (fun u703 => absurd u703 (nI_nlt (a := t + 1) (b := wN (aZ A)) hwt (by omega))) (fun u703 => ?_)
                          refine g_iload K dL_isRun_706 rfl ?_
                          refine g_iload K dL_isRun_708 rfl ?_
                          refine g_isub K dL_isRun_710 ?_
                          refine g_aload_n K dL_isRun_711 rfl ?_
                          refine g_bipush K dL_isRun_712 kb_10 ?_
                          refine g_rdV K (rd hC (c_X6_count hC) (cn_s A 4 (by decide))) mw_X6_count ml_L_14 dL_isRun_714 (by rfl) rfl rfl (by decide) (by simp [Value.category]) ⟨by decide, by decide⟩ ⟨by decide, by decide⟩ ?_
                          clear hC
                          intro S714 hC
                          refine g_icmp_gt (tgt := 724) K dL_isRun_717 (by decide) (fun u717 => ?_) (fun u717 => ?_)
                          · have hst := st_no hw1 hwt hjx u717
                            refine g_iconst K dL_isRun_724 kc_0 ?_
                            refine g_icmp_ne (tgt := 790) K dL_isRun_725 (by decide) (fun u725 => absurd u725 (fun h => h hst)) (fun u725 => ?_)
                            refine g_aload_n K dL_isRun_728 rfl ?_
                            refine g_iload_n K dL_isRun_729 rfl ?_
                            refine g_iload_n K dL_isRun_730 rfl ?_
                            refine g_iload K dL_isRun_731 rfl ?_
                            refine g_iconst K dL_isRun_733 kc_0 ?_
                            refine g_rdV K (rd hC (c_X6_tick hC) ((congrArg (fun x => o_tick A (nI k) (nI v) (nI x) 0) hnn.symm).trans (tk_e hs hk hv1 hv9 0))) mw_X6_tick ml_L_33 dL_isRun_734 (by rfl) rfl rfl (by decide) (by simp [Value.category]) ⟨by decide, by decide⟩ ⟨by decide, by decide⟩ ?_
                            clear hC
                            intro S734 hC
                            refine g_iconst K dL_isRun_737 kc_m1 ?_
                            refine g_icmp_ne (tgt := 790) K dL_isRun_738 (by decide) (fun u738 => absurd u738 (by decide)) (fun u738 => ?_)
                            refine g_iload K dL_isRun_741 rfl ?_
                            refine g_if_ne (tgt := 775) K dL_isRun_743 (by decide) (fun u743 => ?_) (fun u743 => ?_)
                            · refine g_aload_n K dL_isRun_775 rfl ?_
                              refine g_iload_n K dL_isRun_776 rfl ?_
                              refine g_iload_n K dL_isRun_777 rfl ?_
                              refine g_rdfV K (rdf hC (c_X6_off hC) (hoff1 u743)) mw_X6_off ml_L_37 dL_isRun_778 (by rfl) rfl rfl (by decide) (by simp [Value.category]) ⟨by decide, by decide⟩ ⟨by decide, by decide⟩ ?_
                              clear hC
                              intro S778 hC
                              refine g_fconst2 K dL_isRun_781 ?_
                              refine g_fcmp K dL_isRun_782 ?_
                              refine g_if_ne (tgt := 790) K dL_isRun_783 (by decide) (fun u783 => absurd u783 (fun h => h sz_2)) (fun u783 => ?_)
                              refine g_iconst K dL_isRun_786 kc_1 ?_
                              refine g_goto (tgt := 791) K dL_isRun_787 (by decide) ?_
                              refine g_zret K dL_isRun_791 (by first | exact Or.inl rfl | exact Or.inr rfl | assumption) ⟨_, rfl, ?_⟩
                              exact ⟨rfl, hC⟩
                            · obtain ⟨ho, g, hg, rfl⟩ := hoff0 u743
                              have hfl := fn_lw hg (al_ok hq).2.1 (al_ok hq).2.2
                              refine g_aload_n K dL_isRun_746 rfl ?_
                              refine g_iload_n K dL_isRun_747 rfl ?_
                              refine g_iload_n K dL_isRun_748 rfl ?_
                              refine g_rdfV K (rdf hC (c_X6_off hC) ho) mw_X6_off ml_L_37 dL_isRun_749 (by rfl) rfl rfl (by decide) (by simp [Value.category]) ⟨by decide, by decide⟩ ⟨by decide, by decide⟩ ?_
                              clear hC
                              intro S749 hC
                              refine g_iload K dL_isRun_752 rfl ?_
                              refine g_i2f K dL_isRun_754 ?_
                              refine g_fmul K dL_isRun_755 (fn_vf hfl.1) ?_
                              refine g_iload K dL_isRun_756 rfl ?_
                              refine g_i2f K dL_isRun_758 ?_
                              refine g_fsub K dL_isRun_759 (fn_vf hfl.2.1) ?_
                              refine g_iload K dL_isRun_760 rfl ?_
                              refine g_i2f K dL_isRun_762 ?_
                              refine g_fadd K dL_isRun_763 (fn_vf hfl.2.2) ?_
                              refine g_callSpf K c_L_size mw_L_size ml_L_41 dL_isRun_764 (by rfl) rfl (by simp [Value.category]) ⟨by decide, by decide⟩ ⟨by decide, by decide⟩ (fun r764 S764 h764 => ?_)
                              obtain ⟨hr764, rfl⟩ := h764
                              have hfr := sz_fn hfl.2.2 hr764
                              refine g_fconst1 K dL_isRun_767 ?_
                              refine g_fcmp K dL_isRun_768 ?_
                              refine g_if_ge (tgt := 790) K dL_isRun_769 (by decide) (fun u769 => absurd u769 (sz_lt hfr)) (fun u769 => ?_)
                              refine g_goto (tgt := 786) K dL_isRun_772 (by decide) ?_
                              refine g_iconst K dL_isRun_786 kc_1 ?_
                              refine g_goto (tgt := 791) K dL_isRun_787 (by decide) ?_
                              refine g_zret K dL_isRun_791 (by first | exact Or.inl rfl | exact Or.inr rfl | assumption) ⟨_, rfl, ?_⟩
                              exact ⟨rfl, hC⟩
                          · have hst := st_yes hw1 hwt hjx u717
                            refine g_iconst K dL_isRun_720 kc_1 ?_
                            refine g_goto (tgt := 725) K dL_isRun_721 (by decide) ?_
                            refine g_icmp_ne (tgt := 790) K dL_isRun_725 (by decide) (fun u725 => absurd u725 (fun h => h hst)) (fun u725 => ?_)
                            refine g_aload_n K dL_isRun_728 rfl ?_
                            refine g_iload_n K dL_isRun_729 rfl ?_
                            refine g_iload_n K dL_isRun_730 rfl ?_
                            refine g_iload K dL_isRun_731 rfl ?_
                            refine g_iconst K dL_isRun_733 kc_0 ?_
                            refine g_rdV K (rd hC (c_X6_tick hC) ((congrArg (fun x => o_tick A (nI k) (nI v) (nI x) 0) hnn.symm).trans (tk_e hs hk hv1 hv9 0))) mw_X6_tick ml_L_33 dL_isRun_734 (by rfl) rfl rfl (by decide) (by simp [Value.category]) ⟨by decide, by decide⟩ ⟨by decide, by decide⟩ ?_
                            clear hC
                            intro S734 hC
                            refine g_iconst K dL_isRun_737 kc_m1 ?_
                            refine g_icmp_ne (tgt := 790) K dL_isRun_738 (by decide) (fun u738 => absurd u738 (by decide)) (fun u738 => ?_)
                            refine g_iload K dL_isRun_741 rfl ?_
                            refine g_if_ne (tgt := 775) K dL_isRun_743 (by decide) (fun u743 => ?_) (fun u743 => ?_)
                            · refine g_aload_n K dL_isRun_775 rfl ?_
                              refine g_iload_n K dL_isRun_776 rfl ?_
                              refine g_iload_n K dL_isRun_777 rfl ?_
                              refine g_rdfV K (rdf hC (c_X6_off hC) (hoff1 u743)) mw_X6_off ml_L_37 dL_isRun_778 (by rfl) rfl rfl (by decide) (by simp [Value.category]) ⟨by decide, by decide⟩ ⟨by decide, by decide⟩ ?_
                              clear hC
                              intro S778 hC
                              refine g_fconst2 K dL_isRun_781 ?_
                              refine g_fcmp K dL_isRun_782 ?_
                              refine g_if_ne (tgt := 790) K dL_isRun_783 (by decide) (fun u783 => absurd u783 (fun h => h sz_2)) (fun u783 => ?_)
                              refine g_iconst K dL_isRun_786 kc_1 ?_
                              refine g_goto (tgt := 791) K dL_isRun_787 (by decide) ?_
                              refine g_zret K dL_isRun_791 (by first | exact Or.inl rfl | exact Or.inr rfl | assumption) ⟨_, rfl, ?_⟩
                              exact ⟨rfl, hC⟩
                            · obtain ⟨ho, g, hg, rfl⟩ := hoff0 u743
                              have hfl := fn_lw hg (al_ok hq).2.1 (al_ok hq).2.2
                              refine g_aload_n K dL_isRun_746 rfl ?_
                              refine g_iload_n K dL_isRun_747 rfl ?_
                              refine g_iload_n K dL_isRun_748 rfl ?_
                              refine g_rdfV K (rdf hC (c_X6_off hC) ho) mw_X6_off ml_L_37 dL_isRun_749 (by rfl) rfl rfl (by decide) (by simp [Value.category]) ⟨by decide, by decide⟩ ⟨by decide, by decide⟩ ?_
                              clear hC
                              intro S749 hC
                              refine g_iload K dL_isRun_752 rfl ?_
                              refine g_i2f K dL_isRun_754 ?_
                              refine g_fmul K dL_isRun_755 (fn_vf hfl.1) ?_
                              refine g_iload K dL_isRun_756 rfl ?_
                              refine g_i2f K dL_isRun_758 ?_
                              refine g_fsub K dL_isRun_759 (fn_vf hfl.2.1) ?_
                              refine g_iload K dL_isRun_760 rfl ?_
                              refine g_i2f K dL_isRun_762 ?_
                              refine g_fadd K dL_isRun_763 (fn_vf hfl.2.2) ?_
                              refine g_callSpf K c_L_size mw_L_size ml_L_41 dL_isRun_764 (by rfl) rfl (by simp [Value.category]) ⟨by decide, by decide⟩ ⟨by decide, by decide⟩ (fun r764 S764 h764 => ?_)
                              obtain ⟨hr764, rfl⟩ := h764
                              have hfr := sz_fn hfl.2.2 hr764
                              refine g_fconst1 K dL_isRun_767 ?_
                              refine g_fcmp K dL_isRun_768 ?_
                              refine g_if_ge (tgt := 790) K dL_isRun_769 (by decide) (fun u769 => absurd u769 (sz_lt hfr)) (fun u769 => ?_)
                              refine g_goto (tgt := 786) K dL_isRun_772 (by decide) ?_
                              refine g_iconst K dL_isRun_786 kc_1 ?_
                              refine g_goto (tgt := 791) K dL_isRun_787 (by decide) ?_
                              refine g_zret K dL_isRun_791 (by first | exact Or.inl rfl | exact Or.inr rfl | assumption) ⟨_, rfl, ?_⟩
                              exact ⟨rfl, hC⟩
                      · have hy : j + 1 ≤ t := by
                          rw [nI_ltI (by omega) (by omega)] at u628
                          omega
                        refine g_aload_n K dL_isRun_631 rfl ?_
                        refine g_iload_n K dL_isRun_632 rfl ?_
                        refine g_iload_n K dL_isRun_633 rfl ?_
                        refine g_iload K dL_isRun_634 rfl ?_
                        refine g_iload K dL_isRun_636 rfl ?_
                        refine g_isub K dL_isRun_638 ?_
                        refine g_iconst K dL_isRun_639 kc_2 ?_
                        refine g_rdV K (rd hC (c_X6_tick hC) ((congrArg (fun x => o_tick A (nI k) (nI v) x 2) (pk_sub hy)).trans (tk_2 hs hk hv1 hv9 (Nat.lt_of_le_of_lt (Nat.sub_le _ _) htn)))) mw_X6_tick ml_L_33 dL_isRun_640 (by rfl) rfl rfl (by decide) (by simp [Value.category]) ⟨by decide, by decide⟩ ⟨by decide, by decide⟩ ?_
                        clear hC
                        intro S640 hC
                        refine g_istore (ls2 := [_, _, _, _, _, _, _, _, _, _, _, _, _, _, _, _, _, _, _, _, _, _, _, _, _, _, _, some (.int _)]) K dL_isRun_643 (by decide) rfl ?_
                        refine g_iload K dL_isRun_645 rfl ?_
                        refine g_iload K dL_isRun_647 rfl ?_
                        refine g_icmp_le (tgt := 657) K dL_isRun_649 (by decide) (fun u649 => ?_) (fun u649 => ?_)
                        · refine g_iload K dL_isRun_657 rfl ?_
                          refine g_nm (y := (bmx (rdQ (aZ A) (qOf (aZ A) k) (nI v)) t (j + 1))) (bx_0 u649) ?_
                          refine g_istore (ls2 := [_, _, _, _, _, _, _, _, _, _, _, _, _, _, _, _, _, _, _, _, _, _, _, _, some (.int _), _, _, _]) K dL_isRun_659 (by decide) rfl ?_
                          refine g_iload K dL_isRun_661 rfl ?_
                          refine g_iload K dL_isRun_663 rfl ?_
                          refine g_icmp_ge (tgt := 673) K dL_isRun_665 (by decide) (fun u665 => ?_) (fun u665 => ?_)
                          · refine g_iload K dL_isRun_673 rfl ?_
                            refine g_nm (y := (bmn (rdQ (aZ A) (qOf (aZ A) k) (nI v)) t (j + 1))) (bn_0 u665) ?_
                            refine g_istore (ls2 := [_, _, _, _, _, _, _, _, _, _, _, _, _, _, _, _, _, _, _, _, _, _, _, _, _, some (.int _), _, _]) K dL_isRun_675 (by decide) rfl ?_
                            refine g_iinc (ls2 := [_, _, _, _, _, _, _, _, _, _, _, _, _, _, _, _, _, _, _, _, _, _, _, _, _, _, some (.int _), _]) K dL_isRun_677 rfl kc_1 rfl ?_
                            refine g_goto (tgt := 617) K dL_isRun_680 (by decide) ?_
                            refine g_drop (ls2 := [_, _, _, _, _, _, _, _, _, _, _, _, _, _, _, _, _, _, _, _, _, _, _, _, _, _, _, none]) 27 rfl ?_
                            rw [nI_1]
                            exact ih (j + 1) _ (by omega) (by omega) (by omega) hC
                          · refine g_iload K dL_isRun_668 rfl ?_
                            refine g_nm (y := (bmn (rdQ (aZ A) (qOf (aZ A) k) (nI v)) t (j + 1))) (bn_1 u665) ?_
                            refine g_goto (tgt := 675) K dL_isRun_670 (by decide) ?_
                            refine g_istore (ls2 := [_, _, _, _, _, _, _, _, _, _, _, _, _, _, _, _, _, _, _, _, _, _, _, _, _, some (.int _), _, _]) K dL_isRun_675 (by decide) rfl ?_
                            refine g_iinc (ls2 := [_, _, _, _, _, _, _, _, _, _, _, _, _, _, _, _, _, _, _, _, _, _, _, _, _, _, some (.int _), _]) K dL_isRun_677 rfl kc_1 rfl ?_
                            refine g_goto (tgt := 617) K dL_isRun_680 (by decide) ?_
                            refine g_drop (ls2 := [_, _, _, _, _, _, _, _, _, _, _, _, _, _, _, _, _, _, _, _, _, _, _, _, _, _, _, none]) 27 rfl ?_
                            rw [nI_1]
                            exact ih (j + 1) _ (by omega) (by omega) (by omega) hC
                        · refine g_iload K dL_isRun_652 rfl ?_
                          refine g_nm (y := (bmx (rdQ (aZ A) (qOf (aZ A) k) (nI v)) t (j + 1))) (bx_1 u649) ?_
                          refine g_goto (tgt := 659) K dL_isRun_654 (by decide) ?_
                          refine g_istore (ls2 := [_, _, _, _, _, _, _, _, _, _, _, _, _, _, _, _, _, _, _, _, _, _, _, _, some (.int _), _, _, _]) K dL_isRun_659 (by decide) rfl ?_
                          refine g_iload K dL_isRun_661 rfl ?_
                          refine g_iload K dL_isRun_663 rfl ?_
                          refine g_icmp_ge (tgt := 673) K dL_isRun_665 (by decide) (fun u665 => ?_) (fun u665 => ?_)
                          · refine g_iload K dL_isRun_673 rfl ?_
                            refine g_nm (y := (bmn (rdQ (aZ A) (qOf (aZ A) k) (nI v)) t (j + 1))) (bn_0 u665) ?_
                            refine g_istore (ls2 := [_, _, _, _, _, _, _, _, _, _, _, _, _, _, _, _, _, _, _, _, _, _, _, _, _, some (.int _), _, _]) K dL_isRun_675 (by decide) rfl ?_
                            refine g_iinc (ls2 := [_, _, _, _, _, _, _, _, _, _, _, _, _, _, _, _, _, _, _, _, _, _, _, _, _, _, some (.int _), _]) K dL_isRun_677 rfl kc_1 rfl ?_
                            refine g_goto (tgt := 617) K dL_isRun_680 (by decide) ?_
                            refine g_drop (ls2 := [_, _, _, _, _, _, _, _, _, _, _, _, _, _, _, _, _, _, _, _, _, _, _, _, _, _, _, none]) 27 rfl ?_
                            rw [nI_1]
                            exact ih (j + 1) _ (by omega) (by omega) (by omega) hC
                          · refine g_iload K dL_isRun_668 rfl ?_
                            refine g_nm (y := (bmn (rdQ (aZ A) (qOf (aZ A) k) (nI v)) t (j + 1))) (bn_1 u665) ?_
                            refine g_goto (tgt := 675) K dL_isRun_670 (by decide) ?_
                            refine g_istore (ls2 := [_, _, _, _, _, _, _, _, _, _, _, _, _, _, _, _, _, _, _, _, _, _, _, _, _, some (.int _), _, _]) K dL_isRun_675 (by decide) rfl ?_
                            refine g_iinc (ls2 := [_, _, _, _, _, _, _, _, _, _, _, _, _, _, _, _, _, _, _, _, _, _, _, _, _, _, some (.int _), _]) K dL_isRun_677 rfl kc_1 rfl ?_
                            refine g_goto (tgt := 617) K dL_isRun_680 (by decide) ?_
                            refine g_drop (ls2 := [_, _, _, _, _, _, _, _, _, _, _, _, _, _, _, _, _, _, _, _, _, _, _, _, _, _, _, none]) 27 rfl ?_
                            rw [nI_1]
                            exact ih (j + 1) _ (by omega) (by omega) (by omega) hC
                exact l617 (t + 2) 0 _ (by omega) (by omega) hw1 hC
              refine g_aload_n K dL_isRun_545 rfl ?_
              refine g_iload_n K dL_isRun_546 rfl ?_
              refine g_iload_n K dL_isRun_547 rfl ?_
              refine g_iload K dL_isRun_548 rfl ?_
              refine g_iconst K dL_isRun_550 kc_2 ?_
              refine g_rdV K (rd hC (c_X6_tick hC) (tk_2 hs hk hv1 hv9 htn)) mw_X6_tick ml_L_33 dL_isRun_551 (by rfl) rfl rfl (by decide) (by simp [Value.category]) ⟨by decide, by decide⟩ ⟨by decide, by decide⟩ ?_
              clear hC
              intro S551 hC
              refine g_iload K dL_isRun_554 rfl ?_
              refine g_if_ge (tgt := 563) K dL_isRun_556 (by decide) (fun u556 => ?_) (fun u556 => ?_)
              · have hdd := du_t hdu u556
                refine g_iload K dL_isRun_563 rfl ?_
                refine g_icmp_ne (tgt := 588) K dL_isRun_565 (by decide) (fun u565 => absurd u565 (fun h => h hdd)) (fun u565 => ?_)
                refine g_iload K dL_isRun_568 rfl ?_
                refine g_iload K dL_isRun_570 rfl ?_
                refine g_if_le (tgt := 579) K dL_isRun_572 (by decide) (fun u572 => ?_) (fun u572 => ?_)
                · have hgg := i_nlt hgl2
                  refine g_bipush K dL_isRun_579 kb_m5 ?_
                  refine g_icmp_lt (tgt := 588) K dL_isRun_581 (by decide) (fun u581 => absurd u581 hgg) (fun u581 => ?_)
                  refine g_iconst K dL_isRun_584 kc_1 ?_
                  refine g_goto (tgt := 589) K dL_isRun_585 (by decide) ?_
                  refine g_istore (ls2 := [_, _, _, _, _, _, _, _, _, _, _, _, _, some (.int _), _, _, _, _, _, _, _, _, _, _, _, _, _, _]) K dL_isRun_589 (by decide) rfl ?_
                  refine g_drop (ls2 := [_, _, _, _, _, _, _, _, _, _, _, _, _, _, _, _, _, _, none, _, _, _, _, _, _, _, _, _]) 18 rfl ?_
                  refine g_drop (ls2 := [_, _, _, _, _, _, _, _, _, _, _, _, _, _, _, _, _, _, _, none, _, _, _, _, _, _, _, _]) 19 rfl ?_
                  refine g_drop (ls2 := [_, _, _, _, _, _, _, _, _, _, _, _, _, _, _, _, _, _, _, _, none, _, _, _, _, _, _, _]) 20 rfl ?_
                  refine g_drop (ls2 := [_, _, _, _, _, _, _, _, _, _, _, _, _, _, _, _, _, _, _, _, _, _, none, _, _, _, _, _]) 22 rfl ?_
                  exact k591 _ hC
                · have hgg := i_nlt (hgl1 u572)
                  refine g_iconst K dL_isRun_575 kc_0 ?_
                  refine g_goto (tgt := 581) K dL_isRun_576 (by decide) ?_
                  refine g_icmp_lt (tgt := 588) K dL_isRun_581 (by decide) (fun u581 => absurd u581 hgg) (fun u581 => ?_)
                  refine g_iconst K dL_isRun_584 kc_1 ?_
                  refine g_goto (tgt := 589) K dL_isRun_585 (by decide) ?_
                  refine g_istore (ls2 := [_, _, _, _, _, _, _, _, _, _, _, _, _, some (.int _), _, _, _, _, _, _, _, _, _, _, _, _, _, _]) K dL_isRun_589 (by decide) rfl ?_
                  refine g_drop (ls2 := [_, _, _, _, _, _, _, _, _, _, _, _, _, _, _, _, _, _, none, _, _, _, _, _, _, _, _, _]) 18 rfl ?_
                  refine g_drop (ls2 := [_, _, _, _, _, _, _, _, _, _, _, _, _, _, _, _, _, _, _, none, _, _, _, _, _, _, _, _]) 19 rfl ?_
                  refine g_drop (ls2 := [_, _, _, _, _, _, _, _, _, _, _, _, _, _, _, _, _, _, _, _, none, _, _, _, _, _, _, _]) 20 rfl ?_
                  refine g_drop (ls2 := [_, _, _, _, _, _, _, _, _, _, _, _, _, _, _, _, _, _, _, _, _, _, none, _, _, _, _, _]) 22 rfl ?_
                  exact k591 _ hC
              · have hdd := du_f hdu u556
                refine g_iconst K dL_isRun_559 kc_0 ?_
                refine g_goto (tgt := 565) K dL_isRun_560 (by decide) ?_
                refine g_icmp_ne (tgt := 588) K dL_isRun_565 (by decide) (fun u565 => absurd u565 (fun h => h hdd)) (fun u565 => ?_)
                refine g_iload K dL_isRun_568 rfl ?_
                refine g_iload K dL_isRun_570 rfl ?_
                refine g_if_le (tgt := 579) K dL_isRun_572 (by decide) (fun u572 => ?_) (fun u572 => ?_)
                · have hgg := i_nlt hgl2
                  refine g_bipush K dL_isRun_579 kb_m5 ?_
                  refine g_icmp_lt (tgt := 588) K dL_isRun_581 (by decide) (fun u581 => absurd u581 hgg) (fun u581 => ?_)
                  refine g_iconst K dL_isRun_584 kc_1 ?_
                  refine g_goto (tgt := 589) K dL_isRun_585 (by decide) ?_
                  refine g_istore (ls2 := [_, _, _, _, _, _, _, _, _, _, _, _, _, some (.int _), _, _, _, _, _, _, _, _, _, _, _, _, _, _]) K dL_isRun_589 (by decide) rfl ?_
                  refine g_drop (ls2 := [_, _, _, _, _, _, _, _, _, _, _, _, _, _, _, _, _, _, none, _, _, _, _, _, _, _, _, _]) 18 rfl ?_
                  refine g_drop (ls2 := [_, _, _, _, _, _, _, _, _, _, _, _, _, _, _, _, _, _, _, none, _, _, _, _, _, _, _, _]) 19 rfl ?_
                  refine g_drop (ls2 := [_, _, _, _, _, _, _, _, _, _, _, _, _, _, _, _, _, _, _, _, none, _, _, _, _, _, _, _]) 20 rfl ?_
                  refine g_drop (ls2 := [_, _, _, _, _, _, _, _, _, _, _, _, _, _, _, _, _, _, _, _, _, _, none, _, _, _, _, _]) 22 rfl ?_
                  exact k591 _ hC
                · have hgg := i_nlt (hgl1 u572)
                  refine g_iconst K dL_isRun_575 kc_0 ?_
                  refine g_goto (tgt := 581) K dL_isRun_576 (by decide) ?_
                  refine g_icmp_lt (tgt := 588) K dL_isRun_581 (by decide) (fun u581 => absurd u581 hgg) (fun u581 => ?_)
                  refine g_iconst K dL_isRun_584 kc_1 ?_
                  refine g_goto (tgt := 589) K dL_isRun_585 (by decide) ?_
                  refine g_istore (ls2 := [_, _, _, _, _, _, _, _, _, _, _, _, _, some (.int _), _, _, _, _, _, _, _, _, _, _, _, _, _, _]) K dL_isRun_589 (by decide) rfl ?_
                  refine g_drop (ls2 := [_, _, _, _, _, _, _, _, _, _, _, _, _, _, _, _, _, _, none, _, _, _, _, _, _, _, _, _]) 18 rfl ?_
                  refine g_drop (ls2 := [_, _, _, _, _, _, _, _, _, _, _, _, _, _, _, _, _, _, _, none, _, _, _, _, _, _, _, _]) 19 rfl ?_
                  refine g_drop (ls2 := [_, _, _, _, _, _, _, _, _, _, _, _, _, _, _, _, _, _, _, _, none, _, _, _, _, _, _, _]) 20 rfl ?_
                  refine g_drop (ls2 := [_, _, _, _, _, _, _, _, _, _, _, _, _, _, _, _, _, _, _, _, _, _, none, _, _, _, _, _]) 22 rfl ?_
                  exact k591 _ hC
            rcases (show t % 4 = 0 ∨ t % 4 = 2 ∨ t % 4 = 1 ∨ t % 4 = 3 by omega) with h4x | h4x | h4x | h4x
            · have h4 := h4x
              refine g_iload K dL_isRun_459 rfl ?_
              refine g_iload K dL_isRun_461 rfl ?_
              refine g_iconst K dL_isRun_463 kc_4 ?_
              refine g_irem K dL_isRun_464 (by first | assumption | decide) ?_
              refine g_nm (y := 0) ((show nI t - nI t / 4 * 4 = nI (t % 4) from pk_rem (d := 4) (by omega) (by decide) (by decide)).trans (by rw [h4x]; rfl)) ?_
              refine g_if_ne (tgt := 473) K dL_isRun_465 (by decide) (fun u465 => absurd u465 (by decide)) (fun u465 => ?_)
              refine g_iload K dL_isRun_468 rfl ?_
              refine g_goto (tgt := 488) K dL_isRun_470 (by decide) ?_
              refine g_iadd K dL_isRun_488 ?_
              refine g_istore (ls2 := [_, _, _, _, _, _, _, _, _, _, _, _, _, _, _, _, _, _, _, _, _, _, some (.int _), _, _, _, _, _]) K dL_isRun_489 (by decide) rfl ?_
              refine g_drop (ls2 := [_, _, _, _, _, _, _, _, _, _, _, _, _, _, _, _, _, _, _, _, _, none, _, _, _, _, _, _]) 21 rfl ?_
              exact k491 _ _ hC (du_0 hs.1 hq h4)
            · have h4 := h4x
              refine g_iload K dL_isRun_459 rfl ?_
              refine g_iload K dL_isRun_461 rfl ?_
              refine g_iconst K dL_isRun_463 kc_4 ?_
              refine g_irem K dL_isRun_464 (by first | assumption | decide) ?_
              refine g_nm (y := 2) ((show nI t - nI t / 4 * 4 = nI (t % 4) from pk_rem (d := 4) (by omega) (by decide) (by decide)).trans (by rw [h4x]; rfl)) ?_
              refine g_if_ne (tgt := 473) K dL_isRun_465 (by decide) (fun u465 => ?_) (fun u465 => absurd u465 (by decide))
              refine g_iload K dL_isRun_473 rfl ?_
              refine g_iconst K dL_isRun_475 kc_4 ?_
              refine g_irem K dL_isRun_476 (by first | assumption | decide) ?_
              refine g_nm (y := 2) ((show nI t - nI t / 4 * 4 = nI (t % 4) from pk_rem (d := 4) (by omega) (by decide) (by decide)).trans (by rw [h4x]; rfl)) ?_
              refine g_iconst K dL_isRun_477 kc_2 ?_
              refine g_icmp_ne (tgt := 487) K dL_isRun_478 (by decide) (fun u478 => absurd u478 (by decide)) (fun u478 => ?_)
              refine g_iload K dL_isRun_481 rfl ?_
              refine g_ineg K dL_isRun_483 ?_
              refine g_goto (tgt := 488) K dL_isRun_484 (by decide) ?_
              refine g_iadd K dL_isRun_488 ?_
              refine g_istore (ls2 := [_, _, _, _, _, _, _, _, _, _, _, _, _, _, _, _, _, _, _, _, _, _, some (.int _), _, _, _, _, _]) K dL_isRun_489 (by decide) rfl ?_
              refine g_drop (ls2 := [_, _, _, _, _, _, _, _, _, _, _, _, _, _, _, _, _, _, _, _, _, none, _, _, _, _, _, _]) 21 rfl ?_
              exact k491 _ _ hC (du_2 hs.1 hq h4)
            · have h4 : t % 4 = 1 ∨ t % 4 = 3 := Or.inl h4x
              refine g_iload K dL_isRun_459 rfl ?_
              refine g_iload K dL_isRun_461 rfl ?_
              refine g_iconst K dL_isRun_463 kc_4 ?_
              refine g_irem K dL_isRun_464 (by first | assumption | decide) ?_
              refine g_nm (y := 1) ((show nI t - nI t / 4 * 4 = nI (t % 4) from pk_rem (d := 4) (by omega) (by decide) (by decide)).trans (by rw [h4x]; rfl)) ?_
              refine g_if_ne (tgt := 473) K dL_isRun_465 (by decide) (fun u465 => ?_) (fun u465 => absurd u465 (by decide))
              refine g_iload K dL_isRun_473 rfl ?_
              refine g_iconst K dL_isRun_475 kc_4 ?_
              refine g_irem K dL_isRun_476 (by first | assumption | decide) ?_
              refine g_nm (y := 1) ((show nI t - nI t / 4 * 4 = nI (t % 4) from pk_rem (d := 4) (by omega) (by decide) (by decide)).trans (by rw [h4x]; rfl)) ?_
              refine g_iconst K dL_isRun_477 kc_2 ?_
              refine g_icmp_ne (tgt := 487) K dL_isRun_478 (by decide) (fun u478 => ?_) (fun u478 => absurd u478 (by decide))
              refine g_iconst K dL_isRun_487 kc_0 ?_
              refine g_iadd K dL_isRun_488 ?_
              refine g_istore (ls2 := [_, _, _, _, _, _, _, _, _, _, _, _, _, _, _, _, _, _, _, _, _, _, some (.int _), _, _, _, _, _]) K dL_isRun_489 (by decide) rfl ?_
              refine g_drop (ls2 := [_, _, _, _, _, _, _, _, _, _, _, _, _, _, _, _, _, _, _, _, _, none, _, _, _, _, _, _]) 21 rfl ?_
              exact k491 _ _ hC (du_1 hs.1 hq h4)
            · have h4 : t % 4 = 1 ∨ t % 4 = 3 := Or.inr h4x
              refine g_iload K dL_isRun_459 rfl ?_
              refine g_iload K dL_isRun_461 rfl ?_
              refine g_iconst K dL_isRun_463 kc_4 ?_
              refine g_irem K dL_isRun_464 (by first | assumption | decide) ?_
              refine g_nm (y := 3) ((show nI t - nI t / 4 * 4 = nI (t % 4) from pk_rem (d := 4) (by omega) (by decide) (by decide)).trans (by rw [h4x]; rfl)) ?_
              refine g_if_ne (tgt := 473) K dL_isRun_465 (by decide) (fun u465 => ?_) (fun u465 => absurd u465 (by decide))
              refine g_iload K dL_isRun_473 rfl ?_
              refine g_iconst K dL_isRun_475 kc_4 ?_
              refine g_irem K dL_isRun_476 (by first | assumption | decide) ?_
              refine g_nm (y := 3) ((show nI t - nI t / 4 * 4 = nI (t % 4) from pk_rem (d := 4) (by omega) (by decide) (by decide)).trans (by rw [h4x]; rfl)) ?_
              refine g_iconst K dL_isRun_477 kc_2 ?_
              refine g_icmp_ne (tgt := 487) K dL_isRun_478 (by decide) (fun u478 => ?_) (fun u478 => absurd u478 (by decide))
              refine g_iconst K dL_isRun_487 kc_0 ?_
              refine g_iadd K dL_isRun_488 ?_
              refine g_istore (ls2 := [_, _, _, _, _, _, _, _, _, _, _, _, _, _, _, _, _, _, _, _, _, _, some (.int _), _, _, _, _, _]) K dL_isRun_489 (by decide) rfl ?_
              refine g_drop (ls2 := [_, _, _, _, _, _, _, _, _, _, _, _, _, _, _, _, _, _, _, _, _, none, _, _, _, _, _, _]) 21 rfl ?_
              exact k491 _ _ hC (du_1 hs.1 hq h4)
          · have haN : a < N := by
              rw [nI_leI (by omega) (by omega)] at u399
              omega
            refine g_iload K dL_isRun_402 rfl ?_
            refine g_aload_n K dL_isRun_404 rfl ?_
            refine g_iload_n K dL_isRun_405 rfl ?_
            refine g_iload K dL_isRun_406 rfl ?_
            refine g_iconst K dL_isRun_408 kc_1 ?_
            refine g_rdV K (rd hC (c_X6_axleOf hC) (ao_1 hs hk hq haN)) mw_X6_axleOf ml_L_24 dL_isRun_409 (by rfl) rfl rfl (by decide) (by simp [Value.category]) ⟨by decide, by decide⟩ ⟨by decide, by decide⟩ ?_
            clear hC
            intro S409 hC
            refine g_iadd K dL_isRun_412 ?_
            refine g_nm (y := (sumF (dQ (qOf (aZ A) k)) (a + 1))) rfl ?_
            refine g_istore (ls2 := [_, _, _, _, _, _, _, _, _, _, _, _, _, _, _, _, _, _, _, _, _, some (.int _), _, _, _, _, _, _]) K dL_isRun_413 (by decide) rfl ?_
            refine g_iload_n K dL_isRun_415 rfl ?_
            refine g_iload K dL_isRun_416 rfl ?_
            refine g_imul K dL_isRun_418 ?_
            refine g_iload K dL_isRun_419 rfl ?_
            refine g_isub K dL_isRun_421 ?_
            refine g_istore (ls2 := [_, _, _, _, _, _, _, _, _, _, _, _, _, _, _, _, _, _, _, _, _, _, _, some (.int _), _, _, _, _]) K dL_isRun_422 (by decide) rfl ?_
            refine g_iload K dL_isRun_424 rfl ?_
            refine g_iload K dL_isRun_426 rfl ?_
            refine g_if_lt (tgt := 449) K dL_isRun_428 (by decide) (fun u428 => ?_) (fun u428 => ?_)
            · have hon := on_neg (z := aZ A) (q := (qOf (aZ A) k)) (N := N) (a := a) (t := t) (s := nI v) u428
              refine g_iconst K dL_isRun_449 kc_0 ?_
              refine g_iadd K dL_isRun_450 ?_
              refine g_nm (y := (nI (sumN (onN (aZ A) (qOf (aZ A) k) N (nI v) t) (a + 1)))) hon ?_
              refine g_istore (ls2 := [_, _, _, _, _, _, _, _, _, _, _, _, _, _, _, _, _, _, _, _, some (.int _), _, _, _, _, _, _, _]) K dL_isRun_451 (by decide) rfl ?_
              refine g_iinc (ls2 := [_, _, _, _, _, _, _, _, _, _, _, _, _, _, _, _, _, _, _, _, _, _, some (.int _), _, _, _, _, _]) K dL_isRun_453 rfl kc_1 rfl ?_
              refine g_goto (tgt := 391) K dL_isRun_456 (by decide) ?_
              refine g_drop (ls2 := [_, _, _, _, _, _, _, _, _, _, _, _, _, _, _, _, _, _, _, _, _, _, _, none, _, _, _, _]) 23 rfl ?_
              rw [nI_1]
              exact ih (a + 1) _ (by omega) (by omega) hC
            · refine g_iload K dL_isRun_431 rfl ?_
              refine g_iload K dL_isRun_433 rfl ?_
              refine g_icmp_ge (tgt := 449) K dL_isRun_435 (by decide) (fun u435 => ?_) (fun u435 => ?_)
              · have hon := on_out (z := aZ A) (q := (qOf (aZ A) k)) (N := N) (a := a) (t := t) (s := nI v) u435
                refine g_iconst K dL_isRun_449 kc_0 ?_
                refine g_iadd K dL_isRun_450 ?_
                refine g_nm (y := (nI (sumN (onN (aZ A) (qOf (aZ A) k) N (nI v) t) (a + 1)))) hon ?_
                refine g_istore (ls2 := [_, _, _, _, _, _, _, _, _, _, _, _, _, _, _, _, _, _, _, _, some (.int _), _, _, _, _, _, _, _]) K dL_isRun_451 (by decide) rfl ?_
                refine g_iinc (ls2 := [_, _, _, _, _, _, _, _, _, _, _, _, _, _, _, _, _, _, _, _, _, _, some (.int _), _, _, _, _, _]) K dL_isRun_453 rfl kc_1 rfl ?_
                refine g_goto (tgt := 391) K dL_isRun_456 (by decide) ?_
                refine g_drop (ls2 := [_, _, _, _, _, _, _, _, _, _, _, _, _, _, _, _, _, _, _, _, _, _, _, none, _, _, _, _]) 23 rfl ?_
                rw [nI_1]
                exact ih (a + 1) _ (by omega) (by omega) hC
              · have hon := on_in (z := aZ A) (q := (qOf (aZ A) k)) (N := N) (a := a) (t := t) (s := nI v) u428 u435
                refine g_aload_n K dL_isRun_438 rfl ?_
                refine g_iload_n K dL_isRun_439 rfl ?_
                refine g_iload K dL_isRun_440 rfl ?_
                refine g_iconst K dL_isRun_442 kc_3 ?_
                refine g_rdV K (rd hC (c_X6_axleOf hC) (ao_3 hs hk hq haN)) mw_X6_axleOf ml_L_24 dL_isRun_443 (by rfl) rfl rfl (by decide) (by simp [Value.category]) ⟨by decide, by decide⟩ ⟨by decide, by decide⟩ ?_
                clear hC
                intro S443 hC
                refine g_goto (tgt := 450) K dL_isRun_446 (by decide) ?_
                refine g_iadd K dL_isRun_450 ?_
                refine g_nm (y := (nI (sumN (onN (aZ A) (qOf (aZ A) k) N (nI v) t) (a + 1)))) hon ?_
                refine g_istore (ls2 := [_, _, _, _, _, _, _, _, _, _, _, _, _, _, _, _, _, _, _, _, some (.int _), _, _, _, _, _, _, _]) K dL_isRun_451 (by decide) rfl ?_
                refine g_iinc (ls2 := [_, _, _, _, _, _, _, _, _, _, _, _, _, _, _, _, _, _, _, _, _, _, some (.int _), _, _, _, _, _]) K dL_isRun_453 rfl kc_1 rfl ?_
                refine g_goto (tgt := 391) K dL_isRun_456 (by decide) ?_
                refine g_drop (ls2 := [_, _, _, _, _, _, _, _, _, _, _, _, _, _, _, _, _, _, _, _, _, _, _, none, _, _, _, _]) 23 rfl ?_
                rw [nI_1]
                exact ih (a + 1) _ (by omega) (by omega) hC
      exact l391 (N + 1) 0 _ (by omega) (by omega) hC
    rcases Nat.eq_zero_or_pos t with ht0 | ht0
    · skip
      refine g_iload K dL_isRun_316 rfl ?_
      refine g_if_ne (tgt := 325) K dL_isRun_318 (by decide) (fun u318 => absurd u318 (fun h => h (by rw [ht0]; rfl))) (fun u318 => ?_)
      refine g_iconst K dL_isRun_321 kc_0 ?_
      refine g_goto (tgt := 336) K dL_isRun_322 (by decide) ?_
      refine g_istore (ls2 := [_, _, _, _, _, _, _, _, _, _, _, _, _, _, _, _, _, some (.int _), _, _, _, _, _, _, _, _, _, _]) K dL_isRun_336 (by decide) rfl ?_
      refine g_iload K dL_isRun_338 rfl ?_
      refine g_if_ne (tgt := 347) K dL_isRun_340 (by decide) (fun u340 => absurd u340 (fun h => h (by rw [ht0]; rfl))) (fun u340 => ?_)
      refine g_iconst K dL_isRun_343 kc_0 ?_
      refine g_goto (tgt := 358) K dL_isRun_344 (by decide) ?_
      refine g_istore (ls2 := [_, _, _, _, _, _, _, _, _, _, _, _, _, _, _, _, _, _, some (.int _), _, _, _, _, _, _, _, _, _]) K dL_isRun_358 (by decide) rfl ?_
      refine g_iload K dL_isRun_360 rfl ?_
      refine g_iload K dL_isRun_362 rfl ?_
      refine g_icmp_le (tgt := 375) K dL_isRun_364 (by decide) (fun u364 => ?_) (fun u364 => ?_)
      · have hsa := sa_0 hs.1 hq ht0 (ch_2 (l := (ldN (aZ A) (qOf (aZ A) k) N (nI v) t)) (a := 0) (by have := hld t; omega) (by decide) u364)
        refine g_iload K dL_isRun_375 rfl ?_
        refine g_iload K dL_isRun_377 rfl ?_
        refine g_isub K dL_isRun_379 ?_
        refine g_istore (ls2 := [_, _, _, _, _, _, _, _, _, _, _, _, _, _, _, _, _, _, _, some (.int _), _, _, _, _, _, _, _, _]) K dL_isRun_380 (by decide) rfl ?_
        refine g_drop (ls2 := [_, _, _, _, _, _, _, _, _, _, _, _, _, _, _, _, _, none, _, _, _, _, _, _, _, _, _, _]) 17 rfl ?_
        exact k382 _ _ _ hC hsa
      · have hsa := sa_0 hs.1 hq ht0 (ch_1 (l := (ldN (aZ A) (qOf (aZ A) k) N (nI v) t)) (a := 0) (by have := hld t; omega) (by decide) u364)
        refine g_iload K dL_isRun_367 rfl ?_
        refine g_iload K dL_isRun_369 rfl ?_
        refine g_isub K dL_isRun_371 ?_
        refine g_goto (tgt := 380) K dL_isRun_372 (by decide) ?_
        refine g_istore (ls2 := [_, _, _, _, _, _, _, _, _, _, _, _, _, _, _, _, _, _, _, some (.int _), _, _, _, _, _, _, _, _]) K dL_isRun_380 (by decide) rfl ?_
        refine g_drop (ls2 := [_, _, _, _, _, _, _, _, _, _, _, _, _, _, _, _, _, none, _, _, _, _, _, _, _, _, _, _]) 17 rfl ?_
        exact k382 _ _ _ hC hsa
    · skip
      refine g_iload K dL_isRun_316 rfl ?_
      refine g_if_ne (tgt := 325) K dL_isRun_318 (by decide) (fun u318 => ?_) (fun u318 => absurd u318 (nI_ne0 ht0 (by omega)))
      refine g_aload_n K dL_isRun_325 rfl ?_
      refine g_iload_n K dL_isRun_326 rfl ?_
      refine g_iload_n K dL_isRun_327 rfl ?_
      refine g_iload K dL_isRun_328 rfl ?_
      refine g_iconst K dL_isRun_330 kc_1 ?_
      refine g_isub K dL_isRun_331 ?_
      refine g_iconst K dL_isRun_332 kc_0 ?_
      refine g_rdV K (rd hC (c_X6_tick hC) ((congrArg (fun x => o_tick A (nI k) (nI v) x 0) (nI_sub1 ht0)).trans (tk_0 hs hk hq hv1 hv9 (Nat.lt_of_le_of_lt (Nat.sub_le _ _) htn)))) mw_X6_tick ml_L_33 dL_isRun_333 (by rfl) rfl rfl (by decide) (by simp [Value.category]) ⟨by decide, by decide⟩ ⟨by decide, by decide⟩ ?_
      clear hC
      intro S333 hC
      refine g_istore (ls2 := [_, _, _, _, _, _, _, _, _, _, _, _, _, _, _, _, _, some (.int _), _, _, _, _, _, _, _, _, _, _]) K dL_isRun_336 (by decide) rfl ?_
      refine g_iload K dL_isRun_338 rfl ?_
      refine g_if_ne (tgt := 347) K dL_isRun_340 (by decide) (fun u340 => ?_) (fun u340 => absurd u340 (nI_ne0 ht0 (by omega)))
      refine g_aload_n K dL_isRun_347 rfl ?_
      refine g_iload_n K dL_isRun_348 rfl ?_
      refine g_iload_n K dL_isRun_349 rfl ?_
      refine g_iload K dL_isRun_350 rfl ?_
      refine g_iconst K dL_isRun_352 kc_1 ?_
      refine g_isub K dL_isRun_353 ?_
      refine g_iconst K dL_isRun_354 kc_1 ?_
      refine g_rdV K (rd hC (c_X6_tick hC) ((congrArg (fun x => o_tick A (nI k) (nI v) x 1) (nI_sub1 ht0)).trans (tk_1 hs hk hq hv1 hv9 (Nat.lt_of_le_of_lt (Nat.sub_le _ _) htn)))) mw_X6_tick ml_L_33 dL_isRun_355 (by rfl) rfl rfl (by decide) (by simp [Value.category]) ⟨by decide, by decide⟩ ⟨by decide, by decide⟩ ?_
      clear hC
      intro S355 hC
      refine g_istore (ls2 := [_, _, _, _, _, _, _, _, _, _, _, _, _, _, _, _, _, _, some (.int _), _, _, _, _, _, _, _, _, _]) K dL_isRun_358 (by decide) rfl ?_
      refine g_iload K dL_isRun_360 rfl ?_
      refine g_iload K dL_isRun_362 rfl ?_
      refine g_icmp_le (tgt := 375) K dL_isRun_364 (by decide) (fun u364 => ?_) (fun u364 => ?_)
      · have hsa := sa_S hs.1 hq ht0 (ch_2 (l := (ldN (aZ A) (qOf (aZ A) k) N (nI v) t)) (a := (ldN (aZ A) (qOf (aZ A) k) N (nI v) (t - 1))) (by have := hld t; omega) (by have := hld (t - 1); omega) u364)
        refine g_iload K dL_isRun_375 rfl ?_
        refine g_iload K dL_isRun_377 rfl ?_
        refine g_isub K dL_isRun_379 ?_
        refine g_istore (ls2 := [_, _, _, _, _, _, _, _, _, _, _, _, _, _, _, _, _, _, _, some (.int _), _, _, _, _, _, _, _, _]) K dL_isRun_380 (by decide) rfl ?_
        refine g_drop (ls2 := [_, _, _, _, _, _, _, _, _, _, _, _, _, _, _, _, _, none, _, _, _, _, _, _, _, _, _, _]) 17 rfl ?_
        exact k382 _ _ _ hC hsa
      · have hsa := sa_S hs.1 hq ht0 (ch_1 (l := (ldN (aZ A) (qOf (aZ A) k) N (nI v) t)) (a := (ldN (aZ A) (qOf (aZ A) k) N (nI v) (t - 1))) (by have := hld t; omega) (by have := hld (t - 1); omega) u364)
        refine g_iload K dL_isRun_367 rfl ?_
        refine g_iload K dL_isRun_369 rfl ?_
        refine g_isub K dL_isRun_371 ?_
        refine g_goto (tgt := 380) K dL_isRun_372 (by decide) ?_
        refine g_istore (ls2 := [_, _, _, _, _, _, _, _, _, _, _, _, _, _, _, _, _, _, _, some (.int _), _, _, _, _, _, _, _, _]) K dL_isRun_380 (by decide) rfl ?_
        refine g_drop (ls2 := [_, _, _, _, _, _, _, _, _, _, _, _, _, _, _, _, _, none, _, _, _, _, _, _, _, _, _, _]) 17 rfl ?_
        exact k382 _ _ _ hC hsa
  rcases H with ⟨rfl, h120, rfl, rfl, rfl⟩ | ⟨rfl, h120, rfl, rfl, rfl, rfl⟩ | ⟨rfl, h120, rfl, hlv, rfl, rfl⟩ | ⟨rfl, h120, rfl, hlv, rfl, rfl⟩ | ⟨rfl, h120, rfl, hlv, rfl, hba, hge⟩
  · skip
    refine g_iload K dL_isRun_90 rfl ?_
    refine g_iload K dL_isRun_92 rfl ?_
    refine g_bipush K dL_isRun_94 kb_120 ?_
    refine g_icmp_le (tgt := 104) K dL_isRun_96 (by decide) (fun u96 => absurd u96 (nI_ge (a := 120) h120 (by omega))) (fun u96 => ?_)
    refine g_bipush K dL_isRun_99 kb_120 ?_
    refine g_goto (tgt := 106) K dL_isRun_101 (by decide) ?_
    refine g_icmp_ne (tgt := 285) K dL_isRun_106 (by decide) (fun u106 => absurd u106 (fun h => h rfl)) (fun u106 => ?_)
    refine g_iload K dL_isRun_109 rfl ?_
    refine g_iconst K dL_isRun_111 kc_1 ?_
    refine g_icmp_ne (tgt := 119) K dL_isRun_112 (by decide) (fun u112 => absurd u112 (by decide)) (fun u112 => ?_)
    refine g_iconst K dL_isRun_115 kc_1 ?_
    refine g_goto (tgt := 120) K dL_isRun_116 (by decide) ?_
    refine g_iload K dL_isRun_120 rfl ?_
    refine g_bipush K dL_isRun_122 kb_120 ?_
    refine g_icmp_le (tgt := 131) K dL_isRun_124 (by decide) (fun u124 => absurd u124 (nI_ge (a := 120) h120 (by omega))) (fun u124 => ?_)
    refine g_iconst K dL_isRun_127 kc_1 ?_
    refine g_goto (tgt := 132) K dL_isRun_128 (by decide) ?_
    refine g_icmp_ne (tgt := 285) K dL_isRun_132 (by decide) (fun u132 => absurd u132 (by decide)) (fun u132 => ?_)
    refine g_iload K dL_isRun_135 rfl ?_
    refine g_if_lt (tgt := 285) K dL_isRun_137 (by decide) (fun u137 => absurd u137 (by decide)) (fun u137 => ?_)
    refine g_iload K dL_isRun_140 rfl ?_
    refine g_iconst K dL_isRun_142 kc_4 ?_
    refine g_icmp_ge (tgt := 285) K dL_isRun_143 (by decide) (fun u143 => absurd u143 (by decide)) (fun u143 => ?_)
    refine g_iload K dL_isRun_146 rfl ?_
    refine g_iconst K dL_isRun_148 kc_2 ?_
    refine g_icmp_ne (tgt := 156) K dL_isRun_149 (by decide) (fun u149 => ?_) (fun u149 => absurd u149 (by decide))
    refine g_iconst K dL_isRun_156 kc_0 ?_
    refine g_iload K dL_isRun_157 rfl ?_
    refine g_if_ne (tgt := 173) K dL_isRun_159 (by decide) (fun u159 => ?_) (fun u159 => ?_)
    · refine g_iconst K dL_isRun_173 kc_0 ?_
      refine g_icmp_ne (tgt := 285) K dL_isRun_174 (by decide) (fun u174 => absurd u174 (by decide)) (fun u174 => ?_)
      refine g_iload K dL_isRun_177 rfl ?_
      refine g_if_ne (tgt := 192) K dL_isRun_179 (by decide) (fun u179 => ?_) (fun u179 => absurd u179 (by decide))
      refine g_iload K dL_isRun_192 rfl ?_
      refine g_bipush K dL_isRun_194 kb_m5 ?_
      refine g_icmp_ne (tgt := 285) K dL_isRun_196 (by decide) (fun u196 => absurd u196 (by decide)) (fun u196 => ?_)
      refine g_iload K dL_isRun_199 rfl ?_
      refine g_bipush K dL_isRun_201 kb_m5 ?_
      refine g_icmp_eq (tgt := 219) K dL_isRun_203 (by decide) (fun u203 => ?_) (fun u203 => absurd (by decide) u203)
      refine g_aload_n K dL_isRun_219 rfl ?_
      refine g_iload_n K dL_isRun_220 rfl ?_
      refine g_iload_n K dL_isRun_221 rfl ?_
      refine g_bipush K dL_isRun_222 kb_6 ?_
      refine g_rdV K (rd hC (c_X6_runOf hC) (e6)) mw_X6_runOf ml_L_30 dL_isRun_224 (by rfl) rfl rfl (by decide) (by simp [Value.category]) ⟨by decide, by decide⟩ ⟨by decide, by decide⟩ ?_
      clear hC
      intro S224 hC
      refine g_if_le (tgt := 285) K dL_isRun_227 (by decide) (fun u227 => absurd u227 (nI_nle hc1 (by omega))) (fun u227 => ?_)
      refine g_aload_n K dL_isRun_230 rfl ?_
      refine g_iload_n K dL_isRun_231 rfl ?_
      refine g_iload_n K dL_isRun_232 rfl ?_
      refine g_bipush K dL_isRun_233 kb_6 ?_
      refine g_rdV K (rd hC (c_X6_runOf hC) (e6)) mw_X6_runOf ml_L_30 dL_isRun_235 (by rfl) rfl rfl (by decide) (by simp [Value.category]) ⟨by decide, by decide⟩ ⟨by decide, by decide⟩ ?_
      clear hC
      intro S235 hC
      refine g_aload_n K dL_isRun_238 rfl ?_
      refine g_iload_n K dL_isRun_239 rfl ?_
      refine g_iconst K dL_isRun_240 kc_1 ?_
      refine g_rdV K (rd hC (c_X6_cartOf hC) (xc_1 hs hk hq)) mw_X6_cartOf ml_L_20 dL_isRun_241 (by rfl) rfl rfl (by decide) (by simp [Value.category]) ⟨by decide, by decide⟩ ⟨by decide, by decide⟩ ?_
      clear hC
      intro S241 hC
      refine g_icmp_gt (tgt := 285) K dL_isRun_244 (by decide) (fun u244 => absurd u244 (nI_nlt hc2 (by omega))) (fun u244 => ?_)
      refine g_aload_n K dL_isRun_247 rfl ?_
      refine g_iload_n K dL_isRun_248 rfl ?_
      refine g_iload_n K dL_isRun_249 rfl ?_
      refine g_iconst K dL_isRun_250 kc_5 ?_
      refine g_rdV K (rd hC (c_X6_runOf hC) (e5)) mw_X6_runOf ml_L_30 dL_isRun_251 (by rfl) rfl rfl (by decide) (by simp [Value.category]) ⟨by decide, by decide⟩ ⟨by decide, by decide⟩ ?_
      clear hC
      intro S251 hC
      refine g_iload_n K dL_isRun_254 rfl ?_
      refine g_icmp_gt (tgt := 285) K dL_isRun_255 (by decide) (fun u255 => absurd u255 (nI_nlt hw52 (by omega))) (fun u255 => ?_)
      refine g_aload_n K dL_isRun_258 rfl ?_
      refine g_iload_n K dL_isRun_259 rfl ?_
      refine g_iload_n K dL_isRun_260 rfl ?_
      refine g_iconst K dL_isRun_261 kc_5 ?_
      refine g_rdV K (rd hC (c_X6_runOf hC) (e5)) mw_X6_runOf ml_L_30 dL_isRun_262 (by rfl) rfl rfl (by decide) (by simp [Value.category]) ⟨by decide, by decide⟩ ⟨by decide, by decide⟩ ?_
      clear hC
      intro S262 hC
      refine g_if_le (tgt := 285) K dL_isRun_265 (by decide) (fun u265 => absurd u265 (nI_nle hw51 (by omega))) (fun u265 => ?_)
      refine g_aload_n K dL_isRun_268 rfl ?_
      refine g_iload_n K dL_isRun_269 rfl ?_
      refine g_iload_n K dL_isRun_270 rfl ?_
      refine g_bipush K dL_isRun_271 kb_8 ?_
      refine g_rdV K (rd hC (c_X6_runOf hC) (e8)) mw_X6_runOf ml_L_30 dL_isRun_273 (by rfl) rfl rfl (by decide) (by simp [Value.category]) ⟨by decide, by decide⟩ ⟨by decide, by decide⟩ ?_
      clear hC
      intro S273 hC
      refine g_iload K dL_isRun_276 rfl ?_
      refine g_icmp_ge (tgt := 285) K dL_isRun_278 (by decide) (fun u278 => absurd u278 h8) (fun u278 => ?_)
      refine g_iconst K dL_isRun_281 kc_1 ?_
      refine g_goto (tgt := 286) K dL_isRun_282 (by decide) ?_
      exact k286 _ hC
    · refine g_iload K dL_isRun_162 rfl ?_
      refine g_bipush K dL_isRun_164 kb_120 ?_
      refine g_icmp_gt (tgt := 173) K dL_isRun_166 (by decide) (fun u166 => ?_) (fun u166 => absurd (nI_lt (a := 120) h120 (by omega)) u166)
      refine g_iconst K dL_isRun_173 kc_0 ?_
      refine g_icmp_ne (tgt := 285) K dL_isRun_174 (by decide) (fun u174 => absurd u174 (by decide)) (fun u174 => ?_)
      refine g_iload K dL_isRun_177 rfl ?_
      refine g_if_ne (tgt := 192) K dL_isRun_179 (by decide) (fun u179 => ?_) (fun u179 => absurd u179 (by decide))
      refine g_iload K dL_isRun_192 rfl ?_
      refine g_bipush K dL_isRun_194 kb_m5 ?_
      refine g_icmp_ne (tgt := 285) K dL_isRun_196 (by decide) (fun u196 => absurd u196 (by decide)) (fun u196 => ?_)
      refine g_iload K dL_isRun_199 rfl ?_
      refine g_bipush K dL_isRun_201 kb_m5 ?_
      refine g_icmp_eq (tgt := 219) K dL_isRun_203 (by decide) (fun u203 => ?_) (fun u203 => absurd (by decide) u203)
      refine g_aload_n K dL_isRun_219 rfl ?_
      refine g_iload_n K dL_isRun_220 rfl ?_
      refine g_iload_n K dL_isRun_221 rfl ?_
      refine g_bipush K dL_isRun_222 kb_6 ?_
      refine g_rdV K (rd hC (c_X6_runOf hC) (e6)) mw_X6_runOf ml_L_30 dL_isRun_224 (by rfl) rfl rfl (by decide) (by simp [Value.category]) ⟨by decide, by decide⟩ ⟨by decide, by decide⟩ ?_
      clear hC
      intro S224 hC
      refine g_if_le (tgt := 285) K dL_isRun_227 (by decide) (fun u227 => absurd u227 (nI_nle hc1 (by omega))) (fun u227 => ?_)
      refine g_aload_n K dL_isRun_230 rfl ?_
      refine g_iload_n K dL_isRun_231 rfl ?_
      refine g_iload_n K dL_isRun_232 rfl ?_
      refine g_bipush K dL_isRun_233 kb_6 ?_
      refine g_rdV K (rd hC (c_X6_runOf hC) (e6)) mw_X6_runOf ml_L_30 dL_isRun_235 (by rfl) rfl rfl (by decide) (by simp [Value.category]) ⟨by decide, by decide⟩ ⟨by decide, by decide⟩ ?_
      clear hC
      intro S235 hC
      refine g_aload_n K dL_isRun_238 rfl ?_
      refine g_iload_n K dL_isRun_239 rfl ?_
      refine g_iconst K dL_isRun_240 kc_1 ?_
      refine g_rdV K (rd hC (c_X6_cartOf hC) (xc_1 hs hk hq)) mw_X6_cartOf ml_L_20 dL_isRun_241 (by rfl) rfl rfl (by decide) (by simp [Value.category]) ⟨by decide, by decide⟩ ⟨by decide, by decide⟩ ?_
      clear hC
      intro S241 hC
      refine g_icmp_gt (tgt := 285) K dL_isRun_244 (by decide) (fun u244 => absurd u244 (nI_nlt hc2 (by omega))) (fun u244 => ?_)
      refine g_aload_n K dL_isRun_247 rfl ?_
      refine g_iload_n K dL_isRun_248 rfl ?_
      refine g_iload_n K dL_isRun_249 rfl ?_
      refine g_iconst K dL_isRun_250 kc_5 ?_
      refine g_rdV K (rd hC (c_X6_runOf hC) (e5)) mw_X6_runOf ml_L_30 dL_isRun_251 (by rfl) rfl rfl (by decide) (by simp [Value.category]) ⟨by decide, by decide⟩ ⟨by decide, by decide⟩ ?_
      clear hC
      intro S251 hC
      refine g_iload_n K dL_isRun_254 rfl ?_
      refine g_icmp_gt (tgt := 285) K dL_isRun_255 (by decide) (fun u255 => absurd u255 (nI_nlt hw52 (by omega))) (fun u255 => ?_)
      refine g_aload_n K dL_isRun_258 rfl ?_
      refine g_iload_n K dL_isRun_259 rfl ?_
      refine g_iload_n K dL_isRun_260 rfl ?_
      refine g_iconst K dL_isRun_261 kc_5 ?_
      refine g_rdV K (rd hC (c_X6_runOf hC) (e5)) mw_X6_runOf ml_L_30 dL_isRun_262 (by rfl) rfl rfl (by decide) (by simp [Value.category]) ⟨by decide, by decide⟩ ⟨by decide, by decide⟩ ?_
      clear hC
      intro S262 hC
      refine g_if_le (tgt := 285) K dL_isRun_265 (by decide) (fun u265 => absurd u265 (nI_nle hw51 (by omega))) (fun u265 => ?_)
      refine g_aload_n K dL_isRun_268 rfl ?_
      refine g_iload_n K dL_isRun_269 rfl ?_
      refine g_iload_n K dL_isRun_270 rfl ?_
      refine g_bipush K dL_isRun_271 kb_8 ?_
      refine g_rdV K (rd hC (c_X6_runOf hC) (e8)) mw_X6_runOf ml_L_30 dL_isRun_273 (by rfl) rfl rfl (by decide) (by simp [Value.category]) ⟨by decide, by decide⟩ ⟨by decide, by decide⟩ ?_
      clear hC
      intro S273 hC
      refine g_iload K dL_isRun_276 rfl ?_
      refine g_icmp_ge (tgt := 285) K dL_isRun_278 (by decide) (fun u278 => absurd u278 h8) (fun u278 => ?_)
      refine g_iconst K dL_isRun_281 kc_1 ?_
      refine g_goto (tgt := 286) K dL_isRun_282 (by decide) ?_
      exact k286 _ hC
  · skip
    refine g_iload K dL_isRun_90 rfl ?_
    refine g_iload K dL_isRun_92 rfl ?_
    refine g_bipush K dL_isRun_94 kb_120 ?_
    refine g_icmp_le (tgt := 104) K dL_isRun_96 (by decide) (fun u96 => ?_) (fun u96 => absurd (nI_le (b := 120) h120 (by decide)) u96)
    refine g_iload K dL_isRun_104 rfl ?_
    refine g_icmp_ne (tgt := 285) K dL_isRun_106 (by decide) (fun u106 => absurd u106 (fun h => h rfl)) (fun u106 => ?_)
    refine g_iload K dL_isRun_109 rfl ?_
    refine g_iconst K dL_isRun_111 kc_1 ?_
    refine g_icmp_ne (tgt := 119) K dL_isRun_112 (by decide) (fun u112 => ?_) (fun u112 => absurd u112 (by decide))
    refine g_iconst K dL_isRun_119 kc_0 ?_
    refine g_iload K dL_isRun_120 rfl ?_
    refine g_bipush K dL_isRun_122 kb_120 ?_
    refine g_icmp_le (tgt := 131) K dL_isRun_124 (by decide) (fun u124 => ?_) (fun u124 => absurd (nI_le (b := 120) h120 (by decide)) u124)
    refine g_iconst K dL_isRun_131 kc_0 ?_
    refine g_icmp_ne (tgt := 285) K dL_isRun_132 (by decide) (fun u132 => absurd u132 (by decide)) (fun u132 => ?_)
    refine g_iload K dL_isRun_135 rfl ?_
    refine g_if_lt (tgt := 285) K dL_isRun_137 (by decide) (fun u137 => absurd u137 (by decide)) (fun u137 => ?_)
    refine g_iload K dL_isRun_140 rfl ?_
    refine g_iconst K dL_isRun_142 kc_4 ?_
    refine g_icmp_ge (tgt := 285) K dL_isRun_143 (by decide) (fun u143 => absurd u143 (by decide)) (fun u143 => ?_)
    refine g_iload K dL_isRun_146 rfl ?_
    refine g_iconst K dL_isRun_148 kc_2 ?_
    refine g_icmp_ne (tgt := 156) K dL_isRun_149 (by decide) (fun u149 => absurd u149 (by decide)) (fun u149 => ?_)
    refine g_iconst K dL_isRun_152 kc_1 ?_
    refine g_goto (tgt := 157) K dL_isRun_153 (by decide) ?_
    refine g_iload K dL_isRun_157 rfl ?_
    refine g_if_ne (tgt := 173) K dL_isRun_159 (by decide) (fun u159 => absurd u159 (by decide)) (fun u159 => ?_)
    refine g_iload K dL_isRun_162 rfl ?_
    refine g_bipush K dL_isRun_164 kb_120 ?_
    refine g_icmp_gt (tgt := 173) K dL_isRun_166 (by decide) (fun u166 => absurd u166 (nI_nlt (a := 120) h120 (by decide))) (fun u166 => ?_)
    refine g_iconst K dL_isRun_169 kc_1 ?_
    refine g_goto (tgt := 174) K dL_isRun_170 (by decide) ?_
    refine g_icmp_ne (tgt := 285) K dL_isRun_174 (by decide) (fun u174 => absurd u174 (by decide)) (fun u174 => ?_)
    refine g_iload K dL_isRun_177 rfl ?_
    refine g_if_ne (tgt := 192) K dL_isRun_179 (by decide) (fun u179 => ?_) (fun u179 => absurd u179 (by decide))
    refine g_iload K dL_isRun_192 rfl ?_
    refine g_bipush K dL_isRun_194 kb_m5 ?_
    refine g_icmp_ne (tgt := 285) K dL_isRun_196 (by decide) (fun u196 => absurd u196 (by decide)) (fun u196 => ?_)
    refine g_iload K dL_isRun_199 rfl ?_
    refine g_bipush K dL_isRun_201 kb_m5 ?_
    refine g_icmp_eq (tgt := 219) K dL_isRun_203 (by decide) (fun u203 => ?_) (fun u203 => absurd (by decide) u203)
    refine g_aload_n K dL_isRun_219 rfl ?_
    refine g_iload_n K dL_isRun_220 rfl ?_
    refine g_iload_n K dL_isRun_221 rfl ?_
    refine g_bipush K dL_isRun_222 kb_6 ?_
    refine g_rdV K (rd hC (c_X6_runOf hC) (e6)) mw_X6_runOf ml_L_30 dL_isRun_224 (by rfl) rfl rfl (by decide) (by simp [Value.category]) ⟨by decide, by decide⟩ ⟨by decide, by decide⟩ ?_
    clear hC
    intro S224 hC
    refine g_if_le (tgt := 285) K dL_isRun_227 (by decide) (fun u227 => absurd u227 (nI_nle hc1 (by omega))) (fun u227 => ?_)
    refine g_aload_n K dL_isRun_230 rfl ?_
    refine g_iload_n K dL_isRun_231 rfl ?_
    refine g_iload_n K dL_isRun_232 rfl ?_
    refine g_bipush K dL_isRun_233 kb_6 ?_
    refine g_rdV K (rd hC (c_X6_runOf hC) (e6)) mw_X6_runOf ml_L_30 dL_isRun_235 (by rfl) rfl rfl (by decide) (by simp [Value.category]) ⟨by decide, by decide⟩ ⟨by decide, by decide⟩ ?_
    clear hC
    intro S235 hC
    refine g_aload_n K dL_isRun_238 rfl ?_
    refine g_iload_n K dL_isRun_239 rfl ?_
    refine g_iconst K dL_isRun_240 kc_1 ?_
    refine g_rdV K (rd hC (c_X6_cartOf hC) (xc_1 hs hk hq)) mw_X6_cartOf ml_L_20 dL_isRun_241 (by rfl) rfl rfl (by decide) (by simp [Value.category]) ⟨by decide, by decide⟩ ⟨by decide, by decide⟩ ?_
    clear hC
    intro S241 hC
    refine g_icmp_gt (tgt := 285) K dL_isRun_244 (by decide) (fun u244 => absurd u244 (nI_nlt hc2 (by omega))) (fun u244 => ?_)
    refine g_aload_n K dL_isRun_247 rfl ?_
    refine g_iload_n K dL_isRun_248 rfl ?_
    refine g_iload_n K dL_isRun_249 rfl ?_
    refine g_iconst K dL_isRun_250 kc_5 ?_
    refine g_rdV K (rd hC (c_X6_runOf hC) (e5)) mw_X6_runOf ml_L_30 dL_isRun_251 (by rfl) rfl rfl (by decide) (by simp [Value.category]) ⟨by decide, by decide⟩ ⟨by decide, by decide⟩ ?_
    clear hC
    intro S251 hC
    refine g_iload_n K dL_isRun_254 rfl ?_
    refine g_icmp_gt (tgt := 285) K dL_isRun_255 (by decide) (fun u255 => absurd u255 (nI_nlt hw52 (by omega))) (fun u255 => ?_)
    refine g_aload_n K dL_isRun_258 rfl ?_
    refine g_iload_n K dL_isRun_259 rfl ?_
    refine g_iload_n K dL_isRun_260 rfl ?_
    refine g_iconst K dL_isRun_261 kc_5 ?_
    refine g_rdV K (rd hC (c_X6_runOf hC) (e5)) mw_X6_runOf ml_L_30 dL_isRun_262 (by rfl) rfl rfl (by decide) (by simp [Value.category]) ⟨by decide, by decide⟩ ⟨by decide, by decide⟩ ?_
    clear hC
    intro S262 hC
    refine g_if_le (tgt := 285) K dL_isRun_265 (by decide) (fun u265 => absurd u265 (nI_nle hw51 (by omega))) (fun u265 => ?_)
    refine g_aload_n K dL_isRun_268 rfl ?_
    refine g_iload_n K dL_isRun_269 rfl ?_
    refine g_iload_n K dL_isRun_270 rfl ?_
    refine g_bipush K dL_isRun_271 kb_8 ?_
    refine g_rdV K (rd hC (c_X6_runOf hC) (e8)) mw_X6_runOf ml_L_30 dL_isRun_273 (by rfl) rfl rfl (by decide) (by simp [Value.category]) ⟨by decide, by decide⟩ ⟨by decide, by decide⟩ ?_
    clear hC
    intro S273 hC
    refine g_iload K dL_isRun_276 rfl ?_
    refine g_icmp_ge (tgt := 285) K dL_isRun_278 (by decide) (fun u278 => absurd u278 h8) (fun u278 => ?_)
    refine g_iconst K dL_isRun_281 kc_1 ?_
    refine g_goto (tgt := 286) K dL_isRun_282 (by decide) ?_
    exact k286 _ hC
  · skip
    refine g_iload K dL_isRun_90 rfl ?_
    refine g_iload K dL_isRun_92 rfl ?_
    refine g_bipush K dL_isRun_94 kb_120 ?_
    refine g_icmp_le (tgt := 104) K dL_isRun_96 (by decide) (fun u96 => ?_) (fun u96 => absurd (nI_le (b := 120) h120 (by decide)) u96)
    refine g_iload K dL_isRun_104 rfl ?_
    refine g_icmp_ne (tgt := 285) K dL_isRun_106 (by decide) (fun u106 => absurd u106 (fun h => h rfl)) (fun u106 => ?_)
    refine g_iload K dL_isRun_109 rfl ?_
    refine g_iconst K dL_isRun_111 kc_1 ?_
    refine g_icmp_ne (tgt := 119) K dL_isRun_112 (by decide) (fun u112 => ?_) (fun u112 => absurd u112 (by decide))
    refine g_iconst K dL_isRun_119 kc_0 ?_
    refine g_iload K dL_isRun_120 rfl ?_
    refine g_bipush K dL_isRun_122 kb_120 ?_
    refine g_icmp_le (tgt := 131) K dL_isRun_124 (by decide) (fun u124 => ?_) (fun u124 => absurd (nI_le (b := 120) h120 (by decide)) u124)
    refine g_iconst K dL_isRun_131 kc_0 ?_
    refine g_icmp_ne (tgt := 285) K dL_isRun_132 (by decide) (fun u132 => absurd u132 (by decide)) (fun u132 => ?_)
    refine g_iload K dL_isRun_135 rfl ?_
    refine g_if_lt (tgt := 285) K dL_isRun_137 (by decide) (fun u137 => absurd u137 (by decide)) (fun u137 => ?_)
    refine g_iload K dL_isRun_140 rfl ?_
    refine g_iconst K dL_isRun_142 kc_4 ?_
    refine g_icmp_ge (tgt := 285) K dL_isRun_143 (by decide) (fun u143 => absurd u143 (by decide)) (fun u143 => ?_)
    refine g_iload K dL_isRun_146 rfl ?_
    refine g_iconst K dL_isRun_148 kc_2 ?_
    refine g_icmp_ne (tgt := 156) K dL_isRun_149 (by decide) (fun u149 => ?_) (fun u149 => absurd u149 (by decide))
    refine g_iconst K dL_isRun_156 kc_0 ?_
    refine g_iload K dL_isRun_157 rfl ?_
    refine g_if_ne (tgt := 173) K dL_isRun_159 (by decide) (fun u159 => ?_) (fun u159 => absurd u159 hlv)
    refine g_iconst K dL_isRun_173 kc_0 ?_
    refine g_icmp_ne (tgt := 285) K dL_isRun_174 (by decide) (fun u174 => absurd u174 (by decide)) (fun u174 => ?_)
    refine g_iload K dL_isRun_177 rfl ?_
    refine g_if_ne (tgt := 192) K dL_isRun_179 (by decide) (fun u179 => absurd u179 (by decide)) (fun u179 => ?_)
    refine g_iload K dL_isRun_182 rfl ?_
    refine g_iload K dL_isRun_184 rfl ?_
    refine g_icmp_ne (tgt := 285) K dL_isRun_186 (by decide) (fun u186 => absurd u186 (fun h => h rfl)) (fun u186 => ?_)
    refine g_goto (tgt := 199) K dL_isRun_189 (by decide) ?_
    refine g_iload K dL_isRun_199 rfl ?_
    refine g_bipush K dL_isRun_201 kb_m5 ?_
    refine g_icmp_eq (tgt := 219) K dL_isRun_203 (by decide) (fun u203 => ?_) (fun u203 => absurd (by decide) u203)
    refine g_aload_n K dL_isRun_219 rfl ?_
    refine g_iload_n K dL_isRun_220 rfl ?_
    refine g_iload_n K dL_isRun_221 rfl ?_
    refine g_bipush K dL_isRun_222 kb_6 ?_
    refine g_rdV K (rd hC (c_X6_runOf hC) (e6)) mw_X6_runOf ml_L_30 dL_isRun_224 (by rfl) rfl rfl (by decide) (by simp [Value.category]) ⟨by decide, by decide⟩ ⟨by decide, by decide⟩ ?_
    clear hC
    intro S224 hC
    refine g_if_le (tgt := 285) K dL_isRun_227 (by decide) (fun u227 => absurd u227 (nI_nle hc1 (by omega))) (fun u227 => ?_)
    refine g_aload_n K dL_isRun_230 rfl ?_
    refine g_iload_n K dL_isRun_231 rfl ?_
    refine g_iload_n K dL_isRun_232 rfl ?_
    refine g_bipush K dL_isRun_233 kb_6 ?_
    refine g_rdV K (rd hC (c_X6_runOf hC) (e6)) mw_X6_runOf ml_L_30 dL_isRun_235 (by rfl) rfl rfl (by decide) (by simp [Value.category]) ⟨by decide, by decide⟩ ⟨by decide, by decide⟩ ?_
    clear hC
    intro S235 hC
    refine g_aload_n K dL_isRun_238 rfl ?_
    refine g_iload_n K dL_isRun_239 rfl ?_
    refine g_iconst K dL_isRun_240 kc_1 ?_
    refine g_rdV K (rd hC (c_X6_cartOf hC) (xc_1 hs hk hq)) mw_X6_cartOf ml_L_20 dL_isRun_241 (by rfl) rfl rfl (by decide) (by simp [Value.category]) ⟨by decide, by decide⟩ ⟨by decide, by decide⟩ ?_
    clear hC
    intro S241 hC
    refine g_icmp_gt (tgt := 285) K dL_isRun_244 (by decide) (fun u244 => absurd u244 (nI_nlt hc2 (by omega))) (fun u244 => ?_)
    refine g_aload_n K dL_isRun_247 rfl ?_
    refine g_iload_n K dL_isRun_248 rfl ?_
    refine g_iload_n K dL_isRun_249 rfl ?_
    refine g_iconst K dL_isRun_250 kc_5 ?_
    refine g_rdV K (rd hC (c_X6_runOf hC) (e5)) mw_X6_runOf ml_L_30 dL_isRun_251 (by rfl) rfl rfl (by decide) (by simp [Value.category]) ⟨by decide, by decide⟩ ⟨by decide, by decide⟩ ?_
    clear hC
    intro S251 hC
    refine g_iload_n K dL_isRun_254 rfl ?_
    refine g_icmp_gt (tgt := 285) K dL_isRun_255 (by decide) (fun u255 => absurd u255 (nI_nlt hw52 (by omega))) (fun u255 => ?_)
    refine g_aload_n K dL_isRun_258 rfl ?_
    refine g_iload_n K dL_isRun_259 rfl ?_
    refine g_iload_n K dL_isRun_260 rfl ?_
    refine g_iconst K dL_isRun_261 kc_5 ?_
    refine g_rdV K (rd hC (c_X6_runOf hC) (e5)) mw_X6_runOf ml_L_30 dL_isRun_262 (by rfl) rfl rfl (by decide) (by simp [Value.category]) ⟨by decide, by decide⟩ ⟨by decide, by decide⟩ ?_
    clear hC
    intro S262 hC
    refine g_if_le (tgt := 285) K dL_isRun_265 (by decide) (fun u265 => absurd u265 (nI_nle hw51 (by omega))) (fun u265 => ?_)
    refine g_aload_n K dL_isRun_268 rfl ?_
    refine g_iload_n K dL_isRun_269 rfl ?_
    refine g_iload_n K dL_isRun_270 rfl ?_
    refine g_bipush K dL_isRun_271 kb_8 ?_
    refine g_rdV K (rd hC (c_X6_runOf hC) (e8)) mw_X6_runOf ml_L_30 dL_isRun_273 (by rfl) rfl rfl (by decide) (by simp [Value.category]) ⟨by decide, by decide⟩ ⟨by decide, by decide⟩ ?_
    clear hC
    intro S273 hC
    refine g_iload K dL_isRun_276 rfl ?_
    refine g_icmp_ge (tgt := 285) K dL_isRun_278 (by decide) (fun u278 => absurd u278 h8) (fun u278 => ?_)
    refine g_iconst K dL_isRun_281 kc_1 ?_
    refine g_goto (tgt := 286) K dL_isRun_282 (by decide) ?_
    exact k286 _ hC
  · skip
    refine g_iload K dL_isRun_90 rfl ?_
    refine g_iload K dL_isRun_92 rfl ?_
    refine g_bipush K dL_isRun_94 kb_120 ?_
    refine g_icmp_le (tgt := 104) K dL_isRun_96 (by decide) (fun u96 => ?_) (fun u96 => absurd (nI_le (b := 120) h120 (by decide)) u96)
    refine g_iload K dL_isRun_104 rfl ?_
    refine g_icmp_ne (tgt := 285) K dL_isRun_106 (by decide) (fun u106 => absurd u106 (fun h => h rfl)) (fun u106 => ?_)
    refine g_iload K dL_isRun_109 rfl ?_
    refine g_iconst K dL_isRun_111 kc_1 ?_
    refine g_icmp_ne (tgt := 119) K dL_isRun_112 (by decide) (fun u112 => ?_) (fun u112 => absurd u112 (by decide))
    refine g_iconst K dL_isRun_119 kc_0 ?_
    refine g_iload K dL_isRun_120 rfl ?_
    refine g_bipush K dL_isRun_122 kb_120 ?_
    refine g_icmp_le (tgt := 131) K dL_isRun_124 (by decide) (fun u124 => ?_) (fun u124 => absurd (nI_le (b := 120) h120 (by decide)) u124)
    refine g_iconst K dL_isRun_131 kc_0 ?_
    refine g_icmp_ne (tgt := 285) K dL_isRun_132 (by decide) (fun u132 => absurd u132 (by decide)) (fun u132 => ?_)
    refine g_iload K dL_isRun_135 rfl ?_
    refine g_if_lt (tgt := 285) K dL_isRun_137 (by decide) (fun u137 => absurd u137 (by decide)) (fun u137 => ?_)
    refine g_iload K dL_isRun_140 rfl ?_
    refine g_iconst K dL_isRun_142 kc_4 ?_
    refine g_icmp_ge (tgt := 285) K dL_isRun_143 (by decide) (fun u143 => absurd u143 (by decide)) (fun u143 => ?_)
    refine g_iload K dL_isRun_146 rfl ?_
    refine g_iconst K dL_isRun_148 kc_2 ?_
    refine g_icmp_ne (tgt := 156) K dL_isRun_149 (by decide) (fun u149 => ?_) (fun u149 => absurd u149 (by decide))
    refine g_iconst K dL_isRun_156 kc_0 ?_
    refine g_iload K dL_isRun_157 rfl ?_
    refine g_if_ne (tgt := 173) K dL_isRun_159 (by decide) (fun u159 => ?_) (fun u159 => absurd u159 hlv)
    refine g_iconst K dL_isRun_173 kc_0 ?_
    refine g_icmp_ne (tgt := 285) K dL_isRun_174 (by decide) (fun u174 => absurd u174 (by decide)) (fun u174 => ?_)
    refine g_iload K dL_isRun_177 rfl ?_
    refine g_if_ne (tgt := 192) K dL_isRun_179 (by decide) (fun u179 => ?_) (fun u179 => absurd u179 (by decide))
    refine g_iload K dL_isRun_192 rfl ?_
    refine g_bipush K dL_isRun_194 kb_m5 ?_
    refine g_icmp_ne (tgt := 285) K dL_isRun_196 (by decide) (fun u196 => absurd u196 (by decide)) (fun u196 => ?_)
    refine g_iload K dL_isRun_199 rfl ?_
    refine g_bipush K dL_isRun_201 kb_m5 ?_
    refine g_icmp_eq (tgt := 219) K dL_isRun_203 (by decide) (fun u203 => ?_) (fun u203 => absurd (by decide) u203)
    refine g_aload_n K dL_isRun_219 rfl ?_
    refine g_iload_n K dL_isRun_220 rfl ?_
    refine g_iload_n K dL_isRun_221 rfl ?_
    refine g_bipush K dL_isRun_222 kb_6 ?_
    refine g_rdV K (rd hC (c_X6_runOf hC) (e6)) mw_X6_runOf ml_L_30 dL_isRun_224 (by rfl) rfl rfl (by decide) (by simp [Value.category]) ⟨by decide, by decide⟩ ⟨by decide, by decide⟩ ?_
    clear hC
    intro S224 hC
    refine g_if_le (tgt := 285) K dL_isRun_227 (by decide) (fun u227 => absurd u227 (nI_nle hc1 (by omega))) (fun u227 => ?_)
    refine g_aload_n K dL_isRun_230 rfl ?_
    refine g_iload_n K dL_isRun_231 rfl ?_
    refine g_iload_n K dL_isRun_232 rfl ?_
    refine g_bipush K dL_isRun_233 kb_6 ?_
    refine g_rdV K (rd hC (c_X6_runOf hC) (e6)) mw_X6_runOf ml_L_30 dL_isRun_235 (by rfl) rfl rfl (by decide) (by simp [Value.category]) ⟨by decide, by decide⟩ ⟨by decide, by decide⟩ ?_
    clear hC
    intro S235 hC
    refine g_aload_n K dL_isRun_238 rfl ?_
    refine g_iload_n K dL_isRun_239 rfl ?_
    refine g_iconst K dL_isRun_240 kc_1 ?_
    refine g_rdV K (rd hC (c_X6_cartOf hC) (xc_1 hs hk hq)) mw_X6_cartOf ml_L_20 dL_isRun_241 (by rfl) rfl rfl (by decide) (by simp [Value.category]) ⟨by decide, by decide⟩ ⟨by decide, by decide⟩ ?_
    clear hC
    intro S241 hC
    refine g_icmp_gt (tgt := 285) K dL_isRun_244 (by decide) (fun u244 => absurd u244 (nI_nlt hc2 (by omega))) (fun u244 => ?_)
    refine g_aload_n K dL_isRun_247 rfl ?_
    refine g_iload_n K dL_isRun_248 rfl ?_
    refine g_iload_n K dL_isRun_249 rfl ?_
    refine g_iconst K dL_isRun_250 kc_5 ?_
    refine g_rdV K (rd hC (c_X6_runOf hC) (e5)) mw_X6_runOf ml_L_30 dL_isRun_251 (by rfl) rfl rfl (by decide) (by simp [Value.category]) ⟨by decide, by decide⟩ ⟨by decide, by decide⟩ ?_
    clear hC
    intro S251 hC
    refine g_iload_n K dL_isRun_254 rfl ?_
    refine g_icmp_gt (tgt := 285) K dL_isRun_255 (by decide) (fun u255 => absurd u255 (nI_nlt hw52 (by omega))) (fun u255 => ?_)
    refine g_aload_n K dL_isRun_258 rfl ?_
    refine g_iload_n K dL_isRun_259 rfl ?_
    refine g_iload_n K dL_isRun_260 rfl ?_
    refine g_iconst K dL_isRun_261 kc_5 ?_
    refine g_rdV K (rd hC (c_X6_runOf hC) (e5)) mw_X6_runOf ml_L_30 dL_isRun_262 (by rfl) rfl rfl (by decide) (by simp [Value.category]) ⟨by decide, by decide⟩ ⟨by decide, by decide⟩ ?_
    clear hC
    intro S262 hC
    refine g_if_le (tgt := 285) K dL_isRun_265 (by decide) (fun u265 => absurd u265 (nI_nle hw51 (by omega))) (fun u265 => ?_)
    refine g_aload_n K dL_isRun_268 rfl ?_
    refine g_iload_n K dL_isRun_269 rfl ?_
    refine g_iload_n K dL_isRun_270 rfl ?_
    refine g_bipush K dL_isRun_271 kb_8 ?_
    refine g_rdV K (rd hC (c_X6_runOf hC) (e8)) mw_X6_runOf ml_L_30 dL_isRun_273 (by rfl) rfl rfl (by decide) (by simp [Value.category]) ⟨by decide, by decide⟩ ⟨by decide, by decide⟩ ?_
    clear hC
    intro S273 hC
    refine g_iload K dL_isRun_276 rfl ?_
    refine g_icmp_ge (tgt := 285) K dL_isRun_278 (by decide) (fun u278 => absurd u278 h8) (fun u278 => ?_)
    refine g_iconst K dL_isRun_281 kc_1 ?_
    refine g_goto (tgt := 286) K dL_isRun_282 (by decide) ?_
    exact k286 _ hC
  · skip
    refine g_iload K dL_isRun_90 rfl ?_
    refine g_iload K dL_isRun_92 rfl ?_
    refine g_bipush K dL_isRun_94 kb_120 ?_
    refine g_icmp_le (tgt := 104) K dL_isRun_96 (by decide) (fun u96 => ?_) (fun u96 => absurd (nI_le (b := 120) h120 (by decide)) u96)
    refine g_iload K dL_isRun_104 rfl ?_
    refine g_icmp_ne (tgt := 285) K dL_isRun_106 (by decide) (fun u106 => absurd u106 (fun h => h rfl)) (fun u106 => ?_)
    refine g_iload K dL_isRun_109 rfl ?_
    refine g_iconst K dL_isRun_111 kc_1 ?_
    refine g_icmp_ne (tgt := 119) K dL_isRun_112 (by decide) (fun u112 => ?_) (fun u112 => absurd u112 (by decide))
    refine g_iconst K dL_isRun_119 kc_0 ?_
    refine g_iload K dL_isRun_120 rfl ?_
    refine g_bipush K dL_isRun_122 kb_120 ?_
    refine g_icmp_le (tgt := 131) K dL_isRun_124 (by decide) (fun u124 => ?_) (fun u124 => absurd (nI_le (b := 120) h120 (by decide)) u124)
    refine g_iconst K dL_isRun_131 kc_0 ?_
    refine g_icmp_ne (tgt := 285) K dL_isRun_132 (by decide) (fun u132 => absurd u132 (by decide)) (fun u132 => ?_)
    refine g_iload K dL_isRun_135 rfl ?_
    refine g_if_lt (tgt := 285) K dL_isRun_137 (by decide) (fun u137 => absurd u137 (by decide)) (fun u137 => ?_)
    refine g_iload K dL_isRun_140 rfl ?_
    refine g_iconst K dL_isRun_142 kc_4 ?_
    refine g_icmp_ge (tgt := 285) K dL_isRun_143 (by decide) (fun u143 => absurd u143 (by decide)) (fun u143 => ?_)
    refine g_iload K dL_isRun_146 rfl ?_
    refine g_iconst K dL_isRun_148 kc_2 ?_
    refine g_icmp_ne (tgt := 156) K dL_isRun_149 (by decide) (fun u149 => ?_) (fun u149 => absurd u149 (by decide))
    refine g_iconst K dL_isRun_156 kc_0 ?_
    refine g_iload K dL_isRun_157 rfl ?_
    refine g_if_ne (tgt := 173) K dL_isRun_159 (by decide) (fun u159 => ?_) (fun u159 => absurd u159 hlv)
    refine g_iconst K dL_isRun_173 kc_0 ?_
    refine g_icmp_ne (tgt := 285) K dL_isRun_174 (by decide) (fun u174 => absurd u174 (by decide)) (fun u174 => ?_)
    refine g_iload K dL_isRun_177 rfl ?_
    refine g_if_ne (tgt := 192) K dL_isRun_179 (by decide) (fun u179 => ?_) (fun u179 => absurd u179 (by decide))
    refine g_iload K dL_isRun_192 rfl ?_
    refine g_bipush K dL_isRun_194 kb_m5 ?_
    refine g_icmp_ne (tgt := 285) K dL_isRun_196 (by decide) (fun u196 => absurd u196 (by decide)) (fun u196 => ?_)
    refine g_iload K dL_isRun_199 rfl ?_
    refine g_bipush K dL_isRun_201 kb_m5 ?_
    refine g_icmp_eq (tgt := 219) K dL_isRun_203 (by decide) (fun u203 => absurd u203 hba) (fun u203 => ?_)
    refine g_iload K dL_isRun_206 rfl ?_
    refine g_iconst K dL_isRun_208 kc_3 ?_
    refine g_icmp_ne (tgt := 285) K dL_isRun_209 (by decide) (fun u209 => absurd u209 (by decide)) (fun u209 => ?_)
    refine g_iload K dL_isRun_212 rfl ?_
    refine g_iload K dL_isRun_214 rfl ?_
    refine g_icmp_lt (tgt := 285) K dL_isRun_216 (by decide) (fun u216 => absurd u216 (i_nlt hge)) (fun u216 => ?_)
    refine g_aload_n K dL_isRun_219 rfl ?_
    refine g_iload_n K dL_isRun_220 rfl ?_
    refine g_iload_n K dL_isRun_221 rfl ?_
    refine g_bipush K dL_isRun_222 kb_6 ?_
    refine g_rdV K (rd hC (c_X6_runOf hC) (e6)) mw_X6_runOf ml_L_30 dL_isRun_224 (by rfl) rfl rfl (by decide) (by simp [Value.category]) ⟨by decide, by decide⟩ ⟨by decide, by decide⟩ ?_
    clear hC
    intro S224 hC
    refine g_if_le (tgt := 285) K dL_isRun_227 (by decide) (fun u227 => absurd u227 (nI_nle hc1 (by omega))) (fun u227 => ?_)
    refine g_aload_n K dL_isRun_230 rfl ?_
    refine g_iload_n K dL_isRun_231 rfl ?_
    refine g_iload_n K dL_isRun_232 rfl ?_
    refine g_bipush K dL_isRun_233 kb_6 ?_
    refine g_rdV K (rd hC (c_X6_runOf hC) (e6)) mw_X6_runOf ml_L_30 dL_isRun_235 (by rfl) rfl rfl (by decide) (by simp [Value.category]) ⟨by decide, by decide⟩ ⟨by decide, by decide⟩ ?_
    clear hC
    intro S235 hC
    refine g_aload_n K dL_isRun_238 rfl ?_
    refine g_iload_n K dL_isRun_239 rfl ?_
    refine g_iconst K dL_isRun_240 kc_1 ?_
    refine g_rdV K (rd hC (c_X6_cartOf hC) (xc_1 hs hk hq)) mw_X6_cartOf ml_L_20 dL_isRun_241 (by rfl) rfl rfl (by decide) (by simp [Value.category]) ⟨by decide, by decide⟩ ⟨by decide, by decide⟩ ?_
    clear hC
    intro S241 hC
    refine g_icmp_gt (tgt := 285) K dL_isRun_244 (by decide) (fun u244 => absurd u244 (nI_nlt hc2 (by omega))) (fun u244 => ?_)
    refine g_aload_n K dL_isRun_247 rfl ?_
    refine g_iload_n K dL_isRun_248 rfl ?_
    refine g_iload_n K dL_isRun_249 rfl ?_
    refine g_iconst K dL_isRun_250 kc_5 ?_
    refine g_rdV K (rd hC (c_X6_runOf hC) (e5)) mw_X6_runOf ml_L_30 dL_isRun_251 (by rfl) rfl rfl (by decide) (by simp [Value.category]) ⟨by decide, by decide⟩ ⟨by decide, by decide⟩ ?_
    clear hC
    intro S251 hC
    refine g_iload_n K dL_isRun_254 rfl ?_
    refine g_icmp_gt (tgt := 285) K dL_isRun_255 (by decide) (fun u255 => absurd u255 (nI_nlt hw52 (by omega))) (fun u255 => ?_)
    refine g_aload_n K dL_isRun_258 rfl ?_
    refine g_iload_n K dL_isRun_259 rfl ?_
    refine g_iload_n K dL_isRun_260 rfl ?_
    refine g_iconst K dL_isRun_261 kc_5 ?_
    refine g_rdV K (rd hC (c_X6_runOf hC) (e5)) mw_X6_runOf ml_L_30 dL_isRun_262 (by rfl) rfl rfl (by decide) (by simp [Value.category]) ⟨by decide, by decide⟩ ⟨by decide, by decide⟩ ?_
    clear hC
    intro S262 hC
    refine g_if_le (tgt := 285) K dL_isRun_265 (by decide) (fun u265 => absurd u265 (nI_nle hw51 (by omega))) (fun u265 => ?_)
    refine g_aload_n K dL_isRun_268 rfl ?_
    refine g_iload_n K dL_isRun_269 rfl ?_
    refine g_iload_n K dL_isRun_270 rfl ?_
    refine g_bipush K dL_isRun_271 kb_8 ?_
    refine g_rdV K (rd hC (c_X6_runOf hC) (e8)) mw_X6_runOf ml_L_30 dL_isRun_273 (by rfl) rfl rfl (by decide) (by simp [Value.category]) ⟨by decide, by decide⟩ ⟨by decide, by decide⟩ ?_
    clear hC
    intro S273 hC
    refine g_iload K dL_isRun_276 rfl ?_
    refine g_icmp_ge (tgt := 285) K dL_isRun_278 (by decide) (fun u278 => absurd u278 h8) (fun u278 => ?_)
    refine g_iconst K dL_isRun_281 kc_1 ?_
    refine g_goto (tgt := 286) K dL_isRun_282 (by decide) ?_
    exact k286 _ hC
