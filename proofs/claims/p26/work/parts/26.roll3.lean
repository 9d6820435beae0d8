set_option maxHeartbeats 4000000 in
set_option maxRecDepth 100000 in
theorem c_X4_isTooLong {l : Launch} {b : Nat} {D : va_G} {cA : Nat → ClassId} {ad : Nat → Nat} {S : ST}  : MT l b D cA NN ad zT yX4_isTooLong cX4_isTooLong 1 (some .boolean) 0 [.ref (ad 169)] S (EI (if 120 < S 169 12 then 1 else 0) S) := by
  refine MT.intro (j := 0) (ls := [some (.ref (ad 169))]) pn_X4 rfl rfl rfl (fun pr en s0 mi below meth c' K _ => ?_)
  refine g_aload_n K dX4_isTooLong_0 rfl ?_
  refine g_geti K lk_X4_82 dX4_isTooLong_1 rfl (rfl : kd 169 = 4) (by decide) (by decide) rfl ?_
  refine g_bipush K dX4_isTooLong_4 kb_120 ?_
  refine g_icmp_le (tgt := 13) K dX4_isTooLong_6 (by decide) (fun u6 => ?_) (fun u6 => ?_)
  · refine g_iconst K dX4_isTooLong_13 kc_0 ?_
    refine g_zret K dX4_isTooLong_14 (by first | exact Or.inl rfl | exact Or.inr rfl | assumption) ⟨_, rfl, ?_⟩
    refine ⟨?_, rfl⟩
    grind
  · refine g_iconst K dX4_isTooLong_9 kc_1 ?_
    refine g_goto (tgt := 14) K dX4_isTooLong_10 (by decide) ?_
    refine g_zret K dX4_isTooLong_14 (by first | exact Or.inl rfl | exact Or.inr rfl | assumption) ⟨_, rfl, ?_⟩
    refine ⟨?_, rfl⟩
    grind
set_option maxHeartbeats 4000000 in
set_option maxRecDepth 100000 in
theorem c_X4_readingCount {l : Launch} {b : Nat} {D : va_G} {cA : Nat → ClassId} {ad : Nat → Nat} {S : ST}  : MT l b D cA NN ad zT yX4_readingCount cX4_readingCount 1 (some .int) 1 [.ref (ad 169)] S (EI (if 120 < S 169 12 then 120 else S 169 12) S) := by
  refine MT.intro (j := 0) (ls := [some (.ref (ad 169))]) pn_X4 rfl rfl rfl (fun pr en s0 mi below meth c' K _ => ?_)
  refine g_aload_n K dX4_readingCount_0 rfl ?_
  refine g_geti K lk_X4_82 dX4_readingCount_1 rfl (rfl : kd 169 = 4) (by decide) (by decide) rfl ?_
  refine g_bipush K dX4_readingCount_4 kb_120 ?_
  refine g_mmin K dX4_readingCount_6 mj_X4_85 ⟨by decide, by simp [Value.category, rmd], by simp, by simp⟩ ?_
  refine g_iret K dX4_readingCount_9 ⟨_, rfl, ?_⟩
  exact ⟨rfl, rfl⟩
set_option maxHeartbeats 4000000 in
set_option maxRecDepth 100000 in
theorem c_X4_reason {l : Launch} {b : Nat} {D : va_G} {cA : Nat → ClassId} {ad : Nat → Nat} {S : ST} {se bh br lf : Nat → Int32} {sp : Int32} {N : Nat} (hR : RC S se bh br lf sp N) : MT l b D cA NN ad zT yX4_reason cX4_reason 1 (some .int) 3 [.ref (ad 169)] S (EI (rsF se bh lf sp N (S 175) (S 169 12)) S) := by
  refine MT.intro (j := 0) (ls := [some (.ref (ad 169))]) pn_X4 rfl rfl rfl (fun pr en s0 mi below meth c' K _ => ?_)
  refine g_aload_n K dX4_reason_0 rfl ?_
  refine g_callVi K c_X4_isTooLong mw_X4_isTooLong ml_X4_135 dX4_reason_1 (by rfl) rfl rfl (by decide) (by simp [Value.category]) ⟨by decide, by decide⟩ ⟨by decide, by decide⟩ ?_
  refine g_if_eq (tgt := 9) K dX4_reason_4 (by decide) (fun u4 => ?_) (fun u4 => ?_)
  · refine g_aload_n K dX4_reason_9 rfl ?_
    refine g_getr (j := 175) K lk_X4_31 dX4_reason_10 rfl (by decide) (rfl : kd 169 = 4) (by decide) (by decide) rfl (rfl : rs 169 5 = 175) ?_
    refine g_geti K lk_X4_139 dX4_reason_13 rfl (rfl : kd 175 = 3) (by decide) (by decide) rfl ?_
    refine g_if_ne (tgt := 21) K dX4_reason_16 (by decide) (fun u16 => ?_) (fun u16 => ?_)
    · refine g_aload_n K dX4_reason_21 rfl ?_
      refine g_aload_n K dX4_reason_22 rfl ?_
      refine g_getr (j := 175) K lk_X4_31 dX4_reason_23 rfl (by decide) (rfl : kd 169 = 4) (by decide) (by decide) rfl (rfl : rs 169 5 = 175) ?_
      refine g_geti K lk_X4_142 dX4_reason_26 rfl (rfl : kd 175 = 3) (by decide) (by decide) rfl ?_
      refine g_callVi K (c_X4_isWholeOnPlate hR) mw_X4_isWholeOnPlate ml_X4_145 dX4_reason_29 (by rfl) rfl rfl (by decide) (by simp [Value.category]) ⟨by decide, by decide⟩ ⟨by decide, by decide⟩ ?_
      refine g_if_ne (tgt := 45) K dX4_reason_32 (by decide) (fun u32 => ?_) (fun u32 => ?_)
      · refine g_iconst K dX4_reason_45 kc_0 ?_
        refine g_iret K dX4_reason_46 ⟨_, rfl, ?_⟩
        refine ⟨?_, rfl⟩
        unfold rsF
        unfold aoF at *
        grind
      · refine g_aload_n K dX4_reason_35 rfl ?_
        refine g_callVi K (c_X4_wireTimes hR) mw_X4_wireTimes ml_X4_148 dX4_reason_36 (by rfl) rfl rfl (by decide) (by simp [Value.category]) ⟨by decide, by decide⟩ ⟨by decide, by decide⟩ ?_
        refine g_iconst K dX4_reason_39 kc_1 ?_
        refine g_icmp_le (tgt := 45) K dX4_reason_40 (by decide) (fun u40 => ?_) (fun u40 => ?_)
        · refine g_iconst K dX4_reason_45 kc_0 ?_
          refine g_iret K dX4_reason_46 ⟨_, rfl, ?_⟩
          refine ⟨?_, rfl⟩
          unfold rsF
          unfold aoF at *
          grind
        · refine g_iconst K dX4_reason_43 kc_3 ?_
          refine g_iret K dX4_reason_44 ⟨_, rfl, ?_⟩
          refine ⟨?_, rfl⟩
          unfold rsF
          unfold aoF at *
          grind
    · refine g_iconst K dX4_reason_19 kc_2 ?_
      refine g_iret K dX4_reason_20 ⟨_, rfl, ?_⟩
      refine ⟨?_, rfl⟩
      unfold rsF
      unfold aoF at *
      grind
  · refine g_iconst K dX4_reason_7 kc_1 ?_
    refine g_iret K dX4_reason_8 ⟨_, rfl, ?_⟩
    refine ⟨?_, rfl⟩
    unfold rsF
    unfold aoF at *
    grind
def twF (r : Int32) (L : Nat → Int32) : Int32 := if r = 0 then L 2 else -5
def waF (r : Int32) (L : Nat → Int32) (wt : Int32) : Int32 := if r = 3 ∧ L 4 = wt then L 5 else -5
set_option maxHeartbeats 4000000 in
set_option maxRecDepth 100000 in
theorem c_X4_toldWeight {l : Launch} {b : Nat} {D : va_G} {cA : Nat → ClassId} {ad : Nat → Nat} {S : ST} {se bh br lf : Nat → Int32} {sp : Int32} {N : Nat} (hR : RC S se bh br lf sp N) : MT l b D cA NN ad zT yX4_toldWeight cX4_toldWeight 1 (some .int) 4 [.ref (ad 169)] S (EI (twF (rsF se bh lf sp N (S 175) (S 169 12)) (S 175)) S) := by
  refine MT.intro (j := 0) (ls := [some (.ref (ad 169))]) pn_X4 rfl rfl rfl (fun pr en s0 mi below meth c' K _ => ?_)
  refine g_aload_n K dX4_toldWeight_0 rfl ?_
  refine g_callVi K (c_X4_reason hR) mw_X4_reason ml_X4_151 dX4_toldWeight_1 (by rfl) rfl rfl (by decide) (by simp [Value.category]) ⟨by decide, by decide⟩ ⟨by decide, by decide⟩ ?_
  refine g_if_ne (tgt := 17) K dX4_toldWeight_4 (by decide) (fun u4 => ?_) (fun u4 => ?_)
  · refine g_bipush K dX4_toldWeight_17 kb_m5 ?_
    refine g_iret K dX4_toldWeight_19 ⟨_, rfl, ?_⟩
    refine ⟨?_, rfl⟩
    unfold twF
    grind
  · refine g_aload_n K dX4_toldWeight_7 rfl ?_
    refine g_getr (j := 175) K lk_X4_31 dX4_toldWeight_8 rfl (by decide) (rfl : kd 169 = 4) (by decide) (by decide) rfl (rfl : rs 169 5 = 175) ?_
    refine g_geti K lk_X4_154 dX4_toldWeight_11 rfl (rfl : kd 175 = 3) (by decide) (by decide) rfl ?_
    refine g_goto (tgt := 19) K dX4_toldWeight_14 (by decide) ?_
    refine g_iret K dX4_toldWeight_19 ⟨_, rfl, ?_⟩
    refine ⟨?_, rfl⟩
    unfold twF
    grind
set_option maxHeartbeats 4000000 in
set_option maxRecDepth 100000 in
theorem c_X4_weightByAxles {l : Launch} {b : Nat} {D : va_G} {cA : Nat → ClassId} {ad : Nat → Nat} {S : ST} {se bh br lf : Nat → Int32} {sp : Int32} {N : Nat} (hR : RC S se bh br lf sp N) : MT l b D cA NN ad zT yX4_weightByAxles cX4_weightByAxles 1 (some .int) 4 [.ref (ad 169)] S (EI (waF (rsF se bh lf sp N (S 175) (S 169 12)) (S 175) (wtF bh lf sp N).1) S) := by
  refine MT.intro (j := 0) (ls := [some (.ref (ad 169))]) pn_X4 rfl rfl rfl (fun pr en s0 mi below meth c' K _ => ?_)
  refine g_aload_n K dX4_weightByAxles_0 rfl ?_
  refine g_callVi K (c_X4_reason hR) mw_X4_reason ml_X4_151 dX4_weightByAxles_1 (by rfl) rfl rfl (by decide) (by simp [Value.category]) ⟨by decide, by decide⟩ ⟨by decide, by decide⟩ ?_
  refine g_iconst K dX4_weightByAxles_4 kc_3 ?_
  refine g_icmp_ne (tgt := 32) K dX4_weightByAxles_5 (by decide) (fun u5 => ?_) (fun u5 => ?_)
  · refine g_bipush K dX4_weightByAxles_32 kb_m5 ?_
    refine g_iret K dX4_weightByAxles_34 ⟨_, rfl, ?_⟩
    refine ⟨?_, rfl⟩
    unfold waF
    grind
  · refine g_aload_n K dX4_weightByAxles_8 rfl ?_
    refine g_getr (j := 175) K lk_X4_31 dX4_weightByAxles_9 rfl (by decide) (rfl : kd 169 = 4) (by decide) (by decide) rfl (rfl : rs 169 5 = 175) ?_
    refine g_geti K lk_X4_157 dX4_weightByAxles_12 rfl (rfl : kd 175 = 3) (by decide) (by decide) rfl ?_
    refine g_aload_n K dX4_weightByAxles_15 rfl ?_
    refine g_callVi K (c_X4_wireTimes hR) mw_X4_wireTimes ml_X4_148 dX4_weightByAxles_16 (by rfl) rfl rfl (by decide) (by simp [Value.category]) ⟨by decide, by decide⟩ ⟨by decide, by decide⟩ ?_
    refine g_icmp_ne (tgt := 32) K dX4_weightByAxles_19 (by decide) (fun u19 => ?_) (fun u19 => ?_)
    · refine g_bipush K dX4_weightByAxles_32 kb_m5 ?_
      refine g_iret K dX4_weightByAxles_34 ⟨_, rfl, ?_⟩
      refine ⟨?_, rfl⟩
      unfold waF
      grind
    · refine g_aload_n K dX4_weightByAxles_22 rfl ?_
      refine g_getr (j := 175) K lk_X4_31 dX4_weightByAxles_23 rfl (by decide) (rfl : kd 169 = 4) (by decide) (by decide) rfl (rfl : rs 169 5 = 175) ?_
      refine g_geti K lk_X4_160 dX4_weightByAxles_26 rfl (rfl : kd 175 = 3) (by decide) (by decide) rfl ?_
      refine g_goto (tgt := 34) K dX4_weightByAxles_29 (by decide) ?_
      refine g_iret K dX4_weightByAxles_34 ⟨_, rfl, ?_⟩
      refine ⟨?_, rfl⟩
      unfold waF
      grind
/-- a row of settings apart from the run's own rows -/
def SettAt (k : Nat) : Prop := kd k = 8 ∧ ln k = 6 ∧ k < NN ∧ (k < 169 ∨ 179 < k)
theorem SettAt.k0 {k : Nat} (h : SettAt k) : kd k = 8 := h.1
theorem SettAt.l0 {k : Nat} (h : SettAt k) : ln k = 6 := h.2.1
theorem SettAt.n0 {k : Nat} (h : SettAt k) : k < NN := h.2.2.1
def bhR (S : ST) (c i : Nat) : Nat → Int32 := fun a => if a < i then sumF (S (c + 2)) (a + 1) else S 177 a
def brR (S : ST) (c N i : Nat) : Nat → Int32 := fun a => if a < i then borneF (S (c + 1)) (S (c + 3)) N (nI a) else S 178 a
def lfR (S : ST) (c i : Nat) : Nat → Int32 := fun a => if a < i then S (c + 3) a else S 179 a
def prepI (S : ST) (c k N : Nat) (sp : Int32) (i : Nat) : ST := str (str (str (stw (str (stw S 169 11 sp) 176 (S k)) 169 10 (nI N)) 177 (bhR S c i)) 178 (brR S c N i)) 179 (lfR S c i)
def prepS (S : ST) (c k N : Nat) (sp : Int32) : ST := stw (prepI S c k N sp N) 169 12 (quoUF (S k 0 + sumF (S (c + 2)) N) sp + 1)
theorem prepI_n {S : ST} {c k N i a : Nat} {sp : Int32} (h : a < 169 ∨ (169 < a ∧ a < 176) ∨ 179 < a) : prepI S c k N sp i a = S a := by
  unfold prepI
  rw [str_n (by omega), str_n (by omega), str_n (by omega), stw_n (by omega), str_n (by omega), stw_n (by omega)]
theorem prepI_10 {S : ST} {c k N i : Nat} {sp : Int32} : prepI S c k N sp i 169 10 = nI N := by simp [prepI, str_app, stw_app]
theorem prepI_11 {S : ST} {c k N i : Nat} {sp : Int32} : prepI S c k N sp i 169 11 = sp := by simp [prepI, str_app, stw_app]
theorem prepI_176 {S : ST} {c k N i : Nat} {sp : Int32} : prepI S c k N sp i 176 = S k := by
  unfold prepI
  rw [str_n (by decide), str_n (by decide), str_n (by decide), stw_n (by decide), str_s]
theorem upd_if {g f : Nat → Int32} {i : Nat} {x : Int32} (h : x = g i) : upd (fun a => if a < i then g a else f a) i x = fun a => if a < i + 1 then g a else f a := by
  funext a
  unfold upd
  by_cases e : a = i
  · subst e
    simp [h]
  · by_cases e2 : a < i
    · simp [e, e2, show a < i + 1 by omega]
    · simp [e, e2, show ¬ a < i + 1 by omega]
theorem stw_str_n {S : ST} {k k2 i : Nat} {f : Nat → Int32} {x : Int32} (h : k ≠ k2) : stw (str S k2 f) k i x = str (stw S k i x) k2 f := by
  funext a
  unfold stw str
  by_cases e : a = k
  · subst e
    simp [h]
  · by_cases e2 : a = k2
    · subst e2
      simp [Ne.symm h]
    · simp [e, e2]
theorem str_str {S : ST} {k : Nat} {f g : Nat → Int32} : str (str S k f) k g = str S k g := by
  funext a
  unfold str
  by_cases e : a = k <;> simp [e]
theorem prepI_step {S : ST} {c k N i : Nat} {sp x y z : Int32} (hx : x = sumF (S (c + 2)) (i + 1)) (hy : y = borneF (S (c + 1)) (S (c + 3)) N (nI i)) (hz : z = S (c + 3) i) : stw (stw (stw (prepI S c k N sp i) 177 i x) 178 i y) 179 i z = prepI S c k N sp (i + 1) := by
  unfold prepI
  rw [stw_str_n (by decide), stw_str_n (by decide), stw_str, stw_str_n (by decide), stw_str, stw_str]
  unfold bhR brR lfR
  rw [upd_if (g := fun a => sumF (S (c + 2)) (a + 1)) hx, upd_if (g := fun a => borneF (S (c + 1)) (S (c + 3)) N (nI a)) hy, upd_if (g := fun a => S (c + 3) a) hz]
theorem nar01 {x : Int32} (h : x = 0 ∨ x = 1) : vp_nar .boolean x = x := by
  rcases h with rfl | rfl <;> decide
theorem prep_0 {S : ST} {c k N : Nat} {sp : Int32} : stw (str (stw S 169 11 sp) 176 (S k)) 169 10 (nI N) = prepI S c k N sp 0 := by
  have e1 : bhR S c 0 = S 177 := rfl
  have e2 : brR S c N 0 = S 178 := rfl
  have e3 : lfR S c 0 = S 179 := rfl
  unfold prepI
  rw [e1, e2, e3]
  funext a
  by_cases h1 : a = 179
  · subst h1; rw [str_s, stw_n (by decide), str_n (by decide), stw_n (by decide)]
  · rw [str_n h1]
    by_cases h2 : a = 178
    · subst h2; rw [str_s, stw_n (by decide), str_n (by decide), stw_n (by decide)]
    · rw [str_n h2]
      by_cases h3 : a = 177
      · subst h3; rw [str_s, stw_n (by decide), str_n (by decide), stw_n (by decide)]
      · rw [str_n h3]
theorem prep_rc {S : ST} {c k N : Nat} {sp : Int32} (h5 : N ≤ 5) : RC (prepS S c k N sp) (S k) (bhR S c N) (brR S c N N) (lfR S c N) sp N := by
  unfold RC prepS
  refine ⟨by rw [stw_app, if_neg (by decide)]; exact prepI_10, by rw [stw_app, if_neg (by decide)]; exact prepI_11, by rw [stw_n (by decide)]; exact prepI_176, ?_, ?_, ?_, h5⟩
  · rw [stw_n (by decide)]
    unfold prepI
    rw [str_n (by decide), str_n (by decide), str_s]
  · rw [stw_n (by decide)]
    unfold prepI
    rw [str_n (by decide), str_s]
  · rw [stw_n (by decide)]
    unfold prepI
    rw [str_s]
theorem prep_n {S : ST} {c k N a : Nat} {sp : Int32} (h : a < 169 ∨ (169 < a ∧ a < 176) ∨ 179 < a) : prepS S c k N sp a = S a := by
  unfold prepS
  rw [stw_n (by omega), prepI_n h]
theorem prep_12 {S : ST} {c k N : Nat} {sp : Int32} : prepS S c k N sp 169 12 = quoUF (S k 0 + sumF (S (c + 2)) N) sp + 1 := by
  unfold prepS
  rw [stw_app, if_pos ⟨rfl, rfl⟩]
set_option maxHeartbeats 4000000 in
set_option maxRecDepth 100000 in
theorem c_X4_prepare {l : Launch} {b : Nat} {D : va_G} {cA : Nat → ClassId} {ad : Nat → Nat} {S : ST} {c k N : Nat} {x : Int32} (hc : CartAt c) (hcl : c + 3 < 165) (hk : SettAt k) (hN : S c 3 = nI N) (h5 : N ≤ 5) (hz : ∀ a, a < N → S (c + 3) a = 0 ∨ S (c + 3) a = 1) : MT l b D cA NN ad zT yX4_prepare cX4_prepare 6 none 2 [.ref (ad 169), .ref (ad c), .int x, .ref (ad k)] S (EV (prepS S c k N x)) := by
  have hk4 := hk.2.2.2
  refine MT.intro (j := 2) (ls := [some (.ref (ad 169)), some (.ref (ad c)), some (.int x), some (.ref (ad k)), none, none]) pn_X4 rfl rfl rfl (fun pr en s0 mi below meth c' K _ => ?_)
  have lp : ∀ (fuel : Nat) (i : Nat) (y : Int32), (N + 1 ≤ i + fuel) → (i ≤ N) → (y = sumF (S (c + 2)) i) → G pr l en (rmd 2) s0 mi (List.toArray [.ref (ad 169), .ref (ad c), .int x, .ref (ad k)]) below meth c' (MQ below (QQ b D cA NN ad zT (EV (prepS S c k N x))) (List.toArray [.ref (ad 169), .ref (ad c), .int x, .ref (ad k)]) s0 0 0 (aF b)) b D cA 6 NN ad zT 0 0 31 [some (.ref (ad 169)), some (.ref (ad c)), some (.int x), some (.ref (ad k)), some (.int y), some (.int (nI i))] [] (prepI S c k N x i) := by
    intro fuel
    induction fuel with
    | zero =>
      intro i  y  hi hi2 hy
      omega
    | succ fuel ih =>
      intro i  y  hi hi2 hy
      refine g_iload K dX4_prepare_31 rfl ?_
      refine g_aload_n K dX4_prepare_33 rfl ?_
      refine g_geti K lk_X4_69 dX4_prepare_34 rfl (rfl : kd 169 = 4) (by decide) (by decide) prepI_10 ?_
      refine g_icmp_ge (tgt := 94) K dX4_prepare_37 (by decide) (fun u37 => ?_) (fun u37 => ?_)
      · have hiN : i = N := by
          rw [nI_leI (by omega) (by omega)] at u37
          omega
        subst hiN
        refine g_aload_n K dX4_prepare_94 rfl ?_
        refine g_getr (j := 176) K lk_X4_35 dX4_prepare_95 rfl (by decide) (rfl : kd 169 = 4) (by decide) (by decide) rfl (rfl : rs 169 6 = 176) ?_
        refine g_iconst K dX4_prepare_98 kc_0 ?_
        refine g_iald (j := 0) K dX4_prepare_99 rfl ln_176 (by decide) (rfl : kd 176 = 8) (by decide) (congrFun prepI_176 0) ?_
        refine g_iload K dX4_prepare_100 rfl ?_
        refine g_iadd K dX4_prepare_102 ?_
        refine g_aload_n K dX4_prepare_103 rfl ?_
        refine g_geti K lk_X4_54 dX4_prepare_104 rfl (rfl : kd 169 = 4) (by decide) (by decide) prepI_11 ?_
        refine g_callSi K c_X6_quotientUp mw_X6_quotientUp ml_X4_78 dX4_prepare_107 (by rfl) rfl (by simp [Value.category]) ⟨by decide, by decide⟩ ⟨by decide, by decide⟩ ?_
        refine g_istore (ls2 := [_, _, _, _, _, some (.int _)]) K dX4_prepare_110 (by decide) rfl ?_
        refine g_aload_n K dX4_prepare_112 rfl ?_
        refine g_iload K dX4_prepare_113 rfl ?_
        refine g_iconst K dX4_prepare_115 kc_1 ?_
        refine g_iadd K dX4_prepare_116 ?_
        refine g_puti K lk_X4_82 lq_X4_12 dX4_prepare_117 (put_i _) rfl (rfl : kd 169 = 4) (by decide) (by decide) ?_
        refine g_vret K dX4_prepare_120 ⟨rfl, ?_⟩
        show stw (prepI S c k i x i) 169 12 (quoUF (S k 0 + y) x + 1) = prepS S c k i x
        rw [hy]
        rfl
      · have hiN : i < N := by
          rw [nI_leI (by omega) (by omega)] at u37
          omega
        refine g_iload K dX4_prepare_40 rfl ?_
        refine g_aload_n K dX4_prepare_42 rfl ?_
        refine g_getr (j := (c + 2)) K lk_X4_70 dX4_prepare_43 rfl (by decide) hc.k0 hc.n0 (by decide) rfl hc.r1 ?_
        refine g_iload K dX4_prepare_46 rfl ?_
        refine g_iald (j := i) K dX4_prepare_48 rfl hc.l2 (by omega) hc.k2 hc.n2 (congrFun (prepI_n (by omega)) i) ?_
        refine g_iadd K dX4_prepare_49 ?_
        refine g_istore (ls2 := [_, _, _, _, some (.int _), _]) K dX4_prepare_50 (by decide) rfl ?_
        refine g_aload_n K dX4_prepare_52 rfl ?_
        refine g_getr (j := 177) K lk_X4_38 dX4_prepare_53 rfl (by decide) (rfl : kd 169 = 4) (by decide) (by decide) rfl (rfl : rs 169 7 = 177) ?_
        refine g_iload K dX4_prepare_56 rfl ?_
        refine g_iload K dX4_prepare_58 rfl ?_
        refine g_iast (j := i) K dX4_prepare_60 rfl ln_177 (by omega) (rfl : kd 177 = 8) (by decide) rfl ?_
        refine g_aload_n K dX4_prepare_61 rfl ?_
        refine g_getr (j := 178) K lk_X4_41 dX4_prepare_62 rfl (by decide) (rfl : kd 169 = 4) (by decide) (by decide) rfl (rfl : rs 169 8 = 178) ?_
        refine g_iload K dX4_prepare_65 rfl ?_
        refine g_aload_n K dX4_prepare_67 rfl ?_
        refine g_iload K dX4_prepare_68 rfl ?_
        refine g_callVi K (c_X0_borneBy (N := N) hc (by rw [stw_n (by omega), prepI_n (by omega)]; exact hN) h5) mw_X0_borneBy ml_X4_73 dX4_prepare_70 (by rfl) rfl (by rw [hc.k0]; rfl) hc.n0 (by simp [Value.category]) ⟨by decide, by decide⟩ ⟨by decide, by decide⟩ ?_
        refine g_nm (y := borneF (S (c + 1)) (S (c + 3)) N (nI i)) (by rw [stw_n (by omega), stw_n (by omega), prepI_n (by omega), prepI_n (by omega)]) ?_
        refine g_iast (j := i) K dX4_prepare_73 rfl ln_178 (by omega) (rfl : kd 178 = 8) (by decide) rfl ?_
        refine g_aload_n K dX4_prepare_74 rfl ?_
        refine g_getr (j := 179) K lk_X4_44 dX4_prepare_75 rfl (by decide) (rfl : kd 169 = 4) (by decide) (by decide) rfl (rfl : rs 169 9 = 179) ?_
        refine g_iload K dX4_prepare_78 rfl ?_
        refine g_aload_n K dX4_prepare_80 rfl ?_
        refine g_getr (j := (c + 3)) K lk_X4_77 dX4_prepare_81 rfl (by decide) hc.k0 hc.n0 (by decide) rfl hc.r2 ?_
        refine g_iload K dX4_prepare_84 rfl ?_
        refine g_zald (j := i) K dX4_prepare_86 rfl hc.l3 (by omega) hc.k3 hc.n3 (congrFun ((stw_n (by omega)).trans ((stw_n (by omega)).trans (prepI_n (by omega)))) i) ?_
        refine g_zast (j := i) K dX4_prepare_87 rfl ln_179 (by omega) (rfl : kd 179 = 9) (by decide) (nar01 (hz i hiN)) ?_
        refine g_iinc (ls2 := [_, _, _, _, _, some (.int _)]) K dX4_prepare_88 rfl kc_1 rfl ?_
        refine g_goto (tgt := 31) K dX4_prepare_91 (by decide) ?_
        rw [nI_1, prepI_step (by rw [hy]; rfl) rfl rfl]
        exact ih (i + 1) _ (by omega) (by omega) (by rw [hy]; rfl)
  refine g_aload_n K dX4_prepare_0 rfl ?_
  refine g_iload_n K dX4_prepare_1 rfl ?_
  refine g_puti K lk_X4_54 lq_X4_11 dX4_prepare_2 (put_i _) rfl (rfl : kd 169 = 4) (by decide) (by decide) ?_
  refine g_aload_n K dX4_prepare_5 rfl ?_
  refine g_iconst K dX4_prepare_6 kc_0 ?_
  refine g_aload_n K dX4_prepare_7 rfl ?_
  refine g_getr (j := 176) K lk_X4_35 dX4_prepare_8 rfl (by decide) (rfl : kd 169 = 4) (by decide) (by decide) rfl (rfl : rs 169 6 = 176) ?_
  refine g_iconst K dX4_prepare_11 kc_0 ?_
  refine g_bipush K dX4_prepare_12 kb_6 ?_
  refine g_copyW (N := 6) (t := 0) (ty := .int) K dX4_prepare_14 mj_X4_58 hk.k0 (rfl : kd 176 = 8) (by decide) (by decide) rfl rfl rfl rfl (by rw [hk.l0]; decide) ln_176 hk.n0 (by decide) (by decide) (fun _ _ => rfl) ⟨by decide, by simp [Value.category, rmd]; decide⟩ (stw_n (by omega)) ?_
  refine g_aload_n K dX4_prepare_17 rfl ?_
  refine g_aload_n K dX4_prepare_18 rfl ?_
  refine g_geti K lk_X4_64 dX4_prepare_19 rfl hc.k0 hc.n0 (by decide) ((congrFun ((str_n (by omega)).trans (stw_n (by omega))) 3).trans hN) ?_
  refine g_puti K lk_X4_69 lq_X4_10 dX4_prepare_22 (put_i _) rfl (rfl : kd 169 = 4) (by decide) (by decide) ?_
  refine g_iconst K dX4_prepare_25 kc_0 ?_
  refine g_istore (ls2 := [_, _, _, _, some (.int _), _]) K dX4_prepare_26 (by decide) rfl ?_
  refine g_iconst K dX4_prepare_28 kc_0 ?_
  refine g_istore (ls2 := [_, _, _, _, _, some (.int _)]) K dX4_prepare_29 (by decide) rfl ?_
  rw [prep_0]
  exact lp (N + 1) 0 0 (by omega) (by omega) rfl
