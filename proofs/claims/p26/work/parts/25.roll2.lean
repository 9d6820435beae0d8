theorem pk_sub1 {t w : Nat} (h : w ≤ t + 1) : nI t - nI w + 1 = nI (t + 1 - w) := by
  rw [← pk_sub h, ← nI_1 t]
  grind
set_option maxHeartbeats 4000000 in
set_option maxRecDepth 100000 in
theorem c_X4_hasSettled {l : Launch} {b : Nat} {D : va_G} {cA : Nat → ClassId} {ad : Nat → Nat} {S : ST} {se bh br lf : Nat → Int32} {sp : Int32} {N : Nat} {t w : Nat} (hR : RC S se bh br lf sp N) (ht : t < 120) (hw : se 3 = nI w) (hw1 : 1 ≤ w) (hw9 : w ≤ 9) : MT l b D cA NN ad zT yX4_hasSettled cX4_hasSettled 6 (some .boolean) 1 [.ref (ad 169), .int (nI t)] S (EI (stF (S 172) w (se 4) t) S) := by
  refine MT.intro (j := 4) (ls := [some (.ref (ad 169)), some (.int (nI t)), none, none, none, none]) pn_X4 rfl rfl rfl (fun pr en s0 mi below meth c' K _ => ?_)
  have lp : ∀ (fuel : Nat) (k : Nat), (w ≤ k + fuel) → (k ≤ w - 1) → (w ≤ t + 1) → G pr l en (rmd 1) s0 mi (List.toArray [.ref (ad 169), .int (nI t)]) below meth c' (MQ below (QQ b D cA NN ad zT (EI (stF (S 172) w (se 4) t) S)) (List.toArray [.ref (ad 169), .int (nI t)]) s0 0 0 (aF b)) b D cA 6 NN ad zT 0 0 35 [some (.ref (ad 169)), some (.int (nI t)), some (.int (nI (t + 1 - w))), some (.int (mnF (S 172) (t + 1 - w) (S 172 t) k)), some (.int (mxF (S 172) (t + 1 - w) (S 172 t) k)), some (.int (nI (t + 1 - w + k)))] [] S := by
    intro fuel
    induction fuel with
    | zero =>
      intro k  hk hk2 hwt
      omega
    | succ fuel ih =>
      intro k  hk hk2 hwt
      refine g_iload K dX4_hasSettled_35 rfl ?_
      refine g_iload_n K dX4_hasSettled_37 rfl ?_
      refine g_icmp_ge (tgt := 73) K dX4_hasSettled_38 (by decide) (fun u38 => ?_) (fun u38 => ?_)
      · have hkw : k = w - 1 := by
          rw [nI_leI (by omega) (by omega)] at u38
          omega
        refine g_iload K dX4_hasSettled_73 rfl ?_
        refine g_iload_n K dX4_hasSettled_75 rfl ?_
        refine g_isub K dX4_hasSettled_76 ?_
        refine g_aload_n K dX4_hasSettled_77 rfl ?_
        refine g_getr (j := 176) K lk_X4_35 dX4_hasSettled_78 rfl (by decide) (rfl : kd 169 = 4) (by decide) (by decide) rfl (rfl : rs 169 6 = 176) ?_
        refine g_iconst K dX4_hasSettled_81 kc_4 ?_
        refine g_iald (j := 4) K dX4_hasSettled_82 rfl ln_176 (by decide) (rfl : kd 176 = 8) (by decide) (hR.se 4) ?_
        refine g_icmp_gt (tgt := 90) K dX4_hasSettled_83 (by decide) (fun u83 => ?_) (fun u83 => ?_)
        · refine g_iconst K dX4_hasSettled_90 kc_0 ?_
          refine g_zret K dX4_hasSettled_91 (by first | exact Or.inl rfl | exact Or.inr rfl | assumption) ⟨_, rfl, ?_⟩
          refine ⟨?_, rfl⟩
          subst hkw
          unfold stF
          first
            | rw [if_pos ⟨hwt, by grind⟩]
            | rw [if_neg (fun q => by grind)]
        · refine g_iconst K dX4_hasSettled_86 kc_1 ?_
          refine g_goto (tgt := 91) K dX4_hasSettled_87 (by decide) ?_
          refine g_zret K dX4_hasSettled_91 (by first | exact Or.inl rfl | exact Or.inr rfl | assumption) ⟨_, rfl, ?_⟩
          refine ⟨?_, rfl⟩
          subst hkw
          unfold stF
          first
            | rw [if_pos ⟨hwt, by grind⟩]
            | rw [if_neg (fun q => by grind)]
      · have hkw : k < w - 1 := by
          rw [nI_leI (by omega) (by omega)] at u38
          omega
        refine g_iload_n K dX4_hasSettled_41 rfl ?_
        refine g_aload_n K dX4_hasSettled_42 rfl ?_
        refine g_getr (j := 172) K lk_X4_18 dX4_hasSettled_43 rfl (by decide) (rfl : kd 169 = 4) (by decide) (by decide) rfl (rfl : rs 169 2 = 172) ?_
        refine g_iload K dX4_hasSettled_46 rfl ?_
        refine g_iald (j := (t + 1 - w + k)) K dX4_hasSettled_48 rfl ln_172 (by omega) (rfl : kd 172 = 8) (by decide) rfl ?_
        refine g_mmin K dX4_hasSettled_49 mj_X4_85 ⟨by decide, by simp [Value.category, rmd], by simp, by simp⟩ ?_
        refine g_istore_n (ls2 := [_, _, _, some (.int _), _, _]) K dX4_hasSettled_52 (by decide) rfl ?_
        refine g_iload K dX4_hasSettled_53 rfl ?_
        refine g_aload_n K dX4_hasSettled_55 rfl ?_
        refine g_getr (j := 172) K lk_X4_18 dX4_hasSettled_56 rfl (by decide) (rfl : kd 169 = 4) (by decide) (by decide) rfl (rfl : rs 169 2 = 172) ?_
        refine g_iload K dX4_hasSettled_59 rfl ?_
        refine g_iald (j := (t + 1 - w + k)) K dX4_hasSettled_61 rfl ln_172 (by omega) (rfl : kd 172 = 8) (by decide) rfl ?_
        refine g_mmax K dX4_hasSettled_62 mj_X4_129 ⟨by decide, by simp [Value.category, rmd], by simp, by simp⟩ ?_
        refine g_istore (ls2 := [_, _, _, _, some (.int _), _]) K dX4_hasSettled_65 (by decide) rfl ?_
        refine g_iinc (ls2 := [_, _, _, _, _, some (.int _)]) K dX4_hasSettled_67 rfl kc_1 rfl ?_
        refine g_goto (tgt := 35) K dX4_hasSettled_70 (by decide) ?_
        rw [nI_1]
        exact ih (k + 1) (by omega) (by omega) hwt
  refine g_iload_n K dX4_hasSettled_0 rfl ?_
  refine g_aload_n K dX4_hasSettled_1 rfl ?_
  refine g_getr (j := 176) K lk_X4_35 dX4_hasSettled_2 rfl (by decide) (rfl : kd 169 = 4) (by decide) (by decide) rfl (rfl : rs 169 6 = 176) ?_
  refine g_iconst K dX4_hasSettled_5 kc_3 ?_
  refine g_iald (j := 3) K dX4_hasSettled_6 rfl ln_176 (by decide) (rfl : kd 176 = 8) (by decide) ((hR.se 3).trans hw) ?_
  refine g_isub K dX4_hasSettled_7 ?_
  refine g_iconst K dX4_hasSettled_8 kc_1 ?_
  refine g_iadd K dX4_hasSettled_9 ?_
  refine g_istore_n (ls2 := [_, _, some (.int _), _, _, _]) K dX4_hasSettled_10 (by decide) rfl ?_
  refine g_iload_n K dX4_hasSettled_11 rfl ?_
  refine g_if_ge (tgt := 17) K dX4_hasSettled_12 (by decide) (fun u12 => ?_) (fun u12 => ?_)
  · have hwt : w ≤ t + 1 := by
      rcases Nat.lt_or_ge (t + 1) w with q | q
      · exfalso
        have e : nI t - nI w + 1 = nI (t + 1) - nI w := by rw [← nI_1 t]; grind
        rw [e] at u12
        exact absurd (pk_sneg (by omega) q) (by grind)
      · exact q
    rw [pk_sub1 hwt]
    refine g_aload_n K dX4_hasSettled_17 rfl ?_
    refine g_getr (j := 172) K lk_X4_18 dX4_hasSettled_18 rfl (by decide) (rfl : kd 169 = 4) (by decide) (by decide) rfl (rfl : rs 169 2 = 172) ?_
    refine g_iload_n K dX4_hasSettled_21 rfl ?_
    refine g_iald (j := t) K dX4_hasSettled_22 rfl ln_172 (by omega) (rfl : kd 172 = 8) (by decide) rfl ?_
    refine g_istore_n (ls2 := [_, _, _, some (.int _), _, _]) K dX4_hasSettled_23 (by decide) rfl ?_
    refine g_aload_n K dX4_hasSettled_24 rfl ?_
    refine g_getr (j := 172) K lk_X4_18 dX4_hasSettled_25 rfl (by decide) (rfl : kd 169 = 4) (by decide) (by decide) rfl (rfl : rs 169 2 = 172) ?_
    refine g_iload_n K dX4_hasSettled_28 rfl ?_
    refine g_iald (j := t) K dX4_hasSettled_29 rfl ln_172 (by omega) (rfl : kd 172 = 8) (by decide) rfl ?_
    refine g_istore (ls2 := [_, _, _, _, some (.int _), _]) K dX4_hasSettled_30 (by decide) rfl ?_
    refine g_iload_n K dX4_hasSettled_32 rfl ?_
    refine g_istore (ls2 := [_, _, _, _, _, some (.int _)]) K dX4_hasSettled_33 (by decide) rfl ?_
    exact lp w 0 (by omega) (by omega) hwt
  · have hwt : ¬ w ≤ t + 1 := by
      intro q
      rw [pk_sub1 q] at u12
      exact u12 (nI_pos' (by omega))
    refine g_iconst K dX4_hasSettled_15 kc_0 ?_
    refine g_zret K dX4_hasSettled_16 (by first | exact Or.inl rfl | exact Or.inr rfl | assumption) ⟨_, rfl, ?_⟩
    refine ⟨?_, rfl⟩
    unfold stF
    rw [if_neg (fun q => hwt q.1)]
set_option maxHeartbeats 4000000 in
set_option maxRecDepth 100000 in
theorem c_X4_meanAt {l : Launch} {b : Nat} {D : va_G} {cA : Nat → ClassId} {ad : Nat → Nat} {S : ST} {se bh br lf : Nat → Int32} {sp : Int32} {N : Nat} {t w : Nat} (hR : RC S se bh br lf sp N) (ht : t < 120) (hw : se 3 = nI w) (hw1 : 1 ≤ w) (hw9 : w ≤ 9) (hwt : w ≤ t + 1) : MT l b D cA NN ad zT yX4_meanAt cX4_meanAt 4 (some .int) 1 [.ref (ad 169), .int (nI t)] S (EI (meF (S 172) w t) S) := by
  refine MT.intro (j := 2) (ls := [some (.ref (ad 169)), some (.int (nI t)), none, none]) pn_X4 rfl rfl rfl (fun pr en s0 mi below meth c' K _ => ?_)
  have lp : ∀ (fuel : Nat) (k : Nat), (w + 1 ≤ k + fuel) → (k ≤ w) → G pr l en (rmd 1) s0 mi (List.toArray [.ref (ad 169), .int (nI t)]) below meth c' (MQ below (QQ b D cA NN ad zT (EI (meF (S 172) w t) S)) (List.toArray [.ref (ad 169), .int (nI t)]) s0 0 0 (aF b)) b D cA 4 NN ad zT 0 0 17 [some (.ref (ad 169)), some (.int (nI t)), some (.int (suF (S 172) (t + 1 - w) k)), some (.int (nI (t + 1 - w + k)))] [] S := by
    intro fuel
    induction fuel with
    | zero =>
      intro k  hk hk2
      omega
    | succ fuel ih =>
      intro k  hk hk2
      refine g_iload_n K dX4_meanAt_17 rfl ?_
      refine g_iload_n K dX4_meanAt_18 rfl ?_
      refine g_icmp_gt (tgt := 37) K dX4_meanAt_19 (by decide) (fun u19 => ?_) (fun u19 => ?_)
      · have hkw : k = w := by
          rw [nI_ltI (by omega) (by omega)] at u19
          omega
        subst hkw
        refine g_iload_n K dX4_meanAt_37 rfl ?_
        refine g_aload_n K dX4_meanAt_38 rfl ?_
        refine g_getr (j := 176) K lk_X4_35 dX4_meanAt_39 rfl (by decide) (rfl : kd 169 = 4) (by decide) (by decide) rfl (rfl : rs 169 6 = 176) ?_
        refine g_iconst K dX4_meanAt_42 kc_3 ?_
        refine g_iald (j := 3) K dX4_meanAt_43 rfl ln_176 (by decide) (rfl : kd 176 = 8) (by decide) ((hR.se 3).trans hw) ?_
        refine g_callSi K c_X6_quotient mw_X6_quotient ml_X4_132 dX4_meanAt_44 (by rfl) rfl (by simp [Value.category]) ⟨by decide, by decide⟩ ⟨by decide, by decide⟩ ?_
        refine g_iret K dX4_meanAt_47 ⟨_, rfl, ?_⟩
        refine ⟨?_, rfl⟩
        unfold meF quoF
        rw [if_pos (show (0 : Int32) < nI k from nI_lt (a := 0) (by omega) (by omega))]
      · have hkw : k < w := by
          rw [nI_ltI (by omega) (by omega)] at u19
          omega
        refine g_iload_n K dX4_meanAt_22 rfl ?_
        refine g_aload_n K dX4_meanAt_23 rfl ?_
        refine g_getr (j := 172) K lk_X4_18 dX4_meanAt_24 rfl (by decide) (rfl : kd 169 = 4) (by decide) (by decide) rfl (rfl : rs 169 2 = 172) ?_
        refine g_iload_n K dX4_meanAt_27 rfl ?_
        refine g_iald (j := (t + 1 - w + k)) K dX4_meanAt_28 rfl ln_172 (by omega) (rfl : kd 172 = 8) (by decide) rfl ?_
        refine g_iadd K dX4_meanAt_29 ?_
        refine g_istore_n (ls2 := [_, _, some (.int _), _]) K dX4_meanAt_30 (by decide) rfl ?_
        refine g_iinc (ls2 := [_, _, _, some (.int _)]) K dX4_meanAt_31 rfl kc_1 rfl ?_
        refine g_goto (tgt := 17) K dX4_meanAt_34 (by decide) ?_
        rw [nI_1]
        exact ih (k + 1) (by omega) (by omega)
  refine g_iconst K dX4_meanAt_0 kc_0 ?_
  refine g_istore_n (ls2 := [_, _, some (.int _), _]) K dX4_meanAt_1 (by decide) rfl ?_
  refine g_iload_n K dX4_meanAt_2 rfl ?_
  refine g_aload_n K dX4_meanAt_3 rfl ?_
  refine g_getr (j := 176) K lk_X4_35 dX4_meanAt_4 rfl (by decide) (rfl : kd 169 = 4) (by decide) (by decide) rfl (rfl : rs 169 6 = 176) ?_
  refine g_iconst K dX4_meanAt_7 kc_3 ?_
  refine g_iald (j := 3) K dX4_meanAt_8 rfl ln_176 (by decide) (rfl : kd 176 = 8) (by decide) ((hR.se 3).trans hw) ?_
  refine g_isub K dX4_meanAt_9 ?_
  refine g_iconst K dX4_meanAt_10 kc_1 ?_
  refine g_iadd K dX4_meanAt_11 ?_
  rw [pk_sub1 hwt]
  refine g_iconst K dX4_meanAt_12 kc_0 ?_
  refine g_mmax K dX4_meanAt_13 mj_X4_129 ⟨by decide, by simp [Value.category, rmd], by simp, by simp⟩ ?_
  rw [if_neg (nI_pos (by omega))]
  refine g_istore_n (ls2 := [_, _, _, some (.int _)]) K dX4_meanAt_16 (by decide) rfl ?_
  exact lp (w + 1) 0 (by omega) (by omega)
set_option maxHeartbeats 4000000 in
set_option maxRecDepth 100000 in
theorem c_X4_wireSpeed {l : Launch} {b : Nat} {D : va_G} {cA : Nat → ClassId} {ad : Nat → Nat} {S : ST} {se bh br lf : Nat → Int32} {sp : Int32} {N : Nat} (hR : RC S se bh br lf sp N) : MT l b D cA NN ad zT yX4_wireSpeed cX4_wireSpeed 1 (some .int) 2 [.ref (ad 169)] S (EI (quoF (se 5) (quoUF (se 5) sp)) S) := by
  refine MT.intro (j := 0) (ls := [some (.ref (ad 169))]) pn_X4 rfl rfl rfl (fun pr en s0 mi below meth c' K _ => ?_)
  refine g_aload_n K dX4_wireSpeed_0 rfl ?_
  refine g_getr (j := 176) K lk_X4_35 dX4_wireSpeed_1 rfl (by decide) (rfl : kd 169 = 4) (by decide) (by decide) rfl (rfl : rs 169 6 = 176) ?_
  refine g_iconst K dX4_wireSpeed_4 kc_5 ?_
  refine g_iald (j := 5) K dX4_wireSpeed_5 rfl ln_176 (by decide) (rfl : kd 176 = 8) (by decide) (hR.se 5) ?_
  refine g_aload_n K dX4_wireSpeed_6 rfl ?_
  refine g_getr (j := 176) K lk_X4_35 dX4_wireSpeed_7 rfl (by decide) (rfl : kd 169 = 4) (by decide) (by decide) rfl (rfl : rs 169 6 = 176) ?_
  refine g_iconst K dX4_wireSpeed_10 kc_5 ?_
  refine g_iald (j := 5) K dX4_wireSpeed_11 rfl ln_176 (by decide) (rfl : kd 176 = 8) (by decide) (hR.se 5) ?_
  refine g_aload_n K dX4_wireSpeed_12 rfl ?_
  refine g_geti K lk_X4_54 dX4_wireSpeed_13 rfl (rfl : kd 169 = 4) (by decide) (by decide) hR.sp ?_
  refine g_callSi K c_X6_quotientUp mw_X6_quotientUp ml_X4_78 dX4_wireSpeed_16 (by rfl) rfl (by simp [Value.category]) ⟨by decide, by decide⟩ ⟨by decide, by decide⟩ ?_
  refine g_callSi K c_X6_quotient mw_X6_quotient ml_X4_132 dX4_wireSpeed_19 (by rfl) rfl (by simp [Value.category]) ⟨by decide, by decide⟩ ⟨by decide, by decide⟩ ?_
  refine g_iret K dX4_wireSpeed_22 ⟨_, rfl, ?_⟩
  exact ⟨rfl, rfl⟩
set_option maxHeartbeats 4000000 in
set_option maxRecDepth 100000 in
theorem c_X4_wireTimes {l : Launch} {b : Nat} {D : va_G} {cA : Nat → ClassId} {ad : Nat → Nat} {S : ST} {se bh br lf : Nat → Int32} {sp : Int32} {N : Nat} (hR : RC S se bh br lf sp N) : MT l b D cA NN ad zT yX4_wireTimes cX4_wireTimes 5 (some .int) 2 [.ref (ad 169)] S (EI (wtF bh lf sp N).1 S) := by
  have n5 := hR.n5
  refine MT.intro (j := 4) (ls := [some (.ref (ad 169)), none, none, none, none]) pn_X4 rfl rfl rfl (fun pr en s0 mi below meth c' K _ => ?_)
  have lp : ∀ (fuel : Nat) (i : Nat) (x y : Int32), (N + 1 ≤ i + fuel) → (i ≤ N) → (x = (wtF bh lf sp i).1) → (y = (wtF bh lf sp i).2) → G pr l en (rmd 2) s0 mi (List.toArray [.ref (ad 169)]) below meth c' (MQ below (QQ b D cA NN ad zT (EI (wtF bh lf sp N).1 S)) (List.toArray [.ref (ad 169)]) s0 0 0 (aF b)) b D cA 5 NN ad zT 0 0 7 [some (.ref (ad 169)), some (.int x), some (.int y), some (.int (nI i)), none] [] S := by
    intro fuel
    induction fuel with
    | zero =>
      intro i  x y  hi hi2 hx hy
      omega
    | succ fuel ih =>
      intro i  x y  hi hi2 hx hy
      refine g_iload_n K dX4_wireTimes_7 rfl ?_
      refine g_aload_n K dX4_wireTimes_8 rfl ?_
      refine g_geti K lk_X4_69 dX4_wireTimes_9 rfl (rfl : kd 169 = 4) (by decide) (by decide) hR.n ?_
      refine g_icmp_ge (tgt := 57) K dX4_wireTimes_12 (by decide) (fun u12 => ?_) (fun u12 => ?_)
      · have hiN : i = N := by
          rw [nI_leI (by omega) (by have := hR.n5; omega)] at u12
          omega
        subst hiN
        refine g_iload_n K dX4_wireTimes_57 rfl ?_
        refine g_iret K dX4_wireTimes_58 ⟨_, rfl, ?_⟩
        exact ⟨hx, rfl⟩
      · have hiN : i < N := by
          rw [nI_leI (by omega) (by have := hR.n5; omega)] at u12
          omega
        refine g_aload_n K dX4_wireTimes_15 rfl ?_
        refine g_getr (j := 177) K lk_X4_38 dX4_wireTimes_16 rfl (by decide) (rfl : kd 169 = 4) (by decide) (by decide) rfl (rfl : rs 169 7 = 177) ?_
        refine g_iload_n K dX4_wireTimes_19 rfl ?_
        refine g_iald (j := i) K dX4_wireTimes_20 rfl ln_177 (by omega) (rfl : kd 177 = 8) (by decide) (hR.bh i) ?_
        refine g_aload_n K dX4_wireTimes_21 rfl ?_
        refine g_geti K lk_X4_54 dX4_wireTimes_22 rfl (rfl : kd 169 = 4) (by decide) (by decide) hR.sp ?_
        refine g_callSi K c_X6_quotientUp mw_X6_quotientUp ml_X4_78 dX4_wireTimes_25 (by rfl) rfl (by simp [Value.category]) ⟨by decide, by decide⟩ ⟨by decide, by decide⟩ ?_
        refine g_istore (ls2 := [_, _, _, _, some (.int _)]) K dX4_wireTimes_28 (by decide) rfl ?_
        refine g_aload_n K dX4_wireTimes_30 rfl ?_
        refine g_getr (j := 179) K lk_X4_44 dX4_wireTimes_31 rfl (by decide) (rfl : kd 169 = 4) (by decide) (by decide) rfl (rfl : rs 169 9 = 179) ?_
        refine g_iload_n K dX4_wireTimes_34 rfl ?_
        refine g_zald (j := i) K dX4_wireTimes_35 rfl ln_179 (by omega) (rfl : kd 179 = 9) (by decide) (hR.lf i) ?_
        refine g_if_ne (tgt := 51) K dX4_wireTimes_36 (by decide) (fun u36 => ?_) (fun u36 => ?_)
        · refine g_iinc (ls2 := [_, _, _, some (.int _), _]) K dX4_wireTimes_51 rfl kc_1 rfl ?_
          refine g_goto (tgt := 7) K dX4_wireTimes_54 (by decide) ?_
          refine g_drop (ls2 := [_, _, _, _, none]) 4 rfl ?_
          rw [nI_1]
          refine ih (i + 1) _ _ (by omega) (by omega) ?_ ?_
          · simp only [wtF]
            grind
          · simp only [wtF]
            grind
        · refine g_iload K dX4_wireTimes_39 rfl ?_
          refine g_iload_n K dX4_wireTimes_41 rfl ?_
          refine g_icmp_eq (tgt := 51) K dX4_wireTimes_42 (by decide) (fun u42 => ?_) (fun u42 => ?_)
          · refine g_iinc (ls2 := [_, _, _, some (.int _), _]) K dX4_wireTimes_51 rfl kc_1 rfl ?_
            refine g_goto (tgt := 7) K dX4_wireTimes_54 (by decide) ?_
            refine g_drop (ls2 := [_, _, _, _, none]) 4 rfl ?_
            rw [nI_1]
            refine ih (i + 1) _ _ (by omega) (by omega) ?_ ?_
            · simp only [wtF]
              grind
            · simp only [wtF]
              grind
          · refine g_iinc (ls2 := [_, some (.int _), _, _, _]) K dX4_wireTimes_45 rfl kc_1 rfl ?_
            refine g_iload K dX4_wireTimes_48 rfl ?_
            refine g_istore_n (ls2 := [_, _, some (.int _), _, _]) K dX4_wireTimes_50 (by decide) rfl ?_
            refine g_iinc (ls2 := [_, _, _, some (.int _), _]) K dX4_wireTimes_51 rfl kc_1 rfl ?_
            refine g_goto (tgt := 7) K dX4_wireTimes_54 (by decide) ?_
            refine g_drop (ls2 := [_, _, _, _, none]) 4 rfl ?_
            rw [nI_1]
            refine ih (i + 1) _ _ (by omega) (by omega) ?_ ?_
            · simp only [wtF]
              grind
            · simp only [wtF]
              grind
  refine g_iconst K dX4_wireTimes_0 kc_0 ?_
  refine g_istore_n (ls2 := [_, some (.int _), _, _, _]) K dX4_wireTimes_1 (by decide) rfl ?_
  refine g_bipush K dX4_wireTimes_2 kb_m5 ?_
  refine g_istore_n (ls2 := [_, _, some (.int _), _, _]) K dX4_wireTimes_4 (by decide) rfl ?_
  refine g_iconst K dX4_wireTimes_5 kc_0 ?_
  refine g_istore_n (ls2 := [_, _, _, some (.int _), _]) K dX4_wireTimes_6 (by decide) rfl ?_
  exact lp (N + 1) 0 _ _ (by omega) (by omega) rfl rfl
noncomputable def aoF (se bh lf : Nat → Int32) (sp : Int32) (t : Int32) (n : Nat) : Int32 := by
  classical
  exact if aoP se bh lf sp t n then 1 else 0
set_option maxHeartbeats 4000000 in
set_option maxRecDepth 100000 in
theorem c_X4_isWholeOnPlate {l : Launch} {b : Nat} {D : va_G} {cA : Nat → ClassId} {ad : Nat → Nat} {S : ST} {se bh br lf : Nat → Int32} {sp : Int32} {N : Nat} {x : Int32} (hR : RC S se bh br lf sp N) : MT l b D cA NN ad zT yX4_isWholeOnPlate cX4_isWholeOnPlate 3 (some .boolean) 1 [.ref (ad 169), .int x] S (EI (aoF se bh lf sp x N) S) := by
  have n5 := hR.n5
  refine MT.intro (j := 1) (ls := [some (.ref (ad 169)), some (.int x), none]) pn_X4 rfl rfl rfl (fun pr en s0 mi below meth c' K _ => ?_)
  have lp : ∀ (fuel : Nat) (i : Nat), (N + 1 ≤ i + fuel) → (i ≤ N) → (aoP se bh lf sp x i) → G pr l en (rmd 1) s0 mi (List.toArray [.ref (ad 169), .int x]) below meth c' (MQ below (QQ b D cA NN ad zT (EI (aoF se bh lf sp x N) S)) (List.toArray [.ref (ad 169), .int x]) s0 0 0 (aF b)) b D cA 3 NN ad zT 0 0 2 [some (.ref (ad 169)), some (.int x), some (.int (nI i))] [] S := by
    intro fuel
    induction fuel with
    | zero =>
      intro i  hi hi2 ha
      omega
    | succ fuel ih =>
      intro i  hi hi2 ha
      refine g_iload_n K dX4_isWholeOnPlate_2 rfl ?_
      refine g_aload_n K dX4_isWholeOnPlate_3 rfl ?_
      refine g_geti K lk_X4_69 dX4_isWholeOnPlate_4 rfl (rfl : kd 169 = 4) (by decide) (by decide) hR.n ?_
      refine g_icmp_ge (tgt := 36) K dX4_isWholeOnPlate_7 (by decide) (fun u7 => ?_) (fun u7 => ?_)
      · have hiN : i = N := by
          rw [nI_leI (by omega) (by have := hR.n5; omega)] at u7
          omega
        subst hiN
        refine g_iconst K dX4_isWholeOnPlate_36 kc_1 ?_
        refine g_zret K dX4_isWholeOnPlate_37 (by first | exact Or.inl rfl | exact Or.inr rfl | assumption) ⟨_, rfl, ?_⟩
        refine ⟨?_, rfl⟩
        unfold aoF
        rw [if_pos ha]
      · have hiN : i < N := by
          rw [nI_leI (by omega) (by have := hR.n5; omega)] at u7
          omega
        refine g_aload_n K dX4_isWholeOnPlate_10 rfl ?_
        refine g_getr (j := 179) K lk_X4_44 dX4_isWholeOnPlate_11 rfl (by decide) (rfl : kd 169 = 4) (by decide) (by decide) rfl (rfl : rs 169 9 = 179) ?_
        refine g_iload_n K dX4_isWholeOnPlate_14 rfl ?_
        refine g_zald (j := i) K dX4_isWholeOnPlate_15 rfl ln_179 (by omega) (rfl : kd 179 = 9) (by decide) (hR.lf i) ?_
        refine g_if_ne (tgt := 30) K dX4_isWholeOnPlate_16 (by decide) (fun u16 => ?_) (fun u16 => ?_)
        · refine g_iinc (ls2 := [_, _, some (.int _)]) K dX4_isWholeOnPlate_30 rfl kc_1 rfl ?_
          refine g_goto (tgt := 2) K dX4_isWholeOnPlate_33 (by decide) ?_
          rw [nI_1]
          refine ih (i + 1) (by omega) (by omega) (fun a h hl => ?_)
          by_cases e : a = i
          · subst e
            grind
          · exact ha a (by omega) hl
        · refine g_aload_n K dX4_isWholeOnPlate_19 rfl ?_
          refine g_iload_n K dX4_isWholeOnPlate_20 rfl ?_
          refine g_iload_n K dX4_isWholeOnPlate_21 rfl ?_
          refine g_callVi K (c_X4_isOnPlate hR hiN) mw_X4_isOnPlate ml_X4_115 dX4_isWholeOnPlate_22 (by rfl) rfl rfl (by decide) (by simp [Value.category]) ⟨by decide, by decide⟩ ⟨by decide, by decide⟩ ?_
          refine g_if_ne (tgt := 30) K dX4_isWholeOnPlate_25 (by decide) (fun u25 => ?_) (fun u25 => ?_)
          · refine g_iinc (ls2 := [_, _, some (.int _)]) K dX4_isWholeOnPlate_30 rfl kc_1 rfl ?_
            refine g_goto (tgt := 2) K dX4_isWholeOnPlate_33 (by decide) ?_
            rw [nI_1]
            refine ih (i + 1) (by omega) (by omega) (fun a h hl => ?_)
            by_cases e : a = i
            · subst e
              grind
            · exact ha a (by omega) hl
          · refine g_iconst K dX4_isWholeOnPlate_28 kc_0 ?_
            refine g_zret K dX4_isWholeOnPlate_29 (by first | exact Or.inl rfl | exact Or.inr rfl | assumption) ⟨_, rfl, ?_⟩
            refine ⟨?_, rfl⟩
            unfold aoF
            rw [if_neg (fun q => ?_)]
            have := q i hiN (by grind)
            grind
  refine g_iconst K dX4_isWholeOnPlate_0 kc_0 ?_
  refine g_istore_n (ls2 := [_, _, some (.int _)]) K dX4_isWholeOnPlate_1 (by decide) rfl ?_
  exact lp (N + 1) 0 (by omega) (by omega) (fun a h => absurd h (by omega))
