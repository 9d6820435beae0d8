def StepPost (p : PSt) (c : Int32) (S : ST) : Int32 → ST → Prop := fun r S2 => (pstep p c = none ∧ r = 0 ∧ S2 = S) ∨ (∃ p2, pstep p c = some p2 ∧ r = 1 ∧ PRel S2 p2 ∧ TF S S2)
theorem StepPost.r01 {p : PSt} {c : Int32} {S S2 : ST} {r : Int32} (h : StepPost p c S r S2) : r = 0 ∨ r = 1 := by
  rcases h with ⟨-, h, -⟩ | ⟨_, -, h, -⟩
  · exact Or.inl h
  · exact Or.inr h
theorem TF.of {S S2 : ST} (h : ∀ k i, ¬ (k = 165 ∧ (i = 3 ∨ i = 6)) → True) (h1 : ∀ k, k ≠ 165 → k ≠ 167 → k ≠ 168 → S2 k = S k) (h2 : S2 165 3 = S 165 3) (h3 : S2 165 6 = S 165 6) : TF S S2 := ⟨h1, h2, h3⟩
set_option maxHeartbeats 4000000 in
set_option maxRecDepth 100000 in
theorem c_X1_acceptsDigit {l : Launch} {b : Nat} {D : va_G} {cA : Nat → ClassId} {ad : Nat → Nat} {S : ST} {p : PSt} {d : Nat} {x : Int32} (hP : PRel S p) (hI : PInv p) (hx : x = nI d) (hd : d ≤ 9) : MT l b D cA NN ad zT yX1_acceptsDigit cX1_acceptsDigit 3 (some .boolean) 0 [.ref (ad 165), .int x] S (RI (fun r S2 => if p.1 * 10 + d = 0 ∨ limP p < p.1 * 10 + d then r = 0 ∧ S2 = S else r = 1 ∧ S2 = stw S 165 7 (nI (p.1 * 10 + d)))) := by
  have hl : p.1 ≤ 200 := Nat.le_trans hI.1 (by unfold limP; split <;> decide)
  have h01 := hI.2.1
  refine MT.intro (j := 1) (ls := [some (.ref (ad 165)), some (.int x), none]) pn_X1 rfl rfl rfl (fun pr en s0 mi below meth c' K _ => ?_)
  refine g_aload_n K dX1_acceptsDigit_0 rfl ?_
  refine g_geti K lk_X1_63 dX1_acceptsDigit_1 rfl (rfl : kd 165 = 1) (by decide) (by decide) hP.1 ?_
  refine g_bipush K dX1_acceptsDigit_4 kb_10 ?_
  refine g_imul K dX1_acceptsDigit_6 ?_
  refine g_iload_n K dX1_acceptsDigit_7 rfl ?_
  refine g_iadd K dX1_acceptsDigit_8 ?_
  refine g_nm (y := nI (p.1 * 10 + d)) (by rw [hx, show (10 : Int32) = nI 10 from rfl, pk_mul, nI_add]) ?_
  refine g_istore_n (ls2 := [_, _, some (.int _)]) K dX1_acceptsDigit_9 (by decide) rfl ?_
  refine g_iload_n K dX1_acceptsDigit_10 rfl ?_
  refine g_if_eq (tgt := 33) K dX1_acceptsDigit_11 (by decide) (fun u11 => ?_) (fun u11 => ?_)
  · have hz : p.1 * 10 + d = 0 := (nI_eq (b := 0) (by omega) (by decide)).mp u11
    refine g_iconst K dX1_acceptsDigit_33 kc_0 ?_
    refine g_zret K dX1_acceptsDigit_34 (by first | exact Or.inl rfl | exact Or.inr rfl | assumption) ⟨_, rfl, ?_⟩
    dsimp only
    rw [if_pos (by first | exact Or.inl hz | exact Or.inr hle)]
    exact ⟨rfl, rfl⟩
  · have hz : ¬ p.1 * 10 + d = 0 := fun q => u11 (by rw [q]; rfl)
    refine g_iload_n K dX1_acceptsDigit_14 rfl ?_
    refine g_aload_n K dX1_acceptsDigit_15 rfl ?_
    refine g_geti K lk_X1_42 dX1_acceptsDigit_16 rfl (rfl : kd 165 = 1) (by decide) (by decide) hP.2.1 ?_
    refine g_if_eq (tgt := 27) K dX1_acceptsDigit_19 (by decide) (fun u19 => ?_) (fun u19 => ?_)
    · have hlim : limP p = 200 := by unfold limP; rw [(nI_eq (b := 0) (by omega) (by decide)).mp u19]; rfl
      refine g_sipush K dX1_acceptsDigit_27 kp_200 ?_
      refine g_icmp_le (tgt := 35) K dX1_acceptsDigit_30 (by decide) (fun u30 => ?_) (fun u30 => ?_)
      · have hle : p.1 * 10 + d ≤ limP p := by
          rw [hlim]
          first
            | exact (nI_leI (b := 200) (by omega) (by decide)).mp u30
            | exact (nI_leI (b := 40) (by omega) (by decide)).mp u30
        refine g_aload_n K dX1_acceptsDigit_35 rfl ?_
        refine g_iload_n K dX1_acceptsDigit_36 rfl ?_
        refine g_puti K lk_X1_63 lq_X1_7 dX1_acceptsDigit_37 (put_i _) rfl (rfl : kd 165 = 1) (by decide) (by decide) ?_
        refine g_iconst K dX1_acceptsDigit_40 kc_1 ?_
        refine g_zret K dX1_acceptsDigit_41 (by first | exact Or.inl rfl | exact Or.inr rfl | assumption) ⟨_, rfl, ?_⟩
        dsimp only
        rw [if_neg (by omega)]
        exact ⟨rfl, rfl⟩
      · have hle : limP p < p.1 * 10 + d := by
          rw [hlim]
          first
            | exact Nat.lt_of_not_le (fun q => u30 ((nI_leI (b := 200) (by omega) (by decide)).mpr q))
            | exact Nat.lt_of_not_le (fun q => u30 ((nI_leI (b := 40) (by omega) (by decide)).mpr q))
        refine g_iconst K dX1_acceptsDigit_33 kc_0 ?_
        refine g_zret K dX1_acceptsDigit_34 (by first | exact Or.inl rfl | exact Or.inr rfl | assumption) ⟨_, rfl, ?_⟩
        dsimp only
        rw [if_pos (by first | exact Or.inl hz | exact Or.inr hle)]
        exact ⟨rfl, rfl⟩
    · have hlim : limP p = 40 := by unfold limP; rw [h01.resolve_left (fun q => u19 (by rw [q]; rfl))]; rfl
      refine g_bipush K dX1_acceptsDigit_22 kb_40 ?_
      refine g_goto (tgt := 30) K dX1_acceptsDigit_24 (by decide) ?_
      refine g_icmp_le (tgt := 35) K dX1_acceptsDigit_30 (by decide) (fun u30 => ?_) (fun u30 => ?_)
      · have hle : p.1 * 10 + d ≤ limP p := by
          rw [hlim]
          first
            | exact (nI_leI (b := 200) (by omega) (by decide)).mp u30
            | exact (nI_leI (b := 40) (by omega) (by decide)).mp u30
        refine g_aload_n K dX1_acceptsDigit_35 rfl ?_
        refine g_iload_n K dX1_acceptsDigit_36 rfl ?_
        refine g_puti K lk_X1_63 lq_X1_7 dX1_acceptsDigit_37 (put_i _) rfl (rfl : kd 165 = 1) (by decide) (by decide) ?_
        refine g_iconst K dX1_acceptsDigit_40 kc_1 ?_
        refine g_zret K dX1_acceptsDigit_41 (by first | exact Or.inl rfl | exact Or.inr rfl | assumption) ⟨_, rfl, ?_⟩
        dsimp only
        rw [if_neg (by omega)]
        exact ⟨rfl, rfl⟩
      · have hle : limP p < p.1 * 10 + d := by
          rw [hlim]
          first
            | exact Nat.lt_of_not_le (fun q => u30 ((nI_leI (b := 200) (by omega) (by decide)).mpr q))
            | exact Nat.lt_of_not_le (fun q => u30 ((nI_leI (b := 40) (by omega) (by decide)).mpr q))
        refine g_iconst K dX1_acceptsDigit_33 kc_0 ?_
        refine g_zret K dX1_acceptsDigit_34 (by first | exact Or.inl rfl | exact Or.inr rfl | assumption) ⟨_, rfl, ?_⟩
        dsimp only
        rw [if_pos (by first | exact Or.inl hz | exact Or.inr hle)]
        exact ⟨rfl, rfl⟩
set_option maxHeartbeats 4000000 in
set_option maxRecDepth 100000 in
theorem c_X1_acceptsBehindDistance {l : Launch} {b : Nat} {D : va_G} {cA : Nat → ClassId} {ad : Nat → Nat} {S : ST} {p : PSt} {c : Int32} (hP : PRel S p) (hI : PInv p) (hd : ¬ (48 ≤ c ∧ c ≤ 57)) (hw : wholeP p) (h1 : p.2.1 = 1) : MT l b D cA NN ad zT yX1_acceptsBehindDistance cX1_acceptsBehindDistance 2 (some .boolean) 1 [.ref (ad 165), .int c] S (RI (StepPost p c S)) := by
  refine MT.intro (j := 0) (ls := [some (.ref (ad 165)), some (.int c)]) pn_X1 rfl rfl rfl (fun pr en s0 mi below meth c' K _ => ?_)
  refine g_iload_n K dX1_acceptsBehindDistance_0 rfl ?_
  refine g_bipush K dX1_acceptsBehindDistance_1 kb_42 ?_
  refine g_icmp_eq (tgt := 8) K dX1_acceptsBehindDistance_3 (by decide) (fun u3 => ?_) (fun u3 => ?_)
  · refine g_aload_n K dX1_acceptsBehindDistance_8 rfl ?_
    refine g_aload_n K dX1_acceptsBehindDistance_9 rfl ?_
    refine g_geti K lk_X1_63 dX1_acceptsBehindDistance_10 rfl (rfl : kd 165 = 1) (by decide) (by decide) hP.1 ?_
    refine g_puti K lk_X1_56 lq_X1_8 dX1_acceptsBehindDistance_13 (put_i _) rfl (rfl : kd 165 = 1) (by decide) (by decide) ?_
    refine g_aload_n K dX1_acceptsBehindDistance_16 rfl ?_
    refine g_iconst K dX1_acceptsBehindDistance_17 kc_0 ?_
    refine g_callVv K (c_X1_beginNumber (Or.inl rfl)) mw_X1_beginNumber ml_X1_59 dX1_acceptsBehindDistance_18 (by rfl) rfl rfl (by decide) (by simp [Value.category]) ⟨by decide, by decide⟩ ⟨by decide, by decide⟩ ?_
    refine g_iconst K dX1_acceptsBehindDistance_21 kc_1 ?_
    refine g_zret K dX1_acceptsBehindDistance_22 (by first | exact Or.inl rfl | exact Or.inr rfl | assumption) ⟨_, rfl, ?_⟩
    refine Or.inr ⟨(0, 0, p.2.2.1, p.1, p.2.2.2.2), ?_, rfl, ?_, ?_⟩
    · unfold pstep
      rw [if_neg hd, if_neg (fun q => q hw), if_pos h1, if_pos u3]
    · obtain ⟨g1, g2, g3, g4, g5, g6, g7⟩ := hP
      unfold begS
      refine ⟨?_, ?_, ?_, ?_, ?_, ?_, fun j x hx => ?_⟩ <;> simp only [stw_app, true_and]
      · simp; rfl
      · simp; rfl
      · simpa using g3
      · simp
      · simpa using g5
      · simpa using g6
      · simpa using g7 j x hx
    · refine ⟨fun k a b c => ?_, ?_, ?_⟩
      · unfold begS
        rw [stw_n a, stw_n a, stw_n a]
      · simp [begS, stw_app]
      · simp [begS, stw_app]
  · refine g_iconst K dX1_acceptsBehindDistance_6 kc_0 ?_
    refine g_zret K dX1_acceptsBehindDistance_7 (by first | exact Or.inl rfl | exact Or.inr rfl | assumption) ⟨_, rfl, ?_⟩
    refine Or.inl ⟨?_, rfl, rfl⟩
    unfold pstep
    rw [if_neg hd, if_neg (fun q => q hw), if_pos h1, if_neg u3]
set_option maxHeartbeats 4000000 in
set_option maxRecDepth 100000 in
theorem c_X1_acceptsBehindWeight {l : Launch} {b : Nat} {D : va_G} {cA : Nat → ClassId} {ad : Nat → Nat} {S : ST} {p : PSt} {c : Int32} (hP : PRel S p) (hI : PInv p) (hd : ¬ (48 ≤ c ∧ c ≤ 57)) (hw : wholeP p) (h0 : p.2.1 = 0) (h60 : p.2.2.2.2.length < 60) : MT l b D cA NN ad zT yX1_acceptsBehindWeight cX1_acceptsBehindWeight 2 (some .boolean) 2 [.ref (ad 165), .int c] S (RI (StepPost p c S)) := by
  obtain ⟨e1, e2, e3, e4⟩ := endS_rel hP
  obtain ⟨g1, g2, g3⟩ := PInv.push hI h0 hw
  have ha5 := hI.2.2.2.1
  have ha1 := hI.2.2.1
  refine MT.intro (j := 0) (ls := [some (.ref (ad 165)), some (.int c)]) pn_X1 rfl rfl rfl (fun pr en s0 mi below meth c' K _ => ?_)
  refine g_iload_n K dX1_acceptsBehindWeight_0 rfl ?_
  refine g_bipush K dX1_acceptsBehindWeight_1 kb_59 ?_
  refine g_icmp_ne (tgt := 16) K dX1_acceptsBehindWeight_3 (by decide) (fun u3 => ?_) (fun u3 => ?_)
  · refine g_iload_n K dX1_acceptsBehindWeight_16 rfl ?_
    refine g_bipush K dX1_acceptsBehindWeight_17 kb_43 ?_
    refine g_icmp_ne (tgt := 51) K dX1_acceptsBehindWeight_19 (by decide) (fun u19 => ?_) (fun u19 => ?_)
    · refine g_iconst K dX1_acceptsBehindWeight_51 kc_0 ?_
      refine g_zret K dX1_acceptsBehindWeight_52 (by first | exact Or.inl rfl | exact Or.inr rfl | assumption) ⟨_, rfl, ?_⟩
      refine Or.inl ⟨?_, rfl, rfl⟩
      unfold pstep
      rw [if_neg hd, if_neg (fun q => q hw), if_neg (by omega), if_neg u3]
      first
        | rw [if_neg (fun q => u19 q.1)]
        | rw [if_neg (fun q => h5 q.2)]
    · refine g_aload_n K dX1_acceptsBehindWeight_22 rfl ?_
      refine g_geti K lk_X1_53 dX1_acceptsBehindWeight_23 rfl (rfl : kd 165 = 1) (by decide) (by decide) hP.2.2.1 ?_
      refine g_iconst K dX1_acceptsBehindWeight_26 kc_5 ?_
      refine g_icmp_ge (tgt := 51) K dX1_acceptsBehindWeight_27 (by decide) (fun u27 => ?_) (fun u27 => ?_)
      · have h5 : ¬ p.2.2.1 < 5 := by rw [show (5 : Int32) = nI 5 from rfl, nI_leI (by omega) (by omega)] at u27; omega
        refine g_iconst K dX1_acceptsBehindWeight_51 kc_0 ?_
        refine g_zret K dX1_acceptsBehindWeight_52 (by first | exact Or.inl rfl | exact Or.inr rfl | assumption) ⟨_, rfl, ?_⟩
        refine Or.inl ⟨?_, rfl, rfl⟩
        unfold pstep
        rw [if_neg hd, if_neg (fun q => q hw), if_neg (by omega), if_neg u3]
        first
          | rw [if_neg (fun q => u19 q.1)]
          | rw [if_neg (fun q => h5 q.2)]
      · have h5 : p.2.2.1 < 5 := by rw [show (5 : Int32) = nI 5 from rfl, nI_leI (by omega) (by omega)] at u27; omega
        refine g_aload_n K dX1_acceptsBehindWeight_30 rfl ?_
        refine g_callVv K (c_X1_endAxle hP.2.2.2.2.1 h60) mw_X1_endAxle ml_X1_50 dX1_acceptsBehindWeight_31 (by rfl) rfl rfl (by decide) (by simp [Value.category]) ⟨by decide, by decide⟩ ⟨by decide, by decide⟩ ?_
        refine g_aload_n K dX1_acceptsBehindWeight_34 rfl ?_
        refine g_dup K dX1_acceptsBehindWeight_35 rfl ?_
        refine g_geti K lk_X1_53 dX1_acceptsBehindWeight_36 rfl (rfl : kd 165 = 1) (by decide) (by decide) ((e3 9 (by decide)).trans hP.2.2.1) ?_
        refine g_iconst K dX1_acceptsBehindWeight_39 kc_1 ?_
        refine g_iadd K dX1_acceptsBehindWeight_40 ?_
        refine g_puti K lk_X1_53 lq_X1_9 dX1_acceptsBehindWeight_41 (put_i _) rfl (rfl : kd 165 = 1) (by decide) (by decide) ?_
        refine g_aload_n K dX1_acceptsBehindWeight_44 rfl ?_
        refine g_iconst K dX1_acceptsBehindWeight_45 kc_1 ?_
        refine g_callVv K (c_X1_beginNumber (Or.inr rfl)) mw_X1_beginNumber ml_X1_59 dX1_acceptsBehindWeight_46 (by rfl) rfl rfl (by decide) (by simp [Value.category]) ⟨by decide, by decide⟩ ⟨by decide, by decide⟩ ?_
        refine g_iconst K dX1_acceptsBehindWeight_49 kc_1 ?_
        refine g_zret K dX1_acceptsBehindWeight_50 (by first | exact Or.inl rfl | exact Or.inr rfl | assumption) ⟨_, rfl, ?_⟩
        refine Or.inr ⟨(0, 1, p.2.2.1 + 1, p.2.2.2.1, p.2.2.2.2 ++ [(p.2.2.2.1, p.1)]), ?_, rfl, ?_, ?_⟩
        · unfold pstep
          rw [if_neg hd, if_neg (fun q => q hw), if_neg (by omega), if_neg u3, if_pos ⟨by simpa using u19, h5⟩]
        · obtain ⟨f1, f2, f3, f4, f5, f6, f7⟩ := hP
          unfold begS
          refine ⟨?_, ?_, ?_, ?_, ?_, ?_, fun j x hx => ?_⟩ <;> simp only [stw_app, true_and]
          · simp; rfl
          · simp; rfl
          · simp [nI_1]
          · simpa using (e3 8 (by decide)).trans f4
          · simpa using e2
          · have h6 := (e3 5 (by decide)).trans f6
            rw [if_neg (show ¬ p.2.2.1 + 1 = 1 by omega), g3]
            simpa using h6
          · simpa using e1 j x hx
        · refine e4.tr ⟨fun k a b c => ?_, ?_, ?_⟩
          · unfold begS
            rw [stw_n a, stw_n a, stw_n a]
          · simp [begS, stw_app]
          · simp [begS, stw_app]
  · refine g_aload_n K dX1_acceptsBehindWeight_6 rfl ?_
    refine g_callVv K (c_X1_endAxle hP.2.2.2.2.1 h60) mw_X1_endAxle ml_X1_50 dX1_acceptsBehindWeight_7 (by rfl) rfl rfl (by decide) (by simp [Value.category]) ⟨by decide, by decide⟩ ⟨by decide, by decide⟩ ?_
    refine g_aload_n K dX1_acceptsBehindWeight_10 rfl ?_
    refine g_callVv K c_X1_beginCart mw_X1_beginCart ml_X1_35 dX1_acceptsBehindWeight_11 (by rfl) rfl rfl (by decide) (by simp [Value.category]) ⟨by decide, by decide⟩ ⟨by decide, by decide⟩ ?_
    refine g_iconst K dX1_acceptsBehindWeight_14 kc_1 ?_
    refine g_zret K dX1_acceptsBehindWeight_15 (by first | exact Or.inl rfl | exact Or.inr rfl | assumption) ⟨_, rfl, ?_⟩
    refine Or.inr ⟨(0, 0, 1, 0, p.2.2.2.2 ++ [(p.2.2.2.1, p.1)]), ?_, rfl, ?_, ?_⟩
    · unfold pstep
      rw [if_neg hd, if_neg (fun q => q hw), if_neg (by omega), if_pos (by simpa using u3)]
    · obtain ⟨f1, f2, f3, f4, f5, f6, f7⟩ := hP
      unfold begK begS
      refine ⟨?_, ?_, ?_, ?_, ?_, ?_, fun j x hx => ?_⟩ <;> simp only [stw_app, true_and]
      · simp; rfl
      · simp; rfl
      · simp; rfl
      · simp; rfl
      · simpa using e2
      · simp only [if_neg (show ¬ (5 : Nat) = 10 by decide), if_neg (show ¬ (5 : Nat) = 7 by decide), if_neg (show ¬ (5 : Nat) = 8 by decide), if_neg (show ¬ (5 : Nat) = 9 by decide), if_true]
        rw [e3 5 (by decide), f6, g3, nI_1]
      · simpa using e1 j x hx
    · refine e4.tr ⟨fun k a b c => ?_, ?_, ?_⟩
      · unfold begK begS
        rw [stw_n a, stw_n a, stw_n a, stw_n a, stw_n a]
      · simp [begK, begS, stw_app]
      · simp [begK, begS, stw_app]
set_option maxHeartbeats 4000000 in
set_option maxRecDepth 100000 in
theorem c_X1_accepts {l : Launch} {b : Nat} {D : va_G} {cA : Nat → ClassId} {ad : Nat → Nat} {S : ST} {p : PSt} {c : Int32} (hP : PRel S p) (hI : PInv p) (h60 : p.2.2.2.2.length < 60) : MT l b D cA NN ad zT yX1_accepts cX1_accepts 2 (some .boolean) 3 [.ref (ad 165), .int c] S (RI (StepPost p c S)) := by
  have hl : p.1 ≤ 200 := Nat.le_trans hI.1 (by unfold limP; split <;> decide)
  have h01 := hI.2.1
  refine MT.intro (j := 0) (ls := [some (.ref (ad 165)), some (.int c)]) pn_X1 rfl rfl rfl (fun pr en s0 mi below meth c' K _ => ?_)
  refine g_iload_n K dX1_accepts_0 rfl ?_
  refine g_bipush K dX1_accepts_1 kb_48 ?_
  refine g_icmp_lt (tgt := 21) K dX1_accepts_3 (by decide) (fun u3 => ?_) (fun u3 => ?_)
  · have hdg : ¬ (48 ≤ c ∧ c ≤ 57) := by grind
    refine g_aload_n K dX1_accepts_21 rfl ?_
    refine g_callVpi K (c_X1_isWhole hP hI) mw_X1_isWhole ml_X1_46 dX1_accepts_22 (by rfl) rfl rfl (by decide) (by simp [Value.category]) ⟨by decide, by decide⟩ ⟨by decide, by decide⟩ (fun r22 S22 h22 => ?_)
    obtain ⟨hw1, hw2, hS22⟩ := h22
    rw [hS22]
    clear hS22
    refine g_if_ne (tgt := 30) K dX1_accepts_25 (by decide) (fun u25 => ?_) (fun u25 => ?_)
    · have hw : wholeP p := Classical.byContradiction (fun q => u25 (hw2 q))
      refine g_aload_n K dX1_accepts_30 rfl ?_
      refine g_geti K lk_X1_42 dX1_accepts_31 rfl (rfl : kd 165 = 1) (by decide) (by decide) hP.2.1 ?_
      refine g_if_eq (tgt := 45) K dX1_accepts_34 (by decide) (fun u34 => ?_) (fun u34 => ?_)
      · have h0 : p.2.1 = 0 := (nI_eq (b := 0) (by omega) (by decide)).mp u34
        refine g_aload_n K dX1_accepts_45 rfl ?_
        refine g_iload_n K dX1_accepts_46 rfl ?_
        refine g_callVpi K (c_X1_acceptsBehindWeight hP hI hdg hw h0 h60) mw_X1_acceptsBehindWeight ml_X1_79 dX1_accepts_47 (by rfl) rfl rfl (by decide) (by simp [Value.category]) ⟨by decide, by decide⟩ ⟨by decide, by decide⟩ (fun r47 S47 h47 => ?_)
        refine g_zret K dX1_accepts_50 (by first | exact h39.r01 | exact h47.r01) ⟨_, rfl, ?_⟩
        first
          | exact h39
          | exact h47
      · have h1 : p.2.1 = 1 := h01.resolve_left (fun q => u34 (by rw [q]; rfl))
        refine g_aload_n K dX1_accepts_37 rfl ?_
        refine g_iload_n K dX1_accepts_38 rfl ?_
        refine g_callVpi K (c_X1_acceptsBehindDistance hP hI hdg hw h1) mw_X1_acceptsBehindDistance ml_X1_76 dX1_accepts_39 (by rfl) rfl rfl (by decide) (by simp [Value.category]) ⟨by decide, by decide⟩ ⟨by decide, by decide⟩ (fun r39 S39 h39 => ?_)
        refine g_goto (tgt := 50) K dX1_accepts_42 (by decide) ?_
        refine g_zret K dX1_accepts_50 (by first | exact h39.r01 | exact h47.r01) ⟨_, rfl, ?_⟩
        first
          | exact h39
          | exact h47
    · have hw : ¬ wholeP p := fun q => by rw [hw1 q] at u25; exact absurd u25 (by decide)
      refine g_iconst K dX1_accepts_28 kc_0 ?_
      refine g_zret K dX1_accepts_29 (by first | exact Or.inl rfl | exact Or.inr rfl | assumption) ⟨_, rfl, ?_⟩
      refine Or.inl ⟨?_, rfl, rfl⟩
      unfold pstep
      rw [if_neg hdg, if_pos hw]
  · refine g_iload_n K dX1_accepts_6 rfl ?_
    refine g_bipush K dX1_accepts_7 kb_57 ?_
    refine g_icmp_gt (tgt := 21) K dX1_accepts_9 (by decide) (fun u9 => ?_) (fun u9 => ?_)
    · have hdg : ¬ (48 ≤ c ∧ c ≤ 57) := by grind
      refine g_aload_n K dX1_accepts_21 rfl ?_
      refine g_callVpi K (c_X1_isWhole hP hI) mw_X1_isWhole ml_X1_46 dX1_accepts_22 (by rfl) rfl rfl (by decide) (by simp [Value.category]) ⟨by decide, by decide⟩ ⟨by decide, by decide⟩ (fun r22 S22 h22 => ?_)
      obtain ⟨hw1, hw2, hS22⟩ := h22
      rw [hS22]
      clear hS22
      refine g_if_ne (tgt := 30) K dX1_accepts_25 (by decide) (fun u25 => ?_) (fun u25 => ?_)
      · have hw : wholeP p := Classical.byContradiction (fun q => u25 (hw2 q))
        refine g_aload_n K dX1_accepts_30 rfl ?_
        refine g_geti K lk_X1_42 dX1_accepts_31 rfl (rfl : kd 165 = 1) (by decide) (by decide) hP.2.1 ?_
        refine g_if_eq (tgt := 45) K dX1_accepts_34 (by decide) (fun u34 => ?_) (fun u34 => ?_)
        · have h0 : p.2.1 = 0 := (nI_eq (b := 0) (by omega) (by decide)).mp u34
          refine g_aload_n K dX1_accepts_45 rfl ?_
          refine g_iload_n K dX1_accepts_46 rfl ?_
          refine g_callVpi K (c_X1_acceptsBehindWeight hP hI hdg hw h0 h60) mw_X1_acceptsBehindWeight ml_X1_79 dX1_accepts_47 (by rfl) rfl rfl (by decide) (by simp [Value.category]) ⟨by decide, by decide⟩ ⟨by decide, by decide⟩ (fun r47 S47 h47 => ?_)
          refine g_zret K dX1_accepts_50 (by first | exact h39.r01 | exact h47.r01) ⟨_, rfl, ?_⟩
          first
            | exact h39
            | exact h47
        · have h1 : p.2.1 = 1 := h01.resolve_left (fun q => u34 (by rw [q]; rfl))
          refine g_aload_n K dX1_accepts_37 rfl ?_
          refine g_iload_n K dX1_accepts_38 rfl ?_
          refine g_callVpi K (c_X1_acceptsBehindDistance hP hI hdg hw h1) mw_X1_acceptsBehindDistance ml_X1_76 dX1_accepts_39 (by rfl) rfl rfl (by decide) (by simp [Value.category]) ⟨by decide, by decide⟩ ⟨by decide, by decide⟩ (fun r39 S39 h39 => ?_)
          refine g_goto (tgt := 50) K dX1_accepts_42 (by decide) ?_
          refine g_zret K dX1_accepts_50 (by first | exact h39.r01 | exact h47.r01) ⟨_, rfl, ?_⟩
          first
            | exact h39
            | exact h47
      · have hw : ¬ wholeP p := fun q => by rw [hw1 q] at u25; exact absurd u25 (by decide)
        refine g_iconst K dX1_accepts_28 kc_0 ?_
        refine g_zret K dX1_accepts_29 (by first | exact Or.inl rfl | exact Or.inr rfl | assumption) ⟨_, rfl, ?_⟩
        refine Or.inl ⟨?_, rfl, rfl⟩
        unfold pstep
        rw [if_neg hdg, if_pos hw]
    · have hdg : 48 ≤ c ∧ c ≤ 57 := by grind
      obtain ⟨d, hd9, hcd⟩ : ∃ d, d ≤ 9 ∧ c - 48 = nI d := nI_le_of (b := 9) (by grind) (by decide) (by have : nI 9 = (9 : Int32) := rfl; grind)
      have hdc : dgt c = d := by unfold dgt; rw [hcd]; exact nI_clamp (by omega)
      refine g_aload_n K dX1_accepts_12 rfl ?_
      refine g_iload_n K dX1_accepts_13 rfl ?_
      refine g_bipush K dX1_accepts_14 kb_48 ?_
      refine g_isub K dX1_accepts_16 ?_
      refine g_callVpi K (c_X1_acceptsDigit hP hI hcd hd9) mw_X1_acceptsDigit ml_X1_73 dX1_accepts_17 (by rfl) rfl rfl (by decide) (by simp [Value.category]) ⟨by decide, by decide⟩ ⟨by decide, by decide⟩ (fun r17 S17 h17 => ?_)
      have h17z : r17 = 0 ∨ r17 = 1 := by
        split at h17
        · exact Or.inl h17.1
        · exact Or.inr h17.1
      refine g_zret K dX1_accepts_20 h17z ⟨_, rfl, ?_⟩
      by_cases hq : p.1 * 10 + d = 0 ∨ limP p < p.1 * 10 + d
      · rw [if_pos hq] at h17
        refine Or.inl ⟨?_, h17.1, h17.2⟩
        unfold pstep
        rw [if_pos hdg, hdc, if_pos hq]
      · rw [if_neg hq] at h17
        refine Or.inr ⟨(p.1 * 10 + d, p.2), ?_, h17.1, ?_, ?_⟩
        · unfold pstep
          rw [if_pos hdg, hdc, if_neg hq]
        · obtain ⟨f1, f2, f3, f4, f5, f6, f7⟩ := hP
          rw [h17.2]
          refine ⟨?_, ?_, ?_, ?_, ?_, ?_, fun j x hx => ?_⟩ <;> simp only [stw_app, true_and]
          · simp
          · simpa using f2
          · simpa using f3
          · simpa using f4
          · simpa using f5
          · simpa using f6
          · simpa using f7 j x hx
        · rw [h17.2]
          exact ⟨fun k a b c => stw_n a, by simp [stw_app], by simp [stw_app]⟩
