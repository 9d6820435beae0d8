def ReadOk (S2 : ST) : Nat ⊕ List (Nat × Nat) → Prop
  | .inl k => S2 165 6 = nI k ∧ k ≤ 60
  | .inr L => S2 165 6 = -5 ∧ S2 165 4 = nI L.length ∧ S2 165 5 = nI (cntI L) ∧ wfI L 0 ∧ L.length ≤ 60 ∧ ∀ j x, L[j]? = some x → S2 167 j = nI x.2 ∧ S2 168 j = nI x.1
def TF0 (S S2 : ST) : Prop := (∀ k, k ≠ 165 → k ≠ 167 → k ≠ 168 → S2 k = S k) ∧ S2 165 3 = S 165 3
theorem p0_inv : PInv p0 := ⟨by decide, Or.inl rfl, by decide, by decide, by decide, fun _ => ⟨rfl, rfl⟩, fun h => absurd h (by decide), trivial⟩
theorem prun_0 {f : Nat → Int32} {pos : Nat} {p : PSt} (h : p.2.1 = 1 ∨ ¬ wholeP p) : prun f 0 pos p = .inl pos := by
  unfold prun
  rw [if_pos h]
theorem prun_1 {f : Nat → Int32} {pos : Nat} {p : PSt} (h : ¬ p.2.1 = 1) (hw : wholeP p) : prun f 0 pos p = .inr (p.2.2.2.2 ++ [(p.2.2.2.1, p.1)]) := by
  unfold prun
  rw [if_neg (fun q => q.elim h (fun q => q hw))]
theorem prun_s {f : Nat → Int32} {r pos : Nat} {p p' : PSt} (h : pstep p (f pos) = some p') : prun f (r + 1) pos p = prun f r (pos + 1) p' := by
  conv => lhs; unfold prun
  rw [h]
theorem prun_n {f : Nat → Int32} {r pos : Nat} {p : PSt} (h : pstep p (f pos) = none) : prun f (r + 1) pos p = .inl pos := by
  conv => lhs; unfold prun
  rw [h]
set_option maxHeartbeats 4000000 in
set_option maxRecDepth 100000 in
theorem c_X1_read {l : Launch} {b : Nat} {D : va_G} {cA : Nat → ClassId} {ad : Nat → Nat} {S : ST} {f : Nat → Int32} {n : Nat} (hn : S 165 3 = nI n) (h60 : n ≤ 60) (hf : ∀ i, i < n → S 166 i = f i) : MT l b D cA NN ad zT yX1_read cX1_read 2 none 4 [.ref (ad 165)] S (RV (fun S2 => ReadOk S2 (parse f n) ∧ TF0 S S2)) := by
  refine MT.intro (j := 1) (ls := [some (.ref (ad 165)), none]) pn_X1 rfl rfl rfl (fun pr en s0 mi below meth c' K _ => ?_)
  have lp : ∀ (fuel : Nat) (pos : Nat) (p : PSt) (S1 : ST), (n + 1 ≤ pos + fuel) → (pos ≤ n) → (PRel S1 p) → (PInv p) → (szP p ≤ pos) → (TF0 S S1) → (S1 165 6 = -5) → (parse f n = prun f (n - pos) pos p) → G pr l en (rmd 4) s0 mi (List.toArray [.ref (ad 165)]) below meth c' (MQ below (QQ b D cA NN ad zT (RV (fun S2 => ReadOk S2 (parse f n) ∧ TF0 S S2))) (List.toArray [.ref (ad 165)]) s0 0 0 (aF b)) b D cA 2 NN ad zT 0 0 22 [some (.ref (ad 165)), some (.int (nI pos))] [] S1 := by
    intro fuel
    induction fuel with
    | zero =>
      intro pos  p  S1  hif hpn hP hI hlen hF h6 hrun
      omega
    | succ fuel ih =>
      intro pos  p  S1  hif hpn hP hI hlen hF h6 hrun
      refine g_iload_n K dX1_read_22 rfl ?_
      refine g_aload_n K dX1_read_23 rfl ?_
      refine g_geti K lk_X1_22 dX1_read_24 rfl (rfl : kd 165 = 1) (by decide) (by decide) (hF.2.trans hn) ?_
      refine g_icmp_ge (tgt := 55) K dX1_read_27 (by decide) (fun u27 => ?_) (fun u27 => ?_)
      · have hpos : pos = n := by
          rw [nI_leI (by omega) (by omega)] at u27
          omega
        subst hpos
        rw [Nat.sub_self] at hrun
        refine g_aload_n K dX1_read_55 rfl ?_
        refine g_geti K lk_X1_42 dX1_read_56 rfl (rfl : kd 165 = 1) (by decide) (by decide) hP.2.1 ?_
        refine g_if_ne (tgt := 69) K dX1_read_59 (by decide) (fun u59 => ?_) (fun u59 => ?_)
        · have hd1 : p.2.1 = 1 := (hI.2.1).resolve_left (fun q => u59 (by rw [q]; rfl))
          refine g_aload_n K dX1_read_69 rfl ?_
          refine g_aload_n K dX1_read_70 rfl ?_
          refine g_geti K lk_X1_22 dX1_read_71 rfl (rfl : kd 165 = 1) (by decide) (by decide) (hF.2.trans hn) ?_
          refine g_puti K lk_X1_26 lq_X1_6 dX1_read_74 (put_i _) rfl (rfl : kd 165 = 1) (by decide) (by decide) ?_
          refine g_vret K dX1_read_77 ⟨rfl, ?_⟩
          rw [hrun, prun_0 (by first | exact Or.inl hd1 | exact Or.inr hw)]
          refine ⟨⟨by simp [stw_app], by omega⟩, fun k a b c => (stw_n a).trans (hF.1 k a b c), ?_⟩
          simpa [stw_app] using hF.2
        · have hd0 : ¬ p.2.1 = 1 := fun q => by rw [q] at u59; exact absurd u59 (by decide)
          refine g_aload_n K dX1_read_62 rfl ?_
          refine g_callVpi K (c_X1_isWhole hP hI) mw_X1_isWhole ml_X1_46 dX1_read_63 (by rfl) rfl rfl (by decide) (by simp [Value.category]) ⟨by decide, by decide⟩ ⟨by decide, by decide⟩ (fun r63 S63 h63 => ?_)
          obtain ⟨hw1, hw2, hS63⟩ := h63
          rw [hS63]
          clear hS63
          refine g_if_ne (tgt := 78) K dX1_read_66 (by decide) (fun u66 => ?_) (fun u66 => ?_)
          · have hw : wholeP p := Classical.byContradiction (fun q => u66 (hw2 q))
            refine g_aload_n K dX1_read_78 rfl ?_
            refine g_callVv K (c_X1_endAxle hP.2.2.2.2.1 (by unfold szP at hlen; omega)) mw_X1_endAxle ml_X1_50 dX1_read_79 (by rfl) rfl rfl (by decide) (by simp [Value.category]) ⟨by decide, by decide⟩ ⟨by decide, by decide⟩ ?_
            refine g_vret K dX1_read_82 ⟨rfl, ?_⟩
            obtain ⟨e1, e2, e3, e4⟩ := endS_rel hP
            obtain ⟨g1, g2, g3⟩ := PInv.push hI (hI.2.1.resolve_right hd0) hw
            rw [hrun, prun_1 hd0 hw]
            refine ⟨⟨e4.2.2.trans h6, e2, ?_, g1, ?_, e1⟩, fun k a b c => (e4.1 k a b c).trans (hF.1 k a b c), e4.2.1.trans hF.2⟩
            · rw [e3 5 (by decide), hP.2.2.2.2.2.1, g3]
            · unfold szP at hlen
              simp
              omega
          · have hw : ¬ wholeP p := fun q => by rw [hw1 q] at u66; exact absurd u66 (by decide)
            refine g_aload_n K dX1_read_69 rfl ?_
            refine g_aload_n K dX1_read_70 rfl ?_
            refine g_geti K lk_X1_22 dX1_read_71 rfl (rfl : kd 165 = 1) (by decide) (by decide) (hF.2.trans hn) ?_
            refine g_puti K lk_X1_26 lq_X1_6 dX1_read_74 (put_i _) rfl (rfl : kd 165 = 1) (by decide) (by decide) ?_
            refine g_vret K dX1_read_77 ⟨rfl, ?_⟩
            rw [hrun, prun_0 (by first | exact Or.inl hd1 | exact Or.inr hw)]
            refine ⟨⟨by simp [stw_app], by omega⟩, fun k a b c => (stw_n a).trans (hF.1 k a b c), ?_⟩
            simpa [stw_app] using hF.2
      · have hpos : pos < n := by
          rw [nI_leI (by omega) (by omega)] at u27
          omega
        refine g_aload_n K dX1_read_30 rfl ?_
        refine g_aload_n K dX1_read_31 rfl ?_
        refine g_getr (j := 166) K lk_X1_9 dX1_read_32 rfl (by decide) (rfl : kd 165 = 1) (by decide) (by decide) rfl (rfl : rs 165 0 = 166) ?_
        refine g_iload_n K dX1_read_35 rfl ?_
        refine g_cald (j := pos) K dX1_read_36 rfl ln_166 (by omega) (rfl : kd 166 = 10) (by decide) ((congrFun (hF.1 166 (by decide) (by decide) (by decide)) pos).trans (hf pos hpos)) ?_
        refine g_callVpi K (c_X1_accepts hP hI (by unfold szP at hlen; omega)) mw_X1_accepts ml_X1_38 dX1_read_37 (by rfl) rfl rfl (by decide) (by simp [Value.category]) ⟨by decide, by decide⟩ ⟨by decide, by decide⟩ (fun r37 S37 h37 => ?_)
        refine g_if_ne (tgt := 49) K dX1_read_40 (by decide) (fun u40 => ?_) (fun u40 => ?_)
        · refine g_iinc (ls2 := [_, some (.int _)]) K dX1_read_49 rfl kc_1 rfl ?_
          refine g_goto (tgt := 22) K dX1_read_52 (by decide) ?_
          rw [nI_1]
          rcases h37 with ⟨q1, q2, q3⟩ | ⟨p2, q1, q2, q3, q4⟩
          · exact absurd q2 u40
          obtain ⟨i1, i2⟩ := pstep_inv hI q1
          refine ih (pos + 1) p2 S37 (by omega) (by omega) q3 i1 (by omega) ⟨fun k a b c => (q4.1 k a b c).trans (hF.1 k a b c), q4.2.1.trans hF.2⟩ (q4.2.2.trans h6) ?_
          rw [hrun, show n - pos = (n - (pos + 1)) + 1 by omega, prun_s q1]
        · refine g_aload_n K dX1_read_43 rfl ?_
          refine g_iload_n K dX1_read_44 rfl ?_
          refine g_puti K lk_X1_26 lq_X1_6 dX1_read_45 (put_i _) rfl (rfl : kd 165 = 1) (by decide) (by decide) ?_
          refine g_vret K dX1_read_48 ⟨rfl, ?_⟩
          rcases h37 with ⟨q1, q2, q3⟩ | ⟨p2, q1, q2, q3, q4⟩
          · rw [hrun, show n - pos = (n - (pos + 1)) + 1 by omega, prun_n q1, q3]
            refine ⟨⟨by simp [stw_app], by omega⟩, fun k a b c => (stw_n a).trans (hF.1 k a b c), ?_⟩
            simpa [stw_app] using hF.2
          · rw [q2] at u40
            exact absurd u40 (by decide)
  refine g_aload_n K dX1_read_0 rfl ?_
  refine g_bipush K dX1_read_1 kb_m5 ?_
  refine g_puti K lk_X1_26 lq_X1_6 dX1_read_3 (put_i _) rfl (rfl : kd 165 = 1) (by decide) (by decide) ?_
  refine g_aload_n K dX1_read_6 rfl ?_
  refine g_iconst K dX1_read_7 kc_0 ?_
  refine g_puti K lk_X1_29 lq_X1_4 dX1_read_8 (put_i _) rfl (rfl : kd 165 = 1) (by decide) (by decide) ?_
  refine g_aload_n K dX1_read_11 rfl ?_
  refine g_iconst K dX1_read_12 kc_0 ?_
  refine g_puti K lk_X1_32 lq_X1_5 dX1_read_13 (put_i _) rfl (rfl : kd 165 = 1) (by decide) (by decide) ?_
  refine g_aload_n K dX1_read_16 rfl ?_
  refine g_callVv K c_X1_beginCart mw_X1_beginCart ml_X1_35 dX1_read_17 (by rfl) rfl rfl (by decide) (by simp [Value.category]) ⟨by decide, by decide⟩ ⟨by decide, by decide⟩ ?_
  refine g_iconst K dX1_read_20 kc_0 ?_
  refine g_istore_n (ls2 := [_, some (.int _)]) K dX1_read_21 (by decide) rfl ?_
  refine lp (n + 1) 0 p0 _ (by omega) (by omega) ?_ p0_inv (Nat.le_refl _) ⟨fun k a b c => ?_, ?_⟩ ?_ rfl
  · unfold begK begS
    refine ⟨?_, ?_, ?_, ?_, ?_, ?_, fun j x hx => by simp [p0] at hx⟩ <;> simp [stw_app, p0, cntI] <;> rfl
  · unfold begK begS
    rw [stw_n a, stw_n a, stw_n a, stw_n a, stw_n a, stw_n a, stw_n a, stw_n a]
  · simp [begK, begS, stw_app]
  · simp [begK, begS, stw_app]
