set_option maxHeartbeats 4000000 in
set_option maxRecDepth 100000 in
theorem c_X7_isDown {l : Launch} {b : Nat} {D : va_G} {cA : Nat → ClassId} {ad : Nat → Nat} {S : ST} {z : Nat → Int32} {k a : Nat} (hz : MZ S z) (hk : k < 6) (ha : a < 5) : MT l b D cA NN ad zT yX7_isDown cX7_isDown 3 (some .boolean) 1 [.ref (ad 181), .int (nI k), .int (nI a)] S (EI (if lQ (qOf z k) a = 0 then 1 else 0) S) := by
  refine MT.intro (j := 0) (ls := [some (.ref (ad 181)), some (.int (nI k)), some (.int (nI a))]) pn_X7 rfl rfl rfl (fun pr en s0 mi below meth c' K _ => ?_)
  refine g_aload_n K dX7_isDown_0 rfl ?_
  refine g_iload_n K dX7_isDown_1 rfl ?_
  refine g_bipush K dX7_isDown_2 kb_15 ?_
  refine g_iload_n K dX7_isDown_4 rfl ?_
  refine g_iadd K dX7_isDown_5 ?_
  rw [show (15 : Int32) + nI a = nI (15 + a) from nI_add 15 a]
  refine g_callVi K (c_X7_of (k := k) (w := 15 + a) hz hk (by omega)) mw_X7_of ml_X7_54 dX7_isDown_6 (by rfl) rfl rfl (by decide) (by simp [Value.category]) ⟨by decide, by decide⟩ ⟨by decide, by decide⟩ ?_
  refine g_if_ne (tgt := 16) K dX7_isDown_9 (by decide) (fun u9 => ?_) (fun u9 => ?_)
  · refine g_iconst K dX7_isDown_16 kc_0 ?_
    refine g_zret K dX7_isDown_17 (by first | exact Or.inl rfl | exact Or.inr rfl | assumption) ⟨_, rfl, ?_⟩
    refine ⟨?_, rfl⟩
    unfold lQ
    first
      | rw [if_pos u9]
      | rw [if_neg u9]
  · refine g_iconst K dX7_isDown_12 kc_1 ?_
    refine g_goto (tgt := 17) K dX7_isDown_13 (by decide) ?_
    refine g_zret K dX7_isDown_17 (by first | exact Or.inl rfl | exact Or.inr rfl | assumption) ⟨_, rfl, ?_⟩
    refine ⟨?_, rfl⟩
    unfold lQ
    first
      | rw [if_pos u9]
      | rw [if_neg u9]
set_option maxHeartbeats 4000000 in
set_option maxRecDepth 100000 in
theorem c_X7_down {l : Launch} {b : Nat} {D : va_G} {cA : Nat → ClassId} {ad : Nat → Nat} {S : ST} {z : Nat → Int32} {k N : Nat} (hz : MZ S z) (hk : k < 6) (hq : CartOk (qOf z k) N) : MT l b D cA NN ad zT yX7_down cX7_down 4 (some .int) 2 [.ref (ad 181), .int (nI k)] S (EI (downF (lQ (qOf z k)) N) S) := by
  have h5 := hq.2.2.1
  have hq0 := hq.1
  refine MT.intro (j := 2) (ls := [some (.ref (ad 181)), some (.int (nI k)), none, none]) pn_X7 rfl rfl rfl (fun pr en s0 mi below meth c' K _ => ?_)
  have lp : ∀ (fuel : Nat) (i : Nat) (y : Int32), (N + 1 ≤ i + fuel) → (i ≤ N) → (y = downF (lQ (qOf z k)) i) → G pr l en (rmd 2) s0 mi (List.toArray [.ref (ad 181), .int (nI k)]) below meth c' (MQ below (QQ b D cA NN ad zT (EI (downF (lQ (qOf z k)) N) S)) (List.toArray [.ref (ad 181), .int (nI k)]) s0 0 0 (aF b)) b D cA 4 NN ad zT 0 0 4 [some (.ref (ad 181)), some (.int (nI k)), some (.int y), some (.int (nI i))] [] S := by
    intro fuel
    induction fuel with
    | zero =>
      intro i  y  hi hi2 hy
      omega
    | succ fuel ih =>
      intro i  y  hi hi2 hy
      refine g_iload_n K dX7_down_4 rfl ?_
      refine g_aload_n K dX7_down_5 rfl ?_
      refine g_iload_n K dX7_down_6 rfl ?_
      refine g_iconst K dX7_down_7 kc_0 ?_
      refine g_callVi K (c_X7_of (k := k) (w := 0) hz hk (by decide)) mw_X7_of ml_X7_54 dX7_down_8 (by rfl) rfl rfl (by decide) (by simp [Value.category]) ⟨by decide, by decide⟩ ⟨by decide, by decide⟩ ?_
      refine g_icmp_ge (tgt := 37) K dX7_down_11 (by decide) (fun u11 => ?_) (fun u11 => ?_)
      · have hiN : i = N := by
          rw [hq0, nI_leI (by omega) (by omega)] at u11
          omega
        refine g_iload_n K dX7_down_37 rfl ?_
        refine g_iret K dX7_down_38 ⟨_, rfl, ?_⟩
        rw [← hiN]
        exact ⟨hy, rfl⟩
      · have hiN : i < N := by
          rw [hq0, nI_leI (by omega) (by omega)] at u11
          omega
        refine g_iload_n K dX7_down_14 rfl ?_
        refine g_aload_n K dX7_down_15 rfl ?_
        refine g_iload_n K dX7_down_16 rfl ?_
        refine g_iload_n K dX7_down_17 rfl ?_
        refine g_callVi K (c_X7_isDown (k := k) (a := i) hz hk (by omega)) mw_X7_isDown ml_X7_88 dX7_down_18 (by rfl) rfl rfl (by decide) (by simp [Value.category]) ⟨by decide, by decide⟩ ⟨by decide, by decide⟩ ?_
        refine g_if_eq (tgt := 28) K dX7_down_21 (by decide) (fun u21 => ?_) (fun u21 => ?_)
        · refine g_iconst K dX7_down_28 kc_0 ?_
          refine g_iadd K dX7_down_29 ?_
          refine g_istore_n (ls2 := [_, _, some (.int _), _]) K dX7_down_30 (by decide) rfl ?_
          refine g_iinc (ls2 := [_, _, _, some (.int _)]) K dX7_down_31 rfl kc_1 rfl ?_
          refine g_goto (tgt := 4) K dX7_down_34 (by decide) ?_
          rw [nI_1]
          refine ih (i + 1) _ (by omega) (by omega) ?_
          rw [hy]
          simp only [downF, sumF]
          grind
        · refine g_iconst K dX7_down_24 kc_1 ?_
          refine g_goto (tgt := 29) K dX7_down_25 (by decide) ?_
          refine g_iadd K dX7_down_29 ?_
          refine g_istore_n (ls2 := [_, _, some (.int _), _]) K dX7_down_30 (by decide) rfl ?_
          refine g_iinc (ls2 := [_, _, _, some (.int _)]) K dX7_down_31 rfl kc_1 rfl ?_
          refine g_goto (tgt := 4) K dX7_down_34 (by decide) ?_
          rw [nI_1]
          refine ih (i + 1) _ (by omega) (by omega) ?_
          rw [hy]
          simp only [downF, sumF]
          grind
  refine g_iconst K dX7_down_0 kc_0 ?_
  refine g_istore_n (ls2 := [_, _, some (.int _), _]) K dX7_down_1 (by decide) rfl ?_
  refine g_iconst K dX7_down_2 kc_0 ?_
  refine g_istore_n (ls2 := [_, _, _, some (.int _)]) K dX7_down_3 (by decide) rfl ?_
  exact lp (N + 1) 0 0 (by omega) (by omega) rfl
theorem upF_no {f : Nat → Int32} : ∀ (n a : Nat), a + n ≤ upF f n a → ∀ b, a ≤ b → b < a + n → ¬ f b = 0 := by
  intro n
  induction n with
  | zero => intro a _ b h1 h2; omega
  | succ n ih =>
    intro a h b h1 h2
    unfold upF at h
    split at h
    · omega
    · next q0 =>
      by_cases e : b = a
      · rw [e]
        exact q0
      · exact ih (a + 1) (by omega) b (by omega) (by omega)
set_option maxHeartbeats 4000000 in
set_option maxRecDepth 100000 in
theorem c_X7_bearer {l : Launch} {b : Nat} {D : va_G} {cA : Nat → ClassId} {ad : Nat → Nat} {S : ST} {z : Nat → Int32} {k N : Nat} {a : Nat} (hz : MZ S z) (hk : k < 6) (hq : CartOk (qOf z k) N) (ha : a < N) : MT l b D cA NN ad zT yX7_bearer cX7_bearer 4 (some .int) 2 [.ref (ad 181), .int (nI k), .int (nI a)] S (EI (bearerF (lQ (qOf z k)) N a) S) := by
  have h5 := hq.2.2.1
  have hq0 := hq.1
  refine MT.intro (j := 1) (ls := [some (.ref (ad 181)), some (.int (nI k)), some (.int (nI a)), none]) pn_X7 rfl rfl rfl (fun pr en s0 mi below meth c' K _ => ?_)
  have lc : ∀ (fuel : Nat) (b0 j : Nat), (j + 1 ≤ fuel) → (j ≤ a) → (b0 ≤ j ∧ lQ (qOf z k) b0 = 0) → (¬ upF (lQ (qOf z k)) (N - a) a < N) → (dnF (lQ (qOf z k)) (j + 1) = dnF (lQ (qOf z k)) a) → G pr l en (rmd 2) s0 mi (List.toArray [.ref (ad 181), .int (nI k), .int (nI a)]) below meth c' (MQ below (QQ b D cA NN ad zT (EI (bearerF (lQ (qOf z k)) N a) S)) (List.toArray [.ref (ad 181), .int (nI k), .int (nI a)]) s0 0 0 (aF b)) b D cA 4 NN ad zT 0 0 39 [some (.ref (ad 181)), some (.int (nI k)), some (.int (nI a)), some (.int (nI j))] [] S := by
    intro fuel
    induction fuel with
    | zero =>
      intro b0 j  hj hja hb hno hd
      omega
    | succ fuel ih =>
      intro b0 j  hj hja hb hno hd
      refine g_aload_n K dX7_bearer_39 rfl ?_
      refine g_iload_n K dX7_bearer_40 rfl ?_
      refine g_iload_n K dX7_bearer_41 rfl ?_
      refine g_callVi K (c_X7_isDown (k := k) (a := j) hz hk (by omega)) mw_X7_isDown ml_X7_88 dX7_bearer_42 (by rfl) rfl rfl (by decide) (by simp [Value.category]) ⟨by decide, by decide⟩ ⟨by decide, by decide⟩ ?_
      refine g_if_ne (tgt := 54) K dX7_bearer_45 (by decide) (fun u45 => ?_) (fun u45 => ?_)
      · refine g_iload_n K dX7_bearer_54 rfl ?_
        refine g_iret K dX7_bearer_55 ⟨_, rfl, ?_⟩
        refine ⟨?_, rfl⟩
        unfold bearerF
        first
          | (have hjl : lQ (qOf z k) j = 0 := by grind
             rw [if_neg hno, ← hd, dnF, if_pos hjl])
          | (have hiN : i < N := by
               rw [hq0, nI_eq (by omega) (by omega)] at u34
               omega
             rw [hup, if_pos hiN])
      · refine g_iinc (ls2 := [_, _, _, some (.int _)]) K dX7_bearer_48 rfl kc_m1 rfl ?_
        refine g_goto (tgt := 39) K dX7_bearer_51 (by decide) ?_
        have hjl : ¬ lQ (qOf z k) j = 0 := by grind
        have hjb : b0 ≠ j := fun q0 => hjl (q0 ▸ hb.2)
        have e : nI j + (-1) = nI (j - 1) := by
          rw [← nI_sub1 (show 1 ≤ j by omega)]
          grind
        rw [e]
        refine ih b0 (j - 1) (by omega) (by omega) ⟨by omega, hb.2⟩ hno ?_
        rw [← hd, show j - 1 + 1 = j by omega, dnF, if_neg hjl]
  have lb : ∀ (i : Nat), (i ≤ N) → (upF (lQ (qOf z k)) (N - a) a = i) → (i < N → lQ (qOf z k) i = 0) → G pr l en (rmd 2) s0 mi (List.toArray [.ref (ad 181), .int (nI k), .int (nI a)]) below meth c' (MQ below (QQ b D cA NN ad zT (EI (bearerF (lQ (qOf z k)) N a) S)) (List.toArray [.ref (ad 181), .int (nI k), .int (nI a)]) s0 0 0 (aF b)) b D cA 4 NN ad zT 0 0 27 [some (.ref (ad 181)), some (.int (nI k)), some (.int (nI a)), some (.int (nI i))] [] S := by
    intro i  hi2 hup hdn
    refine g_iload_n K dX7_bearer_27 rfl ?_
    refine g_aload_n K dX7_bearer_28 rfl ?_
    refine g_iload_n K dX7_bearer_29 rfl ?_
    refine g_iconst K dX7_bearer_30 kc_0 ?_
    refine g_callVi K (c_X7_of (k := k) (w := 0) hz hk (by decide)) mw_X7_of ml_X7_54 dX7_bearer_31 (by rfl) rfl rfl (by decide) (by simp [Value.category]) ⟨by decide, by decide⟩ ⟨by decide, by decide⟩ ?_
    refine g_icmp_ne (tgt := 54) K dX7_bearer_34 (by decide) (fun u34 => ?_) (fun u34 => ?_)
    · refine g_iload_n K dX7_bearer_54 rfl ?_
      refine g_iret K dX7_bearer_55 ⟨_, rfl, ?_⟩
      refine ⟨?_, rfl⟩
      unfold bearerF
      first
        | (have hjl : lQ (qOf z k) j = 0 := by grind
           rw [if_neg hno, ← hd, dnF, if_pos hjl])
        | (have hiN : i < N := by
             rw [hq0, nI_eq (by omega) (by omega)] at u34
             omega
           rw [hup, if_pos hiN])
    · refine g_iload_n K dX7_bearer_37 rfl ?_
      refine g_istore_n (ls2 := [_, _, _, some (.int _)]) K dX7_bearer_38 (by decide) rfl ?_
      have hiN : i = N := by
        rw [hq0, nI_eq (by omega) (by omega)] at u34
        exact u34
      have hla : ¬ lQ (qOf z k) a = 0 := by
        intro q0
        have h9 := hup
        rw [show N - a = (N - a - 1) + 1 by omega, upF, if_pos q0] at h9
        omega
      obtain ⟨b0, hb0, hl0⟩ := hq.2.2.2.2
      have hb0a : b0 ≤ a := by
        rcases Nat.lt_or_ge a b0 with q0 | q0
        · exact absurd hl0 (upF_no (N - a) a (by rw [hup, hiN]; omega) b0 (by omega) (by omega))
        · exact q0
      refine lc (a + 1) b0 a (by omega) (Nat.le_refl _) ⟨hb0a, hl0⟩ (by rw [hup, hiN]; omega) ?_
      rw [dnF, if_neg hla]
  have la : ∀ (fuel : Nat) (i : Nat), (N + 1 ≤ i + fuel) → (i ≤ N) → (a ≤ i) → (upF (lQ (qOf z k)) (N - a) a = upF (lQ (qOf z k)) (N - i) i) → G pr l en (rmd 2) s0 mi (List.toArray [.ref (ad 181), .int (nI k), .int (nI a)]) below meth c' (MQ below (QQ b D cA NN ad zT (EI (bearerF (lQ (qOf z k)) N a) S)) (List.toArray [.ref (ad 181), .int (nI k), .int (nI a)]) s0 0 0 (aF b)) b D cA 4 NN ad zT 0 0 2 [some (.ref (ad 181)), some (.int (nI k)), some (.int (nI a)), some (.int (nI i))] [] S := by
    intro fuel
    induction fuel with
    | zero =>
      intro i  hi hi2 hai hx
      omega
    | succ fuel ih =>
      intro i  hi hi2 hai hx
      refine g_iload_n K dX7_bearer_2 rfl ?_
      refine g_aload_n K dX7_bearer_3 rfl ?_
      refine g_iload_n K dX7_bearer_4 rfl ?_
      refine g_iconst K dX7_bearer_5 kc_0 ?_
      refine g_callVi K (c_X7_of (k := k) (w := 0) hz hk (by decide)) mw_X7_of ml_X7_54 dX7_bearer_6 (by rfl) rfl rfl (by decide) (by simp [Value.category]) ⟨by decide, by decide⟩ ⟨by decide, by decide⟩ ?_
      refine g_icmp_ge (tgt := 27) K dX7_bearer_9 (by decide) (fun u9 => ?_) (fun u9 => ?_)
      · have hiN : i = N := by
          rw [hq0, nI_leI (by omega) (by omega)] at u9
          omega
        exact lb i hi2 (by rw [hx, hiN, Nat.sub_self]; rfl) (fun q0 => absurd q0 (by omega))
      · have hiN : i < N := by
          rw [hq0, nI_leI (by omega) (by omega)] at u9
          omega
        refine g_aload_n K dX7_bearer_12 rfl ?_
        refine g_iload_n K dX7_bearer_13 rfl ?_
        refine g_iload_n K dX7_bearer_14 rfl ?_
        refine g_callVi K (c_X7_isDown (k := k) (a := i) hz hk (by omega)) mw_X7_isDown ml_X7_88 dX7_bearer_15 (by rfl) rfl rfl (by decide) (by simp [Value.category]) ⟨by decide, by decide⟩ ⟨by decide, by decide⟩ ?_
        refine g_if_ne (tgt := 27) K dX7_bearer_18 (by decide) (fun u18 => ?_) (fun u18 => ?_)
        · exact lb i hi2 (by rw [hx, show N - i = (N - (i + 1)) + 1 by omega, upF, if_pos (by grind)]) (fun _ => by grind)
        · refine g_iinc (ls2 := [_, _, _, some (.int _)]) K dX7_bearer_21 rfl kc_1 rfl ?_
          refine g_goto (tgt := 2) K dX7_bearer_24 (by decide) ?_
          rw [nI_1]
          refine ih (i + 1) (by omega) (by omega) (by omega) ?_
          rw [hx, show N - i = (N - (i + 1)) + 1 by omega, upF, if_neg (by grind)]
  refine g_iload_n K dX7_bearer_0 rfl ?_
  refine g_istore_n (ls2 := [_, _, _, some (.int _)]) K dX7_bearer_1 (by decide) rfl ?_
  exact la (N + 1) a (by omega) (by omega) (by omega) rfl
set_option maxHeartbeats 4000000 in
set_option maxRecDepth 100000 in
theorem c_X7_bears {l : Launch} {b : Nat} {D : va_G} {cA : Nat → ClassId} {ad : Nat → Nat} {S : ST} {z : Nat → Int32} {k N : Nat} {x : Int32} (hz : MZ S z) (hk : k < 6) (hq : CartOk (qOf z k) N) : MT l b D cA NN ad zT yX7_bears cX7_bears 5 (some .int) 3 [.ref (ad 181), .int (nI k), .int x] S (EI (borneF (wQ (qOf z k)) (lQ (qOf z k)) N x) S) := by
  have h5 := hq.2.2.1
  have hq0 := hq.1
  refine MT.intro (j := 2) (ls := [some (.ref (ad 181)), some (.int (nI k)), some (.int x), none, none]) pn_X7 rfl rfl rfl (fun pr en s0 mi below meth c' K _ => ?_)
  have lp : ∀ (fuel : Nat) (i : Nat) (y : Int32), (N + 1 ≤ i + fuel) → (i ≤ N) → (y = sumF (fun j => if bearerF (lQ (qOf z k)) N j = x then wQ (qOf z k) j else 0) i) → G pr l en (rmd 3) s0 mi (List.toArray [.ref (ad 181), .int (nI k), .int x]) below meth c' (MQ below (QQ b D cA NN ad zT (EI (borneF (wQ (qOf z k)) (lQ (qOf z k)) N x) S)) (List.toArray [.ref (ad 181), .int (nI k), .int x]) s0 0 0 (aF b)) b D cA 5 NN ad zT 0 0 5 [some (.ref (ad 181)), some (.int (nI k)), some (.int x), some (.int y), some (.int (nI i))] [] S := by
    intro fuel
    induction fuel with
    | zero =>
      intro i  y  hi hi2 hy
      omega
    | succ fuel ih =>
      intro i  y  hi hi2 hy
      refine g_iload K dX7_bears_5 rfl ?_
      refine g_aload_n K dX7_bears_7 rfl ?_
      refine g_iload_n K dX7_bears_8 rfl ?_
      refine g_iconst K dX7_bears_9 kc_0 ?_
      refine g_callVi K (c_X7_of (k := k) (w := 0) hz hk (by decide)) mw_X7_of ml_X7_54 dX7_bears_10 (by rfl) rfl rfl (by decide) (by simp [Value.category]) ⟨by decide, by decide⟩ ⟨by decide, by decide⟩ ?_
      refine g_icmp_ge (tgt := 49) K dX7_bears_13 (by decide) (fun u13 => ?_) (fun u13 => ?_)
      · have hiN : i = N := by
          rw [hq0, nI_leI (by omega) (by omega)] at u13
          omega
        refine g_iload_n K dX7_bears_49 rfl ?_
        refine g_iret K dX7_bears_50 ⟨_, rfl, ?_⟩
        rw [← hiN]
        rw [← hiN] at hy
        exact ⟨hy, rfl⟩
      · have hiN : i < N := by
          rw [hq0, nI_leI (by omega) (by omega)] at u13
          omega
        refine g_iload_n K dX7_bears_16 rfl ?_
        refine g_aload_n K dX7_bears_17 rfl ?_
        refine g_iload_n K dX7_bears_18 rfl ?_
        refine g_iload K dX7_bears_19 rfl ?_
        refine g_callVi K (c_X7_bearer (k := k) (a := i) hz hk hq hiN) mw_X7_bearer ml_X7_95 dX7_bears_21 (by rfl) rfl rfl (by decide) (by simp [Value.category]) ⟨by decide, by decide⟩ ⟨by decide, by decide⟩ ?_
        refine g_iload_n K dX7_bears_24 rfl ?_
        refine g_icmp_ne (tgt := 40) K dX7_bears_25 (by decide) (fun u25 => ?_) (fun u25 => ?_)
        · refine g_iconst K dX7_bears_40 kc_0 ?_
          refine g_iadd K dX7_bears_41 ?_
          refine g_istore_n (ls2 := [_, _, _, some (.int _), _]) K dX7_bears_42 (by decide) rfl ?_
          refine g_iinc (ls2 := [_, _, _, _, some (.int _)]) K dX7_bears_43 rfl kc_1 rfl ?_
          refine g_goto (tgt := 5) K dX7_bears_46 (by decide) ?_
          rw [nI_1]
          refine ih (i + 1) _ (by omega) (by omega) ?_
          rw [hy]
          unfold wQ
          simp only [sumF]
          grind
        · refine g_aload_n K dX7_bears_28 rfl ?_
          refine g_iload_n K dX7_bears_29 rfl ?_
          refine g_iconst K dX7_bears_30 kc_5 ?_
          refine g_iload K dX7_bears_31 rfl ?_
          refine g_iadd K dX7_bears_33 ?_
          rw [show (5 : Int32) + nI i = nI (5 + i) from nI_add 5 i]
          refine g_callVi K (c_X7_of (k := k) (w := 5 + i) hz hk (by omega)) mw_X7_of ml_X7_54 dX7_bears_34 (by rfl) rfl rfl (by decide) (by simp [Value.category]) ⟨by decide, by decide⟩ ⟨by decide, by decide⟩ ?_
          refine g_goto (tgt := 41) K dX7_bears_37 (by decide) ?_
          refine g_iadd K dX7_bears_41 ?_
          refine g_istore_n (ls2 := [_, _, _, some (.int _), _]) K dX7_bears_42 (by decide) rfl ?_
          refine g_iinc (ls2 := [_, _, _, _, some (.int _)]) K dX7_bears_43 rfl kc_1 rfl ?_
          refine g_goto (tgt := 5) K dX7_bears_46 (by decide) ?_
          rw [nI_1]
          refine ih (i + 1) _ (by omega) (by omega) ?_
          rw [hy]
          unfold wQ
          simp only [sumF]
          grind
  refine g_iconst K dX7_bears_0 kc_0 ?_
  refine g_istore_n (ls2 := [_, _, _, some (.int _), _]) K dX7_bears_1 (by decide) rfl ?_
  refine g_iconst K dX7_bears_2 kc_0 ?_
  refine g_istore (ls2 := [_, _, _, _, some (.int _)]) K dX7_bears_3 (by decide) rfl ?_
  exact lp (N + 1) 0 0 (by omega) (by omega) rfl
set_option maxHeartbeats 4000000 in
set_option maxRecDepth 100000 in
theorem c_X7_sum {l : Launch} {b : Nat} {D : va_G} {cA : Nat → ClassId} {ad : Nat → Nat} {S : ST} {z : Nat → Int32} {k N : Nat} {w : Nat} (hz : MZ S z) (hk : k < 6) (hq : CartOk (qOf z k) N) (hw : w + 5 ≤ 20) : MT l b D cA NN ad zT yX7_sum cX7_sum 5 (some .int) 1 [.ref (ad 181), .int (nI k), .int (nI w)] S (EI (sumF (fun a => qOf z k (w + a)) N) S) := by
  have h5 := hq.2.2.1
  have hq0 := hq.1
  refine MT.intro (j := 2) (ls := [some (.ref (ad 181)), some (.int (nI k)), some (.int (nI w)), none, none]) pn_X7 rfl rfl rfl (fun pr en s0 mi below meth c' K _ => ?_)
  have lp : ∀ (fuel : Nat) (i : Nat) (y : Int32), (N + 1 ≤ i + fuel) → (i ≤ N) → (y = sumF (fun a => qOf z k (w + a)) i) → G pr l en (rmd 1) s0 mi (List.toArray [.ref (ad 181), .int (nI k), .int (nI w)]) below meth c' (MQ below (QQ b D cA NN ad zT (EI (sumF (fun a => qOf z k (w + a)) N) S)) (List.toArray [.ref (ad 181), .int (nI k), .int (nI w)]) s0 0 0 (aF b)) b D cA 5 NN ad zT 0 0 5 [some (.ref (ad 181)), some (.int (nI k)), some (.int (nI w)), some (.int y), some (.int (nI i))] [] S := by
    intro fuel
    induction fuel with
    | zero =>
      intro i  y  hi hi2 hy
      omega
    | succ fuel ih =>
      intro i  y  hi hi2 hy
      refine g_iload K dX7_sum_5 rfl ?_
      refine g_aload_n K dX7_sum_7 rfl ?_
      refine g_iload_n K dX7_sum_8 rfl ?_
      refine g_iconst K dX7_sum_9 kc_0 ?_
      refine g_callVi K (c_X7_of (k := k) (w := 0) hz hk (by decide)) mw_X7_of ml_X7_54 dX7_sum_10 (by rfl) rfl rfl (by decide) (by simp [Value.category]) ⟨by decide, by decide⟩ ⟨by decide, by decide⟩ ?_
      refine g_icmp_ge (tgt := 34) K dX7_sum_13 (by decide) (fun u13 => ?_) (fun u13 => ?_)
      · have hiN : i = N := by
          rw [hq0, nI_leI (by omega) (by omega)] at u13
          omega
        refine g_iload_n K dX7_sum_34 rfl ?_
        refine g_iret K dX7_sum_35 ⟨_, rfl, ?_⟩
        rw [← hiN]
        exact ⟨hy, rfl⟩
      · have hiN : i < N := by
          rw [hq0, nI_leI (by omega) (by omega)] at u13
          omega
        refine g_iload_n K dX7_sum_16 rfl ?_
        refine g_aload_n K dX7_sum_17 rfl ?_
        refine g_iload_n K dX7_sum_18 rfl ?_
        refine g_iload_n K dX7_sum_19 rfl ?_
        refine g_iload K dX7_sum_20 rfl ?_
        refine g_iadd K dX7_sum_22 ?_
        rw [nI_add]
        refine g_callVi K (c_X7_of (k := k) (w := w + i) hz hk (by omega)) mw_X7_of ml_X7_54 dX7_sum_23 (by rfl) rfl rfl (by decide) (by simp [Value.category]) ⟨by decide, by decide⟩ ⟨by decide, by decide⟩ ?_
        refine g_iadd K dX7_sum_26 ?_
        refine g_istore_n (ls2 := [_, _, _, some (.int _), _]) K dX7_sum_27 (by decide) rfl ?_
        refine g_iinc (ls2 := [_, _, _, _, some (.int _)]) K dX7_sum_28 rfl kc_1 rfl ?_
        refine g_goto (tgt := 5) K dX7_sum_31 (by decide) ?_
        rw [nI_1]
        refine ih (i + 1) _ (by omega) (by omega) ?_
        rw [hy]
        rfl
  refine g_iconst K dX7_sum_0 kc_0 ?_
  refine g_istore_n (ls2 := [_, _, _, some (.int _), _]) K dX7_sum_1 (by decide) rfl ?_
  refine g_iconst K dX7_sum_2 kc_0 ?_
  refine g_istore (ls2 := [_, _, _, _, some (.int _)]) K dX7_sum_3 (by decide) rfl ?_
  exact lp (N + 1) 0 0 (by omega) (by omega) rfl
set_option maxHeartbeats 4000000 in
set_option maxRecDepth 100000 in
theorem c_X7_isOn {l : Launch} {b : Nat} {D : va_G} {cA : Nat → ClassId} {ad : Nat → Nat} {S : ST} {z : Nat → Int32} {x : Int32} (hz : MZ S z) (hse : SetOk z) : MT l b D cA NN ad zT yX7_isOn cX7_isOn 2 (some .boolean) 1 [.ref (ad 181), .int x] S (EI (if 0 ≤ x ∧ x < z 0 then 1 else 0) S) := by
  refine MT.intro (j := 0) (ls := [some (.ref (ad 181)), some (.int x)]) pn_X7 rfl rfl rfl (fun pr en s0 mi below meth c' K _ => ?_)
  refine g_iload_n K dX7_isOn_0 rfl ?_
  refine g_iconst K dX7_isOn_1 kc_0 ?_
  refine g_aload_n K dX7_isOn_2 rfl ?_
  refine g_getr (j := 182) K lk_X7_7 dX7_isOn_3 rfl (by decide) (rfl : kd 181 = 7) (by decide) (by decide) rfl (rfl : rs 181 0 = 182) ?_
  refine g_iconst K dX7_isOn_6 kc_0 ?_
  refine g_iald (j := 0) K dX7_isOn_7 rfl ln_182 (by decide) (rfl : kd 182 = 8) (by decide) (hz 0 (by decide)) ?_
  refine g_iconst K dX7_isOn_8 kc_1 ?_
  refine g_isub K dX7_isOn_9 ?_
  refine g_callSi K c_X7_in mw_X7_in ml_X7_46 dX7_isOn_10 (by rfl) rfl (by simp [Value.category]) ⟨by decide, by decide⟩ ⟨by decide, by decide⟩ ?_
  refine g_zret K dX7_isOn_13 (by split <;> first | exact Or.inr rfl | exact Or.inl rfl) ⟨_, rfl, ?_⟩
  refine ⟨?_, rfl⟩
  have h0 := hse 0 (by decide)
  have h1 : (10 : Int32) ≤ z 0 := h0.1
  have h2 : z 0 ≤ 90 := h0.2
  grind
set_option maxHeartbeats 4000000 in
set_option maxRecDepth 100000 in
theorem c_X7_net {l : Launch} {b : Nat} {D : va_G} {cA : Nat → ClassId} {ad : Nat → Nat} {S : ST} {z : Nat → Int32} {k N : Nat} (hz : MZ S z) (hk : k < 6) (hq : CartOk (qOf z k) N) : MT l b D cA NN ad zT yX7_net cX7_net 2 (some .int) 1 [.ref (ad 181), .int (nI k)] S (EI (netF (qOf z k 1) (qOf z k 2)) S) := by
  refine MT.intro (j := 0) (ls := [some (.ref (ad 181)), some (.int (nI k))]) pn_X7 rfl rfl rfl (fun pr en s0 mi below meth c' K _ => ?_)
  refine g_aload_n K dX7_net_0 rfl ?_
  refine g_iload_n K dX7_net_1 rfl ?_
  refine g_iconst K dX7_net_2 kc_1 ?_
  refine g_callVi K (c_X7_of (k := k) (w := 1) hz hk (by decide)) mw_X7_of ml_X7_54 dX7_net_3 (by rfl) rfl rfl (by decide) (by simp [Value.category]) ⟨by decide, by decide⟩ ⟨by decide, by decide⟩ ?_
  refine g_bipush K dX7_net_6 kb_m5 ?_
  refine g_icmp_eq (tgt := 22) K dX7_net_8 (by decide) (fun u8 => ?_) (fun u8 => ?_)
  · refine g_bipush K dX7_net_22 kb_m5 ?_
    refine g_goto (tgt := 44) K dX7_net_24 (by decide) ?_
    refine g_iret K dX7_net_44 ⟨_, rfl, ?_⟩
    refine ⟨?_, rfl⟩
    unfold netF
    grind
  · refine g_aload_n K dX7_net_11 rfl ?_
    refine g_iload_n K dX7_net_12 rfl ?_
    refine g_iconst K dX7_net_13 kc_2 ?_
    refine g_callVi K (c_X7_of (k := k) (w := 2) hz hk (by decide)) mw_X7_of ml_X7_54 dX7_net_14 (by rfl) rfl rfl (by decide) (by simp [Value.category]) ⟨by decide, by decide⟩ ⟨by decide, by decide⟩ ?_
    refine g_bipush K dX7_net_17 kb_m5 ?_
    refine g_icmp_ne (tgt := 27) K dX7_net_19 (by decide) (fun u19 => ?_) (fun u19 => ?_)
    · refine g_aload_n K dX7_net_27 rfl ?_
      refine g_iload_n K dX7_net_28 rfl ?_
      refine g_iconst K dX7_net_29 kc_2 ?_
      refine g_callVi K (c_X7_of (k := k) (w := 2) hz hk (by decide)) mw_X7_of ml_X7_54 dX7_net_30 (by rfl) rfl rfl (by decide) (by simp [Value.category]) ⟨by decide, by decide⟩ ⟨by decide, by decide⟩ ?_
      refine g_aload_n K dX7_net_33 rfl ?_
      refine g_iload_n K dX7_net_34 rfl ?_
      refine g_iconst K dX7_net_35 kc_1 ?_
      refine g_callVi K (c_X7_of (k := k) (w := 1) hz hk (by decide)) mw_X7_of ml_X7_54 dX7_net_36 (by rfl) rfl rfl (by decide) (by simp [Value.category]) ⟨by decide, by decide⟩ ⟨by decide, by decide⟩ ?_
      refine g_isub K dX7_net_39 ?_
      refine g_sipush K dX7_net_40 kp_1000 ?_
      refine g_iadd K dX7_net_43 ?_
      refine g_iret K dX7_net_44 ⟨_, rfl, ?_⟩
      refine ⟨?_, rfl⟩
      unfold netF
      grind
    · refine g_bipush K dX7_net_22 kb_m5 ?_
      refine g_goto (tgt := 44) K dX7_net_24 (by decide) ?_
      refine g_iret K dX7_net_44 ⟨_, rfl, ?_⟩
      refine ⟨?_, rfl⟩
      unfold netF
      grind
set_option maxHeartbeats 4000000 in
set_option maxRecDepth 100000 in
theorem c_X7_withTare {l : Launch} {b : Nat} {D : va_G} {cA : Nat → ClassId} {ad : Nat → Nat} {S : ST} {z : Nat → Int32} {n : Nat} (hz : MZ S z) (hn : z 6 = nI n) (h6 : n ≤ 6) : MT l b D cA NN ad zT yX7_withTare cX7_withTare 3 (some .int) 1 [.ref (ad 181)] S (EI (sumF (fun k => if qOf z k 1 = -5 then 0 else 1) n) S) := by
  refine MT.intro (j := 2) (ls := [some (.ref (ad 181)), none, none]) pn_X7 rfl rfl rfl (fun pr en s0 mi below meth c' K _ => ?_)
  have lp : ∀ (fuel : Nat) (i : Nat) (y : Int32), (n + 1 ≤ i + fuel) → (i ≤ n) → (y = sumF (fun k => if qOf z k 1 = -5 then 0 else 1) i) → G pr l en (rmd 1) s0 mi (List.toArray [.ref (ad 181)]) below meth c' (MQ below (QQ b D cA NN ad zT (EI (sumF (fun k => if qOf z k 1 = -5 then 0 else 1) n) S)) (List.toArray [.ref (ad 181)]) s0 0 0 (aF b)) b D cA 3 NN ad zT 0 0 4 [some (.ref (ad 181)), some (.int y), some (.int (nI i))] [] S := by
    intro fuel
    induction fuel with
    | zero =>
      intro i  y  hi hi2 hy
      omega
    | succ fuel ih =>
      intro i  y  hi hi2 hy
      refine g_iload_n K dX7_withTare_4 rfl ?_
      refine g_aload_n K dX7_withTare_5 rfl ?_
      refine g_getr (j := 182) K lk_X7_7 dX7_withTare_6 rfl (by decide) (rfl : kd 181 = 7) (by decide) (by decide) rfl (rfl : rs 181 0 = 182) ?_
      refine g_bipush K dX7_withTare_9 kb_6 ?_
      refine g_iald (j := 6) K dX7_withTare_11 rfl ln_182 (by decide) (rfl : kd 182 = 8) (by decide) ((hz 6 (by decide)).trans hn) ?_
      refine g_icmp_ge (tgt := 40) K dX7_withTare_12 (by decide) (fun u12 => ?_) (fun u12 => ?_)
      · have hiN : i = n := by
          rw [nI_leI (by omega) (by omega)] at u12
          omega
        refine g_iload_n K dX7_withTare_40 rfl ?_
        refine g_iret K dX7_withTare_41 ⟨_, rfl, ?_⟩
        rw [← hiN]
        exact ⟨hy, rfl⟩
      · have hiN : i < n := by
          rw [nI_leI (by omega) (by omega)] at u12
          omega
        refine g_iload_n K dX7_withTare_15 rfl ?_
        refine g_aload_n K dX7_withTare_16 rfl ?_
        refine g_iload_n K dX7_withTare_17 rfl ?_
        refine g_iconst K dX7_withTare_18 kc_1 ?_
        refine g_callVi K (c_X7_of (k := i) (w := 1) hz (by omega) (by decide)) mw_X7_of ml_X7_54 dX7_withTare_19 (by rfl) rfl rfl (by decide) (by simp [Value.category]) ⟨by decide, by decide⟩ ⟨by decide, by decide⟩ ?_
        refine g_bipush K dX7_withTare_22 kb_m5 ?_
        refine g_icmp_ne (tgt := 31) K dX7_withTare_24 (by decide) (fun u24 => ?_) (fun u24 => ?_)
        · refine g_iconst K dX7_withTare_31 kc_1 ?_
          refine g_iadd K dX7_withTare_32 ?_
          refine g_istore_n (ls2 := [_, some (.int _), _]) K dX7_withTare_33 (by decide) rfl ?_
          refine g_iinc (ls2 := [_, _, some (.int _)]) K dX7_withTare_34 rfl kc_1 rfl ?_
          refine g_goto (tgt := 4) K dX7_withTare_37 (by decide) ?_
          rw [nI_1]
          refine ih (i + 1) _ (by omega) (by omega) ?_
          rw [hy]
          simp only [sumF]
          grind
        · refine g_iconst K dX7_withTare_27 kc_0 ?_
          refine g_goto (tgt := 32) K dX7_withTare_28 (by decide) ?_
          refine g_iadd K dX7_withTare_32 ?_
          refine g_istore_n (ls2 := [_, some (.int _), _]) K dX7_withTare_33 (by decide) rfl ?_
          refine g_iinc (ls2 := [_, _, some (.int _)]) K dX7_withTare_34 rfl kc_1 rfl ?_
          refine g_goto (tgt := 4) K dX7_withTare_37 (by decide) ?_
          rw [nI_1]
          refine ih (i + 1) _ (by omega) (by omega) ?_
          rw [hy]
          simp only [sumF]
          grind
  refine g_iconst K dX7_withTare_0 kc_0 ?_
  refine g_istore_n (ls2 := [_, some (.int _), _]) K dX7_withTare_1 (by decide) rfl ?_
  refine g_iconst K dX7_withTare_2 kc_0 ?_
  refine g_istore_n (ls2 := [_, _, some (.int _)]) K dX7_withTare_3 (by decide) rfl ?_
  exact lp (n + 1) 0 0 (by omega) (by omega) rfl
