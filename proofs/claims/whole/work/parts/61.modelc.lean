set_option maxHeartbeats 4000000 in
set_option maxRecDepth 100000 in
theorem c_X7_off {l : Launch} {b : Nat} {D : va_G} {cA : Nat → ClassId} {ad : Nat → Nat} {S : ST} {A : AS} {n : Nat} {x y : Int32} (hA : MRel S A) (hs : StOk (aZ A) n) : MT l b D cA NN ad zT yX7_off cX7_off 5 (some .float) 5 [.ref (ad 181), .int x, .int y] S (RF (MFPost (o_off A x y) A S)) := by
  have h6 := hs.2.2.1
  have hn := hs.2.1
  have hz := hA.1
  refine MT.intro (j := 2) (ls := [some (.ref (ad 181)), some (.int x), some (.int y), none, none]) pn_X7 rfl rfl rfl (fun pr en s0 mi below meth c' K _ => ?_)
  refine g_aload_n K dX7_off_0 rfl ?_
  refine g_iload_n K dX7_off_1 rfl ?_
  refine g_callVi K (c_X7_isCart hz hn h6) mw_X7_isCart ml_X7_50 dX7_off_2 (by rfl) rfl rfl (by decide) (by simp [Value.category]) ⟨by decide, by decide⟩ ⟨by decide, by decide⟩ ?_
  refine g_if_eq (tgt := 18) K dX7_off_5 (by decide) (fun u5 => ?_) (fun u5 => ?_)
  · have hcx : ¬ (0 ≤ x ∧ x < aZ A 6) := by rw [hn]; grind
    refine g_fconst2 K dX7_off_18 ?_
    refine g_fret K dX7_off_19 ⟨_, rfl, ?_⟩
    first
      | exact ⟨by unfold o_off; rw [if_neg (fun q => hcx q.1)], hA, fun _ _ => rfl⟩
      | exact ⟨by unfold o_off; rw [if_neg (fun q => hs9 q.2)], hA, fun _ _ => rfl⟩
  · have hx : 0 ≤ x ∧ x < nI n := by grind
    have hcx : 0 ≤ x ∧ x < aZ A 6 := by rw [hn]; exact hx
    obtain ⟨i, hi, hxi, hki⟩ := c_in (z := aZ A) h6 hx
    have hi6 : i < 6 := by omega
    obtain ⟨N, hq⟩ := hs.2.2.2 i hi
    have h5 := hq.2.2.1
    have hN1 := hq.2.1
    have hq0 : qOf (aZ A) i 0 = nI N := hq.1
    have hnq : nQ (qOf (aZ A) i) = N := nQ_eq hq
    have hqA : qA A x = qOf (aZ A) i := by unfold qA; rw [hki]
    subst hxi
    refine g_iload_n K dX7_off_8 rfl ?_
    refine g_iconst K dX7_off_9 kc_1 ?_
    refine g_bipush K dX7_off_10 kb_9 ?_
    refine g_callSi K c_X7_in mw_X7_in ml_X7_46 dX7_off_12 (by rfl) rfl (by simp [Value.category]) ⟨by decide, by decide⟩ ⟨by decide, by decide⟩ ?_
    refine g_if_ne (tgt := 20) K dX7_off_15 (by decide) (fun u15 => ?_) (fun u15 => ?_)
    · have hs9 : 1 ≤ y ∧ y ≤ 9 := by grind
      refine g_aload_n K dX7_off_20 rfl ?_
      refine g_iload_n K dX7_off_21 rfl ?_
      refine g_iload_n K dX7_off_22 rfl ?_
      refine g_callVpv K (c_X7_reckon (z := aZ A) (k := i) (N := N) hz hi6 hq hs.1 hs9) mw_X7_reckon ml_X7_147 dX7_off_23 (by rfl) rfl rfl (by decide) (by simp [Value.category]) ⟨by decide, by decide⟩ ⟨by decide, by decide⟩ (fun S23 h23 => ?_)
      have hz2 := Fr_mz h23.2 hz
      obtain ⟨wj, hw1, hw2, hwe⟩ := wh_pos hq
      have hcs : (0 ≤ nI i ∧ nI i < aZ A 6) ∧ 1 ≤ y ∧ y ≤ 9 := ⟨hcx, hs9⟩
      refine g_aload_n K dX7_off_26 rfl ?_
      refine g_iload_n K dX7_off_27 rfl ?_
      refine g_iload_n K dX7_off_28 rfl ?_
      refine g_callVi K (c_X7_reason (z := aZ A) (k := i) (N := N) (bh := bhQ (qOf (aZ A) i)) (L := lvQ (aZ A) (qOf (aZ A) i) y) (T := rT (aZ A) (qOf (aZ A) i) y) hz2 hi6 hq hs.1 (fun a ha => (h23.1.1 a (by omega)).2) hs9 h23.1.2.2.1 h23.1.2.1) mw_X7_reason ml_X7_151 dX7_off_29 (by rfl) rfl rfl (by decide) (by simp [Value.category]) ⟨by decide, by decide⟩ ⟨by decide, by decide⟩ ?_
      refine g_nm (y := rsQ (aZ A) (qOf (aZ A) i) y) (by unfold rsQ; rw [hnq]) ?_
      refine g_if_le (tgt := 37) K dX7_off_32 (by decide) (fun u32 => ?_) (fun u32 => ?_)
      · have h0 := rs_nn.mp u32
        refine g_aload_n K dX7_off_37 rfl ?_
        refine g_geti K lk_X7_104 dX7_off_38 rfl (rfl : kd 181 = 7) (by decide) (by decide) (show S23 181 16 = lvQ (aZ A) (qOf (aZ A) i) y 2 from h23.1.2.2.1.2.1) ?_
        refine g_aload_n K dX7_off_41 rfl ?_
        refine g_iload_n K dX7_off_42 rfl ?_
        refine g_iconst K dX7_off_43 kc_5 ?_
        refine g_callVi K (c_X7_sum (z := aZ A) (k := i) (N := N) (w := 5) hz2 hi6 hq (by decide)) mw_X7_sum ml_X7_182 dX7_off_44 (by rfl) rfl rfl (by decide) (by simp [Value.category]) ⟨by decide, by decide⟩ ⟨by decide, by decide⟩ ?_
        refine g_nm (y := nI wj) (by rw [← hwe]; unfold whQ; rw [hnq]; rfl) ?_
        refine g_isub K dX7_off_47 ?_
        refine g_i2f K dX7_off_48 ?_
        refine g_fstore_n (ls2 := [_, _, _, some (.float _), _]) K dX7_off_49 (by decide) rfl ?_
        refine g_aload_n K dX7_off_50 rfl ?_
        refine g_iload_n K dX7_off_51 rfl ?_
        refine g_iconst K dX7_off_52 kc_5 ?_
        refine g_callVi K (c_X7_sum (z := aZ A) (k := i) (N := N) (w := 5) hz2 hi6 hq (by decide)) mw_X7_sum ml_X7_182 dX7_off_53 (by rfl) rfl rfl (by decide) (by simp [Value.category]) ⟨by decide, by decide⟩ ⟨by decide, by decide⟩ ?_
        refine g_nm (y := nI wj) (by rw [← hwe]; unfold whQ; rw [hnq]; rfl) ?_
        refine g_i2f K dX7_off_56 ?_
        refine g_fstore (ls2 := [_, _, _, _, some (.float _)]) K dX7_off_57 (by decide) rfl ?_
        refine g_fload_n K dX7_off_59 rfl ?_
        refine g_fload K dX7_off_60 rfl ?_
        refine g_fdiv K dX7_off_62 (fp_vdiv hw1 hw2) ?_
        refine g_fret K dX7_off_63 ⟨_, rfl, ?_⟩
        refine ⟨?_, MRel_fr hA h23.2, fun k hk => h23.2.1 k (by omega) (by omega)⟩
        unfold o_off
        rw [if_pos hcs, hqA, if_pos h0, hwe]
      · have h0 : ¬ rsQ (aZ A) (qOf (aZ A) i) y = 0 := fun q => u32 (rs_nn.mpr q)
        refine g_fconst2 K dX7_off_35 ?_
        refine g_fret K dX7_off_36 ⟨_, rfl, ?_⟩
        refine ⟨?_, MRel_fr hA h23.2, fun k hk => h23.2.1 k (by omega) (by omega)⟩
        unfold o_off
        rw [if_pos hcs, hqA, if_neg h0]
    · have hs9 : ¬ (1 ≤ y ∧ y ≤ 9) := by grind
      refine g_fconst2 K dX7_off_18 ?_
      refine g_fret K dX7_off_19 ⟨_, rfl, ?_⟩
      first
        | exact ⟨by unfold o_off; rw [if_neg (fun q => hcx q.1)], hA, fun _ _ => rfl⟩
        | exact ⟨by unfold o_off; rw [if_neg (fun q => hs9 q.2)], hA, fun _ _ => rfl⟩
set_option maxHeartbeats 4000000 in
set_option maxRecDepth 100000 in
theorem c_X7_fastest {l : Launch} {b : Nat} {D : va_G} {cA : Nat → ClassId} {ad : Nat → Nat} {S : ST} {A : AS} {n : Nat} {x : Int32} (hA : MRel S A) (hs : StOk (aZ A) n) : MT l b D cA NN ad zT yX7_fastest cX7_fastest 3 (some .int) 6 [.ref (ad 181), .int x] S (RI (MPost (o_fastest A x, A) S)) := by
  have h6 := hs.2.2.1
  have hn := hs.2.1
  have hz := hA.1
  refine MT.intro (j := 1) (ls := [some (.ref (ad 181)), some (.int x), none]) pn_X7 rfl rfl rfl (fun pr en s0 mi below meth c' K _ => ?_)
  have lp : ∀ (fuel : Nat) (i N j : Nat) (S1 : ST), (j + 1 ≤ fuel) → (j ≤ 9) → (i < 6) → (CartOk (qOf (aZ A) i) N) → (0 ≤ x ∧ x < aZ A 6) → (qA A x = qOf (aZ A) i) → (x = nI i) → (Fr S S1) → (fsF (fun j => neQ (aZ A) (qOf (aZ A) i) (nI j)) 9 = fsF (fun j => neQ (aZ A) (qOf (aZ A) i) (nI j)) j) → G pr l en (rmd 6) s0 mi (List.toArray [.ref (ad 181), .int x]) below meth c' (MQ below (QQ b D cA NN ad zT (RI (MPost (o_fastest A x, A) S))) (List.toArray [.ref (ad 181), .int x]) s0 0 0 (aF b)) b D cA 3 NN ad zT 0 0 13 [some (.ref (ad 181)), some (.int x), some (.int (nI j))] [] S1 := by
    intro fuel
    induction fuel with
    | zero =>
      intro i N j  S1  hif hj9 hi6 hq hcx hqA hx hfr hacc
      omega
    | succ fuel ih =>
      intro i N j  S1  hif hj9 hi6 hq hcx hqA hx hfr hacc
      subst hx
      refine g_iload_n K dX7_fastest_13 rfl ?_
      refine g_if_le (tgt := 32) K dX7_fastest_14 (by decide) (fun u14 => ?_) (fun u14 => ?_)
      · have hj0 : j = 0 := by
          rw [show (0 : Int32) = nI 0 from rfl, nI_leI (by omega) (by omega)] at u14
          omega
        refine g_iload_n K dX7_fastest_32 rfl ?_
        refine g_if_ne (tgt := 41) K dX7_fastest_33 (by decide) (fun u33 => ?_) (fun u33 => ?_)
        · refine g_iload_n K dX7_fastest_41 rfl ?_
          refine g_iret K dX7_fastest_42 ⟨_, rfl, ?_⟩
          have hcond : nI j = 0 ↔ j = 0 := nI_eq (b := 0) (by omega) (by decide)
          first
            | (exfalso; rw [hcond] at u33; omega)
            | (refine mp_fr (A := A) ?_ hA hfr
               unfold o_fastest
               rw [if_pos hcx, hqA, hacc, hj0]
               rfl)
            | (refine mp_fr (A := A) ?_ hA (Fr_tr hfr h20.2)
               unfold o_fastest
               rw [if_pos hcx, hqA, hacc, show j = (j - 1) + 1 by omega]
               unfold fsF
               rw [if_pos (by rw [show j - 1 + 1 = j by omega, ← h20.1]; have g := h20.1; unfold neQ at g; grind)])
        · refine g_bipush K dX7_fastest_36 kb_m5 ?_
          refine g_goto (tgt := 42) K dX7_fastest_38 (by decide) ?_
          refine g_iret K dX7_fastest_42 ⟨_, rfl, ?_⟩
          have hcond : nI j = 0 ↔ j = 0 := nI_eq (b := 0) (by omega) (by decide)
          first
            | (exfalso; rw [hcond] at u33; omega)
            | (refine mp_fr (A := A) ?_ hA hfr
               unfold o_fastest
               rw [if_pos hcx, hqA, hacc, hj0]
               rfl)
            | (refine mp_fr (A := A) ?_ hA (Fr_tr hfr h20.2)
               unfold o_fastest
               rw [if_pos hcx, hqA, hacc, show j = (j - 1) + 1 by omega]
               unfold fsF
               rw [if_pos (by rw [show j - 1 + 1 = j by omega, ← h20.1]; have g := h20.1; unfold neQ at g; grind)])
      · have hj0 : 1 ≤ j := by
          rw [show (0 : Int32) = nI 0 from rfl, nI_leI (by omega) (by omega)] at u14
          omega
        have hsj : 1 ≤ nI j ∧ nI j ≤ 9 := ⟨nI_le (a := 1) hj0 (by omega), nI_le (b := 9) (by omega) (by decide)⟩
        refine g_aload_n K dX7_fastest_17 rfl ?_
        refine g_iload_n K dX7_fastest_18 rfl ?_
        refine g_iload_n K dX7_fastest_19 rfl ?_
        refine g_callVpi K (c_X7_isNear (z := aZ A) (k := i) (N := N) (s := nI j) (Fr_mz hfr hz) hi6 hq hs.1 hsj) mw_X7_isNear ml_X7_191 dX7_fastest_20 (by rfl) rfl rfl (by decide) (by simp [Value.category]) ⟨by decide, by decide⟩ ⟨by decide, by decide⟩ (fun r20 S20 h20 => ?_)
        refine g_if_ne (tgt := 32) K dX7_fastest_23 (by decide) (fun u23 => ?_) (fun u23 => ?_)
        · refine g_iload_n K dX7_fastest_32 rfl ?_
          refine g_if_ne (tgt := 41) K dX7_fastest_33 (by decide) (fun u33 => ?_) (fun u33 => ?_)
          · refine g_iload_n K dX7_fastest_41 rfl ?_
            refine g_iret K dX7_fastest_42 ⟨_, rfl, ?_⟩
            have hcond : nI j = 0 ↔ j = 0 := nI_eq (b := 0) (by omega) (by decide)
            first
              | (exfalso; rw [hcond] at u33; omega)
              | (refine mp_fr (A := A) ?_ hA hfr
                 unfold o_fastest
                 rw [if_pos hcx, hqA, hacc, hj0]
                 rfl)
              | (refine mp_fr (A := A) ?_ hA (Fr_tr hfr h20.2)
                 unfold o_fastest
                 rw [if_pos hcx, hqA, hacc, show j = (j - 1) + 1 by omega]
                 unfold fsF
                 rw [if_pos (by rw [show j - 1 + 1 = j by omega, ← h20.1]; have g := h20.1; unfold neQ at g; grind)])
          · refine g_bipush K dX7_fastest_36 kb_m5 ?_
            refine g_goto (tgt := 42) K dX7_fastest_38 (by decide) ?_
            refine g_iret K dX7_fastest_42 ⟨_, rfl, ?_⟩
            have hcond : nI j = 0 ↔ j = 0 := nI_eq (b := 0) (by omega) (by decide)
            first
              | (exfalso; rw [hcond] at u33; omega)
              | (refine mp_fr (A := A) ?_ hA hfr
                 unfold o_fastest
                 rw [if_pos hcx, hqA, hacc, hj0]
                 rfl)
              | (refine mp_fr (A := A) ?_ hA (Fr_tr hfr h20.2)
                 unfold o_fastest
                 rw [if_pos hcx, hqA, hacc, show j = (j - 1) + 1 by omega]
                 unfold fsF
                 rw [if_pos (by rw [show j - 1 + 1 = j by omega, ← h20.1]; have g := h20.1; unfold neQ at g; grind)])
        · refine g_iinc (ls2 := [_, _, some (.int _)]) K dX7_fastest_26 rfl kc_m1 rfl ?_
          refine g_goto (tgt := 13) K dX7_fastest_29 (by decide) ?_
          have e : nI j + (-1) = nI (j - 1) := by
            rw [← nI_sub1 hj0]
            grind
          rw [e]
          refine ih i N (j - 1) S20 (by omega) (by omega) hi6 hq hcx hqA rfl (Fr_tr hfr h20.2) ?_
          rw [hacc, show j = (j - 1) + 1 by omega]
          conv => lhs; unfold fsF
          rw [if_neg (by rw [show j - 1 + 1 = j by omega, ← h20.1, u23]; decide)]
          rfl
  refine g_aload_n K dX7_fastest_0 rfl ?_
  refine g_iload_n K dX7_fastest_1 rfl ?_
  refine g_callVi K (c_X7_isCart hz hn h6) mw_X7_isCart ml_X7_50 dX7_fastest_2 (by rfl) rfl rfl (by decide) (by simp [Value.category]) ⟨by decide, by decide⟩ ⟨by decide, by decide⟩ ?_
  refine g_if_ne (tgt := 10) K dX7_fastest_5 (by decide) (fun u5 => ?_) (fun u5 => ?_)
  · have hx : 0 ≤ x ∧ x < nI n := by grind
    have hcx : 0 ≤ x ∧ x < aZ A 6 := by rw [hn]; exact hx
    obtain ⟨i, hi, hxi, hki⟩ := c_in (z := aZ A) h6 hx
    have hi6 : i < 6 := by omega
    obtain ⟨N, hq⟩ := hs.2.2.2 i hi
    have h5 := hq.2.2.1
    have hN1 := hq.2.1
    have hq0 : qOf (aZ A) i 0 = nI N := hq.1
    have hnq : nQ (qOf (aZ A) i) = N := nQ_eq hq
    have hqA : qA A x = qOf (aZ A) i := by unfold qA; rw [hki]
    subst hxi
    refine g_bipush K dX7_fastest_10 kb_9 ?_
    refine g_istore_n (ls2 := [_, _, some (.int _)]) K dX7_fastest_12 (by decide) rfl ?_
    exact lp 10 i N 9 S (by omega) (by omega) hi6 hq hcx hqA rfl Fr_id rfl
  · have hcx : ¬ (0 ≤ x ∧ x < aZ A 6) := by rw [hn]; grind
    refine g_iconst K dX7_fastest_8 kc_m1 ?_
    refine g_iret K dX7_fastest_9 ⟨_, rfl, ?_⟩
    exact mp_err (by unfold o_fastest; rw [if_neg hcx]) hA
theorem Fr_back {S S1 : ST} {z : Nat → Int32} {w : Nat} (h1 : ∀ j, j ≠ w → S1 182 j = S 182 j) (hz : S 182 w = z w) (hf : ∀ k, k ≠ 181 → k ≠ 182 → (k < 186 ∨ 192 < k) → S1 k = S k) (hsl : ∀ j, (j < 14 ∨ 19 < j) → S1 181 j = S 181 j) : Fr S (stw S1 182 w (z w)) := by
  refine ⟨fun k a b => ?_, fun j hj => by rw [stw_n (by decide)]; exact hsl j hj⟩
  by_cases e : k = 182
  · rw [e]
    funext j
    rw [stw_app]
    by_cases e2 : j = w
    · rw [if_pos ⟨rfl, e2⟩, e2, hz]
    · rw [if_neg (fun q => e2 q.2)]
      exact h1 j e2
  · rw [stw_n e]
    exact hf k a e b
set_option maxHeartbeats 4000000 in
set_option maxRecDepth 100000 in
theorem c_X7_least {l : Launch} {b : Nat} {D : va_G} {cA : Nat → ClassId} {ad : Nat → Nat} {S : ST} {z : Nat → Int32} {k N w lo hi0 : Nat} {s : Int32} (hz : MZ S z) (hk : k < 6) (hq : CartOk (qOf z k) N) (hse : SetOk z) (hs9 : 1 ≤ s ∧ s ≤ 9) (hw6 : w < 6) (hlo : leastS w = nI lo) (hhi : mostS w = nI hi0) (hlh : lo ≤ hi0) (hh : hi0 < 1000) : MT l b D cA NN ad zT yX7_least cX7_least 8 (some .int) 6 [.ref (ad 181), .int (nI k), .int s, .int (nI w), .int (nI lo), .int (nI hi0)] S (RI (fun r S2 => r = luF (fun v => neQ (upd z w (nI v)) (qOf z k) s) lo (hi0 + 1 - lo) ∧ Fr S S2)) := by
  have hzw : S 182 w = z w := hz w (by omega)
  refine MT.intro (j := 2) (ls := [some (.ref (ad 181)), some (.int (nI k)), some (.int s), some (.int (nI w)), some (.int (nI lo)), some (.int (nI hi0)), none, none]) pn_X7 rfl rfl rfl (fun pr en s0 mi below meth c' K _ => ?_)
  have lp : ∀ (fuel : Nat) (v : Nat) (S1 : ST), (hi0 + 2 ≤ v + fuel) → (lo ≤ v) → (v ≤ hi0 + 1) → (∀ j, S1 182 j = if j = w then nI v else S 182 j) → (∀ k, k ≠ 181 → k ≠ 182 → (k < 186 ∨ 192 < k) → S1 k = S k) → (∀ j, (j < 14 ∨ 19 < j) → S1 181 j = S 181 j) → (luF (fun v => neQ (upd z w (nI v)) (qOf z k) s) lo (hi0 + 1 - lo) = luF (fun v => neQ (upd z w (nI v)) (qOf z k) s) v (hi0 + 1 - v)) → G pr l en (rmd 6) s0 mi (List.toArray [.ref (ad 181), .int (nI k), .int s, .int (nI w), .int (nI lo), .int (nI hi0)]) below meth c' (MQ below (QQ b D cA NN ad zT (RI (fun r S2 => r = luF (fun v => neQ (upd z w (nI v)) (qOf z k) s) lo (hi0 + 1 - lo) ∧ Fr S S2))) (List.toArray [.ref (ad 181), .int (nI k), .int s, .int (nI w), .int (nI lo), .int (nI hi0)]) s0 0 0 (aF b)) b D cA 8 NN ad zT 0 0 20 [some (.ref (ad 181)), some (.int (nI k)), some (.int s), some (.int (nI w)), some (.int (nI lo)), some (.int (nI hi0)), some (.int (z w)), some (.int (nI v))] [] S1 := by
    intro fuel
    induction fuel with
    | zero =>
      intro v  S1  hif hv1 hv2 h182 hfr hsl hacc
      omega
    | succ fuel ih =>
      intro v  S1  hif hv1 hv2 h182 hfr hsl hacc
      refine g_iload K dX7_least_20 rfl ?_
      refine g_iload K dX7_least_22 rfl ?_
      refine g_icmp_gt (tgt := 50) K dX7_least_24 (by decide) (fun u24 => ?_) (fun u24 => ?_)
      · have hv : v = hi0 + 1 := by
          rw [nI_ltI (by omega) (by omega)] at u24
          omega
        refine g_aload_n K dX7_least_50 rfl ?_
        refine g_getr (j := 182) K lk_X7_7 dX7_least_51 rfl (by decide) (rfl : kd 181 = 7) (by decide) (by decide) rfl (rfl : rs 181 0 = 182) ?_
        refine g_iload_n K dX7_least_54 rfl ?_
        refine g_iload K dX7_least_55 rfl ?_
        refine g_iast (j := w) K dX7_least_57 rfl ln_182 (by omega) (rfl : kd 182 = 8) (by decide) rfl ?_
        refine g_iload K dX7_least_58 rfl ?_
        refine g_iload K dX7_least_60 rfl ?_
        refine g_icmp_gt (tgt := 70) K dX7_least_62 (by decide) (fun u62 => ?_) (fun u62 => ?_)
        · have hv3 : hi0 < v := by
            rw [nI_ltI (by omega) (by omega)] at u62
            exact u62
          refine g_bipush K dX7_least_70 kb_m5 ?_
          refine g_iret K dX7_least_72 ⟨_, rfl, ?_⟩
          first
            | (exfalso; omega)
            | (refine ⟨?_, Fr_back (fun j hj => by rw [h182, if_neg hj]) hzw hfr hsl⟩
               rw [hacc, hv, Nat.sub_self]
               rfl)
            | (refine ⟨?_, Fr_back (fun j hj => by rw [h30.2.1 182 (by decide) (by decide), h182, if_neg hj]) hzw (fun k a b c => (h30.2.1 k a c).trans (hfr k a b c)) (fun j hj => (h30.2.2 j hj).trans (hsl j hj))⟩
               rw [hacc, show hi0 + 1 - v = (hi0 - v) + 1 by omega]
               unfold luF
               rw [if_pos (by rw [← h30.1]; have g := h30.1; unfold neQ at g; grind)])
        · have hv3 : ¬ hi0 < v := by
            rw [nI_ltI (by omega) (by omega)] at u62
            exact u62
          refine g_iload K dX7_least_65 rfl ?_
          refine g_goto (tgt := 72) K dX7_least_67 (by decide) ?_
          refine g_iret K dX7_least_72 ⟨_, rfl, ?_⟩
          first
            | (exfalso; omega)
            | (refine ⟨?_, Fr_back (fun j hj => by rw [h182, if_neg hj]) hzw hfr hsl⟩
               rw [hacc, hv, Nat.sub_self]
               rfl)
            | (refine ⟨?_, Fr_back (fun j hj => by rw [h30.2.1 182 (by decide) (by decide), h182, if_neg hj]) hzw (fun k a b c => (h30.2.1 k a c).trans (hfr k a b c)) (fun j hj => (h30.2.2 j hj).trans (hsl j hj))⟩
               rw [hacc, show hi0 + 1 - v = (hi0 - v) + 1 by omega]
               unfold luF
               rw [if_pos (by rw [← h30.1]; have g := h30.1; unfold neQ at g; grind)])
      · have hv : v ≤ hi0 := by
          rw [nI_ltI (by omega) (by omega)] at u24
          omega
        have hzv : MZ S1 (upd z w (nI v)) := fun j hj => by
          rw [h182]
          unfold upd
          by_cases e : j = w
          · rw [if_pos e, if_pos e]
          · rw [if_neg e, if_neg e]
            exact hz j hj
        have hqe : qOf (upd z w (nI v)) k = qOf z k := qOf_upd (by omega)
        refine g_aload_n K dX7_least_27 rfl ?_
        refine g_iload_n K dX7_least_28 rfl ?_
        refine g_iload_n K dX7_least_29 rfl ?_
        refine g_callVpi K (c_X7_isNear (z := upd z w (nI v)) (k := k) (N := N) (s := s) hzv hk (by rw [hqe]; exact hq) (up_in hv1 hv hh hse hlo hhi) hs9) mw_X7_isNear ml_X7_191 dX7_least_30 (by rfl) rfl rfl (by decide) (by simp [Value.category]) ⟨by decide, by decide⟩ ⟨by decide, by decide⟩ (fun r30 S30 h30 => ?_)
        rw [hqe] at h30
        refine g_if_ne (tgt := 50) K dX7_least_33 (by decide) (fun u33 => ?_) (fun u33 => ?_)
        · refine g_aload_n K dX7_least_50 rfl ?_
          refine g_getr (j := 182) K lk_X7_7 dX7_least_51 rfl (by decide) (rfl : kd 181 = 7) (by decide) (by decide) rfl (rfl : rs 181 0 = 182) ?_
          refine g_iload_n K dX7_least_54 rfl ?_
          refine g_iload K dX7_least_55 rfl ?_
          refine g_iast (j := w) K dX7_least_57 rfl ln_182 (by omega) (rfl : kd 182 = 8) (by decide) rfl ?_
          refine g_iload K dX7_least_58 rfl ?_
          refine g_iload K dX7_least_60 rfl ?_
          refine g_icmp_gt (tgt := 70) K dX7_least_62 (by decide) (fun u62 => ?_) (fun u62 => ?_)
          · have hv3 : hi0 < v := by
              rw [nI_ltI (by omega) (by omega)] at u62
              exact u62
            refine g_bipush K dX7_least_70 kb_m5 ?_
            refine g_iret K dX7_least_72 ⟨_, rfl, ?_⟩
            first
              | (exfalso; omega)
              | (refine ⟨?_, Fr_back (fun j hj => by rw [h182, if_neg hj]) hzw hfr hsl⟩
                 rw [hacc, hv, Nat.sub_self]
                 rfl)
              | (refine ⟨?_, Fr_back (fun j hj => by rw [h30.2.1 182 (by decide) (by decide), h182, if_neg hj]) hzw (fun k a b c => (h30.2.1 k a c).trans (hfr k a b c)) (fun j hj => (h30.2.2 j hj).trans (hsl j hj))⟩
                 rw [hacc, show hi0 + 1 - v = (hi0 - v) + 1 by omega]
                 unfold luF
                 rw [if_pos (by rw [← h30.1]; have g := h30.1; unfold neQ at g; grind)])
          · have hv3 : ¬ hi0 < v := by
              rw [nI_ltI (by omega) (by omega)] at u62
              exact u62
            refine g_iload K dX7_least_65 rfl ?_
            refine g_goto (tgt := 72) K dX7_least_67 (by decide) ?_
            refine g_iret K dX7_least_72 ⟨_, rfl, ?_⟩
            first
              | (exfalso; omega)
              | (refine ⟨?_, Fr_back (fun j hj => by rw [h182, if_neg hj]) hzw hfr hsl⟩
                 rw [hacc, hv, Nat.sub_self]
                 rfl)
              | (refine ⟨?_, Fr_back (fun j hj => by rw [h30.2.1 182 (by decide) (by decide), h182, if_neg hj]) hzw (fun k a b c => (h30.2.1 k a c).trans (hfr k a b c)) (fun j hj => (h30.2.2 j hj).trans (hsl j hj))⟩
                 rw [hacc, show hi0 + 1 - v = (hi0 - v) + 1 by omega]
                 unfold luF
                 rw [if_pos (by rw [← h30.1]; have g := h30.1; unfold neQ at g; grind)])
        · refine g_iinc (ls2 := [_, _, _, _, _, _, _, some (.int _)]) K dX7_least_36 rfl kc_1 rfl ?_
          rw [nI_1]
          refine g_aload_n K dX7_least_39 rfl ?_
          refine g_getr (j := 182) K lk_X7_7 dX7_least_40 rfl (by decide) (rfl : kd 181 = 7) (by decide) (by decide) rfl (rfl : rs 181 0 = 182) ?_
          refine g_iload_n K dX7_least_43 rfl ?_
          refine g_iload K dX7_least_44 rfl ?_
          refine g_iast (j := w) K dX7_least_46 rfl ln_182 (by omega) (rfl : kd 182 = 8) (by decide) rfl ?_
          refine g_goto (tgt := 20) K dX7_least_47 (by decide) ?_
          refine ih (v + 1) _ (by omega) (by omega) (by omega) (fun j => ?_) (fun k a b c => by rw [stw_n b]; exact (h30.2.1 k a c).trans (hfr k a b c)) (fun j hj => by rw [stw_n (by decide)]; exact (h30.2.2 j hj).trans (hsl j hj)) ?_
          · rw [stw_s]
            unfold upd
            by_cases e : j = w
            · rw [if_pos e, if_pos e]
            · rw [if_neg e, if_neg e, h30.2.1 182 (by decide) (by decide), h182, if_neg e]
          · rw [hacc, show hi0 + 1 - v = (hi0 + 1 - (v + 1)) + 1 by omega]
            conv => lhs; unfold luF
            rw [if_neg (by rw [← h30.1, u33]; decide)]
  refine g_aload_n K dX7_least_0 rfl ?_
  refine g_getr (j := 182) K lk_X7_7 dX7_least_1 rfl (by decide) (rfl : kd 181 = 7) (by decide) (by decide) rfl (rfl : rs 181 0 = 182) ?_
  refine g_iload_n K dX7_least_4 rfl ?_
  refine g_iald (j := w) K dX7_least_5 rfl ln_182 (by omega) (rfl : kd 182 = 8) (by decide) hzw ?_
  refine g_istore (ls2 := [_, _, _, _, _, _, some (.int _), _]) K dX7_least_6 (by decide) rfl ?_
  refine g_iload K dX7_least_8 rfl ?_
  refine g_istore (ls2 := [_, _, _, _, _, _, _, some (.int _)]) K dX7_least_10 (by decide) rfl ?_
  refine g_aload_n K dX7_least_12 rfl ?_
  refine g_getr (j := 182) K lk_X7_7 dX7_least_13 rfl (by decide) (rfl : kd 181 = 7) (by decide) (by decide) rfl (rfl : rs 181 0 = 182) ?_
  refine g_iload_n K dX7_least_16 rfl ?_
  refine g_iload K dX7_least_17 rfl ?_
  refine g_iast (j := w) K dX7_least_19 rfl ln_182 (by omega) (rfl : kd 182 = 8) (by decide) rfl ?_
  exact lp (hi0 + 2) lo _ (by omega) (by omega) (by omega) (fun j => by rw [stw_s]; rfl) (fun k a b c => stw_n b) (fun j hj => by rw [stw_n (by decide)]) rfl
set_option maxHeartbeats 4000000 in
set_option maxRecDepth 100000 in
theorem c_X7_leastWindow {l : Launch} {b : Nat} {D : va_G} {cA : Nat → ClassId} {ad : Nat → Nat} {S : ST} {A : AS} {n : Nat} {x y : Int32} (hA : MRel S A) (hs : StOk (aZ A) n) : MT l b D cA NN ad zT yX7_leastWindow cX7_leastWindow 3 (some .int) 7 [.ref (ad 181), .int x, .int y] S (RI (MPost (o_least A x y 3 1 9, A) S)) := by
  have h6 := hs.2.2.1
  have hn := hs.2.1
  have hz := hA.1
  refine MT.intro (j := 0) (ls := [some (.ref (ad 181)), some (.int x), some (.int y)]) pn_X7 rfl rfl rfl (fun pr en s0 mi below meth c' K _ => ?_)
  refine g_aload_n K dX7_leastWindow_0 rfl ?_
  refine g_iload_n K dX7_leastWindow_1 rfl ?_
  refine g_callVi K (c_X7_isCart hz hn h6) mw_X7_isCart ml_X7_50 dX7_leastWindow_2 (by rfl) rfl rfl (by decide) (by simp [Value.category]) ⟨by decide, by decide⟩ ⟨by decide, by decide⟩ ?_
  refine g_if_ne (tgt := 12) K dX7_leastWindow_5 (by decide) (fun u5 => ?_) (fun u5 => ?_)
  · have hx : 0 ≤ x ∧ x < nI n := by grind
    have hcx : 0 ≤ x ∧ x < aZ A 6 := by rw [hn]; exact hx
    obtain ⟨i, hi, hxi, hki⟩ := c_in (z := aZ A) h6 hx
    have hi6 : i < 6 := by omega
    obtain ⟨N, hq⟩ := hs.2.2.2 i hi
    have h5 := hq.2.2.1
    have hN1 := hq.2.1
    have hq0 : qOf (aZ A) i 0 = nI N := hq.1
    have hnq : nQ (qOf (aZ A) i) = N := nQ_eq hq
    have hqA : qA A x = qOf (aZ A) i := by unfold qA; rw [hki]
    subst hxi
    refine g_iload_n K dX7_leastWindow_12 rfl ?_
    refine g_iconst K dX7_leastWindow_13 kc_1 ?_
    refine g_bipush K dX7_leastWindow_14 kb_9 ?_
    refine g_callSi K c_X7_in mw_X7_in ml_X7_46 dX7_leastWindow_16 (by rfl) rfl (by simp [Value.category]) ⟨by decide, by decide⟩ ⟨by decide, by decide⟩ ?_
    refine g_if_eq (tgt := 35) K dX7_leastWindow_19 (by decide) (fun u19 => ?_) (fun u19 => ?_)
    · have hs9 : ¬ (1 ≤ y ∧ y ≤ 9) := by grind
      refine g_bipush K dX7_leastWindow_35 kb_m2 ?_
      refine g_iret K dX7_leastWindow_37 ⟨_, rfl, ?_⟩
      first
        | exact mp_err (by unfold o_least; rw [if_neg hcx]) hA
        | exact mp_err (by unfold o_least; rw [if_pos hcx, if_neg hs9]) hA
        | (refine mp_fr (A := A) ?_ hA h29.2
           unfold o_least
           rw [if_pos hcx, if_pos hs9, hqA, h29.1])
    · have hs9 : 1 ≤ y ∧ y ≤ 9 := by grind
      refine g_aload_n K dX7_leastWindow_22 rfl ?_
      refine g_iload_n K dX7_leastWindow_23 rfl ?_
      refine g_iload_n K dX7_leastWindow_24 rfl ?_
      refine g_iconst K dX7_leastWindow_25 kc_3 ?_
      refine g_iconst K dX7_leastWindow_26 kc_1 ?_
      refine g_bipush K dX7_leastWindow_27 kb_9 ?_
      refine g_callVpi K (c_X7_least (z := aZ A) (k := i) (N := N) (w := 3) (lo := 1) (hi0 := 9) hz hi6 hq hs.1 hs9 (by decide) rfl rfl (by decide) (by decide)) mw_X7_least ml_X7_194 dX7_leastWindow_29 (by rfl) rfl rfl (by decide) (by simp [Value.category]) ⟨by decide, by decide⟩ ⟨by decide, by decide⟩ (fun r29 S29 h29 => ?_)
      refine g_goto (tgt := 37) K dX7_leastWindow_32 (by decide) ?_
      refine g_iret K dX7_leastWindow_37 ⟨_, rfl, ?_⟩
      first
        | exact mp_err (by unfold o_least; rw [if_neg hcx]) hA
        | exact mp_err (by unfold o_least; rw [if_pos hcx, if_neg hs9]) hA
        | (refine mp_fr (A := A) ?_ hA h29.2
           unfold o_least
           rw [if_pos hcx, if_pos hs9, hqA, h29.1])
  · have hcx : ¬ (0 ≤ x ∧ x < aZ A 6) := by rw [hn]; grind
    refine g_iconst K dX7_leastWindow_8 kc_m1 ?_
    refine g_goto (tgt := 37) K dX7_leastWindow_9 (by decide) ?_
    refine g_iret K dX7_leastWindow_37 ⟨_, rfl, ?_⟩
    first
      | exact mp_err (by unfold o_least; rw [if_neg hcx]) hA
      | exact mp_err (by unfold o_least; rw [if_pos hcx, if_neg hs9]) hA
      | (refine mp_fr (A := A) ?_ hA h29.2
         unfold o_least
         rw [if_pos hcx, if_pos hs9, hqA, h29.1])
set_option maxHeartbeats 4000000 in
set_option maxRecDepth 100000 in
theorem c_X7_shortestPlate {l : Launch} {b : Nat} {D : va_G} {cA : Nat → ClassId} {ad : Nat → Nat} {S : ST} {A : AS} {n : Nat} {x y : Int32} (hA : MRel S A) (hs : StOk (aZ A) n) : MT l b D cA NN ad zT yX7_shortestPlate cX7_shortestPlate 3 (some .int) 7 [.ref (ad 181), .int x, .int y] S (RI (MPost (o_least A x y 0 10 90, A) S)) := by
  have h6 := hs.2.2.1
  have hn := hs.2.1
  have hz := hA.1
  refine MT.intro (j := 0) (ls := [some (.ref (ad 181)), some (.int x), some (.int y)]) pn_X7 rfl rfl rfl (fun pr en s0 mi below meth c' K _ => ?_)
  refine g_aload_n K dX7_shortestPlate_0 rfl ?_
  refine g_iload_n K dX7_shortestPlate_1 rfl ?_
  refine g_callVi K (c_X7_isCart hz hn h6) mw_X7_isCart ml_X7_50 dX7_shortestPlate_2 (by rfl) rfl rfl (by decide) (by simp [Value.category]) ⟨by decide, by decide⟩ ⟨by decide, by decide⟩ ?_
  refine g_if_ne (tgt := 12) K dX7_shortestPlate_5 (by decide) (fun u5 => ?_) (fun u5 => ?_)
  · have hx : 0 ≤ x ∧ x < nI n := by grind
    have hcx : 0 ≤ x ∧ x < aZ A 6 := by rw [hn]; exact hx
    obtain ⟨i, hi, hxi, hki⟩ := c_in (z := aZ A) h6 hx
    have hi6 : i < 6 := by omega
    obtain ⟨N, hq⟩ := hs.2.2.2 i hi
    have h5 := hq.2.2.1
    have hN1 := hq.2.1
    have hq0 : qOf (aZ A) i 0 = nI N := hq.1
    have hnq : nQ (qOf (aZ A) i) = N := nQ_eq hq
    have hqA : qA A x = qOf (aZ A) i := by unfold qA; rw [hki]
    subst hxi
    refine g_iload_n K dX7_shortestPlate_12 rfl ?_
    refine g_iconst K dX7_shortestPlate_13 kc_1 ?_
    refine g_bipush K dX7_shortestPlate_14 kb_9 ?_
    refine g_callSi K c_X7_in mw_X7_in ml_X7_46 dX7_shortestPlate_16 (by rfl) rfl (by simp [Value.category]) ⟨by decide, by decide⟩ ⟨by decide, by decide⟩ ?_
    refine g_if_eq (tgt := 36) K dX7_shortestPlate_19 (by decide) (fun u19 => ?_) (fun u19 => ?_)
    · have hs9 : ¬ (1 ≤ y ∧ y ≤ 9) := by grind
      refine g_bipush K dX7_shortestPlate_36 kb_m2 ?_
      refine g_iret K dX7_shortestPlate_38 ⟨_, rfl, ?_⟩
      first
        | exact mp_err (by unfold o_least; rw [if_neg hcx]) hA
        | exact mp_err (by unfold o_least; rw [if_pos hcx, if_neg hs9]) hA
        | (refine mp_fr (A := A) ?_ hA h30.2
           unfold o_least
           rw [if_pos hcx, if_pos hs9, hqA, h30.1])
    · have hs9 : 1 ≤ y ∧ y ≤ 9 := by grind
      refine g_aload_n K dX7_shortestPlate_22 rfl ?_
      refine g_iload_n K dX7_shortestPlate_23 rfl ?_
      refine g_iload_n K dX7_shortestPlate_24 rfl ?_
      refine g_iconst K dX7_shortestPlate_25 kc_0 ?_
      refine g_bipush K dX7_shortestPlate_26 kb_10 ?_
      refine g_bipush K dX7_shortestPlate_28 kb_90 ?_
      refine g_callVpi K (c_X7_least (z := aZ A) (k := i) (N := N) (w := 0) (lo := 10) (hi0 := 90) hz hi6 hq hs.1 hs9 (by decide) rfl rfl (by decide) (by decide)) mw_X7_least ml_X7_194 dX7_shortestPlate_30 (by rfl) rfl rfl (by decide) (by simp [Value.category]) ⟨by decide, by decide⟩ ⟨by decide, by decide⟩ (fun r30 S30 h30 => ?_)
      refine g_goto (tgt := 38) K dX7_shortestPlate_33 (by decide) ?_
      refine g_iret K dX7_shortestPlate_38 ⟨_, rfl, ?_⟩
      first
        | exact mp_err (by unfold o_least; rw [if_neg hcx]) hA
        | exact mp_err (by unfold o_least; rw [if_pos hcx, if_neg hs9]) hA
        | (refine mp_fr (A := A) ?_ hA h30.2
           unfold o_least
           rw [if_pos hcx, if_pos hs9, hqA, h30.1])
  · have hcx : ¬ (0 ≤ x ∧ x < aZ A 6) := by rw [hn]; grind
    refine g_iconst K dX7_shortestPlate_8 kc_m1 ?_
    refine g_goto (tgt := 38) K dX7_shortestPlate_9 (by decide) ?_
    refine g_iret K dX7_shortestPlate_38 ⟨_, rfl, ?_⟩
    first
      | exact mp_err (by unfold o_least; rw [if_neg hcx]) hA
      | exact mp_err (by unfold o_least; rw [if_pos hcx, if_neg hs9]) hA
      | (refine mp_fr (A := A) ?_ hA h30.2
         unfold o_least
         rw [if_pos hcx, if_pos hs9, hqA, h30.1])
