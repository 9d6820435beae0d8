set_option maxHeartbeats 4000000 in
set_option maxRecDepth 100000 in
theorem c_X7_load {l : Launch} {b : Nat} {D : va_G} {cA : Nat → ClassId} {ad : Nat → Nat} {S : ST} {A : AS} {n : Nat} {x y w : Int32} (hA : MRel S A) (hs : StOk (aZ A) n) : MT l b D cA NN ad zT yX7_load cX7_load 5 (some .int) 3 [.ref (ad 181), .int x, .int y, .int w] S (RI (MPost (o_load A x y w) S)) := by
  have h6 := hs.2.2.1
  have hn := hs.2.1
  have hz := hA.1
  refine MT.intro (j := 1) (ls := [some (.ref (ad 181)), some (.int x), some (.int y), some (.int w), none]) pn_X7 rfl rfl rfl (fun pr en s0 mi below meth c' K _ => ?_)
  refine g_aload_n K dX7_load_0 rfl ?_
  refine g_iload_n K dX7_load_1 rfl ?_
  refine g_iload_n K dX7_load_2 rfl ?_
  refine g_callVi K (c_X7_isAxle hz hs) mw_X7_isAxle ml_X7_84 dX7_load_3 (by rfl) rfl rfl (by decide) (by simp [Value.category]) ⟨by decide, by decide⟩ ⟨by decide, by decide⟩ ?_
  refine g_if_ne (tgt := 11) K dX7_load_6 (by decide) (fun u6 => ?_) (fun u6 => ?_)
  · have hax2 : (0 ≤ x ∧ x < nI n) ∧ 0 ≤ y ∧ y < qOf (aZ A) (cK x) 0 := by grind
    have hx : 0 ≤ x ∧ x < nI n := by grind
    have hcx : 0 ≤ x ∧ x < aZ A 6 := by rw [hn]; exact hx
    obtain ⟨i, hi, hxi, hki⟩ := c_in (z := aZ A) h6 hx
    have hi6 : i < 6 := by omega
    obtain ⟨N, hq⟩ := hs.2.2.2 i hi
    have h5 := hq.2.2.1
    have hN1 := hq.2.1
    have hq0 : qOf (aZ A) i 0 = nI N := hq.1
    have hnq : nQ (qOf (aZ A) i) = N := nQ_eq hq
    have hqA : qA A x = qOf (aZ A) i := by unfold qA; rw [hki]
    subst hxi
    have hax : 0 ≤ y ∧ y < nI N := by
      have g := hax2.2
      rw [hki, hq0] at g
      exact g
    obtain ⟨j, hj, hyj, hkj⟩ := ax_in hax h5
    subst hyj
    have hax3 : (0 ≤ nI i ∧ nI i < aZ A 6) ∧ 0 ≤ nI j ∧ nI j < qA A (nI i) 0 := ⟨hcx, by rw [hqA, hq0]; exact hax⟩
    refine g_iload_n K dX7_load_11 rfl ?_
    refine g_iconst K dX7_load_12 kc_1 ?_
    refine g_sipush K dX7_load_13 kp_200 ?_
    refine g_callSi K c_X7_in mw_X7_in ml_X7_46 dX7_load_16 (by rfl) rfl (by simp [Value.category]) ⟨by decide, by decide⟩ ⟨by decide, by decide⟩ ?_
    refine g_if_ne (tgt := 25) K dX7_load_19 (by decide) (fun u19 => ?_) (fun u19 => ?_)
    · refine g_aload_n K dX7_load_25 rfl ?_
      refine g_iload_n K dX7_load_26 rfl ?_
      refine g_iconst K dX7_load_27 kc_5 ?_
      refine g_iload_n K dX7_load_28 rfl ?_
      refine g_iadd K dX7_load_29 ?_
      rw [show (5 : Int32) + nI j = nI (5 + j) from nI_add 5 j]
      refine g_callVi K (c_X7_of (k := i) (w := 5 + j) hz (by omega) (by omega)) mw_X7_of ml_X7_54 dX7_load_30 (by rfl) rfl rfl (by decide) (by simp [Value.category]) ⟨by decide, by decide⟩ ⟨by decide, by decide⟩ ?_
      refine g_istore (ls2 := [_, _, _, _, some (.int _)]) K dX7_load_33 (by decide) rfl ?_
      refine g_iload K dX7_load_35 rfl ?_
      refine g_iload_n K dX7_load_37 rfl ?_
      refine g_icmp_ne (tgt := 44) K dX7_load_38 (by decide) (fun u38 => ?_) (fun u38 => ?_)
      · refine g_aload_n K dX7_load_44 rfl ?_
        refine g_callVpv K (c_X7_record hA) mw_X7_record ml_X7_70 dX7_load_45 (by rfl) rfl rfl (by decide) (by simp [Value.category]) ⟨by decide, by decide⟩ ⟨by decide, by decide⟩ (fun S45 h45 => ?_)
        refine g_aload_n K dX7_load_48 rfl ?_
        refine g_iload_n K dX7_load_49 rfl ?_
        refine g_iconst K dX7_load_50 kc_5 ?_
        refine g_iload_n K dX7_load_51 rfl ?_
        refine g_iadd K dX7_load_52 ?_
        rw [show (5 : Int32) + nI j = nI (5 + j) from nI_add 5 j]
        refine g_iload_n K dX7_load_53 rfl ?_
        refine g_callVv K (c_X7_lay (k := i) (w := 5 + j) (by omega) (by omega)) mw_X7_lay ml_X7_73 dX7_load_54 (by rfl) rfl rfl (by decide) (by simp [Value.category]) ⟨by decide, by decide⟩ ⟨by decide, by decide⟩ ?_
        refine g_iload K dX7_load_57 rfl ?_
        refine g_iret K dX7_load_59 ⟨_, rfl, ?_⟩
        have hw : 1 ≤ w ∧ w ≤ 200 := by grind
        refine mp_ok ?_ (MRel_lay h45.1) (fun k hk => by rw [stw_n (by omega), h45.2 k (by omega) (by omega)])
        unfold o_load wQ
        rw [if_pos hax3, if_pos hw, hqA, hkj, if_neg (by grind), hki]
        rfl
      · refine g_bipush K dX7_load_41 kb_m5 ?_
        refine g_iret K dX7_load_43 ⟨_, rfl, ?_⟩
        have hw : 1 ≤ w ∧ w ≤ 200 := by grind
        refine mp_err ?_ hA
        unfold o_load wQ
        rw [if_pos hax3, if_pos hw, hqA, hkj, if_pos (by grind)]
    · refine g_bipush K dX7_load_22 kb_m2 ?_
      refine g_iret K dX7_load_24 ⟨_, rfl, ?_⟩
      exact mp_err (by unfold o_load; rw [if_pos hax3, if_neg (by grind)]) hA
  · have hax3 : ¬ ((0 ≤ x ∧ x < aZ A 6) ∧ 0 ≤ y ∧ y < qA A x 0) := by
      rw [hn]
      unfold qA
      grind
    refine g_iconst K dX7_load_9 kc_m1 ?_
    refine g_iret K dX7_load_10 ⟨_, rfl, ?_⟩
    exact mp_err (by unfold o_load; rw [if_neg hax3]) hA
set_option maxHeartbeats 4000000 in
set_option maxRecDepth 100000 in
theorem c_X7_lift {l : Launch} {b : Nat} {D : va_G} {cA : Nat → ClassId} {ad : Nat → Nat} {S : ST} {A : AS} {n : Nat} {x y u : Int32} (hA : MRel S A) (hs : StOk (aZ A) n) (hu : u = 0 ∨ u = 1) : MT l b D cA NN ad zT yX7_lift cX7_lift 4 (some .int) 3 [.ref (ad 181), .int x, .int y, .int u] S (RI (MPost (o_lift A x y u) S)) := by
  have h6 := hs.2.2.1
  have hn := hs.2.1
  have hz := hA.1
  refine MT.intro (j := 0) (ls := [some (.ref (ad 181)), some (.int x), some (.int y), some (.int u)]) pn_X7 rfl rfl rfl (fun pr en s0 mi below meth c' K _ => ?_)
  have la : ∀ (v : Int32) (i N j : Nat) (S1 : ST), (v = u) → (i < 6) → (CartOk (qOf (aZ A) i) N) → (j < N) → (x = nI i) → (y = nI j) → (MRel S1 (recA A)) → (∀ k, k < 181 → S1 k = S k) → (o_lift A x y u = (downF (lQ (qOf (lay (aZ A) i (15 + j) u) i)) N, setZ (recA A) (lay (aZ A) i (15 + j) u))) → (∃ b, b < N ∧ (if b = j then u else lQ (qOf (aZ A) i) b) = 0) → G pr l en (rmd 3) s0 mi (List.toArray [.ref (ad 181), .int x, .int y, .int u]) below meth c' (MQ below (QQ b D cA NN ad zT (RI (MPost (o_lift A x y u) S))) (List.toArray [.ref (ad 181), .int x, .int y, .int u]) s0 0 0 (aF b)) b D cA 4 NN ad zT 0 0 68 [some (.ref (ad 181)), some (.int x), some (.int y), some (.int u)] [.int v, .int (nI (15 + j)), .int x, .ref (ad 181)] S1 := by
    intro v  i N j  S1  hv hi6 hq hj hx hy h1 hf ho hnd
    have h5 := hq.2.2.1
    rw [hv]
    subst hx hy
    refine g_callVv K (c_X7_lay (k := i) (w := 15 + j) (by omega) (by omega)) mw_X7_lay ml_X7_73 dX7_lift_68 (by rfl) rfl rfl (by decide) (by simp [Value.category]) ⟨by decide, by decide⟩ ⟨by decide, by decide⟩ ?_
    refine g_aload_n K dX7_lift_71 rfl ?_
    refine g_iload_n K dX7_lift_72 rfl ?_
    refine g_callVi K (c_X7_down (k := i) (N := N) (z := lay (aZ A) i (15 + j) u) (MZ_lay h1.1) hi6 (lift_ok hq hu hnd hj)) mw_X7_down ml_X7_91 dX7_lift_73 (by rfl) rfl rfl (by decide) (by simp [Value.category]) ⟨by decide, by decide⟩ ⟨by decide, by decide⟩ ?_
    refine g_iret K dX7_lift_76 ⟨_, rfl, ?_⟩
    exact mp_ok ho (MRel_lay h1) (fun k hk => by rw [stw_n (by omega)]; exact hf k hk)
  refine g_aload_n K dX7_lift_0 rfl ?_
  refine g_iload_n K dX7_lift_1 rfl ?_
  refine g_iload_n K dX7_lift_2 rfl ?_
  refine g_callVi K (c_X7_isAxle hz hs) mw_X7_isAxle ml_X7_84 dX7_lift_3 (by rfl) rfl rfl (by decide) (by simp [Value.category]) ⟨by decide, by decide⟩ ⟨by decide, by decide⟩ ?_
  refine g_if_ne (tgt := 11) K dX7_lift_6 (by decide) (fun u6 => ?_) (fun u6 => ?_)
  · have hax2 : (0 ≤ x ∧ x < nI n) ∧ 0 ≤ y ∧ y < qOf (aZ A) (cK x) 0 := by grind
    have hx : 0 ≤ x ∧ x < nI n := by grind
    have hcx : 0 ≤ x ∧ x < aZ A 6 := by rw [hn]; exact hx
    obtain ⟨i, hi, hxi, hki⟩ := c_in (z := aZ A) h6 hx
    have hi6 : i < 6 := by omega
    obtain ⟨N, hq⟩ := hs.2.2.2 i hi
    have h5 := hq.2.2.1
    have hN1 := hq.2.1
    have hq0 : qOf (aZ A) i 0 = nI N := hq.1
    have hnq : nQ (qOf (aZ A) i) = N := nQ_eq hq
    have hqA : qA A x = qOf (aZ A) i := by unfold qA; rw [hki]
    subst hxi
    have hax : 0 ≤ y ∧ y < nI N := by
      have g := hax2.2
      rw [hki, hq0] at g
      exact g
    obtain ⟨j, hj, hyj, hkj⟩ := ax_in hax h5
    subst hyj
    have hax3 : (0 ≤ nI i ∧ nI i < aZ A 6) ∧ 0 ≤ nI j ∧ nI j < qA A (nI i) 0 := ⟨hcx, by rw [hqA, hq0]; exact hax⟩
    refine g_iload_n K dX7_lift_11 rfl ?_
    refine g_if_eq (tgt := 36) K dX7_lift_12 (by decide) (fun u12 => ?_) (fun u12 => ?_)
    · refine g_iload_n K dX7_lift_36 rfl ?_
      refine g_aload_n K dX7_lift_37 rfl ?_
      refine g_iload_n K dX7_lift_38 rfl ?_
      refine g_iload_n K dX7_lift_39 rfl ?_
      refine g_callVi K (c_X7_isDown (k := i) (a := j) hz hi6 (by omega)) mw_X7_isDown ml_X7_88 dX7_lift_40 (by rfl) rfl rfl (by decide) (by simp [Value.category]) ⟨by decide, by decide⟩ ⟨by decide, by decide⟩ ?_
      refine g_icmp_eq (tgt := 49) K dX7_lift_43 (by decide) (fun u43 => ?_) (fun u43 => ?_)
      · refine g_aload_n K dX7_lift_49 rfl ?_
        refine g_callVpv K (c_X7_record hA) mw_X7_record ml_X7_70 dX7_lift_50 (by rfl) rfl rfl (by decide) (by simp [Value.category]) ⟨by decide, by decide⟩ ⟨by decide, by decide⟩ (fun S50 h50 => ?_)
        refine g_aload_n K dX7_lift_53 rfl ?_
        refine g_iload_n K dX7_lift_54 rfl ?_
        refine g_bipush K dX7_lift_55 kb_15 ?_
        refine g_iload_n K dX7_lift_57 rfl ?_
        refine g_iadd K dX7_lift_58 ?_
        rw [show (15 : Int32) + nI j = nI (15 + j) from nI_add 15 j]
        refine g_iload_n K dX7_lift_59 rfl ?_
        refine g_if_eq (tgt := 67) K dX7_lift_60 (by decide) (fun u60 => ?_) (fun u60 => ?_)
        · refine g_iconst K dX7_lift_67 kc_0 ?_
          have hl01 := (hq.2.2.2.1 j hj).2.2.2.2
          have hnd : ∃ b, b < N ∧ (if b = j then u else lQ (qOf (aZ A) i) b) = 0 := by
            apply Classical.byContradiction
            intro hno
            exact lift_last (u := u) hq hj hu (by grind) (by grind) hno
          refine la _ i N j S50 (by grind) hi6 hq hj rfl rfl h50.1 (fun k hk => h50.2 k (by omega) (by omega)) ?_ hnd
          unfold o_lift
          rw [if_pos hax3, hqA, hkj, hki, hnq, if_neg (by grind), if_neg (by grind)]
        · refine g_iconst K dX7_lift_63 kc_1 ?_
          refine g_goto (tgt := 68) K dX7_lift_64 (by decide) ?_
          have hl01 := (hq.2.2.2.1 j hj).2.2.2.2
          have hnd : ∃ b, b < N ∧ (if b = j then u else lQ (qOf (aZ A) i) b) = 0 := by
            apply Classical.byContradiction
            intro hno
            exact lift_last (u := u) hq hj hu (by grind) (by grind) hno
          refine la _ i N j S50 (by grind) hi6 hq hj rfl rfl h50.1 (fun k hk => h50.2 k (by omega) (by omega)) ?_ hnd
          unfold o_lift
          rw [if_pos hax3, hqA, hkj, hki, hnq, if_neg (by grind), if_neg (by grind)]
      · refine g_bipush K dX7_lift_46 kb_m5 ?_
        refine g_iret K dX7_lift_48 ⟨_, rfl, ?_⟩
        have hl01 := (hq.2.2.2.1 j hj).2.2.2.2
        refine mp_err ?_ hA
        unfold o_lift
        rw [if_pos hax3, hqA, hkj, hnq, if_neg (by grind), if_pos (by grind)]
    · refine g_aload_n K dX7_lift_15 rfl ?_
      refine g_iload_n K dX7_lift_16 rfl ?_
      refine g_iload_n K dX7_lift_17 rfl ?_
      refine g_callVi K (c_X7_isDown (k := i) (a := j) hz hi6 (by omega)) mw_X7_isDown ml_X7_88 dX7_lift_18 (by rfl) rfl rfl (by decide) (by simp [Value.category]) ⟨by decide, by decide⟩ ⟨by decide, by decide⟩ ?_
      refine g_if_eq (tgt := 36) K dX7_lift_21 (by decide) (fun u21 => ?_) (fun u21 => ?_)
      · refine g_iload_n K dX7_lift_36 rfl ?_
        refine g_aload_n K dX7_lift_37 rfl ?_
        refine g_iload_n K dX7_lift_38 rfl ?_
        refine g_iload_n K dX7_lift_39 rfl ?_
        refine g_callVi K (c_X7_isDown (k := i) (a := j) hz hi6 (by omega)) mw_X7_isDown ml_X7_88 dX7_lift_40 (by rfl) rfl rfl (by decide) (by simp [Value.category]) ⟨by decide, by decide⟩ ⟨by decide, by decide⟩ ?_
        refine g_icmp_eq (tgt := 49) K dX7_lift_43 (by decide) (fun u43 => ?_) (fun u43 => ?_)
        · refine g_aload_n K dX7_lift_49 rfl ?_
          refine g_callVpv K (c_X7_record hA) mw_X7_record ml_X7_70 dX7_lift_50 (by rfl) rfl rfl (by decide) (by simp [Value.category]) ⟨by decide, by decide⟩ ⟨by decide, by decide⟩ (fun S50 h50 => ?_)
          refine g_aload_n K dX7_lift_53 rfl ?_
          refine g_iload_n K dX7_lift_54 rfl ?_
          refine g_bipush K dX7_lift_55 kb_15 ?_
          refine g_iload_n K dX7_lift_57 rfl ?_
          refine g_iadd K dX7_lift_58 ?_
          rw [show (15 : Int32) + nI j = nI (15 + j) from nI_add 15 j]
          refine g_iload_n K dX7_lift_59 rfl ?_
          refine g_if_eq (tgt := 67) K dX7_lift_60 (by decide) (fun u60 => ?_) (fun u60 => ?_)
          · refine g_iconst K dX7_lift_67 kc_0 ?_
            have hl01 := (hq.2.2.2.1 j hj).2.2.2.2
            have hnd : ∃ b, b < N ∧ (if b = j then u else lQ (qOf (aZ A) i) b) = 0 := by
              apply Classical.byContradiction
              intro hno
              exact lift_last (u := u) hq hj hu (by grind) (by grind) hno
            refine la _ i N j S50 (by grind) hi6 hq hj rfl rfl h50.1 (fun k hk => h50.2 k (by omega) (by omega)) ?_ hnd
            unfold o_lift
            rw [if_pos hax3, hqA, hkj, hki, hnq, if_neg (by grind), if_neg (by grind)]
          · refine g_iconst K dX7_lift_63 kc_1 ?_
            refine g_goto (tgt := 68) K dX7_lift_64 (by decide) ?_
            have hl01 := (hq.2.2.2.1 j hj).2.2.2.2
            have hnd : ∃ b, b < N ∧ (if b = j then u else lQ (qOf (aZ A) i) b) = 0 := by
              apply Classical.byContradiction
              intro hno
              exact lift_last (u := u) hq hj hu (by grind) (by grind) hno
            refine la _ i N j S50 (by grind) hi6 hq hj rfl rfl h50.1 (fun k hk => h50.2 k (by omega) (by omega)) ?_ hnd
            unfold o_lift
            rw [if_pos hax3, hqA, hkj, hki, hnq, if_neg (by grind), if_neg (by grind)]
        · refine g_bipush K dX7_lift_46 kb_m5 ?_
          refine g_iret K dX7_lift_48 ⟨_, rfl, ?_⟩
          have hl01 := (hq.2.2.2.1 j hj).2.2.2.2
          refine mp_err ?_ hA
          unfold o_lift
          rw [if_pos hax3, hqA, hkj, hnq, if_neg (by grind), if_pos (by grind)]
      · refine g_aload_n K dX7_lift_24 rfl ?_
        refine g_iload_n K dX7_lift_25 rfl ?_
        refine g_callVi K (c_X7_down (k := i) (N := N) hz hi6 hq) mw_X7_down ml_X7_91 dX7_lift_26 (by rfl) rfl rfl (by decide) (by simp [Value.category]) ⟨by decide, by decide⟩ ⟨by decide, by decide⟩ ?_
        refine g_iconst K dX7_lift_29 kc_1 ?_
        refine g_icmp_ne (tgt := 36) K dX7_lift_30 (by decide) (fun u30 => ?_) (fun u30 => ?_)
        · refine g_iload_n K dX7_lift_36 rfl ?_
          refine g_aload_n K dX7_lift_37 rfl ?_
          refine g_iload_n K dX7_lift_38 rfl ?_
          refine g_iload_n K dX7_lift_39 rfl ?_
          refine g_callVi K (c_X7_isDown (k := i) (a := j) hz hi6 (by omega)) mw_X7_isDown ml_X7_88 dX7_lift_40 (by rfl) rfl rfl (by decide) (by simp [Value.category]) ⟨by decide, by decide⟩ ⟨by decide, by decide⟩ ?_
          refine g_icmp_eq (tgt := 49) K dX7_lift_43 (by decide) (fun u43 => ?_) (fun u43 => ?_)
          · refine g_aload_n K dX7_lift_49 rfl ?_
            refine g_callVpv K (c_X7_record hA) mw_X7_record ml_X7_70 dX7_lift_50 (by rfl) rfl rfl (by decide) (by simp [Value.category]) ⟨by decide, by decide⟩ ⟨by decide, by decide⟩ (fun S50 h50 => ?_)
            refine g_aload_n K dX7_lift_53 rfl ?_
            refine g_iload_n K dX7_lift_54 rfl ?_
            refine g_bipush K dX7_lift_55 kb_15 ?_
            refine g_iload_n K dX7_lift_57 rfl ?_
            refine g_iadd K dX7_lift_58 ?_
            rw [show (15 : Int32) + nI j = nI (15 + j) from nI_add 15 j]
            refine g_iload_n K dX7_lift_59 rfl ?_
            refine g_if_eq (tgt := 67) K dX7_lift_60 (by decide) (fun u60 => ?_) (fun u60 => ?_)
            · refine g_iconst K dX7_lift_67 kc_0 ?_
              have hl01 := (hq.2.2.2.1 j hj).2.2.2.2
              have hnd : ∃ b, b < N ∧ (if b = j then u else lQ (qOf (aZ A) i) b) = 0 := by
                apply Classical.byContradiction
                intro hno
                exact lift_last (u := u) hq hj hu (by grind) (by grind) hno
              refine la _ i N j S50 (by grind) hi6 hq hj rfl rfl h50.1 (fun k hk => h50.2 k (by omega) (by omega)) ?_ hnd
              unfold o_lift
              rw [if_pos hax3, hqA, hkj, hki, hnq, if_neg (by grind), if_neg (by grind)]
            · refine g_iconst K dX7_lift_63 kc_1 ?_
              refine g_goto (tgt := 68) K dX7_lift_64 (by decide) ?_
              have hl01 := (hq.2.2.2.1 j hj).2.2.2.2
              have hnd : ∃ b, b < N ∧ (if b = j then u else lQ (qOf (aZ A) i) b) = 0 := by
                apply Classical.byContradiction
                intro hno
                exact lift_last (u := u) hq hj hu (by grind) (by grind) hno
              refine la _ i N j S50 (by grind) hi6 hq hj rfl rfl h50.1 (fun k hk => h50.2 k (by omega) (by omega)) ?_ hnd
              unfold o_lift
              rw [if_pos hax3, hqA, hkj, hki, hnq, if_neg (by grind), if_neg (by grind)]
          · refine g_bipush K dX7_lift_46 kb_m5 ?_
            refine g_iret K dX7_lift_48 ⟨_, rfl, ?_⟩
            have hl01 := (hq.2.2.2.1 j hj).2.2.2.2
            refine mp_err ?_ hA
            unfold o_lift
            rw [if_pos hax3, hqA, hkj, hnq, if_neg (by grind), if_pos (by grind)]
        · refine g_bipush K dX7_lift_33 kb_m4 ?_
          refine g_iret K dX7_lift_35 ⟨_, rfl, ?_⟩
          refine mp_err ?_ hA
          unfold o_lift
          rw [if_pos hax3, hqA, hkj, hnq, if_pos ⟨by grind, by grind, by grind⟩]
  · have hax3 : ¬ ((0 ≤ x ∧ x < aZ A 6) ∧ 0 ≤ y ∧ y < qA A x 0) := by
      rw [hn]
      unfold qA
      grind
    refine g_iconst K dX7_lift_9 kc_m1 ?_
    refine g_iret K dX7_lift_10 ⟨_, rfl, ?_⟩
    exact mp_err (by unfold o_lift; rw [if_neg hax3]) hA
set_option maxHeartbeats 4000000 in
set_option maxRecDepth 100000 in
theorem c_X7_tare {l : Launch} {b : Nat} {D : va_G} {cA : Nat → ClassId} {ad : Nat → Nat} {S : ST} {A : AS} {n : Nat} {x : Int32} (hA : MRel S A) (hs : StOk (aZ A) n) : MT l b D cA NN ad zT yX7_tare cX7_tare 3 (some .int) 2 [.ref (ad 181), .int x] S (RI (MPost (o_tare A x) S)) := by
  have h6 := hs.2.2.1
  have hn := hs.2.1
  have hz := hA.1
  refine MT.intro (j := 1) (ls := [some (.ref (ad 181)), some (.int x), none]) pn_X7 rfl rfl rfl (fun pr en s0 mi below meth c' K _ => ?_)
  refine g_aload_n K dX7_tare_0 rfl ?_
  refine g_iload_n K dX7_tare_1 rfl ?_
  refine g_callVi K (c_X7_isCart hz hn h6) mw_X7_isCart ml_X7_50 dX7_tare_2 (by rfl) rfl rfl (by decide) (by simp [Value.category]) ⟨by decide, by decide⟩ ⟨by decide, by decide⟩ ?_
  refine g_if_ne (tgt := 10) K dX7_tare_5 (by decide) (fun u5 => ?_) (fun u5 => ?_)
  · have hx : 0 ≤ x ∧ x < nI n := by grind
    have hcx : 0 ≤ x ∧ x < aZ A 6 := by rw [hn]; exact hx
    obtain ⟨i, hi, hxi, hki⟩ := c_in (z := aZ A) h6 hx
    have hi6 : i < 6 := by omega
    obtain ⟨N, hq⟩ := hs.2.2.2 i hi
    have h5 := hq.2.2.1
    have hN1 := hq.2.1
    have hq0 : qOf (aZ A) i 0 = nI N := hq.1
    have hnq : nQ (qOf (aZ A) i) = N := nQ_eq hq
    have hqA : qA A x = qOf (aZ A) i := by unfold qA; rw [hki]
    subst hxi
    refine g_aload_n K dX7_tare_10 rfl ?_
    refine g_iload_n K dX7_tare_11 rfl ?_
    refine g_iconst K dX7_tare_12 kc_2 ?_
    refine g_callVi K (c_X7_of (k := i) (w := 2) hz (by omega) (by omega)) mw_X7_of ml_X7_54 dX7_tare_13 (by rfl) rfl rfl (by decide) (by simp [Value.category]) ⟨by decide, by decide⟩ ⟨by decide, by decide⟩ ?_
    refine g_istore_n (ls2 := [_, _, some (.int _)]) K dX7_tare_16 (by decide) rfl ?_
    refine g_iload_n K dX7_tare_17 rfl ?_
    refine g_bipush K dX7_tare_18 kb_m5 ?_
    refine g_icmp_ne (tgt := 26) K dX7_tare_20 (by decide) (fun u20 => ?_) (fun u20 => ?_)
    · refine g_iload_n K dX7_tare_26 rfl ?_
      refine g_aload_n K dX7_tare_27 rfl ?_
      refine g_iload_n K dX7_tare_28 rfl ?_
      refine g_iconst K dX7_tare_29 kc_1 ?_
      refine g_callVi K (c_X7_of (k := i) (w := 1) hz (by omega) (by omega)) mw_X7_of ml_X7_54 dX7_tare_30 (by rfl) rfl rfl (by decide) (by simp [Value.category]) ⟨by decide, by decide⟩ ⟨by decide, by decide⟩ ?_
      refine g_icmp_ne (tgt := 39) K dX7_tare_33 (by decide) (fun u33 => ?_) (fun u33 => ?_)
      · refine g_aload_n K dX7_tare_39 rfl ?_
        refine g_callVpv K (c_X7_record hA) mw_X7_record ml_X7_70 dX7_tare_40 (by rfl) rfl rfl (by decide) (by simp [Value.category]) ⟨by decide, by decide⟩ ⟨by decide, by decide⟩ (fun S40 h40 => ?_)
        refine g_aload_n K dX7_tare_43 rfl ?_
        refine g_iload_n K dX7_tare_44 rfl ?_
        refine g_iconst K dX7_tare_45 kc_1 ?_
        refine g_iload_n K dX7_tare_46 rfl ?_
        refine g_callVv K (c_X7_lay (k := i) (w := 1) (by omega) (by omega)) mw_X7_lay ml_X7_73 dX7_tare_47 (by rfl) rfl rfl (by decide) (by simp [Value.category]) ⟨by decide, by decide⟩ ⟨by decide, by decide⟩ ?_
        refine g_iload_n K dX7_tare_50 rfl ?_
        refine g_iret K dX7_tare_51 ⟨_, rfl, ?_⟩
        refine mp_ok ?_ (MRel_lay h40.1) (fun k hk => by rw [stw_n (by omega), h40.2 k (by omega) (by omega)])
        unfold o_tare
        rw [if_pos hcx, hqA, if_neg (by grind), if_neg (by grind), hki]
        rfl
      · refine g_bipush K dX7_tare_36 kb_m5 ?_
        refine g_iret K dX7_tare_38 ⟨_, rfl, ?_⟩
        exact mp_err (by unfold o_tare; rw [if_pos hcx, hqA, if_neg (by grind), if_pos (by grind)]) hA
    · refine g_bipush K dX7_tare_23 kb_m4 ?_
      refine g_iret K dX7_tare_25 ⟨_, rfl, ?_⟩
      exact mp_err (by unfold o_tare; rw [if_pos hcx, hqA, if_pos (by grind)]) hA
  · have hcx : ¬ (0 ≤ x ∧ x < aZ A 6) := by rw [hn]; grind
    refine g_iconst K dX7_tare_8 kc_m1 ?_
    refine g_iret K dX7_tare_9 ⟨_, rfl, ?_⟩
    exact mp_err (by unfold o_tare; rw [if_neg hcx]) hA
set_option maxHeartbeats 4000000 in
set_option maxRecDepth 100000 in
theorem c_X7_isValue {l : Launch} {b : Nat} {D : va_G} {cA : Nat → ClassId} {ad : Nat → Nat} {S : ST} {x v : Int32}  : MT l b D cA NN ad zT yX7_isValue cX7_isValue 2 (some .boolean) 1 [.int x, .int v] S (EI (if (0 ≤ x ∧ x < 6) ∧ leastS (cK x) ≤ v ∧ v ≤ mostS (cK x) then 1 else 0) S) := by
  refine MT.intro (j := 0) (ls := [some (.int x), some (.int v)]) pn_X7 rfl rfl rfl (fun pr en s0 mi below meth c' K _ => ?_)
  refine g_iload_n K dX7_isValue_0 rfl ?_
  by_cases hsw : (x : Int32).toInt < 0 ∨ 5 < (x : Int32).toInt
  · refine g_tout (tgt := 89) K dX7_isValue_1 hsw (by decide) ?_
    have hx6 : ¬ (0 ≤ x ∧ x < 6) := by
      intro q
      rw [Int32.le_iff_toInt_le, Int32.lt_iff_toInt_lt] at q
      rw [show (0 : Int32).toInt = 0 from rfl, show (6 : Int32).toInt = 6 from rfl] at q
      omega
    refine g_iconst K dX7_isValue_89 kc_0 ?_
    refine g_zret K dX7_isValue_90 (by first | exact Or.inl rfl | exact Or.inr rfl | assumption) ⟨_, rfl, ?_⟩
    refine ⟨?_, rfl⟩
    rw [if_neg (fun q => hx6 q.1)]
  · have hsw2 : x = 0 ∨ x = 1 ∨ x = 2 ∨ x = 3 ∨ x = 4 ∨ x = 5 := by
      obtain ⟨jsw, hjs, ejs⟩ := tsw (n := 5) (by decide) hsw
      rcases (show jsw = 0 ∨ jsw = 1 ∨ jsw = 2 ∨ jsw = 3 ∨ jsw = 4 ∨ jsw = 5 by omega) with rfl | rfl | rfl | rfl | rfl | rfl <;> (rw [ejs]; decide)
    rcases hsw2 with hsw2 | hsw2 | hsw2 | hsw2 | hsw2 | hsw2
    · refine g_tin (off := 39) (tgt := 40) K dX7_isValue_1 (by rw [hsw2]; decide) (by rw [hsw2]; decide) (by rw [hsw2]; rfl) (by decide) ?_
      have hk : cK x = 0 := by
        rw [hsw2]
        rfl
      have hx6 : 0 ≤ x ∧ x < 6 := by
        rw [hsw2]
        decide
      have hl : leastS (cK x) = 10 ∧ mostS (cK x) = 90 := by
        rw [hk]
        exact ⟨rfl, rfl⟩
      refine g_iload_n K dX7_isValue_40 rfl ?_
      refine g_bipush K dX7_isValue_41 kb_10 ?_
      refine g_bipush K dX7_isValue_43 kb_90 ?_
      refine g_callSi K c_X7_in mw_X7_in ml_X7_46 dX7_isValue_45 (by rfl) rfl (by simp [Value.category]) ⟨by decide, by decide⟩ ⟨by decide, by decide⟩ ?_
      refine g_zret K dX7_isValue_48 (by split <;> first | exact Or.inr rfl | exact Or.inl rfl) ⟨_, rfl, ?_⟩
      refine ⟨?_, rfl⟩
      rw [hl.1, hl.2]
      grind
    · refine g_tin (off := 48) (tgt := 49) K dX7_isValue_1 (by rw [hsw2]; decide) (by rw [hsw2]; decide) (by rw [hsw2]; rfl) (by decide) ?_
      have hk : cK x = 1 := by
        rw [hsw2]
        rfl
      have hx6 : 0 ≤ x ∧ x < 6 := by
        rw [hsw2]
        decide
      have hl : leastS (cK x) = 0 ∧ mostS (cK x) = 100 := by
        rw [hk]
        exact ⟨rfl, rfl⟩
      refine g_iload_n K dX7_isValue_49 rfl ?_
      refine g_iconst K dX7_isValue_50 kc_0 ?_
      refine g_bipush K dX7_isValue_51 kb_100 ?_
      refine g_callSi K c_X7_in mw_X7_in ml_X7_46 dX7_isValue_53 (by rfl) rfl (by simp [Value.category]) ⟨by decide, by decide⟩ ⟨by decide, by decide⟩ ?_
      refine g_zret K dX7_isValue_56 (by split <;> first | exact Or.inr rfl | exact Or.inl rfl) ⟨_, rfl, ?_⟩
      refine ⟨?_, rfl⟩
      rw [hl.1, hl.2]
      grind
    · refine g_tin (off := 56) (tgt := 57) K dX7_isValue_1 (by rw [hsw2]; decide) (by rw [hsw2]; decide) (by rw [hsw2]; rfl) (by decide) ?_
      have hk : cK x = 2 := by
        rw [hsw2]
        rfl
      have hx6 : 0 ≤ x ∧ x < 6 := by
        rw [hsw2]
        decide
      have hl : leastS (cK x) = 0 ∧ mostS (cK x) = 95 := by
        rw [hk]
        exact ⟨rfl, rfl⟩
      refine g_iload_n K dX7_isValue_57 rfl ?_
      refine g_iconst K dX7_isValue_58 kc_0 ?_
      refine g_bipush K dX7_isValue_59 kb_95 ?_
      refine g_callSi K c_X7_in mw_X7_in ml_X7_46 dX7_isValue_61 (by rfl) rfl (by simp [Value.category]) ⟨by decide, by decide⟩ ⟨by decide, by decide⟩ ?_
      refine g_zret K dX7_isValue_64 (by split <;> first | exact Or.inr rfl | exact Or.inl rfl) ⟨_, rfl, ?_⟩
      refine ⟨?_, rfl⟩
      rw [hl.1, hl.2]
      grind
    · refine g_tin (off := 64) (tgt := 65) K dX7_isValue_1 (by rw [hsw2]; decide) (by rw [hsw2]; decide) (by rw [hsw2]; rfl) (by decide) ?_
      have hk : cK x = 3 := by
        rw [hsw2]
        rfl
      have hx6 : 0 ≤ x ∧ x < 6 := by
        rw [hsw2]
        decide
      have hl : leastS (cK x) = 1 ∧ mostS (cK x) = 9 := by
        rw [hk]
        exact ⟨rfl, rfl⟩
      refine g_iload_n K dX7_isValue_65 rfl ?_
      refine g_iconst K dX7_isValue_66 kc_1 ?_
      refine g_bipush K dX7_isValue_67 kb_9 ?_
      refine g_callSi K c_X7_in mw_X7_in ml_X7_46 dX7_isValue_69 (by rfl) rfl (by simp [Value.category]) ⟨by decide, by decide⟩ ⟨by decide, by decide⟩ ?_
      refine g_zret K dX7_isValue_72 (by split <;> first | exact Or.inr rfl | exact Or.inl rfl) ⟨_, rfl, ?_⟩
      refine ⟨?_, rfl⟩
      rw [hl.1, hl.2]
      grind
    · refine g_tin (off := 72) (tgt := 73) K dX7_isValue_1 (by rw [hsw2]; decide) (by rw [hsw2]; decide) (by rw [hsw2]; rfl) (by decide) ?_
      have hk : cK x = 4 := by
        rw [hsw2]
        rfl
      have hx6 : 0 ≤ x ∧ x < 6 := by
        rw [hsw2]
        decide
      have hl : leastS (cK x) = 0 ∧ mostS (cK x) = 20 := by
        rw [hk]
        exact ⟨rfl, rfl⟩
      refine g_iload_n K dX7_isValue_73 rfl ?_
      refine g_iconst K dX7_isValue_74 kc_0 ?_
      refine g_bipush K dX7_isValue_75 kb_20 ?_
      refine g_callSi K c_X7_in mw_X7_in ml_X7_46 dX7_isValue_77 (by rfl) rfl (by simp [Value.category]) ⟨by decide, by decide⟩ ⟨by decide, by decide⟩ ?_
      refine g_zret K dX7_isValue_80 (by split <;> first | exact Or.inr rfl | exact Or.inl rfl) ⟨_, rfl, ?_⟩
      refine ⟨?_, rfl⟩
      rw [hl.1, hl.2]
      grind
    · refine g_tin (off := 80) (tgt := 81) K dX7_isValue_1 (by rw [hsw2]; decide) (by rw [hsw2]; decide) (by rw [hsw2]; rfl) (by decide) ?_
      have hk : cK x = 5 := by
        rw [hsw2]
        rfl
      have hx6 : 0 ≤ x ∧ x < 6 := by
        rw [hsw2]
        decide
      have hl : leastS (cK x) = 4 ∧ mostS (cK x) = 40 := by
        rw [hk]
        exact ⟨rfl, rfl⟩
      refine g_iload_n K dX7_isValue_81 rfl ?_
      refine g_iconst K dX7_isValue_82 kc_4 ?_
      refine g_bipush K dX7_isValue_83 kb_40 ?_
      refine g_callSi K c_X7_in mw_X7_in ml_X7_46 dX7_isValue_85 (by rfl) rfl (by simp [Value.category]) ⟨by decide, by decide⟩ ⟨by decide, by decide⟩ ?_
      refine g_zret K dX7_isValue_88 (by split <;> first | exact Or.inr rfl | exact Or.inl rfl) ⟨_, rfl, ?_⟩
      refine ⟨?_, rfl⟩
      rw [hl.1, hl.2]
      grind
