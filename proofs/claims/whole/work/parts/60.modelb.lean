def MFPost (o : UInt32) (A : AS) (S : ST) : UInt32 → ST → Prop := fun r S2 => r = o ∧ MRel S2 A ∧ ∀ k, k < 181 → S2 k = S k
theorem mp_fr {o : Int32 × AS} {S S2 : ST} {A : AS} {r : Int32} (h : o = (r, A)) (hA : MRel S A) (hf : Fr S S2) : MPost o S r S2 := mp_ok h (MRel_fr hA hf) (fun k hk => hf.1 k (by omega) (by omega))
theorem Fr_tr {S S1 S2 : ST} (h : Fr S S1) (h2 : Fr S1 S2) : Fr S S2 := ⟨fun k a b => (h2.1 k a b).trans (h.1 k a b), fun j hj => (h2.2 j hj).trans (h.2 j hj)⟩
theorem Fr_id {S : ST} : Fr S S := ⟨fun _ _ _ => rfl, fun _ _ => rfl⟩
theorem wire_pos {z : Nat → Int32} {s : Int32} (hse : SetOk z) (hs : 1 ≤ s ∧ s ≤ 9) : 0 < quoUF (z 5) s := by
  have g : (4 : Int32) ≤ z 5 := (hse 5 (by decide)).1
  have g2 : z 5 ≤ (40 : Int32) := (hse 5 (by decide)).2
  obtain ⟨b, hb, eb⟩ := nI_le_of (x := s) (b := 9) (by grind) (by decide) hs.2
  obtain ⟨a, ha, ea⟩ := nI_le_of (x := z 5) (b := 40) (by grind) (by decide) g2
  have ha1 : 4 ≤ a := by
    rw [ea, show (4 : Int32) = nI 4 from rfl, nI_leI (by decide) (by omega)] at g
    exact g
  have hb1 : 1 ≤ b := by
    have h1 := hs.1
    rw [eb, show (1 : Int32) = nI 1 from rfl, nI_leI (by decide) (by omega)] at h1
    exact h1
  rw [ea, eb, quoUF_nI (by omega) hb1 (by omega)]
  have hd : 1 ≤ (a + b - 1) / b := Nat.div_pos (by omega) (by omega)
  have hd2 : (a + b - 1) / b ≤ a + b - 1 := Nat.div_le_self _ _
  exact nI_lt (a := 0) (by omega) (by omega)
theorem rs_nn {z q : Nat → Int32} {s : Int32} : rsQ z q s ≤ 0 ↔ rsQ z q s = 0 := by
  unfold rsQ rsF
  grind
theorem qOf_upd {z : Nat → Int32} {w k : Nat} {v : Int32} (hw : w < 9) : qOf (upd z w v) k = qOf z k := by
  funext j
  unfold qOf upd
  rw [if_neg (by omega)]
set_option maxHeartbeats 4000000 in
set_option maxRecDepth 100000 in
theorem c_X7_tick {l : Launch} {b : Nat} {D : va_G} {cA : Nat → ClassId} {ad : Nat → Nat} {S : ST} {A : AS} {n : Nat} {x y t v : Int32} (hA : MRel S A) (hs : StOk (aZ A) n) : MT l b D cA NN ad zT yX7_tick cX7_tick 5 (some .int) 5 [.ref (ad 181), .int x, .int y, .int t, .int v] S (RI (MPost (o_tick A x y t v, A) S)) := by
  have h6 := hs.2.2.1
  have hn := hs.2.1
  have hz := hA.1
  refine MT.intro (j := 0) (ls := [some (.ref (ad 181)), some (.int x), some (.int y), some (.int t), some (.int v)]) pn_X7 rfl rfl rfl (fun pr en s0 mi below meth c' K _ => ?_)
  refine g_aload_n K dX7_tick_0 rfl ?_
  refine g_iload_n K dX7_tick_1 rfl ?_
  refine g_callVi K (c_X7_isCart hz hn h6) mw_X7_isCart ml_X7_50 dX7_tick_2 (by rfl) rfl rfl (by decide) (by simp [Value.category]) ⟨by decide, by decide⟩ ⟨by decide, by decide⟩ ?_
  refine g_if_ne (tgt := 10) K dX7_tick_5 (by decide) (fun u5 => ?_) (fun u5 => ?_)
  · have hx : 0 ≤ x ∧ x < nI n := by grind
    have hcx : 0 ≤ x ∧ x < aZ A 6 := by rw [hn]; exact hx
    obtain ⟨i, hi, hxi, hki⟩ := c_in (z := aZ A) h6 hx
    have hi6 : i < 6 := by omega
    obtain ⟨N, hq⟩ := hs.2.2.2 i hi
    have h5 := hq.2.2.1
    have hN1 := hq.2.1
    have hq0 : qOf (aZ A) i 0 = nI N := hq.1
    have hnq : nQ (qOf (aZ A) i) = N := nQ_eq hq
    have hqA : qA A x = qOf (aZ A) i := by unfold qA; rw [hki]
    subst hxi
    refine g_iload_n K dX7_tick_10 rfl ?_
    refine g_iconst K dX7_tick_11 kc_1 ?_
    refine g_bipush K dX7_tick_12 kb_9 ?_
    refine g_callSi K c_X7_in mw_X7_in ml_X7_46 dX7_tick_14 (by rfl) rfl (by simp [Value.category]) ⟨by decide, by decide⟩ ⟨by decide, by decide⟩ ?_
    refine g_if_ne (tgt := 23) K dX7_tick_17 (by decide) (fun u17 => ?_) (fun u17 => ?_)
    · have hs9 : 1 ≤ y ∧ y ≤ 9 := by grind
      refine g_aload_n K dX7_tick_23 rfl ?_
      refine g_iload_n K dX7_tick_24 rfl ?_
      refine g_iload_n K dX7_tick_25 rfl ?_
      refine g_callVpv K (c_X7_reckon (z := aZ A) (k := i) (N := N) hz hi6 hq hs.1 hs9) mw_X7_reckon ml_X7_147 dX7_tick_26 (by rfl) rfl rfl (by decide) (by simp [Value.category]) ⟨by decide, by decide⟩ ⟨by decide, by decide⟩ (fun S26 h26 => ?_)
      refine g_iload_n K dX7_tick_29 rfl ?_
      refine g_iconst K dX7_tick_30 kc_0 ?_
      refine g_aload_n K dX7_tick_31 rfl ?_
      refine g_callVi K c_X7_readingMany mw_X7_readingMany ml_X7_121 dX7_tick_32 (by rfl) rfl rfl (by decide) (by simp [Value.category]) ⟨by decide, by decide⟩ ⟨by decide, by decide⟩ ?_
      refine g_nm (y := nI (nN (aZ A) (qOf (aZ A) i) y)) (by rw [h26.1.2.1]; exact many_eq hq hs.1 hs9) ?_
      refine g_iconst K dX7_tick_35 kc_1 ?_
      refine g_isub K dX7_tick_36 ?_
      refine g_callSi K c_X7_in mw_X7_in ml_X7_46 dX7_tick_37 (by rfl) rfl (by simp [Value.category]) ⟨by decide, by decide⟩ ⟨by decide, by decide⟩ ?_
      refine g_if_ne (tgt := 45) K dX7_tick_40 (by decide) (fun u40 => ?_) (fun u40 => ?_)
      · have h120 := nN_120 (se := aZ A) (q := qOf (aZ A) i) (s := y)
        have g0 : 0 ≤ nI (nN (aZ A) (qOf (aZ A) i) y) := nI_pos' (by omega)
        have htt : 0 ≤ t ∧ t < nI (nN (aZ A) (qOf (aZ A) i) y) := by grind
        obtain ⟨j, hj, htj⟩ : ∃ j, j < (nN (aZ A) (qOf (aZ A) i) y) ∧ t = nI j := by
          rcases pk_ix t (n := (nN (aZ A) (qOf (aZ A) i) y)) (by omega) with q | q | q
          · exact absurd htt.1 (by grind)
          · exact absurd htt.2 (by grind)
          · exact q
        have hkt : cK t = j := by rw [htj]; exact cK_nI (by omega)
        have hrow := h26.1.2.2.2 j hj
        refine g_iload K dX7_tick_45 rfl ?_
        by_cases hsw : (v : Int32).toInt < 0 ∨ 4 < (v : Int32).toInt
        · refine g_tout (tgt := 115) K dX7_tick_47 hsw (by decide) ?_
          have hov : o_tick A (nI i) y t v = -2 := by
            unfold o_tick
            rw [if_pos hcx, if_pos hs9, hqA, if_pos htt, if_neg (swo hsw (by decide) (by decide)), if_neg (swo hsw (by decide) (by decide)), if_neg (swo hsw (by decide) (by decide)), if_neg (swo hsw (by decide) (by decide)), if_neg (swo hsw (by decide) (by decide))]
          refine g_bipush K dX7_tick_115 kb_m2 ?_
          refine g_iret K dX7_tick_117 ⟨_, rfl, ?_⟩
          exact mp_fr (by rw [hov]) hA h26.2
        · have hsw2 : v = 0 ∨ v = 1 ∨ v = 2 ∨ v = 3 ∨ v = 4 := by
            obtain ⟨jsw, hjs, ejs⟩ := tsw (n := 4) (by decide) hsw
            rcases (show jsw = 0 ∨ jsw = 1 ∨ jsw = 2 ∨ jsw = 3 ∨ jsw = 4 by omega) with rfl | rfl | rfl | rfl | rfl <;> (rw [ejs]; decide)
          rcases hsw2 with hsw2 | hsw2 | hsw2 | hsw2 | hsw2
          · refine g_tin (off := 33) (tgt := 80) K dX7_tick_47 (by rw [hsw2]; decide) (by rw [hsw2]; decide) (by rw [hsw2]; rfl) (by decide) ?_
            have hov : o_tick A (nI i) y t v = ldQ (aZ A) (qOf (aZ A) i) y j := by
              unfold o_tick
              rw [if_pos hcx, if_pos hs9, hqA, if_pos htt, hkt, hsw2]
              rfl
            refine g_aload_n K dX7_tick_80 rfl ?_
            refine g_getr (j := 188) K lk_X7_28 dX7_tick_81 rfl (by decide) (rfl : kd 181 = 7) (by decide) (by decide) rfl (rfl : rs 181 9 = 188) ?_
            refine g_iload_n K dX7_tick_84 rfl ?_
            refine g_iald (j := j) K dX7_tick_85 htj ln_188 (by omega) (rfl : kd 188 = 8) (by decide) hrow.1 ?_
            refine g_iret K dX7_tick_86 ⟨_, rfl, ?_⟩
            exact mp_fr (by rw [hov]) hA h26.2
          · refine g_tin (off := 40) (tgt := 87) K dX7_tick_47 (by rw [hsw2]; decide) (by rw [hsw2]; decide) (by rw [hsw2]; rfl) (by decide) ?_
            have hov : o_tick A (nI i) y t v = swQ (aZ A) (qOf (aZ A) i) y j := by
              unfold o_tick
              rw [if_pos hcx, if_pos hs9, hqA, if_pos htt, hkt, hsw2]
              rfl
            refine g_aload_n K dX7_tick_87 rfl ?_
            refine g_getr (j := 189) K lk_X7_31 dX7_tick_88 rfl (by decide) (rfl : kd 181 = 7) (by decide) (by decide) rfl (rfl : rs 181 10 = 189) ?_
            refine g_iload_n K dX7_tick_91 rfl ?_
            refine g_iald (j := j) K dX7_tick_92 htj ln_189 (by omega) (rfl : kd 189 = 8) (by decide) hrow.2.1 ?_
            refine g_iret K dX7_tick_93 ⟨_, rfl, ?_⟩
            exact mp_fr (by rw [hov]) hA h26.2
          · refine g_tin (off := 47) (tgt := 94) K dX7_tick_47 (by rw [hsw2]; decide) (by rw [hsw2]; decide) (by rw [hsw2]; rfl) (by decide) ?_
            have hov : o_tick A (nI i) y t v = rdQ (aZ A) (qOf (aZ A) i) y j := by
              unfold o_tick
              rw [if_pos hcx, if_pos hs9, hqA, if_pos htt, hkt, hsw2]
              rfl
            refine g_aload_n K dX7_tick_94 rfl ?_
            refine g_getr (j := 190) K lk_X7_34 dX7_tick_95 rfl (by decide) (rfl : kd 181 = 7) (by decide) (by decide) rfl (rfl : rs 181 11 = 190) ?_
            refine g_iload_n K dX7_tick_98 rfl ?_
            refine g_iald (j := j) K dX7_tick_99 htj ln_190 (by omega) (rfl : kd 190 = 8) (by decide) hrow.2.2.1 ?_
            refine g_iret K dX7_tick_100 ⟨_, rfl, ?_⟩
            exact mp_fr (by rw [hov]) hA h26.2
          · refine g_tin (off := 54) (tgt := 101) K dX7_tick_47 (by rw [hsw2]; decide) (by rw [hsw2]; decide) (by rw [hsw2]; rfl) (by decide) ?_
            have hov : o_tick A (nI i) y t v = stF (rdQ (aZ A) (qOf (aZ A) i) y) (wN (aZ A)) (aZ A 4) j := by
              unfold o_tick
              rw [if_pos hcx, if_pos hs9, hqA, if_pos htt, hkt, hsw2]
              rfl
            refine g_aload_n K dX7_tick_101 rfl ?_
            refine g_getr (j := 191) K lk_X7_37 dX7_tick_102 rfl (by decide) (rfl : kd 181 = 7) (by decide) (by decide) rfl (rfl : rs 181 12 = 191) ?_
            refine g_iload_n K dX7_tick_105 rfl ?_
            refine g_iald (j := j) K dX7_tick_106 htj ln_191 (by omega) (rfl : kd 191 = 8) (by decide) hrow.2.2.2.1 ?_
            refine g_iret K dX7_tick_107 ⟨_, rfl, ?_⟩
            exact mp_fr (by rw [hov]) hA h26.2
          · refine g_tin (off := 61) (tgt := 108) K dX7_tick_47 (by rw [hsw2]; decide) (by rw [hsw2]; decide) (by rw [hsw2]; rfl) (by decide) ?_
            have hov : o_tick A (nI i) y t v = lvR (rdQ (aZ A) (qOf (aZ A) i) y) (wN (aZ A)) (aZ A 4) (j + 1) 1 := by
              unfold o_tick
              rw [if_pos hcx, if_pos hs9, hqA, if_pos htt, hkt, hsw2]
              rfl
            refine g_aload_n K dX7_tick_108 rfl ?_
            refine g_getr (j := 192) K lk_X7_40 dX7_tick_109 rfl (by decide) (rfl : kd 181 = 7) (by decide) (by decide) rfl (rfl : rs 181 13 = 192) ?_
            refine g_iload_n K dX7_tick_112 rfl ?_
            refine g_iald (j := j) K dX7_tick_113 htj ln_192 (by omega) (rfl : kd 192 = 8) (by decide) hrow.2.2.2.2 ?_
            refine g_iret K dX7_tick_114 ⟨_, rfl, ?_⟩
            exact mp_fr (by rw [hov]) hA h26.2
      · have h120 := nN_120 (se := aZ A) (q := qOf (aZ A) i) (s := y)
        have g0 : 0 ≤ nI (nN (aZ A) (qOf (aZ A) i) y) := nI_pos' (by omega)
        have htt : ¬ (0 ≤ t ∧ t < nI (nN (aZ A) (qOf (aZ A) i) y)) := by grind
        refine g_iconst K dX7_tick_43 kc_m1 ?_
        refine g_iret K dX7_tick_44 ⟨_, rfl, ?_⟩
        exact mp_fr (by unfold o_tick; rw [if_pos hcx, if_pos hs9, hqA, if_neg htt]) hA h26.2
    · have hs9 : ¬ (1 ≤ y ∧ y ≤ 9) := by grind
      refine g_bipush K dX7_tick_20 kb_m2 ?_
      refine g_iret K dX7_tick_22 ⟨_, rfl, ?_⟩
      exact mp_err (by unfold o_tick; rw [if_pos hcx, if_neg hs9]) hA
  · have hcx : ¬ (0 ≤ x ∧ x < aZ A 6) := by rw [hn]; grind
    refine g_iconst K dX7_tick_8 kc_m1 ?_
    refine g_iret K dX7_tick_9 ⟨_, rfl, ?_⟩
    exact mp_err (by unfold o_tick; rw [if_neg hcx]) hA
set_option maxHeartbeats 4000000 in
set_option maxRecDepth 100000 in
theorem c_X7_runOf {l : Launch} {b : Nat} {D : va_G} {cA : Nat → ClassId} {ad : Nat → Nat} {S : ST} {A : AS} {n : Nat} {x y v : Int32} (hA : MRel S A) (hs : StOk (aZ A) n) : MT l b D cA NN ad zT yX7_runOf cX7_runOf 5 (some .int) 5 [.ref (ad 181), .int x, .int y, .int v] S (RI (MPost (o_runOf A x y v, A) S)) := by
  have h6 := hs.2.2.1
  have hn := hs.2.1
  have hz := hA.1
  refine MT.intro (j := 1) (ls := [some (.ref (ad 181)), some (.int x), some (.int y), some (.int v), none]) pn_X7 rfl rfl rfl (fun pr en s0 mi below meth c' K _ => ?_)
  refine g_aload_n K dX7_runOf_0 rfl ?_
  refine g_iload_n K dX7_runOf_1 rfl ?_
  refine g_callVi K (c_X7_isCart hz hn h6) mw_X7_isCart ml_X7_50 dX7_runOf_2 (by rfl) rfl rfl (by decide) (by simp [Value.category]) ⟨by decide, by decide⟩ ⟨by decide, by decide⟩ ?_
  refine g_if_ne (tgt := 10) K dX7_runOf_5 (by decide) (fun u5 => ?_) (fun u5 => ?_)
  · have hx : 0 ≤ x ∧ x < nI n := by grind
    have hcx : 0 ≤ x ∧ x < aZ A 6 := by rw [hn]; exact hx
    obtain ⟨i, hi, hxi, hki⟩ := c_in (z := aZ A) h6 hx
    have hi6 : i < 6 := by omega
    obtain ⟨N, hq⟩ := hs.2.2.2 i hi
    have h5 := hq.2.2.1
    have hN1 := hq.2.1
    have hq0 : qOf (aZ A) i 0 = nI N := hq.1
    have hnq : nQ (qOf (aZ A) i) = N := nQ_eq hq
    have hqA : qA A x = qOf (aZ A) i := by unfold qA; rw [hki]
    subst hxi
    refine g_iload_n K dX7_runOf_10 rfl ?_
    refine g_iconst K dX7_runOf_11 kc_1 ?_
    refine g_bipush K dX7_runOf_12 kb_9 ?_
    refine g_callSi K c_X7_in mw_X7_in ml_X7_46 dX7_runOf_14 (by rfl) rfl (by simp [Value.category]) ⟨by decide, by decide⟩ ⟨by decide, by decide⟩ ?_
    refine g_if_ne (tgt := 23) K dX7_runOf_17 (by decide) (fun u17 => ?_) (fun u17 => ?_)
    · have hs9 : 1 ≤ y ∧ y ≤ 9 := by grind
      refine g_aload_n K dX7_runOf_23 rfl ?_
      refine g_iload_n K dX7_runOf_24 rfl ?_
      refine g_iload_n K dX7_runOf_25 rfl ?_
      refine g_callVpv K (c_X7_reckon (z := aZ A) (k := i) (N := N) hz hi6 hq hs.1 hs9) mw_X7_reckon ml_X7_147 dX7_runOf_26 (by rfl) rfl rfl (by decide) (by simp [Value.category]) ⟨by decide, by decide⟩ ⟨by decide, by decide⟩ (fun S26 h26 => ?_)
      have hz2 := Fr_mz h26.2 hz
      have hqu : (aZ A 5 + y - 1) / y = quoUF (aZ A 5) y := by
        unfold quoUF quoF
        rw [if_pos (sp_pos hs9)]
      have hqp := wire_pos hs.1 hs9
      have hz5 : S26 182 5 = aZ A 5 := hz2 5 (by decide)
      refine g_aload_n K dX7_runOf_29 rfl ?_
      refine g_iload_n K dX7_runOf_30 rfl ?_
      refine g_iload_n K dX7_runOf_31 rfl ?_
      refine g_callVi K (c_X7_reason (z := aZ A) (k := i) (N := N) (bh := bhQ (qOf (aZ A) i)) (L := lvQ (aZ A) (qOf (aZ A) i) y) (T := rT (aZ A) (qOf (aZ A) i) y) hz2 hi6 hq hs.1 (fun a ha => (h26.1.1 a (by omega)).2) hs9 h26.1.2.2.1 h26.1.2.1) mw_X7_reason ml_X7_151 dX7_runOf_32 (by rfl) rfl rfl (by decide) (by simp [Value.category]) ⟨by decide, by decide⟩ ⟨by decide, by decide⟩ ?_
      refine g_nm (y := rsQ (aZ A) (qOf (aZ A) i) y) (by unfold rsQ; rw [hnq]) ?_
      refine g_istore (ls2 := [_, _, _, _, some (.int _)]) K dX7_runOf_35 (by decide) rfl ?_
      refine g_iload_n K dX7_runOf_37 rfl ?_
      by_cases hsw : (v : Int32).toInt < 0 ∨ 8 < (v : Int32).toInt
      · refine g_tout (tgt := 182) K dX7_runOf_38 hsw (by decide) ?_
        have hov : o_runOf A (nI i) y v = -2 := by
          unfold o_runOf
          rw [if_pos hcx, if_pos hs9, if_neg (swo hsw (by decide) (by decide)), if_neg (swo hsw (by decide) (by decide)), if_neg (swo hsw (by decide) (by decide)), if_neg (swo hsw (by decide) (by decide)), if_neg (swo hsw (by decide) (by decide)), if_neg (swo hsw (by decide) (by decide)), if_neg (swo hsw (by decide) (by decide)), if_neg (swo hsw (by decide) (by decide)), if_neg (swo hsw (by decide) (by decide))]
        refine g_bipush K dX7_runOf_182 kb_m2 ?_
        refine g_iret K dX7_runOf_184 ⟨_, rfl, ?_⟩
        exact mp_fr (by rw [hov]) hA h26.2
      · have hsw2 : v = 0 ∨ v = 1 ∨ v = 2 ∨ v = 3 ∨ v = 4 ∨ v = 5 ∨ v = 6 ∨ v = 7 ∨ v = 8 := by
          obtain ⟨jsw, hjs, ejs⟩ := tsw (n := 8) (by decide) hsw
          rcases (show jsw = 0 ∨ jsw = 1 ∨ jsw = 2 ∨ jsw = 3 ∨ jsw = 4 ∨ jsw = 5 ∨ jsw = 6 ∨ jsw = 7 ∨ jsw = 8 by omega) with rfl | rfl | rfl | rfl | rfl | rfl | rfl | rfl | rfl <;> (rw [ejs]; decide)
        rcases hsw2 with hsw2 | hsw2 | hsw2 | hsw2 | hsw2 | hsw2 | hsw2 | hsw2 | hsw2
        · refine g_tin (off := 50) (tgt := 88) K dX7_runOf_38 (by rw [hsw2]; decide) (by rw [hsw2]; decide) (by rw [hsw2]; rfl) (by decide) ?_
          have hov : o_runOf A (nI i) y v = twQ (aZ A) (qOf (aZ A) i) y := by
            unfold o_runOf
            rw [if_pos hcx, if_pos hs9, hqA, hsw2]
            simp
          refine g_iload K dX7_runOf_88 rfl ?_
          refine g_if_ne (tgt := 100) K dX7_runOf_90 (by decide) (fun u90 => ?_) (fun u90 => ?_)
          · refine g_bipush K dX7_runOf_100 kb_m5 ?_
            refine g_nm (y := twQ (aZ A) (qOf (aZ A) i) y) (by unfold twQ twF; first | rw [if_pos (by assumption)] | rw [if_neg (by assumption)]) ?_
            refine g_iret K dX7_runOf_102 ⟨_, rfl, ?_⟩
            exact mp_fr (by rw [hov]) hA h26.2
          · refine g_aload_n K dX7_runOf_93 rfl ?_
            refine g_geti K lk_X7_104 dX7_runOf_94 rfl (rfl : kd 181 = 7) (by decide) (by decide) (show S26 181 16 = lvQ (aZ A) (qOf (aZ A) i) y 2 from h26.1.2.2.1.2.1) ?_
            refine g_goto (tgt := 102) K dX7_runOf_97 (by decide) ?_
            refine g_nm (y := twQ (aZ A) (qOf (aZ A) i) y) (by unfold twQ twF; first | rw [if_pos (by assumption)] | rw [if_neg (by assumption)]) ?_
            refine g_iret K dX7_runOf_102 ⟨_, rfl, ?_⟩
            exact mp_fr (by rw [hov]) hA h26.2
        · refine g_tin (off := 65) (tgt := 103) K dX7_runOf_38 (by rw [hsw2]; decide) (by rw [hsw2]; decide) (by rw [hsw2]; rfl) (by decide) ?_
          have hov : o_runOf A (nI i) y v = rsQ (aZ A) (qOf (aZ A) i) y := by
            unfold o_runOf
            rw [if_pos hcx, if_pos hs9, hqA, hsw2]
            simp
          refine g_iload K dX7_runOf_103 rfl ?_
          refine g_iret K dX7_runOf_105 ⟨_, rfl, ?_⟩
          exact mp_fr (by rw [hov]) hA h26.2
        · refine g_tin (off := 68) (tgt := 106) K dX7_runOf_38 (by rw [hsw2]; decide) (by rw [hsw2]; decide) (by rw [hsw2]; rfl) (by decide) ?_
          have hov : o_runOf A (nI i) y v = nI (nN (aZ A) (qOf (aZ A) i) y) := by
            unfold o_runOf
            rw [if_pos hcx, if_pos hs9, hqA, hsw2]
            simp
          refine g_aload_n K dX7_runOf_106 rfl ?_
          refine g_callVi K c_X7_readingMany mw_X7_readingMany ml_X7_121 dX7_runOf_107 (by rfl) rfl rfl (by decide) (by simp [Value.category]) ⟨by decide, by decide⟩ ⟨by decide, by decide⟩ ?_
          refine g_nm (y := nI (nN (aZ A) (qOf (aZ A) i) y)) (by rw [h26.1.2.1]; exact many_eq hq hs.1 hs9) ?_
          refine g_iret K dX7_runOf_110 ⟨_, rfl, ?_⟩
          exact mp_fr (by rw [hov]) hA h26.2
        · refine g_tin (off := 73) (tgt := 111) K dX7_runOf_38 (by rw [hsw2]; decide) (by rw [hsw2]; decide) (by rw [hsw2]; rfl) (by decide) ?_
          have hov : o_runOf A (nI i) y v = lvQ (aZ A) (qOf (aZ A) i) y 0 := by
            unfold o_runOf
            rw [if_pos hcx, if_pos hs9, hqA, hsw2]
            simp
          refine g_aload_n K dX7_runOf_111 rfl ?_
          refine g_geti K lk_X7_101 dX7_runOf_112 rfl (rfl : kd 181 = 7) (by decide) (by decide) (show S26 181 15 = lvQ (aZ A) (qOf (aZ A) i) y 0 from h26.1.2.2.1.1) ?_
          refine g_iret K dX7_runOf_115 ⟨_, rfl, ?_⟩
          exact mp_fr (by rw [hov]) hA h26.2
        · refine g_tin (off := 78) (tgt := 116) K dX7_runOf_38 (by rw [hsw2]; decide) (by rw [hsw2]; decide) (by rw [hsw2]; rfl) (by decide) ?_
          have hov : o_runOf A (nI i) y v = lvQ (aZ A) (qOf (aZ A) i) y 2 := by
            unfold o_runOf
            rw [if_pos hcx, if_pos hs9, hqA, hsw2]
            simp
          refine g_aload_n K dX7_runOf_116 rfl ?_
          refine g_geti K lk_X7_104 dX7_runOf_117 rfl (rfl : kd 181 = 7) (by decide) (by decide) (show S26 181 16 = lvQ (aZ A) (qOf (aZ A) i) y 2 from h26.1.2.2.1.2.1) ?_
          refine g_iret K dX7_runOf_120 ⟨_, rfl, ?_⟩
          exact mp_fr (by rw [hov]) hA h26.2
        · refine g_tin (off := 83) (tgt := 121) K dX7_runOf_38 (by rw [hsw2]; decide) (by rw [hsw2]; decide) (by rw [hsw2]; rfl) (by decide) ?_
          have hov : o_runOf A (nI i) y v = quoF (aZ A 5) (quoUF (aZ A 5) y) := by
            unfold o_runOf
            rw [if_pos hcx, if_pos hs9, hqA, hsw2]
            simp
          refine g_aload_n K dX7_runOf_121 rfl ?_
          refine g_getr (j := 182) K lk_X7_7 dX7_runOf_122 rfl (by decide) (rfl : kd 181 = 7) (by decide) (by decide) rfl (rfl : rs 181 0 = 182) ?_
          refine g_iconst K dX7_runOf_125 kc_5 ?_
          refine g_iald (j := 5) K dX7_runOf_126 rfl ln_182 (by decide) (rfl : kd 182 = 8) (by decide) hz5 ?_
          refine g_aload_n K dX7_runOf_127 rfl ?_
          refine g_getr (j := 182) K lk_X7_7 dX7_runOf_128 rfl (by decide) (rfl : kd 181 = 7) (by decide) (by decide) rfl (rfl : rs 181 0 = 182) ?_
          refine g_iconst K dX7_runOf_131 kc_5 ?_
          refine g_iald (j := 5) K dX7_runOf_132 rfl ln_182 (by decide) (rfl : kd 182 = 8) (by decide) hz5 ?_
          refine g_iload_n K dX7_runOf_133 rfl ?_
          refine g_iadd K dX7_runOf_134 ?_
          refine g_iconst K dX7_runOf_135 kc_1 ?_
          refine g_isub K dX7_runOf_136 ?_
          refine g_iload_n K dX7_runOf_137 rfl ?_
          refine g_idiv K dX7_runOf_138 (sp_ne hs9) ?_
          rw [hqu]
          refine g_idiv K dX7_runOf_139 (by grind) ?_
          refine g_nm (y := quoF (aZ A 5) (quoUF (aZ A 5) y)) (by conv => rhs; unfold quoF; rw [if_pos hqp]) ?_
          refine g_iret K dX7_runOf_140 ⟨_, rfl, ?_⟩
          exact mp_fr (by rw [hov]) hA h26.2
        · refine g_tin (off := 103) (tgt := 141) K dX7_runOf_38 (by rw [hsw2]; decide) (by rw [hsw2]; decide) (by rw [hsw2]; rfl) (by decide) ?_
          have hov : o_runOf A (nI i) y v = wtQ (qOf (aZ A) i) y := by
            unfold o_runOf
            rw [if_pos hcx, if_pos hs9, hqA, hsw2]
            simp
          refine g_aload_n K dX7_runOf_141 rfl ?_
          refine g_iload_n K dX7_runOf_142 rfl ?_
          refine g_iload_n K dX7_runOf_143 rfl ?_
          refine g_callVi K (c_X7_axlesTold (k := i) (N := N) (z := aZ A) (bh := bhQ (qOf (aZ A) i)) (s := y) (Fr_mz h26.2 hz) hi6 hq (fun a ha => (h26.1.1 a (by omega)).2) hs9) mw_X7_axlesTold ml_X7_144 dX7_runOf_144 (by rfl) rfl rfl (by decide) (by simp [Value.category]) ⟨by decide, by decide⟩ ⟨by decide, by decide⟩ ?_
          refine g_nm (y := wtQ (qOf (aZ A) i) y) (by unfold wtQ; rw [hnq]) ?_
          refine g_iret K dX7_runOf_147 ⟨_, rfl, ?_⟩
          exact mp_fr (by rw [hov]) hA h26.2
        · refine g_tin (off := 110) (tgt := 148) K dX7_runOf_38 (by rw [hsw2]; decide) (by rw [hsw2]; decide) (by rw [hsw2]; rfl) (by decide) ?_
          have hov : o_runOf A (nI i) y v = waF (rsQ (aZ A) (qOf (aZ A) i) y) (lvQ (aZ A) (qOf (aZ A) i) y) (wtQ (qOf (aZ A) i) y) := by
            unfold o_runOf
            rw [if_pos hcx, if_pos hs9, hqA, hsw2]
            simp
          refine g_iload K dX7_runOf_148 rfl ?_
          refine g_iconst K dX7_runOf_150 kc_3 ?_
          refine g_icmp_ne (tgt := 174) K dX7_runOf_151 (by decide) (fun u151 => ?_) (fun u151 => ?_)
          · refine g_bipush K dX7_runOf_174 kb_m5 ?_
            refine g_nm (y := waF (rsQ (aZ A) (qOf (aZ A) i) y) (lvQ (aZ A) (qOf (aZ A) i) y) (wtQ (qOf (aZ A) i) y)) (by unfold waF; grind) ?_
            refine g_iret K dX7_runOf_176 ⟨_, rfl, ?_⟩
            exact mp_fr (by rw [hov]) hA h26.2
          · refine g_aload_n K dX7_runOf_154 rfl ?_
            refine g_geti K lk_X7_110 dX7_runOf_155 rfl (rfl : kd 181 = 7) (by decide) (by decide) (show S26 181 18 = lvQ (aZ A) (qOf (aZ A) i) y 4 from h26.1.2.2.1.2.2.2.1) ?_
            refine g_aload_n K dX7_runOf_158 rfl ?_
            refine g_iload_n K dX7_runOf_159 rfl ?_
            refine g_iload_n K dX7_runOf_160 rfl ?_
            refine g_callVi K (c_X7_axlesTold (k := i) (N := N) (z := aZ A) (bh := bhQ (qOf (aZ A) i)) (s := y) (Fr_mz h26.2 hz) hi6 hq (fun a ha => (h26.1.1 a (by omega)).2) hs9) mw_X7_axlesTold ml_X7_144 dX7_runOf_161 (by rfl) rfl rfl (by decide) (by simp [Value.category]) ⟨by decide, by decide⟩ ⟨by decide, by decide⟩ ?_
            refine g_nm (y := wtQ (qOf (aZ A) i) y) (by unfold wtQ; rw [hnq]) ?_
            refine g_icmp_ne (tgt := 174) K dX7_runOf_164 (by decide) (fun u164 => ?_) (fun u164 => ?_)
            · refine g_bipush K dX7_runOf_174 kb_m5 ?_
              refine g_nm (y := waF (rsQ (aZ A) (qOf (aZ A) i) y) (lvQ (aZ A) (qOf (aZ A) i) y) (wtQ (qOf (aZ A) i) y)) (by unfold waF; grind) ?_
              refine g_iret K dX7_runOf_176 ⟨_, rfl, ?_⟩
              exact mp_fr (by rw [hov]) hA h26.2
            · refine g_aload_n K dX7_runOf_167 rfl ?_
              refine g_geti K lk_X7_113 dX7_runOf_168 rfl (rfl : kd 181 = 7) (by decide) (by decide) (show S26 181 19 = lvQ (aZ A) (qOf (aZ A) i) y 5 from h26.1.2.2.1.2.2.2.2) ?_
              refine g_goto (tgt := 176) K dX7_runOf_171 (by decide) ?_
              refine g_nm (y := waF (rsQ (aZ A) (qOf (aZ A) i) y) (lvQ (aZ A) (qOf (aZ A) i) y) (wtQ (qOf (aZ A) i) y)) (by unfold waF; grind) ?_
              refine g_iret K dX7_runOf_176 ⟨_, rfl, ?_⟩
              exact mp_fr (by rw [hov]) hA h26.2
        · refine g_tin (off := 139) (tgt := 177) K dX7_runOf_38 (by rw [hsw2]; decide) (by rw [hsw2]; decide) (by rw [hsw2]; rfl) (by decide) ?_
          have hov : o_runOf A (nI i) y v = lvQ (aZ A) (qOf (aZ A) i) y 3 := by
            unfold o_runOf
            rw [if_pos hcx, if_pos hs9, hqA, hsw2]
            simp
          refine g_aload_n K dX7_runOf_177 rfl ?_
          refine g_geti K lk_X7_107 dX7_runOf_178 rfl (rfl : kd 181 = 7) (by decide) (by decide) (show S26 181 17 = lvQ (aZ A) (qOf (aZ A) i) y 3 from h26.1.2.2.1.2.2.1) ?_
          refine g_iret K dX7_runOf_181 ⟨_, rfl, ?_⟩
          exact mp_fr (by rw [hov]) hA h26.2
    · have hs9 : ¬ (1 ≤ y ∧ y ≤ 9) := by grind
      refine g_bipush K dX7_runOf_20 kb_m2 ?_
      refine g_iret K dX7_runOf_22 ⟨_, rfl, ?_⟩
      exact mp_err (by unfold o_runOf; rw [if_pos hcx, if_neg hs9]) hA
  · have hcx : ¬ (0 ≤ x ∧ x < aZ A 6) := by rw [hn]; grind
    refine g_iconst K dX7_runOf_8 kc_m1 ?_
    refine g_iret K dX7_runOf_9 ⟨_, rfl, ?_⟩
    exact mp_err (by unfold o_runOf; rw [if_neg hcx]) hA
