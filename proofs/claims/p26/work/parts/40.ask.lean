set_option maxHeartbeats 4000000 in
set_option maxRecDepth 100000 in
theorem c_X6_settingOf {l : Launch} {b : Nat} {D : va_G} {cA : Nat → ClassId} {ad : Nat → Nat} {S : ST} {A : AS} {n : Nat} {x : Int32} (hA : CRel S A n) : MT l b D cA NN ad zT yX6_settingOf cX6_settingOf 2 (some .int) 0 [.ref (ad 0), .int x] S (EI (if 0 ≤ x ∧ x < 6 then aZ A (cK x) else -2) S) := by
  refine MT.intro (j := 0) (ls := [some (.ref (ad 0)), some (.int x)]) pn_X6 rfl rfl rfl (fun pr en s0 mi below meth c' K _ => ?_)
  refine g_iload_n K dX6_settingOf_0 rfl ?_
  refine g_if_lt (tgt := 10) K dX6_settingOf_1 (by decide) (fun u1 => ?_) (fun u1 => ?_)
  · refine g_bipush K dX6_settingOf_10 kb_m2 ?_
    refine g_goto (tgt := 24) K dX6_settingOf_12 (by decide) ?_
    refine g_iret K dX6_settingOf_24 ⟨_, rfl, ?_⟩
    refine ⟨?_, rfl⟩
    first
      | rw [if_neg (by grind)]
      | rw [if_pos (by grind), hk]
  · refine g_iload_n K dX6_settingOf_4 rfl ?_
    refine g_bipush K dX6_settingOf_5 kb_6 ?_
    refine g_icmp_lt (tgt := 15) K dX6_settingOf_7 (by decide) (fun u7 => ?_) (fun u7 => ?_)
    · obtain ⟨j, hj, hxj⟩ : ∃ j, j < 6 ∧ x = nI j := by
        rcases pk_ix x (n := 6) (by decide) with q | q | q
        · exact absurd q u1
        · exact absurd u7 (by have : nI 6 = (6 : Int32) := rfl; grind)
        · exact q
      have hk : cK x = j := by rw [hxj]; exact cK_nI (by omega)
      refine g_aload_n K dX6_settingOf_15 rfl ?_
      refine g_getr (j := 1) K lk_X6_10 dX6_settingOf_16 rfl (by decide) (rfl : kd 0 = 6) (by decide) (by decide) rfl (rfl : rs 0 0 = 1) ?_
      refine g_getr (j := 3) K lk_X6_107 dX6_settingOf_19 rfl (by decide) (rfl : kd 1 = 5) (by decide) (by decide) rfl (rfl : rs 1 1 = 3) ?_
      refine g_iload_n K dX6_settingOf_22 rfl ?_
      refine g_iald (j := j) K dX6_settingOf_23 hxj ln_3 hj (rfl : kd 3 = 8) (by decide) (hA.1.2.1 j hj) ?_
      refine g_iret K dX6_settingOf_24 ⟨_, rfl, ?_⟩
      refine ⟨?_, rfl⟩
      first
        | rw [if_neg (by grind)]
        | rw [if_pos (by grind), hk]
    · refine g_bipush K dX6_settingOf_10 kb_m2 ?_
      refine g_goto (tgt := 24) K dX6_settingOf_12 (by decide) ?_
      refine g_iret K dX6_settingOf_24 ⟨_, rfl, ?_⟩
      refine ⟨?_, rfl⟩
      first
        | rw [if_neg (by grind)]
        | rw [if_pos (by grind), hk]
set_option maxHeartbeats 4000000 in
set_option maxRecDepth 100000 in
theorem c_X6_count {l : Launch} {b : Nat} {D : va_G} {cA : Nat → ClassId} {ad : Nat → Nat} {S : ST} {A : AS} {n : Nat} {x : Int32} (hA : CRel S A n) : MT l b D cA NN ad zT yX6_count cX6_count 2 (some .int) 1 [.ref (ad 0), .int x] S (RI (CPost (o_count A x, A) S)) := by
  obtain ⟨hb, hH⟩ := hA.2.1
  have n6 := hA.1.n6
  have hn := hA.1.n
  have hz6 : aZ A 6 = nI n := hA.1.1.2.1
  obtain ⟨hR, hRf⟩ := rem_rel hH hA
  refine MT.intro (j := 0) (ls := [some (.ref (ad 0)), some (.int x)]) pn_X6 rfl rfl rfl (fun pr en s0 mi below meth c' K _ => ?_)
  refine g_iload_n K dX6_count_0 rfl ?_
  by_cases hsw : (x : Int32).toInt < 0 ∨ 5 < (x : Int32).toInt
  · refine g_tout (tgt := 88) K dX6_count_1 hsw (by decide) ?_
    have hov : o_count A x = if 0 ≤ x - 6 ∧ x - 6 < 6 then aZ A (cK (x - 6)) else -2 := by
      unfold o_count
      rw [if_neg (swo hsw (by decide) (by decide)), if_neg (swo hsw (by decide) (by decide)), if_neg (swo hsw (by decide) (by decide)), if_neg (swo hsw (by decide) (by decide)), if_neg (swo hsw (by decide) (by decide)), if_neg (swo hsw (by decide) (by decide))]
      by_cases h6 : 6 ≤ x ∧ x ≤ 11
      · rw [if_pos h6, if_pos (by grind)]
      · rw [if_neg h6, if_neg (by grind)]
    refine g_aload_n K dX6_count_88 rfl ?_
    refine g_iload_n K dX6_count_89 rfl ?_
    refine g_bipush K dX6_count_90 kb_6 ?_
    refine g_isub K dX6_count_92 ?_
    refine g_callVi K (c_X6_settingOf hA) mw_X6_settingOf ml_X6_227 dX6_count_93 (by rfl) rfl rfl (by decide) (by simp [Value.category]) ⟨by decide, by decide⟩ ⟨by decide, by decide⟩ ?_
    refine g_iret K dX6_count_96 ⟨_, rfl, ?_⟩
    exact cp_err (by rw [hov]) hA
  · have hsw2 : x = 0 ∨ x = 1 ∨ x = 2 ∨ x = 3 ∨ x = 4 ∨ x = 5 := by
      obtain ⟨jsw, hjs, ejs⟩ := tsw (n := 5) (by decide) hsw
      rcases (show jsw = 0 ∨ jsw = 1 ∨ jsw = 2 ∨ jsw = 3 ∨ jsw = 4 ∨ jsw = 5 by omega) with rfl | rfl | rfl | rfl | rfl | rfl <;> (rw [ejs]; decide)
    rcases hsw2 with hsw2 | hsw2 | hsw2 | hsw2 | hsw2 | hsw2
    · refine g_tin (off := 39) (tgt := 40) K dX6_count_1 (by rw [hsw2]; decide) (by rw [hsw2]; decide) (by rw [hsw2]; rfl) (by decide) ?_
      have hov : o_count A x = aZ A 6 := by
        unfold o_count
        rw [hsw2]
        rfl
      refine g_aload_n K dX6_count_40 rfl ?_
      refine g_getr (j := 1) K lk_X6_10 dX6_count_41 rfl (by decide) (rfl : kd 0 = 6) (by decide) (by decide) rfl (rfl : rs 0 0 = 1) ?_
      refine g_geti K lk_X6_52 dX6_count_44 rfl (rfl : kd 1 = 5) (by decide) (by decide) (hA.1.2.2.1 0 (by decide)) ?_
      refine g_iret K dX6_count_47 ⟨_, rfl, ?_⟩
      exact cp_err (by rw [hov]) hA
    · refine g_tin (off := 47) (tgt := 48) K dX6_count_1 (by rw [hsw2]; decide) (by rw [hsw2]; decide) (by rw [hsw2]; rfl) (by decide) ?_
      have hov : o_count A x = aZ A 7 := by
        unfold o_count
        rw [hsw2]
        rfl
      refine g_aload_n K dX6_count_48 rfl ?_
      refine g_getr (j := 1) K lk_X6_10 dX6_count_49 rfl (by decide) (rfl : kd 0 = 6) (by decide) (by decide) rfl (rfl : rs 0 0 = 1) ?_
      refine g_geti K lk_X6_132 dX6_count_52 rfl (rfl : kd 1 = 5) (by decide) (by decide) (hA.1.2.2.1 1 (by decide)) ?_
      refine g_iret K dX6_count_55 ⟨_, rfl, ?_⟩
      exact cp_err (by rw [hov]) hA
    · refine g_tin (off := 55) (tgt := 56) K dX6_count_1 (by rw [hsw2]; decide) (by rw [hsw2]; decide) (by rw [hsw2]; rfl) (by decide) ?_
      have hov : o_count A x = aZ A 8 := by
        unfold o_count
        rw [hsw2]
        rfl
      refine g_aload_n K dX6_count_56 rfl ?_
      refine g_getr (j := 1) K lk_X6_10 dX6_count_57 rfl (by decide) (rfl : kd 0 = 6) (by decide) (by decide) rfl (rfl : rs 0 0 = 1) ?_
      refine g_geti K lk_X6_135 dX6_count_60 rfl (rfl : kd 1 = 5) (by decide) (by decide) (hA.1.2.2.1 2 (by decide)) ?_
      refine g_iret K dX6_count_63 ⟨_, rfl, ?_⟩
      exact cp_err (by rw [hov]) hA
    · refine g_tin (off := 63) (tgt := 64) K dX6_count_1 (by rw [hsw2]; decide) (by rw [hsw2]; decide) (by rw [hsw2]; rfl) (by decide) ?_
      have hov : o_count A x = sumF (fun k => if qOf (aZ A) k 1 = -5 then 0 else 1) (cK (aZ A 6)) := by
        unfold o_count
        rw [hsw2]
        rfl
      refine g_aload_n K dX6_count_64 rfl ?_
      refine g_getr (j := 1) K lk_X6_10 dX6_count_65 rfl (by decide) (rfl : kd 0 = 6) (by decide) (by decide) rfl (rfl : rs 0 0 = 1) ?_
      refine g_callVi K (c_X5_taredCount st_1 hn n6) mw_X5_taredCount ml_X6_224 dX6_count_68 (by rfl) rfl rfl (by decide) (by simp [Value.category]) ⟨by decide, by decide⟩ ⟨by decide, by decide⟩ ?_
      refine g_iret K dX6_count_71 ⟨_, rfl, ?_⟩
      refine cp_err ?_ hA
      rw [hov, hz6, cK_nI (by omega), sumF_congr n (fun k hk => ?_)]
      obtain ⟨N, hq, hr⟩ := hA.1.cart hk
      rw [hr.2.1 0 (by decide)]
    · refine g_tin (off := 71) (tgt := 72) K dX6_count_1 (by rw [hsw2]; decide) (by rw [hsw2]; decide) (by rw [hsw2]; rfl) (by decide) ?_
      have hov : o_count A x = nI (aM A) := by
        unfold o_count
        rw [hsw2]
        rfl
      refine g_aload_n K dX6_count_72 rfl ?_
      refine g_getr (j := 55) K lk_X6_22 dX6_count_73 rfl (by decide) (rfl : kd 0 = 6) (by decide) (by decide) rfl (rfl : rs 0 2 = 55) ?_
      refine g_geti K lk_X6_154 dX6_count_76 rfl (rfl : kd 55 = 2) (by decide) (by decide) hH.2.2.1 ?_
      refine g_iret K dX6_count_79 ⟨_, rfl, ?_⟩
      exact cp_err (by rw [hov]) hA
    · refine g_tin (off := 79) (tgt := 80) K dX6_count_1 (by rw [hsw2]; decide) (by rw [hsw2]; decide) (by rw [hsw2]; rfl) (by decide) ?_
      have hov : o_count A x = nI (aL A) := by
        unfold o_count
        rw [hsw2]
        rfl
      refine g_aload_n K dX6_count_80 rfl ?_
      refine g_getr (j := 165) K lk_X6_29 dX6_count_81 rfl (by decide) (rfl : kd 0 = 6) (by decide) (by decide) rfl (rfl : rs 0 3 = 165) ?_
      refine g_geti K lk_X6_151 dX6_count_84 rfl (rfl : kd 165 = 1) (by decide) (by decide) hA.2.2.2.2.1 ?_
      refine g_iret K dX6_count_87 ⟨_, rfl, ?_⟩
      exact cp_err (by rw [hov]) hA
set_option maxHeartbeats 4000000 in
set_option maxRecDepth 100000 in
theorem c_X6_axleOf {l : Launch} {b : Nat} {D : va_G} {cA : Nat → ClassId} {ad : Nat → Nat} {S : ST} {A : AS} {n : Nat} {x y v : Int32} (hA : CRel S A n) : MT l b D cA NN ad zT yX6_axleOf cX6_axleOf 5 (some .int) 2 [.ref (ad 0), .int x, .int y, .int v] S (RI (CPost (o_axleOf A x y v, A) S)) := by
  obtain ⟨hb, hH⟩ := hA.2.1
  have n6 := hA.1.n6
  have hn := hA.1.n
  have hz6 : aZ A 6 = nI n := hA.1.1.2.1
  obtain ⟨hR, hRf⟩ := rem_rel hH hA
  refine MT.intro (j := 1) (ls := [some (.ref (ad 0)), some (.int x), some (.int y), some (.int v), none]) pn_X6 rfl rfl rfl (fun pr en s0 mi below meth c' K _ => ?_)
  refine g_aload_n K dX6_axleOf_0 rfl ?_
  refine g_getr (j := 1) K lk_X6_10 dX6_axleOf_1 rfl (by decide) (rfl : kd 0 = 6) (by decide) (by decide) rfl (rfl : rs 0 0 = 1) ?_
  refine g_iload_n K dX6_axleOf_4 rfl ?_
  refine g_callV K (c_X5_findCart st_1 hn n6) mw_X5_findCart ml_X6_64 dX6_axleOf_5 rfl (by decide) ⟨_, rfl, rfl⟩ (by decide) (by rfl) (by simp [Value.category]) ⟨by decide, by decide⟩ ⟨by decide, by decide⟩ (fun v5 S5 h5 => ?_)
  obtain ⟨hSe, hf⟩ := h5
  rw [hSe]
  clear hSe
  rcases hf with ⟨i, hi, hx, rfl⟩ | ⟨hx, rfl⟩
  · obtain ⟨N, hq, hr⟩ := hA.1.cart hi
    have hN5 := hq.2.2.1
    have hN1 := hq.2.1
    have hk : cK x = i := by rw [hx]; exact cK_nI (by omega)
    have hqA : qA A x = qOf (aZ A) i := by unfold qA; rw [hk]
    have hcx : 0 ≤ x ∧ x < aZ A 6 := by rw [hx, hz6]; exact ⟨nI_pos' (by omega), nI_lt hi (by omega)⟩
    have hnq : nQ (qOf (aZ A) i) = N := nQ_eq hq
    have hq0 : qOf (aZ A) i 0 = nI N := hq.1
    refine g_astore (ls2 := [_, _, _, _, some (.ref _)]) K dX6_axleOf_8 (by decide) rfl ?_
    refine g_aload K dX6_axleOf_10 rfl ?_
    refine g_ifnull K dX6_axleOf_12 ?_
    refine g_aload K dX6_axleOf_15 rfl ?_
    refine g_iload_n K dX6_axleOf_17 rfl ?_
    refine g_callVi K (c_X0_hasAxle (N := N) (st_1.cart (i := i) (by omega)) hr.1) mw_X0_hasAxle ml_X6_80 dX6_axleOf_18 (by rfl) rfl (by rw [(st_1.cart (i := i) (by omega)).k0]; rfl) (st_1.cart (i := i) (by omega)).n0 (by simp [Value.category]) ⟨by decide, by decide⟩ ⟨by decide, by decide⟩ ?_
    refine g_if_ne (tgt := 26) K dX6_axleOf_21 (by decide) (fun u21 => ?_) (fun u21 => ?_)
    · have hax : 0 ≤ y ∧ y < nI N := by grind
      obtain ⟨j, hj, hyj, hkj⟩ := ax_in hax hN5
      have hax2 : (0 ≤ x ∧ x < aZ A 6) ∧ 0 ≤ y ∧ y < qA A x 0 := ⟨hcx, by rw [hqA, hq0]; exact hax⟩
      refine g_iload_n K dX6_axleOf_26 rfl ?_
      by_cases hsw : (v : Int32).toInt < 0 ∨ 3 < (v : Int32).toInt
      · refine g_tout (tgt := 95) K dX6_axleOf_27 hsw (by decide) ?_
        have hov : o_axleOf A x y v = -2 := by
          unfold o_axleOf
          rw [if_pos hax2, if_neg (swo hsw (by decide) (by decide)), if_neg (swo hsw (by decide) (by decide)), if_neg (swo hsw (by decide) (by decide)), if_neg (swo hsw (by decide) (by decide))]
        refine g_bipush K dX6_axleOf_95 kb_m2 ?_
        refine g_iret K dX6_axleOf_97 ⟨_, rfl, ?_⟩
        exact cp_err (by rw [hov]) hA
      · have hsw2 : v = 0 ∨ v = 1 ∨ v = 2 ∨ v = 3 := by
          obtain ⟨jsw, hjs, ejs⟩ := tsw (n := 3) (by decide) hsw
          rcases (show jsw = 0 ∨ jsw = 1 ∨ jsw = 2 ∨ jsw = 3 by omega) with rfl | rfl | rfl | rfl <;> (rw [ejs]; decide)
        rcases hsw2 with hsw2 | hsw2 | hsw2 | hsw2
        · refine g_tin (off := 29) (tgt := 56) K dX6_axleOf_27 (by rw [hsw2]; decide) (by rw [hsw2]; decide) (by rw [hsw2]; rfl) (by decide) ?_
          have hov : o_axleOf A x y v = wQ (qOf (aZ A) i) j := by
            unfold o_axleOf
            rw [if_pos hax2, hqA, hkj, hsw2]
            simp
          refine g_aload K dX6_axleOf_56 rfl ?_
          refine g_getr (j := ((1 + 3 + 4 * i) + 1)) K lk_X6_83 dX6_axleOf_58 rfl (by decide) (st_1.cart (i := i) (by omega)).k0 (st_1.cart (i := i) (by omega)).n0 (by decide) rfl (st_1.cart (i := i) (by omega)).r0 ?_
          refine g_iload_n K dX6_axleOf_61 rfl ?_
          refine g_iald (j := j) K dX6_axleOf_62 hyj (st_1.cart (i := i) (by omega)).l1 (by omega) (st_1.cart (i := i) (by omega)).k1 (st_1.cart (i := i) (by omega)).n1 ((hr.2.2 j hj).1) ?_
          refine g_iret K dX6_axleOf_63 ⟨_, rfl, ?_⟩
          exact cp_err (by rw [hov]) hA
        · refine g_tin (off := 37) (tgt := 64) K dX6_axleOf_27 (by rw [hsw2]; decide) (by rw [hsw2]; decide) (by rw [hsw2]; rfl) (by decide) ?_
          have hov : o_axleOf A x y v = dQ (qOf (aZ A) i) j := by
            unfold o_axleOf
            rw [if_pos hax2, hqA, hkj, hsw2]
            simp
          refine g_aload K dX6_axleOf_64 rfl ?_
          refine g_getr (j := ((1 + 3 + 4 * i) + 2)) K lk_X6_172 dX6_axleOf_66 rfl (by decide) (st_1.cart (i := i) (by omega)).k0 (st_1.cart (i := i) (by omega)).n0 (by decide) rfl (st_1.cart (i := i) (by omega)).r1 ?_
          refine g_iload_n K dX6_axleOf_69 rfl ?_
          refine g_iald (j := j) K dX6_axleOf_70 hyj (st_1.cart (i := i) (by omega)).l2 (by omega) (st_1.cart (i := i) (by omega)).k2 (st_1.cart (i := i) (by omega)).n2 ((hr.2.2 j hj).2.1) ?_
          refine g_iret K dX6_axleOf_71 ⟨_, rfl, ?_⟩
          exact cp_err (by rw [hov]) hA
        · refine g_tin (off := 45) (tgt := 72) K dX6_axleOf_27 (by rw [hsw2]; decide) (by rw [hsw2]; decide) (by rw [hsw2]; rfl) (by decide) ?_
          have hov : o_axleOf A x y v = lQ (qOf (aZ A) i) j := by
            unfold o_axleOf
            rw [if_pos hax2, hqA, hkj, hsw2]
            simp
          refine g_aload K dX6_axleOf_72 rfl ?_
          refine g_getr (j := ((1 + 3 + 4 * i) + 3)) K lk_X6_86 dX6_axleOf_74 rfl (by decide) (st_1.cart (i := i) (by omega)).k0 (st_1.cart (i := i) (by omega)).n0 (by decide) rfl (st_1.cart (i := i) (by omega)).r2 ?_
          refine g_iload_n K dX6_axleOf_77 rfl ?_
          refine g_zald (j := j) K dX6_axleOf_78 hyj (st_1.cart (i := i) (by omega)).l3 (by omega) (st_1.cart (i := i) (by omega)).k3 (st_1.cart (i := i) (by omega)).n3 ((hr.2.2 j hj).2.2) ?_
          refine g_if_eq (tgt := 86) K dX6_axleOf_79 (by decide) (fun u79 => ?_) (fun u79 => ?_)
          · refine g_iconst K dX6_axleOf_86 kc_0 ?_
            refine g_iret K dX6_axleOf_87 ⟨_, rfl, ?_⟩
            have h01 := (hq.2.2.2.1 j hj).2.2.2.2
            refine cp_err ?_ hA
            rw [hov]
            grind
          · refine g_iconst K dX6_axleOf_82 kc_1 ?_
            refine g_goto (tgt := 87) K dX6_axleOf_83 (by decide) ?_
            refine g_iret K dX6_axleOf_87 ⟨_, rfl, ?_⟩
            have h01 := (hq.2.2.2.1 j hj).2.2.2.2
            refine cp_err ?_ hA
            rw [hov]
            grind
        · refine g_tin (off := 61) (tgt := 88) K dX6_axleOf_27 (by rw [hsw2]; decide) (by rw [hsw2]; decide) (by rw [hsw2]; rfl) (by decide) ?_
          have hov : o_axleOf A x y v = borneF (wQ (qOf (aZ A) i)) (lQ (qOf (aZ A) i)) (nQ (qOf (aZ A) i)) y := by
            unfold o_axleOf
            rw [if_pos hax2, hqA, hkj, hsw2]
            simp
          refine g_aload K dX6_axleOf_88 rfl ?_
          refine g_iload_n K dX6_axleOf_90 rfl ?_
          refine g_callVi K (c_X0_borneBy (st_1.cart (i := i) (by omega)) hr.1 hN5) mw_X0_borneBy ml_X6_175 dX6_axleOf_91 (by rfl) rfl (by rw [(st_1.cart (i := i) (by omega)).k0]; rfl) (st_1.cart (i := i) (by omega)).n0 (by simp [Value.category]) ⟨by decide, by decide⟩ ⟨by decide, by decide⟩ ?_
          refine g_iret K dX6_axleOf_94 ⟨_, rfl, ?_⟩
          refine cp_err ?_ hA
          rw [hov, hnq, borneF_congr (fun b hb => (hr.2.2 b hb).1) (fun b hb => (hr.2.2 b hb).2.2)]
    · refine g_iconst K dX6_axleOf_24 kc_m1 ?_
      refine g_iret K dX6_axleOf_25 ⟨_, rfl, ?_⟩
      refine cp_err (r := -1) (A := A) ?_ hA
      refine congrArg (fun r => (r, A)) (show o_axleOf A x y v = -1 from ?_)
      unfold o_axleOf
      rw [if_neg]
      first
        | exact fun q => hcx q.1
        | (intro q
           rw [hqA, hq0] at q
           grind)
  · have hcx : ¬ (0 ≤ x ∧ x < aZ A 6) := by rw [hz6]; exact hx
    refine g_astoreN (ls2 := [_, _, _, _, some .null]) K dX6_axleOf_8 (by decide) rfl ?_
    refine g_aloadN K dX6_axleOf_10 rfl ?_
    refine g_ifnullN (tgt := 24) K dX6_axleOf_12 (by decide) ?_
    refine g_iconst K dX6_axleOf_24 kc_m1 ?_
    refine g_iret K dX6_axleOf_25 ⟨_, rfl, ?_⟩
    refine cp_err (r := -1) (A := A) ?_ hA
    refine congrArg (fun r => (r, A)) (show o_axleOf A x y v = -1 from ?_)
    unfold o_axleOf
    rw [if_neg]
    first
      | exact fun q => hcx q.1
      | (intro q
         rw [hqA, hq0] at q
         grind)
