theorem ax_in {a : Int32} {N : Nat} (h : 0 ≤ a ∧ a < nI N) (h5 : N ≤ 5) : ∃ j, j < N ∧ a = nI j ∧ cK a = j := by
  rcases pk_ix a (n := N) (by omega) with q | q | ⟨j, hj, e⟩
  · exact absurd h.1 (by grind)
  · exact absurd h.2 (by grind)
  · exact ⟨j, hj, e, by rw [e]; exact cK_nI (by omega)⟩
theorem z01 (u : Int32) : (if u ≠ 0 then (1 : Int32) else 0) = 0 ∨ (if u ≠ 0 then (1 : Int32) else 0) = 1 := by
  split
  · exact Or.inr rfl
  · exact Or.inl rfl
theorem addC_n {S : ST} {n k : Nat} {w : Int32} (h : 28 ≤ k) (hn : n < 6) : addC S 1 n w k = S k := by
  unfold addC
  rw [stw_n (by omega), begC_n (by omega)]
set_option maxHeartbeats 4000000 in
set_option maxRecDepth 100000 in
theorem c_X6_load {l : Launch} {b : Nat} {D : va_G} {cA : Nat → ClassId} {ad : Nat → Nat} {S : ST} {A : AS} {n : Nat} {x y w : Int32} (hA : CRel S A n) : MT l b D cA NN ad zT yX6_load cX6_load 6 (some .int) 4 [.ref (ad 0), .int x, .int y, .int w] S (RI (CPost (o_load A x y w) S)) := by
  obtain ⟨hb, hH⟩ := hA.2.1
  have n6 := hA.1.n6
  have hn := hA.1.n
  have hz6 : aZ A 6 = nI n := hA.1.1.2.1
  obtain ⟨hR, hRf⟩ := rem_rel hH hA
  refine MT.intro (j := 2) (ls := [some (.ref (ad 0)), some (.int x), some (.int y), some (.int w), none, none]) pn_X6 rfl rfl rfl (fun pr en s0 mi below meth c' K _ => ?_)
  refine g_aload_n K dX6_load_0 rfl ?_
  refine g_getr (j := 1) K lk_X6_10 dX6_load_1 rfl (by decide) (rfl : kd 0 = 6) (by decide) (by decide) rfl (rfl : rs 0 0 = 1) ?_
  refine g_iload_n K dX6_load_4 rfl ?_
  refine g_callV K (c_X5_findCart st_1 hn n6) mw_X5_findCart ml_X6_64 dX6_load_5 rfl (by decide) ⟨_, rfl, rfl⟩ (by decide) (by rfl) (by simp [Value.category]) ⟨by decide, by decide⟩ ⟨by decide, by decide⟩ (fun v5 S5 h5 => ?_)
  obtain ⟨hSe, hf⟩ := h5
  rw [hSe]
  clear hSe
  rcases hf with ⟨i, hi, hx, rfl⟩ | ⟨hx, rfl⟩
  · obtain ⟨N, hq, hr⟩ := hA.1.cart hi
    have hN5 := hq.2.2.1
    have hN1 := hq.2.1
    have hk : cK x = i := by rw [hx]; exact cK_nI (by omega)
    have hqA : qA A x = qOf (aZ A) i := by unfold qA; rw [hk]
    have hcx : 0 ≤ x ∧ x < aZ A 6 := by rw [hx, hz6]; exact ⟨nI_pos' (by omega), nI_lt hi (by omega)⟩
    have hnq : nQ (qOf (aZ A) i) = N := nQ_eq hq
    have hq0 : qOf (aZ A) i 0 = nI N := hq.1
    refine g_astore (ls2 := [_, _, _, _, some (.ref _), _]) K dX6_load_8 (by decide) rfl ?_
    refine g_aload K dX6_load_10 rfl ?_
    refine g_ifnull K dX6_load_12 ?_
    refine g_aload K dX6_load_15 rfl ?_
    refine g_iload_n K dX6_load_17 rfl ?_
    refine g_callVi K (c_X0_hasAxle (N := N) (st_1.cart (i := i) (by omega)) hr.1) mw_X0_hasAxle ml_X6_80 dX6_load_18 (by rfl) rfl (by rw [(st_1.cart (i := i) (by omega)).k0]; rfl) (st_1.cart (i := i) (by omega)).n0 (by simp [Value.category]) ⟨by decide, by decide⟩ ⟨by decide, by decide⟩ ?_
    refine g_if_ne (tgt := 26) K dX6_load_21 (by decide) (fun u21 => ?_) (fun u21 => ?_)
    · have hax : 0 ≤ y ∧ y < nI N := by grind
      obtain ⟨j, hj, hyj, hkj⟩ := ax_in hax hN5
      have hax2 : (0 ≤ x ∧ x < aZ A 6) ∧ 0 ≤ y ∧ y < qA A x 0 := ⟨hcx, by rw [hqA, hq0]; exact hax⟩
      refine g_iload_n K dX6_load_26 rfl ?_
      refine g_callSi K c_X6_isWeight mw_X6_isWeight ml_X6_48 dX6_load_27 (by rfl) rfl (by simp [Value.category]) ⟨by decide, by decide⟩ ⟨by decide, by decide⟩ ?_
      refine g_if_ne (tgt := 36) K dX6_load_30 (by decide) (fun u30 => ?_) (fun u30 => ?_)
      · refine g_aload K dX6_load_36 rfl ?_
        refine g_getr (j := ((1 + 3 + 4 * i) + 1)) K lk_X6_83 dX6_load_38 rfl (by decide) (st_1.cart (i := i) (by omega)).k0 (st_1.cart (i := i) (by omega)).n0 (by decide) rfl (st_1.cart (i := i) (by omega)).r0 ?_
        refine g_iload_n K dX6_load_41 rfl ?_
        refine g_iald (j := j) K dX6_load_42 hyj (st_1.cart (i := i) (by omega)).l1 (by omega) (st_1.cart (i := i) (by omega)).k1 (st_1.cart (i := i) (by omega)).n1 ((hr.2.2 j hj).1) ?_
        refine g_istore (ls2 := [_, _, _, _, _, some (.int _)]) K dX6_load_43 (by decide) rfl ?_
        refine g_iload K dX6_load_45 rfl ?_
        refine g_iload_n K dX6_load_47 rfl ?_
        refine g_icmp_ne (tgt := 54) K dX6_load_48 (by decide) (fun u48 => ?_) (fun u48 => ?_)
        · refine g_aload_n K dX6_load_54 rfl ?_
          refine g_getr (j := 55) K lk_X6_22 dX6_load_55 rfl (by decide) (rfl : kd 0 = 6) (by decide) (by decide) rfl (rfl : rs 0 2 = 55) ?_
          refine g_aload_n K dX6_load_58 rfl ?_
          refine g_getr (j := 1) K lk_X6_10 dX6_load_59 rfl (by decide) (rfl : kd 0 = 6) (by decide) (by decide) rfl (rfl : rs 0 0 = 1) ?_
          refine g_callVv K (c_X2_remember hH.1 hH.2.2.1 hH.2.2.2.1 (hA.2.2.2.1.fits (Or.inl rfl))) mw_X2_remember ml_X6_56 dX6_load_62 (by rfl) rfl rfl (by decide) (by simp [Value.category]) ⟨by decide, by decide⟩ ⟨by decide, by decide⟩ ?_
          refine g_aload K dX6_load_65 rfl ?_
          refine g_getr (j := ((1 + 3 + 4 * i) + 1)) K lk_X6_83 dX6_load_67 rfl (by decide) (st_1.cart (i := i) (by omega)).k0 (st_1.cart (i := i) (by omega)).n0 (by decide) rfl (st_1.cart (i := i) (by omega)).r0 ?_
          refine g_iload_n K dX6_load_70 rfl ?_
          refine g_iload_n K dX6_load_71 rfl ?_
          refine g_iast (j := j) K dX6_load_72 hyj (st_1.cart (i := i) (by omega)).l1 (by omega) (st_1.cart (i := i) (by omega)).k1 (st_1.cart (i := i) (by omega)).n1 rfl ?_
          refine g_iload K dX6_load_73 rfl ?_
          refine g_iret K dX6_load_75 ⟨_, rfl, ?_⟩
          have hw : 1 ≤ w ∧ w ≤ 200 := by grind
          refine cp_ok ?_ (load_rel hR hi hq hj hw) (fun k hk => ?_)
          · unfold o_load
            rw [if_pos hax2, if_pos hw, hqA, hkj, if_neg u48, hk]
            rfl
          · rw [stw_n (by omega), hRf k (by omega)]
        · refine g_bipush K dX6_load_51 kb_m5 ?_
          refine g_iret K dX6_load_53 ⟨_, rfl, ?_⟩
          have hw : 1 ≤ w ∧ w ≤ 200 := by grind
          refine cp_err ?_ hA
          unfold o_load
          rw [if_pos hax2, if_pos hw, hqA, hkj, if_pos u48]
      · refine g_bipush K dX6_load_33 kb_m2 ?_
        refine g_iret K dX6_load_35 ⟨_, rfl, ?_⟩
        refine cp_err ?_ hA
        unfold o_load
        rw [if_pos hax2, if_neg (by grind)]
    · refine g_iconst K dX6_load_24 kc_m1 ?_
      refine g_iret K dX6_load_25 ⟨_, rfl, ?_⟩
      refine cp_err ?_ hA
      unfold o_load
      rw [if_neg]
      first
        | exact fun q => hcx q.1
        | (intro q
           rw [hqA, hq0] at q
           grind)
  · have hcx : ¬ (0 ≤ x ∧ x < aZ A 6) := by rw [hz6]; exact hx
    refine g_astoreN (ls2 := [_, _, _, _, some .null, _]) K dX6_load_8 (by decide) rfl ?_
    refine g_aloadN K dX6_load_10 rfl ?_
    refine g_ifnullN (tgt := 24) K dX6_load_12 (by decide) ?_
    refine g_iconst K dX6_load_24 kc_m1 ?_
    refine g_iret K dX6_load_25 ⟨_, rfl, ?_⟩
    refine cp_err ?_ hA
    unfold o_load
    rw [if_neg]
    first
      | exact fun q => hcx q.1
      | (intro q
         rw [hqA, hq0] at q
         grind)
set_option maxHeartbeats 4000000 in
set_option maxRecDepth 100000 in
theorem c_X6_tare {l : Launch} {b : Nat} {D : va_G} {cA : Nat → ClassId} {ad : Nat → Nat} {S : ST} {A : AS} {n : Nat} {x : Int32} (hA : CRel S A n) : MT l b D cA NN ad zT yX6_tare cX6_tare 3 (some .int) 4 [.ref (ad 0), .int x] S (RI (CPost (o_tare A x) S)) := by
  obtain ⟨hb, hH⟩ := hA.2.1
  have n6 := hA.1.n6
  have hn := hA.1.n
  have hz6 : aZ A 6 = nI n := hA.1.1.2.1
  obtain ⟨hR, hRf⟩ := rem_rel hH hA
  refine MT.intro (j := 1) (ls := [some (.ref (ad 0)), some (.int x), none]) pn_X6 rfl rfl rfl (fun pr en s0 mi below meth c' K _ => ?_)
  refine g_aload_n K dX6_tare_0 rfl ?_
  refine g_getr (j := 1) K lk_X6_10 dX6_tare_1 rfl (by decide) (rfl : kd 0 = 6) (by decide) (by decide) rfl (rfl : rs 0 0 = 1) ?_
  refine g_iload_n K dX6_tare_4 rfl ?_
  refine g_callV K (c_X5_findCart st_1 hn n6) mw_X5_findCart ml_X6_64 dX6_tare_5 rfl (by decide) ⟨_, rfl, rfl⟩ (by decide) (by rfl) (by simp [Value.category]) ⟨by decide, by decide⟩ ⟨by decide, by decide⟩ (fun v5 S5 h5 => ?_)
  obtain ⟨hSe, hf⟩ := h5
  rw [hSe]
  clear hSe
  rcases hf with ⟨i, hi, hx, rfl⟩ | ⟨hx, rfl⟩
  · obtain ⟨N, hq, hr⟩ := hA.1.cart hi
    have hN5 := hq.2.2.1
    have hN1 := hq.2.1
    have hk : cK x = i := by rw [hx]; exact cK_nI (by omega)
    have hqA : qA A x = qOf (aZ A) i := by unfold qA; rw [hk]
    have hcx : 0 ≤ x ∧ x < aZ A 6 := by rw [hx, hz6]; exact ⟨nI_pos' (by omega), nI_lt hi (by omega)⟩
    have hnq : nQ (qOf (aZ A) i) = N := nQ_eq hq
    have hq0 : qOf (aZ A) i 0 = nI N := hq.1
    refine g_astore_n (ls2 := [_, _, some (.ref _)]) K dX6_tare_8 (by decide) rfl ?_
    refine g_aload_n K dX6_tare_9 rfl ?_
    refine g_ifnonnull (tgt := 15) K dX6_tare_10 (by decide) ?_
    refine g_aload_n K dX6_tare_15 rfl ?_
    refine g_geti K lk_X6_123 dX6_tare_16 rfl (st_1.cart (i := i) (by omega)).k0 (st_1.cart (i := i) (by omega)).n0 (by decide) (hr.2.1 1 (by decide)) ?_
    refine g_bipush K dX6_tare_19 kb_m5 ?_
    refine g_icmp_ne (tgt := 27) K dX6_tare_21 (by decide) (fun u21 => ?_) (fun u21 => ?_)
    · refine g_aload_n K dX6_tare_27 rfl ?_
      refine g_geti K lk_X6_138 dX6_tare_28 rfl (st_1.cart (i := i) (by omega)).k0 (st_1.cart (i := i) (by omega)).n0 (by decide) (hr.2.1 0 (by decide)) ?_
      refine g_aload_n K dX6_tare_31 rfl ?_
      refine g_geti K lk_X6_123 dX6_tare_32 rfl (st_1.cart (i := i) (by omega)).k0 (st_1.cart (i := i) (by omega)).n0 (by decide) (hr.2.1 1 (by decide)) ?_
      refine g_icmp_ne (tgt := 41) K dX6_tare_35 (by decide) (fun u35 => ?_) (fun u35 => ?_)
      · refine g_aload_n K dX6_tare_41 rfl ?_
        refine g_getr (j := 55) K lk_X6_22 dX6_tare_42 rfl (by decide) (rfl : kd 0 = 6) (by decide) (by decide) rfl (rfl : rs 0 2 = 55) ?_
        refine g_aload_n K dX6_tare_45 rfl ?_
        refine g_getr (j := 1) K lk_X6_10 dX6_tare_46 rfl (by decide) (rfl : kd 0 = 6) (by decide) (by decide) rfl (rfl : rs 0 0 = 1) ?_
        refine g_callVv K (c_X2_remember hH.1 hH.2.2.1 hH.2.2.2.1 (hA.2.2.2.1.fits (Or.inl rfl))) mw_X2_remember ml_X6_56 dX6_tare_49 (by rfl) rfl rfl (by decide) (by simp [Value.category]) ⟨by decide, by decide⟩ ⟨by decide, by decide⟩ ?_
        have hr2 := hR.1.2.2.2 i hi N hq
        refine g_aload_n K dX6_tare_52 rfl ?_
        refine g_aload_n K dX6_tare_53 rfl ?_
        refine g_geti K lk_X6_123 dX6_tare_54 rfl (st_1.cart (i := i) (by omega)).k0 (st_1.cart (i := i) (by omega)).n0 (by decide) (hr2.2.1 1 (by decide)) ?_
        refine g_puti K lk_X6_138 lq_X0_4 dX6_tare_57 (put_i _) rfl (st_1.cart (i := i) (by omega)).k0 (st_1.cart (i := i) (by omega)).n0 (by decide) ?_
        refine g_aload_n K dX6_tare_60 rfl ?_
        refine g_geti K lk_X6_138 dX6_tare_61 rfl (st_1.cart (i := i) (by omega)).k0 (st_1.cart (i := i) (by omega)).n0 (by decide) (show stw (remS S hb (aM A)) (1 + 3 + 4 * i) 4 (qOf (aZ A) i (1 + 1)) (1 + 3 + 4 * i) 4 = qOf (aZ A) i 2 by rw [stw_app, if_pos ⟨rfl, rfl⟩]) ?_
        refine g_iret K dX6_tare_64 ⟨_, rfl, ?_⟩
        refine cp_ok ?_ (num_rel (i0 := 0) (v := qOf (aZ A) i 2) hR hi (by decide)) (fun k hk => ?_)
        · unfold o_tare
          rw [if_pos hcx, hqA, if_neg u21, if_neg (by grind), hk]
          rfl
        · rw [stw_n (by omega), hRf k (by omega)]
      · refine g_bipush K dX6_tare_38 kb_m5 ?_
        refine g_iret K dX6_tare_40 ⟨_, rfl, ?_⟩
        refine cp_err ?_ hA
        unfold o_tare
        rw [if_pos hcx, hqA, if_neg u21, if_pos (by grind)]
    · refine g_bipush K dX6_tare_24 kb_m4 ?_
      refine g_iret K dX6_tare_26 ⟨_, rfl, ?_⟩
      exact cp_err (by unfold o_tare; rw [if_pos hcx, hqA, if_pos u21]) hA
  · have hcx : ¬ (0 ≤ x ∧ x < aZ A 6) := by rw [hz6]; exact hx
    refine g_astore_nN (ls2 := [_, _, some .null]) K dX6_tare_8 (by decide) rfl ?_
    refine g_aload_nN K dX6_tare_9 rfl ?_
    refine g_ifnonnullN K dX6_tare_10 ?_
    refine g_iconst K dX6_tare_13 kc_m1 ?_
    refine g_iret K dX6_tare_14 ⟨_, rfl, ?_⟩
    exact cp_err (by unfold o_tare; rw [if_neg hcx]) hA
set_option maxHeartbeats 4000000 in
set_option maxRecDepth 100000 in
theorem c_X6_undo {l : Launch} {b : Nat} {D : va_G} {cA : Nat → ClassId} {ad : Nat → Nat} {S : ST} {A : AS} {n : Nat} (hA : CRel S A n) : MT l b D cA NN ad zT yX6_undo cX6_undo 1 (some .int) 4 [.ref (ad 0)] S (RI (CPost (o_undo A) S)) := by
  obtain ⟨hb, hH⟩ := hA.2.1
  have n6 := hA.1.n6
  have hn := hA.1.n
  have hz6 : aZ A 6 = nI n := hA.1.1.2.1
  obtain ⟨hR, hRf⟩ := rem_rel hH hA
  refine MT.intro (j := 0) (ls := [some (.ref (ad 0))]) pn_X6 rfl rfl rfl (fun pr en s0 mi below meth c' K _ => ?_)
  refine g_aload_n K dX6_undo_0 rfl ?_
  refine g_getr (j := 55) K lk_X6_22 dX6_undo_1 rfl (by decide) (rfl : kd 0 = 6) (by decide) (by decide) rfl (rfl : rs 0 2 = 55) ?_
  refine g_geti K lk_X6_154 dX6_undo_4 rfl (rfl : kd 55 = 2) (by decide) (by decide) hH.2.2.1 ?_
  refine g_if_ne (tgt := 13) K dX6_undo_7 (by decide) (fun u7 => ?_) (fun u7 => ?_)
  · have hm0 : ¬ aM A = 0 := by
      intro q
      rw [q] at u7
      exact u7 rfl
    obtain ⟨m, hm⟩ : ∃ m, aM A = m + 1 := ⟨aM A - 1, by omega⟩
    have hm4 : m < 4 := by have := hH.2.2.2.1; omega
    obtain ⟨n2, hr2⟩ := hH.2.2.2.2 m (by omega)
    have hl := hH.1.lo hm4
    have hj := (hH.1 m hm4).2
    refine g_aload_n K dX6_undo_13 rfl ?_
    refine g_getr (j := 55) K lk_X6_22 dX6_undo_14 rfl (by decide) (rfl : kd 0 = 6) (by decide) (by decide) rfl (rfl : rs 0 2 = 55) ?_
    refine g_aload_n K dX6_undo_17 rfl ?_
    refine g_getr (j := 1) K lk_X6_10 dX6_undo_18 rfl (by decide) (rfl : kd 0 = 6) (by decide) (by decide) rfl (rfl : rs 0 0 = 1) ?_
    refine g_callVv K (c_X2_recall (m := m) hH.1 (by rw [hH.2.2.1, hm]) hm4 (hA.2.2.2.1.fits (Or.inr (Or.inr hj)))) mw_X2_recall ml_X6_157 dX6_undo_21 (by rfl) rfl rfl (by decide) (by simp [Value.category]) ⟨by decide, by decide⟩ ⟨by decide, by decide⟩ ?_
    refine g_aload_n K dX6_undo_24 rfl ?_
    refine g_getr (j := 55) K lk_X6_22 dX6_undo_25 rfl (by decide) (rfl : kd 0 = 6) (by decide) (by decide) rfl (rfl : rs 0 2 = 55) ?_
    refine g_geti K lk_X6_154 dX6_undo_28 rfl (rfl : kd 55 = 2) (by decide) (by decide) (show recS S hb m 55 1 = nI m by unfold recS; rw [cpState_n (by omega), stw_app, if_pos ⟨rfl, rfl⟩]) ?_
    refine g_iret K dX6_undo_31 ⟨_, rfl, ?_⟩
    have hfr : ∀ k, (k < 1 ∨ 27 < k) → k ≠ 55 → recS S hb m k = S k := fun k hk h5 => by
      unfold recS
      rw [cpState_n (by omega), stw_n h5]
    refine cp_ok (A := (aP A (aM A - 1), aM A - 1, A.2.2)) (n := n2) ?_ ⟨?_, ⟨hb, ?_, hH.2.1, ?_, ?_, ?_⟩, ?_, ?_, ?_⟩ (fun k hk => hfr k (by omega) (by omega))
    · unfold o_undo
      rw [if_neg hm0, hm]
      rfl
    · show RelSt (recS S hb m) 1 (aP A (aM A - 1)) n2
      rw [hm]
      refine hr2.to (fun j hj => ?_)
      unfold recS
      rw [cpState_b hj, stw_n (by omega)]
    · intro i hi
      rw [hfr 56 (by omega) (by omega)]
      exact hH.1 i hi
    · show recS S hb m 55 1 = nI (aM A - 1)
      rw [hm]
      unfold recS
      rw [cpState_n (by omega), stw_app, if_pos ⟨rfl, rfl⟩]
      rfl
    · show aM A - 1 ≤ 4
      omega
    · intro i hi
      have hi2 : i < aM A - 1 := hi
      obtain ⟨n3, h3⟩ := hH.2.2.2.2 i (by omega)
      have hl3 := hH.1.lo (show i < 4 by omega)
      exact ⟨n3, h3.to (fun j hj => hfr _ (by omega) (by omega))⟩
    · rw [hfr 0 (by omega) (by omega)]
      refine ⟨hA.2.2.1.1, hA.2.2.1.2.1, fun q => ?_⟩
      obtain ⟨n3, h3⟩ := hA.2.2.1.2.2 q
      exact ⟨n3, h3.to (fun j hj => hfr _ (by omega) (by omega))⟩
    · intro B hB a ha i hi
      by_cases e : B = 1
      · subst e
        unfold recS
        rw [show 1 + 3 + 4 * a + 3 = 1 + (6 + 4 * a) by omega, cpState_b (by omega), stw_n (by omega), show hb m + (6 + 4 * a) = hb m + 3 + 4 * a + 3 by omega]
        exact hA.2.2.2.1 _ (Or.inr (Or.inr hj)) a ha i hi
      · rw [hfr _ (by rcases hB with rfl | rfl | ⟨j, hj2, rfl⟩ <;> omega) (by rcases hB with rfl | rfl | ⟨j, hj2, rfl⟩ <;> omega)]
        exact hA.2.2.2.1 B hB a ha i hi
    · rw [hfr 165 (by omega) (by omega), hfr 166 (by omega) (by omega)]
      exact hA.2.2.2.2
  · have hm0 : aM A = 0 := by
      have := hH.2.2.2.1
      exact (nI_eq (b := 0) (by omega) (by decide)).mp u7
    refine g_bipush K dX6_undo_10 kb_m5 ?_
    refine g_iret K dX6_undo_12 ⟨_, rfl, ?_⟩
    exact cp_err (by unfold o_undo; rw [if_pos hm0]) hA
set_option maxHeartbeats 4000000 in
set_option maxRecDepth 100000 in
theorem c_X6_keep {l : Launch} {b : Nat} {D : va_G} {cA : Nat → ClassId} {ad : Nat → Nat} {S : ST} {A : AS} {n : Nat} (hA : CRel S A n) : MT l b D cA NN ad zT yX6_keep cX6_keep 1 (some .int) 3 [.ref (ad 0)] S (RI (CPost (o_keep A) S)) := by
  obtain ⟨hb, hH⟩ := hA.2.1
  have n6 := hA.1.n6
  have hn := hA.1.n
  have hz6 : aZ A 6 = nI n := hA.1.1.2.1
  obtain ⟨hR, hRf⟩ := rem_rel hH hA
  refine MT.intro (j := 0) (ls := [some (.ref (ad 0))]) pn_X6 rfl rfl rfl (fun pr en s0 mi below meth c' K _ => ?_)
  refine g_aload_n K dX6_keep_0 rfl ?_
  refine g_getr (j := 28) K lk_X6_16 dX6_keep_1 rfl (by decide) (rfl : kd 0 = 6) (by decide) (by decide) rfl (rfl : rs 0 1 = 28) ?_
  refine g_aload_n K dX6_keep_4 rfl ?_
  refine g_getr (j := 1) K lk_X6_10 dX6_keep_5 rfl (by decide) (rfl : kd 0 = 6) (by decide) (by decide) rfl (rfl : rs 0 0 = 1) ?_
  refine g_callVv K (c_X5_copyFrom st_28 st_1 (by decide) (hA.2.2.2.1.fits (Or.inl rfl))) mw_X5_copyFrom ml_X6_160 dX6_keep_8 (by rfl) rfl rfl (by decide) (by simp [Value.category]) ⟨by decide, by decide⟩ ⟨by decide, by decide⟩ ?_
  refine g_aload_n K dX6_keep_11 rfl ?_
  refine g_iconst K dX6_keep_12 kc_1 ?_
  refine g_puti K lk_X6_44 lq_X6_6 dX6_keep_13 (put_z (by first | exact Or.inl rfl | exact Or.inr rfl | assumption)) rfl (rfl : kd 0 = 6) (by decide) (by decide) ?_
  refine g_aload_n K dX6_keep_16 rfl ?_
  refine g_getr (j := 1) K lk_X6_10 dX6_keep_17 rfl (by decide) (rfl : kd 0 = 6) (by decide) (by decide) rfl (rfl : rs 0 0 = 1) ?_
  refine g_geti K lk_X6_52 dX6_keep_20 rfl (rfl : kd 1 = 5) (by decide) (by decide) (show stw (cpState S 28 1) 0 6 1 1 2 = nI n by rw [stw_n (by decide), cpState_n (by decide)]; exact hn) ?_
  refine g_iret K dX6_keep_23 ⟨_, rfl, ?_⟩
  have hfr : ∀ k, (k < 28 ∨ 54 < k) → k ≠ 0 → stw (cpState S 28 1) 0 6 1 k = S k := fun k hk h5 => by
    rw [stw_n h5, cpState_n (by omega)]
  refine cp_ok (A := (aZ A, aM A, aP A, 1, aZ A, A.2.2.2.2.2)) (n := n) ?_ ⟨?_, ⟨hb, ?_, hH.2.1, ?_, hH.2.2.2.1, ?_⟩, ⟨?_, Or.inr rfl, fun _ => ⟨n, ?_⟩⟩, ?_, ?_⟩ (fun k hk => hfr k (by omega) (by omega))
  · unfold o_keep
    rw [hz6]
  · exact hA.1.to (fun j hj => hfr _ (by omega) (by omega))
  · intro i hi
    rw [hfr 56 (by omega) (by omega)]
    exact hH.1 i hi
  · rw [hfr 55 (by omega) (by omega)]
    exact hH.2.2.1
  · intro i hi
    obtain ⟨n3, h3⟩ := hH.2.2.2.2 i hi
    have hl3 := hH.1.lo (Nat.lt_of_lt_of_le hi hH.2.2.2.1)
    exact ⟨n3, h3.to (fun j hj => hfr _ (by omega) (by omega))⟩
  · rw [stw_app, if_pos ⟨rfl, rfl⟩]
    rfl
  · refine hA.1.to (fun j hj => ?_)
    rw [stw_n (by omega), cpState_b hj]
  · intro B hB a ha i hi
    by_cases e : B = 28
    · subst e
      rw [stw_n (by omega), show 28 + 3 + 4 * a + 3 = 28 + (6 + 4 * a) by omega, cpState_b (by omega), show 1 + (6 + 4 * a) = 1 + 3 + 4 * a + 3 by omega]
      exact hA.2.2.2.1 _ (Or.inl rfl) a ha i hi
    · rw [hfr _ (by rcases hB with rfl | rfl | ⟨j, hj2, rfl⟩ <;> omega) (by rcases hB with rfl | rfl | ⟨j, hj2, rfl⟩ <;> omega)]
      exact hA.2.2.2.1 B hB a ha i hi
  · rw [hfr 165 (by omega) (by omega), hfr 166 (by omega) (by omega)]
    exact hA.2.2.2.2
set_option maxHeartbeats 4000000 in
set_option maxRecDepth 100000 in
theorem c_X6_restore {l : Launch} {b : Nat} {D : va_G} {cA : Nat → ClassId} {ad : Nat → Nat} {S : ST} {A : AS} {n : Nat} (hA : CRel S A n) : MT l b D cA NN ad zT yX6_restore cX6_restore 1 (some .int) 4 [.ref (ad 0)] S (RI (CPost (o_restore A) S)) := by
  obtain ⟨hb, hH⟩ := hA.2.1
  have n6 := hA.1.n6
  have hn := hA.1.n
  have hz6 : aZ A 6 = nI n := hA.1.1.2.1
  obtain ⟨hR, hRf⟩ := rem_rel hH hA
  refine MT.intro (j := 0) (ls := [some (.ref (ad 0))]) pn_X6 rfl rfl rfl (fun pr en s0 mi below meth c' K _ => ?_)
  refine g_aload_n K dX6_restore_0 rfl ?_
  refine g_geti K lk_X6_44 dX6_restore_1 rfl (rfl : kd 0 = 6) (by decide) (by decide) hA.2.2.1.1 ?_
  refine g_if_ne (tgt := 10) K dX6_restore_4 (by decide) (fun u4 => ?_) (fun u4 => ?_)
  · have hk1 : aK A = 1 := hA.2.2.1.2.1.resolve_left u4
    obtain ⟨n2, h28⟩ := hA.2.2.1.2.2 hk1
    have h28r : RelSt (remS S hb (aM A)) 28 (aKZ A) n2 := h28.to (fun j hj => hRf _ (by omega))
    refine g_aload_n K dX6_restore_10 rfl ?_
    refine g_getr (j := 55) K lk_X6_22 dX6_restore_11 rfl (by decide) (rfl : kd 0 = 6) (by decide) (by decide) rfl (rfl : rs 0 2 = 55) ?_
    refine g_aload_n K dX6_restore_14 rfl ?_
    refine g_getr (j := 1) K lk_X6_10 dX6_restore_15 rfl (by decide) (rfl : kd 0 = 6) (by decide) (by decide) rfl (rfl : rs 0 0 = 1) ?_
    refine g_callVv K (c_X2_remember hH.1 hH.2.2.1 hH.2.2.2.1 (hA.2.2.2.1.fits (Or.inl rfl))) mw_X2_remember ml_X6_56 dX6_restore_18 (by rfl) rfl rfl (by decide) (by simp [Value.category]) ⟨by decide, by decide⟩ ⟨by decide, by decide⟩ ?_
    refine g_aload_n K dX6_restore_21 rfl ?_
    refine g_getr (j := 1) K lk_X6_10 dX6_restore_22 rfl (by decide) (rfl : kd 0 = 6) (by decide) (by decide) rfl (rfl : rs 0 0 = 1) ?_
    refine g_aload_n K dX6_restore_25 rfl ?_
    refine g_getr (j := 28) K lk_X6_16 dX6_restore_26 rfl (by decide) (rfl : kd 0 = 6) (by decide) (by decide) rfl (rfl : rs 0 1 = 28) ?_
    refine g_callVv K (c_X5_copyFrom st_1 st_28 (by decide) (hR.2.2.2.1.fits (Or.inr (Or.inl rfl)))) mw_X5_copyFrom ml_X6_160 dX6_restore_29 (by rfl) rfl rfl (by decide) (by simp [Value.category]) ⟨by decide, by decide⟩ ⟨by decide, by decide⟩ ?_
    refine g_aload_n K dX6_restore_32 rfl ?_
    refine g_getr (j := 1) K lk_X6_10 dX6_restore_33 rfl (by decide) (rfl : kd 0 = 6) (by decide) (by decide) rfl (rfl : rs 0 0 = 1) ?_
    refine g_geti K lk_X6_52 dX6_restore_36 rfl (rfl : kd 1 = 5) (by decide) (by decide) (show cpState (remS S hb (aM A)) 1 28 1 2 = nI n2 from h28r.n) ?_
    refine g_iret K dX6_restore_39 ⟨_, rfl, ?_⟩
    have hfr : ∀ k, (k < 1 ∨ 27 < k) → cpState (remS S hb (aM A)) 1 28 k = remS S hb (aM A) k := fun k hk => cpState_n (by omega)
    refine cp_ok ?_ (hR.set (z := aKZ A) (n' := n2) (fun k hk => hfr k (by omega)) ?_ ?_ (congrFun (hfr 165 (by omega)) 3)) (fun k hk => by rw [hfr k (by omega), hRf k (by omega)])
    · unfold o_restore
      rw [if_neg u4, show aKZ A 6 = nI n2 from h28.1.2.1]
    · exact h28r.to (fun j hj => cpState_b hj)
    · intro a ha i hi
      rw [show 1 + 3 + 4 * a + 3 = 1 + (6 + 4 * a) by omega, cpState_b (by omega), show 28 + (6 + 4 * a) = 28 + 3 + 4 * a + 3 by omega]
      exact hR.2.2.2.1 _ (Or.inr (Or.inl rfl)) a ha i hi
  · refine g_bipush K dX6_restore_7 kb_m5 ?_
    refine g_iret K dX6_restore_9 ⟨_, rfl, ?_⟩
    exact cp_err (by unfold o_restore; rw [if_pos u4]) hA
