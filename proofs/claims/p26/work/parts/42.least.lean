set_option maxHeartbeats 4000000 in
set_option maxRecDepth 100000 in
theorem c_X6_off {l : Launch} {b : Nat} {D : va_G} {cA : Nat → ClassId} {ad : Nat → Nat} {S : ST} {A : AS} {n : Nat} {x y : Int32} (hA : CRel S A n) : MT l b D cA NN ad zT yX6_off cX6_off 6 (some .float) 5 [.ref (ad 0), .int x, .int y] S (RF (FPost (o_off A x y) A S)) := by
  obtain ⟨hb, hH⟩ := hA.2.1
  have n6 := hA.1.n6
  have hn := hA.1.n
  have hz6 : aZ A 6 = nI n := hA.1.1.2.1
  obtain ⟨hR, hRf⟩ := rem_rel hH hA
  refine MT.intro (j := 3) (ls := [some (.ref (ad 0)), some (.int x), some (.int y), none, none, none]) pn_X6 rfl rfl rfl (fun pr en s0 mi below meth c' K _ => ?_)
  refine g_aload_n K dX6_off_0 rfl ?_
  refine g_getr (j := 1) K lk_X6_10 dX6_off_1 rfl (by decide) (rfl : kd 0 = 6) (by decide) (by decide) rfl (rfl : rs 0 0 = 1) ?_
  refine g_iload_n K dX6_off_4 rfl ?_
  refine g_callV K (c_X5_findCart st_1 hn n6) mw_X5_findCart ml_X6_64 dX6_off_5 rfl (by decide) ⟨_, rfl, rfl⟩ (by decide) (by rfl) (by simp [Value.category]) ⟨by decide, by decide⟩ ⟨by decide, by decide⟩ (fun v5 S5 h5 => ?_)
  obtain ⟨hSe, hf⟩ := h5
  rw [hSe]
  clear hSe
  rcases hf with ⟨i, hi, hx, rfl⟩ | ⟨hx, rfl⟩
  · obtain ⟨N, hq, hr⟩ := hA.1.cart hi
    have hN5 := hq.2.2.1
    have hN1 := hq.2.1
    have hk : cK x = i := by rw [hx]; exact cK_nI (by omega)
    have hqA : qA A x = qOf (aZ A) i := by unfold qA; rw [hk]
    have hcx : 0 ≤ x ∧ x < aZ A 6 := by rw [hx, hz6]; exact ⟨nI_pos' (by omega), nI_lt hi (by omega)⟩
    have hnq : nQ (qOf (aZ A) i) = N := nQ_eq hq
    have hq0 : qOf (aZ A) i 0 = nI N := hq.1
    refine g_astore_n (ls2 := [_, _, _, some (.ref _), _, _]) K dX6_off_8 (by decide) rfl ?_
    refine g_aload_n K dX6_off_9 rfl ?_
    refine g_ifnull K dX6_off_10 ?_
    refine g_iload_n K dX6_off_13 rfl ?_
    refine g_callSi K c_X6_isSpeed mw_X6_isSpeed ml_X6_104 dX6_off_14 (by rfl) rfl (by simp [Value.category]) ⟨by decide, by decide⟩ ⟨by decide, by decide⟩ ?_
    refine g_if_ne (tgt := 22) K dX6_off_17 (by decide) (fun u17 => ?_) (fun u17 => ?_)
    · have hs : 1 ≤ y ∧ y ≤ 9 := by grind
      refine g_aload_n K dX6_off_22 rfl ?_
      refine g_getr (j := 169) K lk_X6_36 dX6_off_23 rfl (by decide) (rfl : kd 0 = 6) (by decide) (by decide) rfl (rfl : rs 0 4 = 169) ?_
      refine g_aload_n K dX6_off_26 rfl ?_
      refine g_iload_n K dX6_off_27 rfl ?_
      refine g_aload_n K dX6_off_28 rfl ?_
      refine g_getr (j := 1) K lk_X6_10 dX6_off_29 rfl (by decide) (rfl : kd 0 = 6) (by decide) (by decide) rfl (rfl : rs 0 0 = 1) ?_
      refine g_getr (j := 3) K lk_X6_107 dX6_off_32 rfl (by decide) (rfl : kd 1 = 5) (by decide) (by decide) rfl (rfl : rs 1 1 = 3) ?_
      refine g_callVpv K (m_follow (st_1.cart (i := i) (by omega)) (by omega) sett_3 hq hr (fun b hb => hA.1.2.1 b hb) hA.1.1.1 hs) mw_X4_follow ml_X6_110 dX6_off_35 (by rfl) rfl rfl (by decide) (by simp [Value.category]) ⟨by decide, by decide⟩ ⟨by decide, by decide⟩ (fun S35 h35 => ?_)
      have hf35 : ∀ b, (b < 169 ∨ 180 < b) → S35 b = S b := fun b hb => h35.2.2 b (by omega)
      have hr35 : RelCart S35 (1 + 3 + 4 * i) (qOf (aZ A) i) N := hr.to (fun b hb => hf35 _ (by omega))
      have hnone := tw_none (s := y) hq hA.1.1.1
      obtain ⟨wj, hw1, hw2, hwe⟩ := wh_pos hq
      have hcs : (0 ≤ x ∧ x < aZ A 6) ∧ 1 ≤ y ∧ y ≤ 9 := ⟨hcx, hs⟩
      refine g_aload_n K dX6_off_38 rfl ?_
      refine g_getr (j := 169) K lk_X6_36 dX6_off_39 rfl (by decide) (rfl : kd 0 = 6) (by decide) (by decide) rfl (rfl : rs 0 4 = 169) ?_
      refine g_callVi K (m_told h35.2.1 h35.1.2) mw_X4_toldWeight ml_X6_120 dX6_off_42 (by rfl) rfl rfl (by decide) (by simp [Value.category]) ⟨by decide, by decide⟩ ⟨by decide, by decide⟩ ?_
      refine g_istore (ls2 := [_, _, _, _, some (.int _), _]) K dX6_off_45 (by decide) rfl ?_
      refine g_aload_n K dX6_off_47 rfl ?_
      refine g_callVi K (c_X0_wholeWeight (st_1.cart (i := i) (by omega)) hr35.1 hN5) mw_X0_wholeWeight ml_X6_163 dX6_off_48 (by rfl) rfl (by rw [(st_1.cart (i := i) (by omega)).k0]; rfl) (st_1.cart (i := i) (by omega)).n0 (by simp [Value.category]) ⟨by decide, by decide⟩ ⟨by decide, by decide⟩ ?_
      refine g_nm (y := nI wj) (by rw [← hwe]; unfold whQ; rw [hnq]; exact sumF_congr N (fun b hb => (hr35.2.2 b hb).1)) ?_
      refine g_istore (ls2 := [_, _, _, _, _, some (.int _)]) K dX6_off_51 (by decide) rfl ?_
      refine g_iload K dX6_off_53 rfl ?_
      refine g_bipush K dX6_off_55 kb_m5 ?_
      refine g_icmp_eq (tgt := 65) K dX6_off_57 (by decide) (fun u57 => ?_) (fun u57 => ?_)
      · refine g_fconst2 K dX6_off_65 ?_
        refine g_fret K dX6_off_66 ⟨_, rfl, ?_⟩
        refine ⟨?_, ⟨n, hA.keep hf35⟩, fun b hb => hf35 b (by omega)⟩
        unfold o_off
        rw [if_pos hcs, hqA]
        first
          | rw [if_neg (hnone.mp u57)]
          | exact absurd (nI_lt (a := 0) (show 0 < wj by omega) (by omega)) u62
      · refine g_iload K dX6_off_60 rfl ?_
        refine g_if_gt (tgt := 67) K dX6_off_62 (by decide) (fun u62 => ?_) (fun u62 => ?_)
        · refine g_iload K dX6_off_67 rfl ?_
          refine g_iload K dX6_off_69 rfl ?_
          refine g_isub K dX6_off_71 ?_
          refine g_i2f K dX6_off_72 ?_
          refine g_iload K dX6_off_73 rfl ?_
          refine g_i2f K dX6_off_75 ?_
          refine g_fdiv K dX6_off_76 (fp_vdiv hw1 hw2) ?_
          refine g_fret K dX6_off_77 ⟨_, rfl, ?_⟩
          refine ⟨?_, ⟨n, hA.keep hf35⟩, fun b hb => hf35 b (by omega)⟩
          have h0 : rsQ (aZ A) (qOf (aZ A) i) y = 0 := by
            apply Classical.byContradiction
            intro q0
            exact u57 (hnone.mpr q0)
          unfold o_off
          rw [if_pos hcs, hqA, if_pos h0, hwe]
          unfold twQ twF
          rw [if_pos h0]
        · refine g_fconst2 K dX6_off_65 ?_
          refine g_fret K dX6_off_66 ⟨_, rfl, ?_⟩
          refine ⟨?_, ⟨n, hA.keep hf35⟩, fun b hb => hf35 b (by omega)⟩
          unfold o_off
          rw [if_pos hcs, hqA]
          first
            | rw [if_neg (hnone.mp u57)]
            | exact absurd (nI_lt (a := 0) (show 0 < wj by omega) (by omega)) u62
    · refine g_fconst2 K dX6_off_20 ?_
      refine g_fret K dX6_off_21 ⟨_, rfl, ?_⟩
      first
        | exact ⟨by unfold o_off; rw [if_neg (fun q => hcx q.1)], ⟨n, hA⟩, fun _ _ => rfl⟩
        | exact ⟨by unfold o_off; rw [if_neg (fun q => by grind)], ⟨n, hA⟩, fun _ _ => rfl⟩
  · have hcx : ¬ (0 ≤ x ∧ x < aZ A 6) := by rw [hz6]; exact hx
    refine g_astore_nN (ls2 := [_, _, _, some .null, _, _]) K dX6_off_8 (by decide) rfl ?_
    refine g_aload_nN K dX6_off_9 rfl ?_
    refine g_ifnullN (tgt := 20) K dX6_off_10 (by decide) ?_
    refine g_fconst2 K dX6_off_20 ?_
    refine g_fret K dX6_off_21 ⟨_, rfl, ?_⟩
    first
      | exact ⟨by unfold o_off; rw [if_neg (fun q => hcx q.1)], ⟨n, hA⟩, fun _ _ => rfl⟩
      | exact ⟨by unfold o_off; rw [if_neg (fun q => by grind)], ⟨n, hA⟩, fun _ _ => rfl⟩
set_option maxHeartbeats 4000000 in
set_option maxRecDepth 100000 in
theorem c_X6_leastSetting {l : Launch} {b : Nat} {D : va_G} {cA : Nat → ClassId} {ad : Nat → Nat} {S : ST} {A : AS} {n : Nat} {x y : Int32} {w lo hi0 : Nat} (hA : CRel S A n) (hw6 : w < 6) (hlo : leastS w = nI lo) (hhi : mostS w = nI hi0) (hlh : lo ≤ hi0) (hh : hi0 < 1000) : MT l b D cA NN ad zT yX6_leastSetting cX6_leastSetting 6 (some .int) 6 [.ref (ad 0), .int x, .int y, .int (nI w)] S (RI (CPost (o_least A x y w lo hi0, A) S)) := by
  obtain ⟨hb, hH⟩ := hA.2.1
  have n6 := hA.1.n6
  have hn := hA.1.n
  have hz6 : aZ A 6 = nI n := hA.1.1.2.1
  obtain ⟨hR, hRf⟩ := rem_rel hH hA
  refine MT.intro (j := 2) (ls := [some (.ref (ad 0)), some (.int x), some (.int y), some (.int (nI w)), none, none]) pn_X6 rfl rfl rfl (fun pr en s0 mi below meth c' K _ => ?_)
  have lp : ∀ (fuel : Nat) (i N v : Nat) (S1 : ST), (hi0 + 2 ≤ v + fuel) → (lo ≤ v) → (v ≤ hi0 + 1) → (i < n) → (CartOk (qOf (aZ A) i) N) → (RelCart S (1 + 3 + 4 * i) (qOf (aZ A) i) N) → (0 ≤ x ∧ x < aZ A 6) → (qA A x = qOf (aZ A) i) → (1 ≤ y ∧ y ≤ 9) → (∀ k, (k < 169 ∨ 180 < k) → S1 k = S k) → (∀ b, b < 6 → b ≠ w → S1 180 b = aZ A b) → (luF (fun v => neQ (upd (aZ A) w (nI v)) (qOf (aZ A) i) y) lo (hi0 + 1 - lo) = luF (fun v => neQ (upd (aZ A) w (nI v)) (qOf (aZ A) i) y) v (hi0 + 1 - v)) → G pr l en (rmd 6) s0 mi (List.toArray [.ref (ad 0), .int x, .int y, .int (nI w)]) below meth c' (MQ below (QQ b D cA NN ad zT (RI (CPost (o_least A x y w lo hi0, A) S))) (List.toArray [.ref (ad 0), .int x, .int y, .int (nI w)]) s0 0 0 (aF b)) b D cA 6 NN ad zT 0 0 52 [some (.ref (ad 0)), some (.int x), some (.int y), some (.int (nI w)), some (.ref (ad (1 + 3 + 4 * i))), some (.int (nI v))] [] S1 := by
    intro fuel
    induction fuel with
    | zero =>
      intro i N v  S1  hif hv1 hv2 hi hq hr hcx hqA hs hfr h180 hacc
      omega
    | succ fuel ih =>
      intro i N v  S1  hif hv1 hv2 hi hq hr hcx hqA hs hfr h180 hacc
      refine g_iload K dX6_leastSetting_52 rfl ?_
      refine g_getsL K (N := "MOST_SETTING") mostS (Or.inr ⟨rfl, rfl⟩) dX6_leastSetting_54 lks_X6_144 (fun tS54 hT54 => ?_)
      refine g_iload_n K dX6_leastSetting_57 rfl ?_
      refine g_sald (j := w) K hT54 dX6_leastSetting_58 rfl (by first | assumption | omega) ?_
      refine g_nm hhi ?_
      refine g_icmp_gt (tgt := 93) K dX6_leastSetting_59 (by decide) (fun u59 => ?_) (fun u59 => ?_)
      · have hv : v = hi0 + 1 := by
          rw [nI_ltI (by omega) (by omega)] at u59
          omega
        refine g_bipush K dX6_leastSetting_93 kb_m5 ?_
        refine g_iret K dX6_leastSetting_95 ⟨_, rfl, ?_⟩
        refine cp_ok (A := A) ?_ (hA.keep (S' := S1) hfr) (fun b hb => hfr b (by omega))
        unfold o_least
        rw [if_pos hcx, if_pos hs, hqA, hacc, hv, Nat.sub_self]
        rfl
      · have hv : v ≤ hi0 := by
          rw [nI_ltI (by omega) (by omega)] at u59
          omega
        have hr1 : RelCart (stw S1 180 w (nI v)) (1 + 3 + 4 * i) (qOf (aZ A) i) N := hr.to (fun b hb => by rw [stw_n (by omega), hfr _ (by omega)])
        refine g_aload_n K dX6_leastSetting_62 rfl ?_
        refine g_getr (j := 180) K lk_X6_40 dX6_leastSetting_63 rfl (by decide) (rfl : kd 0 = 6) (by decide) (by decide) rfl (rfl : rs 0 5 = 180) ?_
        refine g_iload_n K dX6_leastSetting_66 rfl ?_
        refine g_iload K dX6_leastSetting_67 rfl ?_
        refine g_iast (j := w) K dX6_leastSetting_69 rfl ln_180 hw6 (rfl : kd 180 = 8) (by decide) rfl ?_
        refine g_aload_n K dX6_leastSetting_70 rfl ?_
        refine g_aload K dX6_leastSetting_71 rfl ?_
        refine g_iload_n K dX6_leastSetting_73 rfl ?_
        refine g_aload_n K dX6_leastSetting_74 rfl ?_
        refine g_getr (j := 180) K lk_X6_40 dX6_leastSetting_75 rfl (by decide) (rfl : kd 0 = 6) (by decide) (by decide) rfl (rfl : rs 0 5 = 180) ?_
        refine g_callVpi K (c_X6_tellsNearly (k := 180) (se := upd (aZ A) w (nI v)) (st_1.cart (i := i) (by omega)) (by omega) sett_180 hq hr1 (fun b hb => by
      rw [stw_app]
      unfold upd
      by_cases e : b = w
      · rw [if_pos ⟨rfl, e⟩, if_pos e]
      · rw [if_neg (fun q => e q.2), if_neg e]
        exact h180 b hb e) (up_in hv1 hv hh hA.1.1.1 hlo hhi) hs) mw_X6_tellsNearly ml_X6_230 dX6_leastSetting_78 (by rfl) rfl rfl (by decide) (by simp [Value.category]) ⟨by decide, by decide⟩ ⟨by decide, by decide⟩ (fun r78 S78 h78 => ?_)
        refine g_if_eq (tgt := 87) K dX6_leastSetting_81 (by decide) (fun u81 => ?_) (fun u81 => ?_)
        · refine g_iinc (ls2 := [_, _, _, _, _, some (.int _)]) K dX6_leastSetting_87 rfl kc_1 rfl ?_
          refine g_goto (tgt := 52) K dX6_leastSetting_90 (by decide) ?_
          rw [nI_1]
          refine ih i N (v + 1) S78 (by omega) (by omega) (by omega) hi hq hr hcx hqA hs (fun b hb => by rw [h78.2 b (by omega), stw_n (by omega), hfr b hb]) (fun b hb hbw => by rw [h78.2 180 (by omega), stw_app, if_neg (fun q => hbw q.2)]; exact h180 b hb hbw) ?_
          rw [hacc, show hi0 + 1 - v = (hi0 + 1 - (v + 1)) + 1 by omega]
          conv => lhs; unfold luF
          rw [if_neg (by rw [← h78.1, u81]; decide)]
        · refine g_iload K dX6_leastSetting_84 rfl ?_
          refine g_iret K dX6_leastSetting_86 ⟨_, rfl, ?_⟩
          refine cp_ok (A := A) ?_ (hA.keep (S' := S78) (fun b hb => by rw [h78.2 b (by omega), stw_n (by omega), hfr b hb])) (fun b hb => by rw [h78.2 b (by omega), stw_n (by omega), hfr b (by omega)])
          unfold o_least
          rw [if_pos hcx, if_pos hs, hqA, hacc, show hi0 + 1 - v = (hi0 - v) + 1 by omega]
          unfold luF
          rw [if_pos (by rw [← h78.1]; unfold neQ at *; grind)]
  refine g_aload_n K dX6_leastSetting_0 rfl ?_
  refine g_getr (j := 1) K lk_X6_10 dX6_leastSetting_1 rfl (by decide) (rfl : kd 0 = 6) (by decide) (by decide) rfl (rfl : rs 0 0 = 1) ?_
  refine g_iload_n K dX6_leastSetting_4 rfl ?_
  refine g_callV K (c_X5_findCart st_1 hn n6) mw_X5_findCart ml_X6_64 dX6_leastSetting_5 rfl (by decide) ⟨_, rfl, rfl⟩ (by decide) (by rfl) (by simp [Value.category]) ⟨by decide, by decide⟩ ⟨by decide, by decide⟩ (fun v5 S5 h5 => ?_)
  obtain ⟨hSe, hf⟩ := h5
  rw [hSe]
  clear hSe
  rcases hf with ⟨i, hi, hx, rfl⟩ | ⟨hx, rfl⟩
  · obtain ⟨N, hq, hr⟩ := hA.1.cart hi
    have hN5 := hq.2.2.1
    have hN1 := hq.2.1
    have hk : cK x = i := by rw [hx]; exact cK_nI (by omega)
    have hqA : qA A x = qOf (aZ A) i := by unfold qA; rw [hk]
    have hcx : 0 ≤ x ∧ x < aZ A 6 := by rw [hx, hz6]; exact ⟨nI_pos' (by omega), nI_lt hi (by omega)⟩
    have hnq : nQ (qOf (aZ A) i) = N := nQ_eq hq
    have hq0 : qOf (aZ A) i 0 = nI N := hq.1
    refine g_astore (ls2 := [_, _, _, _, some (.ref _), _]) K dX6_leastSetting_8 (by decide) rfl ?_
    refine g_aload K dX6_leastSetting_10 rfl ?_
    refine g_ifnonnull (tgt := 17) K dX6_leastSetting_12 (by decide) ?_
    refine g_iload_n K dX6_leastSetting_17 rfl ?_
    refine g_callSi K c_X6_isSpeed mw_X6_isSpeed ml_X6_104 dX6_leastSetting_18 (by rfl) rfl (by simp [Value.category]) ⟨by decide, by decide⟩ ⟨by decide, by decide⟩ ?_
    refine g_if_ne (tgt := 27) K dX6_leastSetting_21 (by decide) (fun u21 => ?_) (fun u21 => ?_)
    · have hs : 1 ≤ y ∧ y ≤ 9 := by grind
      refine g_aload_n K dX6_leastSetting_27 rfl ?_
      refine g_getr (j := 1) K lk_X6_10 dX6_leastSetting_28 rfl (by decide) (rfl : kd 0 = 6) (by decide) (by decide) rfl (rfl : rs 0 0 = 1) ?_
      refine g_getr (j := 3) K lk_X6_107 dX6_leastSetting_31 rfl (by decide) (rfl : kd 1 = 5) (by decide) (by decide) rfl (rfl : rs 1 1 = 3) ?_
      refine g_iconst K dX6_leastSetting_34 kc_0 ?_
      refine g_aload_n K dX6_leastSetting_35 rfl ?_
      refine g_getr (j := 180) K lk_X6_40 dX6_leastSetting_36 rfl (by decide) (rfl : kd 0 = 6) (by decide) (by decide) rfl (rfl : rs 0 5 = 180) ?_
      refine g_iconst K dX6_leastSetting_39 kc_0 ?_
      refine g_bipush K dX6_leastSetting_40 kb_6 ?_
      refine g_copyW (N := 6) (t := 0) (ty := .int) K dX6_leastSetting_42 mj_X6_238 (rfl : kd 3 = 8) (rfl : kd 180 = 8) (by decide) (by decide) rfl rfl rfl rfl (by rw [ln_3]; decide) ln_180 (by decide) (by decide) (by decide) (fun _ _ => rfl) ⟨by decide, by simp [Value.category, rmd]; decide⟩ rfl ?_
      refine g_getsL K (N := "LEAST_SETTING") leastS (Or.inl ⟨rfl, rfl⟩) dX6_leastSetting_45 lks_X6_141 (fun tS45 hT45 => ?_)
      refine g_iload_n K dX6_leastSetting_48 rfl ?_
      refine g_sald (j := w) K hT45 dX6_leastSetting_49 rfl (by first | assumption | omega) ?_
      refine g_nm hlo ?_
      refine g_istore (ls2 := [_, _, _, _, _, some (.int _)]) K dX6_leastSetting_50 (by decide) rfl ?_
      exact lp (hi0 + 2) i N lo _ (by omega) (by omega) (by omega) hi hq hr hcx hqA hs (fun b hb => str_n (by omega)) (fun b hb _ => (congrFun str_s b).trans (hA.1.2.1 b hb)) rfl
    · refine g_bipush K dX6_leastSetting_24 kb_m2 ?_
      refine g_iret K dX6_leastSetting_26 ⟨_, rfl, ?_⟩
      exact cp_err (by unfold o_least; rw [if_pos hcx, if_neg (by grind)]) hA
  · have hcx : ¬ (0 ≤ x ∧ x < aZ A 6) := by rw [hz6]; exact hx
    refine g_astoreN (ls2 := [_, _, _, _, some .null, _]) K dX6_leastSetting_8 (by decide) rfl ?_
    refine g_aloadN K dX6_leastSetting_10 rfl ?_
    refine g_ifnonnullN K dX6_leastSetting_12 ?_
    refine g_iconst K dX6_leastSetting_15 kc_m1 ?_
    refine g_iret K dX6_leastSetting_16 ⟨_, rfl, ?_⟩
    exact cp_err (by unfold o_least; rw [if_neg hcx]) hA
set_option maxHeartbeats 4000000 in
set_option maxRecDepth 100000 in
theorem c_X6_leastWindow {l : Launch} {b : Nat} {D : va_G} {cA : Nat → ClassId} {ad : Nat → Nat} {S : ST} {A : AS} {n : Nat} {x y : Int32} (hA : CRel S A n) : MT l b D cA NN ad zT yX6_leastWindow cX6_leastWindow 3 (some .int) 7 [.ref (ad 0), .int x, .int y] S (RI (CPost (o_least A x y 3 1 9, A) S)) := by
  refine MT.intro (j := 0) (ls := [some (.ref (ad 0)), some (.int x), some (.int y)]) pn_X6 rfl rfl rfl (fun pr en s0 mi below meth c' K _ => ?_)
  refine g_aload_n K dX6_leastWindow_0 rfl ?_
  refine g_iload_n K dX6_leastWindow_1 rfl ?_
  refine g_iload_n K dX6_leastWindow_2 rfl ?_
  refine g_iconst K dX6_leastWindow_3 kc_3 ?_
  refine g_callVpi K (c_X6_leastSetting (w := 3) (lo := 1) (hi0 := 9) hA (by decide) rfl rfl (by decide) (by decide)) mw_X6_leastSetting ml_X6_234 dX6_leastWindow_4 (by rfl) rfl rfl (by decide) (by simp [Value.category]) ⟨by decide, by decide⟩ ⟨by decide, by decide⟩ (fun r4 S4 h4 => ?_)
  refine g_iret K dX6_leastWindow_7 ⟨_, rfl, ?_⟩
  exact h4
set_option maxHeartbeats 4000000 in
set_option maxRecDepth 100000 in
theorem c_X6_shortestPlate {l : Launch} {b : Nat} {D : va_G} {cA : Nat → ClassId} {ad : Nat → Nat} {S : ST} {A : AS} {n : Nat} {x y : Int32} (hA : CRel S A n) : MT l b D cA NN ad zT yX6_shortestPlate cX6_shortestPlate 3 (some .int) 7 [.ref (ad 0), .int x, .int y] S (RI (CPost (o_least A x y 0 10 90, A) S)) := by
  refine MT.intro (j := 0) (ls := [some (.ref (ad 0)), some (.int x), some (.int y)]) pn_X6 rfl rfl rfl (fun pr en s0 mi below meth c' K _ => ?_)
  refine g_aload_n K dX6_shortestPlate_0 rfl ?_
  refine g_iload_n K dX6_shortestPlate_1 rfl ?_
  refine g_iload_n K dX6_shortestPlate_2 rfl ?_
  refine g_iconst K dX6_shortestPlate_3 kc_0 ?_
  refine g_callVpi K (c_X6_leastSetting (w := 0) (lo := 10) (hi0 := 90) hA (by decide) rfl rfl (by decide) (by decide)) mw_X6_leastSetting ml_X6_234 dX6_shortestPlate_4 (by rfl) rfl rfl (by decide) (by simp [Value.category]) ⟨by decide, by decide⟩ ⟨by decide, by decide⟩ (fun r4 S4 h4 => ?_)
  refine g_iret K dX6_shortestPlate_7 ⟨_, rfl, ?_⟩
  exact h4
