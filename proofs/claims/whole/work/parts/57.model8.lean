set_option maxHeartbeats 4000000 in
set_option maxRecDepth 100000 in
theorem c_X7_tell {l : Launch} {b : Nat} {D : va_G} {cA : Nat → ClassId} {ad : Nat → Nat} {S : ST} {L : Nat → Int32} {v y bo : Int32} {t : Nat} (hL : LV S L) (hy : y = L 1) (h0 : 0 ≤ L 0) (hno : ¬ (0 < L 0 ∧ abF (v - L 1) ≤ bo)) (ht : t < 120) : MT l b D cA NN ad zT yX7_tell cX7_tell 6 none 0 [.ref (ad 181), .int v, .int y, .int (nI t)] S (RV (fun S2 => LV S2 (offF L v (nI t) bo) ∧ S2 192 = upd (S 192) t v ∧ (∀ k, k ≠ 181 → k ≠ 192 → S2 k = S k) ∧ ∀ j, (j < 15 ∨ 19 < j) → S2 181 j = S 181 j)) := by
  refine MT.intro (j := 2) (ls := [some (.ref (ad 181)), some (.int v), some (.int y), some (.int (nI t)), none, none]) pn_X7 rfl rfl rfl (fun pr en s0 mi below meth c' K _ => ?_)
  have l5 : ∀ (ah : Int32) (g : Int32) (w16 : Int32) (w17 : Int32) (w18 : Int32) (w19 : Int32), (ah = if 0 < L 0 then L 1 else 0) → (g = if L 0 = 0 ∨ L 2 < v then 1 else 0) → (w16 = offF L v (nI t) bo 2) → (w17 = offF L v (nI t) bo 3) → (w18 = offF L v (nI t) bo 4) → (w19 = offF L v (nI t) bo 5) → G pr l en (rmd 0) s0 mi (List.toArray [.ref (ad 181), .int v, .int y, .int (nI t)]) below meth c' (MQ below (QQ b D cA NN ad zT (RV (fun S2 => LV S2 (offF L v (nI t) bo) ∧ S2 192 = upd (S 192) t v ∧ (∀ k, k ≠ 181 → k ≠ 192 → S2 k = S k) ∧ ∀ j, (j < 15 ∨ 19 < j) → S2 181 j = S 181 j))) (List.toArray [.ref (ad 181), .int v, .int y, .int (nI t)]) s0 0 0 (aF b)) b D cA 6 NN ad zT 0 0 113 [some (.ref (ad 181)), some (.int v), some (.int y), some (.int (nI t)), some (.int ah), some (.int g)] [] (stw (stw (stw (stw S 181 16 w16) 181 17 w17) 181 18 w18) 181 19 w19) := by
    intro ah  g  w16  w17  w18  w19  hah hg hw16 hw17 hw18 hw19
    refine g_aload_n K dX7_tell_113 rfl ?_
    refine g_dup K dX7_tell_114 rfl ?_
    refine g_geti K lk_X7_101 dX7_tell_115 rfl (rfl : kd 181 = 7) (by decide) (by decide) (show (stw (stw (stw (stw S 181 16 w16) 181 17 w17) 181 18 w18) 181 19 w19) 181 15 = L 0 by rw [stw_app, if_neg (by decide), stw_app, if_neg (by decide), stw_app, if_neg (by decide), stw_app, if_neg (by decide)]; exact hL.1) ?_
    refine g_iconst K dX7_tell_118 kc_1 ?_
    refine g_iadd K dX7_tell_119 ?_
    refine g_puti K lk_X7_101 lq_X7_15 dX7_tell_120 (put_i _) rfl (rfl : kd 181 = 7) (by decide) (by decide) ?_
    refine g_aload_n K dX7_tell_123 rfl ?_
    refine g_getr (j := 192) K lk_X7_40 dX7_tell_124 rfl (by decide) (rfl : kd 181 = 7) (by decide) (by decide) rfl (rfl : rs 181 13 = 192) ?_
    refine g_iload_n K dX7_tell_127 rfl ?_
    refine g_iload_n K dX7_tell_128 rfl ?_
    refine g_iast (j := t) K dX7_tell_129 rfl ln_192 (by omega) (rfl : kd 192 = 8) (by decide) rfl ?_
    refine g_vret K dX7_tell_130 ⟨rfl, ?_⟩
    refine ⟨⟨?_, ?_, ?_, ?_, ?_⟩, ?_, fun k h1 h2 => ?_, fun j hj => ?_⟩
    · rw [stw_n (by decide), stw_app, if_pos ⟨rfl, rfl⟩]
      unfold offF
      rw [if_neg hno, if_pos rfl]
    · simp [stw_app]
      exact hw16
    · simp [stw_app]
      exact hw17
    · simp [stw_app]
      exact hw18
    · simp [stw_app]
      exact hw19
    · rw [stw_s, stw_n (by decide), stw_n (by decide), stw_n (by decide), stw_n (by decide), stw_n (by decide)]
    · rw [stw_n h2, stw_n h1, stw_n h1, stw_n h1, stw_n h1, stw_n h1]
    · rw [stw_n (by decide), stw_app, if_neg (by omega), stw_app, if_neg (by omega), stw_app, if_neg (by omega), stw_app, if_neg (by omega), stw_app, if_neg (by omega)]
  have l4 : ∀ (ah : Int32) (g : Int32) (w16 : Int32) (w17 : Int32) (w18 : Int32), (ah = if 0 < L 0 then L 1 else 0) → (g = if L 0 = 0 ∨ L 2 < v then 1 else 0) → (w16 = offF L v (nI t) bo 2) → (w17 = offF L v (nI t) bo 3) → (w18 = offF L v (nI t) bo 4) → G pr l en (rmd 0) s0 mi (List.toArray [.ref (ad 181), .int v, .int y, .int (nI t)]) below meth c' (MQ below (QQ b D cA NN ad zT (RV (fun S2 => LV S2 (offF L v (nI t) bo) ∧ S2 192 = upd (S 192) t v ∧ (∀ k, k ≠ 181 → k ≠ 192 → S2 k = S k) ∧ ∀ j, (j < 15 ∨ 19 < j) → S2 181 j = S 181 j))) (List.toArray [.ref (ad 181), .int v, .int y, .int (nI t)]) s0 0 0 (aF b)) b D cA 6 NN ad zT 0 0 90 [some (.ref (ad 181)), some (.int v), some (.int y), some (.int (nI t)), some (.int ah), some (.int g)] [] (stw (stw (stw S 181 16 w16) 181 17 w17) 181 18 w18) := by
    intro ah  g  w16  w17  w18  hah hg hw16 hw17 hw18
    refine g_aload_n K dX7_tell_90 rfl ?_
    refine g_dup K dX7_tell_91 rfl ?_
    refine g_geti K lk_X7_113 dX7_tell_92 rfl (rfl : kd 181 = 7) (by decide) (by decide) (show (stw (stw (stw S 181 16 w16) 181 17 w17) 181 18 w18) 181 19 = L 5 by rw [stw_app, if_neg (by decide), stw_app, if_neg (by decide), stw_app, if_neg (by decide)]; exact hL.2.2.2.2) ?_
    refine g_iload_n K dX7_tell_95 rfl ?_
    refine g_iload K dX7_tell_96 rfl ?_
    refine g_icmp_le (tgt := 108) K dX7_tell_98 (by decide) (fun u98 => ?_) (fun u98 => ?_)
    · refine g_iconst K dX7_tell_108 kc_0 ?_
      refine g_iadd K dX7_tell_109 ?_
      refine g_puti K lk_X7_113 lq_X7_19 dX7_tell_110 (put_i _) rfl (rfl : kd 181 = 7) (by decide) (by decide) ?_
      refine l5 ah g w16 w17 w18 _ hah hg hw16 hw17 hw18 ?_
      unfold offF
      grind
    · refine g_iload_n K dX7_tell_101 rfl ?_
      refine g_iload K dX7_tell_102 rfl ?_
      refine g_isub K dX7_tell_104 ?_
      refine g_goto (tgt := 109) K dX7_tell_105 (by decide) ?_
      refine g_iadd K dX7_tell_109 ?_
      refine g_puti K lk_X7_113 lq_X7_19 dX7_tell_110 (put_i _) rfl (rfl : kd 181 = 7) (by decide) (by decide) ?_
      refine l5 ah g w16 w17 w18 _ hah hg hw16 hw17 hw18 ?_
      unfold offF
      grind
  have l3 : ∀ (ah : Int32) (g : Int32) (w16 : Int32) (w17 : Int32), (ah = if 0 < L 0 then L 1 else 0) → (g = if L 0 = 0 ∨ L 2 < v then 1 else 0) → (w16 = offF L v (nI t) bo 2) → (w17 = offF L v (nI t) bo 3) → G pr l en (rmd 0) s0 mi (List.toArray [.ref (ad 181), .int v, .int y, .int (nI t)]) below meth c' (MQ below (QQ b D cA NN ad zT (RV (fun S2 => LV S2 (offF L v (nI t) bo) ∧ S2 192 = upd (S 192) t v ∧ (∀ k, k ≠ 181 → k ≠ 192 → S2 k = S k) ∧ ∀ j, (j < 15 ∨ 19 < j) → S2 181 j = S 181 j))) (List.toArray [.ref (ad 181), .int v, .int y, .int (nI t)]) s0 0 0 (aF b)) b D cA 6 NN ad zT 0 0 70 [some (.ref (ad 181)), some (.int v), some (.int y), some (.int (nI t)), some (.int ah), some (.int g)] [] (stw (stw S 181 16 w16) 181 17 w17) := by
    intro ah  g  w16  w17  hah hg hw16 hw17
    refine g_aload_n K dX7_tell_70 rfl ?_
    refine g_dup K dX7_tell_71 rfl ?_
    refine g_geti K lk_X7_110 dX7_tell_72 rfl (rfl : kd 181 = 7) (by decide) (by decide) (show (stw (stw S 181 16 w16) 181 17 w17) 181 18 = L 4 by rw [stw_app, if_neg (by decide), stw_app, if_neg (by decide)]; exact hL.2.2.2.1) ?_
    refine g_iload_n K dX7_tell_75 rfl ?_
    refine g_iload K dX7_tell_76 rfl ?_
    refine g_icmp_le (tgt := 85) K dX7_tell_78 (by decide) (fun u78 => ?_) (fun u78 => ?_)
    · refine g_iconst K dX7_tell_85 kc_0 ?_
      refine g_iadd K dX7_tell_86 ?_
      refine g_puti K lk_X7_110 lq_X7_18 dX7_tell_87 (put_i _) rfl (rfl : kd 181 = 7) (by decide) (by decide) ?_
      refine l4 ah g w16 w17 _ hah hg hw16 hw17 ?_
      unfold offF
      grind
    · refine g_iconst K dX7_tell_81 kc_1 ?_
      refine g_goto (tgt := 86) K dX7_tell_82 (by decide) ?_
      refine g_iadd K dX7_tell_86 ?_
      refine g_puti K lk_X7_110 lq_X7_18 dX7_tell_87 (put_i _) rfl (rfl : kd 181 = 7) (by decide) (by decide) ?_
      refine l4 ah g w16 w17 _ hah hg hw16 hw17 ?_
      unfold offF
      grind
  have l2 : ∀ (ah : Int32) (g : Int32) (w16 : Int32), (ah = if 0 < L 0 then L 1 else 0) → (g = if L 0 = 0 ∨ L 2 < v then 1 else 0) → (w16 = offF L v (nI t) bo 2) → G pr l en (rmd 0) s0 mi (List.toArray [.ref (ad 181), .int v, .int y, .int (nI t)]) below meth c' (MQ below (QQ b D cA NN ad zT (RV (fun S2 => LV S2 (offF L v (nI t) bo) ∧ S2 192 = upd (S 192) t v ∧ (∀ k, k ≠ 181 → k ≠ 192 → S2 k = S k) ∧ ∀ j, (j < 15 ∨ 19 < j) → S2 181 j = S 181 j))) (List.toArray [.ref (ad 181), .int v, .int y, .int (nI t)]) s0 0 0 (aF b)) b D cA 6 NN ad zT 0 0 53 [some (.ref (ad 181)), some (.int v), some (.int y), some (.int (nI t)), some (.int ah), some (.int g)] [] (stw S 181 16 w16) := by
    intro ah  g  w16  hah hg hw16
    refine g_aload_n K dX7_tell_53 rfl ?_
    refine g_iload K dX7_tell_54 rfl ?_
    refine g_if_eq (tgt := 63) K dX7_tell_56 (by decide) (fun u56 => ?_) (fun u56 => ?_)
    · refine g_aload_n K dX7_tell_63 rfl ?_
      refine g_geti K lk_X7_107 dX7_tell_64 rfl (rfl : kd 181 = 7) (by decide) (by decide) (show (stw S 181 16 w16) 181 17 = L 3 by rw [stw_app, if_neg (by decide)]; exact hL.2.2.1) ?_
      refine g_puti K lk_X7_107 lq_X7_17 dX7_tell_67 (put_i _) rfl (rfl : kd 181 = 7) (by decide) (by decide) ?_
      refine l3 ah g w16 _ hah hg hw16 ?_
      unfold offF
      grind
    · refine g_iload_n K dX7_tell_59 rfl ?_
      refine g_goto (tgt := 67) K dX7_tell_60 (by decide) ?_
      refine g_puti K lk_X7_107 lq_X7_17 dX7_tell_67 (put_i _) rfl (rfl : kd 181 = 7) (by decide) (by decide) ?_
      refine l3 ah g w16 _ hah hg hw16 ?_
      unfold offF
      grind
  have l1 : ∀ (ah : Int32) (g : Int32), (ah = if 0 < L 0 then L 1 else 0) → (g = if L 0 = 0 ∨ L 2 < v then 1 else 0) → G pr l en (rmd 0) s0 mi (List.toArray [.ref (ad 181), .int v, .int y, .int (nI t)]) below meth c' (MQ below (QQ b D cA NN ad zT (RV (fun S2 => LV S2 (offF L v (nI t) bo) ∧ S2 192 = upd (S 192) t v ∧ (∀ k, k ≠ 181 → k ≠ 192 → S2 k = S k) ∧ ∀ j, (j < 15 ∨ 19 < j) → S2 181 j = S 181 j))) (List.toArray [.ref (ad 181), .int v, .int y, .int (nI t)]) s0 0 0 (aF b)) b D cA 6 NN ad zT 0 0 36 [some (.ref (ad 181)), some (.int v), some (.int y), some (.int (nI t)), some (.int ah), some (.int g)] [] S := by
    intro ah  g  hah hg
    refine g_aload_n K dX7_tell_36 rfl ?_
    refine g_iload K dX7_tell_37 rfl ?_
    refine g_if_eq (tgt := 46) K dX7_tell_39 (by decide) (fun u39 => ?_) (fun u39 => ?_)
    · refine g_aload_n K dX7_tell_46 rfl ?_
      refine g_geti K lk_X7_104 dX7_tell_47 rfl (rfl : kd 181 = 7) (by decide) (by decide) hL.2.1 ?_
      refine g_puti K lk_X7_104 lq_X7_16 dX7_tell_50 (put_i _) rfl (rfl : kd 181 = 7) (by decide) (by decide) ?_
      refine l2 ah g _ hah hg  ?_
      unfold offF
      grind
    · refine g_iload_n K dX7_tell_42 rfl ?_
      refine g_goto (tgt := 50) K dX7_tell_43 (by decide) ?_
      refine g_puti K lk_X7_104 lq_X7_16 dX7_tell_50 (put_i _) rfl (rfl : kd 181 = 7) (by decide) (by decide) ?_
      refine l2 ah g _ hah hg  ?_
      unfold offF
      grind
  have l0 : ∀ (ah : Int32), (ah = if 0 < L 0 then L 1 else 0) → G pr l en (rmd 0) s0 mi (List.toArray [.ref (ad 181), .int v, .int y, .int (nI t)]) below meth c' (MQ below (QQ b D cA NN ad zT (RV (fun S2 => LV S2 (offF L v (nI t) bo) ∧ S2 192 = upd (S 192) t v ∧ (∀ k, k ≠ 181 → k ≠ 192 → S2 k = S k) ∧ ∀ j, (j < 15 ∨ 19 < j) → S2 181 j = S 181 j))) (List.toArray [.ref (ad 181), .int v, .int y, .int (nI t)]) s0 0 0 (aF b)) b D cA 6 NN ad zT 0 0 14 [some (.ref (ad 181)), some (.int v), some (.int y), some (.int (nI t)), some (.int ah), none] [] S := by
    intro ah  hah
    refine g_aload_n K dX7_tell_14 rfl ?_
    refine g_geti K lk_X7_101 dX7_tell_15 rfl (rfl : kd 181 = 7) (by decide) (by decide) hL.1 ?_
    refine g_if_eq (tgt := 29) K dX7_tell_18 (by decide) (fun u18 => ?_) (fun u18 => ?_)
    · refine g_iconst K dX7_tell_29 kc_1 ?_
      refine g_goto (tgt := 34) K dX7_tell_30 (by decide) ?_
      refine g_istore (ls2 := [_, _, _, _, _, some (.int _)]) K dX7_tell_34 (by decide) rfl ?_
      refine l1 ah _ hah ?_
      grind
    · refine g_iload_n K dX7_tell_21 rfl ?_
      refine g_aload_n K dX7_tell_22 rfl ?_
      refine g_geti K lk_X7_104 dX7_tell_23 rfl (rfl : kd 181 = 7) (by decide) (by decide) hL.2.1 ?_
      refine g_icmp_le (tgt := 33) K dX7_tell_26 (by decide) (fun u26 => ?_) (fun u26 => ?_)
      · refine g_iconst K dX7_tell_33 kc_0 ?_
        refine g_istore (ls2 := [_, _, _, _, _, some (.int _)]) K dX7_tell_34 (by decide) rfl ?_
        refine l1 ah _ hah ?_
        grind
      · refine g_iconst K dX7_tell_29 kc_1 ?_
        refine g_goto (tgt := 34) K dX7_tell_30 (by decide) ?_
        refine g_istore (ls2 := [_, _, _, _, _, some (.int _)]) K dX7_tell_34 (by decide) rfl ?_
        refine l1 ah _ hah ?_
        grind
  refine g_aload_n K dX7_tell_0 rfl ?_
  refine g_geti K lk_X7_101 dX7_tell_1 rfl (rfl : kd 181 = 7) (by decide) (by decide) hL.1 ?_
  refine g_if_ne (tgt := 11) K dX7_tell_4 (by decide) (fun u4 => ?_) (fun u4 => ?_)
  · refine g_iload_n K dX7_tell_11 rfl ?_
    refine g_istore (ls2 := [_, _, _, _, some (.int _), _]) K dX7_tell_12 (by decide) rfl ?_
    refine l0 _ ?_
    grind
  · refine g_iconst K dX7_tell_7 kc_0 ?_
    refine g_goto (tgt := 12) K dX7_tell_8 (by decide) ?_
    refine g_istore (ls2 := [_, _, _, _, some (.int _), _]) K dX7_tell_12 (by decide) rfl ?_
    refine l0 _ ?_
    grind
set_option maxHeartbeats 4000000 in
set_option maxRecDepth 100000 in
theorem c_X7_axlesTold {l : Launch} {b : Nat} {D : va_G} {cA : Nat → ClassId} {ad : Nat → Nat} {S : ST} {z : Nat → Int32} {k N : Nat} {bh : Nat → Int32} {s : Int32} (hz : MZ S z) (hk : k < 6) (hq : CartOk (qOf z k) N) (hbh : ∀ a, a < N → S 187 a = bh a) (hs9 : 1 ≤ s ∧ s ≤ 9) : MT l b D cA NN ad zT yX7_axlesTold cX7_axlesTold 7 (some .int) 2 [.ref (ad 181), .int (nI k), .int s] S (EI (wtF bh (lQ (qOf z k)) s N).1 S) := by
  have h5 := hq.2.2.1
  have hq0 := hq.1
  have hs0 := sp_pos hs9
  refine MT.intro (j := 4) (ls := [some (.ref (ad 181)), some (.int (nI k)), some (.int s), none, none, none, none]) pn_X7 rfl rfl rfl (fun pr en s0 mi below meth c' K _ => ?_)
  have lp : ∀ (fuel : Nat) (i : Nat) (x y : Int32), (N + 1 ≤ i + fuel) → (i ≤ N) → (x = (wtF bh (lQ (qOf z k)) s i).1) → (y = (wtF bh (lQ (qOf z k)) s i).2) → G pr l en (rmd 2) s0 mi (List.toArray [.ref (ad 181), .int (nI k), .int s]) below meth c' (MQ below (QQ b D cA NN ad zT (EI (wtF bh (lQ (qOf z k)) s N).1 S)) (List.toArray [.ref (ad 181), .int (nI k), .int s]) s0 0 0 (aF b)) b D cA 7 NN ad zT 0 0 9 [some (.ref (ad 181)), some (.int (nI k)), some (.int s), some (.int x), some (.int y), some (.int (nI i)), none] [] S := by
    intro fuel
    induction fuel with
    | zero =>
      intro i  x y  hi hi2 hx hy
      omega
    | succ fuel ih =>
      intro i  x y  hi hi2 hx hy
      refine g_iload K dX7_axlesTold_9 rfl ?_
      refine g_aload_n K dX7_axlesTold_11 rfl ?_
      refine g_iload_n K dX7_axlesTold_12 rfl ?_
      refine g_iconst K dX7_axlesTold_13 kc_0 ?_
      refine g_callVi K (c_X7_of (k := k) (w := 0) hz hk (by decide)) mw_X7_of ml_X7_54 dX7_axlesTold_14 (by rfl) rfl rfl (by decide) (by simp [Value.category]) ⟨by decide, by decide⟩ ⟨by decide, by decide⟩ ?_
      refine g_icmp_ge (tgt := 70) K dX7_axlesTold_17 (by decide) (fun u17 => ?_) (fun u17 => ?_)
      · have hiN : i = N := by
          rw [hq0, nI_leI (by omega) (by omega)] at u17
          omega
        refine g_iload_n K dX7_axlesTold_70 rfl ?_
        refine g_iret K dX7_axlesTold_71 ⟨_, rfl, ?_⟩
        rw [← hiN]
        exact ⟨hx, rfl⟩
      · have hiN : i < N := by
          rw [hq0, nI_leI (by omega) (by omega)] at u17
          omega
        refine g_aload_n K dX7_axlesTold_20 rfl ?_
        refine g_iload_n K dX7_axlesTold_21 rfl ?_
        refine g_iload K dX7_axlesTold_22 rfl ?_
        refine g_callVi K (c_X7_isDown (k := k) (a := i) hz hk (by omega)) mw_X7_isDown ml_X7_88 dX7_axlesTold_24 (by rfl) rfl rfl (by decide) (by simp [Value.category]) ⟨by decide, by decide⟩ ⟨by decide, by decide⟩ ?_
        refine g_if_eq (tgt := 64) K dX7_axlesTold_27 (by decide) (fun u27 => ?_) (fun u27 => ?_)
        · refine g_iinc (ls2 := [_, _, _, _, _, some (.int _), _]) K dX7_axlesTold_64 rfl kc_1 rfl ?_
          refine g_goto (tgt := 9) K dX7_axlesTold_67 (by decide) ?_
          rw [nI_1]
          have hqu : quoUF (bh i) s = (bh i + s - 1) / s := by
            unfold quoUF quoF
            rw [if_pos hs0]
          refine ih (i + 1) _ _ (by omega) (by omega) ?_ ?_
          · simp only [wtF, hqu]
            grind
          · simp only [wtF, hqu]
            grind
        · refine g_aload_n K dX7_axlesTold_30 rfl ?_
          refine g_getr (j := 187) K lk_X7_25 dX7_axlesTold_31 rfl (by decide) (rfl : kd 181 = 7) (by decide) (by decide) rfl (rfl : rs 181 8 = 187) ?_
          refine g_iload K dX7_axlesTold_34 rfl ?_
          refine g_iald (j := i) K dX7_axlesTold_36 rfl ln_187 (by omega) (rfl : kd 187 = 8) (by decide) (hbh i hiN) ?_
          refine g_iload_n K dX7_axlesTold_37 rfl ?_
          refine g_iadd K dX7_axlesTold_38 ?_
          refine g_iconst K dX7_axlesTold_39 kc_1 ?_
          refine g_isub K dX7_axlesTold_40 ?_
          refine g_iload_n K dX7_axlesTold_41 rfl ?_
          refine g_idiv K dX7_axlesTold_42 (sp_ne hs9) ?_
          refine g_istore (ls2 := [_, _, _, _, _, _, some (.int _)]) K dX7_axlesTold_43 (by decide) rfl ?_
          refine g_iload_n K dX7_axlesTold_45 rfl ?_
          refine g_iload K dX7_axlesTold_46 rfl ?_
          refine g_iload K dX7_axlesTold_48 rfl ?_
          refine g_icmp_ne (tgt := 57) K dX7_axlesTold_50 (by decide) (fun u50 => ?_) (fun u50 => ?_)
          · refine g_iconst K dX7_axlesTold_57 kc_1 ?_
            refine g_iadd K dX7_axlesTold_58 ?_
            refine g_istore_n (ls2 := [_, _, _, some (.int _), _, _, _]) K dX7_axlesTold_59 (by decide) rfl ?_
            refine g_iload K dX7_axlesTold_60 rfl ?_
            refine g_istore (ls2 := [_, _, _, _, some (.int _), _, _]) K dX7_axlesTold_62 (by decide) rfl ?_
            refine g_iinc (ls2 := [_, _, _, _, _, some (.int _), _]) K dX7_axlesTold_64 rfl kc_1 rfl ?_
            refine g_goto (tgt := 9) K dX7_axlesTold_67 (by decide) ?_
            refine g_drop (ls2 := [_, _, _, _, _, _, none]) 6 rfl ?_
            rw [nI_1]
            have hqu : quoUF (bh i) s = (bh i + s - 1) / s := by
              unfold quoUF quoF
              rw [if_pos hs0]
            refine ih (i + 1) _ _ (by omega) (by omega) ?_ ?_
            · simp only [wtF, hqu]
              grind
            · simp only [wtF, hqu]
              grind
          · refine g_iconst K dX7_axlesTold_53 kc_0 ?_
            refine g_goto (tgt := 58) K dX7_axlesTold_54 (by decide) ?_
            refine g_iadd K dX7_axlesTold_58 ?_
            refine g_istore_n (ls2 := [_, _, _, some (.int _), _, _, _]) K dX7_axlesTold_59 (by decide) rfl ?_
            refine g_iload K dX7_axlesTold_60 rfl ?_
            refine g_istore (ls2 := [_, _, _, _, some (.int _), _, _]) K dX7_axlesTold_62 (by decide) rfl ?_
            refine g_iinc (ls2 := [_, _, _, _, _, some (.int _), _]) K dX7_axlesTold_64 rfl kc_1 rfl ?_
            refine g_goto (tgt := 9) K dX7_axlesTold_67 (by decide) ?_
            refine g_drop (ls2 := [_, _, _, _, _, _, none]) 6 rfl ?_
            rw [nI_1]
            have hqu : quoUF (bh i) s = (bh i + s - 1) / s := by
              unfold quoUF quoF
              rw [if_pos hs0]
            refine ih (i + 1) _ _ (by omega) (by omega) ?_ ?_
            · simp only [wtF, hqu]
              grind
            · simp only [wtF, hqu]
              grind
  refine g_iconst K dX7_axlesTold_0 kc_0 ?_
  refine g_istore_n (ls2 := [_, _, _, some (.int _), _, _, _]) K dX7_axlesTold_1 (by decide) rfl ?_
  refine g_bipush K dX7_axlesTold_2 kb_m5 ?_
  refine g_istore (ls2 := [_, _, _, _, some (.int _), _, _]) K dX7_axlesTold_4 (by decide) rfl ?_
  refine g_iconst K dX7_axlesTold_6 kc_0 ?_
  refine g_istore (ls2 := [_, _, _, _, _, some (.int _), _]) K dX7_axlesTold_7 (by decide) rfl ?_
  exact lp (N + 1) 0 _ _ (by omega) (by omega) rfl rfl
theorem ao_suc {se bh lf : Nat → Int32} {s t : Int32} {i : Nat} : aoP se bh lf s t (i + 1) ↔ aoP se bh lf s t i ∧ (lf i = 0 → 0 ≤ s * t - bh i ∧ s * t - bh i < se 0) := by
  refine ⟨fun h => ⟨fun a ha => h a (by omega), h i (by omega)⟩, fun h a ha hl => ?_⟩
  by_cases e : a = i
  · rw [e]
    rw [e] at hl
    exact h.2 hl
  · exact h.1 a (by omega) hl
set_option maxHeartbeats 4000000 in
set_option maxRecDepth 100000 in
theorem c_X7_areAllOn {l : Launch} {b : Nat} {D : va_G} {cA : Nat → ClassId} {ad : Nat → Nat} {S : ST} {z : Nat → Int32} {k N : Nat} {bh : Nat → Int32} {s t : Int32} (hz : MZ S z) (hk : k < 6) (hq : CartOk (qOf z k) N) (hse : SetOk z) (hbh : ∀ a, a < N → S 187 a = bh a) : MT l b D cA NN ad zT yX7_areAllOn cX7_areAllOn 6 (some .boolean) 2 [.ref (ad 181), .int (nI k), .int s, .int t] S (EI (aoF z bh (lQ (qOf z k)) s t N) S) := by
  have h5 := hq.2.2.1
  have hq0 := hq.1
  refine MT.intro (j := 2) (ls := [some (.ref (ad 181)), some (.int (nI k)), some (.int s), some (.int t), none, none]) pn_X7 rfl rfl rfl (fun pr en s0 mi below meth c' K _ => ?_)
  have lp : ∀ (fuel : Nat) (i : Nat) (y : Int32), (N + 1 ≤ i + fuel) → (i ≤ N) → ((y = 1 ∧ aoP z bh (lQ (qOf z k)) s t i) ∨ (y = 0 ∧ ¬ aoP z bh (lQ (qOf z k)) s t i)) → G pr l en (rmd 2) s0 mi (List.toArray [.ref (ad 181), .int (nI k), .int s, .int t]) below meth c' (MQ below (QQ b D cA NN ad zT (EI (aoF z bh (lQ (qOf z k)) s t N) S)) (List.toArray [.ref (ad 181), .int (nI k), .int s, .int t]) s0 0 0 (aF b)) b D cA 6 NN ad zT 0 0 6 [some (.ref (ad 181)), some (.int (nI k)), some (.int s), some (.int t), some (.int y), some (.int (nI i))] [] S := by
    intro fuel
    induction fuel with
    | zero =>
      intro i  y  hi hi2 hy
      omega
    | succ fuel ih =>
      intro i  y  hi hi2 hy
      refine g_iload K dX7_areAllOn_6 rfl ?_
      refine g_aload_n K dX7_areAllOn_8 rfl ?_
      refine g_iload_n K dX7_areAllOn_9 rfl ?_
      refine g_iconst K dX7_areAllOn_10 kc_0 ?_
      refine g_callVi K (c_X7_of (k := k) (w := 0) hz hk (by decide)) mw_X7_of ml_X7_54 dX7_areAllOn_11 (by rfl) rfl rfl (by decide) (by simp [Value.category]) ⟨by decide, by decide⟩ ⟨by decide, by decide⟩ ?_
      refine g_icmp_ge (tgt := 63) K dX7_areAllOn_14 (by decide) (fun u14 => ?_) (fun u14 => ?_)
      · have hiN : i = N := by
          rw [hq0, nI_leI (by omega) (by omega)] at u14
          omega
        refine g_iload K dX7_areAllOn_63 rfl ?_
        refine g_zret K dX7_areAllOn_65 (by rcases hy with ⟨q, _⟩ | ⟨q, _⟩ <;> (rw [q]; decide)) ⟨_, rfl, ?_⟩
        refine ⟨?_, rfl⟩
        rw [hiN] at hy
        unfold aoF
        rcases hy with ⟨q1, q2⟩ | ⟨q1, q2⟩
        · rw [if_pos q2, q1]
        · rw [if_neg q2, q1]
      · have hiN : i < N := by
          rw [hq0, nI_leI (by omega) (by omega)] at u14
          omega
        refine g_iload K dX7_areAllOn_17 rfl ?_
        refine g_if_eq (tgt := 54) K dX7_areAllOn_19 (by decide) (fun u19 => ?_) (fun u19 => ?_)
        · refine g_iconst K dX7_areAllOn_54 kc_0 ?_
          refine g_istore (ls2 := [_, _, _, _, some (.int _), _]) K dX7_areAllOn_55 (by decide) rfl ?_
          refine g_iinc (ls2 := [_, _, _, _, _, some (.int _)]) K dX7_areAllOn_57 rfl kc_1 rfl ?_
          refine g_goto (tgt := 6) K dX7_areAllOn_60 (by decide) ?_
          rw [nI_1]
          refine ih (i + 1) _ (by omega) (by omega) ?_
          rw [ao_suc]
          grind
        · refine g_aload_n K dX7_areAllOn_22 rfl ?_
          refine g_iload_n K dX7_areAllOn_23 rfl ?_
          refine g_iload K dX7_areAllOn_24 rfl ?_
          refine g_callVi K (c_X7_isDown (k := k) (a := i) hz hk (by omega)) mw_X7_isDown ml_X7_88 dX7_areAllOn_26 (by rfl) rfl rfl (by decide) (by simp [Value.category]) ⟨by decide, by decide⟩ ⟨by decide, by decide⟩ ?_
          refine g_if_eq (tgt := 50) K dX7_areAllOn_29 (by decide) (fun u29 => ?_) (fun u29 => ?_)
          · refine g_iconst K dX7_areAllOn_50 kc_1 ?_
            refine g_goto (tgt := 55) K dX7_areAllOn_51 (by decide) ?_
            refine g_istore (ls2 := [_, _, _, _, some (.int _), _]) K dX7_areAllOn_55 (by decide) rfl ?_
            refine g_iinc (ls2 := [_, _, _, _, _, some (.int _)]) K dX7_areAllOn_57 rfl kc_1 rfl ?_
            refine g_goto (tgt := 6) K dX7_areAllOn_60 (by decide) ?_
            rw [nI_1]
            refine ih (i + 1) _ (by omega) (by omega) ?_
            rw [ao_suc]
            grind
          · refine g_aload_n K dX7_areAllOn_32 rfl ?_
            refine g_iload_n K dX7_areAllOn_33 rfl ?_
            refine g_iload_n K dX7_areAllOn_34 rfl ?_
            refine g_imul K dX7_areAllOn_35 ?_
            refine g_aload_n K dX7_areAllOn_36 rfl ?_
            refine g_getr (j := 187) K lk_X7_25 dX7_areAllOn_37 rfl (by decide) (rfl : kd 181 = 7) (by decide) (by decide) rfl (rfl : rs 181 8 = 187) ?_
            refine g_iload K dX7_areAllOn_40 rfl ?_
            refine g_iald (j := i) K dX7_areAllOn_42 rfl ln_187 (by omega) (rfl : kd 187 = 8) (by decide) (hbh i hiN) ?_
            refine g_isub K dX7_areAllOn_43 ?_
            refine g_callVi K (c_X7_isOn hz hse) mw_X7_isOn ml_X7_98 dX7_areAllOn_44 (by rfl) rfl rfl (by decide) (by simp [Value.category]) ⟨by decide, by decide⟩ ⟨by decide, by decide⟩ ?_
            refine g_if_eq (tgt := 54) K dX7_areAllOn_47 (by decide) (fun u47 => ?_) (fun u47 => ?_)
            · refine g_iconst K dX7_areAllOn_54 kc_0 ?_
              refine g_istore (ls2 := [_, _, _, _, some (.int _), _]) K dX7_areAllOn_55 (by decide) rfl ?_
              refine g_iinc (ls2 := [_, _, _, _, _, some (.int _)]) K dX7_areAllOn_57 rfl kc_1 rfl ?_
              refine g_goto (tgt := 6) K dX7_areAllOn_60 (by decide) ?_
              rw [nI_1]
              refine ih (i + 1) _ (by omega) (by omega) ?_
              rw [ao_suc]
              grind
            · refine g_iconst K dX7_areAllOn_50 kc_1 ?_
              refine g_goto (tgt := 55) K dX7_areAllOn_51 (by decide) ?_
              refine g_istore (ls2 := [_, _, _, _, some (.int _), _]) K dX7_areAllOn_55 (by decide) rfl ?_
              refine g_iinc (ls2 := [_, _, _, _, _, some (.int _)]) K dX7_areAllOn_57 rfl kc_1 rfl ?_
              refine g_goto (tgt := 6) K dX7_areAllOn_60 (by decide) ?_
              rw [nI_1]
              refine ih (i + 1) _ (by omega) (by omega) ?_
              rw [ao_suc]
              grind
  refine g_iconst K dX7_areAllOn_0 kc_1 ?_
  refine g_istore (ls2 := [_, _, _, _, some (.int _), _]) K dX7_areAllOn_1 (by decide) rfl ?_
  refine g_iconst K dX7_areAllOn_3 kc_0 ?_
  refine g_istore (ls2 := [_, _, _, _, _, some (.int _)]) K dX7_areAllOn_4 (by decide) rfl ?_
  exact lp (N + 1) 0 _ (by omega) (by omega) (Or.inl ⟨rfl, fun a h => absurd h (by omega)⟩)
set_option maxHeartbeats 4000000 in
set_option maxRecDepth 100000 in
theorem c_X7_reason {l : Launch} {b : Nat} {D : va_G} {cA : Nat → ClassId} {ad : Nat → Nat} {S : ST} {z : Nat → Int32} {k N : Nat} {bh L : Nat → Int32} {s T : Int32} (hz : MZ S z) (hk : k < 6) (hq : CartOk (qOf z k) N) (hse : SetOk z) (hbh : ∀ a, a < N → S 187 a = bh a) (hs9 : 1 ≤ s ∧ s ≤ 9) (hL : LV S L) (hT : S 181 14 = T) : MT l b D cA NN ad zT yX7_reason cX7_reason 3 (some .int) 3 [.ref (ad 181), .int (nI k), .int s] S (EI (rsF z bh (lQ (qOf z k)) s N L T) S) := by
  refine MT.intro (j := 0) (ls := [some (.ref (ad 181)), some (.int (nI k)), some (.int s)]) pn_X7 rfl rfl rfl (fun pr en s0 mi below meth c' K _ => ?_)
  refine g_aload_n K dX7_reason_0 rfl ?_
  refine g_geti K lk_X7_118 dX7_reason_1 rfl (rfl : kd 181 = 7) (by decide) (by decide) hT ?_
  refine g_bipush K dX7_reason_4 kb_120 ?_
  refine g_icmp_le (tgt := 11) K dX7_reason_6 (by decide) (fun u6 => ?_) (fun u6 => ?_)
  · refine g_aload_n K dX7_reason_11 rfl ?_
    refine g_geti K lk_X7_101 dX7_reason_12 rfl (rfl : kd 181 = 7) (by decide) (by decide) hL.1 ?_
    refine g_if_ne (tgt := 20) K dX7_reason_15 (by decide) (fun u15 => ?_) (fun u15 => ?_)
    · refine g_aload_n K dX7_reason_20 rfl ?_
      refine g_iload_n K dX7_reason_21 rfl ?_
      refine g_iload_n K dX7_reason_22 rfl ?_
      refine g_aload_n K dX7_reason_23 rfl ?_
      refine g_geti K lk_X7_107 dX7_reason_24 rfl (rfl : kd 181 = 7) (by decide) (by decide) hL.2.2.1 ?_
      refine g_callVi K (c_X7_areAllOn (k := k) (N := N) hz hk hq hse hbh) mw_X7_areAllOn ml_X7_141 dX7_reason_27 (by rfl) rfl rfl (by decide) (by simp [Value.category]) ⟨by decide, by decide⟩ ⟨by decide, by decide⟩ ?_
      refine g_if_ne (tgt := 47) K dX7_reason_30 (by decide) (fun u30 => ?_) (fun u30 => ?_)
      · refine g_iconst K dX7_reason_47 kc_0 ?_
        refine g_iret K dX7_reason_48 ⟨_, rfl, ?_⟩
        refine ⟨?_, rfl⟩
        unfold rsF
        unfold aoF at *
        grind
      · refine g_aload_n K dX7_reason_33 rfl ?_
        refine g_iload_n K dX7_reason_34 rfl ?_
        refine g_iload_n K dX7_reason_35 rfl ?_
        refine g_callVi K (c_X7_axlesTold (k := k) (N := N) hz hk hq hbh hs9) mw_X7_axlesTold ml_X7_144 dX7_reason_36 (by rfl) rfl rfl (by decide) (by simp [Value.category]) ⟨by decide, by decide⟩ ⟨by decide, by decide⟩ ?_
        refine g_iconst K dX7_reason_39 kc_1 ?_
        refine g_icmp_le (tgt := 47) K dX7_reason_40 (by decide) (fun u40 => ?_) (fun u40 => ?_)
        · refine g_iconst K dX7_reason_47 kc_0 ?_
          refine g_iret K dX7_reason_48 ⟨_, rfl, ?_⟩
          refine ⟨?_, rfl⟩
          unfold rsF
          unfold aoF at *
          grind
        · refine g_iconst K dX7_reason_43 kc_3 ?_
          refine g_goto (tgt := 48) K dX7_reason_44 (by decide) ?_
          refine g_iret K dX7_reason_48 ⟨_, rfl, ?_⟩
          refine ⟨?_, rfl⟩
          unfold rsF
          unfold aoF at *
          grind
    · refine g_iconst K dX7_reason_18 kc_2 ?_
      refine g_iret K dX7_reason_19 ⟨_, rfl, ?_⟩
      refine ⟨?_, rfl⟩
      unfold rsF
      unfold aoF at *
      grind
  · refine g_iconst K dX7_reason_9 kc_1 ?_
    refine g_iret K dX7_reason_10 ⟨_, rfl, ?_⟩
    refine ⟨?_, rfl⟩
    unfold rsF
    unfold aoF at *
    grind
