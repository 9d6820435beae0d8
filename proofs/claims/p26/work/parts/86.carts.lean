theorem i_nlt {a b : Int32} (h : a ≤ b) : ¬ b < a := by grind
theorem i_nle1 {x : Int32} (h : 2 ≤ x) : ¬ x ≤ 1 := by grind
theorem i_nle0 {x : Int32} (h : 0 < x) : ¬ x ≤ 0 := by grind
theorem nt_1 {t w : Int32} (h : t = -5 ∨ w = -5) : netF t w = -5 := if_pos h
theorem nt_2 {t w : Int32} (h1 : ¬ t = -5) (h2 : ¬ w = -5) : netF t w = w - t + 1000 := if_neg (fun q => q.elim h1 h2)
theorem tar_0 {z : Nat → Int32} {i : Nat} (h : qOf z i 1 = -5) : tarN z i + 0 = tarN z (i + 1) := by
  show tarN z i + 0 = tarN z i + (if qOf z i 1 = -5 then 0 else 1)
  rw [if_pos h]
theorem tar_1 {z : Nat → Int32} {i : Nat} (h : ¬ qOf z i 1 = -5) : tarN z i + 1 = tarN z (i + 1) := by
  show tarN z i + 1 = tarN z i + (if qOf z i 1 = -5 then 0 else 1)
  rw [if_neg h]
theorem dw_u {q : Nat → Int32} {j : Nat} (h : lQ q j = 1) : nI (dwN q j) + 0 = nI (dwN q (j + 1)) := by
  have e : dwN q (j + 1) = dwN q j + if lQ q j = 0 then 1 else 0 := rfl
  rw [e, if_neg (by rw [h]; decide)]
  exact nI_add _ 0
theorem dw_d {q : Nat → Int32} {j : Nat} (h : lQ q j = 0) : nI (dwN q j) + 1 = nI (dwN q (j + 1)) := by
  have e : dwN q (j + 1) = dwN q j + if lQ q j = 0 then 1 else 0 := rfl
  rw [e, if_pos h]
  exact nI_add _ 1
theorem kg_nat {q : Nat → Int32} {N a : Nat} (hq : CartOk q N) (ha : a < N) : wQ q a = nI (kgN q a) := (kg_ok hq ha).1
set_option maxHeartbeats 4000000 in
set_option maxRecDepth 100000 in
theorem c_L_areCarts {l : Launch} {b : Nat} {D : va_G} {cA : Nat → ClassId} {ad : Nat → Nat} {S : ST} {A : AS} {n B : Nat} (hC : CRel S A n) (hE : EZ (aZ A) B) : MT l b D cA NN ad zT yL_areCarts cL_areCarts 14 (some .boolean) 3 [.ref (ad 0)] S (RI (fun r S2 => r = 1 ∧ CRel S2 A n)) := by
  have hs := hC.st
  have n6 := hs.2.2.1
  refine MT.intro (j := 13) (ls := [some (.ref (ad 0)), none, none, none, none, none, none, none, none, none, none, none, none, none]) pn_L rfl rfl rfl (fun pr en s0 mi below meth c' K _ => ?_)
  have lp : ∀ (fuel : Nat) (i : Nat) (S1 : ST), (n + 1 ≤ i + fuel) → (i ≤ n) → (CRel S1 A n) → G pr l en (rmd 3) s0 mi (List.toArray [.ref (ad 0)]) below meth c' (MQ below (QQ b D cA NN ad zT (RI (fun r S2 => r = 1 ∧ CRel S2 A n))) (List.toArray [.ref (ad 0)]) s0 0 0 (aF b)) b D cA 14 NN ad zT 0 0 50 [some (.ref (ad 0)), some (.int (tarN (aZ A) i)), some (.int (nI n)), some (.int 1), some (.int (nI i)), none, none, none, none, none, none, none, none, none] [] S1 := by
    intro fuel
    induction fuel with
    | zero =>
      intro i  S1  hi hi2 hC
      omega
    | succ fuel ih =>
      intro i  S1  hi hi2 hC
      have ihO := ih
      refine g_iload K dL_areCarts_50 rfl ?_
      refine g_iload_n K dL_areCarts_52 rfl ?_
      refine g_icmp_ge (tgt := 495) K dL_areCarts_53 (by decide) (fun u53 => ?_) (fun u53 => ?_)
      · have hin : i = n := by
          rw [nI_leI (by omega) (by omega)] at u53
          omega
        subst hin
        refine g_iload_n K dL_areCarts_495 rfl ?_
        refine g_if_eq (tgt := 512) K dL_areCarts_496 (by decide) (fun u496 => absurd u496 (by decide)) (fun u496 => ?_)
        refine g_iload_n K dL_areCarts_499 rfl ?_
        refine g_aload_n K dL_areCarts_500 rfl ?_
        refine g_iconst K dL_areCarts_501 kc_3 ?_
        refine g_rdV K (rd hC (c_X6_count hC) (cn_3 hs)) mw_X6_count ml_L_14 dL_areCarts_502 (by rfl) rfl rfl (by decide) (by simp [Value.category]) ⟨by decide, by decide⟩ ⟨by decide, by decide⟩ ?_
        clear hC
        intro S502 hC
        refine g_icmp_ne (tgt := 512) K dL_areCarts_505 (by decide) (fun u505 => absurd u505 (fun h => h rfl)) (fun u505 => ?_)
        refine g_iconst K dL_areCarts_508 kc_1 ?_
        refine g_goto (tgt := 513) K dL_areCarts_509 (by decide) ?_
        refine g_zret K dL_areCarts_513 (by first | exact Or.inl rfl | exact Or.inr rfl | assumption) ⟨_, rfl, ?_⟩
        exact ⟨rfl, hC⟩
      · have hin : i < n := by
          rw [nI_leI (by omega) (by omega)] at u53
          omega
        obtain ⟨N, hq⟩ := hs.2.2.2 i hin
        have h5 := hq.2.2.1
        have hN1 := hq.2.1
        have hEq := hE.q hs hin hq
        refine g_iload_n K dL_areCarts_56 rfl ?_
        refine g_if_eq (tgt := 495) K dL_areCarts_57 (by decide) (fun u57 => absurd u57 (by decide)) (fun u57 => ?_)
        refine g_aload_n K dL_areCarts_60 rfl ?_
        refine g_iload K dL_areCarts_61 rfl ?_
        refine g_iconst K dL_areCarts_63 kc_0 ?_
        refine g_rdV K (rd hC (c_X6_cartOf hC) (xc_0 hs hin hq)) mw_X6_cartOf ml_L_20 dL_areCarts_64 (by rfl) rfl rfl (by decide) (by simp [Value.category]) ⟨by decide, by decide⟩ ⟨by decide, by decide⟩ ?_
        clear hC
        intro S64 hC
        refine g_istore (ls2 := [_, _, _, _, _, some (.int _), _, _, _, _, _, _, _, _]) K dL_areCarts_67 (by decide) rfl ?_
        refine g_iconst K dL_areCarts_69 kc_0 ?_
        refine g_istore (ls2 := [_, _, _, _, _, _, some (.int _), _, _, _, _, _, _, _]) K dL_areCarts_70 (by decide) rfl ?_
        refine g_iconst K dL_areCarts_72 kc_0 ?_
        refine g_istore (ls2 := [_, _, _, _, _, _, _, some (.int _), _, _, _, _, _, _]) K dL_areCarts_73 (by decide) rfl ?_
        refine g_iconst K dL_areCarts_75 kc_0 ?_
        refine g_istore (ls2 := [_, _, _, _, _, _, _, _, some (.int _), _, _, _, _, _]) K dL_areCarts_76 (by decide) rfl ?_
        refine g_iconst K dL_areCarts_78 kc_0 ?_
        refine g_istore (ls2 := [_, _, _, _, _, _, _, _, _, some (.int _), _, _, _, _]) K dL_areCarts_79 (by decide) rfl ?_
        refine g_iconst K dL_areCarts_81 kc_0 ?_
        refine g_istore (ls2 := [_, _, _, _, _, _, _, _, _, _, some (.int _), _, _, _]) K dL_areCarts_82 (by decide) rfl ?_
        have lq : ∀ (fuel : Nat) (j : Nat) (S2 : ST), (N + 1 ≤ j + fuel) → (j ≤ N) → (CRel S2 A n) → G pr l en (rmd 3) s0 mi (List.toArray [.ref (ad 0)]) below meth c' (MQ below (QQ b D cA NN ad zT (RI (fun r S2 => r = 1 ∧ CRel S2 A n))) (List.toArray [.ref (ad 0)]) s0 0 0 (aF b)) b D cA 14 NN ad zT 0 0 84 [some (.ref (ad 0)), some (.int (tarN (aZ A) i)), some (.int (nI n)), some (.int 1), some (.int (nI i)), some (.int (nI N)), some (.int (nI (sumN (kgN (qOf (aZ A) i)) j))), some (.int (nI (sumN (bnN (qOf (aZ A) i) N) j))), some (.int (sumF (dQ (qOf (aZ A) i)) j)), some (.int (nI (dwN (qOf (aZ A) i) j))), some (.int (nI j)), none, none, none] [] S2 := by
          intro fuel
          induction fuel with
          | zero =>
            intro j  S2  hj hj2 hC
            omega
          | succ fuel ih =>
            intro j  S2  hj hj2 hC
            refine g_iload K dL_areCarts_84 rfl ?_
            refine g_iload K dL_areCarts_86 rfl ?_
            refine g_icmp_ge (tgt := 265) K dL_areCarts_88 (by decide) (fun u88 => ?_) (fun u88 => ?_)
            · have hjN : j = N := by
                rw [nI_leI (by omega) (by omega)] at u88
                omega
              subst hjN
              refine g_aload_n K dL_areCarts_265 rfl ?_
              refine g_iload K dL_areCarts_266 rfl ?_
              refine g_iconst K dL_areCarts_268 kc_4 ?_
              refine g_rdV K (rd hC (c_X6_cartOf hC) (xc_4 hs hin)) mw_X6_cartOf ml_L_20 dL_areCarts_269 (by rfl) rfl rfl (by decide) (by simp [Value.category]) ⟨by decide, by decide⟩ ⟨by decide, by decide⟩ ?_
              clear hC
              intro S269 hC
              refine g_istore (ls2 := [_, _, _, _, _, _, _, _, _, _, some (.int _), _, _, _]) K dL_areCarts_272 (by decide) rfl ?_
              refine g_aload_n K dL_areCarts_274 rfl ?_
              refine g_iload K dL_areCarts_275 rfl ?_
              refine g_iconst K dL_areCarts_277 kc_5 ?_
              refine g_rdV K (rd hC (c_X6_cartOf hC) (xc_5 hs hin)) mw_X6_cartOf ml_L_20 dL_areCarts_278 (by rfl) rfl rfl (by decide) (by simp [Value.category]) ⟨by decide, by decide⟩ ⟨by decide, by decide⟩ ?_
              clear hC
              intro S278 hC
              refine g_istore (ls2 := [_, _, _, _, _, _, _, _, _, _, _, some (.int _), _, _]) K dL_areCarts_281 (by decide) rfl ?_
              rcases Classical.em (qOf (aZ A) i 1 = -5) with h1 | h1
              · skip
                refine g_iload_n K dL_areCarts_283 rfl ?_
                refine g_iload K dL_areCarts_284 rfl ?_
                refine g_bipush K dL_areCarts_286 kb_m5 ?_
                refine g_icmp_ne (tgt := 295) K dL_areCarts_288 (by decide) (fun u288 => absurd u288 (fun h => h h1)) (fun u288 => ?_)
                refine g_iconst K dL_areCarts_291 kc_0 ?_
                refine g_goto (tgt := 296) K dL_areCarts_292 (by decide) ?_
                refine g_iadd K dL_areCarts_296 ?_
                refine g_nm (y := (tarN (aZ A) (i + 1))) (tar_0 h1) ?_
                refine g_istore_n (ls2 := [_, some (.int _), _, _, _, _, _, _, _, _, _, _, _, _]) K dL_areCarts_297 (by decide) rfl ?_
                refine g_iload_n K dL_areCarts_298 rfl ?_
                refine g_if_eq (tgt := 487) K dL_areCarts_299 (by decide) (fun u299 => absurd u299 (by decide)) (fun u299 => ?_)
                refine g_iload K dL_areCarts_302 rfl ?_
                refine g_if_le (tgt := 487) K dL_areCarts_304 (by decide) (fun u304 => absurd u304 (nI_nle hN1 (by omega))) (fun u304 => ?_)
                refine g_iload K dL_areCarts_307 rfl ?_
                refine g_bipush K dL_areCarts_309 kb_6 ?_
                refine g_icmp_ge (tgt := 487) K dL_areCarts_311 (by decide) (fun u311 => absurd u311 (nI_ge (b := 6) (by omega) (by decide))) (fun u311 => ?_)
                refine g_iload K dL_areCarts_314 rfl ?_
                refine g_aload_n K dL_areCarts_316 rfl ?_
                refine g_iload K dL_areCarts_317 rfl ?_
                refine g_iconst K dL_areCarts_319 kc_2 ?_
                refine g_rdV K (rd hC (c_X6_cartOf hC) (xc_2 hs hin hq)) mw_X6_cartOf ml_L_20 dL_areCarts_320 (by rfl) rfl rfl (by decide) (by simp [Value.category]) ⟨by decide, by decide⟩ ⟨by decide, by decide⟩ ?_
                clear hC
                intro S320 hC
                refine g_icmp_ne (tgt := 487) K dL_areCarts_323 (by decide) (fun u323 => absurd u323 (fun h => h rfl)) (fun u323 => ?_)
                refine g_iload K dL_areCarts_326 rfl ?_
                refine g_iload K dL_areCarts_328 rfl ?_
                refine g_icmp_ne (tgt := 487) K dL_areCarts_330 (by decide) (fun u330 => absurd u330 (fun h => h (congrArg nI (bn_sum hq)))) (fun u330 => ?_)
                refine g_iload K dL_areCarts_333 rfl ?_
                refine g_aload_n K dL_areCarts_335 rfl ?_
                refine g_iload K dL_areCarts_336 rfl ?_
                refine g_iconst K dL_areCarts_338 kc_3 ?_
                refine g_rdV K (rd hC (c_X6_cartOf hC) (xc_3 hs hin hq)) mw_X6_cartOf ml_L_20 dL_areCarts_339 (by rfl) rfl rfl (by decide) (by simp [Value.category]) ⟨by decide, by decide⟩ ⟨by decide, by decide⟩ ?_
                clear hC
                intro S339 hC
                refine g_icmp_ne (tgt := 487) K dL_areCarts_342 (by decide) (fun u342 => absurd u342 (fun h => h rfl)) (fun u342 => ?_)
                refine g_iload K dL_areCarts_345 rfl ?_
                refine g_aload_n K dL_areCarts_347 rfl ?_
                refine g_iload K dL_areCarts_348 rfl ?_
                refine g_iconst K dL_areCarts_350 kc_1 ?_
                refine g_rdV K (rd hC (c_X6_cartOf hC) (xc_1 hs hin hq)) mw_X6_cartOf ml_L_20 dL_areCarts_351 (by rfl) rfl rfl (by decide) (by simp [Value.category]) ⟨by decide, by decide⟩ ⟨by decide, by decide⟩ ?_
                clear hC
                intro S351 hC
                refine g_icmp_ne (tgt := 487) K dL_areCarts_354 (by decide) (fun u354 => absurd u354 (fun h => h rfl)) (fun u354 => ?_)
                refine g_iload K dL_areCarts_357 rfl ?_
                refine g_if_le (tgt := 487) K dL_areCarts_359 (by decide) (fun u359 => absurd u359 (nI_nle (dw_pos hq) (Nat.lt_of_le_of_lt (dw_le _ _) (by omega)))) (fun u359 => ?_)
                refine g_aload_n K dL_areCarts_362 rfl ?_
                refine g_iload K dL_areCarts_363 rfl ?_
                refine g_iload K dL_areCarts_365 rfl ?_
                refine g_iconst K dL_areCarts_367 kc_0 ?_
                refine g_rdV K (rd hC (c_X6_axleOf hC) (ao_no hs hin hq (n_out (by omega)) 0)) mw_X6_axleOf ml_L_24 dL_areCarts_368 (by rfl) rfl rfl (by decide) (by simp [Value.category]) ⟨by decide, by decide⟩ ⟨by decide, by decide⟩ ?_
                clear hC
                intro S368 hC
                refine g_iconst K dL_areCarts_371 kc_m1 ?_
                refine g_icmp_ne (tgt := 487) K dL_areCarts_372 (by decide) (fun u372 => absurd u372 (by decide)) (fun u372 => ?_)
                refine g_aload_n K dL_areCarts_375 rfl ?_
                refine g_iload K dL_areCarts_376 rfl ?_
                refine g_bipush K dL_areCarts_378 kb_6 ?_
                refine g_rdV K (rd hC (c_X6_cartOf hC) (xc_6 hs hin)) mw_X6_cartOf ml_L_20 dL_areCarts_380 (by rfl) rfl rfl (by decide) (by simp [Value.category]) ⟨by decide, by decide⟩ ⟨by decide, by decide⟩ ?_
                clear hC
                intro S380 hC
                refine g_iload K dL_areCarts_383 rfl ?_
                refine g_bipush K dL_areCarts_385 kb_m5 ?_
                refine g_icmp_eq (tgt := 397) K dL_areCarts_387 (by decide) (fun u387 => ?_) (fun u387 => absurd h1 u387)
                refine g_bipush K dL_areCarts_397 kb_m5 ?_
                refine g_goto (tgt := 411) K dL_areCarts_399 (by decide) ?_
                refine g_icmp_ne (tgt := 487) K dL_areCarts_411 (by decide) (fun u411 => absurd u411 (fun h => h (nt_1 (Or.inl h1)))) (fun u411 => ?_)
                rcases Classical.em (qOf (aZ A) i 3 = -5) with h3 | h3
                · skip
                  refine g_aload_n K dL_areCarts_414 rfl ?_
                  refine g_iload K dL_areCarts_415 rfl ?_
                  refine g_bipush K dL_areCarts_417 kb_7 ?_
                  refine g_rdV K (rd hC (c_X6_cartOf hC) (xc_7 hs hin)) mw_X6_cartOf ml_L_20 dL_areCarts_419 (by rfl) rfl rfl (by decide) (by simp [Value.category]) ⟨by decide, by decide⟩ ⟨by decide, by decide⟩ ?_
                  clear hC
                  intro S419 hC
                  refine g_bipush K dL_areCarts_422 kb_m5 ?_
                  refine g_icmp_ne (tgt := 431) K dL_areCarts_424 (by decide) (fun u424 => absurd u424 (fun h => h h3)) (fun u424 => ?_)
                  refine g_iconst K dL_areCarts_427 kc_1 ?_
                  refine g_goto (tgt := 432) K dL_areCarts_428 (by decide) ?_
                  refine g_aload_n K dL_areCarts_432 rfl ?_
                  refine g_iload K dL_areCarts_433 rfl ?_
                  refine g_bipush K dL_areCarts_435 kb_8 ?_
                  refine g_rdV K (rd hC (c_X6_cartOf hC) (xc_8 hs hin)) mw_X6_cartOf ml_L_20 dL_areCarts_437 (by rfl) rfl rfl (by decide) (by simp [Value.category]) ⟨by decide, by decide⟩ ⟨by decide, by decide⟩ ?_
                  clear hC
                  intro S437 hC
                  refine g_bipush K dL_areCarts_440 kb_m5 ?_
                  refine g_icmp_ne (tgt := 449) K dL_areCarts_442 (by decide) (fun u442 => absurd u442 (fun h => h (hEq.2.2.1.mp h3))) (fun u442 => ?_)
                  refine g_iconst K dL_areCarts_445 kc_1 ?_
                  refine g_goto (tgt := 450) K dL_areCarts_446 (by decide) ?_
                  refine g_icmp_ne (tgt := 487) K dL_areCarts_450 (by decide) (fun u450 => absurd u450 (by decide)) (fun u450 => ?_)
                  refine g_iload K dL_areCarts_453 rfl ?_
                  refine g_bipush K dL_areCarts_455 kb_m5 ?_
                  refine g_icmp_eq (tgt := 471) K dL_areCarts_457 (by decide) (fun u457 => ?_) (fun u457 => ?_)
                  · refine g_aload_n K dL_areCarts_471 rfl ?_
                    refine g_iload K dL_areCarts_472 rfl ?_
                    refine g_bipush K dL_areCarts_474 kb_8 ?_
                    refine g_rdV K (rd hC (c_X6_cartOf hC) (xc_8 hs hin)) mw_X6_cartOf ml_L_20 dL_areCarts_476 (by rfl) rfl rfl (by decide) (by simp [Value.category]) ⟨by decide, by decide⟩ ⟨by decide, by decide⟩ ?_
                    clear hC
                    intro S476 hC
                    refine g_iconst K dL_areCarts_479 kc_5 ?_
                    refine g_icmp_gt (tgt := 487) K dL_areCarts_480 (by decide) (fun u480 => absurd u480 (i_nlt hEq.2.2.2.2)) (fun u480 => ?_)
                    refine g_iconst K dL_areCarts_483 kc_1 ?_
                    refine g_goto (tgt := 488) K dL_areCarts_484 (by decide) ?_
                    refine g_istore_n (ls2 := [_, _, _, some (.int _), _, _, _, _, _, _, _, _, _, _]) K dL_areCarts_488 (by decide) rfl ?_
                    refine g_iinc (ls2 := [_, _, _, _, some (.int _), _, _, _, _, _, _, _, _, _]) K dL_areCarts_489 rfl kc_1 rfl ?_
                    refine g_goto (tgt := 50) K dL_areCarts_492 (by decide) ?_
                    refine g_drop (ls2 := [_, _, _, _, _, none, _, _, _, _, _, _, _, _]) 5 rfl ?_
                    refine g_drop (ls2 := [_, _, _, _, _, _, none, _, _, _, _, _, _, _]) 6 rfl ?_
                    refine g_drop (ls2 := [_, _, _, _, _, _, _, none, _, _, _, _, _, _]) 7 rfl ?_
                    refine g_drop (ls2 := [_, _, _, _, _, _, _, _, none, _, _, _, _, _]) 8 rfl ?_
                    refine g_drop (ls2 := [_, _, _, _, _, _, _, _, _, none, _, _, _, _]) 9 rfl ?_
                    refine g_drop (ls2 := [_, _, _, _, _, _, _, _, _, _, none, _, _, _]) 10 rfl ?_
                    refine g_drop (ls2 := [_, _, _, _, _, _, _, _, _, _, _, none, _, _]) 11 rfl ?_
                    rw [nI_1]
                    exact ihO (i + 1) _ (by omega) (by omega) hC
                  · refine g_aload_n K dL_areCarts_460 rfl ?_
                    refine g_iload K dL_areCarts_461 rfl ?_
                    refine g_bipush K dL_areCarts_463 kb_7 ?_
                    refine g_rdV K (rd hC (c_X6_cartOf hC) (xc_7 hs hin)) mw_X6_cartOf ml_L_20 dL_areCarts_465 (by rfl) rfl rfl (by decide) (by simp [Value.category]) ⟨by decide, by decide⟩ ⟨by decide, by decide⟩ ?_
                    clear hC
                    intro S465 hC
                    refine g_if_le (tgt := 487) K dL_areCarts_468 (by decide) (fun u468 => absurd u468 (i_nle0 (hEq.2.2.2.1 u457))) (fun u468 => ?_)
                    refine g_aload_n K dL_areCarts_471 rfl ?_
                    refine g_iload K dL_areCarts_472 rfl ?_
                    refine g_bipush K dL_areCarts_474 kb_8 ?_
                    refine g_rdV K (rd hC (c_X6_cartOf hC) (xc_8 hs hin)) mw_X6_cartOf ml_L_20 dL_areCarts_476 (by rfl) rfl rfl (by decide) (by simp [Value.category]) ⟨by decide, by decide⟩ ⟨by decide, by decide⟩ ?_
                    clear hC
                    intro S476 hC
                    refine g_iconst K dL_areCarts_479 kc_5 ?_
                    refine g_icmp_gt (tgt := 487) K dL_areCarts_480 (by decide) (fun u480 => absurd u480 (i_nlt hEq.2.2.2.2)) (fun u480 => ?_)
                    refine g_iconst K dL_areCarts_483 kc_1 ?_
                    refine g_goto (tgt := 488) K dL_areCarts_484 (by decide) ?_
                    refine g_istore_n (ls2 := [_, _, _, some (.int _), _, _, _, _, _, _, _, _, _, _]) K dL_areCarts_488 (by decide) rfl ?_
                    refine g_iinc (ls2 := [_, _, _, _, some (.int _), _, _, _, _, _, _, _, _, _]) K dL_areCarts_489 rfl kc_1 rfl ?_
                    refine g_goto (tgt := 50) K dL_areCarts_492 (by decide) ?_
                    refine g_drop (ls2 := [_, _, _, _, _, none, _, _, _, _, _, _, _, _]) 5 rfl ?_
                    refine g_drop (ls2 := [_, _, _, _, _, _, none, _, _, _, _, _, _, _]) 6 rfl ?_
                    refine g_drop (ls2 := [_, _, _, _, _, _, _, none, _, _, _, _, _, _]) 7 rfl ?_
                    refine g_drop (ls2 := [_, _, _, _, _, _, _, _, none, _, _, _, _, _]) 8 rfl ?_
                    refine g_drop (ls2 := [_, _, _, _, _, _, _, _, _, none, _, _, _, _]) 9 rfl ?_
                    refine g_drop (ls2 := [_, _, _, _, _, _, _, _, _, _, none, _, _, _]) 10 rfl ?_
                    refine g_drop (ls2 := [_, _, _, _, _, _, _, _, _, _, _, none, _, _]) 11 rfl ?_
                    rw [nI_1]
                    exact ihO (i + 1) _ (by omega) (by omega) hC
                · skip
                  refine g_aload_n K dL_areCarts_414 rfl ?_
                  refine g_iload K dL_areCarts_415 rfl ?_
                  refine g_bipush K dL_areCarts_417 kb_7 ?_
                  refine g_rdV K (rd hC (c_X6_cartOf hC) (xc_7 hs hin)) mw_X6_cartOf ml_L_20 dL_areCarts_419 (by rfl) rfl rfl (by decide) (by simp [Value.category]) ⟨by decide, by decide⟩ ⟨by decide, by decide⟩ ?_
                  clear hC
                  intro S419 hC
                  refine g_bipush K dL_areCarts_422 kb_m5 ?_
                  refine g_icmp_ne (tgt := 431) K dL_areCarts_424 (by decide) (fun u424 => ?_) (fun u424 => absurd u424 h3)
                  refine g_iconst K dL_areCarts_431 kc_0 ?_
                  refine g_aload_n K dL_areCarts_432 rfl ?_
                  refine g_iload K dL_areCarts_433 rfl ?_
                  refine g_bipush K dL_areCarts_435 kb_8 ?_
                  refine g_rdV K (rd hC (c_X6_cartOf hC) (xc_8 hs hin)) mw_X6_cartOf ml_L_20 dL_areCarts_437 (by rfl) rfl rfl (by decide) (by simp [Value.category]) ⟨by decide, by decide⟩ ⟨by decide, by decide⟩ ?_
                  clear hC
                  intro S437 hC
                  refine g_bipush K dL_areCarts_440 kb_m5 ?_
                  refine g_icmp_ne (tgt := 449) K dL_areCarts_442 (by decide) (fun u442 => ?_) (fun u442 => absurd u442 (fun h => h3 (hEq.2.2.1.mpr h)))
                  refine g_iconst K dL_areCarts_449 kc_0 ?_
                  refine g_icmp_ne (tgt := 487) K dL_areCarts_450 (by decide) (fun u450 => absurd u450 (by decide)) (fun u450 => ?_)
                  refine g_iload K dL_areCarts_453 rfl ?_
                  refine g_bipush K dL_areCarts_455 kb_m5 ?_
                  refine g_icmp_eq (tgt := 471) K dL_areCarts_457 (by decide) (fun u457 => ?_) (fun u457 => ?_)
                  · refine g_aload_n K dL_areCarts_471 rfl ?_
                    refine g_iload K dL_areCarts_472 rfl ?_
                    refine g_bipush K dL_areCarts_474 kb_8 ?_
                    refine g_rdV K (rd hC (c_X6_cartOf hC) (xc_8 hs hin)) mw_X6_cartOf ml_L_20 dL_areCarts_476 (by rfl) rfl rfl (by decide) (by simp [Value.category]) ⟨by decide, by decide⟩ ⟨by decide, by decide⟩ ?_
                    clear hC
                    intro S476 hC
                    refine g_iconst K dL_areCarts_479 kc_5 ?_
                    refine g_icmp_gt (tgt := 487) K dL_areCarts_480 (by decide) (fun u480 => absurd u480 (i_nlt hEq.2.2.2.2)) (fun u480 => ?_)
                    refine g_iconst K dL_areCarts_483 kc_1 ?_
                    refine g_goto (tgt := 488) K dL_areCarts_484 (by decide) ?_
                    refine g_istore_n (ls2 := [_, _, _, some (.int _), _, _, _, _, _, _, _, _, _, _]) K dL_areCarts_488 (by decide) rfl ?_
                    refine g_iinc (ls2 := [_, _, _, _, some (.int _), _, _, _, _, _, _, _, _, _]) K dL_areCarts_489 rfl kc_1 rfl ?_
                    refine g_goto (tgt := 50) K dL_areCarts_492 (by decide) ?_
                    refine g_drop (ls2 := [_, _, _, _, _, none, _, _, _, _, _, _, _, _]) 5 rfl ?_
                    refine g_drop (ls2 := [_, _, _, _, _, _, none, _, _, _, _, _, _, _]) 6 rfl ?_
                    refine g_drop (ls2 := [_, _, _, _, _, _, _, none, _, _, _, _, _, _]) 7 rfl ?_
                    refine g_drop (ls2 := [_, _, _, _, _, _, _, _, none, _, _, _, _, _]) 8 rfl ?_
                    refine g_drop (ls2 := [_, _, _, _, _, _, _, _, _, none, _, _, _, _]) 9 rfl ?_
                    refine g_drop (ls2 := [_, _, _, _, _, _, _, _, _, _, none, _, _, _]) 10 rfl ?_
                    refine g_drop (ls2 := [_, _, _, _, _, _, _, _, _, _, _, none, _, _]) 11 rfl ?_
                    rw [nI_1]
                    exact ihO (i + 1) _ (by omega) (by omega) hC
                  · refine g_aload_n K dL_areCarts_460 rfl ?_
                    refine g_iload K dL_areCarts_461 rfl ?_
                    refine g_bipush K dL_areCarts_463 kb_7 ?_
                    refine g_rdV K (rd hC (c_X6_cartOf hC) (xc_7 hs hin)) mw_X6_cartOf ml_L_20 dL_areCarts_465 (by rfl) rfl rfl (by decide) (by simp [Value.category]) ⟨by decide, by decide⟩ ⟨by decide, by decide⟩ ?_
                    clear hC
                    intro S465 hC
                    refine g_if_le (tgt := 487) K dL_areCarts_468 (by decide) (fun u468 => absurd u468 (i_nle0 (hEq.2.2.2.1 u457))) (fun u468 => ?_)
                    refine g_aload_n K dL_areCarts_471 rfl ?_
                    refine g_iload K dL_areCarts_472 rfl ?_
                    refine g_bipush K dL_areCarts_474 kb_8 ?_
                    refine g_rdV K (rd hC (c_X6_cartOf hC) (xc_8 hs hin)) mw_X6_cartOf ml_L_20 dL_areCarts_476 (by rfl) rfl rfl (by decide) (by simp [Value.category]) ⟨by decide, by decide⟩ ⟨by decide, by decide⟩ ?_
                    clear hC
                    intro S476 hC
                    refine g_iconst K dL_areCarts_479 kc_5 ?_
                    refine g_icmp_gt (tgt := 487) K dL_areCarts_480 (by decide) (fun u480 => absurd u480 (i_nlt hEq.2.2.2.2)) (fun u480 => ?_)
                    refine g_iconst K dL_areCarts_483 kc_1 ?_
                    refine g_goto (tgt := 488) K dL_areCarts_484 (by decide) ?_
                    refine g_istore_n (ls2 := [_, _, _, some (.int _), _, _, _, _, _, _, _, _, _, _]) K dL_areCarts_488 (by decide) rfl ?_
                    refine g_iinc (ls2 := [_, _, _, _, some (.int _), _, _, _, _, _, _, _, _, _]) K dL_areCarts_489 rfl kc_1 rfl ?_
                    refine g_goto (tgt := 50) K dL_areCarts_492 (by decide) ?_
                    refine g_drop (ls2 := [_, _, _, _, _, none, _, _, _, _, _, _, _, _]) 5 rfl ?_
                    refine g_drop (ls2 := [_, _, _, _, _, _, none, _, _, _, _, _, _, _]) 6 rfl ?_
                    refine g_drop (ls2 := [_, _, _, _, _, _, _, none, _, _, _, _, _, _]) 7 rfl ?_
                    refine g_drop (ls2 := [_, _, _, _, _, _, _, _, none, _, _, _, _, _]) 8 rfl ?_
                    refine g_drop (ls2 := [_, _, _, _, _, _, _, _, _, none, _, _, _, _]) 9 rfl ?_
                    refine g_drop (ls2 := [_, _, _, _, _, _, _, _, _, _, none, _, _, _]) 10 rfl ?_
                    refine g_drop (ls2 := [_, _, _, _, _, _, _, _, _, _, _, none, _, _]) 11 rfl ?_
                    rw [nI_1]
                    exact ihO (i + 1) _ (by omega) (by omega) hC
              · skip
                refine g_iload_n K dL_areCarts_283 rfl ?_
                refine g_iload K dL_areCarts_284 rfl ?_
                refine g_bipush K dL_areCarts_286 kb_m5 ?_
                refine g_icmp_ne (tgt := 295) K dL_areCarts_288 (by decide) (fun u288 => ?_) (fun u288 => absurd u288 h1)
                refine g_iconst K dL_areCarts_295 kc_1 ?_
                refine g_iadd K dL_areCarts_296 ?_
                refine g_nm (y := (tarN (aZ A) (i + 1))) (tar_1 h1) ?_
                refine g_istore_n (ls2 := [_, some (.int _), _, _, _, _, _, _, _, _, _, _, _, _]) K dL_areCarts_297 (by decide) rfl ?_
                refine g_iload_n K dL_areCarts_298 rfl ?_
                refine g_if_eq (tgt := 487) K dL_areCarts_299 (by decide) (fun u299 => absurd u299 (by decide)) (fun u299 => ?_)
                refine g_iload K dL_areCarts_302 rfl ?_
                refine g_if_le (tgt := 487) K dL_areCarts_304 (by decide) (fun u304 => absurd u304 (nI_nle hN1 (by omega))) (fun u304 => ?_)
                refine g_iload K dL_areCarts_307 rfl ?_
                refine g_bipush K dL_areCarts_309 kb_6 ?_
                refine g_icmp_ge (tgt := 487) K dL_areCarts_311 (by decide) (fun u311 => absurd u311 (nI_ge (b := 6) (by omega) (by decide))) (fun u311 => ?_)
                refine g_iload K dL_areCarts_314 rfl ?_
                refine g_aload_n K dL_areCarts_316 rfl ?_
                refine g_iload K dL_areCarts_317 rfl ?_
                refine g_iconst K dL_areCarts_319 kc_2 ?_
                refine g_rdV K (rd hC (c_X6_cartOf hC) (xc_2 hs hin hq)) mw_X6_cartOf ml_L_20 dL_areCarts_320 (by rfl) rfl rfl (by decide) (by simp [Value.category]) ⟨by decide, by decide⟩ ⟨by decide, by decide⟩ ?_
                clear hC
                intro S320 hC
                refine g_icmp_ne (tgt := 487) K dL_areCarts_323 (by decide) (fun u323 => absurd u323 (fun h => h rfl)) (fun u323 => ?_)
                refine g_iload K dL_areCarts_326 rfl ?_
                refine g_iload K dL_areCarts_328 rfl ?_
                refine g_icmp_ne (tgt := 487) K dL_areCarts_330 (by decide) (fun u330 => absurd u330 (fun h => h (congrArg nI (bn_sum hq)))) (fun u330 => ?_)
                refine g_iload K dL_areCarts_333 rfl ?_
                refine g_aload_n K dL_areCarts_335 rfl ?_
                refine g_iload K dL_areCarts_336 rfl ?_
                refine g_iconst K dL_areCarts_338 kc_3 ?_
                refine g_rdV K (rd hC (c_X6_cartOf hC) (xc_3 hs hin hq)) mw_X6_cartOf ml_L_20 dL_areCarts_339 (by rfl) rfl rfl (by decide) (by simp [Value.category]) ⟨by decide, by decide⟩ ⟨by decide, by decide⟩ ?_
                clear hC
                intro S339 hC
                refine g_icmp_ne (tgt := 487) K dL_areCarts_342 (by decide) (fun u342 => absurd u342 (fun h => h rfl)) (fun u342 => ?_)
                refine g_iload K dL_areCarts_345 rfl ?_
                refine g_aload_n K dL_areCarts_347 rfl ?_
                refine g_iload K dL_areCarts_348 rfl ?_
                refine g_iconst K dL_areCarts_350 kc_1 ?_
                refine g_rdV K (rd hC (c_X6_cartOf hC) (xc_1 hs hin hq)) mw_X6_cartOf ml_L_20 dL_areCarts_351 (by rfl) rfl rfl (by decide) (by simp [Value.category]) ⟨by decide, by decide⟩ ⟨by decide, by decide⟩ ?_
                clear hC
                intro S351 hC
                refine g_icmp_ne (tgt := 487) K dL_areCarts_354 (by decide) (fun u354 => absurd u354 (fun h => h rfl)) (fun u354 => ?_)
                refine g_iload K dL_areCarts_357 rfl ?_
                refine g_if_le (tgt := 487) K dL_areCarts_359 (by decide) (fun u359 => absurd u359 (nI_nle (dw_pos hq) (Nat.lt_of_le_of_lt (dw_le _ _) (by omega)))) (fun u359 => ?_)
                refine g_aload_n K dL_areCarts_362 rfl ?_
                refine g_iload K dL_areCarts_363 rfl ?_
                refine g_iload K dL_areCarts_365 rfl ?_
                refine g_iconst K dL_areCarts_367 kc_0 ?_
                refine g_rdV K (rd hC (c_X6_axleOf hC) (ao_no hs hin hq (n_out (by omega)) 0)) mw_X6_axleOf ml_L_24 dL_areCarts_368 (by rfl) rfl rfl (by decide) (by simp [Value.category]) ⟨by decide, by decide⟩ ⟨by decide, by decide⟩ ?_
                clear hC
                intro S368 hC
                refine g_iconst K dL_areCarts_371 kc_m1 ?_
                refine g_icmp_ne (tgt := 487) K dL_areCarts_372 (by decide) (fun u372 => absurd u372 (by decide)) (fun u372 => ?_)
                refine g_aload_n K dL_areCarts_375 rfl ?_
                refine g_iload K dL_areCarts_376 rfl ?_
                refine g_bipush K dL_areCarts_378 kb_6 ?_
                refine g_rdV K (rd hC (c_X6_cartOf hC) (xc_6 hs hin)) mw_X6_cartOf ml_L_20 dL_areCarts_380 (by rfl) rfl rfl (by decide) (by simp [Value.category]) ⟨by decide, by decide⟩ ⟨by decide, by decide⟩ ?_
                clear hC
                intro S380 hC
                refine g_iload K dL_areCarts_383 rfl ?_
                refine g_bipush K dL_areCarts_385 kb_m5 ?_
                refine g_icmp_eq (tgt := 397) K dL_areCarts_387 (by decide) (fun u387 => absurd u387 h1) (fun u387 => ?_)
                refine g_iload K dL_areCarts_390 rfl ?_
                refine g_bipush K dL_areCarts_392 kb_m5 ?_
                refine g_icmp_ne (tgt := 402) K dL_areCarts_394 (by decide) (fun u394 => ?_) (fun u394 => ?_)
                · refine g_iload K dL_areCarts_402 rfl ?_
                  refine g_iload K dL_areCarts_404 rfl ?_
                  refine g_isub K dL_areCarts_406 ?_
                  refine g_sipush K dL_areCarts_407 kp_1000 ?_
                  refine g_iadd K dL_areCarts_410 ?_
                  refine g_icmp_ne (tgt := 487) K dL_areCarts_411 (by decide) (fun u411 => absurd u411 (fun h => h (by first | exact nt_2 h1 u394 | exact nt_1 (Or.inr u394)))) (fun u411 => ?_)
                  rcases Classical.em (qOf (aZ A) i 3 = -5) with h3 | h3
                  · skip
                    refine g_aload_n K dL_areCarts_414 rfl ?_
                    refine g_iload K dL_areCarts_415 rfl ?_
                    refine g_bipush K dL_areCarts_417 kb_7 ?_
                    refine g_rdV K (rd hC (c_X6_cartOf hC) (xc_7 hs hin)) mw_X6_cartOf ml_L_20 dL_areCarts_419 (by rfl) rfl rfl (by decide) (by simp [Value.category]) ⟨by decide, by decide⟩ ⟨by decide, by decide⟩ ?_
                    clear hC
                    intro S419 hC
                    refine g_bipush K dL_areCarts_422 kb_m5 ?_
                    refine g_icmp_ne (tgt := 431) K dL_areCarts_424 (by decide) (fun u424 => absurd u424 (fun h => h h3)) (fun u424 => ?_)
                    refine g_iconst K dL_areCarts_427 kc_1 ?_
                    refine g_goto (tgt := 432) K dL_areCarts_428 (by decide) ?_
                    refine g_aload_n K dL_areCarts_432 rfl ?_
                    refine g_iload K dL_areCarts_433 rfl ?_
                    refine g_bipush K dL_areCarts_435 kb_8 ?_
                    refine g_rdV K (rd hC (c_X6_cartOf hC) (xc_8 hs hin)) mw_X6_cartOf ml_L_20 dL_areCarts_437 (by rfl) rfl rfl (by decide) (by simp [Value.category]) ⟨by decide, by decide⟩ ⟨by decide, by decide⟩ ?_
                    clear hC
                    intro S437 hC
                    refine g_bipush K dL_areCarts_440 kb_m5 ?_
                    refine g_icmp_ne (tgt := 449) K dL_areCarts_442 (by decide) (fun u442 => absurd u442 (fun h => h (hEq.2.2.1.mp h3))) (fun u442 => ?_)
                    refine g_iconst K dL_areCarts_445 kc_1 ?_
                    refine g_goto (tgt := 450) K dL_areCarts_446 (by decide) ?_
                    refine g_icmp_ne (tgt := 487) K dL_areCarts_450 (by decide) (fun u450 => absurd u450 (by decide)) (fun u450 => ?_)
                    refine g_iload K dL_areCarts_453 rfl ?_
                    refine g_bipush K dL_areCarts_455 kb_m5 ?_
                    refine g_icmp_eq (tgt := 471) K dL_areCarts_457 (by decide) (fun u457 => ?_) (fun u457 => ?_)
                    · refine g_aload_n K dL_areCarts_471 rfl ?_
                      refine g_iload K dL_areCarts_472 rfl ?_
                      refine g_bipush K dL_areCarts_474 kb_8 ?_
                      refine g_rdV K (rd hC (c_X6_cartOf hC) (xc_8 hs hin)) mw_X6_cartOf ml_L_20 dL_areCarts_476 (by rfl) rfl rfl (by decide) (by simp [Value.category]) ⟨by decide, by decide⟩ ⟨by decide, by decide⟩ ?_
                      clear hC
                      intro S476 hC
                      refine g_iconst K dL_areCarts_479 kc_5 ?_
                      refine g_icmp_gt (tgt := 487) K dL_areCarts_480 (by decide) (fun u480 => absurd u480 (i_nlt hEq.2.2.2.2)) (fun u480 => ?_)
                      refine g_iconst K dL_areCarts_483 kc_1 ?_
                      refine g_goto (tgt := 488) K dL_areCarts_484 (by decide) ?_
                      refine g_istore_n (ls2 := [_, _, _, some (.int _), _, _, _, _, _, _, _, _, _, _]) K dL_areCarts_488 (by decide) rfl ?_
                      refine g_iinc (ls2 := [_, _, _, _, some (.int _), _, _, _, _, _, _, _, _, _]) K dL_areCarts_489 rfl kc_1 rfl ?_
                      refine g_goto (tgt := 50) K dL_areCarts_492 (by decide) ?_
                      refine g_drop (ls2 := [_, _, _, _, _, none, _, _, _, _, _, _, _, _]) 5 rfl ?_
                      refine g_drop (ls2 := [_, _, _, _, _, _, none, _, _, _, _, _, _, _]) 6 rfl ?_
                      refine g_drop (ls2 := [_, _, _, _, _, _, _, none, _, _, _, _, _, _]) 7 rfl ?_
                      refine g_drop (ls2 := [_, _, _, _, _, _, _, _, none, _, _, _, _, _]) 8 rfl ?_
                      refine g_drop (ls2 := [_, _, _, _, _, _, _, _, _, none, _, _, _, _]) 9 rfl ?_
                      refine g_drop (ls2 := [_, _, _, _, _, _, _, _, _, _, none, _, _, _]) 10 rfl ?_
                      refine g_drop (ls2 := [_, _, _, _, _, _, _, _, _, _, _, none, _, _]) 11 rfl ?_
                      rw [nI_1]
                      exact ihO (i + 1) _ (by omega) (by omega) hC
                    · refine g_aload_n K dL_areCarts_460 rfl ?_
                      refine g_iload K dL_areCarts_461 rfl ?_
                      refine g_bipush K dL_areCarts_463 kb_7 ?_
                      refine g_rdV K (rd hC (c_X6_cartOf hC) (xc_7 hs hin)) mw_X6_cartOf ml_L_20 dL_areCarts_465 (by rfl) rfl rfl (by decide) (by simp [Value.category]) ⟨by decide, by decide⟩ ⟨by decide, by decide⟩ ?_
                      clear hC
                      intro S465 hC
                      refine g_if_le (tgt := 487) K dL_areCarts_468 (by decide) (fun u468 => absurd u468 (i_nle0 (hEq.2.2.2.1 u457))) (fun u468 => ?_)
                      refine g_aload_n K dL_areCarts_471 rfl ?_
                      refine g_iload K dL_areCarts_472 rfl ?_
                      refine g_bipush K dL_areCarts_474 kb_8 ?_
                      refine g_rdV K (rd hC (c_X6_cartOf hC) (xc_8 hs hin)) mw_X6_cartOf ml_L_20 dL_areCarts_476 (by rfl) rfl rfl (by decide) (by simp [Value.category]) ⟨by decide, by decide⟩ ⟨by decide, by decide⟩ ?_
                      clear hC
                      intro S476 hC
                      refine g_iconst K dL_areCarts_479 kc_5 ?_
                      refine g_icmp_gt (tgt := 487) K dL_areCarts_480 (by decide) (fun u480 => absurd u480 (i_nlt hEq.2.2.2.2)) (fun u480 => ?_)
                      refine g_iconst K dL_areCarts_483 kc_1 ?_
                      refine g_goto (tgt := 488) K dL_areCarts_484 (by decide) ?_
                      refine g_istore_n (ls2 := [_, _, _, some (.int _), _, _, _, _, _, _, _, _, _, _]) K dL_areCarts_488 (by decide) rfl ?_
                      refine g_iinc (ls2 := [_, _, _, _, some (.int _), _, _, _, _, _, _, _, _, _]) K dL_areCarts_489 rfl kc_1 rfl ?_
                      refine g_goto (tgt := 50) K dL_areCarts_492 (by decide) ?_
                      refine g_drop (ls2 := [_, _, _, _, _, none, _, _, _, _, _, _, _, _]) 5 rfl ?_
                      refine g_drop (ls2 := [_, _, _, _, _, _, none, _, _, _, _, _, _, _]) 6 rfl ?_
                      refine g_drop (ls2 := [_, _, _, _, _, _, _, none, _, _, _, _, _, _]) 7 rfl ?_
                      refine g_drop (ls2 := [_, _, _, _, _, _, _, _, none, _, _, _, _, _]) 8 rfl ?_
                      refine g_drop (ls2 := [_, _, _, _, _, _, _, _, _, none, _, _, _, _]) 9 rfl ?_
                      refine g_drop (ls2 := [_, _, _, _, _, _, _, _, _, _, none, _, _, _]) 10 rfl ?_
                      refine g_drop (ls2 := [_, _, _, _, _, _, _, _, _, _, _, none, _, _]) 11 rfl ?_
                      rw [nI_1]
                      exact ihO (i + 1) _ (by omega) (by omega) hC
                  · skip
                    refine g_aload_n K dL_areCarts_414 rfl ?_
                    refine g_iload K dL_areCarts_415 rfl ?_
                    refine g_bipush K dL_areCarts_417 kb_7 ?_
                    refine g_rdV K (rd hC (c_X6_cartOf hC) (xc_7 hs hin)) mw_X6_cartOf ml_L_20 dL_areCarts_419 (by rfl) rfl rfl (by decide) (by simp [Value.category]) ⟨by decide, by decide⟩ ⟨by decide, by decide⟩ ?_
                    clear hC
                    intro S419 hC
                    refine g_bipush K dL_areCarts_422 kb_m5 ?_
                    refine g_icmp_ne (tgt := 431) K dL_areCarts_424 (by decide) (fun u424 => ?_) (fun u424 => absurd u424 h3)
                    refine g_iconst K dL_areCarts_431 kc_0 ?_
                    refine g_aload_n K dL_areCarts_432 rfl ?_
                    refine g_iload K dL_areCarts_433 rfl ?_
                    refine g_bipush K dL_areCarts_435 kb_8 ?_
                    refine g_rdV K (rd hC (c_X6_cartOf hC) (xc_8 hs hin)) mw_X6_cartOf ml_L_20 dL_areCarts_437 (by rfl) rfl rfl (by decide) (by simp [Value.category]) ⟨by decide, by decide⟩ ⟨by decide, by decide⟩ ?_
                    clear hC
                    intro S437 hC
                    refine g_bipush K dL_areCarts_440 kb_m5 ?_
                    refine g_icmp_ne (tgt := 449) K dL_areCarts_442 (by decide) (fun u442 => ?_) (fun u442 => absurd u442 (fun h => h3 (hEq.2.2.1.mpr h)))
                    refine g_iconst K dL_areCarts_449 kc_0 ?_
                    refine g_icmp_ne (tgt := 487) K dL_areCarts_450 (by decide) (fun u450 => absurd u450 (by decide)) (fun u450 => ?_)
                    refine g_iload K dL_areCarts_453 rfl ?_
                    refine g_bipush K dL_areCarts_455 kb_m5 ?_
                    refine g_icmp_eq (tgt := 471) K dL_areCarts_457 (by decide) (fun u457 => ?_) (fun u457 => ?_)
                    · refine g_aload_n K dL_areCarts_471 rfl ?_
                      refine g_iload K dL_areCarts_472 rfl ?_
                      refine g_bipush K dL_areCarts_474 kb_8 ?_
                      refine g_rdV K (rd hC (c_X6_cartOf hC) (xc_8 hs hin)) mw_X6_cartOf ml_L_20 dL_areCarts_476 (by rfl) rfl rfl (by decide) (by simp [Value.category]) ⟨by decide, by decide⟩ ⟨by decide, by decide⟩ ?_
                      clear hC
                      intro S476 hC
                      refine g_iconst K dL_areCarts_479 kc_5 ?_
                      refine g_icmp_gt (tgt := 487) K dL_areCarts_480 (by decide) (fun u480 => absurd u480 (i_nlt hEq.2.2.2.2)) (fun u480 => ?_)
                      refine g_iconst K dL_areCarts_483 kc_1 ?_
                      refine g_goto (tgt := 488) K dL_areCarts_484 (by decide) ?_
                      refine g_istore_n (ls2 := [_, _, _, some (.int _), _, _, _, _, _, _, _, _, _, _]) K dL_areCarts_488 (by decide) rfl ?_
                      refine g_iinc (ls2 := [_, _, _, _, some (.int _), _, _, _, _, _, _, _, _, _]) K dL_areCarts_489 rfl kc_1 rfl ?_
                      refine g_goto (tgt := 50) K dL_areCarts_492 (by decide) ?_
                      refine g_drop (ls2 := [_, _, _, _, _, none, _, _, _, _, _, _, _, _]) 5 rfl ?_
                      refine g_drop (ls2 := [_, _, _, _, _, _, none, _, _, _, _, _, _, _]) 6 rfl ?_
                      refine g_drop (ls2 := [_, _, _, _, _, _, _, none, _, _, _, _, _, _]) 7 rfl ?_
                      refine g_drop (ls2 := [_, _, _, _, _, _, _, _, none, _, _, _, _, _]) 8 rfl ?_
                      refine g_drop (ls2 := [_, _, _, _, _, _, _, _, _, none, _, _, _, _]) 9 rfl ?_
                      refine g_drop (ls2 := [_, _, _, _, _, _, _, _, _, _, none, _, _, _]) 10 rfl ?_
                      refine g_drop (ls2 := [_, _, _, _, _, _, _, _, _, _, _, none, _, _]) 11 rfl ?_
                      rw [nI_1]
                      exact ihO (i + 1) _ (by omega) (by omega) hC
                    · refine g_aload_n K dL_areCarts_460 rfl ?_
                      refine g_iload K dL_areCarts_461 rfl ?_
                      refine g_bipush K dL_areCarts_463 kb_7 ?_
                      refine g_rdV K (rd hC (c_X6_cartOf hC) (xc_7 hs hin)) mw_X6_cartOf ml_L_20 dL_areCarts_465 (by rfl) rfl rfl (by decide) (by simp [Value.category]) ⟨by decide, by decide⟩ ⟨by decide, by decide⟩ ?_
                      clear hC
                      intro S465 hC
                      refine g_if_le (tgt := 487) K dL_areCarts_468 (by decide) (fun u468 => absurd u468 (i_nle0 (hEq.2.2.2.1 u457))) (fun u468 => ?_)
                      refine g_aload_n K dL_areCarts_471 rfl ?_
                      refine g_iload K dL_areCarts_472 rfl ?_
                      refine g_bipush K dL_areCarts_474 kb_8 ?_
                      refine g_rdV K (rd hC (c_X6_cartOf hC) (xc_8 hs hin)) mw_X6_cartOf ml_L_20 dL_areCarts_476 (by rfl) rfl rfl (by decide) (by simp [Value.category]) ⟨by decide, by decide⟩ ⟨by decide, by decide⟩ ?_
                      clear hC
                      intro S476 hC
                      refine g_iconst K dL_areCarts_479 kc_5 ?_
                      refine g_icmp_gt (tgt := 487) K dL_areCarts_480 (by decide) (fun u480 => absurd u480 (i_nlt hEq.2.2.2.2)) (fun u480 => ?_)
                      refine g_iconst K dL_areCarts_483 kc_1 ?_
                      refine g_goto (tgt := 488) K dL_areCarts_484 (by decide) ?_
                      refine g_istore_n (ls2 := [_, _, _, some (.int _), _, _, _, _, _, _, _, _, _, _]) K dL_areCarts_488 (by decide) rfl ?_
                      refine g_iinc (ls2 := [_, _, _, _, some (.int _), _, _, _, _, _, _, _, _, _]) K dL_areCarts_489 rfl kc_1 rfl ?_
                      refine g_goto (tgt := 50) K dL_areCarts_492 (by decide) ?_
                      refine g_drop (ls2 := [_, _, _, _, _, none, _, _, _, _, _, _, _, _]) 5 rfl ?_
                      refine g_drop (ls2 := [_, _, _, _, _, _, none, _, _, _, _, _, _, _]) 6 rfl ?_
                      refine g_drop (ls2 := [_, _, _, _, _, _, _, none, _, _, _, _, _, _]) 7 rfl ?_
                      refine g_drop (ls2 := [_, _, _, _, _, _, _, _, none, _, _, _, _, _]) 8 rfl ?_
                      refine g_drop (ls2 := [_, _, _, _, _, _, _, _, _, none, _, _, _, _]) 9 rfl ?_
                      refine g_drop (ls2 := [_, _, _, _, _, _, _, _, _, _, none, _, _, _]) 10 rfl ?_
                      refine g_drop (ls2 := [_, _, _, _, _, _, _, _, _, _, _, none, _, _]) 11 rfl ?_
                      rw [nI_1]
                      exact ihO (i + 1) _ (by omega) (by omega) hC
                · refine g_bipush K dL_areCarts_397 kb_m5 ?_
                  refine g_goto (tgt := 411) K dL_areCarts_399 (by decide) ?_
                  refine g_icmp_ne (tgt := 487) K dL_areCarts_411 (by decide) (fun u411 => absurd u411 (fun h => h (by first | exact nt_2 h1 u394 | exact nt_1 (Or.inr u394)))) (fun u411 => ?_)
                  rcases Classical.em (qOf (aZ A) i 3 = -5) with h3 | h3
                  · skip
                    refine g_aload_n K dL_areCarts_414 rfl ?_
                    refine g_iload K dL_areCarts_415 rfl ?_
                    refine g_bipush K dL_areCarts_417 kb_7 ?_
                    refine g_rdV K (rd hC (c_X6_cartOf hC) (xc_7 hs hin)) mw_X6_cartOf ml_L_20 dL_areCarts_419 (by rfl) rfl rfl (by decide) (by simp [Value.category]) ⟨by decide, by decide⟩ ⟨by decide, by decide⟩ ?_
                    clear hC
                    intro S419 hC
                    refine g_bipush K dL_areCarts_422 kb_m5 ?_
                    refine g_icmp_ne (tgt := 431) K dL_areCarts_424 (by decide) (fun u424 => absurd u424 (fun h => h h3)) (fun u424 => ?_)
                    refine g_iconst K dL_areCarts_427 kc_1 ?_
                    refine g_goto (tgt := 432) K dL_areCarts_428 (by decide) ?_
                    refine g_aload_n K dL_areCarts_432 rfl ?_
                    refine g_iload K dL_areCarts_433 rfl ?_
                    refine g_bipush K dL_areCarts_435 kb_8 ?_
                    refine g_rdV K (rd hC (c_X6_cartOf hC) (xc_8 hs hin)) mw_X6_cartOf ml_L_20 dL_areCarts_437 (by rfl) rfl rfl (by decide) (by simp [Value.category]) ⟨by decide, by decide⟩ ⟨by decide, by decide⟩ ?_
                    clear hC
                    intro S437 hC
                    refine g_bipush K dL_areCarts_440 kb_m5 ?_
                    refine g_icmp_ne (tgt := 449) K dL_areCarts_442 (by decide) (fun u442 => absurd u442 (fun h => h (hEq.2.2.1.mp h3))) (fun u442 => ?_)
                    refine g_iconst K dL_areCarts_445 kc_1 ?_
                    refine g_goto (tgt := 450) K dL_areCarts_446 (by decide) ?_
                    refine g_icmp_ne (tgt := 487) K dL_areCarts_450 (by decide) (fun u450 => absurd u450 (by decide)) (fun u450 => ?_)
                    refine g_iload K dL_areCarts_453 rfl ?_
                    refine g_bipush K dL_areCarts_455 kb_m5 ?_
                    refine g_icmp_eq (tgt := 471) K dL_areCarts_457 (by decide) (fun u457 => ?_) (fun u457 => ?_)
                    · refine g_aload_n K dL_areCarts_471 rfl ?_
                      refine g_iload K dL_areCarts_472 rfl ?_
                      refine g_bipush K dL_areCarts_474 kb_8 ?_
                      refine g_rdV K (rd hC (c_X6_cartOf hC) (xc_8 hs hin)) mw_X6_cartOf ml_L_20 dL_areCarts_476 (by rfl) rfl rfl (by decide) (by simp [Value.category]) ⟨by decide, by decide⟩ ⟨by decide, by decide⟩ ?_
                      clear hC
                      intro S476 hC
                      refine g_iconst K dL_areCarts_479 kc_5 ?_
                      refine g_icmp_gt (tgt := 487) K dL_areCarts_480 (by decide) (fun u480 => absurd u480 (i_nlt hEq.2.2.2.2)) (fun u480 => ?_)
                      refine g_iconst K dL_areCarts_483 kc_1 ?_
                      refine g_goto (tgt := 488) K dL_areCarts_484 (by decide) ?_
                      refine g_istore_n (ls2 := [_, _, _, some (.int _), _, _, _, _, _, _, _, _, _, _]) K dL_areCarts_488 (by decide) rfl ?_
                      refine g_iinc (ls2 := [_, _, _, _, some (.int _), _, _, _, _, _, _, _, _, _]) K dL_areCarts_489 rfl kc_1 rfl ?_
                      refine g_goto (tgt := 50) K dL_areCarts_492 (by decide) ?_
                      refine g_drop (ls2 := [_, _, _, _, _, none, _, _, _, _, _, _, _, _]) 5 rfl ?_
                      refine g_drop (ls2 := [_, _, _, _, _, _, none, _, _, _, _, _, _, _]) 6 rfl ?_
                      refine g_drop (ls2 := [_, _, _, _, _, _, _, none, _, _, _, _, _, _]) 7 rfl ?_
                      refine g_drop (ls2 := [_, _, _, _, _, _, _, _, none, _, _, _, _, _]) 8 rfl ?_
                      refine g_drop (ls2 := [_, _, _, _, _, _, _, _, _, none, _, _, _, _]) 9 rfl ?_
                      refine g_drop (ls2 := [_, _, _, _, _, _, _, _, _, _, none, _, _, _]) 10 rfl ?_
                      refine g_drop (ls2 := [_, _, _, _, _, _, _, _, _, _, _, none, _, _]) 11 rfl ?_
                      rw [nI_1]
                      exact ihO (i + 1) _ (by omega) (by omega) hC
                    · refine g_aload_n K dL_areCarts_460 rfl ?_
                      refine g_iload K dL_areCarts_461 rfl ?_
                      refine g_bipush K dL_areCarts_463 kb_7 ?_
                      refine g_rdV K (rd hC (c_X6_cartOf hC) (xc_7 hs hin)) mw_X6_cartOf ml_L_20 dL_areCarts_465 (by rfl) rfl rfl (by decide) (by simp [Value.category]) ⟨by decide, by decide⟩ ⟨by decide, by decide⟩ ?_
                      clear hC
                      intro S465 hC
                      refine g_if_le (tgt := 487) K dL_areCarts_468 (by decide) (fun u468 => absurd u468 (i_nle0 (hEq.2.2.2.1 u457))) (fun u468 => ?_)
                      refine g_aload_n K dL_areCarts_471 rfl ?_
                      refine g_iload K dL_areCarts_472 rfl ?_
                      refine g_bipush K dL_areCarts_474 kb_8 ?_
                      refine g_rdV K (rd hC (c_X6_cartOf hC) (xc_8 hs hin)) mw_X6_cartOf ml_L_20 dL_areCarts_476 (by rfl) rfl rfl (by decide) (by simp [Value.category]) ⟨by decide, by decide⟩ ⟨by decide, by decide⟩ ?_
                      clear hC
                      intro S476 hC
                      refine g_iconst K dL_areCarts_479 kc_5 ?_
                      refine g_icmp_gt (tgt := 487) K dL_areCarts_480 (by decide) (fun u480 => absurd u480 (i_nlt hEq.2.2.2.2)) (fun u480 => ?_)
                      refine g_iconst K dL_areCarts_483 kc_1 ?_
                      refine g_goto (tgt := 488) K dL_areCarts_484 (by decide) ?_
                      refine g_istore_n (ls2 := [_, _, _, some (.int _), _, _, _, _, _, _, _, _, _, _]) K dL_areCarts_488 (by decide) rfl ?_
                      refine g_iinc (ls2 := [_, _, _, _, some (.int _), _, _, _, _, _, _, _, _, _]) K dL_areCarts_489 rfl kc_1 rfl ?_
                      refine g_goto (tgt := 50) K dL_areCarts_492 (by decide) ?_
                      refine g_drop (ls2 := [_, _, _, _, _, none, _, _, _, _, _, _, _, _]) 5 rfl ?_
                      refine g_drop (ls2 := [_, _, _, _, _, _, none, _, _, _, _, _, _, _]) 6 rfl ?_
                      refine g_drop (ls2 := [_, _, _, _, _, _, _, none, _, _, _, _, _, _]) 7 rfl ?_
                      refine g_drop (ls2 := [_, _, _, _, _, _, _, _, none, _, _, _, _, _]) 8 rfl ?_
                      refine g_drop (ls2 := [_, _, _, _, _, _, _, _, _, none, _, _, _, _]) 9 rfl ?_
                      refine g_drop (ls2 := [_, _, _, _, _, _, _, _, _, _, none, _, _, _]) 10 rfl ?_
                      refine g_drop (ls2 := [_, _, _, _, _, _, _, _, _, _, _, none, _, _]) 11 rfl ?_
                      rw [nI_1]
                      exact ihO (i + 1) _ (by omega) (by omega) hC
                  · skip
                    refine g_aload_n K dL_areCarts_414 rfl ?_
                    refine g_iload K dL_areCarts_415 rfl ?_
                    refine g_bipush K dL_areCarts_417 kb_7 ?_
                    refine g_rdV K (rd hC (c_X6_cartOf hC) (xc_7 hs hin)) mw_X6_cartOf ml_L_20 dL_areCarts_419 (by rfl) rfl rfl (by decide) (by simp [Value.category]) ⟨by decide, by decide⟩ ⟨by decide, by decide⟩ ?_
                    clear hC
                    intro S419 hC
                    refine g_bipush K dL_areCarts_422 kb_m5 ?_
                    refine g_icmp_ne (tgt := 431) K dL_areCarts_424 (by decide) (fun u424 => ?_) (fun u424 => absurd u424 h3)
                    refine g_iconst K dL_areCarts_431 kc_0 ?_
                    refine g_aload_n K dL_areCarts_432 rfl ?_
                    refine g_iload K dL_areCarts_433 rfl ?_
                    refine g_bipush K dL_areCarts_435 kb_8 ?_
                    refine g_rdV K (rd hC (c_X6_cartOf hC) (xc_8 hs hin)) mw_X6_cartOf ml_L_20 dL_areCarts_437 (by rfl) rfl rfl (by decide) (by simp [Value.category]) ⟨by decide, by decide⟩ ⟨by decide, by decide⟩ ?_
                    clear hC
                    intro S437 hC
                    refine g_bipush K dL_areCarts_440 kb_m5 ?_
                    refine g_icmp_ne (tgt := 449) K dL_areCarts_442 (by decide) (fun u442 => ?_) (fun u442 => absurd u442 (fun h => h3 (hEq.2.2.1.mpr h)))
                    refine g_iconst K dL_areCarts_449 kc_0 ?_
                    refine g_icmp_ne (tgt := 487) K dL_areCarts_450 (by decide) (fun u450 => absurd u450 (by decide)) (fun u450 => ?_)
                    refine g_iload K dL_areCarts_453 rfl ?_
                    refine g_bipush K dL_areCarts_455 kb_m5 ?_
                    refine g_icmp_eq (tgt := 471) K dL_areCarts_457 (by decide) (fun u457 => ?_) (fun u457 => ?_)
                    · refine g_aload_n K dL_areCarts_471 rfl ?_
                      refine g_iload K dL_areCarts_472 rfl ?_
                      refine g_bipush K dL_areCarts_474 kb_8 ?_
                      refine g_rdV K (rd hC (c_X6_cartOf hC) (xc_8 hs hin)) mw_X6_cartOf ml_L_20 dL_areCarts_476 (by rfl) rfl rfl (by decide) (by simp [Value.category]) ⟨by decide, by decide⟩ ⟨by decide, by decide⟩ ?_
                      clear hC
                      intro S476 hC
                      refine g_iconst K dL_areCarts_479 kc_5 ?_
                      refine g_icmp_gt (tgt := 487) K dL_areCarts_480 (by decide) (fun u480 => absurd u480 (i_nlt hEq.2.2.2.2)) (fun u480 => ?_)
                      refine g_iconst K dL_areCarts_483 kc_1 ?_
                      refine g_goto (tgt := 488) K dL_areCarts_484 (by decide) ?_
                      refine g_istore_n (ls2 := [_, _, _, some (.int _), _, _, _, _, _, _, _, _, _, _]) K dL_areCarts_488 (by decide) rfl ?_
                      refine g_iinc (ls2 := [_, _, _, _, some (.int _), _, _, _, _, _, _, _, _, _]) K dL_areCarts_489 rfl kc_1 rfl ?_
                      refine g_goto (tgt := 50) K dL_areCarts_492 (by decide) ?_
                      refine g_drop (ls2 := [_, _, _, _, _, none, _, _, _, _, _, _, _, _]) 5 rfl ?_
                      refine g_drop (ls2 := [_, _, _, _, _, _, none, _, _, _, _, _, _, _]) 6 rfl ?_
                      refine g_drop (ls2 := [_, _, _, _, _, _, _, none, _, _, _, _, _, _]) 7 rfl ?_
                      refine g_drop (ls2 := [_, _, _, _, _, _, _, _, none, _, _, _, _, _]) 8 rfl ?_
                      refine g_drop (ls2 := [_, _, _, _, _, _, _, _, _, none, _, _, _, _]) 9 rfl ?_
                      refine g_drop (ls2 := [_, _, _, _, _, _, _, _, _, _, none, _, _, _]) 10 rfl ?_
                      refine g_drop (ls2 := [_, _, _, _, _, _, _, _, _, _, _, none, _, _]) 11 rfl ?_
                      rw [nI_1]
                      exact ihO (i + 1) _ (by omega) (by omega) hC
                    · refine g_aload_n K dL_areCarts_460 rfl ?_
                      refine g_iload K dL_areCarts_461 rfl ?_
                      refine g_bipush K dL_areCarts_463 kb_7 ?_
                      refine g_rdV K (rd hC (c_X6_cartOf hC) (xc_7 hs hin)) mw_X6_cartOf ml_L_20 dL_areCarts_465 (by rfl) rfl rfl (by decide) (by simp [Value.category]) ⟨by decide, by decide⟩ ⟨by decide, by decide⟩ ?_
                      clear hC
                      intro S465 hC
                      refine g_if_le (tgt := 487) K dL_areCarts_468 (by decide) (fun u468 => absurd u468 (i_nle0 (hEq.2.2.2.1 u457))) (fun u468 => ?_)
                      refine g_aload_n K dL_areCarts_471 rfl ?_
                      refine g_iload K dL_areCarts_472 rfl ?_
                      refine g_bipush K dL_areCarts_474 kb_8 ?_
                      refine g_rdV K (rd hC (c_X6_cartOf hC) (xc_8 hs hin)) mw_X6_cartOf ml_L_20 dL_areCarts_476 (by rfl) rfl rfl (by decide) (by simp [Value.category]) ⟨by decide, by decide⟩ ⟨by decide, by decide⟩ ?_
                      clear hC
                      intro S476 hC
                      refine g_iconst K dL_areCarts_479 kc_5 ?_
                      refine g_icmp_gt (tgt := 487) K dL_areCarts_480 (by decide) (fun u480 => absurd u480 (i_nlt hEq.2.2.2.2)) (fun u480 => ?_)
                      refine g_iconst K dL_areCarts_483 kc_1 ?_
                      refine g_goto (tgt := 488) K dL_areCarts_484 (by decide) ?_
                      refine g_istore_n (ls2 := [_, _, _, some (.int _), _, _, _, _, _, _, _, _, _, _]) K dL_areCarts_488 (by decide) rfl ?_
                      refine g_iinc (ls2 := [_, _, _, _, some (.int _), _, _, _, _, _, _, _, _, _]) K dL_areCarts_489 rfl kc_1 rfl ?_
                      refine g_goto (tgt := 50) K dL_areCarts_492 (by decide) ?_
                      refine g_drop (ls2 := [_, _, _, _, _, none, _, _, _, _, _, _, _, _]) 5 rfl ?_
                      refine g_drop (ls2 := [_, _, _, _, _, _, none, _, _, _, _, _, _, _]) 6 rfl ?_
                      refine g_drop (ls2 := [_, _, _, _, _, _, _, none, _, _, _, _, _, _]) 7 rfl ?_
                      refine g_drop (ls2 := [_, _, _, _, _, _, _, _, none, _, _, _, _, _]) 8 rfl ?_
                      refine g_drop (ls2 := [_, _, _, _, _, _, _, _, _, none, _, _, _, _]) 9 rfl ?_
                      refine g_drop (ls2 := [_, _, _, _, _, _, _, _, _, _, none, _, _, _]) 10 rfl ?_
                      refine g_drop (ls2 := [_, _, _, _, _, _, _, _, _, _, _, none, _, _]) 11 rfl ?_
                      rw [nI_1]
                      exact ihO (i + 1) _ (by omega) (by omega) hC
            · have hjN : j < N := by
                rw [nI_leI (by omega) (by omega)] at u88
                omega
              have hax := hq.2.2.2.1 j hjN
              have hkg := kg_ok hq hjN
              refine g_iload_n K dL_areCarts_91 rfl ?_
              refine g_if_eq (tgt := 265) K dL_areCarts_92 (by decide) (fun u92 => absurd u92 (by decide)) (fun u92 => ?_)
              rcases hax.2.2.2.2.symm with hl | hl
              · skip
                refine g_aload_n K dL_areCarts_95 rfl ?_
                refine g_iload K dL_areCarts_96 rfl ?_
                refine g_iload K dL_areCarts_98 rfl ?_
                refine g_iconst K dL_areCarts_100 kc_0 ?_
                refine g_rdV K (rd hC (c_X6_axleOf hC) ((ao_0 hs hin hq hjN).trans hkg.1)) mw_X6_axleOf ml_L_24 dL_areCarts_101 (by rfl) rfl rfl (by decide) (by simp [Value.category]) ⟨by decide, by decide⟩ ⟨by decide, by decide⟩ ?_
                clear hC
                intro S101 hC
                refine g_istore (ls2 := [_, _, _, _, _, _, _, _, _, _, _, some (.int _), _, _]) K dL_areCarts_104 (by decide) rfl ?_
                refine g_aload_n K dL_areCarts_106 rfl ?_
                refine g_iload K dL_areCarts_107 rfl ?_
                refine g_iload K dL_areCarts_109 rfl ?_
                refine g_iconst K dL_areCarts_111 kc_2 ?_
                refine g_rdV K (rd hC (c_X6_axleOf hC) ((ao_2 hs hin hq hjN).trans hl)) mw_X6_axleOf ml_L_24 dL_areCarts_112 (by rfl) rfl rfl (by decide) (by simp [Value.category]) ⟨by decide, by decide⟩ ⟨by decide, by decide⟩ ?_
                clear hC
                intro S112 hC
                refine g_iconst K dL_areCarts_115 kc_1 ?_
                refine g_icmp_ne (tgt := 123) K dL_areCarts_116 (by decide) (fun u116 => absurd u116 (by decide)) (fun u116 => ?_)
                refine g_iconst K dL_areCarts_119 kc_1 ?_
                refine g_goto (tgt := 124) K dL_areCarts_120 (by decide) ?_
                refine g_istore (ls2 := [_, _, _, _, _, _, _, _, _, _, _, _, some (.int _), _]) K dL_areCarts_124 (by decide) rfl ?_
                refine g_aload_n K dL_areCarts_126 rfl ?_
                refine g_iload K dL_areCarts_127 rfl ?_
                refine g_iload K dL_areCarts_129 rfl ?_
                refine g_iconst K dL_areCarts_131 kc_1 ?_
                refine g_rdV K (rd hC (c_X6_axleOf hC) (ao_1 hs hin hq hjN)) mw_X6_axleOf ml_L_24 dL_areCarts_132 (by rfl) rfl rfl (by decide) (by simp [Value.category]) ⟨by decide, by decide⟩ ⟨by decide, by decide⟩ ?_
                clear hC
                intro S132 hC
                refine g_istore (ls2 := [_, _, _, _, _, _, _, _, _, _, _, _, _, some (.int _)]) K dL_areCarts_135 (by decide) rfl ?_
                refine g_iload K dL_areCarts_137 rfl ?_
                refine g_iload K dL_areCarts_139 rfl ?_
                refine g_iadd K dL_areCarts_141 ?_
                refine g_nm (y := (nI (sumN (kgN (qOf (aZ A) i)) (j + 1)))) (nI_add _ _) ?_
                refine g_istore (ls2 := [_, _, _, _, _, _, some (.int _), _, _, _, _, _, _, _]) K dL_areCarts_142 (by decide) rfl ?_
                refine g_iload K dL_areCarts_144 rfl ?_
                refine g_aload_n K dL_areCarts_146 rfl ?_
                refine g_iload K dL_areCarts_147 rfl ?_
                refine g_iload K dL_areCarts_149 rfl ?_
                refine g_iconst K dL_areCarts_151 kc_3 ?_
                refine g_rdV K (rd hC (c_X6_axleOf hC) (ao_3 hs hin hq hjN)) mw_X6_axleOf ml_L_24 dL_areCarts_152 (by rfl) rfl rfl (by decide) (by simp [Value.category]) ⟨by decide, by decide⟩ ⟨by decide, by decide⟩ ?_
                clear hC
                intro S152 hC
                refine g_iadd K dL_areCarts_155 ?_
                refine g_nm (y := (nI (sumN (bnN (qOf (aZ A) i) N) (j + 1)))) (nI_add _ _) ?_
                refine g_istore (ls2 := [_, _, _, _, _, _, _, some (.int _), _, _, _, _, _, _]) K dL_areCarts_156 (by decide) rfl ?_
                refine g_iload K dL_areCarts_158 rfl ?_
                refine g_iload K dL_areCarts_160 rfl ?_
                refine g_iadd K dL_areCarts_162 ?_
                refine g_nm (y := (sumF (dQ (qOf (aZ A) i)) (j + 1))) rfl ?_
                refine g_istore (ls2 := [_, _, _, _, _, _, _, _, some (.int _), _, _, _, _, _]) K dL_areCarts_163 (by decide) rfl ?_
                refine g_iload K dL_areCarts_165 rfl ?_
                refine g_iload K dL_areCarts_167 rfl ?_
                refine g_if_eq (tgt := 176) K dL_areCarts_169 (by decide) (fun u169 => absurd u169 (by decide)) (fun u169 => ?_)
                refine g_iconst K dL_areCarts_172 kc_0 ?_
                refine g_goto (tgt := 177) K dL_areCarts_173 (by decide) ?_
                refine g_iadd K dL_areCarts_177 ?_
                refine g_nm (y := (nI (dwN (qOf (aZ A) i) (j + 1)))) (dw_u hl) ?_
                refine g_istore (ls2 := [_, _, _, _, _, _, _, _, _, some (.int _), _, _, _, _]) K dL_areCarts_178 (by decide) rfl ?_
                refine g_iload K dL_areCarts_180 rfl ?_
                refine g_if_le (tgt := 257) K dL_areCarts_182 (by decide) (fun u182 => absurd u182 (nI_nle hkg.2.1 (by omega))) (fun u182 => ?_)
                refine g_iload K dL_areCarts_185 rfl ?_
                refine g_sipush K dL_areCarts_187 kp_200 ?_
                refine g_icmp_gt (tgt := 257) K dL_areCarts_190 (by decide) (fun u190 => absurd u190 (nI_nlt (a := 200) hkg.2.2 (by decide))) (fun u190 => ?_)
                refine g_iload K dL_areCarts_193 rfl ?_
                refine g_if_ne (tgt := 206) K dL_areCarts_195 (by decide) (fun u195 => ?_) (fun u195 => ?_)
                · have hj0 : 1 ≤ j := Nat.pos_of_ne_zero (fun q => u195 (by rw [q]; rfl))
                  refine g_iload K dL_areCarts_206 rfl ?_
                  refine g_iconst K dL_areCarts_208 kc_1 ?_
                  refine g_icmp_le (tgt := 257) K dL_areCarts_209 (by decide) (fun u209 => absurd u209 (i_nle1 (hEq.2.1 j hj0 hjN))) (fun u209 => ?_)
                  refine g_iload K dL_areCarts_212 rfl ?_
                  refine g_bipush K dL_areCarts_214 kb_40 ?_
                  refine g_icmp_gt (tgt := 257) K dL_areCarts_216 (by decide) (fun u216 => absurd u216 (i_nlt hax.2.2.2.1)) (fun u216 => ?_)
                  refine g_iload K dL_areCarts_219 rfl ?_
                  refine g_if_eq (tgt := 239) K dL_areCarts_221 (by decide) (fun u221 => absurd u221 (by decide)) (fun u221 => ?_)
                  refine g_aload_n K dL_areCarts_224 rfl ?_
                  refine g_iload K dL_areCarts_225 rfl ?_
                  refine g_iload K dL_areCarts_227 rfl ?_
                  refine g_iconst K dL_areCarts_229 kc_3 ?_
                  refine g_rdV K (rd hC (c_X6_axleOf hC) ((ao_3 hs hin hq hjN).trans (by rw [bn_up hq (by rw [hl]; decide)]))) mw_X6_axleOf ml_L_24 dL_areCarts_230 (by rfl) rfl rfl (by decide) (by simp [Value.category]) ⟨by decide, by decide⟩ ⟨by decide, by decide⟩ ?_
                  clear hC
                  intro S230 hC
                  refine g_if_ne (tgt := 257) K dL_areCarts_233 (by decide) (fun u233 => absurd u233 (by decide)) (fun u233 => ?_)
                  refine g_goto (tgt := 253) K dL_areCarts_236 (by decide) ?_
                  refine g_iconst K dL_areCarts_253 kc_1 ?_
                  refine g_goto (tgt := 258) K dL_areCarts_254 (by decide) ?_
                  refine g_istore_n (ls2 := [_, _, _, some (.int _), _, _, _, _, _, _, _, _, _, _]) K dL_areCarts_258 (by decide) rfl ?_
                  refine g_iinc (ls2 := [_, _, _, _, _, _, _, _, _, _, some (.int _), _, _, _]) K dL_areCarts_259 rfl kc_1 rfl ?_
                  refine g_goto (tgt := 84) K dL_areCarts_262 (by decide) ?_
                  refine g_drop (ls2 := [_, _, _, _, _, _, _, _, _, _, _, none, _, _]) 11 rfl ?_
                  refine g_drop (ls2 := [_, _, _, _, _, _, _, _, _, _, _, _, none, _]) 12 rfl ?_
                  refine g_drop (ls2 := [_, _, _, _, _, _, _, _, _, _, _, _, _, none]) 13 rfl ?_
                  rw [nI_1]
                  exact ih (j + 1) _ (by omega) (by omega) hC
                · have hj0 : j = 0 := (nI_eq (b := 0) (by omega) (by decide)).mp u195
                  refine g_iload K dL_areCarts_198 rfl ?_
                  refine g_if_ne (tgt := 257) K dL_areCarts_200 (by decide) (fun u200 => absurd u200 (fun h => h (by rw [hj0]; exact hEq.1))) (fun u200 => ?_)
                  refine g_goto (tgt := 219) K dL_areCarts_203 (by decide) ?_
                  refine g_iload K dL_areCarts_219 rfl ?_
                  refine g_if_eq (tgt := 239) K dL_areCarts_221 (by decide) (fun u221 => absurd u221 (by decide)) (fun u221 => ?_)
                  refine g_aload_n K dL_areCarts_224 rfl ?_
                  refine g_iload K dL_areCarts_225 rfl ?_
                  refine g_iload K dL_areCarts_227 rfl ?_
                  refine g_iconst K dL_areCarts_229 kc_3 ?_
                  refine g_rdV K (rd hC (c_X6_axleOf hC) ((ao_3 hs hin hq hjN).trans (by rw [bn_up hq (by rw [hl]; decide)]))) mw_X6_axleOf ml_L_24 dL_areCarts_230 (by rfl) rfl rfl (by decide) (by simp [Value.category]) ⟨by decide, by decide⟩ ⟨by decide, by decide⟩ ?_
                  clear hC
                  intro S230 hC
                  refine g_if_ne (tgt := 257) K dL_areCarts_233 (by decide) (fun u233 => absurd u233 (by decide)) (fun u233 => ?_)
                  refine g_goto (tgt := 253) K dL_areCarts_236 (by decide) ?_
                  refine g_iconst K dL_areCarts_253 kc_1 ?_
                  refine g_goto (tgt := 258) K dL_areCarts_254 (by decide) ?_
                  refine g_istore_n (ls2 := [_, _, _, some (.int _), _, _, _, _, _, _, _, _, _, _]) K dL_areCarts_258 (by decide) rfl ?_
                  refine g_iinc (ls2 := [_, _, _, _, _, _, _, _, _, _, some (.int _), _, _, _]) K dL_areCarts_259 rfl kc_1 rfl ?_
                  refine g_goto (tgt := 84) K dL_areCarts_262 (by decide) ?_
                  refine g_drop (ls2 := [_, _, _, _, _, _, _, _, _, _, _, none, _, _]) 11 rfl ?_
                  refine g_drop (ls2 := [_, _, _, _, _, _, _, _, _, _, _, _, none, _]) 12 rfl ?_
                  refine g_drop (ls2 := [_, _, _, _, _, _, _, _, _, _, _, _, _, none]) 13 rfl ?_
                  rw [nI_1]
                  exact ih (j + 1) _ (by omega) (by omega) hC
              · skip
                refine g_aload_n K dL_areCarts_95 rfl ?_
                refine g_iload K dL_areCarts_96 rfl ?_
                refine g_iload K dL_areCarts_98 rfl ?_
                refine g_iconst K dL_areCarts_100 kc_0 ?_
                refine g_rdV K (rd hC (c_X6_axleOf hC) ((ao_0 hs hin hq hjN).trans hkg.1)) mw_X6_axleOf ml_L_24 dL_areCarts_101 (by rfl) rfl rfl (by decide) (by simp [Value.category]) ⟨by decide, by decide⟩ ⟨by decide, by decide⟩ ?_
                clear hC
                intro S101 hC
                refine g_istore (ls2 := [_, _, _, _, _, _, _, _, _, _, _, some (.int _), _, _]) K dL_areCarts_104 (by decide) rfl ?_
                refine g_aload_n K dL_areCarts_106 rfl ?_
                refine g_iload K dL_areCarts_107 rfl ?_
                refine g_iload K dL_areCarts_109 rfl ?_
                refine g_iconst K dL_areCarts_111 kc_2 ?_
                refine g_rdV K (rd hC (c_X6_axleOf hC) ((ao_2 hs hin hq hjN).trans hl)) mw_X6_axleOf ml_L_24 dL_areCarts_112 (by rfl) rfl rfl (by decide) (by simp [Value.category]) ⟨by decide, by decide⟩ ⟨by decide, by decide⟩ ?_
                clear hC
                intro S112 hC
                refine g_iconst K dL_areCarts_115 kc_1 ?_
                refine g_icmp_ne (tgt := 123) K dL_areCarts_116 (by decide) (fun u116 => ?_) (fun u116 => absurd u116 (by decide))
                refine g_iconst K dL_areCarts_123 kc_0 ?_
                refine g_istore (ls2 := [_, _, _, _, _, _, _, _, _, _, _, _, some (.int _), _]) K dL_areCarts_124 (by decide) rfl ?_
                refine g_aload_n K dL_areCarts_126 rfl ?_
                refine g_iload K dL_areCarts_127 rfl ?_
                refine g_iload K dL_areCarts_129 rfl ?_
                refine g_iconst K dL_areCarts_131 kc_1 ?_
                refine g_rdV K (rd hC (c_X6_axleOf hC) (ao_1 hs hin hq hjN)) mw_X6_axleOf ml_L_24 dL_areCarts_132 (by rfl) rfl rfl (by decide) (by simp [Value.category]) ⟨by decide, by decide⟩ ⟨by decide, by decide⟩ ?_
                clear hC
                intro S132 hC
                refine g_istore (ls2 := [_, _, _, _, _, _, _, _, _, _, _, _, _, some (.int _)]) K dL_areCarts_135 (by decide) rfl ?_
                refine g_iload K dL_areCarts_137 rfl ?_
                refine g_iload K dL_areCarts_139 rfl ?_
                refine g_iadd K dL_areCarts_141 ?_
                refine g_nm (y := (nI (sumN (kgN (qOf (aZ A) i)) (j + 1)))) (nI_add _ _) ?_
                refine g_istore (ls2 := [_, _, _, _, _, _, some (.int _), _, _, _, _, _, _, _]) K dL_areCarts_142 (by decide) rfl ?_
                refine g_iload K dL_areCarts_144 rfl ?_
                refine g_aload_n K dL_areCarts_146 rfl ?_
                refine g_iload K dL_areCarts_147 rfl ?_
                refine g_iload K dL_areCarts_149 rfl ?_
                refine g_iconst K dL_areCarts_151 kc_3 ?_
                refine g_rdV K (rd hC (c_X6_axleOf hC) (ao_3 hs hin hq hjN)) mw_X6_axleOf ml_L_24 dL_areCarts_152 (by rfl) rfl rfl (by decide) (by simp [Value.category]) ⟨by decide, by decide⟩ ⟨by decide, by decide⟩ ?_
                clear hC
                intro S152 hC
                refine g_iadd K dL_areCarts_155 ?_
                refine g_nm (y := (nI (sumN (bnN (qOf (aZ A) i) N) (j + 1)))) (nI_add _ _) ?_
                refine g_istore (ls2 := [_, _, _, _, _, _, _, some (.int _), _, _, _, _, _, _]) K dL_areCarts_156 (by decide) rfl ?_
                refine g_iload K dL_areCarts_158 rfl ?_
                refine g_iload K dL_areCarts_160 rfl ?_
                refine g_iadd K dL_areCarts_162 ?_
                refine g_nm (y := (sumF (dQ (qOf (aZ A) i)) (j + 1))) rfl ?_
                refine g_istore (ls2 := [_, _, _, _, _, _, _, _, some (.int _), _, _, _, _, _]) K dL_areCarts_163 (by decide) rfl ?_
                refine g_iload K dL_areCarts_165 rfl ?_
                refine g_iload K dL_areCarts_167 rfl ?_
                refine g_if_eq (tgt := 176) K dL_areCarts_169 (by decide) (fun u169 => ?_) (fun u169 => absurd (by decide) u169)
                refine g_iconst K dL_areCarts_176 kc_1 ?_
                refine g_iadd K dL_areCarts_177 ?_
                refine g_nm (y := (nI (dwN (qOf (aZ A) i) (j + 1)))) (dw_d hl) ?_
                refine g_istore (ls2 := [_, _, _, _, _, _, _, _, _, some (.int _), _, _, _, _]) K dL_areCarts_178 (by decide) rfl ?_
                refine g_iload K dL_areCarts_180 rfl ?_
                refine g_if_le (tgt := 257) K dL_areCarts_182 (by decide) (fun u182 => absurd u182 (nI_nle hkg.2.1 (by omega))) (fun u182 => ?_)
                refine g_iload K dL_areCarts_185 rfl ?_
                refine g_sipush K dL_areCarts_187 kp_200 ?_
                refine g_icmp_gt (tgt := 257) K dL_areCarts_190 (by decide) (fun u190 => absurd u190 (nI_nlt (a := 200) hkg.2.2 (by decide))) (fun u190 => ?_)
                refine g_iload K dL_areCarts_193 rfl ?_
                refine g_if_ne (tgt := 206) K dL_areCarts_195 (by decide) (fun u195 => ?_) (fun u195 => ?_)
                · have hj0 : 1 ≤ j := Nat.pos_of_ne_zero (fun q => u195 (by rw [q]; rfl))
                  refine g_iload K dL_areCarts_206 rfl ?_
                  refine g_iconst K dL_areCarts_208 kc_1 ?_
                  refine g_icmp_le (tgt := 257) K dL_areCarts_209 (by decide) (fun u209 => absurd u209 (i_nle1 (hEq.2.1 j hj0 hjN))) (fun u209 => ?_)
                  refine g_iload K dL_areCarts_212 rfl ?_
                  refine g_bipush K dL_areCarts_214 kb_40 ?_
                  refine g_icmp_gt (tgt := 257) K dL_areCarts_216 (by decide) (fun u216 => absurd u216 (i_nlt hax.2.2.2.1)) (fun u216 => ?_)
                  refine g_iload K dL_areCarts_219 rfl ?_
                  refine g_if_eq (tgt := 239) K dL_areCarts_221 (by decide) (fun u221 => ?_) (fun u221 => absurd (by decide) u221)
                  refine g_aload_n K dL_areCarts_239 rfl ?_
                  refine g_iload K dL_areCarts_240 rfl ?_
                  refine g_iload K dL_areCarts_242 rfl ?_
                  refine g_iconst K dL_areCarts_244 kc_3 ?_
                  refine g_rdV K (rd hC (c_X6_axleOf hC) (ao_3 hs hin hq hjN)) mw_X6_axleOf ml_L_24 dL_areCarts_245 (by rfl) rfl rfl (by decide) (by simp [Value.category]) ⟨by decide, by decide⟩ ⟨by decide, by decide⟩ ?_
                  clear hC
                  intro S245 hC
                  refine g_iload K dL_areCarts_248 rfl ?_
                  refine g_icmp_lt (tgt := 257) K dL_areCarts_250 (by decide) (fun u250 => absurd u250 (nI_nlt (bn_down hq hjN hl) (by have := bn_le hq hjN; omega))) (fun u250 => ?_)
                  refine g_iconst K dL_areCarts_253 kc_1 ?_
                  refine g_goto (tgt := 258) K dL_areCarts_254 (by decide) ?_
                  refine g_istore_n (ls2 := [_, _, _, some (.int _), _, _, _, _, _, _, _, _, _, _]) K dL_areCarts_258 (by decide) rfl ?_
                  refine g_iinc (ls2 := [_, _, _, _, _, _, _, _, _, _, some (.int _), _, _, _]) K dL_areCarts_259 rfl kc_1 rfl ?_
                  refine g_goto (tgt := 84) K dL_areCarts_262 (by decide) ?_
                  refine g_drop (ls2 := [_, _, _, _, _, _, _, _, _, _, _, none, _, _]) 11 rfl ?_
                  refine g_drop (ls2 := [_, _, _, _, _, _, _, _, _, _, _, _, none, _]) 12 rfl ?_
                  refine g_drop (ls2 := [_, _, _, _, _, _, _, _, _, _, _, _, _, none]) 13 rfl ?_
                  rw [nI_1]
                  exact ih (j + 1) _ (by omega) (by omega) hC
                · have hj0 : j = 0 := (nI_eq (b := 0) (by omega) (by decide)).mp u195
                  refine g_iload K dL_areCarts_198 rfl ?_
                  refine g_if_ne (tgt := 257) K dL_areCarts_200 (by decide) (fun u200 => absurd u200 (fun h => h (by rw [hj0]; exact hEq.1))) (fun u200 => ?_)
                  refine g_goto (tgt := 219) K dL_areCarts_203 (by decide) ?_
                  refine g_iload K dL_areCarts_219 rfl ?_
                  refine g_if_eq (tgt := 239) K dL_areCarts_221 (by decide) (fun u221 => ?_) (fun u221 => absurd (by decide) u221)
                  refine g_aload_n K dL_areCarts_239 rfl ?_
                  refine g_iload K dL_areCarts_240 rfl ?_
                  refine g_iload K dL_areCarts_242 rfl ?_
                  refine g_iconst K dL_areCarts_244 kc_3 ?_
                  refine g_rdV K (rd hC (c_X6_axleOf hC) (ao_3 hs hin hq hjN)) mw_X6_axleOf ml_L_24 dL_areCarts_245 (by rfl) rfl rfl (by decide) (by simp [Value.category]) ⟨by decide, by decide⟩ ⟨by decide, by decide⟩ ?_
                  clear hC
                  intro S245 hC
                  refine g_iload K dL_areCarts_248 rfl ?_
                  refine g_icmp_lt (tgt := 257) K dL_areCarts_250 (by decide) (fun u250 => absurd u250 (nI_nlt (bn_down hq hjN hl) (by have := bn_le hq hjN; omega))) (fun u250 => ?_)
                  refine g_iconst K dL_areCarts_253 kc_1 ?_
                  refine g_goto (tgt := 258) K dL_areCarts_254 (by decide) ?_
                  refine g_istore_n (ls2 := [_, _, _, some (.int _), _, _, _, _, _, _, _, _, _, _]) K dL_areCarts_258 (by decide) rfl ?_
                  refine g_iinc (ls2 := [_, _, _, _, _, _, _, _, _, _, some (.int _), _, _, _]) K dL_areCarts_259 rfl kc_1 rfl ?_
                  refine g_goto (tgt := 84) K dL_areCarts_262 (by decide) ?_
                  refine g_drop (ls2 := [_, _, _, _, _, _, _, _, _, _, _, none, _, _]) 11 rfl ?_
                  refine g_drop (ls2 := [_, _, _, _, _, _, _, _, _, _, _, _, none, _]) 12 rfl ?_
                  refine g_drop (ls2 := [_, _, _, _, _, _, _, _, _, _, _, _, _, none]) 13 rfl ?_
                  rw [nI_1]
                  exact ih (j + 1) _ (by omega) (by omega) hC
        exact lq (N + 1) 0 _ (by omega) (by omega) hC
  refine g_iconst K dL_areCarts_0 kc_0 ?_
  refine g_istore_n (ls2 := [_, some (.int _), _, _, _, _, _, _, _, _, _, _, _, _]) K dL_areCarts_1 (by decide) rfl ?_
  refine g_aload_n K dL_areCarts_2 rfl ?_
  refine g_iconst K dL_areCarts_3 kc_0 ?_
  refine g_rdV K (rd hC (c_X6_count hC) (cn_0 hs)) mw_X6_count ml_L_14 dL_areCarts_4 (by rfl) rfl rfl (by decide) (by simp [Value.category]) ⟨by decide, by decide⟩ ⟨by decide, by decide⟩ ?_
  clear hC
  intro S4 hC
  refine g_istore_n (ls2 := [_, _, some (.int _), _, _, _, _, _, _, _, _, _, _, _]) K dL_areCarts_7 (by decide) rfl ?_
  refine g_iload_n K dL_areCarts_8 rfl ?_
  refine g_if_lt (tgt := 45) K dL_areCarts_9 (by decide) (fun u9 => absurd u9 (nI_pos (by omega))) (fun u9 => ?_)
  refine g_iload_n K dL_areCarts_12 rfl ?_
  refine g_bipush K dL_areCarts_13 kb_6 ?_
  refine g_icmp_gt (tgt := 45) K dL_areCarts_15 (by decide) (fun u15 => absurd u15 (nI_nlt (a := 6) n6 (by decide))) (fun u15 => ?_)
  refine g_aload_n K dL_areCarts_18 rfl ?_
  refine g_iconst K dL_areCarts_19 kc_2 ?_
  refine g_rdV K (rd hC (c_X6_count hC) (cn_2 A)) mw_X6_count ml_L_14 dL_areCarts_20 (by rfl) rfl rfl (by decide) (by simp [Value.category]) ⟨by decide, by decide⟩ ⟨by decide, by decide⟩ ?_
  clear hC
  intro S20 hC
  refine g_aload_n K dL_areCarts_23 rfl ?_
  refine g_iconst K dL_areCarts_24 kc_1 ?_
  refine g_rdV K (rd hC (c_X6_count hC) (cn_1 A)) mw_X6_count ml_L_14 dL_areCarts_25 (by rfl) rfl rfl (by decide) (by simp [Value.category]) ⟨by decide, by decide⟩ ⟨by decide, by decide⟩ ?_
  clear hC
  intro S25 hC
  refine g_icmp_gt (tgt := 45) K dL_areCarts_28 (by decide) (fun u28 => absurd u28 (i_nlt hE.2.2.1)) (fun u28 => ?_)
  refine g_aload_n K dL_areCarts_31 rfl ?_
  refine g_iload_n K dL_areCarts_32 rfl ?_
  refine g_iconst K dL_areCarts_33 kc_0 ?_
  refine g_rdV K (rd hC (c_X6_cartOf hC) (xc_no hs (n_out n6) 0)) mw_X6_cartOf ml_L_20 dL_areCarts_34 (by rfl) rfl rfl (by decide) (by simp [Value.category]) ⟨by decide, by decide⟩ ⟨by decide, by decide⟩ ?_
  clear hC
  intro S34 hC
  refine g_iconst K dL_areCarts_37 kc_m1 ?_
  refine g_icmp_ne (tgt := 45) K dL_areCarts_38 (by decide) (fun u38 => absurd u38 (by decide)) (fun u38 => ?_)
  refine g_iconst K dL_areCarts_41 kc_1 ?_
  refine g_goto (tgt := 46) K dL_areCarts_42 (by decide) ?_
  refine g_istore_n (ls2 := [_, _, _, some (.int _), _, _, _, _, _, _, _, _, _, _]) K dL_areCarts_46 (by decide) rfl ?_
  refine g_iconst K dL_areCarts_47 kc_0 ?_
  refine g_istore (ls2 := [_, _, _, _, some (.int _), _, _, _, _, _, _, _, _, _]) K dL_areCarts_48 (by decide) rfl ?_
  exact lp (n + 1) 0 _ (by omega) (by omega) hC
