theorem ng_div {a : Nat} (ha : a < 2 ^ 31) : -(nI a) / (99 : Int32) = -(nI (a / 99)) := by
  have h1 : ∀ b : Nat, b < 2 ^ 31 → (-(nI b)).toInt = -(b : Int) := fun b hb => by
    rw [Int32.toInt_neg, nI_toInt hb, Int.bmod_eq_of_le (by omega) (by omega)]
  have h2 : a / 99 ≤ a := Nat.div_le_self _ _
  refine Int32.toInt_inj.mp ?_
  rw [Int32.toInt_div_of_ne_right _ _ (by decide), h1 a ha, h1 _ (by omega), show (99 : Int32).toInt = 99 from rfl, Int.neg_tdiv, Int.tdiv_eq_ediv_of_nonneg (by omega)]
  omega
theorem ng_rem {a : Nat} (ha : a < 2 ^ 31) : -(nI a) - -(nI a) / (99 : Int32) * 99 = -(nI (a % 99)) := by
  have h : nI a - nI a / 99 * 99 = nI (a % 99) := pk_rem (d := 99) ha (by decide) (by decide)
  have h3 : nI a / 99 = nI (a / 99) := pk_div (d := 99) ha (by decide) (by decide)
  rw [h3] at h
  rw [ng_div ha]
  grind
theorem m_in {m : Nat} (h : m < 99) : (0 : Int32) ≤ nI m ∧ nI m ≤ 98 := ⟨nI_pos' (by omega), nI_le (b := 98) (by omega) (by decide)⟩

set_option maxHeartbeats 40000000 in
set_option maxRecDepth 100000 in
theorem c_L_ra_ev {l : Launch} {b : Nat} {D : va_G} {cA : Nat → ClassId} {ad : Nat → Nat} {S : ST} {A : AS} {n xn m i6 : Nat} {no ax we sp di : Int32} (hC : CRel S A n) (hL0 : aL A = 0) (hx : xn < 2 ^ 31) (hpar : nI xn - nI xn / 2 * 2 = 0) (hm : xn % 99 = m) (hi6 : xn % 6 = i6) (hi66 : i6 < 6) (eno : -1 - nI m = no) (eax : -1 - nI m = ax) (ewe : -(nI m) = we) (esp : -(nI m) = sp) (edi : 1 - nI m = di) (hno : ¬ (0 ≤ no ∧ no < nI n)) (hax : ∀ N, N ≤ 5 → ¬ (0 ≤ ax ∧ ax < nI N)) (hwe : ¬ (1 ≤ we ∧ we ≤ 200)) (hsp : ¬ (1 ≤ sp ∧ sp ≤ 9)) (hdi : ¬ (2 ≤ di ∧ di ≤ 40)) : MT l b D cA NN ad zT yL_refusesAny cL_refusesAny 9 (some .boolean) 8 [.ref (ad 0), .int (nI xn)] S (RI (fun r S2 => r = 1 ∧ CRel S2 A n)) := by
  have hs := hC.st
  have n6 := hs.2.2.1
  refine MT.intro (j := 7) (ls := [some (.ref (ad 0)), some (.int (nI xn)), none, none, none, none, none, none, none]) pn_L rfl rfl rfl (fun pr en s0 mi below meth c' K _ => ?_)
  refine g_iload_n K dL_refusesAny_0 rfl ?_
  refine g_iconst K dL_refusesAny_1 kc_2 ?_
  refine g_irem K dL_refusesAny_2 (by first | assumption | decide) ?_
  refine g_nm (y := 0) hpar ?_
  refine g_if_ne (tgt := 15) K dL_refusesAny_3 (by decide) (fun u3 => absurd u3 (by decide)) (fun u3 => ?_)
  refine g_iconst K dL_refusesAny_6 kc_m1 ?_
  refine g_iload_n K dL_refusesAny_7 rfl ?_
  refine g_bipush K dL_refusesAny_8 kb_99 ?_
  refine g_irem K dL_refusesAny_10 (by first | assumption | decide) ?_
  refine g_nm (y := (nI m)) ((pk_rem (d := 99) hx (by decide) (by decide)).trans (by rw [hm])) ?_
  refine g_isub K dL_refusesAny_11 ?_
  refine g_nm (y := no) eno ?_
  refine g_goto (tgt := 22) K dL_refusesAny_12 (by decide) ?_
  refine g_istore_n (ls2 := [_, _, some (.int _), _, _, _, _, _, _]) K dL_refusesAny_22 (by decide) rfl ?_
  refine g_iload_n K dL_refusesAny_23 rfl ?_
  refine g_iconst K dL_refusesAny_24 kc_2 ?_
  refine g_irem K dL_refusesAny_25 (by first | assumption | decide) ?_
  refine g_nm (y := 0) hpar ?_
  refine g_if_ne (tgt := 38) K dL_refusesAny_26 (by decide) (fun u26 => absurd u26 (by decide)) (fun u26 => ?_)
  refine g_iconst K dL_refusesAny_29 kc_m1 ?_
  refine g_iload_n K dL_refusesAny_30 rfl ?_
  refine g_bipush K dL_refusesAny_31 kb_99 ?_
  refine g_irem K dL_refusesAny_33 (by first | assumption | decide) ?_
  refine g_nm (y := (nI m)) ((pk_rem (d := 99) hx (by decide) (by decide)).trans (by rw [hm])) ?_
  refine g_isub K dL_refusesAny_34 ?_
  refine g_nm (y := ax) eax ?_
  refine g_goto (tgt := 44) K dL_refusesAny_35 (by decide) ?_
  refine g_istore_n (ls2 := [_, _, _, some (.int _), _, _, _, _, _]) K dL_refusesAny_44 (by decide) rfl ?_
  refine g_iload_n K dL_refusesAny_45 rfl ?_
  refine g_iconst K dL_refusesAny_46 kc_2 ?_
  refine g_irem K dL_refusesAny_47 (by first | assumption | decide) ?_
  refine g_nm (y := 0) hpar ?_
  refine g_if_ne (tgt := 59) K dL_refusesAny_48 (by decide) (fun u48 => absurd u48 (by decide)) (fun u48 => ?_)
  refine g_iload_n K dL_refusesAny_51 rfl ?_
  refine g_ineg K dL_refusesAny_52 ?_
  refine g_bipush K dL_refusesAny_53 kb_99 ?_
  refine g_irem K dL_refusesAny_55 (by first | assumption | decide) ?_
  refine g_nm (y := we) ((ng_rem hx).trans ((by rw [hm] : -(nI (xn % 99)) = -(nI m)).trans ewe)) ?_
  refine g_goto (tgt := 67) K dL_refusesAny_56 (by decide) ?_
  refine g_istore (ls2 := [_, _, _, _, some (.int _), _, _, _, _]) K dL_refusesAny_67 (by decide) rfl ?_
  refine g_iload_n K dL_refusesAny_69 rfl ?_
  refine g_iconst K dL_refusesAny_70 kc_2 ?_
  refine g_irem K dL_refusesAny_71 (by first | assumption | decide) ?_
  refine g_nm (y := 0) hpar ?_
  refine g_if_ne (tgt := 83) K dL_refusesAny_72 (by decide) (fun u72 => absurd u72 (by decide)) (fun u72 => ?_)
  refine g_iload_n K dL_refusesAny_75 rfl ?_
  refine g_ineg K dL_refusesAny_76 ?_
  refine g_bipush K dL_refusesAny_77 kb_99 ?_
  refine g_irem K dL_refusesAny_79 (by first | assumption | decide) ?_
  refine g_nm (y := sp) ((ng_rem hx).trans ((by rw [hm] : -(nI (xn % 99)) = -(nI m)).trans esp)) ?_
  refine g_goto (tgt := 90) K dL_refusesAny_80 (by decide) ?_
  refine g_istore (ls2 := [_, _, _, _, _, some (.int _), _, _, _]) K dL_refusesAny_90 (by decide) rfl ?_
  refine g_iload_n K dL_refusesAny_92 rfl ?_
  refine g_iconst K dL_refusesAny_93 kc_2 ?_
  refine g_irem K dL_refusesAny_94 (by first | assumption | decide) ?_
  refine g_nm (y := 0) hpar ?_
  refine g_if_ne (tgt := 107) K dL_refusesAny_95 (by decide) (fun u95 => absurd u95 (by decide)) (fun u95 => ?_)
  refine g_iconst K dL_refusesAny_98 kc_1 ?_
  refine g_iload_n K dL_refusesAny_99 rfl ?_
  refine g_bipush K dL_refusesAny_100 kb_99 ?_
  refine g_irem K dL_refusesAny_102 (by first | assumption | decide) ?_
  refine g_nm (y := (nI m)) ((pk_rem (d := 99) hx (by decide) (by decide)).trans (by rw [hm])) ?_
  refine g_isub K dL_refusesAny_103 ?_
  refine g_nm (y := di) edi ?_
  refine g_goto (tgt := 114) K dL_refusesAny_104 (by decide) ?_
  refine g_istore (ls2 := [_, _, _, _, _, _, some (.int _), _, _]) K dL_refusesAny_114 (by decide) rfl ?_
  have k131 : ∀ (y7 : Int32) (S1 : ST), (CRel S1 A n) → ((n = 0 ∧ y7 = 0) ∨ (1 ≤ n ∧ y7 = 1)) → G pr l en (rmd 8) s0 mi (List.toArray [.ref (ad 0), .int (nI xn)]) below meth c' (MQ below (QQ b D cA NN ad zT (RI (fun r S2 => r = 1 ∧ CRel S2 A n))) (List.toArray [.ref (ad 0), .int (nI xn)]) s0 0 0 (aF b)) b D cA 9 NN ad zT 0 0 131 [some (.ref (ad 0)), some (.int (nI xn)), some (.int no), some (.int ax), some (.int we), some (.int sp), some (.int di), some (.int y7), none] [] S1 := by
    intro y7  S1  hC hy
    refine g_aload_n K dL_refusesAny_131 rfl ?_
    refine g_iload K dL_refusesAny_132 rfl ?_
    refine g_rdV K (rq hC (c_X6_cart hC) (rf_cart hwe)) mw_X6_cart ml_L_45 dL_refusesAny_134 (by rfl) rfl rfl (by decide) (by simp [Value.category]) ⟨by decide, by decide⟩ ⟨by decide, by decide⟩ ?_
    clear hC
    intro S134 hC
    refine g_bipush K dL_refusesAny_137 kb_m2 ?_
    refine g_icmp_ne (tgt := 401) K dL_refusesAny_139 (by decide) (fun u139 => absurd u139 (by decide)) (fun u139 => ?_)
    have k162 : ∀ (S2 : ST), (CRel S2 A n) → G pr l en (rmd 8) s0 mi (List.toArray [.ref (ad 0), .int (nI xn)]) below meth c' (MQ below (QQ b D cA NN ad zT (RI (fun r S2 => r = 1 ∧ CRel S2 A n))) (List.toArray [.ref (ad 0), .int (nI xn)]) s0 0 0 (aF b)) b D cA 9 NN ad zT 0 0 162 [some (.ref (ad 0)), some (.int (nI xn)), some (.int no), some (.int ax), some (.int we), some (.int sp), some (.int di), some (.int y7), none] [] S2 := by
      intro S2  hC
      refine g_aload_n K dL_refusesAny_162 rfl ?_
      refine g_iload_n K dL_refusesAny_163 rfl ?_
      refine g_iload K dL_refusesAny_164 rfl ?_
      refine g_iconst K dL_refusesAny_166 kc_5 ?_
      refine g_rdV K (rq hC (c_X6_axle hC) (rf_axle_no hs hno _ _)) mw_X6_axle ml_L_48 dL_refusesAny_167 (by rfl) rfl rfl (by decide) (by simp [Value.category]) ⟨by decide, by decide⟩ ⟨by decide, by decide⟩ ?_
      clear hC
      intro S167 hC
      refine g_iconst K dL_refusesAny_170 kc_m1 ?_
      refine g_icmp_ne (tgt := 401) K dL_refusesAny_171 (by decide) (fun u171 => absurd u171 (by decide)) (fun u171 => ?_)
      refine g_aload_n K dL_refusesAny_174 rfl ?_
      refine g_iload_n K dL_refusesAny_175 rfl ?_
      refine g_iconst K dL_refusesAny_176 kc_0 ?_
      refine g_iload K dL_refusesAny_177 rfl ?_
      refine g_rdV K (rq hC (c_X6_load hC) (rf_load_no hs hno _ _)) mw_X6_load ml_L_51 dL_refusesAny_179 (by rfl) rfl rfl (by decide) (by simp [Value.category]) ⟨by decide, by decide⟩ ⟨by decide, by decide⟩ ?_
      clear hC
      intro S179 hC
      refine g_iconst K dL_refusesAny_182 kc_m1 ?_
      refine g_icmp_ne (tgt := 401) K dL_refusesAny_183 (by decide) (fun u183 => absurd u183 (by decide)) (fun u183 => ?_)
      refine g_aload_n K dL_refusesAny_186 rfl ?_
      refine g_iload_n K dL_refusesAny_187 rfl ?_
      refine g_iconst K dL_refusesAny_188 kc_0 ?_
      refine g_iconst K dL_refusesAny_189 kc_1 ?_
      refine g_rdV K (rq hC (c_X6_lift hC (Or.inr rfl)) (rf_lift_no hs hno _ _)) mw_X6_lift ml_L_54 dL_refusesAny_190 (by rfl) rfl rfl (by decide) (by simp [Value.category]) ⟨by decide, by decide⟩ ⟨by decide, by decide⟩ ?_
      clear hC
      intro S190 hC
      refine g_iconst K dL_refusesAny_193 kc_m1 ?_
      refine g_icmp_ne (tgt := 401) K dL_refusesAny_194 (by decide) (fun u194 => absurd u194 (by decide)) (fun u194 => ?_)
      refine g_aload_n K dL_refusesAny_197 rfl ?_
      refine g_iload_n K dL_refusesAny_198 rfl ?_
      refine g_iload K dL_refusesAny_199 rfl ?_
      refine g_rdV K (rq hC (c_X6_run hC) (rf_run_no hs hno _)) mw_X6_run ml_L_58 dL_refusesAny_201 (by rfl) rfl rfl (by decide) (by simp [Value.category]) ⟨by decide, by decide⟩ ⟨by decide, by decide⟩ ?_
      clear hC
      intro S201 hC
      refine g_iconst K dL_refusesAny_204 kc_m1 ?_
      refine g_icmp_ne (tgt := 401) K dL_refusesAny_205 (by decide) (fun u205 => absurd u205 (by decide)) (fun u205 => ?_)
      refine g_aload_n K dL_refusesAny_208 rfl ?_
      refine g_iload_n K dL_refusesAny_209 rfl ?_
      refine g_rdV K (rq hC (c_X6_tare hC) (rf_tare_no hs hno)) mw_X6_tare ml_L_61 dL_refusesAny_210 (by rfl) rfl rfl (by decide) (by simp [Value.category]) ⟨by decide, by decide⟩ ⟨by decide, by decide⟩ ?_
      clear hC
      intro S210 hC
      refine g_iconst K dL_refusesAny_213 kc_m1 ?_
      refine g_icmp_ne (tgt := 401) K dL_refusesAny_214 (by decide) (fun u214 => absurd u214 (by decide)) (fun u214 => ?_)
      refine g_aload_n K dL_refusesAny_217 rfl ?_
      refine g_iload_n K dL_refusesAny_218 rfl ?_
      refine g_iconst K dL_refusesAny_219 kc_2 ?_
      refine g_irem K dL_refusesAny_220 (by first | assumption | decide) ?_
      refine g_nm (y := 0) hpar ?_
      refine g_if_ne (tgt := 228) K dL_refusesAny_221 (by decide) (fun u221 => absurd u221 (by decide)) (fun u221 => ?_)
      refine g_iconst K dL_refusesAny_224 kc_m1 ?_
      refine g_goto (tgt := 230) K dL_refusesAny_225 (by decide) ?_
      refine g_bipush K dL_refusesAny_230 kb_20 ?_
      refine g_rdV K (rq hC (c_X6_set hC) (rf_set_no (i := -1) (by decide) 20)) mw_X6_set ml_L_64 dL_refusesAny_232 (by rfl) rfl rfl (by decide) (by simp [Value.category]) ⟨by decide, by decide⟩ ⟨by decide, by decide⟩ ?_
      clear hC
      intro S232 hC
      refine g_bipush K dL_refusesAny_235 kb_m2 ?_
      refine g_icmp_ne (tgt := 401) K dL_refusesAny_237 (by decide) (fun u237 => absurd u237 (by decide)) (fun u237 => ?_)
      refine g_aload_n K dL_refusesAny_240 rfl ?_
      refine g_iconst K dL_refusesAny_241 kc_0 ?_
      refine g_iload_n K dL_refusesAny_242 rfl ?_
      refine g_iconst K dL_refusesAny_243 kc_2 ?_
      refine g_irem K dL_refusesAny_244 (by first | assumption | decide) ?_
      refine g_nm (y := 0) hpar ?_
      refine g_if_ne (tgt := 253) K dL_refusesAny_245 (by decide) (fun u245 => absurd u245 (by decide)) (fun u245 => ?_)
      refine g_bipush K dL_refusesAny_248 kb_9 ?_
      refine g_goto (tgt := 255) K dL_refusesAny_250 (by decide) ?_
      refine g_rdV K (rq hC (c_X6_set hC) (rf_set_bad (i := 0) (v := 9) (by decide) (by decide))) mw_X6_set ml_L_64 dL_refusesAny_255 (by rfl) rfl rfl (by decide) (by simp [Value.category]) ⟨by decide, by decide⟩ ⟨by decide, by decide⟩ ?_
      clear hC
      intro S255 hC
      refine g_bipush K dL_refusesAny_258 kb_m2 ?_
      refine g_icmp_ne (tgt := 401) K dL_refusesAny_260 (by decide) (fun u260 => absurd u260 (by decide)) (fun u260 => ?_)
      refine g_aload_n K dL_refusesAny_263 rfl ?_
      refine g_iconst K dL_refusesAny_264 kc_1 ?_
      refine g_iload_n K dL_refusesAny_265 rfl ?_
      refine g_iconst K dL_refusesAny_266 kc_2 ?_
      refine g_irem K dL_refusesAny_267 (by first | assumption | decide) ?_
      refine g_nm (y := 0) hpar ?_
      refine g_if_ne (tgt := 275) K dL_refusesAny_268 (by decide) (fun u268 => absurd u268 (by decide)) (fun u268 => ?_)
      refine g_iconst K dL_refusesAny_271 kc_m1 ?_
      refine g_goto (tgt := 277) K dL_refusesAny_272 (by decide) ?_
      refine g_rdV K (rq hC (c_X6_set hC) (rf_set_bad (i := 1) (v := -1) (by decide) (by decide))) mw_X6_set ml_L_64 dL_refusesAny_277 (by rfl) rfl rfl (by decide) (by simp [Value.category]) ⟨by decide, by decide⟩ ⟨by decide, by decide⟩ ?_
      clear hC
      intro S277 hC
      refine g_bipush K dL_refusesAny_280 kb_m2 ?_
      refine g_icmp_ne (tgt := 401) K dL_refusesAny_282 (by decide) (fun u282 => absurd u282 (by decide)) (fun u282 => ?_)
      refine g_aload_n K dL_refusesAny_285 rfl ?_
      refine g_iconst K dL_refusesAny_286 kc_2 ?_
      refine g_iload_n K dL_refusesAny_287 rfl ?_
      refine g_iconst K dL_refusesAny_288 kc_2 ?_
      refine g_irem K dL_refusesAny_289 (by first | assumption | decide) ?_
      refine g_nm (y := 0) hpar ?_
      refine g_if_ne (tgt := 297) K dL_refusesAny_290 (by decide) (fun u290 => absurd u290 (by decide)) (fun u290 => ?_)
      refine g_iconst K dL_refusesAny_293 kc_m1 ?_
      refine g_goto (tgt := 299) K dL_refusesAny_294 (by decide) ?_
      refine g_rdV K (rq hC (c_X6_set hC) (rf_set_bad (i := 2) (v := -1) (by decide) (by decide))) mw_X6_set ml_L_64 dL_refusesAny_299 (by rfl) rfl rfl (by decide) (by simp [Value.category]) ⟨by decide, by decide⟩ ⟨by decide, by decide⟩ ?_
      clear hC
      intro S299 hC
      refine g_bipush K dL_refusesAny_302 kb_m2 ?_
      refine g_icmp_ne (tgt := 401) K dL_refusesAny_304 (by decide) (fun u304 => absurd u304 (by decide)) (fun u304 => ?_)
      refine g_aload_n K dL_refusesAny_307 rfl ?_
      refine g_iconst K dL_refusesAny_308 kc_3 ?_
      refine g_iload_n K dL_refusesAny_309 rfl ?_
      refine g_iconst K dL_refusesAny_310 kc_2 ?_
      refine g_irem K dL_refusesAny_311 (by first | assumption | decide) ?_
      refine g_nm (y := 0) hpar ?_
      refine g_if_ne (tgt := 319) K dL_refusesAny_312 (by decide) (fun u312 => absurd u312 (by decide)) (fun u312 => ?_)
      refine g_iconst K dL_refusesAny_315 kc_0 ?_
      refine g_goto (tgt := 321) K dL_refusesAny_316 (by decide) ?_
      refine g_rdV K (rq hC (c_X6_set hC) (rf_set_bad (i := 3) (v := 0) (by decide) (by decide))) mw_X6_set ml_L_64 dL_refusesAny_321 (by rfl) rfl rfl (by decide) (by simp [Value.category]) ⟨by decide, by decide⟩ ⟨by decide, by decide⟩ ?_
      clear hC
      intro S321 hC
      refine g_bipush K dL_refusesAny_324 kb_m2 ?_
      refine g_icmp_ne (tgt := 401) K dL_refusesAny_326 (by decide) (fun u326 => absurd u326 (by decide)) (fun u326 => ?_)
      refine g_aload_n K dL_refusesAny_329 rfl ?_
      refine g_iconst K dL_refusesAny_330 kc_4 ?_
      refine g_iload_n K dL_refusesAny_331 rfl ?_
      refine g_iconst K dL_refusesAny_332 kc_2 ?_
      refine g_irem K dL_refusesAny_333 (by first | assumption | decide) ?_
      refine g_nm (y := 0) hpar ?_
      refine g_if_ne (tgt := 341) K dL_refusesAny_334 (by decide) (fun u334 => absurd u334 (by decide)) (fun u334 => ?_)
      refine g_iconst K dL_refusesAny_337 kc_m1 ?_
      refine g_goto (tgt := 343) K dL_refusesAny_338 (by decide) ?_
      refine g_rdV K (rq hC (c_X6_set hC) (rf_set_bad (i := 4) (v := -1) (by decide) (by decide))) mw_X6_set ml_L_64 dL_refusesAny_343 (by rfl) rfl rfl (by decide) (by simp [Value.category]) ⟨by decide, by decide⟩ ⟨by decide, by decide⟩ ?_
      clear hC
      intro S343 hC
      refine g_bipush K dL_refusesAny_346 kb_m2 ?_
      refine g_icmp_ne (tgt := 401) K dL_refusesAny_348 (by decide) (fun u348 => absurd u348 (by decide)) (fun u348 => ?_)
      refine g_aload_n K dL_refusesAny_351 rfl ?_
      refine g_iconst K dL_refusesAny_352 kc_5 ?_
      refine g_iload_n K dL_refusesAny_353 rfl ?_
      refine g_iconst K dL_refusesAny_354 kc_2 ?_
      refine g_irem K dL_refusesAny_355 (by first | assumption | decide) ?_
      refine g_nm (y := 0) hpar ?_
      refine g_if_ne (tgt := 363) K dL_refusesAny_356 (by decide) (fun u356 => absurd u356 (by decide)) (fun u356 => ?_)
      refine g_iconst K dL_refusesAny_359 kc_3 ?_
      refine g_goto (tgt := 365) K dL_refusesAny_360 (by decide) ?_
      refine g_rdV K (rq hC (c_X6_set hC) (rf_set_bad (i := 5) (v := 3) (by decide) (by decide))) mw_X6_set ml_L_64 dL_refusesAny_365 (by rfl) rfl rfl (by decide) (by simp [Value.category]) ⟨by decide, by decide⟩ ⟨by decide, by decide⟩ ?_
      clear hC
      intro S365 hC
      refine g_bipush K dL_refusesAny_368 kb_m2 ?_
      refine g_icmp_ne (tgt := 401) K dL_refusesAny_370 (by decide) (fun u370 => absurd u370 (by decide)) (fun u370 => ?_)
      refine g_aload_n K dL_refusesAny_373 rfl ?_
      refine g_iload_n K dL_refusesAny_374 rfl ?_
      refine g_bipush K dL_refusesAny_375 kb_6 ?_
      refine g_irem K dL_refusesAny_377 (by first | assumption | decide) ?_
      refine g_nm (y := (nI i6)) ((pk_rem (d := 6) hx (by decide) (by decide)).trans (by rw [hi6])) ?_
      refine g_aload_n K dL_refusesAny_378 rfl ?_
      refine g_bipush K dL_refusesAny_379 kb_6 ?_
      refine g_iload_n K dL_refusesAny_381 rfl ?_
      refine g_bipush K dL_refusesAny_382 kb_6 ?_
      refine g_irem K dL_refusesAny_384 (by first | assumption | decide) ?_
      refine g_nm (y := (nI i6)) ((pk_rem (d := 6) hx (by decide) (by decide)).trans (by rw [hi6])) ?_
      refine g_iadd K dL_refusesAny_385 ?_
      refine g_rdV K (rd hC (c_X6_count hC) ((congrArg (o_count A) (nI_add 6 i6)).trans (cn_s A i6 hi66))) mw_X6_count ml_L_14 dL_refusesAny_386 (by rfl) rfl rfl (by decide) (by simp [Value.category]) ⟨by decide, by decide⟩ ⟨by decide, by decide⟩ ?_
      clear hC
      intro S386 hC
      refine g_rdV K (rq hC (c_X6_set hC) (rf_set_same hs.1 hi66)) mw_X6_set ml_L_64 dL_refusesAny_389 (by rfl) rfl rfl (by decide) (by simp [Value.category]) ⟨by decide, by decide⟩ ⟨by decide, by decide⟩ ?_
      clear hC
      intro S389 hC
      refine g_bipush K dL_refusesAny_392 kb_m5 ?_
      refine g_icmp_ne (tgt := 401) K dL_refusesAny_394 (by decide) (fun u394 => absurd u394 (by decide)) (fun u394 => ?_)
      refine g_iconst K dL_refusesAny_397 kc_1 ?_
      refine g_goto (tgt := 402) K dL_refusesAny_398 (by decide) ?_
      refine g_istore (ls2 := [_, _, _, _, _, _, _, _, some (.int _)]) K dL_refusesAny_402 (by decide) rfl ?_
      refine g_iload K dL_refusesAny_404 rfl ?_
      refine g_if_eq (tgt := 775) K dL_refusesAny_406 (by decide) (fun u406 => absurd u406 (by decide)) (fun u406 => ?_)
      have k776 : ∀ (S3 : ST), (CRel S3 A n) → G pr l en (rmd 8) s0 mi (List.toArray [.ref (ad 0), .int (nI xn)]) below meth c' (MQ below (QQ b D cA NN ad zT (RI (fun r S2 => r = 1 ∧ CRel S2 A n))) (List.toArray [.ref (ad 0), .int (nI xn)]) s0 0 0 (aF b)) b D cA 9 NN ad zT 0 0 776 [some (.ref (ad 0)), some (.int (nI xn)), some (.int no), some (.int ax), some (.int we), some (.int sp), some (.int di), some (.int y7), some (.int 1)] [.int 1] S3 := by
        intro S3  hC
        refine g_istore (ls2 := [_, _, _, _, _, _, _, _, some (.int _)]) K dL_refusesAny_776 (by decide) rfl ?_
        refine g_iload K dL_refusesAny_778 rfl ?_
        refine g_if_eq (tgt := 900) K dL_refusesAny_780 (by decide) (fun u780 => absurd u780 (by decide)) (fun u780 => ?_)
        refine g_aload_n K dL_refusesAny_783 rfl ?_
        refine g_iload_n K dL_refusesAny_784 rfl ?_
        refine g_bipush K dL_refusesAny_785 kb_9 ?_
        refine g_rdV K (rd hC (c_X6_cartOf hC) (xc_no hs hno 9)) mw_X6_cartOf ml_L_20 dL_refusesAny_787 (by rfl) rfl rfl (by decide) (by simp [Value.category]) ⟨by decide, by decide⟩ ⟨by decide, by decide⟩ ?_
        clear hC
        intro S787 hC
        refine g_iconst K dL_refusesAny_790 kc_m1 ?_
        refine g_icmp_ne (tgt := 900) K dL_refusesAny_791 (by decide) (fun u791 => absurd u791 (by decide)) (fun u791 => ?_)
        refine g_aload_n K dL_refusesAny_794 rfl ?_
        refine g_iload_n K dL_refusesAny_795 rfl ?_
        refine g_iconst K dL_refusesAny_796 kc_0 ?_
        refine g_bipush K dL_refusesAny_797 kb_9 ?_
        refine g_rdV K (rd hC (c_X6_axleOf hC) (ao_noc hs hno _ _)) mw_X6_axleOf ml_L_24 dL_refusesAny_799 (by rfl) rfl rfl (by decide) (by simp [Value.category]) ⟨by decide, by decide⟩ ⟨by decide, by decide⟩ ?_
        clear hC
        intro S799 hC
        refine g_iconst K dL_refusesAny_802 kc_m1 ?_
        refine g_icmp_ne (tgt := 900) K dL_refusesAny_803 (by decide) (fun u803 => absurd u803 (by decide)) (fun u803 => ?_)
        refine g_aload_n K dL_refusesAny_806 rfl ?_
        refine g_iload_n K dL_refusesAny_807 rfl ?_
        refine g_bipush K dL_refusesAny_808 kb_99 ?_
        refine g_iconst K dL_refusesAny_810 kc_0 ?_
        refine g_bipush K dL_refusesAny_811 kb_9 ?_
        refine g_rdV K (rd hC (c_X6_tick hC) (to_no hs hno _ _ _)) mw_X6_tick ml_L_33 dL_refusesAny_813 (by rfl) rfl rfl (by decide) (by simp [Value.category]) ⟨by decide, by decide⟩ ⟨by decide, by decide⟩ ?_
        clear hC
        intro S813 hC
        refine g_iconst K dL_refusesAny_816 kc_m1 ?_
        refine g_icmp_ne (tgt := 900) K dL_refusesAny_817 (by decide) (fun u817 => absurd u817 (by decide)) (fun u817 => ?_)
        refine g_aload_n K dL_refusesAny_820 rfl ?_
        refine g_iload_n K dL_refusesAny_821 rfl ?_
        refine g_bipush K dL_refusesAny_822 kb_99 ?_
        refine g_bipush K dL_refusesAny_824 kb_9 ?_
        refine g_rdV K (rd hC (c_X6_runOf hC) (ro_no hs hno _ _)) mw_X6_runOf ml_L_30 dL_refusesAny_826 (by rfl) rfl rfl (by decide) (by simp [Value.category]) ⟨by decide, by decide⟩ ⟨by decide, by decide⟩ ?_
        clear hC
        intro S826 hC
        refine g_iconst K dL_refusesAny_829 kc_m1 ?_
        refine g_icmp_ne (tgt := 900) K dL_refusesAny_830 (by decide) (fun u830 => absurd u830 (by decide)) (fun u830 => ?_)
        refine g_aload_n K dL_refusesAny_833 rfl ?_
        refine g_iload_n K dL_refusesAny_834 rfl ?_
        refine g_iconst K dL_refusesAny_835 kc_5 ?_
        refine g_rdfV K (rdf hC (c_X6_off hC) (oo_no hs hno)) mw_X6_off ml_L_37 dL_refusesAny_836 (by rfl) rfl rfl (by decide) (by simp [Value.category]) ⟨by decide, by decide⟩ ⟨by decide, by decide⟩ ?_
        clear hC
        intro S836 hC
        refine g_fconst2 K dL_refusesAny_839 ?_
        refine g_fcmp K dL_refusesAny_840 ?_
        refine g_if_ne (tgt := 900) K dL_refusesAny_841 (by decide) (fun u841 => absurd u841 (fun h => h sz_2)) (fun u841 => ?_)
        refine g_aload_n K dL_refusesAny_844 rfl ?_
        refine g_iload_n K dL_refusesAny_845 rfl ?_
        refine g_rdV K (rd hC (c_X6_fastest hC) (of_no hs hno)) mw_X6_fastest ml_L_73 dL_refusesAny_846 (by rfl) rfl rfl (by decide) (by simp [Value.category]) ⟨by decide, by decide⟩ ⟨by decide, by decide⟩ ?_
        clear hC
        intro S846 hC
        refine g_iconst K dL_refusesAny_849 kc_m1 ?_
        refine g_icmp_ne (tgt := 900) K dL_refusesAny_850 (by decide) (fun u850 => absurd u850 (by decide)) (fun u850 => ?_)
        refine g_aload_n K dL_refusesAny_853 rfl ?_
        refine g_iload_n K dL_refusesAny_854 rfl ?_
        refine g_bipush K dL_refusesAny_855 kb_99 ?_
        refine g_rdV K (rd hC (c_X6_leastWindow hC) (ol_no hs hno _ _ _ _)) mw_X6_leastWindow ml_L_67 dL_refusesAny_857 (by rfl) rfl rfl (by decide) (by simp [Value.category]) ⟨by decide, by decide⟩ ⟨by decide, by decide⟩ ?_
        clear hC
        intro S857 hC
        refine g_iconst K dL_refusesAny_860 kc_m1 ?_
        refine g_icmp_ne (tgt := 900) K dL_refusesAny_861 (by decide) (fun u861 => absurd u861 (by decide)) (fun u861 => ?_)
        refine g_aload_n K dL_refusesAny_864 rfl ?_
        refine g_iload_n K dL_refusesAny_865 rfl ?_
        refine g_bipush K dL_refusesAny_866 kb_99 ?_
        refine g_rdV K (rd hC (c_X6_shortestPlate hC) (ol_no hs hno _ _ _ _)) mw_X6_shortestPlate ml_L_70 dL_refusesAny_868 (by rfl) rfl rfl (by decide) (by simp [Value.category]) ⟨by decide, by decide⟩ ⟨by decide, by decide⟩ ?_
        clear hC
        intro S868 hC
        refine g_iconst K dL_refusesAny_871 kc_m1 ?_
        refine g_icmp_ne (tgt := 900) K dL_refusesAny_872 (by decide) (fun u872 => absurd u872 (by decide)) (fun u872 => ?_)
        refine g_aload_n K dL_refusesAny_875 rfl ?_
        refine g_iload_n K dL_refusesAny_876 rfl ?_
        refine g_iconst K dL_refusesAny_877 kc_2 ?_
        refine g_irem K dL_refusesAny_878 (by first | assumption | decide) ?_
        refine g_nm (y := 0) hpar ?_
        refine g_if_ne (tgt := 886) K dL_refusesAny_879 (by decide) (fun u879 => absurd u879 (by decide)) (fun u879 => ?_)
        refine g_iconst K dL_refusesAny_882 kc_m1 ?_
        refine g_goto (tgt := 888) K dL_refusesAny_883 (by decide) ?_
        refine g_rdV K (rd hC (c_X6_count hC) (cn_bad A (Or.inl rfl))) mw_X6_count ml_L_14 dL_refusesAny_888 (by rfl) rfl rfl (by decide) (by simp [Value.category]) ⟨by decide, by decide⟩ ⟨by decide, by decide⟩ ?_
        clear hC
        intro S888 hC
        refine g_bipush K dL_refusesAny_891 kb_m2 ?_
        refine g_icmp_ne (tgt := 900) K dL_refusesAny_893 (by decide) (fun u893 => absurd u893 (by decide)) (fun u893 => ?_)
        refine g_iconst K dL_refusesAny_896 kc_1 ?_
        refine g_goto (tgt := 901) K dL_refusesAny_897 (by decide) ?_
        refine g_istore (ls2 := [_, _, _, _, _, _, _, _, some (.int _)]) K dL_refusesAny_901 (by decide) rfl ?_
        refine g_iload K dL_refusesAny_903 rfl ?_
        refine g_if_eq (tgt := 935) K dL_refusesAny_905 (by decide) (fun u905 => absurd u905 (by decide)) (fun u905 => ?_)
        refine g_aload_n K dL_refusesAny_908 rfl ?_
        refine g_rdV K (rq hC (c_X6_clearText hC) (tx_clear hL0)) mw_X6_clearText ml_L_76 dL_refusesAny_909 (by rfl) rfl rfl (by decide) (by simp [Value.category]) ⟨by decide, by decide⟩ ⟨by decide, by decide⟩ ?_
        clear hC
        intro S909 hC
        refine g_if_ne (tgt := 935) K dL_refusesAny_912 (by decide) (fun u912 => absurd u912 (by decide)) (fun u912 => ?_)
        refine g_aload_n K dL_refusesAny_915 rfl ?_
        refine g_rdV K (rq hC (c_X6_carts hC) (tx_carts hL0)) mw_X6_carts ml_L_80 dL_refusesAny_916 (by rfl) rfl rfl (by decide) (by simp [Value.category]) ⟨by decide, by decide⟩ ⟨by decide, by decide⟩ ?_
        clear hC
        intro S916 hC
        refine g_bipush K dL_refusesAny_919 kb_m100 ?_
        refine g_icmp_ne (tgt := 935) K dL_refusesAny_921 (by decide) (fun u921 => absurd u921 (by decide)) (fun u921 => ?_)
        refine g_aload_n K dL_refusesAny_924 rfl ?_
        refine g_rdV K (rd hC (c_X6_fault hC) (tx_fault hL0)) mw_X6_fault ml_L_83 dL_refusesAny_925 (by rfl) rfl rfl (by decide) (by simp [Value.category]) ⟨by decide, by decide⟩ ⟨by decide, by decide⟩ ?_
        clear hC
        intro S925 hC
        refine g_if_ne (tgt := 935) K dL_refusesAny_928 (by decide) (fun u928 => absurd u928 (by decide)) (fun u928 => ?_)
        refine g_iconst K dL_refusesAny_931 kc_1 ?_
        refine g_goto (tgt := 936) K dL_refusesAny_932 (by decide) ?_
        refine g_zret K dL_refusesAny_936 (by first | exact Or.inl rfl | exact Or.inr rfl | assumption) ⟨_, rfl, ?_⟩
        exact ⟨rfl, hC⟩
      rcases hy with ⟨hn0, rfl⟩ | ⟨hn0, rfl⟩
      · skip
        refine g_iload K dL_refusesAny_409 rfl ?_
        refine g_if_eq (tgt := 771) K dL_refusesAny_411 (by decide) (fun u411 => ?_) (fun u411 => absurd (by decide) u411)
        refine g_iconst K dL_refusesAny_771 kc_1 ?_
        refine g_goto (tgt := 776) K dL_refusesAny_772 (by decide) ?_
        exact k776 _ hC
      · obtain ⟨N, hq⟩ := hs.2.2.2 0 hn0
        have h5 := hq.2.2.1
        have hN1 := hq.2.1
        refine g_iload K dL_refusesAny_409 rfl ?_
        refine g_if_eq (tgt := 771) K dL_refusesAny_411 (by decide) (fun u411 => absurd u411 (by decide)) (fun u411 => ?_)
        refine g_aload_n K dL_refusesAny_414 rfl ?_
        refine g_iconst K dL_refusesAny_415 kc_0 ?_
        refine g_iload K dL_refusesAny_416 rfl ?_
        refine g_iconst K dL_refusesAny_418 kc_5 ?_
        refine g_rdV K (rq hC (c_X6_axle hC) (rf_axle_d (k := 0) hs hn0 (fun q => hdi q.1))) mw_X6_axle ml_L_48 dL_refusesAny_419 (by rfl) rfl rfl (by decide) (by simp [Value.category]) ⟨by decide, by decide⟩ ⟨by decide, by decide⟩ ?_
        clear hC
        intro S419 hC
        refine g_bipush K dL_refusesAny_422 kb_m2 ?_
        refine g_icmp_ne (tgt := 775) K dL_refusesAny_424 (by decide) (fun u424 => absurd u424 (by decide)) (fun u424 => ?_)
        refine g_aload_n K dL_refusesAny_427 rfl ?_
        refine g_iconst K dL_refusesAny_428 kc_0 ?_
        refine g_iconst K dL_refusesAny_429 kc_5 ?_
        refine g_iload K dL_refusesAny_430 rfl ?_
        refine g_rdV K (rq hC (c_X6_axle hC) (rf_axle_d (k := 0) hs hn0 (fun q => hwe q.2))) mw_X6_axle ml_L_48 dL_refusesAny_432 (by rfl) rfl rfl (by decide) (by simp [Value.category]) ⟨by decide, by decide⟩ ⟨by decide, by decide⟩ ?_
        clear hC
        intro S432 hC
        refine g_bipush K dL_refusesAny_435 kb_m2 ?_
        refine g_icmp_ne (tgt := 775) K dL_refusesAny_437 (by decide) (fun u437 => absurd u437 (by decide)) (fun u437 => ?_)
        have k462 : ∀ (S4 : ST), (CRel S4 A n) → G pr l en (rmd 8) s0 mi (List.toArray [.ref (ad 0), .int (nI xn)]) below meth c' (MQ below (QQ b D cA NN ad zT (RI (fun r S2 => r = 1 ∧ CRel S2 A n))) (List.toArray [.ref (ad 0), .int (nI xn)]) s0 0 0 (aF b)) b D cA 9 NN ad zT 0 0 462 [some (.ref (ad 0)), some (.int (nI xn)), some (.int no), some (.int ax), some (.int we), some (.int sp), some (.int di), some (.int 1), some (.int 1)] [] S4 := by
          intro S4  hC
          refine g_aload_n K dL_refusesAny_462 rfl ?_
          refine g_iconst K dL_refusesAny_463 kc_0 ?_
          refine g_iload_n K dL_refusesAny_464 rfl ?_
          refine g_iload K dL_refusesAny_465 rfl ?_
          refine g_rdV K (rq hC (c_X6_load hC) (rf_load_a (k := 0) hs hn0 hq (hax N h5) _)) mw_X6_load ml_L_51 dL_refusesAny_467 (by rfl) rfl rfl (by decide) (by simp [Value.category]) ⟨by decide, by decide⟩ ⟨by decide, by decide⟩ ?_
          clear hC
          intro S467 hC
          refine g_iconst K dL_refusesAny_470 kc_m1 ?_
          refine g_icmp_ne (tgt := 775) K dL_refusesAny_471 (by decide) (fun u471 => absurd u471 (by decide)) (fun u471 => ?_)
          refine g_aload_n K dL_refusesAny_474 rfl ?_
          refine g_iconst K dL_refusesAny_475 kc_0 ?_
          refine g_iconst K dL_refusesAny_476 kc_0 ?_
          refine g_iload K dL_refusesAny_477 rfl ?_
          refine g_rdV K (rq hC (c_X6_load hC) (rf_load_w (k := 0) (a := 0) hs hn0 hq hN1 hwe)) mw_X6_load ml_L_51 dL_refusesAny_479 (by rfl) rfl rfl (by decide) (by simp [Value.category]) ⟨by decide, by decide⟩ ⟨by decide, by decide⟩ ?_
          clear hC
          intro S479 hC
          refine g_bipush K dL_refusesAny_482 kb_m2 ?_
          refine g_icmp_ne (tgt := 775) K dL_refusesAny_484 (by decide) (fun u484 => absurd u484 (by decide)) (fun u484 => ?_)
          refine g_aload_n K dL_refusesAny_487 rfl ?_
          refine g_iconst K dL_refusesAny_488 kc_0 ?_
          refine g_iconst K dL_refusesAny_489 kc_0 ?_
          refine g_aload_n K dL_refusesAny_490 rfl ?_
          refine g_iconst K dL_refusesAny_491 kc_0 ?_
          refine g_iconst K dL_refusesAny_492 kc_0 ?_
          refine g_iconst K dL_refusesAny_493 kc_0 ?_
          refine g_rdV K (rd hC (c_X6_axleOf hC) (ao_0 (k := 0) (a := 0) hs hn0 hq hN1)) mw_X6_axleOf ml_L_24 dL_refusesAny_494 (by rfl) rfl rfl (by decide) (by simp [Value.category]) ⟨by decide, by decide⟩ ⟨by decide, by decide⟩ ?_
          clear hC
          intro S494 hC
          refine g_rdV K (rq hC (c_X6_load hC) (rf_load_same (k := 0) (a := 0) hs hn0 hq hN1 rfl)) mw_X6_load ml_L_51 dL_refusesAny_497 (by rfl) rfl rfl (by decide) (by simp [Value.category]) ⟨by decide, by decide⟩ ⟨by decide, by decide⟩ ?_
          clear hC
          intro S497 hC
          refine g_bipush K dL_refusesAny_500 kb_m5 ?_
          refine g_icmp_ne (tgt := 775) K dL_refusesAny_502 (by decide) (fun u502 => absurd u502 (by decide)) (fun u502 => ?_)
          refine g_aload_n K dL_refusesAny_505 rfl ?_
          refine g_iconst K dL_refusesAny_506 kc_0 ?_
          refine g_iload_n K dL_refusesAny_507 rfl ?_
          refine g_iconst K dL_refusesAny_508 kc_1 ?_
          refine g_rdV K (rq hC (c_X6_lift hC (Or.inr rfl)) (rf_lift_a (k := 0) hs hn0 hq (hax N h5) _)) mw_X6_lift ml_L_54 dL_refusesAny_509 (by rfl) rfl rfl (by decide) (by simp [Value.category]) ⟨by decide, by decide⟩ ⟨by decide, by decide⟩ ?_
          clear hC
          intro S509 hC
          refine g_iconst K dL_refusesAny_512 kc_m1 ?_
          refine g_icmp_ne (tgt := 775) K dL_refusesAny_513 (by decide) (fun u513 => absurd u513 (by decide)) (fun u513 => ?_)
          have k543 : ∀ (S5 : ST), (CRel S5 A n) → G pr l en (rmd 8) s0 mi (List.toArray [.ref (ad 0), .int (nI xn)]) below meth c' (MQ below (QQ b D cA NN ad zT (RI (fun r S2 => r = 1 ∧ CRel S2 A n))) (List.toArray [.ref (ad 0), .int (nI xn)]) s0 0 0 (aF b)) b D cA 9 NN ad zT 0 0 543 [some (.ref (ad 0)), some (.int (nI xn)), some (.int no), some (.int ax), some (.int we), some (.int sp), some (.int di), some (.int 1), some (.int 1)] [] S5 := by
            intro S5  hC
            refine g_aload_n K dL_refusesAny_543 rfl ?_
            refine g_iconst K dL_refusesAny_544 kc_0 ?_
            refine g_iload K dL_refusesAny_545 rfl ?_
            refine g_rdV K (rq hC (c_X6_run hC) (rf_run_s (k := 0) hs hn0 hsp)) mw_X6_run ml_L_58 dL_refusesAny_547 (by rfl) rfl rfl (by decide) (by simp [Value.category]) ⟨by decide, by decide⟩ ⟨by decide, by decide⟩ ?_
            clear hC
            intro S547 hC
            refine g_bipush K dL_refusesAny_550 kb_m2 ?_
            refine g_icmp_ne (tgt := 775) K dL_refusesAny_552 (by decide) (fun u552 => absurd u552 (by decide)) (fun u552 => ?_)
            have k576 : ∀ (S6 : ST), (CRel S6 A n) → G pr l en (rmd 8) s0 mi (List.toArray [.ref (ad 0), .int (nI xn)]) below meth c' (MQ below (QQ b D cA NN ad zT (RI (fun r S2 => r = 1 ∧ CRel S2 A n))) (List.toArray [.ref (ad 0), .int (nI xn)]) s0 0 0 (aF b)) b D cA 9 NN ad zT 0 0 576 [some (.ref (ad 0)), some (.int (nI xn)), some (.int no), some (.int ax), some (.int we), some (.int sp), some (.int di), some (.int 1), some (.int 1)] [] S6 := by
              intro S6  hC
              refine g_aload_n K dL_refusesAny_576 rfl ?_
              refine g_iconst K dL_refusesAny_577 kc_0 ?_
              refine g_iload_n K dL_refusesAny_578 rfl ?_
              refine g_iconst K dL_refusesAny_579 kc_2 ?_
              refine g_irem K dL_refusesAny_580 (by first | assumption | decide) ?_
              refine g_nm (y := 0) hpar ?_
              refine g_if_ne (tgt := 588) K dL_refusesAny_581 (by decide) (fun u581 => absurd u581 (by decide)) (fun u581 => ?_)
              refine g_iconst K dL_refusesAny_584 kc_m1 ?_
              refine g_goto (tgt := 590) K dL_refusesAny_585 (by decide) ?_
              refine g_rdV K (rd hC (c_X6_cartOf hC) (xc_bad (k := 0) hs hn0 (Or.inl rfl))) mw_X6_cartOf ml_L_20 dL_refusesAny_590 (by rfl) rfl rfl (by decide) (by simp [Value.category]) ⟨by decide, by decide⟩ ⟨by decide, by decide⟩ ?_
              clear hC
              intro S590 hC
              refine g_bipush K dL_refusesAny_593 kb_m2 ?_
              refine g_icmp_ne (tgt := 775) K dL_refusesAny_595 (by decide) (fun u595 => absurd u595 (by decide)) (fun u595 => ?_)
              refine g_aload_n K dL_refusesAny_598 rfl ?_
              refine g_iconst K dL_refusesAny_599 kc_0 ?_
              refine g_iload_n K dL_refusesAny_600 rfl ?_
              refine g_bipush K dL_refusesAny_601 kb_9 ?_
              refine g_rdV K (rd hC (c_X6_axleOf hC) (ao_no (k := 0) hs hn0 hq (hax N h5) 9)) mw_X6_axleOf ml_L_24 dL_refusesAny_603 (by rfl) rfl rfl (by decide) (by simp [Value.category]) ⟨by decide, by decide⟩ ⟨by decide, by decide⟩ ?_
              clear hC
              intro S603 hC
              refine g_iconst K dL_refusesAny_606 kc_m1 ?_
              refine g_icmp_ne (tgt := 775) K dL_refusesAny_607 (by decide) (fun u607 => absurd u607 (by decide)) (fun u607 => ?_)
              refine g_aload_n K dL_refusesAny_610 rfl ?_
              refine g_iconst K dL_refusesAny_611 kc_0 ?_
              refine g_iconst K dL_refusesAny_612 kc_0 ?_
              refine g_iload_n K dL_refusesAny_613 rfl ?_
              refine g_iconst K dL_refusesAny_614 kc_2 ?_
              refine g_irem K dL_refusesAny_615 (by first | assumption | decide) ?_
              refine g_nm (y := 0) hpar ?_
              refine g_if_ne (tgt := 623) K dL_refusesAny_616 (by decide) (fun u616 => absurd u616 (by decide)) (fun u616 => ?_)
              refine g_iconst K dL_refusesAny_619 kc_m1 ?_
              refine g_goto (tgt := 624) K dL_refusesAny_620 (by decide) ?_
              refine g_rdV K (rd hC (c_X6_axleOf hC) (ao_bad (k := 0) (a := 0) hs hn0 hq hN1 (Or.inl rfl))) mw_X6_axleOf ml_L_24 dL_refusesAny_624 (by rfl) rfl rfl (by decide) (by simp [Value.category]) ⟨by decide, by decide⟩ ⟨by decide, by decide⟩ ?_
              clear hC
              intro S624 hC
              refine g_bipush K dL_refusesAny_627 kb_m2 ?_
              refine g_icmp_ne (tgt := 775) K dL_refusesAny_629 (by decide) (fun u629 => absurd u629 (by decide)) (fun u629 => ?_)
              refine g_aload_n K dL_refusesAny_632 rfl ?_
              refine g_iconst K dL_refusesAny_633 kc_0 ?_
              refine g_iload K dL_refusesAny_634 rfl ?_
              refine g_sipush K dL_refusesAny_636 kp_999 ?_
              refine g_bipush K dL_refusesAny_639 kb_9 ?_
              refine g_rdV K (rd hC (c_X6_tick hC) (to_s (k := 0) hs hn0 hsp _ _)) mw_X6_tick ml_L_33 dL_refusesAny_641 (by rfl) rfl rfl (by decide) (by simp [Value.category]) ⟨by decide, by decide⟩ ⟨by decide, by decide⟩ ?_
              clear hC
              intro S641 hC
              refine g_bipush K dL_refusesAny_644 kb_m2 ?_
              refine g_icmp_ne (tgt := 775) K dL_refusesAny_646 (by decide) (fun u646 => absurd u646 (by decide)) (fun u646 => ?_)
              refine g_aload_n K dL_refusesAny_649 rfl ?_
              refine g_iconst K dL_refusesAny_650 kc_0 ?_
              refine g_iconst K dL_refusesAny_651 kc_5 ?_
              refine g_iconst K dL_refusesAny_652 kc_m1 ?_
              refine g_bipush K dL_refusesAny_653 kb_9 ?_
              refine g_rdV K (rd hC (c_X6_tick hC) (to_out (k := 0) (s := 5) (t := -1) hs hn0 (by decide) (Or.inl (by decide)) 9)) mw_X6_tick ml_L_33 dL_refusesAny_655 (by rfl) rfl rfl (by decide) (by simp [Value.category]) ⟨by decide, by decide⟩ ⟨by decide, by decide⟩ ?_
              clear hC
              intro S655 hC
              refine g_iconst K dL_refusesAny_658 kc_m1 ?_
              refine g_icmp_ne (tgt := 775) K dL_refusesAny_659 (by decide) (fun u659 => absurd u659 (by decide)) (fun u659 => ?_)
              refine g_aload_n K dL_refusesAny_662 rfl ?_
              refine g_iconst K dL_refusesAny_663 kc_0 ?_
              refine g_iconst K dL_refusesAny_664 kc_5 ?_
              refine g_bipush K dL_refusesAny_665 kb_120 ?_
              refine g_bipush K dL_refusesAny_667 kb_9 ?_
              refine g_rdV K (rd hC (c_X6_tick hC) (to_out (k := 0) (s := 5) (t := 120) hs hn0 (by decide) (Or.inr (by decide)) 9)) mw_X6_tick ml_L_33 dL_refusesAny_669 (by rfl) rfl rfl (by decide) (by simp [Value.category]) ⟨by decide, by decide⟩ ⟨by decide, by decide⟩ ?_
              clear hC
              intro S669 hC
              refine g_iconst K dL_refusesAny_672 kc_m1 ?_
              refine g_icmp_ne (tgt := 775) K dL_refusesAny_673 (by decide) (fun u673 => absurd u673 (by decide)) (fun u673 => ?_)
              refine g_aload_n K dL_refusesAny_676 rfl ?_
              refine g_iconst K dL_refusesAny_677 kc_0 ?_
              refine g_iconst K dL_refusesAny_678 kc_5 ?_
              refine g_iconst K dL_refusesAny_679 kc_0 ?_
              refine g_iload_n K dL_refusesAny_680 rfl ?_
              refine g_iconst K dL_refusesAny_681 kc_2 ?_
              refine g_irem K dL_refusesAny_682 (by first | assumption | decide) ?_
              refine g_nm (y := 0) hpar ?_
              refine g_if_ne (tgt := 690) K dL_refusesAny_683 (by decide) (fun u683 => absurd u683 (by decide)) (fun u683 => ?_)
              refine g_iconst K dL_refusesAny_686 kc_m1 ?_
              refine g_goto (tgt := 691) K dL_refusesAny_687 (by decide) ?_
              refine g_rdV K (rd hC (c_X6_tick hC) (to_bad (k := 0) (s := 5) hs hn0 hq (by decide) (Or.inl rfl))) mw_X6_tick ml_L_33 dL_refusesAny_691 (by rfl) rfl rfl (by decide) (by simp [Value.category]) ⟨by decide, by decide⟩ ⟨by decide, by decide⟩ ?_
              clear hC
              intro S691 hC
              refine g_bipush K dL_refusesAny_694 kb_m2 ?_
              refine g_icmp_ne (tgt := 775) K dL_refusesAny_696 (by decide) (fun u696 => absurd u696 (by decide)) (fun u696 => ?_)
              refine g_aload_n K dL_refusesAny_699 rfl ?_
              refine g_iconst K dL_refusesAny_700 kc_0 ?_
              refine g_iload K dL_refusesAny_701 rfl ?_
              refine g_iconst K dL_refusesAny_703 kc_0 ?_
              refine g_rdV K (rd hC (c_X6_runOf hC) (ro_s (k := 0) hs hn0 hsp _)) mw_X6_runOf ml_L_30 dL_refusesAny_704 (by rfl) rfl rfl (by decide) (by simp [Value.category]) ⟨by decide, by decide⟩ ⟨by decide, by decide⟩ ?_
              clear hC
              intro S704 hC
              refine g_bipush K dL_refusesAny_707 kb_m2 ?_
              refine g_icmp_ne (tgt := 775) K dL_refusesAny_709 (by decide) (fun u709 => absurd u709 (by decide)) (fun u709 => ?_)
              refine g_aload_n K dL_refusesAny_712 rfl ?_
              refine g_iconst K dL_refusesAny_713 kc_0 ?_
              refine g_iconst K dL_refusesAny_714 kc_5 ?_
              refine g_iload_n K dL_refusesAny_715 rfl ?_
              refine g_iconst K dL_refusesAny_716 kc_2 ?_
              refine g_irem K dL_refusesAny_717 (by first | assumption | decide) ?_
              refine g_nm (y := 0) hpar ?_
              refine g_if_ne (tgt := 725) K dL_refusesAny_718 (by decide) (fun u718 => absurd u718 (by decide)) (fun u718 => ?_)
              refine g_iconst K dL_refusesAny_721 kc_m1 ?_
              refine g_goto (tgt := 727) K dL_refusesAny_722 (by decide) ?_
              refine g_rdV K (rd hC (c_X6_runOf hC) (ro_bad (k := 0) (s := 5) hs hn0 (by decide) (Or.inl rfl))) mw_X6_runOf ml_L_30 dL_refusesAny_727 (by rfl) rfl rfl (by decide) (by simp [Value.category]) ⟨by decide, by decide⟩ ⟨by decide, by decide⟩ ?_
              clear hC
              intro S727 hC
              refine g_bipush K dL_refusesAny_730 kb_m2 ?_
              refine g_icmp_ne (tgt := 775) K dL_refusesAny_732 (by decide) (fun u732 => absurd u732 (by decide)) (fun u732 => ?_)
              refine g_aload_n K dL_refusesAny_735 rfl ?_
              refine g_iconst K dL_refusesAny_736 kc_0 ?_
              refine g_iload K dL_refusesAny_737 rfl ?_
              refine g_rdfV K (rdf hC (c_X6_off hC) (oo_s hsp)) mw_X6_off ml_L_37 dL_refusesAny_739 (by rfl) rfl rfl (by decide) (by simp [Value.category]) ⟨by decide, by decide⟩ ⟨by decide, by decide⟩ ?_
              clear hC
              intro S739 hC
              refine g_fconst2 K dL_refusesAny_742 ?_
              refine g_fcmp K dL_refusesAny_743 ?_
              refine g_if_ne (tgt := 775) K dL_refusesAny_744 (by decide) (fun u744 => absurd u744 (fun h => h sz_2)) (fun u744 => ?_)
              refine g_aload_n K dL_refusesAny_747 rfl ?_
              refine g_iconst K dL_refusesAny_748 kc_0 ?_
              refine g_iload K dL_refusesAny_749 rfl ?_
              refine g_rdV K (rd hC (c_X6_leastWindow hC) (ol_s (k := 0) hs hn0 hsp _ _ _)) mw_X6_leastWindow ml_L_67 dL_refusesAny_751 (by rfl) rfl rfl (by decide) (by simp [Value.category]) ⟨by decide, by decide⟩ ⟨by decide, by decide⟩ ?_
              clear hC
              intro S751 hC
              refine g_bipush K dL_refusesAny_754 kb_m2 ?_
              refine g_icmp_ne (tgt := 775) K dL_refusesAny_756 (by decide) (fun u756 => absurd u756 (by decide)) (fun u756 => ?_)
              refine g_aload_n K dL_refusesAny_759 rfl ?_
              refine g_iconst K dL_refusesAny_760 kc_0 ?_
              refine g_iload K dL_refusesAny_761 rfl ?_
              refine g_rdV K (rd hC (c_X6_shortestPlate hC) (ol_s (k := 0) hs hn0 hsp _ _ _)) mw_X6_shortestPlate ml_L_70 dL_refusesAny_763 (by rfl) rfl rfl (by decide) (by simp [Value.category]) ⟨by decide, by decide⟩ ⟨by decide, by decide⟩ ?_
              clear hC
              intro S763 hC
              refine g_bipush K dL_refusesAny_766 kb_m2 ?_
              refine g_icmp_ne (tgt := 775) K dL_refusesAny_768 (by decide) (fun u768 => absurd u768 (by decide)) (fun u768 => ?_)
              refine g_iconst K dL_refusesAny_771 kc_1 ?_
              refine g_goto (tgt := 776) K dL_refusesAny_772 (by decide) ?_
              exact k776 _ hC
            refine g_aload_n K dL_refusesAny_555 rfl ?_
            refine g_iconst K dL_refusesAny_556 kc_0 ?_
            refine g_iconst K dL_refusesAny_557 kc_5 ?_
            refine g_rdV K (rd hC (c_X6_cartOf hC) (xc_5 (k := 0) hs hn0)) mw_X6_cartOf ml_L_20 dL_refusesAny_558 (by rfl) rfl rfl (by decide) (by simp [Value.category]) ⟨by decide, by decide⟩ ⟨by decide, by decide⟩ ?_
            clear hC
            intro S558 hC
            refine g_bipush K dL_refusesAny_561 kb_m5 ?_
            refine g_icmp_ne (tgt := 576) K dL_refusesAny_563 (by decide) (fun u563 => ?_) (fun u563 => ?_)
            · exact k576 _ hC
            · refine g_aload_n K dL_refusesAny_566 rfl ?_
              refine g_iconst K dL_refusesAny_567 kc_0 ?_
              refine g_rdV K (rq hC (c_X6_tare hC) (rf_tare_np (k := 0) hs hn0 u563)) mw_X6_tare ml_L_61 dL_refusesAny_568 (by rfl) rfl rfl (by decide) (by simp [Value.category]) ⟨by decide, by decide⟩ ⟨by decide, by decide⟩ ?_
              clear hC
              intro S568 hC
              refine g_bipush K dL_refusesAny_571 kb_m4 ?_
              refine g_icmp_ne (tgt := 775) K dL_refusesAny_573 (by decide) (fun u573 => absurd u573 (by decide)) (fun u573 => ?_)
              exact k576 _ hC
          rcases (hq.2.2.2.1 0 hN1).2.2.2.2 with hl | hl
          · skip
            refine g_aload_n K dL_refusesAny_516 rfl ?_
            refine g_iconst K dL_refusesAny_517 kc_0 ?_
            refine g_iconst K dL_refusesAny_518 kc_0 ?_
            refine g_aload_n K dL_refusesAny_519 rfl ?_
            refine g_iconst K dL_refusesAny_520 kc_0 ?_
            refine g_iconst K dL_refusesAny_521 kc_0 ?_
            refine g_iconst K dL_refusesAny_522 kc_2 ?_
            refine g_rdV K (rd hC (c_X6_axleOf hC) ((ao_2 (k := 0) (a := 0) hs hn0 hq hN1).trans hl)) mw_X6_axleOf ml_L_24 dL_refusesAny_523 (by rfl) rfl rfl (by decide) (by simp [Value.category]) ⟨by decide, by decide⟩ ⟨by decide, by decide⟩ ?_
            clear hC
            intro S523 hC
            refine g_iconst K dL_refusesAny_526 kc_1 ?_
            refine g_icmp_ne (tgt := 534) K dL_refusesAny_527 (by decide) (fun u527 => ?_) (fun u527 => absurd u527 (by decide))
            refine g_iconst K dL_refusesAny_534 kc_0 ?_
            refine g_rdV K (rq hC (c_X6_lift hC (Or.inl rfl)) (rf_lift_same (k := 0) (a := 0) hs hn0 hq hN1 hl)) mw_X6_lift ml_L_54 dL_refusesAny_535 (by rfl) rfl rfl (by decide) (by simp [Value.category]) ⟨by decide, by decide⟩ ⟨by decide, by decide⟩ ?_
            clear hC
            intro S535 hC
            refine g_bipush K dL_refusesAny_538 kb_m5 ?_
            refine g_icmp_ne (tgt := 775) K dL_refusesAny_540 (by decide) (fun u540 => absurd u540 (by decide)) (fun u540 => ?_)
            exact k543 _ hC
          · skip
            refine g_aload_n K dL_refusesAny_516 rfl ?_
            refine g_iconst K dL_refusesAny_517 kc_0 ?_
            refine g_iconst K dL_refusesAny_518 kc_0 ?_
            refine g_aload_n K dL_refusesAny_519 rfl ?_
            refine g_iconst K dL_refusesAny_520 kc_0 ?_
            refine g_iconst K dL_refusesAny_521 kc_0 ?_
            refine g_iconst K dL_refusesAny_522 kc_2 ?_
            refine g_rdV K (rd hC (c_X6_axleOf hC) ((ao_2 (k := 0) (a := 0) hs hn0 hq hN1).trans hl)) mw_X6_axleOf ml_L_24 dL_refusesAny_523 (by rfl) rfl rfl (by decide) (by simp [Value.category]) ⟨by decide, by decide⟩ ⟨by decide, by decide⟩ ?_
            clear hC
            intro S523 hC
            refine g_iconst K dL_refusesAny_526 kc_1 ?_
            refine g_icmp_ne (tgt := 534) K dL_refusesAny_527 (by decide) (fun u527 => absurd u527 (by decide)) (fun u527 => ?_)
            refine g_iconst K dL_refusesAny_530 kc_1 ?_
            refine g_goto (tgt := 535) K dL_refusesAny_531 (by decide) ?_
            refine g_rdV K (rq hC (c_X6_lift hC (Or.inr rfl)) (rf_lift_same (k := 0) (a := 0) hs hn0 hq hN1 hl)) mw_X6_lift ml_L_54 dL_refusesAny_535 (by rfl) rfl rfl (by decide) (by simp [Value.category]) ⟨by decide, by decide⟩ ⟨by decide, by decide⟩ ?_
            clear hC
            intro S535 hC
            refine g_bipush K dL_refusesAny_538 kb_m5 ?_
            refine g_icmp_ne (tgt := 775) K dL_refusesAny_540 (by decide) (fun u540 => absurd u540 (by decide)) (fun u540 => ?_)
            exact k543 _ hC
        refine g_aload_n K dL_refusesAny_440 rfl ?_
        refine g_iconst K dL_refusesAny_441 kc_0 ?_
        refine g_iconst K dL_refusesAny_442 kc_0 ?_
        refine g_rdV K (rd hC (c_X6_cartOf hC) (xc_0 (k := 0) hs hn0 hq)) mw_X6_cartOf ml_L_20 dL_refusesAny_443 (by rfl) rfl rfl (by decide) (by simp [Value.category]) ⟨by decide, by decide⟩ ⟨by decide, by decide⟩ ?_
        clear hC
        intro S443 hC
        refine g_iconst K dL_refusesAny_446 kc_5 ?_
        refine g_icmp_lt (tgt := 462) K dL_refusesAny_447 (by decide) (fun u447 => ?_) (fun u447 => ?_)
        · exact k462 _ hC
        · have hN5 : N = 5 := by
            rcases Nat.lt_or_ge N 5 with h | h
            · exact absurd (nI_lt (b := 5) h (by decide)) u447
            · omega
          refine g_aload_n K dL_refusesAny_450 rfl ?_
          refine g_iconst K dL_refusesAny_451 kc_0 ?_
          refine g_iconst K dL_refusesAny_452 kc_5 ?_
          refine g_iconst K dL_refusesAny_453 kc_5 ?_
          refine g_rdV K (rq hC (c_X6_axle hC) (rf_axle_5 (k := 0) (d := 5) (w := 5) hs hn0 hq hN5 (by decide))) mw_X6_axle ml_L_48 dL_refusesAny_454 (by rfl) rfl rfl (by decide) (by simp [Value.category]) ⟨by decide, by decide⟩ ⟨by decide, by decide⟩ ?_
          clear hC
          intro S454 hC
          refine g_bipush K dL_refusesAny_457 kb_m3 ?_
          refine g_icmp_ne (tgt := 775) K dL_refusesAny_459 (by decide) (fun u459 => absurd u459 (by decide)) (fun u459 => ?_)
          exact k462 _ hC
    refine g_aload_n K dL_refusesAny_142 rfl ?_
    refine g_iconst K dL_refusesAny_143 kc_0 ?_
    refine g_rdV K (rd hC (c_X6_count hC) (cn_0 hs)) mw_X6_count ml_L_14 dL_refusesAny_144 (by rfl) rfl rfl (by decide) (by simp [Value.category]) ⟨by decide, by decide⟩ ⟨by decide, by decide⟩ ?_
    clear hC
    intro S144 hC
    refine g_bipush K dL_refusesAny_147 kb_6 ?_
    refine g_icmp_lt (tgt := 162) K dL_refusesAny_149 (by decide) (fun u149 => ?_) (fun u149 => ?_)
    · exact k162 _ hC
    · have hn6 : aZ A 6 = 6 := by
        rcases Nat.lt_or_ge n 6 with h | h
        · exact absurd (nI_lt (b := 6) h (by decide)) u149
        · rw [hs.2.1, show n = 6 by omega]
          rfl
      refine g_aload_n K dL_refusesAny_152 rfl ?_
      refine g_iconst K dL_refusesAny_153 kc_5 ?_
      refine g_rdV K (rq hC (c_X6_cart hC) (rf_cart6 (w := 5) hn6 (by decide))) mw_X6_cart ml_L_45 dL_refusesAny_154 (by rfl) rfl rfl (by decide) (by simp [Value.category]) ⟨by decide, by decide⟩ ⟨by decide, by decide⟩ ?_
      clear hC
      intro S154 hC
      refine g_bipush K dL_refusesAny_157 kb_m3 ?_
      refine g_icmp_ne (tgt := 401) K dL_refusesAny_159 (by decide) (fun u159 => absurd u159 (by decide)) (fun u159 => ?_)
      exact k162 _ hC
  refine g_aload_n K dL_refusesAny_116 rfl ?_
  refine g_iconst K dL_refusesAny_117 kc_0 ?_
  refine g_rdV K (rd hC (c_X6_count hC) (cn_0 hs)) mw_X6_count ml_L_14 dL_refusesAny_118 (by rfl) rfl rfl (by decide) (by simp [Value.category]) ⟨by decide, by decide⟩ ⟨by decide, by decide⟩ ?_
  clear hC
  intro S118 hC
  refine g_if_le (tgt := 128) K dL_refusesAny_121 (by decide) (fun u121 => ?_) (fun u121 => ?_)
  · have hy : (n = 0 ∧ (0 : Int32) = 0) ∨ (1 ≤ n ∧ (0 : Int32) = 1) := Or.inl ⟨by
      rcases Nat.eq_zero_or_pos n with h | h
      · exact h
      · exact absurd u121 (nI_nle h (by omega)), rfl⟩
    refine g_iconst K dL_refusesAny_128 kc_0 ?_
    refine g_istore (ls2 := [_, _, _, _, _, _, _, some (.int _), _]) K dL_refusesAny_129 (by decide) rfl ?_
    exact k131 _ _ hC hy
  · have hy : (n = 0 ∧ (1 : Int32) = 0) ∨ (1 ≤ n ∧ (1 : Int32) = 1) := Or.inr ⟨by
      rcases Nat.eq_zero_or_pos n with h | h
      · subst h
        exact absurd (by decide) u121
      · exact h, rfl⟩
    refine g_iconst K dL_refusesAny_124 kc_1 ?_
    refine g_goto (tgt := 129) K dL_refusesAny_125 (by decide) ?_
    refine g_istore (ls2 := [_, _, _, _, _, _, _, some (.int _), _]) K dL_refusesAny_129 (by decide) rfl ?_
    exact k131 _ _ hC hy
set_option maxHeartbeats 40000000 in
set_option maxRecDepth 100000 in
theorem c_L_ra_od {l : Launch} {b : Nat} {D : va_G} {cA : Nat → ClassId} {ad : Nat → Nat} {S : ST} {A : AS} {n xn m i6 : Nat} {no ax we sp di : Int32} (hC : CRel S A n) (hL0 : aL A = 0) (hx : xn < 2 ^ 31) (hpar : nI xn - nI xn / 2 * 2 = 1) (hm : xn % 99 = m) (hi6 : xn % 6 = i6) (hi66 : i6 < 6) (eno : 6 + nI m = no) (eax : 5 + nI m = ax) (ewe : 201 + nI m = we) (esp : 10 + nI m = sp) (edi : 41 + nI m = di) (hno : ¬ (0 ≤ no ∧ no < nI n)) (hax : ∀ N, N ≤ 5 → ¬ (0 ≤ ax ∧ ax < nI N)) (hwe : ¬ (1 ≤ we ∧ we ≤ 200)) (hsp : ¬ (1 ≤ sp ∧ sp ≤ 9)) (hdi : ¬ (2 ≤ di ∧ di ≤ 40)) : MT l b D cA NN ad zT yL_refusesAny cL_refusesAny 9 (some .boolean) 8 [.ref (ad 0), .int (nI xn)] S (RI (fun r S2 => r = 1 ∧ CRel S2 A n)) := by
  have hs := hC.st
  have n6 := hs.2.2.1
  refine MT.intro (j := 7) (ls := [some (.ref (ad 0)), some (.int (nI xn)), none, none, none, none, none, none, none]) pn_L rfl rfl rfl (fun pr en s0 mi below meth c' K _ => ?_)
  refine g_iload_n K dL_refusesAny_0 rfl ?_
  refine g_iconst K dL_refusesAny_1 kc_2 ?_
  refine g_irem K dL_refusesAny_2 (by first | assumption | decide) ?_
  refine g_nm (y := 1) hpar ?_
  refine g_if_ne (tgt := 15) K dL_refusesAny_3 (by decide) (fun u3 => ?_) (fun u3 => absurd u3 (by decide))
  refine g_bipush K dL_refusesAny_15 kb_6 ?_
  refine g_iload_n K dL_refusesAny_17 rfl ?_
  refine g_bipush K dL_refusesAny_18 kb_99 ?_
  refine g_irem K dL_refusesAny_20 (by first | assumption | decide) ?_
  refine g_nm (y := (nI m)) ((pk_rem (d := 99) hx (by decide) (by decide)).trans (by rw [hm])) ?_
  refine g_iadd K dL_refusesAny_21 ?_
  refine g_nm (y := no) eno ?_
  refine g_istore_n (ls2 := [_, _, some (.int _), _, _, _, _, _, _]) K dL_refusesAny_22 (by decide) rfl ?_
  refine g_iload_n K dL_refusesAny_23 rfl ?_
  refine g_iconst K dL_refusesAny_24 kc_2 ?_
  refine g_irem K dL_refusesAny_25 (by first | assumption | decide) ?_
  refine g_nm (y := 1) hpar ?_
  refine g_if_ne (tgt := 38) K dL_refusesAny_26 (by decide) (fun u26 => ?_) (fun u26 => absurd u26 (by decide))
  refine g_iconst K dL_refusesAny_38 kc_5 ?_
  refine g_iload_n K dL_refusesAny_39 rfl ?_
  refine g_bipush K dL_refusesAny_40 kb_99 ?_
  refine g_irem K dL_refusesAny_42 (by first | assumption | decide) ?_
  refine g_nm (y := (nI m)) ((pk_rem (d := 99) hx (by decide) (by decide)).trans (by rw [hm])) ?_
  refine g_iadd K dL_refusesAny_43 ?_
  refine g_nm (y := ax) eax ?_
  refine g_istore_n (ls2 := [_, _, _, some (.int _), _, _, _, _, _]) K dL_refusesAny_44 (by decide) rfl ?_
  refine g_iload_n K dL_refusesAny_45 rfl ?_
  refine g_iconst K dL_refusesAny_46 kc_2 ?_
  refine g_irem K dL_refusesAny_47 (by first | assumption | decide) ?_
  refine g_nm (y := 1) hpar ?_
  refine g_if_ne (tgt := 59) K dL_refusesAny_48 (by decide) (fun u48 => ?_) (fun u48 => absurd u48 (by decide))
  refine g_sipush K dL_refusesAny_59 kp_201 ?_
  refine g_iload_n K dL_refusesAny_62 rfl ?_
  refine g_bipush K dL_refusesAny_63 kb_99 ?_
  refine g_irem K dL_refusesAny_65 (by first | assumption | decide) ?_
  refine g_nm (y := (nI m)) ((pk_rem (d := 99) hx (by decide) (by decide)).trans (by rw [hm])) ?_
  refine g_iadd K dL_refusesAny_66 ?_
  refine g_nm (y := we) ewe ?_
  refine g_istore (ls2 := [_, _, _, _, some (.int _), _, _, _, _]) K dL_refusesAny_67 (by decide) rfl ?_
  refine g_iload_n K dL_refusesAny_69 rfl ?_
  refine g_iconst K dL_refusesAny_70 kc_2 ?_
  refine g_irem K dL_refusesAny_71 (by first | assumption | decide) ?_
  refine g_nm (y := 1) hpar ?_
  refine g_if_ne (tgt := 83) K dL_refusesAny_72 (by decide) (fun u72 => ?_) (fun u72 => absurd u72 (by decide))
  refine g_bipush K dL_refusesAny_83 kb_10 ?_
  refine g_iload_n K dL_refusesAny_85 rfl ?_
  refine g_bipush K dL_refusesAny_86 kb_99 ?_
  refine g_irem K dL_refusesAny_88 (by first | assumption | decide) ?_
  refine g_nm (y := (nI m)) ((pk_rem (d := 99) hx (by decide) (by decide)).trans (by rw [hm])) ?_
  refine g_iadd K dL_refusesAny_89 ?_
  refine g_nm (y := sp) esp ?_
  refine g_istore (ls2 := [_, _, _, _, _, some (.int _), _, _, _]) K dL_refusesAny_90 (by decide) rfl ?_
  refine g_iload_n K dL_refusesAny_92 rfl ?_
  refine g_iconst K dL_refusesAny_93 kc_2 ?_
  refine g_irem K dL_refusesAny_94 (by first | assumption | decide) ?_
  refine g_nm (y := 1) hpar ?_
  refine g_if_ne (tgt := 107) K dL_refusesAny_95 (by decide) (fun u95 => ?_) (fun u95 => absurd u95 (by decide))
  refine g_bipush K dL_refusesAny_107 kb_41 ?_
  refine g_iload_n K dL_refusesAny_109 rfl ?_
  refine g_bipush K dL_refusesAny_110 kb_99 ?_
  refine g_irem K dL_refusesAny_112 (by first | assumption | decide) ?_
  refine g_nm (y := (nI m)) ((pk_rem (d := 99) hx (by decide) (by decide)).trans (by rw [hm])) ?_
  refine g_iadd K dL_refusesAny_113 ?_
  refine g_nm (y := di) edi ?_
  refine g_istore (ls2 := [_, _, _, _, _, _, some (.int _), _, _]) K dL_refusesAny_114 (by decide) rfl ?_
  have k131 : ∀ (y7 : Int32) (S1 : ST), (CRel S1 A n) → ((n = 0 ∧ y7 = 0) ∨ (1 ≤ n ∧ y7 = 1)) → G pr l en (rmd 8) s0 mi (List.toArray [.ref (ad 0), .int (nI xn)]) below meth c' (MQ below (QQ b D cA NN ad zT (RI (fun r S2 => r = 1 ∧ CRel S2 A n))) (List.toArray [.ref (ad 0), .int (nI xn)]) s0 0 0 (aF b)) b D cA 9 NN ad zT 0 0 131 [some (.ref (ad 0)), some (.int (nI xn)), some (.int no), some (.int ax), some (.int we), some (.int sp), some (.int di), some (.int y7), none] [] S1 := by
    intro y7  S1  hC hy
    refine g_aload_n K dL_refusesAny_131 rfl ?_
    refine g_iload K dL_refusesAny_132 rfl ?_
    refine g_rdV K (rq hC (c_X6_cart hC) (rf_cart hwe)) mw_X6_cart ml_L_45 dL_refusesAny_134 (by rfl) rfl rfl (by decide) (by simp [Value.category]) ⟨by decide, by decide⟩ ⟨by decide, by decide⟩ ?_
    clear hC
    intro S134 hC
    refine g_bipush K dL_refusesAny_137 kb_m2 ?_
    refine g_icmp_ne (tgt := 401) K dL_refusesAny_139 (by decide) (fun u139 => absurd u139 (by decide)) (fun u139 => ?_)
    have k162 : ∀ (S2 : ST), (CRel S2 A n) → G pr l en (rmd 8) s0 mi (List.toArray [.ref (ad 0), .int (nI xn)]) below meth c' (MQ below (QQ b D cA NN ad zT (RI (fun r S2 => r = 1 ∧ CRel S2 A n))) (List.toArray [.ref (ad 0), .int (nI xn)]) s0 0 0 (aF b)) b D cA 9 NN ad zT 0 0 162 [some (.ref (ad 0)), some (.int (nI xn)), some (.int no), some (.int ax), some (.int we), some (.int sp), some (.int di), some (.int y7), none] [] S2 := by
      intro S2  hC
      refine g_aload_n K dL_refusesAny_162 rfl ?_
      refine g_iload_n K dL_refusesAny_163 rfl ?_
      refine g_iload K dL_refusesAny_164 rfl ?_
      refine g_iconst K dL_refusesAny_166 kc_5 ?_
      refine g_rdV K (rq hC (c_X6_axle hC) (rf_axle_no hs hno _ _)) mw_X6_axle ml_L_48 dL_refusesAny_167 (by rfl) rfl rfl (by decide) (by simp [Value.category]) ⟨by decide, by decide⟩ ⟨by decide, by decide⟩ ?_
      clear hC
      intro S167 hC
      refine g_iconst K dL_refusesAny_170 kc_m1 ?_
      refine g_icmp_ne (tgt := 401) K dL_refusesAny_171 (by decide) (fun u171 => absurd u171 (by decide)) (fun u171 => ?_)
      refine g_aload_n K dL_refusesAny_174 rfl ?_
      refine g_iload_n K dL_refusesAny_175 rfl ?_
      refine g_iconst K dL_refusesAny_176 kc_0 ?_
      refine g_iload K dL_refusesAny_177 rfl ?_
      refine g_rdV K (rq hC (c_X6_load hC) (rf_load_no hs hno _ _)) mw_X6_load ml_L_51 dL_refusesAny_179 (by rfl) rfl rfl (by decide) (by simp [Value.category]) ⟨by decide, by decide⟩ ⟨by decide, by decide⟩ ?_
      clear hC
      intro S179 hC
      refine g_iconst K dL_refusesAny_182 kc_m1 ?_
      refine g_icmp_ne (tgt := 401) K dL_refusesAny_183 (by decide) (fun u183 => absurd u183 (by decide)) (fun u183 => ?_)
      refine g_aload_n K dL_refusesAny_186 rfl ?_
      refine g_iload_n K dL_refusesAny_187 rfl ?_
      refine g_iconst K dL_refusesAny_188 kc_0 ?_
      refine g_iconst K dL_refusesAny_189 kc_1 ?_
      refine g_rdV K (rq hC (c_X6_lift hC (Or.inr rfl)) (rf_lift_no hs hno _ _)) mw_X6_lift ml_L_54 dL_refusesAny_190 (by rfl) rfl rfl (by decide) (by simp [Value.category]) ⟨by decide, by decide⟩ ⟨by decide, by decide⟩ ?_
      clear hC
      intro S190 hC
      refine g_iconst K dL_refusesAny_193 kc_m1 ?_
      refine g_icmp_ne (tgt := 401) K dL_refusesAny_194 (by decide) (fun u194 => absurd u194 (by decide)) (fun u194 => ?_)
      refine g_aload_n K dL_refusesAny_197 rfl ?_
      refine g_iload_n K dL_refusesAny_198 rfl ?_
      refine g_iload K dL_refusesAny_199 rfl ?_
      refine g_rdV K (rq hC (c_X6_run hC) (rf_run_no hs hno _)) mw_X6_run ml_L_58 dL_refusesAny_201 (by rfl) rfl rfl (by decide) (by simp [Value.category]) ⟨by decide, by decide⟩ ⟨by decide, by decide⟩ ?_
      clear hC
      intro S201 hC
      refine g_iconst K dL_refusesAny_204 kc_m1 ?_
      refine g_icmp_ne (tgt := 401) K dL_refusesAny_205 (by decide) (fun u205 => absurd u205 (by decide)) (fun u205 => ?_)
      refine g_aload_n K dL_refusesAny_208 rfl ?_
      refine g_iload_n K dL_refusesAny_209 rfl ?_
      refine g_rdV K (rq hC (c_X6_tare hC) (rf_tare_no hs hno)) mw_X6_tare ml_L_61 dL_refusesAny_210 (by rfl) rfl rfl (by decide) (by simp [Value.category]) ⟨by decide, by decide⟩ ⟨by decide, by decide⟩ ?_
      clear hC
      intro S210 hC
      refine g_iconst K dL_refusesAny_213 kc_m1 ?_
      refine g_icmp_ne (tgt := 401) K dL_refusesAny_214 (by decide) (fun u214 => absurd u214 (by decide)) (fun u214 => ?_)
      refine g_aload_n K dL_refusesAny_217 rfl ?_
      refine g_iload_n K dL_refusesAny_218 rfl ?_
      refine g_iconst K dL_refusesAny_219 kc_2 ?_
      refine g_irem K dL_refusesAny_220 (by first | assumption | decide) ?_
      refine g_nm (y := 1) hpar ?_
      refine g_if_ne (tgt := 228) K dL_refusesAny_221 (by decide) (fun u221 => ?_) (fun u221 => absurd u221 (by decide))
      refine g_bipush K dL_refusesAny_228 kb_6 ?_
      refine g_bipush K dL_refusesAny_230 kb_20 ?_
      refine g_rdV K (rq hC (c_X6_set hC) (rf_set_no (i := 6) (by decide) 20)) mw_X6_set ml_L_64 dL_refusesAny_232 (by rfl) rfl rfl (by decide) (by simp [Value.category]) ⟨by decide, by decide⟩ ⟨by decide, by decide⟩ ?_
      clear hC
      intro S232 hC
      refine g_bipush K dL_refusesAny_235 kb_m2 ?_
      refine g_icmp_ne (tgt := 401) K dL_refusesAny_237 (by decide) (fun u237 => absurd u237 (by decide)) (fun u237 => ?_)
      refine g_aload_n K dL_refusesAny_240 rfl ?_
      refine g_iconst K dL_refusesAny_241 kc_0 ?_
      refine g_iload_n K dL_refusesAny_242 rfl ?_
      refine g_iconst K dL_refusesAny_243 kc_2 ?_
      refine g_irem K dL_refusesAny_244 (by first | assumption | decide) ?_
      refine g_nm (y := 1) hpar ?_
      refine g_if_ne (tgt := 253) K dL_refusesAny_245 (by decide) (fun u245 => ?_) (fun u245 => absurd u245 (by decide))
      refine g_bipush K dL_refusesAny_253 kb_91 ?_
      refine g_rdV K (rq hC (c_X6_set hC) (rf_set_bad (i := 0) (v := 91) (by decide) (by decide))) mw_X6_set ml_L_64 dL_refusesAny_255 (by rfl) rfl rfl (by decide) (by simp [Value.category]) ⟨by decide, by decide⟩ ⟨by decide, by decide⟩ ?_
      clear hC
      intro S255 hC
      refine g_bipush K dL_refusesAny_258 kb_m2 ?_
      refine g_icmp_ne (tgt := 401) K dL_refusesAny_260 (by decide) (fun u260 => absurd u260 (by decide)) (fun u260 => ?_)
      refine g_aload_n K dL_refusesAny_263 rfl ?_
      refine g_iconst K dL_refusesAny_264 kc_1 ?_
      refine g_iload_n K dL_refusesAny_265 rfl ?_
      refine g_iconst K dL_refusesAny_266 kc_2 ?_
      refine g_irem K dL_refusesAny_267 (by first | assumption | decide) ?_
      refine g_nm (y := 1) hpar ?_
      refine g_if_ne (tgt := 275) K dL_refusesAny_268 (by decide) (fun u268 => ?_) (fun u268 => absurd u268 (by decide))
      refine g_bipush K dL_refusesAny_275 kb_101 ?_
      refine g_rdV K (rq hC (c_X6_set hC) (rf_set_bad (i := 1) (v := 101) (by decide) (by decide))) mw_X6_set ml_L_64 dL_refusesAny_277 (by rfl) rfl rfl (by decide) (by simp [Value.category]) ⟨by decide, by decide⟩ ⟨by decide, by decide⟩ ?_
      clear hC
      intro S277 hC
      refine g_bipush K dL_refusesAny_280 kb_m2 ?_
      refine g_icmp_ne (tgt := 401) K dL_refusesAny_282 (by decide) (fun u282 => absurd u282 (by decide)) (fun u282 => ?_)
      refine g_aload_n K dL_refusesAny_285 rfl ?_
      refine g_iconst K dL_refusesAny_286 kc_2 ?_
      refine g_iload_n K dL_refusesAny_287 rfl ?_
      refine g_iconst K dL_refusesAny_288 kc_2 ?_
      refine g_irem K dL_refusesAny_289 (by first | assumption | decide) ?_
      refine g_nm (y := 1) hpar ?_
      refine g_if_ne (tgt := 297) K dL_refusesAny_290 (by decide) (fun u290 => ?_) (fun u290 => absurd u290 (by decide))
      refine g_bipush K dL_refusesAny_297 kb_96 ?_
      refine g_rdV K (rq hC (c_X6_set hC) (rf_set_bad (i := 2) (v := 96) (by decide) (by decide))) mw_X6_set ml_L_64 dL_refusesAny_299 (by rfl) rfl rfl (by decide) (by simp [Value.category]) ⟨by decide, by decide⟩ ⟨by decide, by decide⟩ ?_
      clear hC
      intro S299 hC
      refine g_bipush K dL_refusesAny_302 kb_m2 ?_
      refine g_icmp_ne (tgt := 401) K dL_refusesAny_304 (by decide) (fun u304 => absurd u304 (by decide)) (fun u304 => ?_)
      refine g_aload_n K dL_refusesAny_307 rfl ?_
      refine g_iconst K dL_refusesAny_308 kc_3 ?_
      refine g_iload_n K dL_refusesAny_309 rfl ?_
      refine g_iconst K dL_refusesAny_310 kc_2 ?_
      refine g_irem K dL_refusesAny_311 (by first | assumption | decide) ?_
      refine g_nm (y := 1) hpar ?_
      refine g_if_ne (tgt := 319) K dL_refusesAny_312 (by decide) (fun u312 => ?_) (fun u312 => absurd u312 (by decide))
      refine g_bipush K dL_refusesAny_319 kb_10 ?_
      refine g_rdV K (rq hC (c_X6_set hC) (rf_set_bad (i := 3) (v := 10) (by decide) (by decide))) mw_X6_set ml_L_64 dL_refusesAny_321 (by rfl) rfl rfl (by decide) (by simp [Value.category]) ⟨by decide, by decide⟩ ⟨by decide, by decide⟩ ?_
      clear hC
      intro S321 hC
      refine g_bipush K dL_refusesAny_324 kb_m2 ?_
      refine g_icmp_ne (tgt := 401) K dL_refusesAny_326 (by decide) (fun u326 => absurd u326 (by decide)) (fun u326 => ?_)
      refine g_aload_n K dL_refusesAny_329 rfl ?_
      refine g_iconst K dL_refusesAny_330 kc_4 ?_
      refine g_iload_n K dL_refusesAny_331 rfl ?_
      refine g_iconst K dL_refusesAny_332 kc_2 ?_
      refine g_irem K dL_refusesAny_333 (by first | assumption | decide) ?_
      refine g_nm (y := 1) hpar ?_
      refine g_if_ne (tgt := 341) K dL_refusesAny_334 (by decide) (fun u334 => ?_) (fun u334 => absurd u334 (by decide))
      refine g_bipush K dL_refusesAny_341 kb_21 ?_
      refine g_rdV K (rq hC (c_X6_set hC) (rf_set_bad (i := 4) (v := 21) (by decide) (by decide))) mw_X6_set ml_L_64 dL_refusesAny_343 (by rfl) rfl rfl (by decide) (by simp [Value.category]) ⟨by decide, by decide⟩ ⟨by decide, by decide⟩ ?_
      clear hC
      intro S343 hC
      refine g_bipush K dL_refusesAny_346 kb_m2 ?_
      refine g_icmp_ne (tgt := 401) K dL_refusesAny_348 (by decide) (fun u348 => absurd u348 (by decide)) (fun u348 => ?_)
      refine g_aload_n K dL_refusesAny_351 rfl ?_
      refine g_iconst K dL_refusesAny_352 kc_5 ?_
      refine g_iload_n K dL_refusesAny_353 rfl ?_
      refine g_iconst K dL_refusesAny_354 kc_2 ?_
      refine g_irem K dL_refusesAny_355 (by first | assumption | decide) ?_
      refine g_nm (y := 1) hpar ?_
      refine g_if_ne (tgt := 363) K dL_refusesAny_356 (by decide) (fun u356 => ?_) (fun u356 => absurd u356 (by decide))
      refine g_bipush K dL_refusesAny_363 kb_41 ?_
      refine g_rdV K (rq hC (c_X6_set hC) (rf_set_bad (i := 5) (v := 41) (by decide) (by decide))) mw_X6_set ml_L_64 dL_refusesAny_365 (by rfl) rfl rfl (by decide) (by simp [Value.category]) ⟨by decide, by decide⟩ ⟨by decide, by decide⟩ ?_
      clear hC
      intro S365 hC
      refine g_bipush K dL_refusesAny_368 kb_m2 ?_
      refine g_icmp_ne (tgt := 401) K dL_refusesAny_370 (by decide) (fun u370 => absurd u370 (by decide)) (fun u370 => ?_)
      refine g_aload_n K dL_refusesAny_373 rfl ?_
      refine g_iload_n K dL_refusesAny_374 rfl ?_
      refine g_bipush K dL_refusesAny_375 kb_6 ?_
      refine g_irem K dL_refusesAny_377 (by first | assumption | decide) ?_
      refine g_nm (y := (nI i6)) ((pk_rem (d := 6) hx (by decide) (by decide)).trans (by rw [hi6])) ?_
      refine g_aload_n K dL_refusesAny_378 rfl ?_
      refine g_bipush K dL_refusesAny_379 kb_6 ?_
      refine g_iload_n K dL_refusesAny_381 rfl ?_
      refine g_bipush K dL_refusesAny_382 kb_6 ?_
      refine g_irem K dL_refusesAny_384 (by first | assumption | decide) ?_
      refine g_nm (y := (nI i6)) ((pk_rem (d := 6) hx (by decide) (by decide)).trans (by rw [hi6])) ?_
      refine g_iadd K dL_refusesAny_385 ?_
      refine g_rdV K (rd hC (c_X6_count hC) ((congrArg (o_count A) (nI_add 6 i6)).trans (cn_s A i6 hi66))) mw_X6_count ml_L_14 dL_refusesAny_386 (by rfl) rfl rfl (by decide) (by simp [Value.category]) ⟨by decide, by decide⟩ ⟨by decide, by decide⟩ ?_
      clear hC
      intro S386 hC
      refine g_rdV K (rq hC (c_X6_set hC) (rf_set_same hs.1 hi66)) mw_X6_set ml_L_64 dL_refusesAny_389 (by rfl) rfl rfl (by decide) (by simp [Value.category]) ⟨by decide, by decide⟩ ⟨by decide, by decide⟩ ?_
      clear hC
      intro S389 hC
      refine g_bipush K dL_refusesAny_392 kb_m5 ?_
      refine g_icmp_ne (tgt := 401) K dL_refusesAny_394 (by decide) (fun u394 => absurd u394 (by decide)) (fun u394 => ?_)
      refine g_iconst K dL_refusesAny_397 kc_1 ?_
      refine g_goto (tgt := 402) K dL_refusesAny_398 (by decide) ?_
      refine g_istore (ls2 := [_, _, _, _, _, _, _, _, some (.int _)]) K dL_refusesAny_402 (by decide) rfl ?_
      refine g_iload K dL_refusesAny_404 rfl ?_
      refine g_if_eq (tgt := 775) K dL_refusesAny_406 (by decide) (fun u406 => absurd u406 (by decide)) (fun u406 => ?_)
      have k776 : ∀ (S3 : ST), (CRel S3 A n) → G pr l en (rmd 8) s0 mi (List.toArray [.ref (ad 0), .int (nI xn)]) below meth c' (MQ below (QQ b D cA NN ad zT (RI (fun r S2 => r = 1 ∧ CRel S2 A n))) (List.toArray [.ref (ad 0), .int (nI xn)]) s0 0 0 (aF b)) b D cA 9 NN ad zT 0 0 776 [some (.ref (ad 0)), some (.int (nI xn)), some (.int no), some (.int ax), some (.int we), some (.int sp), some (.int di), some (.int y7), some (.int 1)] [.int 1] S3 := by
        intro S3  hC
        refine g_istore (ls2 := [_, _, _, _, _, _, _, _, some (.int _)]) K dL_refusesAny_776 (by decide) rfl ?_
        refine g_iload K dL_refusesAny_778 rfl ?_
        refine g_if_eq (tgt := 900) K dL_refusesAny_780 (by decide) (fun u780 => absurd u780 (by decide)) (fun u780 => ?_)
        refine g_aload_n K dL_refusesAny_783 rfl ?_
        refine g_iload_n K dL_refusesAny_784 rfl ?_
        refine g_bipush K dL_refusesAny_785 kb_9 ?_
        refine g_rdV K (rd hC (c_X6_cartOf hC) (xc_no hs hno 9)) mw_X6_cartOf ml_L_20 dL_refusesAny_787 (by rfl) rfl rfl (by decide) (by simp [Value.category]) ⟨by decide, by decide⟩ ⟨by decide, by decide⟩ ?_
        clear hC
        intro S787 hC
        refine g_iconst K dL_refusesAny_790 kc_m1 ?_
        refine g_icmp_ne (tgt := 900) K dL_refusesAny_791 (by decide) (fun u791 => absurd u791 (by decide)) (fun u791 => ?_)
        refine g_aload_n K dL_refusesAny_794 rfl ?_
        refine g_iload_n K dL_refusesAny_795 rfl ?_
        refine g_iconst K dL_refusesAny_796 kc_0 ?_
        refine g_bipush K dL_refusesAny_797 kb_9 ?_
        refine g_rdV K (rd hC (c_X6_axleOf hC) (ao_noc hs hno _ _)) mw_X6_axleOf ml_L_24 dL_refusesAny_799 (by rfl) rfl rfl (by decide) (by simp [Value.category]) ⟨by decide, by decide⟩ ⟨by decide, by decide⟩ ?_
        clear hC
        intro S799 hC
        refine g_iconst K dL_refusesAny_802 kc_m1 ?_
        refine g_icmp_ne (tgt := 900) K dL_refusesAny_803 (by decide) (fun u803 => absurd u803 (by decide)) (fun u803 => ?_)
        refine g_aload_n K dL_refusesAny_806 rfl ?_
        refine g_iload_n K dL_refusesAny_807 rfl ?_
        refine g_bipush K dL_refusesAny_808 kb_99 ?_
        refine g_iconst K dL_refusesAny_810 kc_0 ?_
        refine g_bipush K dL_refusesAny_811 kb_9 ?_
        refine g_rdV K (rd hC (c_X6_tick hC) (to_no hs hno _ _ _)) mw_X6_tick ml_L_33 dL_refusesAny_813 (by rfl) rfl rfl (by decide) (by simp [Value.category]) ⟨by decide, by decide⟩ ⟨by decide, by decide⟩ ?_
        clear hC
        intro S813 hC
        refine g_iconst K dL_refusesAny_816 kc_m1 ?_
        refine g_icmp_ne (tgt := 900) K dL_refusesAny_817 (by decide) (fun u817 => absurd u817 (by decide)) (fun u817 => ?_)
        refine g_aload_n K dL_refusesAny_820 rfl ?_
        refine g_iload_n K dL_refusesAny_821 rfl ?_
        refine g_bipush K dL_refusesAny_822 kb_99 ?_
        refine g_bipush K dL_refusesAny_824 kb_9 ?_
        refine g_rdV K (rd hC (c_X6_runOf hC) (ro_no hs hno _ _)) mw_X6_runOf ml_L_30 dL_refusesAny_826 (by rfl) rfl rfl (by decide) (by simp [Value.category]) ⟨by decide, by decide⟩ ⟨by decide, by decide⟩ ?_
        clear hC
        intro S826 hC
        refine g_iconst K dL_refusesAny_829 kc_m1 ?_
        refine g_icmp_ne (tgt := 900) K dL_refusesAny_830 (by decide) (fun u830 => absurd u830 (by decide)) (fun u830 => ?_)
        refine g_aload_n K dL_refusesAny_833 rfl ?_
        refine g_iload_n K dL_refusesAny_834 rfl ?_
        refine g_iconst K dL_refusesAny_835 kc_5 ?_
        refine g_rdfV K (rdf hC (c_X6_off hC) (oo_no hs hno)) mw_X6_off ml_L_37 dL_refusesAny_836 (by rfl) rfl rfl (by decide) (by simp [Value.category]) ⟨by decide, by decide⟩ ⟨by decide, by decide⟩ ?_
        clear hC
        intro S836 hC
        refine g_fconst2 K dL_refusesAny_839 ?_
        refine g_fcmp K dL_refusesAny_840 ?_
        refine g_if_ne (tgt := 900) K dL_refusesAny_841 (by decide) (fun u841 => absurd u841 (fun h => h sz_2)) (fun u841 => ?_)
        refine g_aload_n K dL_refusesAny_844 rfl ?_
        refine g_iload_n K dL_refusesAny_845 rfl ?_
        refine g_rdV K (rd hC (c_X6_fastest hC) (of_no hs hno)) mw_X6_fastest ml_L_73 dL_refusesAny_846 (by rfl) rfl rfl (by decide) (by simp [Value.category]) ⟨by decide, by decide⟩ ⟨by decide, by decide⟩ ?_
        clear hC
        intro S846 hC
        refine g_iconst K dL_refusesAny_849 kc_m1 ?_
        refine g_icmp_ne (tgt := 900) K dL_refusesAny_850 (by decide) (fun u850 => absurd u850 (by decide)) (fun u850 => ?_)
        refine g_aload_n K dL_refusesAny_853 rfl ?_
        refine g_iload_n K dL_refusesAny_854 rfl ?_
        refine g_bipush K dL_refusesAny_855 kb_99 ?_
        refine g_rdV K (rd hC (c_X6_leastWindow hC) (ol_no hs hno _ _ _ _)) mw_X6_leastWindow ml_L_67 dL_refusesAny_857 (by rfl) rfl rfl (by decide) (by simp [Value.category]) ⟨by decide, by decide⟩ ⟨by decide, by decide⟩ ?_
        clear hC
        intro S857 hC
        refine g_iconst K dL_refusesAny_860 kc_m1 ?_
        refine g_icmp_ne (tgt := 900) K dL_refusesAny_861 (by decide) (fun u861 => absurd u861 (by decide)) (fun u861 => ?_)
        refine g_aload_n K dL_refusesAny_864 rfl ?_
        refine g_iload_n K dL_refusesAny_865 rfl ?_
        refine g_bipush K dL_refusesAny_866 kb_99 ?_
        refine g_rdV K (rd hC (c_X6_shortestPlate hC) (ol_no hs hno _ _ _ _)) mw_X6_shortestPlate ml_L_70 dL_refusesAny_868 (by rfl) rfl rfl (by decide) (by simp [Value.category]) ⟨by decide, by decide⟩ ⟨by decide, by decide⟩ ?_
        clear hC
        intro S868 hC
        refine g_iconst K dL_refusesAny_871 kc_m1 ?_
        refine g_icmp_ne (tgt := 900) K dL_refusesAny_872 (by decide) (fun u872 => absurd u872 (by decide)) (fun u872 => ?_)
        refine g_aload_n K dL_refusesAny_875 rfl ?_
        refine g_iload_n K dL_refusesAny_876 rfl ?_
        refine g_iconst K dL_refusesAny_877 kc_2 ?_
        refine g_irem K dL_refusesAny_878 (by first | assumption | decide) ?_
        refine g_nm (y := 1) hpar ?_
        refine g_if_ne (tgt := 886) K dL_refusesAny_879 (by decide) (fun u879 => ?_) (fun u879 => absurd u879 (by decide))
        refine g_bipush K dL_refusesAny_886 kb_12 ?_
        refine g_rdV K (rd hC (c_X6_count hC) (cn_bad A (Or.inr rfl))) mw_X6_count ml_L_14 dL_refusesAny_888 (by rfl) rfl rfl (by decide) (by simp [Value.category]) ⟨by decide, by decide⟩ ⟨by decide, by decide⟩ ?_
        clear hC
        intro S888 hC
        refine g_bipush K dL_refusesAny_891 kb_m2 ?_
        refine g_icmp_ne (tgt := 900) K dL_refusesAny_893 (by decide) (fun u893 => absurd u893 (by decide)) (fun u893 => ?_)
        refine g_iconst K dL_refusesAny_896 kc_1 ?_
        refine g_goto (tgt := 901) K dL_refusesAny_897 (by decide) ?_
        refine g_istore (ls2 := [_, _, _, _, _, _, _, _, some (.int _)]) K dL_refusesAny_901 (by decide) rfl ?_
        refine g_iload K dL_refusesAny_903 rfl ?_
        refine g_if_eq (tgt := 935) K dL_refusesAny_905 (by decide) (fun u905 => absurd u905 (by decide)) (fun u905 => ?_)
        refine g_aload_n K dL_refusesAny_908 rfl ?_
        refine g_rdV K (rq hC (c_X6_clearText hC) (tx_clear hL0)) mw_X6_clearText ml_L_76 dL_refusesAny_909 (by rfl) rfl rfl (by decide) (by simp [Value.category]) ⟨by decide, by decide⟩ ⟨by decide, by decide⟩ ?_
        clear hC
        intro S909 hC
        refine g_if_ne (tgt := 935) K dL_refusesAny_912 (by decide) (fun u912 => absurd u912 (by decide)) (fun u912 => ?_)
        refine g_aload_n K dL_refusesAny_915 rfl ?_
        refine g_rdV K (rq hC (c_X6_carts hC) (tx_carts hL0)) mw_X6_carts ml_L_80 dL_refusesAny_916 (by rfl) rfl rfl (by decide) (by simp [Value.category]) ⟨by decide, by decide⟩ ⟨by decide, by decide⟩ ?_
        clear hC
        intro S916 hC
        refine g_bipush K dL_refusesAny_919 kb_m100 ?_
        refine g_icmp_ne (tgt := 935) K dL_refusesAny_921 (by decide) (fun u921 => absurd u921 (by decide)) (fun u921 => ?_)
        refine g_aload_n K dL_refusesAny_924 rfl ?_
        refine g_rdV K (rd hC (c_X6_fault hC) (tx_fault hL0)) mw_X6_fault ml_L_83 dL_refusesAny_925 (by rfl) rfl rfl (by decide) (by simp [Value.category]) ⟨by decide, by decide⟩ ⟨by decide, by decide⟩ ?_
        clear hC
        intro S925 hC
        refine g_if_ne (tgt := 935) K dL_refusesAny_928 (by decide) (fun u928 => absurd u928 (by decide)) (fun u928 => ?_)
        refine g_iconst K dL_refusesAny_931 kc_1 ?_
        refine g_goto (tgt := 936) K dL_refusesAny_932 (by decide) ?_
        refine g_zret K dL_refusesAny_936 (by first | exact Or.inl rfl | exact Or.inr rfl | assumption) ⟨_, rfl, ?_⟩
        exact ⟨rfl, hC⟩
      rcases hy with ⟨hn0, rfl⟩ | ⟨hn0, rfl⟩
      · skip
        refine g_iload K dL_refusesAny_409 rfl ?_
        refine g_if_eq (tgt := 771) K dL_refusesAny_411 (by decide) (fun u411 => ?_) (fun u411 => absurd (by decide) u411)
        refine g_iconst K dL_refusesAny_771 kc_1 ?_
        refine g_goto (tgt := 776) K dL_refusesAny_772 (by decide) ?_
        exact k776 _ hC
      · obtain ⟨N, hq⟩ := hs.2.2.2 0 hn0
        have h5 := hq.2.2.1
        have hN1 := hq.2.1
        refine g_iload K dL_refusesAny_409 rfl ?_
        refine g_if_eq (tgt := 771) K dL_refusesAny_411 (by decide) (fun u411 => absurd u411 (by decide)) (fun u411 => ?_)
        refine g_aload_n K dL_refusesAny_414 rfl ?_
        refine g_iconst K dL_refusesAny_415 kc_0 ?_
        refine g_iload K dL_refusesAny_416 rfl ?_
        refine g_iconst K dL_refusesAny_418 kc_5 ?_
        refine g_rdV K (rq hC (c_X6_axle hC) (rf_axle_d (k := 0) hs hn0 (fun q => hdi q.1))) mw_X6_axle ml_L_48 dL_refusesAny_419 (by rfl) rfl rfl (by decide) (by simp [Value.category]) ⟨by decide, by decide⟩ ⟨by decide, by decide⟩ ?_
        clear hC
        intro S419 hC
        refine g_bipush K dL_refusesAny_422 kb_m2 ?_
        refine g_icmp_ne (tgt := 775) K dL_refusesAny_424 (by decide) (fun u424 => absurd u424 (by decide)) (fun u424 => ?_)
        refine g_aload_n K dL_refusesAny_427 rfl ?_
        refine g_iconst K dL_refusesAny_428 kc_0 ?_
        refine g_iconst K dL_refusesAny_429 kc_5 ?_
        refine g_iload K dL_refusesAny_430 rfl ?_
        refine g_rdV K (rq hC (c_X6_axle hC) (rf_axle_d (k := 0) hs hn0 (fun q => hwe q.2))) mw_X6_axle ml_L_48 dL_refusesAny_432 (by rfl) rfl rfl (by decide) (by simp [Value.category]) ⟨by decide, by decide⟩ ⟨by decide, by decide⟩ ?_
        clear hC
        intro S432 hC
        refine g_bipush K dL_refusesAny_435 kb_m2 ?_
        refine g_icmp_ne (tgt := 775) K dL_refusesAny_437 (by decide) (fun u437 => absurd u437 (by decide)) (fun u437 => ?_)
        have k462 : ∀ (S4 : ST), (CRel S4 A n) → G pr l en (rmd 8) s0 mi (List.toArray [.ref (ad 0), .int (nI xn)]) below meth c' (MQ below (QQ b D cA NN ad zT (RI (fun r S2 => r = 1 ∧ CRel S2 A n))) (List.toArray [.ref (ad 0), .int (nI xn)]) s0 0 0 (aF b)) b D cA 9 NN ad zT 0 0 462 [some (.ref (ad 0)), some (.int (nI xn)), some (.int no), some (.int ax), some (.int we), some (.int sp), some (.int di), some (.int 1), some (.int 1)] [] S4 := by
          intro S4  hC
          refine g_aload_n K dL_refusesAny_462 rfl ?_
          refine g_iconst K dL_refusesAny_463 kc_0 ?_
          refine g_iload_n K dL_refusesAny_464 rfl ?_
          refine g_iload K dL_refusesAny_465 rfl ?_
          refine g_rdV K (rq hC (c_X6_load hC) (rf_load_a (k := 0) hs hn0 hq (hax N h5) _)) mw_X6_load ml_L_51 dL_refusesAny_467 (by rfl) rfl rfl (by decide) (by simp [Value.category]) ⟨by decide, by decide⟩ ⟨by decide, by decide⟩ ?_
          clear hC
          intro S467 hC
          refine g_iconst K dL_refusesAny_470 kc_m1 ?_
          refine g_icmp_ne (tgt := 775) K dL_refusesAny_471 (by decide) (fun u471 => absurd u471 (by decide)) (fun u471 => ?_)
          refine g_aload_n K dL_refusesAny_474 rfl ?_
          refine g_iconst K dL_refusesAny_475 kc_0 ?_
          refine g_iconst K dL_refusesAny_476 kc_0 ?_
          refine g_iload K dL_refusesAny_477 rfl ?_
          refine g_rdV K (rq hC (c_X6_load hC) (rf_load_w (k := 0) (a := 0) hs hn0 hq hN1 hwe)) mw_X6_load ml_L_51 dL_refusesAny_479 (by rfl) rfl rfl (by decide) (by simp [Value.category]) ⟨by decide, by decide⟩ ⟨by decide, by decide⟩ ?_
          clear hC
          intro S479 hC
          refine g_bipush K dL_refusesAny_482 kb_m2 ?_
          refine g_icmp_ne (tgt := 775) K dL_refusesAny_484 (by decide) (fun u484 => absurd u484 (by decide)) (fun u484 => ?_)
          refine g_aload_n K dL_refusesAny_487 rfl ?_
          refine g_iconst K dL_refusesAny_488 kc_0 ?_
          refine g_iconst K dL_refusesAny_489 kc_0 ?_
          refine g_aload_n K dL_refusesAny_490 rfl ?_
          refine g_iconst K dL_refusesAny_491 kc_0 ?_
          refine g_iconst K dL_refusesAny_492 kc_0 ?_
          refine g_iconst K dL_refusesAny_493 kc_0 ?_
          refine g_rdV K (rd hC (c_X6_axleOf hC) (ao_0 (k := 0) (a := 0) hs hn0 hq hN1)) mw_X6_axleOf ml_L_24 dL_refusesAny_494 (by rfl) rfl rfl (by decide) (by simp [Value.category]) ⟨by decide, by decide⟩ ⟨by decide, by decide⟩ ?_
          clear hC
          intro S494 hC
          refine g_rdV K (rq hC (c_X6_load hC) (rf_load_same (k := 0) (a := 0) hs hn0 hq hN1 rfl)) mw_X6_load ml_L_51 dL_refusesAny_497 (by rfl) rfl rfl (by decide) (by simp [Value.category]) ⟨by decide, by decide⟩ ⟨by decide, by decide⟩ ?_
          clear hC
          intro S497 hC
          refine g_bipush K dL_refusesAny_500 kb_m5 ?_
          refine g_icmp_ne (tgt := 775) K dL_refusesAny_502 (by decide) (fun u502 => absurd u502 (by decide)) (fun u502 => ?_)
          refine g_aload_n K dL_refusesAny_505 rfl ?_
          refine g_iconst K dL_refusesAny_506 kc_0 ?_
          refine g_iload_n K dL_refusesAny_507 rfl ?_
          refine g_iconst K dL_refusesAny_508 kc_1 ?_
          refine g_rdV K (rq hC (c_X6_lift hC (Or.inr rfl)) (rf_lift_a (k := 0) hs hn0 hq (hax N h5) _)) mw_X6_lift ml_L_54 dL_refusesAny_509 (by rfl) rfl rfl (by decide) (by simp [Value.category]) ⟨by decide, by decide⟩ ⟨by decide, by decide⟩ ?_
          clear hC
          intro S509 hC
          refine g_iconst K dL_refusesAny_512 kc_m1 ?_
          refine g_icmp_ne (tgt := 775) K dL_refusesAny_513 (by decide) (fun u513 => absurd u513 (by decide)) (fun u513 => ?_)
          have k543 : ∀ (S5 : ST), (CRel S5 A n) → G pr l en (rmd 8) s0 mi (List.toArray [.ref (ad 0), .int (nI xn)]) below meth c' (MQ below (QQ b D cA NN ad zT (RI (fun r S2 => r = 1 ∧ CRel S2 A n))) (List.toArray [.ref (ad 0), .int (nI xn)]) s0 0 0 (aF b)) b D cA 9 NN ad zT 0 0 543 [some (.ref (ad 0)), some (.int (nI xn)), some (.int no), some (.int ax), some (.int we), some (.int sp), some (.int di), some (.int 1), some (.int 1)] [] S5 := by
            intro S5  hC
            refine g_aload_n K dL_refusesAny_543 rfl ?_
            refine g_iconst K dL_refusesAny_544 kc_0 ?_
            refine g_iload K dL_refusesAny_545 rfl ?_
            refine g_rdV K (rq hC (c_X6_run hC) (rf_run_s (k := 0) hs hn0 hsp)) mw_X6_run ml_L_58 dL_refusesAny_547 (by rfl) rfl rfl (by decide) (by simp [Value.category]) ⟨by decide, by decide⟩ ⟨by decide, by decide⟩ ?_
            clear hC
            intro S547 hC
            refine g_bipush K dL_refusesAny_550 kb_m2 ?_
            refine g_icmp_ne (tgt := 775) K dL_refusesAny_552 (by decide) (fun u552 => absurd u552 (by decide)) (fun u552 => ?_)
            have k576 : ∀ (S6 : ST), (CRel S6 A n) → G pr l en (rmd 8) s0 mi (List.toArray [.ref (ad 0), .int (nI xn)]) below meth c' (MQ below (QQ b D cA NN ad zT (RI (fun r S2 => r = 1 ∧ CRel S2 A n))) (List.toArray [.ref (ad 0), .int (nI xn)]) s0 0 0 (aF b)) b D cA 9 NN ad zT 0 0 576 [some (.ref (ad 0)), some (.int (nI xn)), some (.int no), some (.int ax), some (.int we), some (.int sp), some (.int di), some (.int 1), some (.int 1)] [] S6 := by
              intro S6  hC
              refine g_aload_n K dL_refusesAny_576 rfl ?_
              refine g_iconst K dL_refusesAny_577 kc_0 ?_
              refine g_iload_n K dL_refusesAny_578 rfl ?_
              refine g_iconst K dL_refusesAny_579 kc_2 ?_
              refine g_irem K dL_refusesAny_580 (by first | assumption | decide) ?_
              refine g_nm (y := 1) hpar ?_
              refine g_if_ne (tgt := 588) K dL_refusesAny_581 (by decide) (fun u581 => ?_) (fun u581 => absurd u581 (by decide))
              refine g_bipush K dL_refusesAny_588 kb_9 ?_
              refine g_rdV K (rd hC (c_X6_cartOf hC) (xc_bad (k := 0) hs hn0 (Or.inr rfl))) mw_X6_cartOf ml_L_20 dL_refusesAny_590 (by rfl) rfl rfl (by decide) (by simp [Value.category]) ⟨by decide, by decide⟩ ⟨by decide, by decide⟩ ?_
              clear hC
              intro S590 hC
              refine g_bipush K dL_refusesAny_593 kb_m2 ?_
              refine g_icmp_ne (tgt := 775) K dL_refusesAny_595 (by decide) (fun u595 => absurd u595 (by decide)) (fun u595 => ?_)
              refine g_aload_n K dL_refusesAny_598 rfl ?_
              refine g_iconst K dL_refusesAny_599 kc_0 ?_
              refine g_iload_n K dL_refusesAny_600 rfl ?_
              refine g_bipush K dL_refusesAny_601 kb_9 ?_
              refine g_rdV K (rd hC (c_X6_axleOf hC) (ao_no (k := 0) hs hn0 hq (hax N h5) 9)) mw_X6_axleOf ml_L_24 dL_refusesAny_603 (by rfl) rfl rfl (by decide) (by simp [Value.category]) ⟨by decide, by decide⟩ ⟨by decide, by decide⟩ ?_
              clear hC
              intro S603 hC
              refine g_iconst K dL_refusesAny_606 kc_m1 ?_
              refine g_icmp_ne (tgt := 775) K dL_refusesAny_607 (by decide) (fun u607 => absurd u607 (by decide)) (fun u607 => ?_)
              refine g_aload_n K dL_refusesAny_610 rfl ?_
              refine g_iconst K dL_refusesAny_611 kc_0 ?_
              refine g_iconst K dL_refusesAny_612 kc_0 ?_
              refine g_iload_n K dL_refusesAny_613 rfl ?_
              refine g_iconst K dL_refusesAny_614 kc_2 ?_
              refine g_irem K dL_refusesAny_615 (by first | assumption | decide) ?_
              refine g_nm (y := 1) hpar ?_
              refine g_if_ne (tgt := 623) K dL_refusesAny_616 (by decide) (fun u616 => ?_) (fun u616 => absurd u616 (by decide))
              refine g_iconst K dL_refusesAny_623 kc_4 ?_
              refine g_rdV K (rd hC (c_X6_axleOf hC) (ao_bad (k := 0) (a := 0) hs hn0 hq hN1 (Or.inr rfl))) mw_X6_axleOf ml_L_24 dL_refusesAny_624 (by rfl) rfl rfl (by decide) (by simp [Value.category]) ⟨by decide, by decide⟩ ⟨by decide, by decide⟩ ?_
              clear hC
              intro S624 hC
              refine g_bipush K dL_refusesAny_627 kb_m2 ?_
              refine g_icmp_ne (tgt := 775) K dL_refusesAny_629 (by decide) (fun u629 => absurd u629 (by decide)) (fun u629 => ?_)
              refine g_aload_n K dL_refusesAny_632 rfl ?_
              refine g_iconst K dL_refusesAny_633 kc_0 ?_
              refine g_iload K dL_refusesAny_634 rfl ?_
              refine g_sipush K dL_refusesAny_636 kp_999 ?_
              refine g_bipush K dL_refusesAny_639 kb_9 ?_
              refine g_rdV K (rd hC (c_X6_tick hC) (to_s (k := 0) hs hn0 hsp _ _)) mw_X6_tick ml_L_33 dL_refusesAny_641 (by rfl) rfl rfl (by decide) (by simp [Value.category]) ⟨by decide, by decide⟩ ⟨by decide, by decide⟩ ?_
              clear hC
              intro S641 hC
              refine g_bipush K dL_refusesAny_644 kb_m2 ?_
              refine g_icmp_ne (tgt := 775) K dL_refusesAny_646 (by decide) (fun u646 => absurd u646 (by decide)) (fun u646 => ?_)
              refine g_aload_n K dL_refusesAny_649 rfl ?_
              refine g_iconst K dL_refusesAny_650 kc_0 ?_
              refine g_iconst K dL_refusesAny_651 kc_5 ?_
              refine g_iconst K dL_refusesAny_652 kc_m1 ?_
              refine g_bipush K dL_refusesAny_653 kb_9 ?_
              refine g_rdV K (rd hC (c_X6_tick hC) (to_out (k := 0) (s := 5) (t := -1) hs hn0 (by decide) (Or.inl (by decide)) 9)) mw_X6_tick ml_L_33 dL_refusesAny_655 (by rfl) rfl rfl (by decide) (by simp [Value.category]) ⟨by decide, by decide⟩ ⟨by decide, by decide⟩ ?_
              clear hC
              intro S655 hC
              refine g_iconst K dL_refusesAny_658 kc_m1 ?_
              refine g_icmp_ne (tgt := 775) K dL_refusesAny_659 (by decide) (fun u659 => absurd u659 (by decide)) (fun u659 => ?_)
              refine g_aload_n K dL_refusesAny_662 rfl ?_
              refine g_iconst K dL_refusesAny_663 kc_0 ?_
              refine g_iconst K dL_refusesAny_664 kc_5 ?_
              refine g_bipush K dL_refusesAny_665 kb_120 ?_
              refine g_bipush K dL_refusesAny_667 kb_9 ?_
              refine g_rdV K (rd hC (c_X6_tick hC) (to_out (k := 0) (s := 5) (t := 120) hs hn0 (by decide) (Or.inr (by decide)) 9)) mw_X6_tick ml_L_33 dL_refusesAny_669 (by rfl) rfl rfl (by decide) (by simp [Value.category]) ⟨by decide, by decide⟩ ⟨by decide, by decide⟩ ?_
              clear hC
              intro S669 hC
              refine g_iconst K dL_refusesAny_672 kc_m1 ?_
              refine g_icmp_ne (tgt := 775) K dL_refusesAny_673 (by decide) (fun u673 => absurd u673 (by decide)) (fun u673 => ?_)
              refine g_aload_n K dL_refusesAny_676 rfl ?_
              refine g_iconst K dL_refusesAny_677 kc_0 ?_
              refine g_iconst K dL_refusesAny_678 kc_5 ?_
              refine g_iconst K dL_refusesAny_679 kc_0 ?_
              refine g_iload_n K dL_refusesAny_680 rfl ?_
              refine g_iconst K dL_refusesAny_681 kc_2 ?_
              refine g_irem K dL_refusesAny_682 (by first | assumption | decide) ?_
              refine g_nm (y := 1) hpar ?_
              refine g_if_ne (tgt := 690) K dL_refusesAny_683 (by decide) (fun u683 => ?_) (fun u683 => absurd u683 (by decide))
              refine g_iconst K dL_refusesAny_690 kc_5 ?_
              refine g_rdV K (rd hC (c_X6_tick hC) (to_bad (k := 0) (s := 5) hs hn0 hq (by decide) (Or.inr rfl))) mw_X6_tick ml_L_33 dL_refusesAny_691 (by rfl) rfl rfl (by decide) (by simp [Value.category]) ⟨by decide, by decide⟩ ⟨by decide, by decide⟩ ?_
              clear hC
              intro S691 hC
              refine g_bipush K dL_refusesAny_694 kb_m2 ?_
              refine g_icmp_ne (tgt := 775) K dL_refusesAny_696 (by decide) (fun u696 => absurd u696 (by decide)) (fun u696 => ?_)
              refine g_aload_n K dL_refusesAny_699 rfl ?_
              refine g_iconst K dL_refusesAny_700 kc_0 ?_
              refine g_iload K dL_refusesAny_701 rfl ?_
              refine g_iconst K dL_refusesAny_703 kc_0 ?_
              refine g_rdV K (rd hC (c_X6_runOf hC) (ro_s (k := 0) hs hn0 hsp _)) mw_X6_runOf ml_L_30 dL_refusesAny_704 (by rfl) rfl rfl (by decide) (by simp [Value.category]) ⟨by decide, by decide⟩ ⟨by decide, by decide⟩ ?_
              clear hC
              intro S704 hC
              refine g_bipush K dL_refusesAny_707 kb_m2 ?_
              refine g_icmp_ne (tgt := 775) K dL_refusesAny_709 (by decide) (fun u709 => absurd u709 (by decide)) (fun u709 => ?_)
              refine g_aload_n K dL_refusesAny_712 rfl ?_
              refine g_iconst K dL_refusesAny_713 kc_0 ?_
              refine g_iconst K dL_refusesAny_714 kc_5 ?_
              refine g_iload_n K dL_refusesAny_715 rfl ?_
              refine g_iconst K dL_refusesAny_716 kc_2 ?_
              refine g_irem K dL_refusesAny_717 (by first | assumption | decide) ?_
              refine g_nm (y := 1) hpar ?_
              refine g_if_ne (tgt := 725) K dL_refusesAny_718 (by decide) (fun u718 => ?_) (fun u718 => absurd u718 (by decide))
              refine g_bipush K dL_refusesAny_725 kb_9 ?_
              refine g_rdV K (rd hC (c_X6_runOf hC) (ro_bad (k := 0) (s := 5) hs hn0 (by decide) (Or.inr rfl))) mw_X6_runOf ml_L_30 dL_refusesAny_727 (by rfl) rfl rfl (by decide) (by simp [Value.category]) ⟨by decide, by decide⟩ ⟨by decide, by decide⟩ ?_
              clear hC
              intro S727 hC
              refine g_bipush K dL_refusesAny_730 kb_m2 ?_
              refine g_icmp_ne (tgt := 775) K dL_refusesAny_732 (by decide) (fun u732 => absurd u732 (by decide)) (fun u732 => ?_)
              refine g_aload_n K dL_refusesAny_735 rfl ?_
              refine g_iconst K dL_refusesAny_736 kc_0 ?_
              refine g_iload K dL_refusesAny_737 rfl ?_
              refine g_rdfV K (rdf hC (c_X6_off hC) (oo_s hsp)) mw_X6_off ml_L_37 dL_refusesAny_739 (by rfl) rfl rfl (by decide) (by simp [Value.category]) ⟨by decide, by decide⟩ ⟨by decide, by decide⟩ ?_
              clear hC
              intro S739 hC
              refine g_fconst2 K dL_refusesAny_742 ?_
              refine g_fcmp K dL_refusesAny_743 ?_
              refine g_if_ne (tgt := 775) K dL_refusesAny_744 (by decide) (fun u744 => absurd u744 (fun h => h sz_2)) (fun u744 => ?_)
              refine g_aload_n K dL_refusesAny_747 rfl ?_
              refine g_iconst K dL_refusesAny_748 kc_0 ?_
              refine g_iload K dL_refusesAny_749 rfl ?_
              refine g_rdV K (rd hC (c_X6_leastWindow hC) (ol_s (k := 0) hs hn0 hsp _ _ _)) mw_X6_leastWindow ml_L_67 dL_refusesAny_751 (by rfl) rfl rfl (by decide) (by simp [Value.category]) ⟨by decide, by decide⟩ ⟨by decide, by decide⟩ ?_
              clear hC
              intro S751 hC
              refine g_bipush K dL_refusesAny_754 kb_m2 ?_
              refine g_icmp_ne (tgt := 775) K dL_refusesAny_756 (by decide) (fun u756 => absurd u756 (by decide)) (fun u756 => ?_)
              refine g_aload_n K dL_refusesAny_759 rfl ?_
              refine g_iconst K dL_refusesAny_760 kc_0 ?_
              refine g_iload K dL_refusesAny_761 rfl ?_
              refine g_rdV K (rd hC (c_X6_shortestPlate hC) (ol_s (k := 0) hs hn0 hsp _ _ _)) mw_X6_shortestPlate ml_L_70 dL_refusesAny_763 (by rfl) rfl rfl (by decide) (by simp [Value.category]) ⟨by decide, by decide⟩ ⟨by decide, by decide⟩ ?_
              clear hC
              intro S763 hC
              refine g_bipush K dL_refusesAny_766 kb_m2 ?_
              refine g_icmp_ne (tgt := 775) K dL_refusesAny_768 (by decide) (fun u768 => absurd u768 (by decide)) (fun u768 => ?_)
              refine g_iconst K dL_refusesAny_771 kc_1 ?_
              refine g_goto (tgt := 776) K dL_refusesAny_772 (by decide) ?_
              exact k776 _ hC
            refine g_aload_n K dL_refusesAny_555 rfl ?_
            refine g_iconst K dL_refusesAny_556 kc_0 ?_
            refine g_iconst K dL_refusesAny_557 kc_5 ?_
            refine g_rdV K (rd hC (c_X6_cartOf hC) (xc_5 (k := 0) hs hn0)) mw_X6_cartOf ml_L_20 dL_refusesAny_558 (by rfl) rfl rfl (by decide) (by simp [Value.category]) ⟨by decide, by decide⟩ ⟨by decide, by decide⟩ ?_
            clear hC
            intro S558 hC
            refine g_bipush K dL_refusesAny_561 kb_m5 ?_
            refine g_icmp_ne (tgt := 576) K dL_refusesAny_563 (by decide) (fun u563 => ?_) (fun u563 => ?_)
            · exact k576 _ hC
            · refine g_aload_n K dL_refusesAny_566 rfl ?_
              refine g_iconst K dL_refusesAny_567 kc_0 ?_
              refine g_rdV K (rq hC (c_X6_tare hC) (rf_tare_np (k := 0) hs hn0 u563)) mw_X6_tare ml_L_61 dL_refusesAny_568 (by rfl) rfl rfl (by decide) (by simp [Value.category]) ⟨by decide, by decide⟩ ⟨by decide, by decide⟩ ?_
              clear hC
              intro S568 hC
              refine g_bipush K dL_refusesAny_571 kb_m4 ?_
              refine g_icmp_ne (tgt := 775) K dL_refusesAny_573 (by decide) (fun u573 => absurd u573 (by decide)) (fun u573 => ?_)
              exact k576 _ hC
          rcases (hq.2.2.2.1 0 hN1).2.2.2.2 with hl | hl
          · skip
            refine g_aload_n K dL_refusesAny_516 rfl ?_
            refine g_iconst K dL_refusesAny_517 kc_0 ?_
            refine g_iconst K dL_refusesAny_518 kc_0 ?_
            refine g_aload_n K dL_refusesAny_519 rfl ?_
            refine g_iconst K dL_refusesAny_520 kc_0 ?_
            refine g_iconst K dL_refusesAny_521 kc_0 ?_
            refine g_iconst K dL_refusesAny_522 kc_2 ?_
            refine g_rdV K (rd hC (c_X6_axleOf hC) ((ao_2 (k := 0) (a := 0) hs hn0 hq hN1).trans hl)) mw_X6_axleOf ml_L_24 dL_refusesAny_523 (by rfl) rfl rfl (by decide) (by simp [Value.category]) ⟨by decide, by decide⟩ ⟨by decide, by decide⟩ ?_
            clear hC
            intro S523 hC
            refine g_iconst K dL_refusesAny_526 kc_1 ?_
            refine g_icmp_ne (tgt := 534) K dL_refusesAny_527 (by decide) (fun u527 => ?_) (fun u527 => absurd u527 (by decide))
            refine g_iconst K dL_refusesAny_534 kc_0 ?_
            refine g_rdV K (rq hC (c_X6_lift hC (Or.inl rfl)) (rf_lift_same (k := 0) (a := 0) hs hn0 hq hN1 hl)) mw_X6_lift ml_L_54 dL_refusesAny_535 (by rfl) rfl rfl (by decide) (by simp [Value.category]) ⟨by decide, by decide⟩ ⟨by decide, by decide⟩ ?_
            clear hC
            intro S535 hC
            refine g_bipush K dL_refusesAny_538 kb_m5 ?_
            refine g_icmp_ne (tgt := 775) K dL_refusesAny_540 (by decide) (fun u540 => absurd u540 (by decide)) (fun u540 => ?_)
            exact k543 _ hC
          · skip
            refine g_aload_n K dL_refusesAny_516 rfl ?_
            refine g_iconst K dL_refusesAny_517 kc_0 ?_
            refine g_iconst K dL_refusesAny_518 kc_0 ?_
            refine g_aload_n K dL_refusesAny_519 rfl ?_
            refine g_iconst K dL_refusesAny_520 kc_0 ?_
            refine g_iconst K dL_refusesAny_521 kc_0 ?_
            refine g_iconst K dL_refusesAny_522 kc_2 ?_
            refine g_rdV K (rd hC (c_X6_axleOf hC) ((ao_2 (k := 0) (a := 0) hs hn0 hq hN1).trans hl)) mw_X6_axleOf ml_L_24 dL_refusesAny_523 (by rfl) rfl rfl (by decide) (by simp [Value.category]) ⟨by decide, by decide⟩ ⟨by decide, by decide⟩ ?_
            clear hC
            intro S523 hC
            refine g_iconst K dL_refusesAny_526 kc_1 ?_
            refine g_icmp_ne (tgt := 534) K dL_refusesAny_527 (by decide) (fun u527 => absurd u527 (by decide)) (fun u527 => ?_)
            refine g_iconst K dL_refusesAny_530 kc_1 ?_
            refine g_goto (tgt := 535) K dL_refusesAny_531 (by decide) ?_
            refine g_rdV K (rq hC (c_X6_lift hC (Or.inr rfl)) (rf_lift_same (k := 0) (a := 0) hs hn0 hq hN1 hl)) mw_X6_lift ml_L_54 dL_refusesAny_535 (by rfl) rfl rfl (by decide) (by simp [Value.category]) ⟨by decide, by decide⟩ ⟨by decide, by decide⟩ ?_
            clear hC
            intro S535 hC
            refine g_bipush K dL_refusesAny_538 kb_m5 ?_
            refine g_icmp_ne (tgt := 775) K dL_refusesAny_540 (by decide) (fun u540 => absurd u540 (by decide)) (fun u540 => ?_)
            exact k543 _ hC
        refine g_aload_n K dL_refusesAny_440 rfl ?_
        refine g_iconst K dL_refusesAny_441 kc_0 ?_
        refine g_iconst K dL_refusesAny_442 kc_0 ?_
        refine g_rdV K (rd hC (c_X6_cartOf hC) (xc_0 (k := 0) hs hn0 hq)) mw_X6_cartOf ml_L_20 dL_refusesAny_443 (by rfl) rfl rfl (by decide) (by simp [Value.category]) ⟨by decide, by decide⟩ ⟨by decide, by decide⟩ ?_
        clear hC
        intro S443 hC
        refine g_iconst K dL_refusesAny_446 kc_5 ?_
        refine g_icmp_lt (tgt := 462) K dL_refusesAny_447 (by decide) (fun u447 => ?_) (fun u447 => ?_)
        · exact k462 _ hC
        · have hN5 : N = 5 := by
            rcases Nat.lt_or_ge N 5 with h | h
            · exact absurd (nI_lt (b := 5) h (by decide)) u447
            · omega
          refine g_aload_n K dL_refusesAny_450 rfl ?_
          refine g_iconst K dL_refusesAny_451 kc_0 ?_
          refine g_iconst K dL_refusesAny_452 kc_5 ?_
          refine g_iconst K dL_refusesAny_453 kc_5 ?_
          refine g_rdV K (rq hC (c_X6_axle hC) (rf_axle_5 (k := 0) (d := 5) (w := 5) hs hn0 hq hN5 (by decide))) mw_X6_axle ml_L_48 dL_refusesAny_454 (by rfl) rfl rfl (by decide) (by simp [Value.category]) ⟨by decide, by decide⟩ ⟨by decide, by decide⟩ ?_
          clear hC
          intro S454 hC
          refine g_bipush K dL_refusesAny_457 kb_m3 ?_
          refine g_icmp_ne (tgt := 775) K dL_refusesAny_459 (by decide) (fun u459 => absurd u459 (by decide)) (fun u459 => ?_)
          exact k462 _ hC
    refine g_aload_n K dL_refusesAny_142 rfl ?_
    refine g_iconst K dL_refusesAny_143 kc_0 ?_
    refine g_rdV K (rd hC (c_X6_count hC) (cn_0 hs)) mw_X6_count ml_L_14 dL_refusesAny_144 (by rfl) rfl rfl (by decide) (by simp [Value.category]) ⟨by decide, by decide⟩ ⟨by decide, by decide⟩ ?_
    clear hC
    intro S144 hC
    refine g_bipush K dL_refusesAny_147 kb_6 ?_
    refine g_icmp_lt (tgt := 162) K dL_refusesAny_149 (by decide) (fun u149 => ?_) (fun u149 => ?_)
    · exact k162 _ hC
    · have hn6 : aZ A 6 = 6 := by
        rcases Nat.lt_or_ge n 6 with h | h
        · exact absurd (nI_lt (b := 6) h (by decide)) u149
        · rw [hs.2.1, show n = 6 by omega]
          rfl
      refine g_aload_n K dL_refusesAny_152 rfl ?_
      refine g_iconst K dL_refusesAny_153 kc_5 ?_
      refine g_rdV K (rq hC (c_X6_cart hC) (rf_cart6 (w := 5) hn6 (by decide))) mw_X6_cart ml_L_45 dL_refusesAny_154 (by rfl) rfl rfl (by decide) (by simp [Value.category]) ⟨by decide, by decide⟩ ⟨by decide, by decide⟩ ?_
      clear hC
      intro S154 hC
      refine g_bipush K dL_refusesAny_157 kb_m3 ?_
      refine g_icmp_ne (tgt := 401) K dL_refusesAny_159 (by decide) (fun u159 => absurd u159 (by decide)) (fun u159 => ?_)
      exact k162 _ hC
  refine g_aload_n K dL_refusesAny_116 rfl ?_
  refine g_iconst K dL_refusesAny_117 kc_0 ?_
  refine g_rdV K (rd hC (c_X6_count hC) (cn_0 hs)) mw_X6_count ml_L_14 dL_refusesAny_118 (by rfl) rfl rfl (by decide) (by simp [Value.category]) ⟨by decide, by decide⟩ ⟨by decide, by decide⟩ ?_
  clear hC
  intro S118 hC
  refine g_if_le (tgt := 128) K dL_refusesAny_121 (by decide) (fun u121 => ?_) (fun u121 => ?_)
  · have hy : (n = 0 ∧ (0 : Int32) = 0) ∨ (1 ≤ n ∧ (0 : Int32) = 1) := Or.inl ⟨by
      rcases Nat.eq_zero_or_pos n with h | h
      · exact h
      · exact absurd u121 (nI_nle h (by omega)), rfl⟩
    refine g_iconst K dL_refusesAny_128 kc_0 ?_
    refine g_istore (ls2 := [_, _, _, _, _, _, _, some (.int _), _]) K dL_refusesAny_129 (by decide) rfl ?_
    exact k131 _ _ hC hy
  · have hy : (n = 0 ∧ (1 : Int32) = 0) ∨ (1 ≤ n ∧ (1 : Int32) = 1) := Or.inr ⟨by
      rcases Nat.eq_zero_or_pos n with h | h
      · subst h
        exact absurd (by decide) u121
      · exact h, rfl⟩
    refine g_iconst K dL_refusesAny_124 kc_1 ?_
    refine g_goto (tgt := 129) K dL_refusesAny_125 (by decide) ?_
    refine g_istore (ls2 := [_, _, _, _, _, _, _, some (.int _), _]) K dL_refusesAny_129 (by decide) rfl ?_
    exact k131 _ _ hC hy
theorem c_L_refusesAny {l : Launch} {b : Nat} {D : va_G} {cA : Nat → ClassId} {ad : Nat → Nat} {S : ST} {A : AS} {n xn : Nat} (hC : CRel S A n) (hL0 : aL A = 0) (hx : xn < 2 ^ 31) : MT l b D cA NN ad zT yL_refusesAny cL_refusesAny 9 (some .boolean) 8 [.ref (ad 0), .int (nI xn)] S (RI (fun r S2 => r = 1 ∧ CRel S2 A n)) := by
  have n6 := hC.st.2.2.1
  have hm := m_in (m := xn % 99) (Nat.mod_lt _ (by decide))
  have hn0 := nI_pos' (n := n) (by omega)
  have hn6 : nI n ≤ 6 := nI_le (b := 6) n6 (by decide)
  have h5 : ∀ N : Nat, N ≤ 5 → nI N ≤ 5 := fun N h => nI_le (b := 5) h (by decide)
  generalize hM : nI (xn % 99) = M at hm
  have hp : nI xn - nI xn / 2 * 2 = nI (xn % 2) := pk_rem (d := 2) hx (by decide) (by decide)
  rcases Nat.mod_two_eq_zero_or_one xn with h | h
  · rw [h] at hp
    refine c_L_ra_ev hC hL0 hx hp rfl rfl (Nat.mod_lt _ (by decide)) rfl rfl rfl rfl rfl ?_ ?_ ?_ ?_ ?_ <;> rw [hM] <;> clear hp hM h hx hL0 hC <;> try intro N hN; have := h5 N hN
    all_goals grind
  · rw [h] at hp
    refine c_L_ra_od hC hL0 hx hp rfl rfl (Nat.mod_lt _ (by decide)) rfl rfl rfl rfl rfl ?_ ?_ ?_ ?_ ?_ <;> rw [hM] <;> clear hp hM h hx hL0 hC <;> try intro N hN; have := h5 N hN
    all_goals grind
theorem lg_same {x : Int64} : lg_cmp x x = 0 := by simp [lg_cmp]
set_option maxHeartbeats 40000000 in
set_option maxRecDepth 100000 in
theorem c_L_refuses {l : Launch} {b : Nat} {D : va_G} {cA : Nat → ClassId} {ad : Nat → Nat} {S : ST} {A : AS} {n xn : Nat} (hC : CRel S A n) (hL0 : aL A = 0) (hx : xn < 2 ^ 31) : MT l b D cA NN ad zT yL_refuses cL_refuses 5 (some .boolean) 9 [.ref (ad 0), .int (nI xn)] S (RI (fun r S2 => r = 1 ∧ CRel S2 A n)) := by
  refine MT.introL (j := 3) (ls := [some (.ref (ad 0)), some (.int (nI xn)), none, none, none]) pn_L rfl rfl rfl (fun pr en s0 mi below meth c' K _ => ?_)
  refine l_aload_n K dL_refuses_0 rfl ?_
  refine l_rdlS K (c_L_seen hC) mw_L_seen ml_L_86 dL_refuses_1 (by rfl) rfl (by simp [Value.category]) ⟨by decide, by decide⟩ ⟨by decide, by decide⟩ ?_
  clear hC
  intro S1 hC
  refine l_lstore_n (ls2 := [_, some (.int _), some (.long _), none, _]) K dL_refuses_4 (by decide) rfl ?_
  refine l_aload_n K dL_refuses_5 rfl ?_
  refine l_iconst K dL_refuses_6 kc_4 ?_
  refine l_rdV K (rd hC (c_X6_count hC) (cn_4 A)) mw_X6_count ml_L_14 dL_refuses_7 (by rfl) rfl rfl (by decide) (by simp [Value.category]) ⟨by decide, by decide⟩ ⟨by decide, by decide⟩ ?_
  clear hC
  intro S7 hC
  refine l_istore (ls2 := [_, _, _, none, some (.int _)]) K dL_refuses_10 (by decide) rfl ?_
  refine l_aload_n K dL_refuses_12 rfl ?_
  refine l_iload_n K dL_refuses_13 rfl ?_
  refine l_rdS K (c_L_refusesAny hC hL0 hx) mw_L_refusesAny ml_L_90 dL_refuses_14 (by rfl) rfl (by simp [Value.category]) ⟨by decide, by decide⟩ ⟨by decide, by decide⟩ ?_
  clear hC
  intro S14 hC
  refine l_if_eq (tgt := 43) K dL_refuses_17 (by decide) (fun u17 => absurd u17 (by decide)) (fun u17 => ?_)
  refine l_aload_n K dL_refuses_20 rfl ?_
  refine l_rdlS K (c_L_seen hC) mw_L_seen ml_L_86 dL_refuses_21 (by rfl) rfl (by simp [Value.category]) ⟨by decide, by decide⟩ ⟨by decide, by decide⟩ ?_
  clear hC
  intro S21 hC
  refine l_lload_n K dL_refuses_24 rfl ?_
  refine l_lcmp K dL_refuses_25 ?_
  refine l_if_ne (tgt := 43) K dL_refuses_26 (by decide) (fun u26 => absurd u26 (fun h => h lg_same)) (fun u26 => ?_)
  refine l_aload_n K dL_refuses_29 rfl ?_
  refine l_iconst K dL_refuses_30 kc_4 ?_
  refine l_rdV K (rd hC (c_X6_count hC) (cn_4 A)) mw_X6_count ml_L_14 dL_refuses_31 (by rfl) rfl rfl (by decide) (by simp [Value.category]) ⟨by decide, by decide⟩ ⟨by decide, by decide⟩ ?_
  clear hC
  intro S31 hC
  refine l_iload K dL_refuses_34 rfl ?_
  refine l_icmp_ne (tgt := 43) K dL_refuses_36 (by decide) (fun u36 => absurd u36 (fun h => h rfl)) (fun u36 => ?_)
  refine l_iconst K dL_refuses_39 kc_1 ?_
  refine l_goto (tgt := 44) K dL_refuses_40 (by decide) ?_
  refine l_zret K dL_refuses_44 (by first | exact Or.inl rfl | exact Or.inr rfl | assumption) ⟨_, rfl, ?_⟩
  exact ⟨rfl, hC⟩
