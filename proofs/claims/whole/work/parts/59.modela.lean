theorem MRel_fr {S S2 : ST} {A : AS} (h : MRel S A) (hf : Fr S S2) : MRel S2 A := h.keep ⟨hf.2 2 (by decide), hf.2 4 (by decide), hf.2 6 (by decide)⟩ (fun k hk => hf.1 k (by omega) (by omega))
theorem lay_lo9 {z : Nat → Int32} {k i j : Nat} {v : Int32} (h : j < 9) : lay z k i v j = z j := if_neg (by omega)
theorem lay14_q {z : Nat → Int32} {k i j : Nat} {v : Int32} (hi : 1 ≤ i ∧ i ≤ 4) (hj : j = 0 ∨ 5 ≤ j) : qOf (lay z k i v) k j = qOf z k j := by
  rw [lay_q (by omega), if_neg (by omega)]
theorem lay14_l {z : Nat → Int32} {k i : Nat} {v : Int32} (hi : 1 ≤ i ∧ i ≤ 4) : lQ (qOf (lay z k i v) k) = lQ (qOf z k) := by
  funext a
  exact lay14_q hi (by omega)
theorem lay14_ok {z : Nat → Int32} {k i N : Nat} {v : Int32} (hi : 1 ≤ i ∧ i ≤ 4) (h : CartOk (qOf z k) N) : CartOk (qOf (lay z k i v) k) N := by
  obtain ⟨h1, h2, h3, h4, b, hb, h5⟩ := h
  refine ⟨by rw [lay14_q hi (by omega)]; exact h1, h2, h3, fun a ha => ?_, b, hb, by unfold lQ; rw [lay14_q hi (by omega)]; exact h5⟩
  unfold wQ dQ lQ
  rw [lay14_q hi (by omega), lay14_q hi (by omega), lay14_q hi (by omega)]
  exact h4 a ha
theorem run_z3 {z : Nat → Int32} {k : Nat} {s : Int32} : upd (upd (lay (lay (lay z k 2 (twQ z (qOf z k) s)) k 3 s) k 4 (wtQ (qOf z k) s)) 7 (z 7 + 1)) 8 (z 8 + (if rsQ z (qOf z k) s = 0 then 1 else 0)) = runZ3 z k s := by
  unfold runZ3 runZ2 runZ
  by_cases h : rsQ z (qOf z k) s = 0
  · rw [if_pos h, if_pos h]
  · rw [if_neg h, if_neg h]
    funext j
    unfold upd
    by_cases e : j = 8
    · rw [if_pos e, if_neg (by omega), e, lay_lo9 (by decide), lay_lo9 (by decide), lay_lo9 (by decide)]
      grind
    · rw [if_neg e]
set_option maxHeartbeats 4000000 in
set_option maxRecDepth 100000 in
theorem c_X7_run {l : Launch} {b : Nat} {D : va_G} {cA : Nat → ClassId} {ad : Nat → Nat} {S : ST} {A : AS} {n : Nat} {x y : Int32} (hA : MRel S A) (hs : StOk (aZ A) n) : MT l b D cA NN ad zT yX7_run cX7_run 4 (some .int) 5 [.ref (ad 181), .int x, .int y] S (RI (MPost (o_run A x y) S)) := by
  have h6 := hs.2.2.1
  have hn := hs.2.1
  have hz := hA.1
  refine MT.intro (j := 1) (ls := [some (.ref (ad 181)), some (.int x), some (.int y), none]) pn_X7 rfl rfl rfl (fun pr en s0 mi below meth c' K _ => ?_)
  refine g_aload_n K dX7_run_0 rfl ?_
  refine g_iload_n K dX7_run_1 rfl ?_
  refine g_callVi K (c_X7_isCart hz hn h6) mw_X7_isCart ml_X7_50 dX7_run_2 (by rfl) rfl rfl (by decide) (by simp [Value.category]) ⟨by decide, by decide⟩ ⟨by decide, by decide⟩ ?_
  refine g_if_ne (tgt := 10) K dX7_run_5 (by decide) (fun u5 => ?_) (fun u5 => ?_)
  · have hx : 0 ≤ x ∧ x < nI n := by grind
    have hcx : 0 ≤ x ∧ x < aZ A 6 := by rw [hn]; exact hx
    obtain ⟨i, hi, hxi, hki⟩ := c_in (z := aZ A) h6 hx
    have hi6 : i < 6 := by omega
    obtain ⟨N, hq⟩ := hs.2.2.2 i hi
    have h5 := hq.2.2.1
    have hN1 := hq.2.1
    have hq0 : qOf (aZ A) i 0 = nI N := hq.1
    have hnq : nQ (qOf (aZ A) i) = N := nQ_eq hq
    have hqA : qA A x = qOf (aZ A) i := by unfold qA; rw [hki]
    subst hxi
    refine g_iload_n K dX7_run_10 rfl ?_
    refine g_iconst K dX7_run_11 kc_1 ?_
    refine g_bipush K dX7_run_12 kb_9 ?_
    refine g_callSi K c_X7_in mw_X7_in ml_X7_46 dX7_run_14 (by rfl) rfl (by simp [Value.category]) ⟨by decide, by decide⟩ ⟨by decide, by decide⟩ ?_
    refine g_if_ne (tgt := 23) K dX7_run_17 (by decide) (fun u17 => ?_) (fun u17 => ?_)
    · have hs9 : 1 ≤ y ∧ y ≤ 9 := by grind
      refine g_aload_n K dX7_run_23 rfl ?_
      refine g_callVpv K (c_X7_record hA) mw_X7_record ml_X7_70 dX7_run_24 (by rfl) rfl rfl (by decide) (by simp [Value.category]) ⟨by decide, by decide⟩ ⟨by decide, by decide⟩ (fun S24 h24 => ?_)
      refine g_aload_n K dX7_run_27 rfl ?_
      refine g_iload_n K dX7_run_28 rfl ?_
      refine g_iload_n K dX7_run_29 rfl ?_
      refine g_callVpv K (c_X7_reckon (z := aZ A) (k := i) (N := N) h24.1.1 hi6 hq hs.1 hs9) mw_X7_reckon ml_X7_147 dX7_run_30 (by rfl) rfl rfl (by decide) (by simp [Value.category]) ⟨by decide, by decide⟩ ⟨by decide, by decide⟩ (fun S30 h30 => ?_)
      have hz2 : MZ S30 (aZ A) := Fr_mz h30.2 h24.1.1
      have hgr : S30 181 16 = lvQ (aZ A) (qOf (aZ A) i) y 2 := h30.1.2.2.1.2.1
      have htwd : twQ (aZ A) (qOf (aZ A) i) y = if rsQ (aZ A) (qOf (aZ A) i) y = 0 then lvQ (aZ A) (qOf (aZ A) i) y 2 else -5 := rfl
      have hA2 : MRel S30 (recA A) := MRel_fr h24.1 h30.2
      have hfr2 : ∀ k, k < 181 → S30 k = S k := fun k hk => by rw [h30.2.1 k (by omega) (by omega), h24.2 k (by omega) (by omega)]
      have hq3 : CartOk (qOf (lay (lay (aZ A) i 2 (twQ (aZ A) (qOf (aZ A) i) y)) i 3 y) i) N := lay14_ok (by decide) (lay14_ok (by decide) hq)
      have hl3 : lQ (qOf (lay (lay (aZ A) i 2 (twQ (aZ A) (qOf (aZ A) i) y)) i 3 y) i) = lQ (qOf (aZ A) i) := by rw [lay14_l (by decide), lay14_l (by decide)]
      have hwt3 : (wtF (bhQ (qOf (aZ A) i)) (lQ (qOf (lay (lay (aZ A) i 2 (twQ (aZ A) (qOf (aZ A) i) y)) i 3 y) i)) y N).1 = wtQ (qOf (aZ A) i) y := by
        unfold wtQ
        rw [hl3, hnq]
      have hz3 : MZ (stw (stw S30 182 (9 + 20 * i + 2) (twQ (aZ A) (qOf (aZ A) i) y)) 182 (9 + 20 * i + 3) y) (lay (lay (aZ A) i 2 (twQ (aZ A) (qOf (aZ A) i) y)) i 3 y) := MZ_lay (MZ_lay hz2)
      have hz4 : MZ (stw (stw (stw S30 182 (9 + 20 * i + 2) (twQ (aZ A) (qOf (aZ A) i) y)) 182 (9 + 20 * i + 3) y) 182 (9 + 20 * i + 4) (wtQ (qOf (aZ A) i) y)) (lay (lay (lay (aZ A) i 2 (twQ (aZ A) (qOf (aZ A) i) y)) i 3 y) i 4 (wtQ (qOf (aZ A) i) y)) := MZ_lay hz3
      have hz5 : MZ (stw (stw (stw (stw S30 182 (9 + 20 * i + 2) (twQ (aZ A) (qOf (aZ A) i) y)) 182 (9 + 20 * i + 3) y) 182 (9 + 20 * i + 4) (wtQ (qOf (aZ A) i) y)) 182 7 (aZ A 7 + 1)) (upd (lay (lay (lay (aZ A) i 2 (twQ (aZ A) (qOf (aZ A) i) y)) i 3 y) i 4 (wtQ (qOf (aZ A) i) y)) 7 (aZ A 7 + 1)) := MZ_put hz4
      have hv7 : (stw (stw (stw S30 182 (9 + 20 * i + 2) (twQ (aZ A) (qOf (aZ A) i) y)) 182 (9 + 20 * i + 3) y) 182 (9 + 20 * i + 4) (wtQ (qOf (aZ A) i) y)) 182 7 = aZ A 7 := by rw [hz4 7 (by decide), lay_lo9 (by decide), lay_lo9 (by decide), lay_lo9 (by decide)]
      have hv8 : (stw (stw (stw (stw S30 182 (9 + 20 * i + 2) (twQ (aZ A) (qOf (aZ A) i) y)) 182 (9 + 20 * i + 3) y) 182 (9 + 20 * i + 4) (wtQ (qOf (aZ A) i) y)) 182 7 (aZ A 7 + 1)) 182 8 = aZ A 8 := by
        rw [hz5 8 (by decide)]
        unfold upd
        rw [if_neg (by decide), lay_lo9 (by decide), lay_lo9 (by decide), lay_lo9 (by decide)]
      have h87 : ∀ a, a < N → (stw (stw S30 182 (9 + 20 * i + 2) (twQ (aZ A) (qOf (aZ A) i) y)) 182 (9 + 20 * i + 3) y) 187 a = bhQ (qOf (aZ A) i) a := fun a ha => by
        rw [stw_n (by decide), stw_n (by decide)]
        exact (h30.1.1 a (by omega)).2
      refine g_aload_n K dX7_run_33 rfl ?_
      refine g_iload_n K dX7_run_34 rfl ?_
      refine g_iload_n K dX7_run_35 rfl ?_
      refine g_callVi K (c_X7_reason (z := aZ A) (k := i) (N := N) (bh := bhQ (qOf (aZ A) i)) (L := lvQ (aZ A) (qOf (aZ A) i) y) (T := rT (aZ A) (qOf (aZ A) i) y) hz2 hi6 hq hs.1 (fun a ha => (h30.1.1 a (by omega)).2) hs9 h30.1.2.2.1 h30.1.2.1) mw_X7_reason ml_X7_151 dX7_run_36 (by rfl) rfl rfl (by decide) (by simp [Value.category]) ⟨by decide, by decide⟩ ⟨by decide, by decide⟩ ?_
      refine g_nm (y := rsQ (aZ A) (qOf (aZ A) i) y) (by unfold rsQ; rw [hnq]) ?_
      refine g_istore_n (ls2 := [_, _, _, some (.int _)]) K dX7_run_39 (by decide) rfl ?_
      refine g_aload_n K dX7_run_40 rfl ?_
      refine g_iload_n K dX7_run_41 rfl ?_
      refine g_iconst K dX7_run_42 kc_2 ?_
      refine g_iload_n K dX7_run_43 rfl ?_
      refine g_if_ne (tgt := 54) K dX7_run_44 (by decide) (fun u44 => ?_) (fun u44 => ?_)
      · refine g_bipush K dX7_run_54 kb_m5 ?_
        refine g_nm (y := twQ (aZ A) (qOf (aZ A) i) y) (by first | contradiction | (rw [htwd, if_pos (by assumption)]) | (rw [htwd, if_neg (by assumption)])) ?_
        refine g_callVv K (c_X7_lay (k := i) (w := 2) (by omega) (by omega)) mw_X7_lay ml_X7_73 dX7_run_56 (by rfl) rfl rfl (by decide) (by simp [Value.category]) ⟨by decide, by decide⟩ ⟨by decide, by decide⟩ ?_
        refine g_aload_n K dX7_run_59 rfl ?_
        refine g_iload_n K dX7_run_60 rfl ?_
        refine g_iconst K dX7_run_61 kc_3 ?_
        refine g_iload_n K dX7_run_62 rfl ?_
        refine g_callVv K (c_X7_lay (k := i) (w := 3) (by omega) (by omega)) mw_X7_lay ml_X7_73 dX7_run_63 (by rfl) rfl rfl (by decide) (by simp [Value.category]) ⟨by decide, by decide⟩ ⟨by decide, by decide⟩ ?_
        refine g_aload_n K dX7_run_66 rfl ?_
        refine g_iload_n K dX7_run_67 rfl ?_
        refine g_iconst K dX7_run_68 kc_4 ?_
        refine g_aload_n K dX7_run_69 rfl ?_
        refine g_iload_n K dX7_run_70 rfl ?_
        refine g_iload_n K dX7_run_71 rfl ?_
        refine g_callVi K (c_X7_axlesTold (k := i) (N := N) (z := (lay (lay (aZ A) i 2 (twQ (aZ A) (qOf (aZ A) i) y)) i 3 y)) (bh := bhQ (qOf (aZ A) i)) (s := y) hz3 hi6 hq3 h87 hs9) mw_X7_axlesTold ml_X7_144 dX7_run_72 (by rfl) rfl rfl (by decide) (by simp [Value.category]) ⟨by decide, by decide⟩ ⟨by decide, by decide⟩ ?_
        refine g_nm hwt3 ?_
        refine g_callVv K (c_X7_lay (k := i) (w := 4) (by omega) (by omega)) mw_X7_lay ml_X7_73 dX7_run_75 (by rfl) rfl rfl (by decide) (by simp [Value.category]) ⟨by decide, by decide⟩ ⟨by decide, by decide⟩ ?_
        refine g_aload_n K dX7_run_78 rfl ?_
        refine g_getr (j := 182) K lk_X7_7 dX7_run_79 rfl (by decide) (rfl : kd 181 = 7) (by decide) (by decide) rfl (rfl : rs 181 0 = 182) ?_
        refine g_bipush K dX7_run_82 kb_7 ?_
        refine g_dup2 K dX7_run_84 rfl rfl ?_
        refine g_iald (j := 7) K dX7_run_85 rfl ln_182 (by decide) (rfl : kd 182 = 8) (by decide) hv7 ?_
        refine g_iconst K dX7_run_86 kc_1 ?_
        refine g_iadd K dX7_run_87 ?_
        refine g_iast (j := 7) K dX7_run_88 rfl ln_182 (by decide) (rfl : kd 182 = 8) (by decide) rfl ?_
        refine g_aload_n K dX7_run_89 rfl ?_
        refine g_getr (j := 182) K lk_X7_7 dX7_run_90 rfl (by decide) (rfl : kd 181 = 7) (by decide) (by decide) rfl (rfl : rs 181 0 = 182) ?_
        refine g_bipush K dX7_run_93 kb_8 ?_
        refine g_dup2 K dX7_run_95 rfl rfl ?_
        refine g_iald (j := 8) K dX7_run_96 rfl ln_182 (by decide) (rfl : kd 182 = 8) (by decide) hv8 ?_
        refine g_iload_n K dX7_run_97 rfl ?_
        refine g_if_ne (tgt := 105) K dX7_run_98 (by decide) (fun u98 => ?_) (fun u98 => ?_)
        · refine g_iconst K dX7_run_105 kc_0 ?_
          refine g_nm (y := if rsQ (aZ A) (qOf (aZ A) i) y = 0 then 1 else 0) (by first | contradiction | rw [if_pos (by assumption)] | rw [if_neg (by assumption)]) ?_
          refine g_iadd K dX7_run_106 ?_
          refine g_iast (j := 8) K dX7_run_107 rfl ln_182 (by decide) (rfl : kd 182 = 8) (by decide) rfl ?_
          refine g_iload_n K dX7_run_108 rfl ?_
          refine g_if_ne (tgt := 119) K dX7_run_109 (by decide) (fun u109 => ?_) (fun u109 => ?_)
          · refine g_bipush K dX7_run_119 kb_m10 ?_
            refine g_iload_n K dX7_run_121 rfl ?_
            refine g_isub K dX7_run_122 ?_
            refine g_nm (y := if rsQ (aZ A) (qOf (aZ A) i) y = 0 then lvQ (aZ A) (qOf (aZ A) i) y 2 else -10 - rsQ (aZ A) (qOf (aZ A) i) y) (by first | contradiction | rw [if_pos (by assumption)] | rw [if_neg (by assumption)]) ?_
            refine g_iret K dX7_run_123 ⟨_, rfl, ?_⟩
            have hz6 : MZ (stw (stw (stw (stw (stw S30 182 (9 + 20 * i + 2) (twQ (aZ A) (qOf (aZ A) i) y)) 182 (9 + 20 * i + 3) y) 182 (9 + 20 * i + 4) (wtQ (qOf (aZ A) i) y)) 182 7 (aZ A 7 + 1)) 182 8 (aZ A 8 + (if rsQ (aZ A) (qOf (aZ A) i) y = 0 then 1 else 0))) (runZ3 (aZ A) i y) := by
              rw [← run_z3]
              exact MZ_put hz5
            refine mp_ok (A := setZ (recA A) (runZ3 (aZ A) i y)) ?_ (MRel_row hA2 hz6 (fun k hk => by rw [stw_n hk, stw_n hk, stw_n hk, stw_n hk, stw_n hk])) (fun k hk => by rw [stw_n (by omega), stw_n (by omega), stw_n (by omega), stw_n (by omega), stw_n (by omega)]; exact hfr2 k hk)
            unfold o_run
            rw [if_pos hcx, if_pos hs9, hqA, hki]
          · refine g_aload_n K dX7_run_112 rfl ?_
            refine g_geti K lk_X7_104 dX7_run_113 rfl (rfl : kd 181 = 7) (by decide) (by decide) (show (stw (stw (stw (stw (stw S30 182 (9 + 20 * i + 2) (twQ (aZ A) (qOf (aZ A) i) y)) 182 (9 + 20 * i + 3) y) 182 (9 + 20 * i + 4) (wtQ (qOf (aZ A) i) y)) 182 7 (aZ A 7 + 1)) 182 8 (aZ A 8 + (if rsQ (aZ A) (qOf (aZ A) i) y = 0 then 1 else 0))) 181 16 = lvQ (aZ A) (qOf (aZ A) i) y 2 by rw [stw_n (by decide), stw_n (by decide), stw_n (by decide), stw_n (by decide), stw_n (by decide)]; exact hgr) ?_
            refine g_goto (tgt := 123) K dX7_run_116 (by decide) ?_
            refine g_nm (y := if rsQ (aZ A) (qOf (aZ A) i) y = 0 then lvQ (aZ A) (qOf (aZ A) i) y 2 else -10 - rsQ (aZ A) (qOf (aZ A) i) y) (by first | contradiction | rw [if_pos (by assumption)] | rw [if_neg (by assumption)]) ?_
            refine g_iret K dX7_run_123 ⟨_, rfl, ?_⟩
            have hz6 : MZ (stw (stw (stw (stw (stw S30 182 (9 + 20 * i + 2) (twQ (aZ A) (qOf (aZ A) i) y)) 182 (9 + 20 * i + 3) y) 182 (9 + 20 * i + 4) (wtQ (qOf (aZ A) i) y)) 182 7 (aZ A 7 + 1)) 182 8 (aZ A 8 + (if rsQ (aZ A) (qOf (aZ A) i) y = 0 then 1 else 0))) (runZ3 (aZ A) i y) := by
              rw [← run_z3]
              exact MZ_put hz5
            refine mp_ok (A := setZ (recA A) (runZ3 (aZ A) i y)) ?_ (MRel_row hA2 hz6 (fun k hk => by rw [stw_n hk, stw_n hk, stw_n hk, stw_n hk, stw_n hk])) (fun k hk => by rw [stw_n (by omega), stw_n (by omega), stw_n (by omega), stw_n (by omega), stw_n (by omega)]; exact hfr2 k hk)
            unfold o_run
            rw [if_pos hcx, if_pos hs9, hqA, hki]
        · refine g_iconst K dX7_run_101 kc_1 ?_
          refine g_goto (tgt := 106) K dX7_run_102 (by decide) ?_
          refine g_nm (y := if rsQ (aZ A) (qOf (aZ A) i) y = 0 then 1 else 0) (by first | contradiction | rw [if_pos (by assumption)] | rw [if_neg (by assumption)]) ?_
          refine g_iadd K dX7_run_106 ?_
          refine g_iast (j := 8) K dX7_run_107 rfl ln_182 (by decide) (rfl : kd 182 = 8) (by decide) rfl ?_
          refine g_iload_n K dX7_run_108 rfl ?_
          refine g_if_ne (tgt := 119) K dX7_run_109 (by decide) (fun u109 => ?_) (fun u109 => ?_)
          · refine g_bipush K dX7_run_119 kb_m10 ?_
            refine g_iload_n K dX7_run_121 rfl ?_
            refine g_isub K dX7_run_122 ?_
            refine g_nm (y := if rsQ (aZ A) (qOf (aZ A) i) y = 0 then lvQ (aZ A) (qOf (aZ A) i) y 2 else -10 - rsQ (aZ A) (qOf (aZ A) i) y) (by first | contradiction | rw [if_pos (by assumption)] | rw [if_neg (by assumption)]) ?_
            refine g_iret K dX7_run_123 ⟨_, rfl, ?_⟩
            have hz6 : MZ (stw (stw (stw (stw (stw S30 182 (9 + 20 * i + 2) (twQ (aZ A) (qOf (aZ A) i) y)) 182 (9 + 20 * i + 3) y) 182 (9 + 20 * i + 4) (wtQ (qOf (aZ A) i) y)) 182 7 (aZ A 7 + 1)) 182 8 (aZ A 8 + (if rsQ (aZ A) (qOf (aZ A) i) y = 0 then 1 else 0))) (runZ3 (aZ A) i y) := by
              rw [← run_z3]
              exact MZ_put hz5
            refine mp_ok (A := setZ (recA A) (runZ3 (aZ A) i y)) ?_ (MRel_row hA2 hz6 (fun k hk => by rw [stw_n hk, stw_n hk, stw_n hk, stw_n hk, stw_n hk])) (fun k hk => by rw [stw_n (by omega), stw_n (by omega), stw_n (by omega), stw_n (by omega), stw_n (by omega)]; exact hfr2 k hk)
            unfold o_run
            rw [if_pos hcx, if_pos hs9, hqA, hki]
          · refine g_aload_n K dX7_run_112 rfl ?_
            refine g_geti K lk_X7_104 dX7_run_113 rfl (rfl : kd 181 = 7) (by decide) (by decide) (show (stw (stw (stw (stw (stw S30 182 (9 + 20 * i + 2) (twQ (aZ A) (qOf (aZ A) i) y)) 182 (9 + 20 * i + 3) y) 182 (9 + 20 * i + 4) (wtQ (qOf (aZ A) i) y)) 182 7 (aZ A 7 + 1)) 182 8 (aZ A 8 + (if rsQ (aZ A) (qOf (aZ A) i) y = 0 then 1 else 0))) 181 16 = lvQ (aZ A) (qOf (aZ A) i) y 2 by rw [stw_n (by decide), stw_n (by decide), stw_n (by decide), stw_n (by decide), stw_n (by decide)]; exact hgr) ?_
            refine g_goto (tgt := 123) K dX7_run_116 (by decide) ?_
            refine g_nm (y := if rsQ (aZ A) (qOf (aZ A) i) y = 0 then lvQ (aZ A) (qOf (aZ A) i) y 2 else -10 - rsQ (aZ A) (qOf (aZ A) i) y) (by first | contradiction | rw [if_pos (by assumption)] | rw [if_neg (by assumption)]) ?_
            refine g_iret K dX7_run_123 ⟨_, rfl, ?_⟩
            have hz6 : MZ (stw (stw (stw (stw (stw S30 182 (9 + 20 * i + 2) (twQ (aZ A) (qOf (aZ A) i) y)) 182 (9 + 20 * i + 3) y) 182 (9 + 20 * i + 4) (wtQ (qOf (aZ A) i) y)) 182 7 (aZ A 7 + 1)) 182 8 (aZ A 8 + (if rsQ (aZ A) (qOf (aZ A) i) y = 0 then 1 else 0))) (runZ3 (aZ A) i y) := by
              rw [← run_z3]
              exact MZ_put hz5
            refine mp_ok (A := setZ (recA A) (runZ3 (aZ A) i y)) ?_ (MRel_row hA2 hz6 (fun k hk => by rw [stw_n hk, stw_n hk, stw_n hk, stw_n hk, stw_n hk])) (fun k hk => by rw [stw_n (by omega), stw_n (by omega), stw_n (by omega), stw_n (by omega), stw_n (by omega)]; exact hfr2 k hk)
            unfold o_run
            rw [if_pos hcx, if_pos hs9, hqA, hki]
      · refine g_aload_n K dX7_run_47 rfl ?_
        refine g_geti K lk_X7_104 dX7_run_48 rfl (rfl : kd 181 = 7) (by decide) (by decide) hgr ?_
        refine g_goto (tgt := 56) K dX7_run_51 (by decide) ?_
        refine g_nm (y := twQ (aZ A) (qOf (aZ A) i) y) (by first | contradiction | (rw [htwd, if_pos (by assumption)]) | (rw [htwd, if_neg (by assumption)])) ?_
        refine g_callVv K (c_X7_lay (k := i) (w := 2) (by omega) (by omega)) mw_X7_lay ml_X7_73 dX7_run_56 (by rfl) rfl rfl (by decide) (by simp [Value.category]) ⟨by decide, by decide⟩ ⟨by decide, by decide⟩ ?_
        refine g_aload_n K dX7_run_59 rfl ?_
        refine g_iload_n K dX7_run_60 rfl ?_
        refine g_iconst K dX7_run_61 kc_3 ?_
        refine g_iload_n K dX7_run_62 rfl ?_
        refine g_callVv K (c_X7_lay (k := i) (w := 3) (by omega) (by omega)) mw_X7_lay ml_X7_73 dX7_run_63 (by rfl) rfl rfl (by decide) (by simp [Value.category]) ⟨by decide, by decide⟩ ⟨by decide, by decide⟩ ?_
        refine g_aload_n K dX7_run_66 rfl ?_
        refine g_iload_n K dX7_run_67 rfl ?_
        refine g_iconst K dX7_run_68 kc_4 ?_
        refine g_aload_n K dX7_run_69 rfl ?_
        refine g_iload_n K dX7_run_70 rfl ?_
        refine g_iload_n K dX7_run_71 rfl ?_
        refine g_callVi K (c_X7_axlesTold (k := i) (N := N) (z := (lay (lay (aZ A) i 2 (twQ (aZ A) (qOf (aZ A) i) y)) i 3 y)) (bh := bhQ (qOf (aZ A) i)) (s := y) hz3 hi6 hq3 h87 hs9) mw_X7_axlesTold ml_X7_144 dX7_run_72 (by rfl) rfl rfl (by decide) (by simp [Value.category]) ⟨by decide, by decide⟩ ⟨by decide, by decide⟩ ?_
        refine g_nm hwt3 ?_
        refine g_callVv K (c_X7_lay (k := i) (w := 4) (by omega) (by omega)) mw_X7_lay ml_X7_73 dX7_run_75 (by rfl) rfl rfl (by decide) (by simp [Value.category]) ⟨by decide, by decide⟩ ⟨by decide, by decide⟩ ?_
        refine g_aload_n K dX7_run_78 rfl ?_
        refine g_getr (j := 182) K lk_X7_7 dX7_run_79 rfl (by decide) (rfl : kd 181 = 7) (by decide) (by decide) rfl (rfl : rs 181 0 = 182) ?_
        refine g_bipush K dX7_run_82 kb_7 ?_
        refine g_dup2 K dX7_run_84 rfl rfl ?_
        refine g_iald (j := 7) K dX7_run_85 rfl ln_182 (by decide) (rfl : kd 182 = 8) (by decide) hv7 ?_
        refine g_iconst K dX7_run_86 kc_1 ?_
        refine g_iadd K dX7_run_87 ?_
        refine g_iast (j := 7) K dX7_run_88 rfl ln_182 (by decide) (rfl : kd 182 = 8) (by decide) rfl ?_
        refine g_aload_n K dX7_run_89 rfl ?_
        refine g_getr (j := 182) K lk_X7_7 dX7_run_90 rfl (by decide) (rfl : kd 181 = 7) (by decide) (by decide) rfl (rfl : rs 181 0 = 182) ?_
        refine g_bipush K dX7_run_93 kb_8 ?_
        refine g_dup2 K dX7_run_95 rfl rfl ?_
        refine g_iald (j := 8) K dX7_run_96 rfl ln_182 (by decide) (rfl : kd 182 = 8) (by decide) hv8 ?_
        refine g_iload_n K dX7_run_97 rfl ?_
        refine g_if_ne (tgt := 105) K dX7_run_98 (by decide) (fun u98 => ?_) (fun u98 => ?_)
        · refine g_iconst K dX7_run_105 kc_0 ?_
          refine g_nm (y := if rsQ (aZ A) (qOf (aZ A) i) y = 0 then 1 else 0) (by first | contradiction | rw [if_pos (by assumption)] | rw [if_neg (by assumption)]) ?_
          refine g_iadd K dX7_run_106 ?_
          refine g_iast (j := 8) K dX7_run_107 rfl ln_182 (by decide) (rfl : kd 182 = 8) (by decide) rfl ?_
          refine g_iload_n K dX7_run_108 rfl ?_
          refine g_if_ne (tgt := 119) K dX7_run_109 (by decide) (fun u109 => ?_) (fun u109 => ?_)
          · refine g_bipush K dX7_run_119 kb_m10 ?_
            refine g_iload_n K dX7_run_121 rfl ?_
            refine g_isub K dX7_run_122 ?_
            refine g_nm (y := if rsQ (aZ A) (qOf (aZ A) i) y = 0 then lvQ (aZ A) (qOf (aZ A) i) y 2 else -10 - rsQ (aZ A) (qOf (aZ A) i) y) (by first | contradiction | rw [if_pos (by assumption)] | rw [if_neg (by assumption)]) ?_
            refine g_iret K dX7_run_123 ⟨_, rfl, ?_⟩
            have hz6 : MZ (stw (stw (stw (stw (stw S30 182 (9 + 20 * i + 2) (twQ (aZ A) (qOf (aZ A) i) y)) 182 (9 + 20 * i + 3) y) 182 (9 + 20 * i + 4) (wtQ (qOf (aZ A) i) y)) 182 7 (aZ A 7 + 1)) 182 8 (aZ A 8 + (if rsQ (aZ A) (qOf (aZ A) i) y = 0 then 1 else 0))) (runZ3 (aZ A) i y) := by
              rw [← run_z3]
              exact MZ_put hz5
            refine mp_ok (A := setZ (recA A) (runZ3 (aZ A) i y)) ?_ (MRel_row hA2 hz6 (fun k hk => by rw [stw_n hk, stw_n hk, stw_n hk, stw_n hk, stw_n hk])) (fun k hk => by rw [stw_n (by omega), stw_n (by omega), stw_n (by omega), stw_n (by omega), stw_n (by omega)]; exact hfr2 k hk)
            unfold o_run
            rw [if_pos hcx, if_pos hs9, hqA, hki]
          · refine g_aload_n K dX7_run_112 rfl ?_
            refine g_geti K lk_X7_104 dX7_run_113 rfl (rfl : kd 181 = 7) (by decide) (by decide) (show (stw (stw (stw (stw (stw S30 182 (9 + 20 * i + 2) (twQ (aZ A) (qOf (aZ A) i) y)) 182 (9 + 20 * i + 3) y) 182 (9 + 20 * i + 4) (wtQ (qOf (aZ A) i) y)) 182 7 (aZ A 7 + 1)) 182 8 (aZ A 8 + (if rsQ (aZ A) (qOf (aZ A) i) y = 0 then 1 else 0))) 181 16 = lvQ (aZ A) (qOf (aZ A) i) y 2 by rw [stw_n (by decide), stw_n (by decide), stw_n (by decide), stw_n (by decide), stw_n (by decide)]; exact hgr) ?_
            refine g_goto (tgt := 123) K dX7_run_116 (by decide) ?_
            refine g_nm (y := if rsQ (aZ A) (qOf (aZ A) i) y = 0 then lvQ (aZ A) (qOf (aZ A) i) y 2 else -10 - rsQ (aZ A) (qOf (aZ A) i) y) (by first | contradiction | rw [if_pos (by assumption)] | rw [if_neg (by assumption)]) ?_
            refine g_iret K dX7_run_123 ⟨_, rfl, ?_⟩
            have hz6 : MZ (stw (stw (stw (stw (stw S30 182 (9 + 20 * i + 2) (twQ (aZ A) (qOf (aZ A) i) y)) 182 (9 + 20 * i + 3) y) 182 (9 + 20 * i + 4) (wtQ (qOf (aZ A) i) y)) 182 7 (aZ A 7 + 1)) 182 8 (aZ A 8 + (if rsQ (aZ A) (qOf (aZ A) i) y = 0 then 1 else 0))) (runZ3 (aZ A) i y) := by
              rw [← run_z3]
              exact MZ_put hz5
            refine mp_ok (A := setZ (recA A) (runZ3 (aZ A) i y)) ?_ (MRel_row hA2 hz6 (fun k hk => by rw [stw_n hk, stw_n hk, stw_n hk, stw_n hk, stw_n hk])) (fun k hk => by rw [stw_n (by omega), stw_n (by omega), stw_n (by omega), stw_n (by omega), stw_n (by omega)]; exact hfr2 k hk)
            unfold o_run
            rw [if_pos hcx, if_pos hs9, hqA, hki]
        · refine g_iconst K dX7_run_101 kc_1 ?_
          refine g_goto (tgt := 106) K dX7_run_102 (by decide) ?_
          refine g_nm (y := if rsQ (aZ A) (qOf (aZ A) i) y = 0 then 1 else 0) (by first | contradiction | rw [if_pos (by assumption)] | rw [if_neg (by assumption)]) ?_
          refine g_iadd K dX7_run_106 ?_
          refine g_iast (j := 8) K dX7_run_107 rfl ln_182 (by decide) (rfl : kd 182 = 8) (by decide) rfl ?_
          refine g_iload_n K dX7_run_108 rfl ?_
          refine g_if_ne (tgt := 119) K dX7_run_109 (by decide) (fun u109 => ?_) (fun u109 => ?_)
          · refine g_bipush K dX7_run_119 kb_m10 ?_
            refine g_iload_n K dX7_run_121 rfl ?_
            refine g_isub K dX7_run_122 ?_
            refine g_nm (y := if rsQ (aZ A) (qOf (aZ A) i) y = 0 then lvQ (aZ A) (qOf (aZ A) i) y 2 else -10 - rsQ (aZ A) (qOf (aZ A) i) y) (by first | contradiction | rw [if_pos (by assumption)] | rw [if_neg (by assumption)]) ?_
            refine g_iret K dX7_run_123 ⟨_, rfl, ?_⟩
            have hz6 : MZ (stw (stw (stw (stw (stw S30 182 (9 + 20 * i + 2) (twQ (aZ A) (qOf (aZ A) i) y)) 182 (9 + 20 * i + 3) y) 182 (9 + 20 * i + 4) (wtQ (qOf (aZ A) i) y)) 182 7 (aZ A 7 + 1)) 182 8 (aZ A 8 + (if rsQ (aZ A) (qOf (aZ A) i) y = 0 then 1 else 0))) (runZ3 (aZ A) i y) := by
              rw [← run_z3]
              exact MZ_put hz5
            refine mp_ok (A := setZ (recA A) (runZ3 (aZ A) i y)) ?_ (MRel_row hA2 hz6 (fun k hk => by rw [stw_n hk, stw_n hk, stw_n hk, stw_n hk, stw_n hk])) (fun k hk => by rw [stw_n (by omega), stw_n (by omega), stw_n (by omega), stw_n (by omega), stw_n (by omega)]; exact hfr2 k hk)
            unfold o_run
            rw [if_pos hcx, if_pos hs9, hqA, hki]
          · refine g_aload_n K dX7_run_112 rfl ?_
            refine g_geti K lk_X7_104 dX7_run_113 rfl (rfl : kd 181 = 7) (by decide) (by decide) (show (stw (stw (stw (stw (stw S30 182 (9 + 20 * i + 2) (twQ (aZ A) (qOf (aZ A) i) y)) 182 (9 + 20 * i + 3) y) 182 (9 + 20 * i + 4) (wtQ (qOf (aZ A) i) y)) 182 7 (aZ A 7 + 1)) 182 8 (aZ A 8 + (if rsQ (aZ A) (qOf (aZ A) i) y = 0 then 1 else 0))) 181 16 = lvQ (aZ A) (qOf (aZ A) i) y 2 by rw [stw_n (by decide), stw_n (by decide), stw_n (by decide), stw_n (by decide), stw_n (by decide)]; exact hgr) ?_
            refine g_goto (tgt := 123) K dX7_run_116 (by decide) ?_
            refine g_nm (y := if rsQ (aZ A) (qOf (aZ A) i) y = 0 then lvQ (aZ A) (qOf (aZ A) i) y 2 else -10 - rsQ (aZ A) (qOf (aZ A) i) y) (by first | contradiction | rw [if_pos (by assumption)] | rw [if_neg (by assumption)]) ?_
            refine g_iret K dX7_run_123 ⟨_, rfl, ?_⟩
            have hz6 : MZ (stw (stw (stw (stw (stw S30 182 (9 + 20 * i + 2) (twQ (aZ A) (qOf (aZ A) i) y)) 182 (9 + 20 * i + 3) y) 182 (9 + 20 * i + 4) (wtQ (qOf (aZ A) i) y)) 182 7 (aZ A 7 + 1)) 182 8 (aZ A 8 + (if rsQ (aZ A) (qOf (aZ A) i) y = 0 then 1 else 0))) (runZ3 (aZ A) i y) := by
              rw [← run_z3]
              exact MZ_put hz5
            refine mp_ok (A := setZ (recA A) (runZ3 (aZ A) i y)) ?_ (MRel_row hA2 hz6 (fun k hk => by rw [stw_n hk, stw_n hk, stw_n hk, stw_n hk, stw_n hk])) (fun k hk => by rw [stw_n (by omega), stw_n (by omega), stw_n (by omega), stw_n (by omega), stw_n (by omega)]; exact hfr2 k hk)
            unfold o_run
            rw [if_pos hcx, if_pos hs9, hqA, hki]
    · have hs9 : ¬ (1 ≤ y ∧ y ≤ 9) := by grind
      refine g_bipush K dX7_run_20 kb_m2 ?_
      refine g_iret K dX7_run_22 ⟨_, rfl, ?_⟩
      exact mp_err (by unfold o_run; rw [if_pos hcx, if_neg hs9]) hA
  · have hcx : ¬ (0 ≤ x ∧ x < aZ A 6) := by rw [hn]; grind
    refine g_iconst K dX7_run_8 kc_m1 ?_
    refine g_iret K dX7_run_9 ⟨_, rfl, ?_⟩
    exact mp_err (by unfold o_run; rw [if_neg hcx]) hA
set_option maxHeartbeats 4000000 in
set_option maxRecDepth 100000 in
theorem c_X7_isNear {l : Launch} {b : Nat} {D : va_G} {cA : Nat → ClassId} {ad : Nat → Nat} {S : ST} {z : Nat → Int32} {k N : Nat} {s : Int32} (hz : MZ S z) (hk : k < 6) (hq : CartOk (qOf z k) N) (hse : SetOk z) (hs9 : 1 ≤ s ∧ s ≤ 9) : MT l b D cA NN ad zT yX7_isNear cX7_isNear 3 (some .boolean) 5 [.ref (ad 181), .int (nI k), .int s] S (RI (fun r S2 => r = neQ z (qOf z k) s ∧ Fr S S2)) := by
  have hnq : nQ (qOf z k) = N := nQ_eq hq
  refine MT.intro (j := 0) (ls := [some (.ref (ad 181)), some (.int (nI k)), some (.int s)]) pn_X7 rfl rfl rfl (fun pr en s0 mi below meth c' K _ => ?_)
  refine g_aload_n K dX7_isNear_0 rfl ?_
  refine g_iload_n K dX7_isNear_1 rfl ?_
  refine g_iload_n K dX7_isNear_2 rfl ?_
  refine g_callVpv K (c_X7_reckon (z := z) (k := k) (N := N) hz hk hq hse hs9) mw_X7_reckon ml_X7_147 dX7_isNear_3 (by rfl) rfl rfl (by decide) (by simp [Value.category]) ⟨by decide, by decide⟩ ⟨by decide, by decide⟩ (fun S3 h3 => ?_)
  have hz2 := Fr_mz h3.2 hz
  refine g_aload_n K dX7_isNear_6 rfl ?_
  refine g_iload_n K dX7_isNear_7 rfl ?_
  refine g_iload_n K dX7_isNear_8 rfl ?_
  refine g_callVi K (c_X7_reason (z := z) (k := k) (N := N) (bh := bhQ (qOf z k)) (L := lvQ z (qOf z k) s) (T := rT z (qOf z k) s) hz2 hk hq hse (fun a ha => (h3.1.1 a (by omega)).2) hs9 h3.1.2.2.1 h3.1.2.1) mw_X7_reason ml_X7_151 dX7_isNear_9 (by rfl) rfl rfl (by decide) (by simp [Value.category]) ⟨by decide, by decide⟩ ⟨by decide, by decide⟩ ?_
  refine g_nm (y := rsQ z (qOf z k) s) (by unfold rsQ; rw [hnq]) ?_
  refine g_if_ne (tgt := 42) K dX7_isNear_12 (by decide) (fun u12 => ?_) (fun u12 => ?_)
  · refine g_iconst K dX7_isNear_42 kc_0 ?_
    refine g_zret K dX7_isNear_43 (by first | exact Or.inl rfl | exact Or.inr rfl | assumption) ⟨_, rfl, ?_⟩
    refine ⟨?_, h3.2⟩
    unfold neQ
    first
      | rw [if_neg (fun q => u12 q.1)]
      | rw [if_pos ⟨u12, by grind⟩]
      | rw [if_neg (fun q => by grind)]
  · refine g_aload_n K dX7_isNear_15 rfl ?_
    refine g_geti K lk_X7_104 dX7_isNear_16 rfl (rfl : kd 181 = 7) (by decide) (by decide) (show S3 181 16 = lvQ z (qOf z k) s 2 from h3.1.2.2.1.2.1) ?_
    refine g_aload_n K dX7_isNear_19 rfl ?_
    refine g_iload_n K dX7_isNear_20 rfl ?_
    refine g_iconst K dX7_isNear_21 kc_5 ?_
    refine g_callVi K (c_X7_sum (z := z) (k := k) (N := N) (w := 5) hz2 hk hq (by decide)) mw_X7_sum ml_X7_182 dX7_isNear_22 (by rfl) rfl rfl (by decide) (by simp [Value.category]) ⟨by decide, by decide⟩ ⟨by decide, by decide⟩ ?_
    refine g_nm (y := whQ (qOf z k)) (by unfold whQ; rw [hnq]; rfl) ?_
    refine g_isub K dX7_isNear_25 ?_
    refine g_callSi K c_X7_size mw_X7_size ml_X7_129 dX7_isNear_26 (by rfl) rfl (by simp [Value.category]) ⟨by decide, by decide⟩ ⟨by decide, by decide⟩ ?_
    refine g_aload_n K dX7_isNear_29 rfl ?_
    refine g_getr (j := 182) K lk_X7_7 dX7_isNear_30 rfl (by decide) (rfl : kd 181 = 7) (by decide) (by decide) rfl (rfl : rs 181 0 = 182) ?_
    refine g_iconst K dX7_isNear_33 kc_4 ?_
    refine g_iald (j := 4) K dX7_isNear_34 rfl ln_182 (by decide) (rfl : kd 182 = 8) (by decide) (hz2 4 (by decide)) ?_
    refine g_icmp_gt (tgt := 42) K dX7_isNear_35 (by decide) (fun u35 => ?_) (fun u35 => ?_)
    · refine g_iconst K dX7_isNear_42 kc_0 ?_
      refine g_zret K dX7_isNear_43 (by first | exact Or.inl rfl | exact Or.inr rfl | assumption) ⟨_, rfl, ?_⟩
      refine ⟨?_, h3.2⟩
      unfold neQ
      first
        | rw [if_neg (fun q => u12 q.1)]
        | rw [if_pos ⟨u12, by grind⟩]
        | rw [if_neg (fun q => by grind)]
    · refine g_iconst K dX7_isNear_38 kc_1 ?_
      refine g_goto (tgt := 43) K dX7_isNear_39 (by decide) ?_
      refine g_zret K dX7_isNear_43 (by first | exact Or.inl rfl | exact Or.inr rfl | assumption) ⟨_, rfl, ?_⟩
      refine ⟨?_, h3.2⟩
      unfold neQ
      first
        | rw [if_neg (fun q => u12 q.1)]
        | rw [if_pos ⟨u12, by grind⟩]
        | rw [if_neg (fun q => by grind)]
