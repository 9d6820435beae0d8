theorem lay_comm {z : Nat → Int32} {k i j : Nat} {v w : Int32} (h : i ≠ j) : lay (lay z k i v) k j w = lay (lay z k j w) k i v := by
  funext a
  unfold lay upd
  by_cases e : a = 9 + 20 * k + j
  · rw [if_pos e, if_neg (by omega), if_pos e]
  · rw [if_neg e]
    by_cases e2 : a = 9 + 20 * k + i
    · rw [if_pos e2, if_pos e2]
    · rw [if_neg e2, if_neg e2, if_neg e]
theorem lay_lo {z : Nat → Int32} {k i j : Nat} {v : Int32} (h : j < 9) : lay z k i v j = z j := if_neg (by omega)
theorem up_in {w lo hi v : Nat} (h1 : lo ≤ v) (h2 : v ≤ hi) (hh : hi < 1000) {z : Nat → Int32} (hz : SetOk z) (hlo : leastS w = nI lo) (hhi : mostS w = nI hi) : SetOk (upd z w (nI v)) := by
  intro i hi6
  unfold upd
  by_cases e : i = w
  · subst e
    rw [if_pos rfl, hlo, hhi]
    exact ⟨nI_le h1 (by omega), nI_le h2 (by omega)⟩
  · rw [if_neg e]
    exact hz i hi6
set_option maxHeartbeats 4000000 in
set_option maxRecDepth 100000 in
theorem c_X6_run {l : Launch} {b : Nat} {D : va_G} {cA : Nat → ClassId} {ad : Nat → Nat} {S : ST} {A : AS} {n : Nat} {x y : Int32} (hA : CRel S A n) : MT l b D cA NN ad zT yX6_run cX6_run 5 (some .int) 5 [.ref (ad 0), .int x, .int y] S (RI (CPost (o_run A x y) S)) := by
  obtain ⟨hb, hH⟩ := hA.2.1
  have n6 := hA.1.n6
  have hn := hA.1.n
  have hz6 : aZ A 6 = nI n := hA.1.1.2.1
  obtain ⟨hR, hRf⟩ := rem_rel hH hA
  refine MT.intro (j := 2) (ls := [some (.ref (ad 0)), some (.int x), some (.int y), none, none]) pn_X6 rfl rfl rfl (fun pr en s0 mi below meth c' K _ => ?_)
  refine g_aload_n K dX6_run_0 rfl ?_
  refine g_getr (j := 1) K lk_X6_10 dX6_run_1 rfl (by decide) (rfl : kd 0 = 6) (by decide) (by decide) rfl (rfl : rs 0 0 = 1) ?_
  refine g_iload_n K dX6_run_4 rfl ?_
  refine g_callV K (c_X5_findCart st_1 hn n6) mw_X5_findCart ml_X6_64 dX6_run_5 rfl (by decide) ⟨_, rfl, rfl⟩ (by decide) (by rfl) (by simp [Value.category]) ⟨by decide, by decide⟩ ⟨by decide, by decide⟩ (fun v5 S5 h5 => ?_)
  obtain ⟨hSe, hf⟩ := h5
  rw [hSe]
  clear hSe
  rcases hf with ⟨i, hi, hx, rfl⟩ | ⟨hx, rfl⟩
  · obtain ⟨N, hq, hr⟩ := hA.1.cart hi
    have hN5 := hq.2.2.1
    have hN1 := hq.2.1
    have hk : cK x = i := by rw [hx]; exact cK_nI (by omega)
    have hqA : qA A x = qOf (aZ A) i := by unfold qA; rw [hk]
    have hcx : 0 ≤ x ∧ x < aZ A 6 := by rw [hx, hz6]; exact ⟨nI_pos' (by omega), nI_lt hi (by omega)⟩
    have hnq : nQ (qOf (aZ A) i) = N := nQ_eq hq
    have hq0 : qOf (aZ A) i 0 = nI N := hq.1
    refine g_astore_n (ls2 := [_, _, _, some (.ref _), _]) K dX6_run_8 (by decide) rfl ?_
    refine g_aload_n K dX6_run_9 rfl ?_
    refine g_ifnonnull (tgt := 15) K dX6_run_10 (by decide) ?_
    refine g_iload_n K dX6_run_15 rfl ?_
    refine g_callSi K c_X6_isSpeed mw_X6_isSpeed ml_X6_104 dX6_run_16 (by rfl) rfl (by simp [Value.category]) ⟨by decide, by decide⟩ ⟨by decide, by decide⟩ ?_
    refine g_if_ne (tgt := 25) K dX6_run_19 (by decide) (fun u19 => ?_) (fun u19 => ?_)
    · refine g_aload_n K dX6_run_25 rfl ?_
      refine g_getr (j := 55) K lk_X6_22 dX6_run_26 rfl (by decide) (rfl : kd 0 = 6) (by decide) (by decide) rfl (rfl : rs 0 2 = 55) ?_
      refine g_aload_n K dX6_run_29 rfl ?_
      refine g_getr (j := 1) K lk_X6_10 dX6_run_30 rfl (by decide) (rfl : kd 0 = 6) (by decide) (by decide) rfl (rfl : rs 0 0 = 1) ?_
      refine g_callVv K (c_X2_remember hH.1 hH.2.2.1 hH.2.2.2.1 (hA.2.2.2.1.fits (Or.inl rfl))) mw_X2_remember ml_X6_56 dX6_run_33 (by rfl) rfl rfl (by decide) (by simp [Value.category]) ⟨by decide, by decide⟩ ⟨by decide, by decide⟩ ?_
      have hs : 1 ≤ y ∧ y ≤ 9 := by grind
      have hr2 := hR.1.2.2.2 i hi N hq
      refine g_aload_n K dX6_run_36 rfl ?_
      refine g_getr (j := 169) K lk_X6_36 dX6_run_37 rfl (by decide) (rfl : kd 0 = 6) (by decide) (by decide) rfl (rfl : rs 0 4 = 169) ?_
      refine g_aload_n K dX6_run_40 rfl ?_
      refine g_iload_n K dX6_run_41 rfl ?_
      refine g_aload_n K dX6_run_42 rfl ?_
      refine g_getr (j := 1) K lk_X6_10 dX6_run_43 rfl (by decide) (rfl : kd 0 = 6) (by decide) (by decide) rfl (rfl : rs 0 0 = 1) ?_
      refine g_getr (j := 3) K lk_X6_107 dX6_run_46 rfl (by decide) (rfl : kd 1 = 5) (by decide) (by decide) rfl (rfl : rs 1 1 = 3) ?_
      refine g_callVpv K (m_follow (se := aZ A) (st_1.cart (i := i) (by omega)) (by omega) sett_3 hq hr2 (fun b hb => hR.1.2.1 b hb) hA.1.1.1 hs) mw_X4_follow ml_X6_110 dX6_run_49 (by rfl) rfl rfl (by decide) (by simp [Value.category]) ⟨by decide, by decide⟩ ⟨by decide, by decide⟩ (fun S49 h49 => ?_)
      have hK0 : CRel S49 (recA A) n := hR.keep (fun b hb => h49.2.2 b (by omega))
      have hfr : ∀ k, 181 ≤ k → S49 k = S k := fun k hk => by rw [h49.2.2 k (by omega), hRf k (by omega)]
      refine g_aload_n K dX6_run_52 rfl ?_
      refine g_getr (j := 169) K lk_X6_36 dX6_run_53 rfl (by decide) (rfl : kd 0 = 6) (by decide) (by decide) rfl (rfl : rs 0 4 = 169) ?_
      refine g_callVi K (m_reason h49.2.1 h49.1.2) mw_X4_reason ml_X6_114 dX6_run_56 (by rfl) rfl rfl (by decide) (by simp [Value.category]) ⟨by decide, by decide⟩ ⟨by decide, by decide⟩ ?_
      refine g_istore (ls2 := [_, _, _, _, some (.int _)]) K dX6_run_59 (by decide) rfl ?_
      refine g_aload_n K dX6_run_61 rfl ?_
      refine g_iload_n K dX6_run_62 rfl ?_
      refine g_puti K lk_X6_117 lq_X0_6 dX6_run_63 (put_i _) rfl (st_1.cart (i := i) (by omega)).k0 (st_1.cart (i := i) (by omega)).n0 (by decide) ?_
      refine g_aload_n K dX6_run_66 rfl ?_
      refine g_aload_n K dX6_run_67 rfl ?_
      refine g_getr (j := 169) K lk_X6_36 dX6_run_68 rfl (by decide) (rfl : kd 0 = 6) (by decide) (by decide) rfl (rfl : rs 0 4 = 169) ?_
      refine g_callVi K (m_told (h49.2.1.to (fun k hk => stw_n (by omega))) ((stw_n (by omega)).trans h49.1.2)) mw_X4_toldWeight ml_X6_120 dX6_run_71 (by rfl) rfl rfl (by decide) (by simp [Value.category]) ⟨by decide, by decide⟩ ⟨by decide, by decide⟩ ?_
      refine g_puti K lk_X6_123 lq_X0_5 dX6_run_74 (put_i _) rfl (st_1.cart (i := i) (by omega)).k0 (st_1.cart (i := i) (by omega)).n0 (by decide) ?_
      refine g_aload_n K dX6_run_77 rfl ?_
      refine g_aload_n K dX6_run_78 rfl ?_
      refine g_getr (j := 169) K lk_X6_36 dX6_run_79 rfl (by decide) (rfl : kd 0 = 6) (by decide) (by decide) rfl (rfl : rs 0 4 = 169) ?_
      refine g_callVi K (m_times (h49.2.1.to (fun k hk => (stw_n (by omega)).trans (stw_n (by omega))))) mw_X4_wireTimes ml_X6_126 dX6_run_82 (by rfl) rfl rfl (by decide) (by simp [Value.category]) ⟨by decide, by decide⟩ ⟨by decide, by decide⟩ ?_
      refine g_puti K lk_X6_129 lq_X0_7 dX6_run_85 (put_i _) rfl (st_1.cart (i := i) (by omega)).k0 (st_1.cart (i := i) (by omega)).n0 (by decide) ?_
      have hK1 := num_rel (i0 := 3) (v := wtQ (qOf (aZ A) i) y) (num_rel (i0 := 1) (v := twQ (aZ A) (qOf (aZ A) i) y) (num_rel (i0 := 2) (v := y) hK0 hi (by decide)) hi (by decide)) hi (by decide)
      have hK2 := cnt_rel (i0 := 1) (v := aZ A 7 + 1) hK1 (Or.inl rfl)
      have h13 : stw (stw (stw S49 (1 + 3 + 4 * i) 6 y) (1 + 3 + 4 * i) 5 (twQ (aZ A) (qOf (aZ A) i) y)) (1 + 3 + 4 * i) 7 (wtQ (qOf (aZ A) i) y) 1 3 = aZ A 7 := by
        rw [stw_n (by omega), stw_n (by omega), stw_n (by omega)]
        exact hK0.1.2.2.1 1 (by decide)
      have h14 : stw (stw (stw S49 (1 + 3 + 4 * i) 6 y) (1 + 3 + 4 * i) 5 (twQ (aZ A) (qOf (aZ A) i) y)) (1 + 3 + 4 * i) 7 (wtQ (qOf (aZ A) i) y) 1 4 = aZ A 8 := by
        rw [stw_n (by omega), stw_n (by omega), stw_n (by omega)]
        exact hK0.1.2.2.1 2 (by decide)
      have hz2 : setZ (setZ (setZ (setZ (recA A) (lay (aZ (recA A)) i (1 + 2) y)) (lay (aZ (setZ (recA A) (lay (aZ (recA A)) i (1 + 2) y))) i (1 + 1) (twQ (aZ A) (qOf (aZ A) i) y))) (lay (aZ (setZ (setZ (recA A) (lay (aZ (recA A)) i (1 + 2) y)) (lay (aZ (setZ (recA A) (lay (aZ (recA A)) i (1 + 2) y))) i (1 + 1) (twQ (aZ A) (qOf (aZ A) i) y)))) i (1 + 3) (wtQ (qOf (aZ A) i) y))) (upd (aZ (setZ (setZ (setZ (recA A) (lay (aZ (recA A)) i (1 + 2) y)) (lay (aZ (setZ (recA A) (lay (aZ (recA A)) i (1 + 2) y))) i (1 + 1) (twQ (aZ A) (qOf (aZ A) i) y))) (lay (aZ (setZ (setZ (recA A) (lay (aZ (recA A)) i (1 + 2) y)) (lay (aZ (setZ (recA A) (lay (aZ (recA A)) i (1 + 2) y))) i (1 + 1) (twQ (aZ A) (qOf (aZ A) i) y)))) i (1 + 3) (wtQ (qOf (aZ A) i) y)))) (6 + 1) (aZ A 7 + 1)) = setZ (recA A) (runZ2 (aZ A) i y) := by
        show setZ (recA A) (upd (lay (lay (lay (aZ A) i 3 y) i 2 (twQ (aZ A) (qOf (aZ A) i) y)) i 4 (wtQ (qOf (aZ A) i) y)) 7 (aZ A 7 + 1)) = setZ (recA A) (runZ2 (aZ A) i y)
        unfold runZ2 runZ
        rw [lay_comm (z := aZ A) (i := 3) (j := 2) (by decide)]
      rw [hz2] at hK2
      refine g_aload_n K dX6_run_88 rfl ?_
      refine g_getr (j := 1) K lk_X6_10 dX6_run_89 rfl (by decide) (rfl : kd 0 = 6) (by decide) (by decide) rfl (rfl : rs 0 0 = 1) ?_
      refine g_dup K dX6_run_92 rfl ?_
      refine g_geti K lk_X6_132 dX6_run_93 rfl (rfl : kd 1 = 5) (by decide) (by decide) h13 ?_
      refine g_iconst K dX6_run_96 kc_1 ?_
      refine g_iadd K dX6_run_97 ?_
      refine g_puti K lk_X6_132 lq_X5_3 dX6_run_98 (put_i _) rfl (rfl : kd 1 = 5) (by decide) (by decide) ?_
      refine g_iload K dX6_run_101 rfl ?_
      refine g_if_eq (tgt := 112) K dX6_run_103 (by decide) (fun u103 => ?_) (fun u103 => ?_)
      · refine g_aload_n K dX6_run_112 rfl ?_
        refine g_getr (j := 1) K lk_X6_10 dX6_run_113 rfl (by decide) (rfl : kd 0 = 6) (by decide) (by decide) rfl (rfl : rs 0 0 = 1) ?_
        refine g_dup K dX6_run_116 rfl ?_
        refine g_geti K lk_X6_135 dX6_run_117 rfl (rfl : kd 1 = 5) (by decide) (by decide) (show stw (stw (stw (stw S49 (1 + 3 + 4 * i) 6 y) (1 + 3 + 4 * i) 5 (twQ (aZ A) (qOf (aZ A) i) y)) (1 + 3 + 4 * i) 7 (wtQ (qOf (aZ A) i) y)) 1 3 (aZ A 7 + 1) 1 4 = aZ A 8 by rw [stw_app, if_neg (by decide)]; exact h14) ?_
        refine g_iconst K dX6_run_120 kc_1 ?_
        refine g_iadd K dX6_run_121 ?_
        refine g_puti K lk_X6_135 lq_X5_4 dX6_run_122 (put_i _) rfl (rfl : kd 1 = 5) (by decide) (by decide) ?_
        refine g_aload_n K dX6_run_125 rfl ?_
        refine g_geti K lk_X6_123 dX6_run_126 rfl (st_1.cart (i := i) (by omega)).k0 (st_1.cart (i := i) (by omega)).n0 (by decide) (show stw (stw (stw (stw (stw S49 (1 + 3 + 4 * i) 6 y) (1 + 3 + 4 * i) 5 (twQ (aZ A) (qOf (aZ A) i) y)) (1 + 3 + 4 * i) 7 (wtQ (qOf (aZ A) i) y)) 1 3 (aZ A 7 + 1)) 1 4 (aZ A 8 + 1) (1 + 3 + 4 * i) 5 = twQ (aZ A) (qOf (aZ A) i) y by rw [stw_n (by omega), stw_n (by omega), stw_app, if_neg (by omega), stw_app, if_pos ⟨rfl, rfl⟩]) ?_
        refine g_iret K dX6_run_129 ⟨_, rfl, ?_⟩
        have hK3 := cnt_rel (i0 := 2) (v := aZ A 8 + 1) hK2 (Or.inr rfl)
        refine cp_ok ?_ hK3 (fun k hk => by rw [stw_n (by omega), stw_n (by omega), stw_n (by omega), stw_n (by omega), stw_n (by omega)]; exact hfr k hk)
        unfold o_run runZ3
        rw [if_pos hcx, if_pos hs, hqA, hk, if_pos u103, if_pos u103]
        unfold twQ twF
        rw [if_pos u103]
        rfl
      · refine g_bipush K dX6_run_106 kb_m10 ?_
        refine g_iload K dX6_run_108 rfl ?_
        refine g_isub K dX6_run_110 ?_
        refine g_iret K dX6_run_111 ⟨_, rfl, ?_⟩
        refine cp_ok ?_ hK2 (fun k hk => by rw [stw_n (by omega), stw_n (by omega), stw_n (by omega), stw_n (by omega)]; exact hfr k hk)
        unfold o_run runZ3
        rw [if_pos hcx, if_pos hs, hqA, hk, if_neg u103, if_neg u103]
    · refine g_bipush K dX6_run_22 kb_m2 ?_
      refine g_iret K dX6_run_24 ⟨_, rfl, ?_⟩
      exact cp_err (by unfold o_run; rw [if_pos hcx, if_neg (by grind)]) hA
  · have hcx : ¬ (0 ≤ x ∧ x < aZ A 6) := by rw [hz6]; exact hx
    refine g_astore_nN (ls2 := [_, _, _, some .null, _]) K dX6_run_8 (by decide) rfl ?_
    refine g_aload_nN K dX6_run_9 rfl ?_
    refine g_ifnonnullN K dX6_run_10 ?_
    refine g_iconst K dX6_run_13 kc_m1 ?_
    refine g_iret K dX6_run_14 ⟨_, rfl, ?_⟩
    exact cp_err (by unfold o_run; rw [if_neg hcx]) hA
set_option maxHeartbeats 4000000 in
set_option maxRecDepth 100000 in
theorem c_X6_runOf {l : Launch} {b : Nat} {D : va_G} {cA : Nat → ClassId} {ad : Nat → Nat} {S : ST} {A : AS} {n : Nat} {x y v : Int32} (hA : CRel S A n) : MT l b D cA NN ad zT yX6_runOf cX6_runOf 5 (some .int) 5 [.ref (ad 0), .int x, .int y, .int v] S (RI (CPost (o_runOf A x y v, A) S)) := by
  obtain ⟨hb, hH⟩ := hA.2.1
  have n6 := hA.1.n6
  have hn := hA.1.n
  have hz6 : aZ A 6 = nI n := hA.1.1.2.1
  obtain ⟨hR, hRf⟩ := rem_rel hH hA
  refine MT.intro (j := 1) (ls := [some (.ref (ad 0)), some (.int x), some (.int y), some (.int v), none]) pn_X6 rfl rfl rfl (fun pr en s0 mi below meth c' K _ => ?_)
  refine g_aload_n K dX6_runOf_0 rfl ?_
  refine g_getr (j := 1) K lk_X6_10 dX6_runOf_1 rfl (by decide) (rfl : kd 0 = 6) (by decide) (by decide) rfl (rfl : rs 0 0 = 1) ?_
  refine g_iload_n K dX6_runOf_4 rfl ?_
  refine g_callV K (c_X5_findCart st_1 hn n6) mw_X5_findCart ml_X6_64 dX6_runOf_5 rfl (by decide) ⟨_, rfl, rfl⟩ (by decide) (by rfl) (by simp [Value.category]) ⟨by decide, by decide⟩ ⟨by decide, by decide⟩ (fun v5 S5 h5 => ?_)
  obtain ⟨hSe, hf⟩ := h5
  rw [hSe]
  clear hSe
  rcases hf with ⟨i, hi, hx, rfl⟩ | ⟨hx, rfl⟩
  · obtain ⟨N, hq, hr⟩ := hA.1.cart hi
    have hN5 := hq.2.2.1
    have hN1 := hq.2.1
    have hk : cK x = i := by rw [hx]; exact cK_nI (by omega)
    have hqA : qA A x = qOf (aZ A) i := by unfold qA; rw [hk]
    have hcx : 0 ≤ x ∧ x < aZ A 6 := by rw [hx, hz6]; exact ⟨nI_pos' (by omega), nI_lt hi (by omega)⟩
    have hnq : nQ (qOf (aZ A) i) = N := nQ_eq hq
    have hq0 : qOf (aZ A) i 0 = nI N := hq.1
    refine g_astore (ls2 := [_, _, _, _, some (.ref _)]) K dX6_runOf_8 (by decide) rfl ?_
    refine g_aload K dX6_runOf_10 rfl ?_
    refine g_ifnonnull (tgt := 17) K dX6_runOf_12 (by decide) ?_
    refine g_iload_n K dX6_runOf_17 rfl ?_
    refine g_callSi K c_X6_isSpeed mw_X6_isSpeed ml_X6_104 dX6_runOf_18 (by rfl) rfl (by simp [Value.category]) ⟨by decide, by decide⟩ ⟨by decide, by decide⟩ ?_
    refine g_if_ne (tgt := 27) K dX6_runOf_21 (by decide) (fun u21 => ?_) (fun u21 => ?_)
    · have hs : 1 ≤ y ∧ y ≤ 9 := by grind
      refine g_aload_n K dX6_runOf_27 rfl ?_
      refine g_getr (j := 169) K lk_X6_36 dX6_runOf_28 rfl (by decide) (rfl : kd 0 = 6) (by decide) (by decide) rfl (rfl : rs 0 4 = 169) ?_
      refine g_aload K dX6_runOf_31 rfl ?_
      refine g_iload_n K dX6_runOf_33 rfl ?_
      refine g_aload_n K dX6_runOf_34 rfl ?_
      refine g_getr (j := 1) K lk_X6_10 dX6_runOf_35 rfl (by decide) (rfl : kd 0 = 6) (by decide) (by decide) rfl (rfl : rs 0 0 = 1) ?_
      refine g_getr (j := 3) K lk_X6_107 dX6_runOf_38 rfl (by decide) (rfl : kd 1 = 5) (by decide) (by decide) rfl (rfl : rs 1 1 = 3) ?_
      refine g_callVpv K (m_follow (st_1.cart (i := i) (by omega)) (by omega) sett_3 hq hr (fun b hb => hA.1.2.1 b hb) hA.1.1.1 hs) mw_X4_follow ml_X6_110 dX6_runOf_41 (by rfl) rfl rfl (by decide) (by simp [Value.category]) ⟨by decide, by decide⟩ ⟨by decide, by decide⟩ (fun S41 h41 => ?_)
      refine g_iload_n K dX6_runOf_44 rfl ?_
      by_cases hsw : (v : Int32).toInt < 0 ∨ 8 < (v : Int32).toInt
      · refine g_tout (tgt := 177) K dX6_runOf_45 hsw (by decide) ?_
        have hov : o_runOf A x y v = -2 := by
          unfold o_runOf
          rw [if_pos hcx, if_pos hs, if_neg (swo hsw (by decide) (by decide)), if_neg (swo hsw (by decide) (by decide)), if_neg (swo hsw (by decide) (by decide)), if_neg (swo hsw (by decide) (by decide)), if_neg (swo hsw (by decide) (by decide)), if_neg (swo hsw (by decide) (by decide)), if_neg (swo hsw (by decide) (by decide)), if_neg (swo hsw (by decide) (by decide)), if_neg (swo hsw (by decide) (by decide))]
        refine g_bipush K dX6_runOf_177 kb_m2 ?_
        refine g_iret K dX6_runOf_179 ⟨_, rfl, ?_⟩
        exact cp_ok (A := A) (by rw [hov]) (hA.keep (S' := S41) (fun b hb => h41.2.2 b (by omega))) (fun b hb => h41.2.2 b (by omega))
      · have hsw2 : v = 0 ∨ v = 1 ∨ v = 2 ∨ v = 3 ∨ v = 4 ∨ v = 5 ∨ v = 6 ∨ v = 7 ∨ v = 8 := by
          obtain ⟨jsw, hjs, ejs⟩ := tsw (n := 8) (by decide) hsw
          rcases (show jsw = 0 ∨ jsw = 1 ∨ jsw = 2 ∨ jsw = 3 ∨ jsw = 4 ∨ jsw = 5 ∨ jsw = 6 ∨ jsw = 7 ∨ jsw = 8 by omega) with rfl | rfl | rfl | rfl | rfl | rfl | rfl | rfl | rfl <;> (rw [ejs]; decide)
        rcases hsw2 with hsw2 | hsw2 | hsw2 | hsw2 | hsw2 | hsw2 | hsw2 | hsw2 | hsw2
        · refine g_tin (off := 51) (tgt := 96) K dX6_runOf_45 (by rw [hsw2]; decide) (by rw [hsw2]; decide) (by rw [hsw2]; rfl) (by decide) ?_
          have hov : o_runOf A x y v = twQ (aZ A) (qOf (aZ A) i) y := by
            unfold o_runOf
            rw [if_pos hcx, if_pos hs, hqA, hsw2]
            rfl
          refine g_aload_n K dX6_runOf_96 rfl ?_
          refine g_getr (j := 169) K lk_X6_36 dX6_runOf_97 rfl (by decide) (rfl : kd 0 = 6) (by decide) (by decide) rfl (rfl : rs 0 4 = 169) ?_
          refine g_callVi K (m_told h41.2.1 h41.1.2) mw_X4_toldWeight ml_X6_120 dX6_runOf_100 (by rfl) rfl rfl (by decide) (by simp [Value.category]) ⟨by decide, by decide⟩ ⟨by decide, by decide⟩ ?_
          refine g_iret K dX6_runOf_103 ⟨_, rfl, ?_⟩
          exact cp_ok (A := A) (by rw [hov]) (hA.keep (S' := S41) (fun b hb => h41.2.2 b (by omega))) (fun b hb => h41.2.2 b (by omega))
        · refine g_tin (off := 59) (tgt := 104) K dX6_runOf_45 (by rw [hsw2]; decide) (by rw [hsw2]; decide) (by rw [hsw2]; rfl) (by decide) ?_
          have hov : o_runOf A x y v = rsQ (aZ A) (qOf (aZ A) i) y := by
            unfold o_runOf
            rw [if_pos hcx, if_pos hs, hqA, hsw2]
            rfl
          refine g_aload_n K dX6_runOf_104 rfl ?_
          refine g_getr (j := 169) K lk_X6_36 dX6_runOf_105 rfl (by decide) (rfl : kd 0 = 6) (by decide) (by decide) rfl (rfl : rs 0 4 = 169) ?_
          refine g_callVi K (m_reason h41.2.1 h41.1.2) mw_X4_reason ml_X6_114 dX6_runOf_108 (by rfl) rfl rfl (by decide) (by simp [Value.category]) ⟨by decide, by decide⟩ ⟨by decide, by decide⟩ ?_
          refine g_iret K dX6_runOf_111 ⟨_, rfl, ?_⟩
          exact cp_ok (A := A) (by rw [hov]) (hA.keep (S' := S41) (fun b hb => h41.2.2 b (by omega))) (fun b hb => h41.2.2 b (by omega))
        · refine g_tin (off := 67) (tgt := 112) K dX6_runOf_45 (by rw [hsw2]; decide) (by rw [hsw2]; decide) (by rw [hsw2]; rfl) (by decide) ?_
          have hov : o_runOf A x y v = nI (nN (aZ A) (qOf (aZ A) i) y) := by
            unfold o_runOf
            rw [if_pos hcx, if_pos hs, hqA, hsw2]
            rfl
          refine g_aload_n K dX6_runOf_112 rfl ?_
          refine g_getr (j := 169) K lk_X6_36 dX6_runOf_113 rfl (by decide) (rfl : kd 0 = 6) (by decide) (by decide) rfl (rfl : rs 0 4 = 169) ?_
          refine g_callVi K (m_many hq hA.1.1.1 hs h41.2.1) mw_X4_readingCount ml_X6_182 dX6_runOf_116 (by rfl) rfl rfl (by decide) (by simp [Value.category]) ⟨by decide, by decide⟩ ⟨by decide, by decide⟩ ?_
          refine g_iret K dX6_runOf_119 ⟨_, rfl, ?_⟩
          exact cp_ok (A := A) (by rw [hov]) (hA.keep (S' := S41) (fun b hb => h41.2.2 b (by omega))) (fun b hb => h41.2.2 b (by omega))
        · refine g_tin (off := 75) (tgt := 120) K dX6_runOf_45 (by rw [hsw2]; decide) (by rw [hsw2]; decide) (by rw [hsw2]; rfl) (by decide) ?_
          have hov : o_runOf A x y v = lvQ (aZ A) (qOf (aZ A) i) y 0 := by
            unfold o_runOf
            rw [if_pos hcx, if_pos hs, hqA, hsw2]
            rfl
          refine g_aload_n K dX6_runOf_120 rfl ?_
          refine g_getr (j := 169) K lk_X6_36 dX6_runOf_121 rfl (by decide) (rfl : kd 0 = 6) (by decide) (by decide) rfl (rfl : rs 0 4 = 169) ?_
          refine g_getr (j := 175) K lk_X6_203 dX6_runOf_124 rfl (by decide) (rfl : kd 169 = 4) (by decide) (by decide) rfl (rfl : rs 169 5 = 175) ?_
          refine g_geti K lk_X6_207 dX6_runOf_127 rfl (rfl : kd 175 = 3) (by decide) (by decide) (congrFun h41.1.2 0) ?_
          refine g_iret K dX6_runOf_130 ⟨_, rfl, ?_⟩
          exact cp_ok (A := A) (by rw [hov]) (hA.keep (S' := S41) (fun b hb => h41.2.2 b (by omega))) (fun b hb => h41.2.2 b (by omega))
        · refine g_tin (off := 86) (tgt := 131) K dX6_runOf_45 (by rw [hsw2]; decide) (by rw [hsw2]; decide) (by rw [hsw2]; rfl) (by decide) ?_
          have hov : o_runOf A x y v = lvQ (aZ A) (qOf (aZ A) i) y 2 := by
            unfold o_runOf
            rw [if_pos hcx, if_pos hs, hqA, hsw2]
            rfl
          refine g_aload_n K dX6_runOf_131 rfl ?_
          refine g_getr (j := 169) K lk_X6_36 dX6_runOf_132 rfl (by decide) (rfl : kd 0 = 6) (by decide) (by decide) rfl (rfl : rs 0 4 = 169) ?_
          refine g_getr (j := 175) K lk_X6_203 dX6_runOf_135 rfl (by decide) (rfl : kd 169 = 4) (by decide) (by decide) rfl (rfl : rs 169 5 = 175) ?_
          refine g_geti K lk_X6_212 dX6_runOf_138 rfl (rfl : kd 175 = 3) (by decide) (by decide) (congrFun h41.1.2 2) ?_
          refine g_iret K dX6_runOf_141 ⟨_, rfl, ?_⟩
          exact cp_ok (A := A) (by rw [hov]) (hA.keep (S' := S41) (fun b hb => h41.2.2 b (by omega))) (fun b hb => h41.2.2 b (by omega))
        · refine g_tin (off := 97) (tgt := 142) K dX6_runOf_45 (by rw [hsw2]; decide) (by rw [hsw2]; decide) (by rw [hsw2]; rfl) (by decide) ?_
          have hov : o_runOf A x y v = quoF (aZ A 5) (quoUF (aZ A 5) y) := by
            unfold o_runOf
            rw [if_pos hcx, if_pos hs, hqA, hsw2]
            rfl
          refine g_aload_n K dX6_runOf_142 rfl ?_
          refine g_getr (j := 169) K lk_X6_36 dX6_runOf_143 rfl (by decide) (rfl : kd 0 = 6) (by decide) (by decide) rfl (rfl : rs 0 4 = 169) ?_
          refine g_callVi K (m_speed h41.2.1) mw_X4_wireSpeed ml_X6_215 dX6_runOf_146 (by rfl) rfl rfl (by decide) (by simp [Value.category]) ⟨by decide, by decide⟩ ⟨by decide, by decide⟩ ?_
          refine g_iret K dX6_runOf_149 ⟨_, rfl, ?_⟩
          exact cp_ok (A := A) (by rw [hov]) (hA.keep (S' := S41) (fun b hb => h41.2.2 b (by omega))) (fun b hb => h41.2.2 b (by omega))
        · refine g_tin (off := 105) (tgt := 150) K dX6_runOf_45 (by rw [hsw2]; decide) (by rw [hsw2]; decide) (by rw [hsw2]; rfl) (by decide) ?_
          have hov : o_runOf A x y v = wtQ (qOf (aZ A) i) y := by
            unfold o_runOf
            rw [if_pos hcx, if_pos hs, hqA, hsw2]
            rfl
          refine g_aload_n K dX6_runOf_150 rfl ?_
          refine g_getr (j := 169) K lk_X6_36 dX6_runOf_151 rfl (by decide) (rfl : kd 0 = 6) (by decide) (by decide) rfl (rfl : rs 0 4 = 169) ?_
          refine g_callVi K (m_times h41.2.1) mw_X4_wireTimes ml_X6_126 dX6_runOf_154 (by rfl) rfl rfl (by decide) (by simp [Value.category]) ⟨by decide, by decide⟩ ⟨by decide, by decide⟩ ?_
          refine g_iret K dX6_runOf_157 ⟨_, rfl, ?_⟩
          exact cp_ok (A := A) (by rw [hov]) (hA.keep (S' := S41) (fun b hb => h41.2.2 b (by omega))) (fun b hb => h41.2.2 b (by omega))
        · refine g_tin (off := 113) (tgt := 158) K dX6_runOf_45 (by rw [hsw2]; decide) (by rw [hsw2]; decide) (by rw [hsw2]; rfl) (by decide) ?_
          have hov : o_runOf A x y v = waF (rsQ (aZ A) (qOf (aZ A) i) y) (lvQ (aZ A) (qOf (aZ A) i) y) (wtQ (qOf (aZ A) i) y) := by
            unfold o_runOf
            rw [if_pos hcx, if_pos hs, hqA, hsw2]
            rfl
          refine g_aload_n K dX6_runOf_158 rfl ?_
          refine g_getr (j := 169) K lk_X6_36 dX6_runOf_159 rfl (by decide) (rfl : kd 0 = 6) (by decide) (by decide) rfl (rfl : rs 0 4 = 169) ?_
          refine g_callVi K (m_byAxles h41.2.1 h41.1.2) mw_X4_weightByAxles ml_X6_218 dX6_runOf_162 (by rfl) rfl rfl (by decide) (by simp [Value.category]) ⟨by decide, by decide⟩ ⟨by decide, by decide⟩ ?_
          refine g_iret K dX6_runOf_165 ⟨_, rfl, ?_⟩
          exact cp_ok (A := A) (by rw [hov]) (hA.keep (S' := S41) (fun b hb => h41.2.2 b (by omega))) (fun b hb => h41.2.2 b (by omega))
        · refine g_tin (off := 121) (tgt := 166) K dX6_runOf_45 (by rw [hsw2]; decide) (by rw [hsw2]; decide) (by rw [hsw2]; rfl) (by decide) ?_
          have hov : o_runOf A x y v = lvQ (aZ A) (qOf (aZ A) i) y 3 := by
            unfold o_runOf
            rw [if_pos hcx, if_pos hs, hqA, hsw2]
            rfl
          refine g_aload_n K dX6_runOf_166 rfl ?_
          refine g_getr (j := 169) K lk_X6_36 dX6_runOf_167 rfl (by decide) (rfl : kd 0 = 6) (by decide) (by decide) rfl (rfl : rs 0 4 = 169) ?_
          refine g_getr (j := 175) K lk_X6_203 dX6_runOf_170 rfl (by decide) (rfl : kd 169 = 4) (by decide) (by decide) rfl (rfl : rs 169 5 = 175) ?_
          refine g_geti K lk_X6_221 dX6_runOf_173 rfl (rfl : kd 175 = 3) (by decide) (by decide) (congrFun h41.1.2 3) ?_
          refine g_iret K dX6_runOf_176 ⟨_, rfl, ?_⟩
          exact cp_ok (A := A) (by rw [hov]) (hA.keep (S' := S41) (fun b hb => h41.2.2 b (by omega))) (fun b hb => h41.2.2 b (by omega))
    · refine g_bipush K dX6_runOf_24 kb_m2 ?_
      refine g_iret K dX6_runOf_26 ⟨_, rfl, ?_⟩
      exact cp_err (by unfold o_runOf; rw [if_pos hcx, if_neg (by grind)]) hA
  · have hcx : ¬ (0 ≤ x ∧ x < aZ A 6) := by rw [hz6]; exact hx
    refine g_astoreN (ls2 := [_, _, _, _, some .null]) K dX6_runOf_8 (by decide) rfl ?_
    refine g_aloadN K dX6_runOf_10 rfl ?_
    refine g_ifnonnullN K dX6_runOf_12 ?_
    refine g_iconst K dX6_runOf_15 kc_m1 ?_
    refine g_iret K dX6_runOf_16 ⟨_, rfl, ?_⟩
    exact cp_err (by unfold o_runOf; rw [if_neg hcx]) hA
set_option maxHeartbeats 4000000 in
set_option maxRecDepth 100000 in
theorem c_X6_tick {l : Launch} {b : Nat} {D : va_G} {cA : Nat → ClassId} {ad : Nat → Nat} {S : ST} {A : AS} {n : Nat} {x y t v : Int32} (hA : CRel S A n) : MT l b D cA NN ad zT yX6_tick cX6_tick 6 (some .int) 4 [.ref (ad 0), .int x, .int y, .int t, .int v] S (RI (CPost (o_tick A x y t v, A) S)) := by
  obtain ⟨hb, hH⟩ := hA.2.1
  have n6 := hA.1.n6
  have hn := hA.1.n
  have hz6 : aZ A 6 = nI n := hA.1.1.2.1
  obtain ⟨hR, hRf⟩ := rem_rel hH hA
  refine MT.intro (j := 1) (ls := [some (.ref (ad 0)), some (.int x), some (.int y), some (.int t), some (.int v), none]) pn_X6 rfl rfl rfl (fun pr en s0 mi below meth c' K _ => ?_)
  refine g_aload_n K dX6_tick_0 rfl ?_
  refine g_getr (j := 1) K lk_X6_10 dX6_tick_1 rfl (by decide) (rfl : kd 0 = 6) (by decide) (by decide) rfl (rfl : rs 0 0 = 1) ?_
  refine g_iload_n K dX6_tick_4 rfl ?_
  refine g_callV K (c_X5_findCart st_1 hn n6) mw_X5_findCart ml_X6_64 dX6_tick_5 rfl (by decide) ⟨_, rfl, rfl⟩ (by decide) (by rfl) (by simp [Value.category]) ⟨by decide, by decide⟩ ⟨by decide, by decide⟩ (fun v5 S5 h5 => ?_)
  obtain ⟨hSe, hf⟩ := h5
  rw [hSe]
  clear hSe
  rcases hf with ⟨i, hi, hx, rfl⟩ | ⟨hx, rfl⟩
  · obtain ⟨N, hq, hr⟩ := hA.1.cart hi
    have hN5 := hq.2.2.1
    have hN1 := hq.2.1
    have hk : cK x = i := by rw [hx]; exact cK_nI (by omega)
    have hqA : qA A x = qOf (aZ A) i := by unfold qA; rw [hk]
    have hcx : 0 ≤ x ∧ x < aZ A 6 := by rw [hx, hz6]; exact ⟨nI_pos' (by omega), nI_lt hi (by omega)⟩
    have hnq : nQ (qOf (aZ A) i) = N := nQ_eq hq
    have hq0 : qOf (aZ A) i 0 = nI N := hq.1
    refine g_astore (ls2 := [_, _, _, _, _, some (.ref _)]) K dX6_tick_8 (by decide) rfl ?_
    refine g_aload K dX6_tick_10 rfl ?_
    refine g_ifnonnull (tgt := 17) K dX6_tick_12 (by decide) ?_
    refine g_iload_n K dX6_tick_17 rfl ?_
    refine g_callSi K c_X6_isSpeed mw_X6_isSpeed ml_X6_104 dX6_tick_18 (by rfl) rfl (by simp [Value.category]) ⟨by decide, by decide⟩ ⟨by decide, by decide⟩ ?_
    refine g_if_ne (tgt := 27) K dX6_tick_21 (by decide) (fun u21 => ?_) (fun u21 => ?_)
    · have hs : 1 ≤ y ∧ y ≤ 9 := by grind
      refine g_aload_n K dX6_tick_27 rfl ?_
      refine g_getr (j := 169) K lk_X6_36 dX6_tick_28 rfl (by decide) (rfl : kd 0 = 6) (by decide) (by decide) rfl (rfl : rs 0 4 = 169) ?_
      refine g_aload K dX6_tick_31 rfl ?_
      refine g_iload_n K dX6_tick_33 rfl ?_
      refine g_aload_n K dX6_tick_34 rfl ?_
      refine g_getr (j := 1) K lk_X6_10 dX6_tick_35 rfl (by decide) (rfl : kd 0 = 6) (by decide) (by decide) rfl (rfl : rs 0 0 = 1) ?_
      refine g_getr (j := 3) K lk_X6_107 dX6_tick_38 rfl (by decide) (rfl : kd 1 = 5) (by decide) (by decide) rfl (rfl : rs 1 1 = 3) ?_
      refine g_callVpv K (m_prepare (st_1.cart (i := i) (by omega)) (by omega) sett_3 hq hr (fun b hb => hA.1.2.1 b hb)) mw_X4_prepare ml_X6_179 dX6_tick_41 (by rfl) rfl rfl (by decide) (by simp [Value.category]) ⟨by decide, by decide⟩ ⟨by decide, by decide⟩ (fun S41 h41 => ?_)
      refine g_iload_n K dX6_tick_44 rfl ?_
      refine g_if_lt (tgt := 59) K dX6_tick_45 (by decide) (fun u45 => ?_) (fun u45 => ?_)
      · refine g_iconst K dX6_tick_59 kc_m1 ?_
        refine g_iret K dX6_tick_60 ⟨_, rfl, ?_⟩
        have hov : o_tick A x y t v = -1 := by
          unfold o_tick
          rw [if_pos hcx, if_pos hs, hqA, if_neg (by grind)]
        exact cp_ok (A := A) (by rw [hov]) (hA.keep (S' := S41) (fun b hb => h41.2 b (by omega))) (fun b hb => h41.2 b (by omega))
      · refine g_iload_n K dX6_tick_48 rfl ?_
        refine g_aload_n K dX6_tick_49 rfl ?_
        refine g_getr (j := 169) K lk_X6_36 dX6_tick_50 rfl (by decide) (rfl : kd 0 = 6) (by decide) (by decide) rfl (rfl : rs 0 4 = 169) ?_
        refine g_callVi K (m_many hq hA.1.1.1 hs h41.1) mw_X4_readingCount ml_X6_182 dX6_tick_53 (by rfl) rfl rfl (by decide) (by simp [Value.category]) ⟨by decide, by decide⟩ ⟨by decide, by decide⟩ ?_
        refine g_icmp_lt (tgt := 61) K dX6_tick_56 (by decide) (fun u56 => ?_) (fun u56 => ?_)
        · refine g_aload_n K dX6_tick_61 rfl ?_
          refine g_getr (j := 169) K lk_X6_36 dX6_tick_62 rfl (by decide) (rfl : kd 0 = 6) (by decide) (by decide) rfl (rfl : rs 0 4 = 169) ?_
          refine g_callVpv K (m_roll hq hA.1.1.1 hs h41.1) mw_X4_rollOver ml_X6_185 dX6_tick_65 (by rfl) rfl rfl (by decide) (by simp [Value.category]) ⟨by decide, by decide⟩ ⟨by decide, by decide⟩ (fun S65 h65 => ?_)
          obtain ⟨j, hj, htj⟩ : ∃ j, j < nN (aZ A) (qOf (aZ A) i) y ∧ t = nI j := by
            have h120 := nN_120 (se := aZ A) (q := qOf (aZ A) i) (s := y)
            rcases pk_ix t (n := nN (aZ A) (qOf (aZ A) i) y) (by omega) with q | q | q
            · exact absurd q u45
            · exact absurd u56 (by grind)
            · exact q
          have h120 := nN_120 (se := aZ A) (q := qOf (aZ A) i) (s := y)
          have hkt : cK t = j := by rw [htj]; exact cK_nI (by omega)
          have htt : 0 ≤ t ∧ t < nI (nN (aZ A) (qOf (aZ A) i) y) := ⟨by grind, u56⟩
          have hf65 : ∀ b, (b < 169 ∨ 180 < b) → S65 b = S b := fun b hb => by rw [h65.2.2 b (by omega), h41.2 b (by omega)]
          have hrow := h65.1.1 j hj
          refine g_iload K dX6_tick_68 rfl ?_
          by_cases hsw : (v : Int32).toInt < 0 ∨ 4 < (v : Int32).toInt
          · refine g_tout (tgt := 162) K dX6_tick_70 hsw (by decide) ?_
            have hov : o_tick A x y t v = -2 := by
              unfold o_tick
              rw [if_pos hcx, if_pos hs, hqA, if_pos htt, if_neg (swo hsw (by decide) (by decide)), if_neg (swo hsw (by decide) (by decide)), if_neg (swo hsw (by decide) (by decide)), if_neg (swo hsw (by decide) (by decide)), if_neg (swo hsw (by decide) (by decide))]
            refine g_bipush K dX6_tick_162 kb_m2 ?_
            refine g_iret K dX6_tick_164 ⟨_, rfl, ?_⟩
            exact cp_ok (A := A) (by rw [hov]) (hA.keep (S' := S65) hf65) (fun b hb => hf65 b (by omega))
          · have hsw2 : v = 0 ∨ v = 1 ∨ v = 2 ∨ v = 3 ∨ v = 4 := by
              obtain ⟨jsw, hjs, ejs⟩ := tsw (n := 4) (by decide) hsw
              rcases (show jsw = 0 ∨ jsw = 1 ∨ jsw = 2 ∨ jsw = 3 ∨ jsw = 4 by omega) with rfl | rfl | rfl | rfl | rfl <;> (rw [ejs]; decide)
            rcases hsw2 with hsw2 | hsw2 | hsw2 | hsw2 | hsw2
            · refine g_tin (off := 34) (tgt := 104) K dX6_tick_70 (by rw [hsw2]; decide) (by rw [hsw2]; decide) (by rw [hsw2]; rfl) (by decide) ?_
              have hov : o_tick A x y t v = ldQ (aZ A) (qOf (aZ A) i) y j := by
                unfold o_tick
                rw [if_pos hcx, if_pos hs, hqA, if_pos htt, hkt, hsw2]
                rfl
              refine g_aload_n K dX6_tick_104 rfl ?_
              refine g_getr (j := 169) K lk_X6_36 dX6_tick_105 rfl (by decide) (rfl : kd 0 = 6) (by decide) (by decide) rfl (rfl : rs 0 4 = 169) ?_
              refine g_getr (j := 170) K lk_X6_188 dX6_tick_108 rfl (by decide) (rfl : kd 169 = 4) (by decide) (by decide) rfl (rfl : rs 169 0 = 170) ?_
              refine g_iload_n K dX6_tick_111 rfl ?_
              refine g_iald (j := j) K dX6_tick_112 htj ln_170 (by omega) (rfl : kd 170 = 8) (by decide) hrow.1 ?_
              refine g_iret K dX6_tick_113 ⟨_, rfl, ?_⟩
              exact cp_ok (A := A) (by rw [hov]) (hA.keep (S' := S65) hf65) (fun b hb => hf65 b (by omega))
            · refine g_tin (off := 44) (tgt := 114) K dX6_tick_70 (by rw [hsw2]; decide) (by rw [hsw2]; decide) (by rw [hsw2]; rfl) (by decide) ?_
              have hov : o_tick A x y t v = swQ (aZ A) (qOf (aZ A) i) y j := by
                unfold o_tick
                rw [if_pos hcx, if_pos hs, hqA, if_pos htt, hkt, hsw2]
                rfl
              refine g_aload_n K dX6_tick_114 rfl ?_
              refine g_getr (j := 169) K lk_X6_36 dX6_tick_115 rfl (by decide) (rfl : kd 0 = 6) (by decide) (by decide) rfl (rfl : rs 0 4 = 169) ?_
              refine g_getr (j := 171) K lk_X6_191 dX6_tick_118 rfl (by decide) (rfl : kd 169 = 4) (by decide) (by decide) rfl (rfl : rs 169 1 = 171) ?_
              refine g_iload_n K dX6_tick_121 rfl ?_
              refine g_iald (j := j) K dX6_tick_122 htj ln_171 (by omega) (rfl : kd 171 = 8) (by decide) hrow.2.1 ?_
              refine g_iret K dX6_tick_123 ⟨_, rfl, ?_⟩
              exact cp_ok (A := A) (by rw [hov]) (hA.keep (S' := S65) hf65) (fun b hb => hf65 b (by omega))
            · refine g_tin (off := 54) (tgt := 124) K dX6_tick_70 (by rw [hsw2]; decide) (by rw [hsw2]; decide) (by rw [hsw2]; rfl) (by decide) ?_
              have hov : o_tick A x y t v = rdQ (aZ A) (qOf (aZ A) i) y j := by
                unfold o_tick
                rw [if_pos hcx, if_pos hs, hqA, if_pos htt, hkt, hsw2]
                rfl
              refine g_aload_n K dX6_tick_124 rfl ?_
              refine g_getr (j := 169) K lk_X6_36 dX6_tick_125 rfl (by decide) (rfl : kd 0 = 6) (by decide) (by decide) rfl (rfl : rs 0 4 = 169) ?_
              refine g_getr (j := 172) K lk_X6_194 dX6_tick_128 rfl (by decide) (rfl : kd 169 = 4) (by decide) (by decide) rfl (rfl : rs 169 2 = 172) ?_
              refine g_iload_n K dX6_tick_131 rfl ?_
              refine g_iald (j := j) K dX6_tick_132 htj ln_172 (by omega) (rfl : kd 172 = 8) (by decide) hrow.2.2.1 ?_
              refine g_iret K dX6_tick_133 ⟨_, rfl, ?_⟩
              exact cp_ok (A := A) (by rw [hov]) (hA.keep (S' := S65) hf65) (fun b hb => hf65 b (by omega))
            · refine g_tin (off := 64) (tgt := 134) K dX6_tick_70 (by rw [hsw2]; decide) (by rw [hsw2]; decide) (by rw [hsw2]; rfl) (by decide) ?_
              have hov : o_tick A x y t v = stF (rdQ (aZ A) (qOf (aZ A) i) y) (wN (aZ A)) (aZ A 4) j := by
                unfold o_tick
                rw [if_pos hcx, if_pos hs, hqA, if_pos htt, hkt, hsw2]
                rfl
              refine g_aload_n K dX6_tick_134 rfl ?_
              refine g_getr (j := 169) K lk_X6_36 dX6_tick_135 rfl (by decide) (rfl : kd 0 = 6) (by decide) (by decide) rfl (rfl : rs 0 4 = 169) ?_
              refine g_getr (j := 173) K lk_X6_197 dX6_tick_138 rfl (by decide) (rfl : kd 169 = 4) (by decide) (by decide) rfl (rfl : rs 169 3 = 173) ?_
              refine g_iload_n K dX6_tick_141 rfl ?_
              refine g_zald (j := j) K dX6_tick_142 htj ln_173 (by omega) (rfl : kd 173 = 9) (by decide) hrow.2.2.2.1 ?_
              refine g_if_eq (tgt := 150) K dX6_tick_143 (by decide) (fun u143 => ?_) (fun u143 => ?_)
              · refine g_iconst K dX6_tick_150 kc_0 ?_
                refine g_iret K dX6_tick_151 ⟨_, rfl, ?_⟩
                refine cp_ok (A := A) ?_ (hA.keep (S' := S65) hf65) (fun b hb => hf65 b (by omega))
                rw [hov]
                have h01 := stF_01 (f := rdQ (aZ A) (qOf (aZ A) i) y) (w := wN (aZ A)) (bo := aZ A 4) (t := j)
                grind
              · refine g_iconst K dX6_tick_146 kc_1 ?_
                refine g_goto (tgt := 151) K dX6_tick_147 (by decide) ?_
                refine g_iret K dX6_tick_151 ⟨_, rfl, ?_⟩
                refine cp_ok (A := A) ?_ (hA.keep (S' := S65) hf65) (fun b hb => hf65 b (by omega))
                rw [hov]
                have h01 := stF_01 (f := rdQ (aZ A) (qOf (aZ A) i) y) (w := wN (aZ A)) (bo := aZ A 4) (t := j)
                grind
            · refine g_tin (off := 82) (tgt := 152) K dX6_tick_70 (by rw [hsw2]; decide) (by rw [hsw2]; decide) (by rw [hsw2]; rfl) (by decide) ?_
              have hov : o_tick A x y t v = lvR (rdQ (aZ A) (qOf (aZ A) i) y) (wN (aZ A)) (aZ A 4) (j + 1) 1 := by
                unfold o_tick
                rw [if_pos hcx, if_pos hs, hqA, if_pos htt, hkt, hsw2]
                rfl
              refine g_aload_n K dX6_tick_152 rfl ?_
              refine g_getr (j := 169) K lk_X6_36 dX6_tick_153 rfl (by decide) (rfl : kd 0 = 6) (by decide) (by decide) rfl (rfl : rs 0 4 = 169) ?_
              refine g_getr (j := 174) K lk_X6_200 dX6_tick_156 rfl (by decide) (rfl : kd 169 = 4) (by decide) (by decide) rfl (rfl : rs 169 4 = 174) ?_
              refine g_iload_n K dX6_tick_159 rfl ?_
              refine g_iald (j := j) K dX6_tick_160 htj ln_174 (by omega) (rfl : kd 174 = 8) (by decide) hrow.2.2.2.2 ?_
              refine g_iret K dX6_tick_161 ⟨_, rfl, ?_⟩
              exact cp_ok (A := A) (by rw [hov]) (hA.keep (S' := S65) hf65) (fun b hb => hf65 b (by omega))
        · refine g_iconst K dX6_tick_59 kc_m1 ?_
          refine g_iret K dX6_tick_60 ⟨_, rfl, ?_⟩
          have hov : o_tick A x y t v = -1 := by
            unfold o_tick
            rw [if_pos hcx, if_pos hs, hqA, if_neg (by grind)]
          exact cp_ok (A := A) (by rw [hov]) (hA.keep (S' := S41) (fun b hb => h41.2 b (by omega))) (fun b hb => h41.2 b (by omega))
    · refine g_bipush K dX6_tick_24 kb_m2 ?_
      refine g_iret K dX6_tick_26 ⟨_, rfl, ?_⟩
      exact cp_err (by unfold o_tick; rw [if_pos hcx, if_neg (by grind)]) hA
  · have hcx : ¬ (0 ≤ x ∧ x < aZ A 6) := by rw [hz6]; exact hx
    refine g_astoreN (ls2 := [_, _, _, _, _, some .null]) K dX6_tick_8 (by decide) rfl ?_
    refine g_aloadN K dX6_tick_10 rfl ?_
    refine g_ifnonnullN K dX6_tick_12 ?_
    refine g_iconst K dX6_tick_15 kc_m1 ?_
    refine g_iret K dX6_tick_16 ⟨_, rfl, ?_⟩
    exact cp_err (by unfold o_tick; rw [if_neg hcx]) hA
