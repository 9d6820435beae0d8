/-! A RUN OF THE MODEL -/
theorem rd_pos {ld sw v : Int32} {t : Nat} (hv : v = if t % 4 = 0 then sw else if t % 4 = 2 then -sw else 0) (h : 0 ≤ ld + v) : ld + v = rdF ld sw t := by
  unfold rdF
  rcases (show t % 4 = 0 ∨ t % 4 = 2 ∨ (¬ t % 4 = 0 ∧ ¬ t % 4 = 2) by omega) with q | q | ⟨q, q2⟩
  · rw [if_pos q] at hv
    rw [if_pos q, hv]
  · rw [if_neg (by omega), if_pos q] at hv
    rw [if_neg (by omega), if_pos q]
    subst hv
    grind
  · rw [if_neg q, if_neg q2] at hv
    rw [if_neg q, if_neg q2, hv]
    grind
theorem rd_neg {ld sw v : Int32} {t : Nat} (hv : v = if t % 4 = 0 then sw else if t % 4 = 2 then -sw else 0) (g1 : 0 ≤ ld) (g2 : 0 ≤ ld + sw) (h : ¬ 0 ≤ ld + v) : 0 = rdF ld sw t := by
  unfold rdF
  rcases (show t % 4 = 0 ∨ t % 4 = 2 ∨ (¬ t % 4 = 0 ∧ ¬ t % 4 = 2) by omega) with q | q | ⟨q, q2⟩
  · rw [if_pos q] at hv
    rw [hv] at h
    exact absurd g2 h
  · rw [if_neg (by omega), if_pos q] at hv
    rw [if_neg (by omega), if_pos q]
    subst hv
    grind
  · rw [if_neg q, if_neg q2] at hv
    rw [hv] at h
    exact absurd (by grind) h
def RunT (S : ST) (z q : Nat → Int32) (s : Int32) (n : Nat) : Prop := (∀ a, a < nQ q → S 186 a = brQ q a ∧ S 187 a = bhQ q a) ∧ S 181 14 = rT z q s ∧ LV S (lvR (rdQ z q s) (wN z) (z 4) n) ∧ ∀ j, j < n → S 188 j = ldQ z q s j ∧ S 189 j = swQ z q s j ∧ S 190 j = rdQ z q s j ∧ S 191 j = stF (rdQ z q s) (wN z) (z 4) j ∧ S 192 j = lvR (rdQ z q s) (wN z) (z 4) (j + 1) 1
def Fr (S S2 : ST) : Prop := (∀ k, k ≠ 181 → (k < 186 ∨ 192 < k) → S2 k = S k) ∧ ∀ j, (j < 14 ∨ 19 < j) → S2 181 j = S 181 j
theorem Fr_w {S S1 : ST} {k t : Nat} {v : Int32} (h : Fr S S1) (hk : 186 ≤ k ∧ k ≤ 192) : Fr S (stw S1 k t v) :=
  ⟨fun j h1 h2 => by rw [stw_n (by omega)]; exact h.1 j h1 h2, fun j hj => by rw [stw_n (by omega)]; exact h.2 j hj⟩
theorem Fr_f {S S1 : ST} {j : Nat} {v : Int32} (h : Fr S S1) (hj : 14 ≤ j ∧ j ≤ 19) : Fr S (stw S1 181 j v) :=
  ⟨fun k h1 h2 => by rw [stw_n h1]; exact h.1 k h1 h2, fun i hi => by rw [stw_app, if_neg (by omega)]; exact h.2 i hi⟩
theorem Fr_t {S S1 S2 : ST} (h : Fr S S1) (h1 : ∀ k, k ≠ 181 → k ≠ 192 → S2 k = S1 k) (h2 : ∀ j, (j < 15 ∨ 19 < j) → S2 181 j = S1 181 j) : Fr S S2 :=
  ⟨fun k a b => by rw [h1 k a (by omega)]; exact h.1 k a b, fun j hj => by rw [h2 j (by omega)]; exact h.2 j hj⟩
theorem Fr_mz {S S1 : ST} {z : Nat → Int32} (h : Fr S S1) (hz : MZ S z) : MZ S1 z := MZ_to hz (h.1 182 (by decide) (by decide))
theorem RT_w {S : ST} {z q : Nat → Int32} {s v : Int32} {k t : Nat} (h : RunT S z q s t) (hk : 188 ≤ k ∧ k ≤ 192) : RunT (stw S k t v) z q s t := by
  refine ⟨fun a ha => by rw [stw_n (by omega), stw_n (by omega)]; exact h.1 a ha, by rw [stw_n (by omega)]; exact h.2.1, by unfold LV; rw [stw_n (by omega)]; exact h.2.2.1, fun j hj => ?_⟩
  have g := h.2.2.2 j hj
  have e : ∀ r, stw S k t v r j = S r j := fun r => by rw [stw_app, if_neg (by omega)]
  rw [e, e, e, e, e]
  exact g
theorem RT_next {S : ST} {z q : Nat → Int32} {s : Int32} {t : Nat} (h : RunT S z q s t) (hL : LV S (lvR (rdQ z q s) (wN z) (z 4) (t + 1))) (ht : S 188 t = ldQ z q s t ∧ S 189 t = swQ z q s t ∧ S 190 t = rdQ z q s t ∧ S 191 t = stF (rdQ z q s) (wN z) (z 4) t ∧ S 192 t = lvR (rdQ z q s) (wN z) (z 4) (t + 1) 1) : RunT S z q s (t + 1) := by
  refine ⟨h.1, h.2.1, hL, fun j hj => ?_⟩
  by_cases e : j = t
  · rw [e]
    exact ht
  · exact h.2.2.2 j (by omega)
theorem nN_le {se q : Nat → Int32} {s : Int32} : nN se q s ≤ 120 := by
  unfold nN
  split <;> omega
theorem many_eq {se q : Nat → Int32} {s : Int32} {N : Nat} (hq : CartOk q N) (hse : SetOk se) (hs : 1 ≤ s ∧ s ≤ 9) : (if 120 < rT se q s then 120 else rT se q s) = nI (nN se q s) := by
  obtain ⟨t1, t2, t3⟩ := rT_ok hq hse hs
  rw [t1]
  unfold nN
  by_cases q0 : 120 < tN se q s
  · rw [if_pos q0, if_pos (show (120 : Int32) < nI (tN se q s) from nI_lt (a := 120) q0 (by omega))]
    rfl
  · rw [if_neg q0, if_neg (show ¬ (120 : Int32) < nI (tN se q s) from nI_nlt (b := tN se q s) (a := 120) (by omega) (by decide))]
set_option maxHeartbeats 4000000 in
set_option maxRecDepth 100000 in
theorem c_X7_reckon {l : Launch} {b : Nat} {D : va_G} {cA : Nat → ClassId} {ad : Nat → Nat} {S : ST} {z : Nat → Int32} {k N : Nat} {s : Int32} (hz : MZ S z) (hk : k < 6) (hq : CartOk (qOf z k) N) (hse : SetOk z) (hs9 : 1 ≤ s ∧ s ≤ 9) : MT l b D cA NN ad zT yX7_reckon cX7_reckon 9 none 4 [.ref (ad 181), .int (nI k), .int s] S (RV (fun S2 => RunT S2 z (qOf z k) s (nN z (qOf z k) s) ∧ Fr S S2)) := by
  have h5 := hq.2.2.1
  have hq0 := hq.1
  have hnq : nQ (qOf z k) = N := nQ_eq hq
  have hs0 := sp_pos hs9
  have hn1 := nN_le (se := z) (q := qOf z k) (s := s)
  obtain ⟨hw, hw1, hw9⟩ := wN_ok hse
  refine MT.intro (j := 6) (ls := [some (.ref (ad 181)), some (.int (nI k)), some (.int s), none, none, none, none, none, none]) pn_X7 rfl rfl rfl (fun pr en s0 mi below meth c' K _ => ?_)
  have lz : ∀ (t : Nat) (S1 : ST), (t < 120) → (∀ S2 : ST, RunT S2 z (qOf z k) s (t + 1) → Fr S S2 → G pr l en (rmd 4) s0 mi (List.toArray [.ref (ad 181), .int (nI k), .int s]) below meth c' (MQ below (QQ b D cA NN ad zT (RV (fun S2 => RunT S2 z (qOf z k) s (nN z (qOf z k) s) ∧ Fr S S2))) (List.toArray [.ref (ad 181), .int (nI k), .int s]) s0 0 0 (aF b)) b D cA 9 NN ad zT 0 0 107 [some (.ref (ad 181)), some (.int (nI k)), some (.int s), none, some (.int (nI (t + 1))), none, none, none, none] [] S2) → (RunT S1 z (qOf z k) s (t + 1)) → (Fr S S1) → G pr l en (rmd 4) s0 mi (List.toArray [.ref (ad 181), .int (nI k), .int s]) below meth c' (MQ below (QQ b D cA NN ad zT (RV (fun S2 => RunT S2 z (qOf z k) s (nN z (qOf z k) s) ∧ Fr S S2))) (List.toArray [.ref (ad 181), .int (nI k), .int s]) s0 0 0 (aF b)) b D cA 9 NN ad zT 0 0 383 [some (.ref (ad 181)), some (.int (nI k)), some (.int s), none, some (.int (nI t)), none, none, none, none] [] S1 := by
    intro t  S1  ht hK hR hf
    refine g_iinc (ls2 := [_, _, _, _, some (.int _), _, _, _, _]) K dX7_reckon_383 rfl kc_1 rfl ?_
    refine g_goto (tgt := 107) K dX7_reckon_386 (by decide) ?_
    rw [nI_1]
    exact hK _ hR hf
  have lf : ∀ (t : Nat) (v : Int32) (S1 : ST), (t < 120) → (∀ S2 : ST, RunT S2 z (qOf z k) s (t + 1) → Fr S S2 → G pr l en (rmd 4) s0 mi (List.toArray [.ref (ad 181), .int (nI k), .int s]) below meth c' (MQ below (QQ b D cA NN ad zT (RV (fun S2 => RunT S2 z (qOf z k) s (nN z (qOf z k) s) ∧ Fr S S2))) (List.toArray [.ref (ad 181), .int (nI k), .int s]) s0 0 0 (aF b)) b D cA 9 NN ad zT 0 0 107 [some (.ref (ad 181)), some (.int (nI k)), some (.int s), none, some (.int (nI (t + 1))), none, none, none, none] [] S2) → (RunT S1 z (qOf z k) s t) → (Fr S S1) → (S1 188 t = ldQ z (qOf z k) s t) → (S1 189 t = swQ z (qOf z k) s t) → (S1 190 t = rdQ z (qOf z k) s t) → (S1 191 t = stF (rdQ z (qOf z k) s) (wN z) (z 4) t) → (v = lvR (rdQ z (qOf z k) s) (wN z) (z 4) t 1) → G pr l en (rmd 4) s0 mi (List.toArray [.ref (ad 181), .int (nI k), .int s]) below meth c' (MQ below (QQ b D cA NN ad zT (RV (fun S2 => RunT S2 z (qOf z k) s (nN z (qOf z k) s) ∧ Fr S S2))) (List.toArray [.ref (ad 181), .int (nI k), .int s]) s0 0 0 (aF b)) b D cA 9 NN ad zT 0 0 319 [some (.ref (ad 181)), some (.int (nI k)), some (.int s), none, some (.int (nI t)), none, none, none, none] [.int v] S1 := by
    intro t  v  S1  ht hK hR hf h8 h9 h0 h1 hv
    have hz1 := Fr_mz hf hz
    have hz2 : MZ (stw S1 192 t v) z := MZ_to hz1 (stw_n (by decide))
    have hrow : ∀ j, j ≤ t → stw S1 192 t v 190 j = rdQ z (qOf z k) s j := fun j hj => by
      rw [stw_n (by decide)]
      by_cases e : j = t
      · rw [e]
        exact h0
      · exact (hR.2.2.2 j (by omega)).2.2.1
    have hsuc : lvR (rdQ z (qOf z k) s) (wN z) (z 4) (t + 1) = if stF (rdQ z (qOf z k) s) (wN z) (z 4) t = 1 then offF (lvR (rdQ z (qOf z k) s) (wN z) (z 4) t) (meF (rdQ z (qOf z k) s) (wN z) t) (nI t) (z 4) else lvR (rdQ z (qOf z k) s) (wN z) (z 4) t := rfl
    have hL0 : 0 ≤ lvR (rdQ z (qOf z k) s) (wN z) (z 4) t 0 := lvR_0 (by omega)
    refine g_istore (ls2 := [_, _, _, _, _, _, _, _, some (.int _)]) K dX7_reckon_319 (by decide) rfl ?_
    refine g_aload_n K dX7_reckon_321 rfl ?_
    refine g_getr (j := 192) K lk_X7_40 dX7_reckon_322 rfl (by decide) (rfl : kd 181 = 7) (by decide) (by decide) rfl (rfl : rs 181 13 = 192) ?_
    refine g_iload K dX7_reckon_325 rfl ?_
    refine g_iload K dX7_reckon_327 rfl ?_
    refine g_iast (j := t) K dX7_reckon_329 rfl ln_192 (by omega) (rfl : kd 192 = 8) (by decide) rfl ?_
    refine g_aload_n K dX7_reckon_330 rfl ?_
    refine g_getr (j := 191) K lk_X7_37 dX7_reckon_331 rfl (by decide) (rfl : kd 181 = 7) (by decide) (by decide) rfl (rfl : rs 181 12 = 191) ?_
    refine g_iload K dX7_reckon_334 rfl ?_
    refine g_iald (j := t) K dX7_reckon_336 rfl ln_191 (by omega) (rfl : kd 191 = 8) (by decide) (show stw S1 192 t v 191 t = stF (rdQ z (qOf z k) s) (wN z) (z 4) t by rw [stw_n (by decide)]; exact h1) ?_
    refine g_iconst K dX7_reckon_337 kc_1 ?_
    refine g_icmp_ne (tgt := 383) K dX7_reckon_338 (by decide) (fun u338 => ?_) (fun u338 => ?_)
    · refine g_drop (ls2 := [_, _, _, _, _, _, _, _, none]) 8 rfl ?_
      have e : lvR (rdQ z (qOf z k) s) (wN z) (z 4) (t + 1) = lvR (rdQ z (qOf z k) s) (wN z) (z 4) t := by rw [hsuc, if_neg u338]
      exact lz t _ ht hK (RT_next (RT_w hR (by decide)) (by unfold LV; rw [stw_n (by decide), e]; exact hR.2.2.1) ⟨by rw [stw_n (by decide)]; exact h8, by rw [stw_n (by decide)]; exact h9, by rw [stw_n (by decide)]; exact h0, by rw [stw_n (by decide)]; exact h1, by rw [stw_app, if_pos ⟨rfl, rfl⟩, e]; exact hv⟩) (Fr_w hf (by decide))
    · refine g_aload_n K dX7_reckon_341 rfl ?_
      refine g_geti K lk_X7_101 dX7_reckon_342 rfl (rfl : kd 181 = 7) (by decide) (by decide) (show stw S1 192 t v 181 15 = lvR (rdQ z (qOf z k) s) (wN z) (z 4) t 0 by rw [stw_n (by decide)]; exact hR.2.2.1.1) ?_
      refine g_if_eq (tgt := 369) K dX7_reckon_345 (by decide) (fun u345 => ?_) (fun u345 => ?_)
      · refine g_aload_n K dX7_reckon_369 rfl ?_
        refine g_aload_n K dX7_reckon_370 rfl ?_
        refine g_iload K dX7_reckon_371 rfl ?_
        refine g_callVi K (c_X7_mean (z := z) (t := t) hz2 hse ht (stF_w (fun q => by rw [u338] at q; exact absurd q (by decide)))) mw_X7_mean ml_X7_135 dX7_reckon_373 (by rfl) rfl rfl (by decide) (by simp [Value.category]) ⟨by decide, by decide⟩ ⟨by decide, by decide⟩ ?_
        refine g_nm (y := meF (rdQ z (qOf z k) s) (wN z) t) (meF_congr (stF_w (fun q => by rw [u338] at q; exact absurd q (by decide))) hrow) ?_
        have hno : ¬ (0 < lvR (rdQ z (qOf z k) s) (wN z) (z 4) t 0 ∧ abF (meF (rdQ z (qOf z k) s) (wN z) t - lvR (rdQ z (qOf z k) s) (wN z) (z 4) t 1) ≤ z 4) := by
          first
          | (rw [← hv]; exact fun q => u366 q.2)
          | (intro q; rw [u345] at q; exact absurd q.1 (by decide))
          | grind
        refine g_iload K dX7_reckon_376 rfl ?_
        refine g_iload K dX7_reckon_378 rfl ?_
        refine g_callVpv K (c_X7_tell (L := lvR (rdQ z (qOf z k) s) (wN z) (z 4) t) (bo := z 4) (t := t) (show LV (stw S1 192 t v) (lvR (rdQ z (qOf z k) s) (wN z) (z 4) t) by unfold LV; rw [stw_n (by decide)]; exact hR.2.2.1) hv hL0 hno ht) mw_X7_tell ml_X7_138 dX7_reckon_380 (by rfl) rfl rfl (by decide) (by simp [Value.category]) ⟨by decide, by decide⟩ ⟨by decide, by decide⟩ (fun S380 h380 => ?_)
        refine g_drop (ls2 := [_, _, _, _, _, _, _, _, none]) 8 rfl ?_
        have e : lvR (rdQ z (qOf z k) s) (wN z) (z 4) (t + 1) = offF (lvR (rdQ z (qOf z k) s) (wN z) (z 4) t) (meF (rdQ z (qOf z k) s) (wN z) t) (nI t) (z 4) := by rw [hsuc, if_pos u338]
        have hT := RT_w (k := 192) (v := v) hR (by decide)
        refine lz t S380 ht hK ⟨fun a ha => by rw [h380.2.2.1 186 (by decide) (by decide), h380.2.2.1 187 (by decide) (by decide)]; exact hT.1 a ha, by rw [h380.2.2.2 14 (by decide)]; exact hT.2.1, by rw [e]; exact h380.1, fun j hj => ?_⟩ (Fr_t (Fr_w hf (by decide)) h380.2.2.1 h380.2.2.2)
        rw [h380.2.2.1 188 (by decide) (by decide), h380.2.2.1 189 (by decide) (by decide), h380.2.2.1 190 (by decide) (by decide), h380.2.2.1 191 (by decide) (by decide), h380.2.1]
        unfold upd
        by_cases q : j = t
        · rw [if_pos q, q, e]
          refine ⟨by rw [stw_n (by decide)]; exact h8, by rw [stw_n (by decide)]; exact h9, by rw [stw_n (by decide)]; exact h0, by rw [stw_n (by decide)]; exact h1, ?_⟩
          unfold offF
          rw [if_neg hno]
          rfl
        · rw [if_neg q]
          exact hT.2.2.2 j (by omega)
      · refine g_aload_n K dX7_reckon_348 rfl ?_
        refine g_iload K dX7_reckon_349 rfl ?_
        refine g_callVi K (c_X7_mean (z := z) (t := t) hz2 hse ht (stF_w (fun q => by rw [u338] at q; exact absurd q (by decide)))) mw_X7_mean ml_X7_135 dX7_reckon_351 (by rfl) rfl rfl (by decide) (by simp [Value.category]) ⟨by decide, by decide⟩ ⟨by decide, by decide⟩ ?_
        refine g_nm (y := meF (rdQ z (qOf z k) s) (wN z) t) (meF_congr (stF_w (fun q => by rw [u338] at q; exact absurd q (by decide))) hrow) ?_
        refine g_iload K dX7_reckon_354 rfl ?_
        refine g_isub K dX7_reckon_356 ?_
        refine g_callSi K c_X7_size mw_X7_size ml_X7_129 dX7_reckon_357 (by rfl) rfl (by simp [Value.category]) ⟨by decide, by decide⟩ ⟨by decide, by decide⟩ ?_
        refine g_aload_n K dX7_reckon_360 rfl ?_
        refine g_getr (j := 182) K lk_X7_7 dX7_reckon_361 rfl (by decide) (rfl : kd 181 = 7) (by decide) (by decide) rfl (rfl : rs 181 0 = 182) ?_
        refine g_iconst K dX7_reckon_364 kc_4 ?_
        refine g_iald (j := 4) K dX7_reckon_365 rfl ln_182 (by decide) (rfl : kd 182 = 8) (by decide) (hz2 4 (by decide)) ?_
        refine g_icmp_le (tgt := 383) K dX7_reckon_366 (by decide) (fun u366 => ?_) (fun u366 => ?_)
        · refine g_drop (ls2 := [_, _, _, _, _, _, _, _, none]) 8 rfl ?_
          have e : lvR (rdQ z (qOf z k) s) (wN z) (z 4) (t + 1) = lvR (rdQ z (qOf z k) s) (wN z) (z 4) t := by
            rw [hsuc, if_pos u338]
            funext i
            unfold offF
            rw [if_pos ⟨by grind, by rw [← hv]; exact u366⟩]
          exact lz t _ ht hK (RT_next (RT_w hR (by decide)) (by unfold LV; rw [stw_n (by decide), e]; exact hR.2.2.1) ⟨by rw [stw_n (by decide)]; exact h8, by rw [stw_n (by decide)]; exact h9, by rw [stw_n (by decide)]; exact h0, by rw [stw_n (by decide)]; exact h1, by rw [stw_app, if_pos ⟨rfl, rfl⟩, e]; exact hv⟩) (Fr_w hf (by decide))
        · refine g_aload_n K dX7_reckon_369 rfl ?_
          refine g_aload_n K dX7_reckon_370 rfl ?_
          refine g_iload K dX7_reckon_371 rfl ?_
          refine g_callVi K (c_X7_mean (z := z) (t := t) hz2 hse ht (stF_w (fun q => by rw [u338] at q; exact absurd q (by decide)))) mw_X7_mean ml_X7_135 dX7_reckon_373 (by rfl) rfl rfl (by decide) (by simp [Value.category]) ⟨by decide, by decide⟩ ⟨by decide, by decide⟩ ?_
          refine g_nm (y := meF (rdQ z (qOf z k) s) (wN z) t) (meF_congr (stF_w (fun q => by rw [u338] at q; exact absurd q (by decide))) hrow) ?_
          have hno : ¬ (0 < lvR (rdQ z (qOf z k) s) (wN z) (z 4) t 0 ∧ abF (meF (rdQ z (qOf z k) s) (wN z) t - lvR (rdQ z (qOf z k) s) (wN z) (z 4) t 1) ≤ z 4) := by
            first
            | (rw [← hv]; exact fun q => u366 q.2)
            | (intro q; rw [u345] at q; exact absurd q.1 (by decide))
            | grind
          refine g_iload K dX7_reckon_376 rfl ?_
          refine g_iload K dX7_reckon_378 rfl ?_
          refine g_callVpv K (c_X7_tell (L := lvR (rdQ z (qOf z k) s) (wN z) (z 4) t) (bo := z 4) (t := t) (show LV (stw S1 192 t v) (lvR (rdQ z (qOf z k) s) (wN z) (z 4) t) by unfold LV; rw [stw_n (by decide)]; exact hR.2.2.1) hv hL0 hno ht) mw_X7_tell ml_X7_138 dX7_reckon_380 (by rfl) rfl rfl (by decide) (by simp [Value.category]) ⟨by decide, by decide⟩ ⟨by decide, by decide⟩ (fun S380 h380 => ?_)
          refine g_drop (ls2 := [_, _, _, _, _, _, _, _, none]) 8 rfl ?_
          have e : lvR (rdQ z (qOf z k) s) (wN z) (z 4) (t + 1) = offF (lvR (rdQ z (qOf z k) s) (wN z) (z 4) t) (meF (rdQ z (qOf z k) s) (wN z) t) (nI t) (z 4) := by rw [hsuc, if_pos u338]
          have hT := RT_w (k := 192) (v := v) hR (by decide)
          refine lz t S380 ht hK ⟨fun a ha => by rw [h380.2.2.1 186 (by decide) (by decide), h380.2.2.1 187 (by decide) (by decide)]; exact hT.1 a ha, by rw [h380.2.2.2 14 (by decide)]; exact hT.2.1, by rw [e]; exact h380.1, fun j hj => ?_⟩ (Fr_t (Fr_w hf (by decide)) h380.2.2.1 h380.2.2.2)
          rw [h380.2.2.1 188 (by decide) (by decide), h380.2.2.1 189 (by decide) (by decide), h380.2.2.1 190 (by decide) (by decide), h380.2.2.1 191 (by decide) (by decide), h380.2.1]
          unfold upd
          by_cases q : j = t
          · rw [if_pos q, q, e]
            refine ⟨by rw [stw_n (by decide)]; exact h8, by rw [stw_n (by decide)]; exact h9, by rw [stw_n (by decide)]; exact h0, by rw [stw_n (by decide)]; exact h1, ?_⟩
            unfold offF
            rw [if_neg hno]
            rfl
          · rw [if_neg q]
            exact hT.2.2.2 j (by omega)
  have le : ∀ (t : Nat) (v : Int32) (S1 : ST), (t < 120) → (∀ S2 : ST, RunT S2 z (qOf z k) s (t + 1) → Fr S S2 → G pr l en (rmd 4) s0 mi (List.toArray [.ref (ad 181), .int (nI k), .int s]) below meth c' (MQ below (QQ b D cA NN ad zT (RV (fun S2 => RunT S2 z (qOf z k) s (nN z (qOf z k) s) ∧ Fr S S2))) (List.toArray [.ref (ad 181), .int (nI k), .int s]) s0 0 0 (aF b)) b D cA 9 NN ad zT 0 0 107 [some (.ref (ad 181)), some (.int (nI k)), some (.int s), none, some (.int (nI (t + 1))), none, none, none, none] [] S2) → (RunT S1 z (qOf z k) s t) → (Fr S S1) → (S1 188 t = ldQ z (qOf z k) s t) → (S1 189 t = swQ z (qOf z k) s t) → (S1 190 t = rdQ z (qOf z k) s t) → (v = stF (rdQ z (qOf z k) s) (wN z) (z 4) t) → G pr l en (rmd 4) s0 mi (List.toArray [.ref (ad 181), .int (nI k), .int s]) below meth c' (MQ below (QQ b D cA NN ad zT (RV (fun S2 => RunT S2 z (qOf z k) s (nN z (qOf z k) s) ∧ Fr S S2))) (List.toArray [.ref (ad 181), .int (nI k), .int s]) s0 0 0 (aF b)) b D cA 9 NN ad zT 0 0 299 [some (.ref (ad 181)), some (.int (nI k)), some (.int s), none, some (.int (nI t)), none, none, none, none] [.int v, .int (nI t), .ref (ad 191)] S1 := by
    intro t  v  S1  ht hK hR hf h8 h9 h0 hv
    refine g_iast (j := t) K dX7_reckon_299 rfl ln_191 (by omega) (rfl : kd 191 = 8) (by decide) rfl ?_
    refine g_iload K dX7_reckon_300 rfl ?_
    refine g_if_ne (tgt := 310) K dX7_reckon_302 (by decide) (fun u302 => ?_) (fun u302 => ?_)
    · have h0t : 0 < t := by
        apply Nat.pos_of_ne_zero
        intro q
        rw [q] at u302
        exact u302 rfl
      refine g_aload_n K dX7_reckon_310 rfl ?_
      refine g_getr (j := 192) K lk_X7_40 dX7_reckon_311 rfl (by decide) (rfl : kd 181 = 7) (by decide) (by decide) rfl (rfl : rs 181 13 = 192) ?_
      refine g_iload K dX7_reckon_314 rfl ?_
      refine g_iconst K dX7_reckon_316 kc_1 ?_
      refine g_isub K dX7_reckon_317 ?_
      refine g_iald (j := (t - 1)) K dX7_reckon_318 (nI_sub1 h0t) ln_192 (by omega) (rfl : kd 192 = 8) (by decide) (show stw S1 191 t v 192 (t - 1) = lvR (rdQ z (qOf z k) s) (wN z) (z 4) t 1 by
  rw [stw_n (by decide)]
  have g := (hR.2.2.2 (t - 1) (by omega)).2.2.2.2
  rw [show t - 1 + 1 = t by omega] at g
  exact g) ?_
      exact lf t _ _ ht hK (RT_w hR (by omega)) (Fr_w hf (by omega)) (by rw [stw_n (by decide)]; exact h8) (by rw [stw_n (by decide)]; exact h9) (by rw [stw_n (by decide)]; exact h0) (by rw [stw_app, if_pos ⟨rfl, rfl⟩]; exact hv) (by
        first
        | rfl
        | (rw [h0t]; rfl))
    · have h0t : t = 0 := (nI_eq (b := 0) (by omega) (by decide)).mp u302
      refine g_bipush K dX7_reckon_305 kb_m5 ?_
      refine g_goto (tgt := 319) K dX7_reckon_307 (by decide) ?_
      exact lf t _ _ ht hK (RT_w hR (by omega)) (Fr_w hf (by omega)) (by rw [stw_n (by decide)]; exact h8) (by rw [stw_n (by decide)]; exact h9) (by rw [stw_n (by decide)]; exact h0) (by rw [stw_app, if_pos ⟨rfl, rfl⟩]; exact hv) (by
        first
        | rfl
        | (rw [h0t]; rfl))
  have ld : ∀ (t : Nat) (v : Int32) (S1 : ST), (t < 120) → (∀ S2 : ST, RunT S2 z (qOf z k) s (t + 1) → Fr S S2 → G pr l en (rmd 4) s0 mi (List.toArray [.ref (ad 181), .int (nI k), .int s]) below meth c' (MQ below (QQ b D cA NN ad zT (RV (fun S2 => RunT S2 z (qOf z k) s (nN z (qOf z k) s) ∧ Fr S S2))) (List.toArray [.ref (ad 181), .int (nI k), .int s]) s0 0 0 (aF b)) b D cA 9 NN ad zT 0 0 107 [some (.ref (ad 181)), some (.int (nI k)), some (.int s), none, some (.int (nI (t + 1))), none, none, none, none] [] S2) → (RunT S1 z (qOf z k) s t) → (Fr S S1) → (S1 188 t = ldQ z (qOf z k) s t) → (S1 189 t = swQ z (qOf z k) s t) → (v = rdQ z (qOf z k) s t) → G pr l en (rmd 4) s0 mi (List.toArray [.ref (ad 181), .int (nI k), .int s]) below meth c' (MQ below (QQ b D cA NN ad zT (RV (fun S2 => RunT S2 z (qOf z k) s (nN z (qOf z k) s) ∧ Fr S S2))) (List.toArray [.ref (ad 181), .int (nI k), .int s]) s0 0 0 (aF b)) b D cA 9 NN ad zT 0 0 278 [some (.ref (ad 181)), some (.int (nI k)), some (.int s), none, some (.int (nI t)), none, none, none, none] [.int v, .int (nI t), .ref (ad 190)] S1 := by
    intro t  v  S1  ht hK hR hf h8 h9 hv
    have hz1 := Fr_mz hf hz
    have hz2 : MZ (stw S1 190 t v) z := MZ_to hz1 (stw_n (by decide))
    have hst : stF (stw S1 190 t v 190) (wN z) (z 4) t = stF (rdQ z (qOf z k) s) (wN z) (z 4) t := stF_congr hw1 (fun j hj => by
      by_cases e : j = t
      · rw [e, stw_app, if_pos ⟨rfl, rfl⟩]
        exact hv
      · rw [stw_app, if_neg (by omega)]
        exact (hR.2.2.2 j (by omega)).2.2.1)
    refine g_iast (j := t) K dX7_reckon_278 rfl ln_190 (by omega) (rfl : kd 190 = 8) (by decide) rfl ?_
    refine g_aload_n K dX7_reckon_279 rfl ?_
    refine g_getr (j := 191) K lk_X7_37 dX7_reckon_280 rfl (by decide) (rfl : kd 181 = 7) (by decide) (by decide) rfl (rfl : rs 181 12 = 191) ?_
    refine g_iload K dX7_reckon_283 rfl ?_
    refine g_aload_n K dX7_reckon_285 rfl ?_
    refine g_iload K dX7_reckon_286 rfl ?_
    refine g_callVi K (c_X7_isSettled (z := z) (t := t) hz2 hse ht) mw_X7_isSettled ml_X7_132 dX7_reckon_288 (by rfl) rfl rfl (by decide) (by simp [Value.category]) ⟨by decide, by decide⟩ ⟨by decide, by decide⟩ ?_
    refine g_nm hst ?_
    refine g_if_eq (tgt := 298) K dX7_reckon_291 (by decide) (fun u291 => ?_) (fun u291 => ?_)
    · refine g_iconst K dX7_reckon_298 kc_0 ?_
      exact le t _ _ ht hK (RT_w hR (by omega)) (Fr_w hf (by omega)) (by rw [stw_n (by decide)]; exact h8) (by rw [stw_n (by decide)]; exact h9) (by rw [stw_app, if_pos ⟨rfl, rfl⟩]; exact hv) (by
        have := stF_01 (f := rdQ z (qOf z k) s) (w := wN z) (bo := z 4) (t := t)
        grind)
    · refine g_iconst K dX7_reckon_294 kc_1 ?_
      refine g_goto (tgt := 299) K dX7_reckon_295 (by decide) ?_
      exact le t _ _ ht hK (RT_w hR (by omega)) (Fr_w hf (by omega)) (by rw [stw_n (by decide)]; exact h8) (by rw [stw_n (by decide)]; exact h9) (by rw [stw_app, if_pos ⟨rfl, rfl⟩]; exact hv) (by
        have := stF_01 (f := rdQ z (qOf z k) s) (w := wN z) (bo := z 4) (t := t)
        grind)
  have lc : ∀ (t : Nat) (v : Int32) (S1 : ST), (t < 120) → (∀ S2 : ST, RunT S2 z (qOf z k) s (t + 1) → Fr S S2 → G pr l en (rmd 4) s0 mi (List.toArray [.ref (ad 181), .int (nI k), .int s]) below meth c' (MQ below (QQ b D cA NN ad zT (RV (fun S2 => RunT S2 z (qOf z k) s (nN z (qOf z k) s) ∧ Fr S S2))) (List.toArray [.ref (ad 181), .int (nI k), .int s]) s0 0 0 (aF b)) b D cA 9 NN ad zT 0 0 107 [some (.ref (ad 181)), some (.int (nI k)), some (.int s), none, some (.int (nI (t + 1))), none, none, none, none] [] S2) → (RunT S1 z (qOf z k) s t) → (Fr S S1) → (S1 188 t = ldQ z (qOf z k) s t) → (S1 189 t = swQ z (qOf z k) s t) → (v = if t % 4 = 0 then swQ z (qOf z k) s t else if t % 4 = 2 then -swQ z (qOf z k) s t else 0) → G pr l en (rmd 4) s0 mi (List.toArray [.ref (ad 181), .int (nI k), .int s]) below meth c' (MQ below (QQ b D cA NN ad zT (RV (fun S2 => RunT S2 z (qOf z k) s (nN z (qOf z k) s) ∧ Fr S S2))) (List.toArray [.ref (ad 181), .int (nI k), .int s]) s0 0 0 (aF b)) b D cA 9 NN ad zT 0 0 258 [some (.ref (ad 181)), some (.int (nI k)), some (.int s), none, some (.int (nI t)), none, none, none, none] [.int v, .int (ldQ z (qOf z k) s t)] S1 := by
    intro t  v  S1  ht hK hR hf h8 h9 hv
    refine g_iadd K dX7_reckon_258 ?_
    refine g_istore (ls2 := [_, _, _, _, _, _, _, some (.int _), _]) K dX7_reckon_259 (by decide) rfl ?_
    refine g_aload_n K dX7_reckon_261 rfl ?_
    refine g_getr (j := 190) K lk_X7_34 dX7_reckon_262 rfl (by decide) (rfl : kd 181 = 7) (by decide) (by decide) rfl (rfl : rs 181 11 = 190) ?_
    refine g_iload K dX7_reckon_265 rfl ?_
    refine g_iload K dX7_reckon_267 rfl ?_
    refine g_if_ge (tgt := 276) K dX7_reckon_269 (by decide) (fun u269 => ?_) (fun u269 => ?_)
    · refine g_iload K dX7_reckon_276 rfl ?_
      refine g_drop (ls2 := [_, _, _, _, _, _, _, none, _]) 7 rfl ?_
      refine ld t _ S1 ht hK hR hf h8 h9 ?_
      show _ = rdF (ldQ z (qOf z k) s t) (swQ z (qOf z k) s t) t
      obtain ⟨ja, hja, ea⟩ := ldQ_nI (se := z) (s := s) hq t
      obtain ⟨jb, hjb, eb⟩ := swQ_nI (s := s) hq hse t
      have g1 : 0 ≤ ldQ z (qOf z k) s t := by rw [ea]; exact nI_pos' (by omega)
      have g2 : 0 ≤ ldQ z (qOf z k) s t + swQ z (qOf z k) s t := by rw [ea, eb, nI_add]; exact nI_pos' (by omega)
      first
        | exact rd_pos hv u269 
        | exact rd_neg hv g1 g2 u269
    · refine g_iconst K dX7_reckon_272 kc_0 ?_
      refine g_goto (tgt := 278) K dX7_reckon_273 (by decide) ?_
      refine g_drop (ls2 := [_, _, _, _, _, _, _, none, _]) 7 rfl ?_
      refine ld t _ S1 ht hK hR hf h8 h9 ?_
      show _ = rdF (ldQ z (qOf z k) s t) (swQ z (qOf z k) s t) t
      obtain ⟨ja, hja, ea⟩ := ldQ_nI (se := z) (s := s) hq t
      obtain ⟨jb, hjb, eb⟩ := swQ_nI (s := s) hq hse t
      have g1 : 0 ≤ ldQ z (qOf z k) s t := by rw [ea]; exact nI_pos' (by omega)
      have g2 : 0 ≤ ldQ z (qOf z k) s t + swQ z (qOf z k) s t := by rw [ea, eb, nI_add]; exact nI_pos' (by omega)
      first
        | exact rd_pos hv u269 
        | exact rd_neg hv g1 g2 u269
  have lb2 : ∀ (t : Nat) (x v : Int32) (S1 : ST), (t < 120) → (∀ S2 : ST, RunT S2 z (qOf z k) s (t + 1) → Fr S S2 → G pr l en (rmd 4) s0 mi (List.toArray [.ref (ad 181), .int (nI k), .int s]) below meth c' (MQ below (QQ b D cA NN ad zT (RV (fun S2 => RunT S2 z (qOf z k) s (nN z (qOf z k) s) ∧ Fr S S2))) (List.toArray [.ref (ad 181), .int (nI k), .int s]) s0 0 0 (aF b)) b D cA 9 NN ad zT 0 0 107 [some (.ref (ad 181)), some (.int (nI k)), some (.int s), none, some (.int (nI (t + 1))), none, none, none, none] [] S2) → (RunT S1 z (qOf z k) s t) → (Fr S S1) → (x = if t = 0 then 0 else swQ z (qOf z k) s (t - 1) * z 2 / 100) → (v = if t = 0 then 0 else ldQ z (qOf z k) s (t - 1)) → G pr l en (rmd 4) s0 mi (List.toArray [.ref (ad 181), .int (nI k), .int s]) below meth c' (MQ below (QQ b D cA NN ad zT (RV (fun S2 => RunT S2 z (qOf z k) s (nN z (qOf z k) s) ∧ Fr S S2))) (List.toArray [.ref (ad 181), .int (nI k), .int s]) s0 0 0 (aF b)) b D cA 9 NN ad zT 0 0 164 [some (.ref (ad 181)), some (.int (nI k)), some (.int s), none, some (.int (nI t)), some (.int x), none, none, none] [.int v] S1 := by
    intro t  x v  S1  ht hK hR hf hx hv
    have hz1 := Fr_mz hf hz
    have hrem : nI t - nI t / 4 * 4 = nI (t % 4) := pk_rem (d := 4) (by omega) (by decide) (by decide)
    have hsw : x + abF (ldQ z (qOf z k) s t - v) * z 1 / 100 = swQ z (qOf z k) s t := by
      rw [hx, hv]
      cases t with
      | zero =>
        rw [if_pos rfl, if_pos rfl]
        show 0 + abF (ldQ z (qOf z k) s 0 - 0) * z 1 / 100 = 0 * z 2 / 100 + abF (ldQ z (qOf z k) s 0 - 0) * z 1 / 100
        rw [Int32.zero_mul, show (0 : Int32) / 100 = 0 by decide]
      | succ t =>
        rw [if_neg (by omega), if_neg (by omega)]
        rfl
    refine g_istore (ls2 := [_, _, _, _, _, _, some (.int _), _, _]) K dX7_reckon_164 (by decide) rfl ?_
    refine g_aload_n K dX7_reckon_166 rfl ?_
    refine g_getr (j := 188) K lk_X7_28 dX7_reckon_167 rfl (by decide) (rfl : kd 181 = 7) (by decide) (by decide) rfl (rfl : rs 181 9 = 188) ?_
    refine g_iload K dX7_reckon_170 rfl ?_
    refine g_aload_n K dX7_reckon_172 rfl ?_
    refine g_iload_n K dX7_reckon_173 rfl ?_
    refine g_iload_n K dX7_reckon_174 rfl ?_
    refine g_iload K dX7_reckon_175 rfl ?_
    refine g_callVi K (c_X7_loadAt (k := k) (N := N) (br := brQ (qOf z k)) (bh := bhQ (qOf z k)) (s := s) (t := nI t) hz1 hk hq hse (fun a ha => (hR.1 a (by omega)).1) (fun a ha => (hR.1 a (by omega)).2)) mw_X7_loadAt ml_X7_125 dX7_reckon_177 (by rfl) rfl rfl (by decide) (by simp [Value.category]) ⟨by decide, by decide⟩ ⟨by decide, by decide⟩ ?_
    refine g_nm (y := ldQ z (qOf z k) s t) (by unfold ldQ ldR; rw [hnq]) ?_
    refine g_iast (j := t) K dX7_reckon_180 rfl ln_188 (by omega) (rfl : kd 188 = 8) (by decide) rfl ?_
    refine g_aload_n K dX7_reckon_181 rfl ?_
    refine g_getr (j := 189) K lk_X7_31 dX7_reckon_182 rfl (by decide) (rfl : kd 181 = 7) (by decide) (by decide) rfl (rfl : rs 181 10 = 189) ?_
    refine g_iload K dX7_reckon_185 rfl ?_
    refine g_iload K dX7_reckon_187 rfl ?_
    refine g_aload_n K dX7_reckon_189 rfl ?_
    refine g_getr (j := 188) K lk_X7_28 dX7_reckon_190 rfl (by decide) (rfl : kd 181 = 7) (by decide) (by decide) rfl (rfl : rs 181 9 = 188) ?_
    refine g_iload K dX7_reckon_193 rfl ?_
    refine g_iald (j := t) K dX7_reckon_195 rfl ln_188 (by omega) (rfl : kd 188 = 8) (by decide) (show stw S1 188 t (ldQ z (qOf z k) s t) 188 t = ldQ z (qOf z k) s t by rw [stw_app, if_pos ⟨rfl, rfl⟩]) ?_
    refine g_iload K dX7_reckon_196 rfl ?_
    refine g_isub K dX7_reckon_198 ?_
    refine g_callSi K c_X7_size mw_X7_size ml_X7_129 dX7_reckon_199 (by rfl) rfl (by simp [Value.category]) ⟨by decide, by decide⟩ ⟨by decide, by decide⟩ ?_
    refine g_aload_n K dX7_reckon_202 rfl ?_
    refine g_getr (j := 182) K lk_X7_7 dX7_reckon_203 rfl (by decide) (rfl : kd 181 = 7) (by decide) (by decide) rfl (rfl : rs 181 0 = 182) ?_
    refine g_iconst K dX7_reckon_206 kc_1 ?_
    refine g_iald (j := 1) K dX7_reckon_207 rfl ln_182 (by decide) (rfl : kd 182 = 8) (by decide) (MZ_to hz1 (stw_n (by decide)) 1 (by decide)) ?_
    refine g_imul K dX7_reckon_208 ?_
    refine g_bipush K dX7_reckon_209 kb_100 ?_
    refine g_idiv K dX7_reckon_211 (by decide) ?_
    refine g_iadd K dX7_reckon_212 ?_
    refine g_nm hsw ?_
    refine g_iast (j := t) K dX7_reckon_213 rfl ln_189 (by omega) (rfl : kd 189 = 8) (by decide) rfl ?_
    refine g_aload_n K dX7_reckon_214 rfl ?_
    refine g_getr (j := 188) K lk_X7_28 dX7_reckon_215 rfl (by decide) (rfl : kd 181 = 7) (by decide) (by decide) rfl (rfl : rs 181 9 = 188) ?_
    refine g_iload K dX7_reckon_218 rfl ?_
    refine g_iald (j := t) K dX7_reckon_220 rfl ln_188 (by omega) (rfl : kd 188 = 8) (by decide) (show stw (stw S1 188 t (ldQ z (qOf z k) s t)) 189 t (swQ z (qOf z k) s t) 188 t = ldQ z (qOf z k) s t by rw [stw_n (by decide), stw_app, if_pos ⟨rfl, rfl⟩]) ?_
    refine g_iload K dX7_reckon_221 rfl ?_
    refine g_iconst K dX7_reckon_223 kc_4 ?_
    refine g_irem K dX7_reckon_224 (by decide) ?_
    rw [hrem]
    refine g_if_ne (tgt := 238) K dX7_reckon_225 (by decide) (fun u225 => ?_) (fun u225 => ?_)
    · have h4 : ¬ t % 4 = 0 := by
        intro q
        rw [q] at u225
        exact u225 rfl
      refine g_iload K dX7_reckon_238 rfl ?_
      refine g_iconst K dX7_reckon_240 kc_4 ?_
      refine g_irem K dX7_reckon_241 (by decide) ?_
      rw [hrem]
      refine g_iconst K dX7_reckon_242 kc_2 ?_
      refine g_icmp_ne (tgt := 257) K dX7_reckon_243 (by decide) (fun u243 => ?_) (fun u243 => ?_)
      · have h42 : ¬ t % 4 = 2 := by
          intro q
          rw [q] at u243
          exact u243 rfl
        refine g_iconst K dX7_reckon_257 kc_0 ?_
        refine g_drop (ls2 := [_, _, _, _, _, none, _, _, _]) 5 rfl ?_
        refine g_drop (ls2 := [_, _, _, _, _, _, none, _, _]) 6 rfl ?_
        refine lc t _ _ ht hK (RT_w (RT_w hR (by omega)) (by omega)) (Fr_w (Fr_w hf (by omega)) (by omega)) (by rw [stw_n (by decide), stw_app, if_pos ⟨rfl, rfl⟩]) (by rw [stw_app, if_pos ⟨rfl, rfl⟩]) ?_
        first
          | rw [if_pos h4]
          | rw [if_neg h4, if_pos h42]
          | rw [if_neg h4, if_neg h42]
      · have h42 : t % 4 = 2 := (nI_eq (b := 2) (by omega) (by decide)).mp u243
        refine g_aload_n K dX7_reckon_246 rfl ?_
        refine g_getr (j := 189) K lk_X7_31 dX7_reckon_247 rfl (by decide) (rfl : kd 181 = 7) (by decide) (by decide) rfl (rfl : rs 181 10 = 189) ?_
        refine g_iload K dX7_reckon_250 rfl ?_
        refine g_iald (j := t) K dX7_reckon_252 rfl ln_189 (by omega) (rfl : kd 189 = 8) (by decide) (show stw (stw S1 188 t (ldQ z (qOf z k) s t)) 189 t (swQ z (qOf z k) s t) 189 t = swQ z (qOf z k) s t by rw [stw_app, if_pos ⟨rfl, rfl⟩]) ?_
        refine g_ineg K dX7_reckon_253 ?_
        refine g_goto (tgt := 258) K dX7_reckon_254 (by decide) ?_
        refine g_drop (ls2 := [_, _, _, _, _, none, _, _, _]) 5 rfl ?_
        refine g_drop (ls2 := [_, _, _, _, _, _, none, _, _]) 6 rfl ?_
        refine lc t _ _ ht hK (RT_w (RT_w hR (by omega)) (by omega)) (Fr_w (Fr_w hf (by omega)) (by omega)) (by rw [stw_n (by decide), stw_app, if_pos ⟨rfl, rfl⟩]) (by rw [stw_app, if_pos ⟨rfl, rfl⟩]) ?_
        first
          | rw [if_pos h4]
          | rw [if_neg h4, if_pos h42]
          | rw [if_neg h4, if_neg h42]
    · have h4 : t % 4 = 0 := (nI_eq (b := 0) (by omega) (by decide)).mp u225
      refine g_aload_n K dX7_reckon_228 rfl ?_
      refine g_getr (j := 189) K lk_X7_31 dX7_reckon_229 rfl (by decide) (rfl : kd 181 = 7) (by decide) (by decide) rfl (rfl : rs 181 10 = 189) ?_
      refine g_iload K dX7_reckon_232 rfl ?_
      refine g_iald (j := t) K dX7_reckon_234 rfl ln_189 (by omega) (rfl : kd 189 = 8) (by decide) (show stw (stw S1 188 t (ldQ z (qOf z k) s t)) 189 t (swQ z (qOf z k) s t) 189 t = swQ z (qOf z k) s t by rw [stw_app, if_pos ⟨rfl, rfl⟩]) ?_
      refine g_goto (tgt := 258) K dX7_reckon_235 (by decide) ?_
      refine g_drop (ls2 := [_, _, _, _, _, none, _, _, _]) 5 rfl ?_
      refine g_drop (ls2 := [_, _, _, _, _, _, none, _, _]) 6 rfl ?_
      refine lc t _ _ ht hK (RT_w (RT_w hR (by omega)) (by omega)) (Fr_w (Fr_w hf (by omega)) (by omega)) (by rw [stw_n (by decide), stw_app, if_pos ⟨rfl, rfl⟩]) (by rw [stw_app, if_pos ⟨rfl, rfl⟩]) ?_
      first
        | rw [if_pos h4]
        | rw [if_neg h4, if_pos h42]
        | rw [if_neg h4, if_neg h42]
  have la2 : ∀ (t : Nat) (v : Int32) (S1 : ST), (t < 120) → (∀ S2 : ST, RunT S2 z (qOf z k) s (t + 1) → Fr S S2 → G pr l en (rmd 4) s0 mi (List.toArray [.ref (ad 181), .int (nI k), .int s]) below meth c' (MQ below (QQ b D cA NN ad zT (RV (fun S2 => RunT S2 z (qOf z k) s (nN z (qOf z k) s) ∧ Fr S S2))) (List.toArray [.ref (ad 181), .int (nI k), .int s]) s0 0 0 (aF b)) b D cA 9 NN ad zT 0 0 107 [some (.ref (ad 181)), some (.int (nI k)), some (.int s), none, some (.int (nI (t + 1))), none, none, none, none] [] S2) → (RunT S1 z (qOf z k) s t) → (Fr S S1) → (v = if t = 0 then 0 else swQ z (qOf z k) s (t - 1) * z 2 / 100) → G pr l en (rmd 4) s0 mi (List.toArray [.ref (ad 181), .int (nI k), .int s]) below meth c' (MQ below (QQ b D cA NN ad zT (RV (fun S2 => RunT S2 z (qOf z k) s (nN z (qOf z k) s) ∧ Fr S S2))) (List.toArray [.ref (ad 181), .int (nI k), .int s]) s0 0 0 (aF b)) b D cA 9 NN ad zT 0 0 144 [some (.ref (ad 181)), some (.int (nI k)), some (.int s), none, some (.int (nI t)), none, none, none, none] [.int v] S1 := by
    intro t  v  S1  ht hK hR hf hv
    refine g_istore (ls2 := [_, _, _, _, _, some (.int _), _, _, _]) K dX7_reckon_144 (by decide) rfl ?_
    refine g_iload K dX7_reckon_146 rfl ?_
    refine g_if_ne (tgt := 155) K dX7_reckon_148 (by decide) (fun u148 => ?_) (fun u148 => ?_)
    · have h0t : 0 < t := by
        apply Nat.pos_of_ne_zero
        intro q
        rw [q] at u148
        exact u148 rfl
      refine g_aload_n K dX7_reckon_155 rfl ?_
      refine g_getr (j := 188) K lk_X7_28 dX7_reckon_156 rfl (by decide) (rfl : kd 181 = 7) (by decide) (by decide) rfl (rfl : rs 181 9 = 188) ?_
      refine g_iload K dX7_reckon_159 rfl ?_
      refine g_iconst K dX7_reckon_161 kc_1 ?_
      refine g_isub K dX7_reckon_162 ?_
      refine g_iald (j := (t - 1)) K dX7_reckon_163 (nI_sub1 h0t) ln_188 (by omega) (rfl : kd 188 = 8) (by decide) ((hR.2.2.2 (t - 1) (by omega)).1) ?_
      refine lb2 t _ _ S1 ht hK hR hf hv ?_
      first
        | rw [if_pos h0t]
        | rw [if_neg (by omega)]
    · have h0t : t = 0 := (nI_eq (b := 0) (by omega) (by decide)).mp u148
      refine g_iconst K dX7_reckon_151 kc_0 ?_
      refine g_goto (tgt := 164) K dX7_reckon_152 (by decide) ?_
      refine lb2 t _ _ S1 ht hK hR hf hv ?_
      first
        | rw [if_pos h0t]
        | rw [if_neg (by omega)]
  have lp : ∀ (fuel : Nat) (t : Nat) (S1 : ST), (nN z (qOf z k) s + 1 ≤ t + fuel) → (t ≤ nN z (qOf z k) s) → (RunT S1 z (qOf z k) s t) → (Fr S S1) → G pr l en (rmd 4) s0 mi (List.toArray [.ref (ad 181), .int (nI k), .int s]) below meth c' (MQ below (QQ b D cA NN ad zT (RV (fun S2 => RunT S2 z (qOf z k) s (nN z (qOf z k) s) ∧ Fr S S2))) (List.toArray [.ref (ad 181), .int (nI k), .int s]) s0 0 0 (aF b)) b D cA 9 NN ad zT 0 0 107 [some (.ref (ad 181)), some (.int (nI k)), some (.int s), none, some (.int (nI t)), none, none, none, none] [] S1 := by
    intro fuel
    induction fuel with
    | zero =>
      intro t  S1  hi hi2 hR hf
      omega
    | succ fuel ih =>
      intro t  S1  hi hi2 hR hf
      have hz1 := Fr_mz hf hz
      have hmy : (if 120 < S1 181 14 then 120 else S1 181 14) = nI (nN z (qOf z k) s) := by
        rw [hR.2.1]
        exact many_eq hq hse hs9
      refine g_iload K dX7_reckon_107 rfl ?_
      refine g_aload_n K dX7_reckon_109 rfl ?_
      refine g_callVi K c_X7_readingMany mw_X7_readingMany ml_X7_121 dX7_reckon_110 (by rfl) rfl rfl (by decide) (by simp [Value.category]) ⟨by decide, by decide⟩ ⟨by decide, by decide⟩ ?_
      refine g_nm hmy ?_
      refine g_icmp_ge (tgt := 389) K dX7_reckon_113 (by decide) (fun u113 => ?_) (fun u113 => ?_)
      · have htn : t = nN z (qOf z k) s := by
          rw [nI_leI (by omega) (by omega)] at u113
          omega
        refine g_vret K dX7_reckon_389 ⟨rfl, ?_⟩
        rw [htn] at hR
        exact ⟨hR, hf⟩
      · have htn : t < nN z (qOf z k) s := by
          rw [nI_leI (by omega) (by omega)] at u113
          omega
        refine g_iload K dX7_reckon_116 rfl ?_
        refine g_if_ne (tgt := 125) K dX7_reckon_118 (by decide) (fun u118 => ?_) (fun u118 => ?_)
        · have h0t : 0 < t := by
            apply Nat.pos_of_ne_zero
            intro q
            rw [q] at u118
            exact u118 rfl
          refine g_aload_n K dX7_reckon_125 rfl ?_
          refine g_getr (j := 189) K lk_X7_31 dX7_reckon_126 rfl (by decide) (rfl : kd 181 = 7) (by decide) (by decide) rfl (rfl : rs 181 10 = 189) ?_
          refine g_iload K dX7_reckon_129 rfl ?_
          refine g_iconst K dX7_reckon_131 kc_1 ?_
          refine g_isub K dX7_reckon_132 ?_
          refine g_iald (j := (t - 1)) K dX7_reckon_133 (nI_sub1 h0t) ln_189 (by omega) (rfl : kd 189 = 8) (by decide) ((hR.2.2.2 (t - 1) (by omega)).2.1) ?_
          refine g_aload_n K dX7_reckon_134 rfl ?_
          refine g_getr (j := 182) K lk_X7_7 dX7_reckon_135 rfl (by decide) (rfl : kd 181 = 7) (by decide) (by decide) rfl (rfl : rs 181 0 = 182) ?_
          refine g_iconst K dX7_reckon_138 kc_2 ?_
          refine g_iald (j := 2) K dX7_reckon_139 rfl ln_182 (by decide) (rfl : kd 182 = 8) (by decide) (hz1 2 (by decide)) ?_
          refine g_imul K dX7_reckon_140 ?_
          refine g_bipush K dX7_reckon_141 kb_100 ?_
          refine g_idiv K dX7_reckon_143 (by decide) ?_
          refine la2 t _ S1 (by omega) (fun S2 a b => ih (t + 1) S2 (by omega) (by omega) a b) hR hf ?_
          first
            | rw [if_pos h0t]
            | rw [if_neg (by omega)]
        · have h0t : t = 0 := (nI_eq (b := 0) (by omega) (by decide)).mp u118
          refine g_iconst K dX7_reckon_121 kc_0 ?_
          refine g_goto (tgt := 144) K dX7_reckon_122 (by decide) ?_
          refine la2 t _ S1 (by omega) (fun S2 a b => ih (t + 1) S2 (by omega) (by omega) a b) hR hf ?_
          first
            | rw [if_pos h0t]
            | rw [if_neg (by omega)]
  have l0 : ∀ (fuel : Nat) (i : Nat) (y : Int32) (S1 : ST), (N + 1 ≤ i + fuel) → (i ≤ N) → (y = sumF (dQ (qOf z k)) i) → (∀ a, a < i → S1 186 a = brQ (qOf z k) a ∧ S1 187 a = bhQ (qOf z k) a) → (Fr S S1) → G pr l en (rmd 4) s0 mi (List.toArray [.ref (ad 181), .int (nI k), .int s]) below meth c' (MQ below (QQ b D cA NN ad zT (RV (fun S2 => RunT S2 z (qOf z k) s (nN z (qOf z k) s) ∧ Fr S S2))) (List.toArray [.ref (ad 181), .int (nI k), .int s]) s0 0 0 (aF b)) b D cA 9 NN ad zT 0 0 5 [some (.ref (ad 181)), some (.int (nI k)), some (.int s), some (.int y), some (.int (nI i)), none, none, none, none] [] S1 := by
    intro fuel
    induction fuel with
    | zero =>
      intro i  y  S1  hi hi2 hy hb hf
      omega
    | succ fuel ih =>
      intro i  y  S1  hi hi2 hy hb hf
      have hz1 := Fr_mz hf hz
      refine g_iload K dX7_reckon_5 rfl ?_
      refine g_aload_n K dX7_reckon_7 rfl ?_
      refine g_iload_n K dX7_reckon_8 rfl ?_
      refine g_iconst K dX7_reckon_9 kc_0 ?_
      refine g_callVi K (c_X7_of (k := k) (w := 0) hz1 hk (by omega)) mw_X7_of ml_X7_54 dX7_reckon_10 (by rfl) rfl rfl (by decide) (by simp [Value.category]) ⟨by decide, by decide⟩ ⟨by decide, by decide⟩ ?_
      refine g_icmp_ge (tgt := 57) K dX7_reckon_13 (by decide) (fun u13 => ?_) (fun u13 => ?_)
      · have hiN : i = N := by
          rw [hq0, nI_leI (by omega) (by omega)] at u13
          omega
        refine g_aload_n K dX7_reckon_57 rfl ?_
        refine g_aload_n K dX7_reckon_58 rfl ?_
        refine g_getr (j := 182) K lk_X7_7 dX7_reckon_59 rfl (by decide) (rfl : kd 181 = 7) (by decide) (by decide) rfl (rfl : rs 181 0 = 182) ?_
        refine g_iconst K dX7_reckon_62 kc_0 ?_
        refine g_iald (j := 0) K dX7_reckon_63 rfl ln_182 (by decide) (rfl : kd 182 = 8) (by decide) (hz1 0 (by decide)) ?_
        refine g_iload_n K dX7_reckon_64 rfl ?_
        refine g_iadd K dX7_reckon_65 ?_
        refine g_iload_n K dX7_reckon_66 rfl ?_
        refine g_iadd K dX7_reckon_67 ?_
        refine g_iconst K dX7_reckon_68 kc_1 ?_
        refine g_isub K dX7_reckon_69 ?_
        refine g_iload_n K dX7_reckon_70 rfl ?_
        refine g_idiv K dX7_reckon_71 (sp_ne hs9) ?_
        refine g_iconst K dX7_reckon_72 kc_1 ?_
        refine g_iadd K dX7_reckon_73 ?_
        rw [show (z 0 + y + s - 1) / s + 1 = rT z (qOf z k) s by
          unfold rT quoUF quoF
          rw [if_pos hs0, hnq, hy, hiN]]
        refine g_puti K lk_X7_118 lq_X7_14 dX7_reckon_74 (put_i _) rfl (rfl : kd 181 = 7) (by decide) (by decide) ?_
        refine g_aload_n K dX7_reckon_77 rfl ?_
        refine g_iconst K dX7_reckon_78 kc_0 ?_
        refine g_puti K lk_X7_101 lq_X7_15 dX7_reckon_79 (put_i _) rfl (rfl : kd 181 = 7) (by decide) (by decide) ?_
        refine g_aload_n K dX7_reckon_82 rfl ?_
        refine g_bipush K dX7_reckon_83 kb_m5 ?_
        refine g_puti K lk_X7_104 lq_X7_16 dX7_reckon_85 (put_i _) rfl (rfl : kd 181 = 7) (by decide) (by decide) ?_
        refine g_aload_n K dX7_reckon_88 rfl ?_
        refine g_bipush K dX7_reckon_89 kb_m5 ?_
        refine g_puti K lk_X7_107 lq_X7_17 dX7_reckon_91 (put_i _) rfl (rfl : kd 181 = 7) (by decide) (by decide) ?_
        refine g_aload_n K dX7_reckon_94 rfl ?_
        refine g_iconst K dX7_reckon_95 kc_0 ?_
        refine g_puti K lk_X7_110 lq_X7_18 dX7_reckon_96 (put_i _) rfl (rfl : kd 181 = 7) (by decide) (by decide) ?_
        refine g_aload_n K dX7_reckon_99 rfl ?_
        refine g_iconst K dX7_reckon_100 kc_0 ?_
        refine g_puti K lk_X7_113 lq_X7_19 dX7_reckon_101 (put_i _) rfl (rfl : kd 181 = 7) (by decide) (by decide) ?_
        refine g_iconst K dX7_reckon_104 kc_0 ?_
        refine g_istore (ls2 := [_, _, _, _, some (.int _), _, _, _, _]) K dX7_reckon_105 (by decide) rfl ?_
        refine g_drop (ls2 := [_, _, _, none, _, _, _, _, _]) 3 rfl ?_
        refine lp (nN z (qOf z k) s + 1) 0 _ (by omega) (by omega) ⟨fun a ha => ?_, ?_, ⟨?_, ?_, ?_, ?_, ?_⟩, fun j hj => absurd hj (by omega)⟩ (Fr_f (Fr_f (Fr_f (Fr_f (Fr_f (Fr_f hf (by decide)) (by decide)) (by decide)) (by decide)) (by decide)) (by decide))
        · rw [stw_n (by decide), stw_n (by decide), stw_n (by decide), stw_n (by decide), stw_n (by decide), stw_n (by decide), stw_n (by decide), stw_n (by decide), stw_n (by decide), stw_n (by decide), stw_n (by decide), stw_n (by decide)]
          exact hb a (by omega)
        · simp [stw_app]
        · simp [stw_app]
          rfl
        · simp [stw_app]
          rfl
        · simp [stw_app]
          rfl
        · simp [stw_app]
          rfl
        · simp [stw_app]
          rfl
      · have hiN : i < N := by
          rw [hq0, nI_leI (by omega) (by omega)] at u13
          omega
        refine g_iload_n K dX7_reckon_16 rfl ?_
        refine g_aload_n K dX7_reckon_17 rfl ?_
        refine g_iload_n K dX7_reckon_18 rfl ?_
        refine g_bipush K dX7_reckon_19 kb_10 ?_
        refine g_iload K dX7_reckon_21 rfl ?_
        refine g_iadd K dX7_reckon_23 ?_
        rw [show (10 : Int32) + nI i = nI (10 + i) from nI_add 10 i]
        refine g_callVi K (c_X7_of (k := k) (w := 10 + i) hz1 hk (by omega)) mw_X7_of ml_X7_54 dX7_reckon_24 (by rfl) rfl rfl (by decide) (by simp [Value.category]) ⟨by decide, by decide⟩ ⟨by decide, by decide⟩ ?_
        refine g_iadd K dX7_reckon_27 ?_
        refine g_istore_n (ls2 := [_, _, _, some (.int _), _, _, _, _, _]) K dX7_reckon_28 (by decide) rfl ?_
        refine g_aload_n K dX7_reckon_29 rfl ?_
        refine g_getr (j := 187) K lk_X7_25 dX7_reckon_30 rfl (by decide) (rfl : kd 181 = 7) (by decide) (by decide) rfl (rfl : rs 181 8 = 187) ?_
        refine g_iload K dX7_reckon_33 rfl ?_
        refine g_iload_n K dX7_reckon_35 rfl ?_
        refine g_iast (j := i) K dX7_reckon_36 rfl ln_187 (by omega) (rfl : kd 187 = 8) (by decide) rfl ?_
        refine g_aload_n K dX7_reckon_37 rfl ?_
        refine g_getr (j := 186) K lk_X7_22 dX7_reckon_38 rfl (by decide) (rfl : kd 181 = 7) (by decide) (by decide) rfl (rfl : rs 181 7 = 186) ?_
        refine g_iload K dX7_reckon_41 rfl ?_
        refine g_aload_n K dX7_reckon_43 rfl ?_
        refine g_iload_n K dX7_reckon_44 rfl ?_
        refine g_iload K dX7_reckon_45 rfl ?_
        refine g_callVi K (c_X7_bears (k := k) (N := N) (x := nI i) (MZ_to hz1 (stw_n (by decide))) hk hq) mw_X7_bears ml_X7_116 dX7_reckon_47 (by rfl) rfl rfl (by decide) (by simp [Value.category]) ⟨by decide, by decide⟩ ⟨by decide, by decide⟩ ?_
        refine g_iast (j := i) K dX7_reckon_50 rfl ln_186 (by omega) (rfl : kd 186 = 8) (by decide) rfl ?_
        refine g_iinc (ls2 := [_, _, _, _, some (.int _), _, _, _, _]) K dX7_reckon_51 rfl kc_1 rfl ?_
        refine g_goto (tgt := 5) K dX7_reckon_54 (by decide) ?_
        rw [nI_1]
        refine ih (i + 1) _ _ (by omega) (by omega) ?_ (fun a ha => ?_) (Fr_w (Fr_w hf (by decide)) (by decide))
        · rw [hy]
          rfl
        · by_cases e : a = i
          · rw [e, stw_app, if_pos ⟨rfl, rfl⟩, stw_n (by decide), stw_app, if_pos ⟨rfl, rfl⟩]
            refine ⟨?_, ?_⟩
            · unfold brQ
              rw [hnq]
            · rw [hy]
              rfl
          · rw [stw_app, if_neg (by omega), stw_app, if_neg (by omega), stw_app, if_neg (by omega), stw_app, if_neg (by omega)]
            exact hb a (by omega)
  refine g_iconst K dX7_reckon_0 kc_0 ?_
  refine g_istore_n (ls2 := [_, _, _, some (.int _), _, _, _, _, _]) K dX7_reckon_1 (by decide) rfl ?_
  refine g_iconst K dX7_reckon_2 kc_0 ?_
  refine g_istore (ls2 := [_, _, _, _, some (.int _), _, _, _, _]) K dX7_reckon_3 (by decide) rfl ?_
  exact l0 (N + 1) 0 0 S (by omega) (by omega) rfl (fun a ha => absurd ha (by omega)) ⟨fun _ _ _ => rfl, fun _ _ => rfl⟩
