def RC (S : ST) (se bh br lf : Nat → Int32) (sp : Int32) (N : Nat) : Prop := S 169 10 = nI N ∧ S 169 11 = sp ∧ S 176 = se ∧ S 177 = bh ∧ S 178 = br ∧ S 179 = lf ∧ N ≤ 5
theorem RC.n {S : ST} {se bh br lf : Nat → Int32} {sp : Int32} {N : Nat} (h : RC S se bh br lf sp N) : S 169 10 = nI N := h.1
theorem RC.sp {S : ST} {se bh br lf : Nat → Int32} {sp : Int32} {N : Nat} (h : RC S se bh br lf sp N) : S 169 11 = sp := h.2.1
theorem RC.se {S : ST} {se bh br lf : Nat → Int32} {sp : Int32} {N : Nat} (h : RC S se bh br lf sp N) (i : Nat) : S 176 i = se i := congrFun h.2.2.1 i
theorem RC.bh {S : ST} {se bh br lf : Nat → Int32} {sp : Int32} {N : Nat} (h : RC S se bh br lf sp N) (i : Nat) : S 177 i = bh i := congrFun h.2.2.2.1 i
theorem RC.br {S : ST} {se bh br lf : Nat → Int32} {sp : Int32} {N : Nat} (h : RC S se bh br lf sp N) (i : Nat) : S 178 i = br i := congrFun h.2.2.2.2.1 i
theorem RC.lf {S : ST} {se bh br lf : Nat → Int32} {sp : Int32} {N : Nat} (h : RC S se bh br lf sp N) (i : Nat) : S 179 i = lf i := congrFun h.2.2.2.2.2.1 i
theorem RC.n5 {S : ST} {se bh br lf : Nat → Int32} {sp : Int32} {N : Nat} (h : RC S se bh br lf sp N) : N ≤ 5 := h.2.2.2.2.2.2
theorem RC.to {S S' : ST} {se bh br lf : Nat → Int32} {sp : Int32} {N : Nat} (h : RC S se bh br lf sp N) (h1 : ∀ k, (k = 169 ∨ k = 176 ∨ k = 177 ∨ k = 178 ∨ k = 179) → S' k = S k) : RC S' se bh br lf sp N := by
  unfold RC
  rw [h1 169 (by omega), h1 176 (by omega), h1 177 (by omega), h1 178 (by omega), h1 179 (by omega)]
  exact h
theorem mnF_congr {f g : Nat → Int32} {a n : Nat} {x : Int32} (h : ∀ k, k < n → f (a + k) = g (a + k)) : mnF f a x n = mnF g a x n := by
  induction n with
  | zero => rfl
  | succ n ih => unfold mnF; rw [ih (fun k hk => h k (by omega)), h n (by omega)]
theorem mxF_congr {f g : Nat → Int32} {a n : Nat} {x : Int32} (h : ∀ k, k < n → f (a + k) = g (a + k)) : mxF f a x n = mxF g a x n := by
  induction n with
  | zero => rfl
  | succ n ih => unfold mxF; rw [ih (fun k hk => h k (by omega)), h n (by omega)]
theorem suF_congr {f g : Nat → Int32} {a n : Nat} (h : ∀ k, k < n → f (a + k) = g (a + k)) : suF f a n = suF g a n := by
  induction n with
  | zero => rfl
  | succ n ih => unfold suF; rw [ih (fun k hk => h k (by omega)), h n (by omega)]
theorem stF_congr {f g : Nat → Int32} {w t : Nat} {bo : Int32} (hw : 1 ≤ w) (h : ∀ j, j ≤ t → f j = g j) : stF f w bo t = stF g w bo t := by
  unfold stF
  by_cases hwt : w ≤ t + 1
  · rw [mxF_congr (g := g) (fun k hk => h _ (by omega)), mnF_congr (g := g) (fun k hk => h _ (by omega)), h t (Nat.le_refl t)]
  · rw [if_neg (fun q => hwt q.1), if_neg (fun q => hwt q.1)]
theorem meF_congr {f g : Nat → Int32} {w t : Nat} (hw : w ≤ t + 1) (h : ∀ j, j ≤ t → f j = g j) : meF f w t = meF g w t := by
  unfold meF
  rw [suF_congr (g := g) (fun k hk => h _ (by omega))]
theorem lvR_congr {f g : Nat → Int32} {w : Nat} {bo : Int32} (hw : 1 ≤ w) : ∀ t, (∀ j, j < t → f j = g j) → lvR f w bo t = lvR g w bo t := by
  intro t
  induction t with
  | zero => intro _; rfl
  | succ t ih =>
    intro h
    unfold lvR
    rw [ih (fun j hj => h j (by omega)), stF_congr hw (fun j hj => h j (by omega))]
    by_cases hs : stF g w bo t = 1
    · have hwt : w ≤ t + 1 := by
        unfold stF at hs
        split at hs
        · next q => exact q.1
        · exact absurd hs (by decide)
      rw [if_pos hs, if_pos hs, meF_congr hwt (fun j hj => h j (by omega))]
    · rw [if_neg hs, if_neg hs]
theorem stF_01 {f : Nat → Int32} {w : Nat} {bo : Int32} {t : Nat} : stF f w bo t = 0 ∨ stF f w bo t = 1 := by
  unfold stF
  split
  · exact Or.inr rfl
  · exact Or.inl rfl
theorem stF_w {f : Nat → Int32} {w : Nat} {bo : Int32} {t : Nat} (h : ¬ stF f w bo t = 0) : w ≤ t + 1 := by
  unfold stF at h
  split at h
  · next q => exact q.1
  · exact absurd rfl h
/-- distinct times of axles that are down -/
def wtF (bh lf : Nat → Int32) (sp : Int32) : Nat → Int32 × Int32
  | 0 => (0, -5)
  | a + 1 => if lf a = 0 ∧ quoUF (bh a) sp ≠ (wtF bh lf sp a).2 then ((wtF bh lf sp a).1 + 1, quoUF (bh a) sp) else wtF bh lf sp a
def aoP (se bh lf : Nat → Int32) (sp : Int32) (t : Int32) (n : Nat) : Prop := ∀ a, a < n → lf a = 0 → 0 ≤ sp * t - bh a ∧ sp * t - bh a < se 0
/-- what a run tells: the row of levels L, T ticks -/
noncomputable def rsF (se bh lf : Nat → Int32) (sp : Int32) (N : Nat) (L : Nat → Int32) (T : Int32) : Int32 := by
  classical
  exact if 120 < T then 1 else if L 0 = 0 then 2 else if ¬ aoP se bh lf sp (L 3) N ∧ 1 < (wtF bh lf sp N).1 then 3 else 0

set_option maxHeartbeats 4000000 in
set_option maxRecDepth 100000 in
theorem c_X4_isOnPlate {l : Launch} {b : Nat} {D : va_G} {cA : Nat → ClassId} {ad : Nat → Nat} {S : ST} {se bh br lf : Nat → Int32} {sp : Int32} {N : Nat} {a : Nat} {x : Int32} (hR : RC S se bh br lf sp N) (ha : a < N) : MT l b D cA NN ad zT yX4_isOnPlate cX4_isOnPlate 4 (some .boolean) 0 [.ref (ad 169), .int (nI a), .int x] S (EI (if 0 ≤ sp * x - bh a ∧ sp * x - bh a < se 0 then 1 else 0) S) := by
  refine MT.intro (j := 1) (ls := [some (.ref (ad 169)), some (.int (nI a)), some (.int x), none]) pn_X4 rfl rfl rfl (fun pr en s0 mi below meth c' K _ => ?_)
  refine g_aload_n K dX4_isOnPlate_0 rfl ?_
  refine g_geti K lk_X4_54 dX4_isOnPlate_1 rfl (rfl : kd 169 = 4) (by decide) (by decide) hR.sp ?_
  refine g_iload_n K dX4_isOnPlate_4 rfl ?_
  refine g_imul K dX4_isOnPlate_5 ?_
  refine g_aload_n K dX4_isOnPlate_6 rfl ?_
  refine g_getr (j := 177) K lk_X4_38 dX4_isOnPlate_7 rfl (by decide) (rfl : kd 169 = 4) (by decide) (by decide) rfl (rfl : rs 169 7 = 177) ?_
  refine g_iload_n K dX4_isOnPlate_10 rfl ?_
  refine g_iald (j := a) K dX4_isOnPlate_11 rfl ln_177 (by have := hR.n5; omega) (rfl : kd 177 = 8) (by decide) (hR.bh a) ?_
  refine g_isub K dX4_isOnPlate_12 ?_
  refine g_istore_n (ls2 := [_, _, _, some (.int _)]) K dX4_isOnPlate_13 (by decide) rfl ?_
  refine g_iload_n K dX4_isOnPlate_14 rfl ?_
  refine g_if_lt (tgt := 32) K dX4_isOnPlate_15 (by decide) (fun u15 => ?_) (fun u15 => ?_)
  · refine g_iconst K dX4_isOnPlate_32 kc_0 ?_
    refine g_zret K dX4_isOnPlate_33 (by first | exact Or.inl rfl | exact Or.inr rfl | assumption) ⟨_, rfl, ?_⟩
    refine ⟨?_, rfl⟩
    grind
  · refine g_iload_n K dX4_isOnPlate_18 rfl ?_
    refine g_aload_n K dX4_isOnPlate_19 rfl ?_
    refine g_getr (j := 176) K lk_X4_35 dX4_isOnPlate_20 rfl (by decide) (rfl : kd 169 = 4) (by decide) (by decide) rfl (rfl : rs 169 6 = 176) ?_
    refine g_iconst K dX4_isOnPlate_23 kc_0 ?_
    refine g_iald (j := 0) K dX4_isOnPlate_24 rfl ln_176 (by decide) (rfl : kd 176 = 8) (by decide) (hR.se 0) ?_
    refine g_icmp_ge (tgt := 32) K dX4_isOnPlate_25 (by decide) (fun u25 => ?_) (fun u25 => ?_)
    · refine g_iconst K dX4_isOnPlate_32 kc_0 ?_
      refine g_zret K dX4_isOnPlate_33 (by first | exact Or.inl rfl | exact Or.inr rfl | assumption) ⟨_, rfl, ?_⟩
      refine ⟨?_, rfl⟩
      grind
    · refine g_iconst K dX4_isOnPlate_28 kc_1 ?_
      refine g_goto (tgt := 33) K dX4_isOnPlate_29 (by decide) ?_
      refine g_zret K dX4_isOnPlate_33 (by first | exact Or.inl rfl | exact Or.inr rfl | assumption) ⟨_, rfl, ?_⟩
      refine ⟨?_, rfl⟩
      grind
set_option maxHeartbeats 4000000 in
set_option maxRecDepth 100000 in
theorem c_X4_loadAt {l : Launch} {b : Nat} {D : va_G} {cA : Nat → ClassId} {ad : Nat → Nat} {S : ST} {se bh br lf : Nat → Int32} {sp : Int32} {N : Nat} {x : Int32} (hR : RC S se bh br lf sp N) : MT l b D cA NN ad zT yX4_loadAt cX4_loadAt 4 (some .int) 1 [.ref (ad 169), .int x] S (EI (ldF se bh br sp N x) S) := by
  have n5 := hR.n5
  refine MT.intro (j := 2) (ls := [some (.ref (ad 169)), some (.int x), none, none]) pn_X4 rfl rfl rfl (fun pr en s0 mi below meth c' K _ => ?_)
  have lp : ∀ (fuel : Nat) (i : Nat) (y : Int32), (N + 1 ≤ i + fuel) → (i ≤ N) → (y = sumF (fun a => if 0 ≤ sp * x - bh a ∧ sp * x - bh a < se 0 then br a else 0) i) → G pr l en (rmd 1) s0 mi (List.toArray [.ref (ad 169), .int x]) below meth c' (MQ below (QQ b D cA NN ad zT (EI (ldF se bh br sp N x) S)) (List.toArray [.ref (ad 169), .int x]) s0 0 0 (aF b)) b D cA 4 NN ad zT 0 0 4 [some (.ref (ad 169)), some (.int x), some (.int y), some (.int (nI i))] [] S := by
    intro fuel
    induction fuel with
    | zero =>
      intro i  y  hi hi2 hy
      omega
    | succ fuel ih =>
      intro i  y  hi hi2 hy
      refine g_iload_n K dX4_loadAt_4 rfl ?_
      refine g_aload_n K dX4_loadAt_5 rfl ?_
      refine g_geti K lk_X4_69 dX4_loadAt_6 rfl (rfl : kd 169 = 4) (by decide) (by decide) hR.n ?_
      refine g_icmp_ge (tgt := 36) K dX4_loadAt_9 (by decide) (fun u9 => ?_) (fun u9 => ?_)
      · have hiN : i = N := by
          rw [nI_leI (by omega) (by have := hR.n5; omega)] at u9
          omega
        subst hiN
        refine g_iload_n K dX4_loadAt_36 rfl ?_
        refine g_iret K dX4_loadAt_37 ⟨_, rfl, ?_⟩
        exact ⟨hy, rfl⟩
      · have hiN : i < N := by
          rw [nI_leI (by omega) (by have := hR.n5; omega)] at u9
          omega
        refine g_aload_n K dX4_loadAt_12 rfl ?_
        refine g_iload_n K dX4_loadAt_13 rfl ?_
        refine g_iload_n K dX4_loadAt_14 rfl ?_
        refine g_callVi K (c_X4_isOnPlate hR hiN) mw_X4_isOnPlate ml_X4_115 dX4_loadAt_15 (by rfl) rfl rfl (by decide) (by simp [Value.category]) ⟨by decide, by decide⟩ ⟨by decide, by decide⟩ ?_
        refine g_if_eq (tgt := 30) K dX4_loadAt_18 (by decide) (fun u18 => ?_) (fun u18 => ?_)
        · refine g_iinc (ls2 := [_, _, _, some (.int _)]) K dX4_loadAt_30 rfl kc_1 rfl ?_
          refine g_goto (tgt := 4) K dX4_loadAt_33 (by decide) ?_
          rw [nI_1]
          refine ih (i + 1) _ (by omega) (by omega) ?_
          rw [hy, sumF]
          grind
        · refine g_iload_n K dX4_loadAt_21 rfl ?_
          refine g_aload_n K dX4_loadAt_22 rfl ?_
          refine g_getr (j := 178) K lk_X4_41 dX4_loadAt_23 rfl (by decide) (rfl : kd 169 = 4) (by decide) (by decide) rfl (rfl : rs 169 8 = 178) ?_
          refine g_iload_n K dX4_loadAt_26 rfl ?_
          refine g_iald (j := i) K dX4_loadAt_27 rfl ln_178 (by omega) (rfl : kd 178 = 8) (by decide) (hR.br i) ?_
          refine g_iadd K dX4_loadAt_28 ?_
          refine g_istore_n (ls2 := [_, _, some (.int _), _]) K dX4_loadAt_29 (by decide) rfl ?_
          refine g_iinc (ls2 := [_, _, _, some (.int _)]) K dX4_loadAt_30 rfl kc_1 rfl ?_
          refine g_goto (tgt := 4) K dX4_loadAt_33 (by decide) ?_
          rw [nI_1]
          refine ih (i + 1) _ (by omega) (by omega) ?_
          rw [hy, sumF]
          grind
  refine g_iconst K dX4_loadAt_0 kc_0 ?_
  refine g_istore_n (ls2 := [_, _, some (.int _), _]) K dX4_loadAt_1 (by decide) rfl ?_
  refine g_iconst K dX4_loadAt_2 kc_0 ?_
  refine g_istore_n (ls2 := [_, _, _, some (.int _)]) K dX4_loadAt_3 (by decide) rfl ?_
  exact lp (N + 1) 0 0 (by omega) (by omega) rfl
set_option maxHeartbeats 4000000 in
set_option maxRecDepth 100000 in
theorem c_X4_readingOf {l : Launch} {b : Nat} {D : va_G} {cA : Nat → ClassId} {ad : Nat → Nat} {S : ST} {x y : Int32} {t : Nat} (ht : t < 120) : MT l b D cA NN ad zT yX4_readingOf cX4_readingOf 3 (some .int) 1 [.int x, .int y, .int (nI t)] S (EI (rdF x y t) S) := by
  refine MT.intro (j := 0) (ls := [some (.int x), some (.int y), some (.int (nI t))]) pn_X4 rfl rfl rfl (fun pr en s0 mi below meth c' K _ => ?_)
  refine g_iload_n K dX4_readingOf_0 rfl ?_
  refine g_iconst K dX4_readingOf_1 kc_4 ?_
  refine g_irem K dX4_readingOf_2 (by first | assumption | decide) ?_
  have hrem : nI t - nI t / 4 * 4 = nI (t % 4) := pk_rem (d := 4) (by omega) (by decide) (by decide)
  rw [hrem]
  rcases (show t % 4 = 0 ∨ t % 4 = 2 ∨ t % 4 = 1 ∨ t % 4 = 3 by omega) with ht4 | ht4 | ht4 | ht4
  · rw [ht4]
    refine g_lookup (off := 25) (tgt := 28) K dX4_readingOf_3 (by decide) (by decide) (by decide) ?_
    refine g_iload_n K dX4_readingOf_28 rfl ?_
    refine g_iload_n K dX4_readingOf_29 rfl ?_
    refine g_iadd K dX4_readingOf_30 ?_
    refine g_iret K dX4_readingOf_31 ⟨_, rfl, ?_⟩
    refine ⟨?_, rfl⟩
    unfold rdF
    rw [ht4]
    rfl
  · rw [ht4]
    refine g_lookup (off := 29) (tgt := 32) K dX4_readingOf_3 (by decide) (by decide) (by decide) ?_
    refine g_iload_n K dX4_readingOf_32 rfl ?_
    refine g_iload_n K dX4_readingOf_33 rfl ?_
    refine g_isub K dX4_readingOf_34 ?_
    refine g_iconst K dX4_readingOf_35 kc_0 ?_
    refine g_mmax K dX4_readingOf_36 mj_X4_129 ⟨by decide, by simp [Value.category, rmd], by simp, by simp⟩ ?_
    refine g_iret K dX4_readingOf_39 ⟨_, rfl, ?_⟩
    refine ⟨?_, rfl⟩
    unfold rdF
    rw [ht4]
    rfl
  · rw [ht4]
    refine g_lookup (off := 37) (tgt := 40) K dX4_readingOf_3 (by decide) (by decide) (by decide) ?_
    refine g_iload_n K dX4_readingOf_40 rfl ?_
    refine g_iret K dX4_readingOf_41 ⟨_, rfl, ?_⟩
    refine ⟨?_, rfl⟩
    unfold rdF
    rw [ht4]
    rfl
  · rw [ht4]
    refine g_lookup (off := 37) (tgt := 40) K dX4_readingOf_3 (by decide) (by decide) (by decide) ?_
    refine g_iload_n K dX4_readingOf_40 rfl ?_
    refine g_iret K dX4_readingOf_41 ⟨_, rfl, ?_⟩
    refine ⟨?_, rfl⟩
    unfold rdF
    rw [ht4]
    rfl
theorem g_nm {p : Program} {l : Launch} {e : Env} {R : Room} {s : State} {m : MethodId} {args : Array Value} {below : List Frame} {meth : Method} {c : Code} {Q : State → Prop} {b : Nat} {D : va_G} {cA : Nat → ClassId} {nL n : Nat} {ad : Nat → Nat} {Z : Nat → Nat → Bool} {cells slots : Nat} {pc : Nat} {ls : List (Option Value)} {st : List Value} {S : ST} {x y : Int32} (h : x = y) (k : G p l e R s m args below meth c Q b D cA nL n ad Z cells slots pc ls (.int y :: st) S) : G p l e R s m args below meth c Q b D cA nL n ad Z cells slots pc ls (.int x :: st) S := by
  rw [h]
  exact k
set_option maxHeartbeats 4000000 in
set_option maxRecDepth 100000 in
theorem c_X4_weigh {l : Launch} {b : Nat} {D : va_G} {cA : Nat → ClassId} {ad : Nat → Nat} {S : ST} {se bh br lf : Nat → Int32} {sp : Int32} {N : Nat} {t : Nat} (hR : RC S se bh br lf sp N) (ht : t < 120) (hp : 0 < t → S 170 (t - 1) = ldR se bh br sp N (t - 1) ∧ S 171 (t - 1) = swR se bh br sp N (t - 1)) : MT l b D cA NN ad zT yX4_weigh cX4_weigh 7 none 2 [.ref (ad 169), .int (nI t)] S (EV (stw (stw (stw S 170 t (ldR se bh br sp N t)) 171 t (swR se bh br sp N t)) 172 t (rdR se bh br sp N t))) := by
  refine MT.intro (j := 5) (ls := [some (.ref (ad 169)), some (.int (nI t)), none, none, none, none, none]) pn_X4 rfl rfl rfl (fun pr en s0 mi below meth c' K _ => ?_)
  have kb : ∀ (x3 x4 : Int32), (x3 = if t = 0 then 0 else ldR se bh br sp N (t - 1)) → (x4 = if t = 0 then 0 else swR se bh br sp N (t - 1)) → G pr l en (rmd 2) s0 mi (List.toArray [.ref (ad 169), .int (nI t)]) below meth c' (MQ below (QQ b D cA NN ad zT (EV (stw (stw (stw S 170 t (ldR se bh br sp N t)) 171 t (swR se bh br sp N t)) 172 t (rdR se bh br sp N t)))) (List.toArray [.ref (ad 169), .int (nI t)]) s0 0 0 (aF b)) b D cA 7 NN ad zT 0 0 41 [some (.ref (ad 169)), some (.int (nI t)), some (.int (ldR se bh br sp N t)), some (.int x3), some (.int x4), none, none] [] S := by
    intro x3 x4  h3 h4
    have hsw : x4 * se 2 / 100 + abF (ldR se bh br sp N t - x3) * se 1 / 100 = swR se bh br sp N t := by
      rw [h3, h4]
      cases t with
      | zero => rfl
      | succ t => rfl
    refine g_iload_n K dX4_weigh_41 rfl ?_
    refine g_iload_n K dX4_weigh_42 rfl ?_
    refine g_isub K dX4_weigh_43 ?_
    refine g_mabs K dX4_weigh_44 mj_X4_122 ⟨by decide, by simp [Value.category, rmd], by simp, by simp⟩ ?_
    refine g_istore (ls2 := [_, _, _, _, _, some (.int _), _]) K dX4_weigh_47 (by decide) rfl ?_
    refine g_iload K dX4_weigh_49 rfl ?_
    refine g_aload_n K dX4_weigh_51 rfl ?_
    refine g_getr (j := 176) K lk_X4_35 dX4_weigh_52 rfl (by decide) (rfl : kd 169 = 4) (by decide) (by decide) rfl (rfl : rs 169 6 = 176) ?_
    refine g_iconst K dX4_weigh_55 kc_2 ?_
    refine g_iald (j := 2) K dX4_weigh_56 rfl ln_176 (by decide) (rfl : kd 176 = 8) (by decide) (hR.se 2) ?_
    refine g_imul K dX4_weigh_57 ?_
    refine g_bipush K dX4_weigh_58 kb_100 ?_
    refine g_idiv K dX4_weigh_60 (by first | assumption | decide) ?_
    refine g_iload K dX4_weigh_61 rfl ?_
    refine g_aload_n K dX4_weigh_63 rfl ?_
    refine g_getr (j := 176) K lk_X4_35 dX4_weigh_64 rfl (by decide) (rfl : kd 169 = 4) (by decide) (by decide) rfl (rfl : rs 169 6 = 176) ?_
    refine g_iconst K dX4_weigh_67 kc_1 ?_
    refine g_iald (j := 1) K dX4_weigh_68 rfl ln_176 (by decide) (rfl : kd 176 = 8) (by decide) (hR.se 1) ?_
    refine g_imul K dX4_weigh_69 ?_
    refine g_bipush K dX4_weigh_70 kb_100 ?_
    refine g_idiv K dX4_weigh_72 (by first | assumption | decide) ?_
    refine g_iadd K dX4_weigh_73 ?_
    refine g_nm hsw ?_
    refine g_istore (ls2 := [_, _, _, _, _, _, some (.int _)]) K dX4_weigh_74 (by decide) rfl ?_
    refine g_aload_n K dX4_weigh_76 rfl ?_
    refine g_getr (j := 170) K lk_X4_9 dX4_weigh_77 rfl (by decide) (rfl : kd 169 = 4) (by decide) (by decide) rfl (rfl : rs 169 0 = 170) ?_
    refine g_iload_n K dX4_weigh_80 rfl ?_
    refine g_iload_n K dX4_weigh_81 rfl ?_
    refine g_iast (j := t) K dX4_weigh_82 rfl ln_170 (by first | assumption | omega) (rfl : kd 170 = 8) (by decide) rfl ?_
    refine g_aload_n K dX4_weigh_83 rfl ?_
    refine g_getr (j := 171) K lk_X4_15 dX4_weigh_84 rfl (by decide) (rfl : kd 169 = 4) (by decide) (by decide) rfl (rfl : rs 169 1 = 171) ?_
    refine g_iload_n K dX4_weigh_87 rfl ?_
    refine g_iload K dX4_weigh_88 rfl ?_
    refine g_iast (j := t) K dX4_weigh_90 rfl ln_171 (by first | assumption | omega) (rfl : kd 171 = 8) (by decide) rfl ?_
    refine g_aload_n K dX4_weigh_91 rfl ?_
    refine g_getr (j := 172) K lk_X4_18 dX4_weigh_92 rfl (by decide) (rfl : kd 169 = 4) (by decide) (by decide) rfl (rfl : rs 169 2 = 172) ?_
    refine g_iload_n K dX4_weigh_95 rfl ?_
    refine g_iload_n K dX4_weigh_96 rfl ?_
    refine g_iload K dX4_weigh_97 rfl ?_
    refine g_iload_n K dX4_weigh_99 rfl ?_
    refine g_callSi K (c_X4_readingOf ht) mw_X4_readingOf ml_X4_125 dX4_weigh_100 (by rfl) rfl (by simp [Value.category]) ⟨by decide, by decide⟩ ⟨by decide, by decide⟩ ?_
    refine g_iast (j := t) K dX4_weigh_103 rfl ln_172 (by first | assumption | omega) (rfl : kd 172 = 8) (by decide) rfl ?_
    refine g_vret K dX4_weigh_104 ⟨rfl, ?_⟩
    rfl
  have ka : ∀ (x3 : Int32), (x3 = if t = 0 then 0 else ldR se bh br sp N (t - 1)) → G pr l en (rmd 2) s0 mi (List.toArray [.ref (ad 169), .int (nI t)]) below meth c' (MQ below (QQ b D cA NN ad zT (EV (stw (stw (stw S 170 t (ldR se bh br sp N t)) 171 t (swR se bh br sp N t)) 172 t (rdR se bh br sp N t)))) (List.toArray [.ref (ad 169), .int (nI t)]) s0 0 0 (aF b)) b D cA 7 NN ad zT 0 0 23 [some (.ref (ad 169)), some (.int (nI t)), some (.int (ldR se bh br sp N t)), some (.int x3), none, none, none] [] S := by
    intro x3  h3
    refine g_iload_n K dX4_weigh_23 rfl ?_
    refine g_if_le (tgt := 38) K dX4_weigh_24 (by decide) (fun u24 => ?_) (fun u24 => ?_)
    · have h0 : t = 0 := by
        rw [show (0 : Int32) = nI 0 from rfl, nI_leI (by omega) (by omega)] at u24
        omega
      refine g_iconst K dX4_weigh_38 kc_0 ?_
      refine g_istore (ls2 := [_, _, _, _, some (.int _), _, _]) K dX4_weigh_39 (by decide) rfl ?_
      refine kb _ _ h3 ?_
      first
        | (rw [if_pos (by assumption)])
        | (rw [if_neg (by omega)]; exact (hp (by omega)).2)
    · have h0 : 0 < t := by
        rw [show (0 : Int32) = nI 0 from rfl, nI_leI (by omega) (by omega)] at u24
        omega
      refine g_aload_n K dX4_weigh_27 rfl ?_
      refine g_getr (j := 171) K lk_X4_15 dX4_weigh_28 rfl (by decide) (rfl : kd 169 = 4) (by decide) (by decide) rfl (rfl : rs 169 1 = 171) ?_
      refine g_iload_n K dX4_weigh_31 rfl ?_
      refine g_iconst K dX4_weigh_32 kc_1 ?_
      refine g_isub K dX4_weigh_33 ?_
      refine g_iald (j := (t - 1)) K dX4_weigh_34 (nI_sub1 h0) ln_171 (by omega) (rfl : kd 171 = 8) (by decide) rfl ?_
      refine g_goto (tgt := 39) K dX4_weigh_35 (by decide) ?_
      refine g_istore (ls2 := [_, _, _, _, some (.int _), _, _]) K dX4_weigh_39 (by decide) rfl ?_
      refine kb _ _ h3 ?_
      first
        | (rw [if_pos (by assumption)])
        | (rw [if_neg (by omega)]; exact (hp (by omega)).2)
  refine g_aload_n K dX4_weigh_0 rfl ?_
  refine g_iload_n K dX4_weigh_1 rfl ?_
  refine g_callVi K (c_X4_loadAt (x := nI t) hR) mw_X4_loadAt ml_X4_119 dX4_weigh_2 (by rfl) rfl rfl (by decide) (by simp [Value.category]) ⟨by decide, by decide⟩ ⟨by decide, by decide⟩ ?_
  refine g_istore_n (ls2 := [_, _, some (.int _), _, _, _, _]) K dX4_weigh_5 (by decide) rfl ?_
  refine g_iload_n K dX4_weigh_6 rfl ?_
  refine g_if_le (tgt := 21) K dX4_weigh_7 (by decide) (fun u7 => ?_) (fun u7 => ?_)
  · have h0 : t = 0 := by
      rw [show (0 : Int32) = nI 0 from rfl, nI_leI (by omega) (by omega)] at u7
      omega
    refine g_iconst K dX4_weigh_21 kc_0 ?_
    refine g_istore_n (ls2 := [_, _, _, some (.int _), _, _, _]) K dX4_weigh_22 (by decide) rfl ?_
    refine ka _ ?_
    first
      | (rw [if_pos (by assumption)])
      | (rw [if_neg (by omega)]; exact (hp (by omega)).1)
  · have h0 : 0 < t := by
      rw [show (0 : Int32) = nI 0 from rfl, nI_leI (by omega) (by omega)] at u7
      omega
    refine g_aload_n K dX4_weigh_10 rfl ?_
    refine g_getr (j := 170) K lk_X4_9 dX4_weigh_11 rfl (by decide) (rfl : kd 169 = 4) (by decide) (by decide) rfl (rfl : rs 169 0 = 170) ?_
    refine g_iload_n K dX4_weigh_14 rfl ?_
    refine g_iconst K dX4_weigh_15 kc_1 ?_
    refine g_isub K dX4_weigh_16 ?_
    refine g_iald (j := (t - 1)) K dX4_weigh_17 (nI_sub1 h0) ln_170 (by omega) (rfl : kd 170 = 8) (by decide) rfl ?_
    refine g_goto (tgt := 22) K dX4_weigh_18 (by decide) ?_
    refine g_istore_n (ls2 := [_, _, _, some (.int _), _, _, _]) K dX4_weigh_22 (by decide) rfl ?_
    refine ka _ ?_
    first
      | (rw [if_pos (by assumption)])
      | (rw [if_neg (by omega)]; exact (hp (by omega)).1)
