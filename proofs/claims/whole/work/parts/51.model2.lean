theorem row_182 : RowAt 182 129 := ⟨by decide, by decide, by decide⟩
theorem row_183 : RowAt 183 516 := ⟨by decide, by decide, by decide⟩
theorem row_184 : RowAt 184 129 := ⟨by decide, by decide, by decide⟩
theorem cpR_in {S : ST} {a c p q k : Nat} (h : k < 129) : cpR S a c p q 129 (q + k) = S a (p + k) := by
  unfold cpR
  rw [if_pos (by omega)]
  congr 1
  omega
theorem cpR_out {S : ST} {a c p q k : Nat} (h : k < q ∨ q + 129 ≤ k) : cpR S a c p q 129 k = S c k := if_neg (by omega)
set_option maxHeartbeats 4000000 in
set_option maxRecDepth 100000 in
theorem c_X7_record {l : Launch} {b : Nat} {D : va_G} {cA : Nat → ClassId} {ad : Nat → Nat} {S : ST} {A : AS} (hA : MRel S A) : MT l b D cA NN ad zT yX7_record cX7_record 2 none 1 [.ref (ad 181)] S (RV (fun S2 => MRel S2 (recA A) ∧ ∀ k, k ≠ 181 → k ≠ 183 → S2 k = S k)) := by
  refine MT.intro (j := 1) (ls := [some (.ref (ad 181)), none]) pn_X7 rfl rfl rfl (fun pr en s0 mi below meth c' K _ => ?_)
  have kb : ∀ (m : Nat) (S1 : ST), (S1 181 2 = nI m) → (m < 4) → (∀ k, k ≠ 181 → k ≠ 183 → S1 k = S k) → (S1 181 4 = S 181 4 ∧ S1 181 6 = S 181 6) → (∀ i, i < m → ∀ k, k < 129 → S1 183 (129 * i + k) = aP (recA A) i k) → (aM (recA A) = m + 1) → (aP (recA A) m = aZ A) → G pr l en (rmd 1) s0 mi (List.toArray [.ref (ad 181)]) below meth c' (MQ below (QQ b D cA NN ad zT (RV (fun S2 => MRel S2 (recA A) ∧ ∀ k, k ≠ 181 → k ≠ 183 → S2 k = S k))) (List.toArray [.ref (ad 181)]) s0 0 0 (aF b)) b D cA 2 NN ad zT 0 0 49 [some (.ref (ad 181)), none] [] S1 := by
    intro m  S1  hm hm4 h0 h46 hpast hmr hlast
    refine g_aload_n K dX7_record_49 rfl ?_
    refine g_getr (j := 182) K lk_X7_7 dX7_record_50 rfl (by decide) (rfl : kd 181 = 7) (by decide) (by decide) rfl (rfl : rs 181 0 = 182) ?_
    refine g_iconst K dX7_record_53 kc_0 ?_
    refine g_aload_n K dX7_record_54 rfl ?_
    refine g_getr (j := 183) K lk_X7_13 dX7_record_55 rfl (by decide) (rfl : kd 181 = 7) (by decide) (by decide) rfl (rfl : rs 181 1 = 183) ?_
    refine g_sipush K dX7_record_58 kp_129 ?_
    refine g_aload_n K dX7_record_61 rfl ?_
    refine g_geti K lk_X7_58 dX7_record_62 rfl (rfl : kd 181 = 7) (by decide) (by decide) hm ?_
    refine g_imul K dX7_record_65 ?_
    rw [show (129 : Int32) * nI m = nI (129 * m) from pk_mul 129 m]
    refine g_callSv K (c_X7_copyState (p := 0) (q := 129 * m) row_182 row_183 (by decide) (by decide) (by omega) (by decide) (by decide)) mw_X7_copyState ml_X7_62 dX7_record_66 (by rfl) rfl (by simp [Value.category]) ⟨by decide, by decide⟩ ⟨by decide, by decide⟩ ?_
    refine g_aload_n K dX7_record_69 rfl ?_
    refine g_dup K dX7_record_70 rfl ?_
    refine g_geti K lk_X7_58 dX7_record_71 rfl (rfl : kd 181 = 7) (by decide) (by decide) ((congrFun (str_n (by decide)) 2).trans hm) ?_
    refine g_iconst K dX7_record_74 kc_1 ?_
    refine g_iadd K dX7_record_75 ?_
    refine g_puti K lk_X7_58 lq_X7_2 dX7_record_76 (put_i _) rfl (rfl : kd 181 = 7) (by decide) (by decide) ?_
    refine g_vret K dX7_record_79 ⟨rfl, ?_⟩
    have hz1 : MZ S1 (aZ A) := fun k hk => by rw [h0 182 (by decide) (by decide)]; exact hA.1 k hk
    refine ⟨⟨fun k hk => ?_, ⟨?_, ?_, fun i hi k hk => ?_⟩, ?_, ?_⟩, fun k a b => ?_⟩
    · rw [stw_n (by decide), str_n (by decide)]
      exact hz1 k hk
    · rw [stw_app, if_pos ⟨rfl, rfl⟩, nI_1, hmr]
    · rw [hmr]
      omega
    · rw [hmr] at hi
      rw [stw_n (by decide), str_s]
      by_cases e : i = m
      · subst e
        rw [cpR_in hk, hlast, Nat.zero_add]
        exact hz1 k hk
      · rw [cpR_out (by omega)]
        exact hpast i (by omega) k hk
    · show stw _ 181 2 _ 181 4 = aK A ∧ (aK A = 0 ∨ aK A = 1) ∧ (aK A = 1 → ∀ k, k < 129 → stw _ 181 2 _ 184 k = aKZ A k)
      rw [stw_app, if_neg (by decide), str_n (by decide), h46.1, stw_n (by decide), str_n (by decide), h0 184 (by decide) (by decide)]
      exact hA.2.2.1
    · show stw _ 181 2 _ 181 6 = nI (aL A) ∧ aL A ≤ 60 ∧ ∀ i, i < aL A → stw _ 181 2 _ 185 i = aT A i
      rw [stw_app, if_neg (by decide), str_n (by decide), h46.2, stw_n (by decide), str_n (by decide), h0 185 (by decide) (by decide)]
      exact hA.2.2.2
    · rw [stw_n a, str_n b]
      exact h0 k a b
  have lp : ∀ (fuel : Nat) (i : Nat), (387 + 1 ≤ i + fuel) → (i ≤ 387) → (aM A = 4) → G pr l en (rmd 1) s0 mi (List.toArray [.ref (ad 181)]) below meth c' (MQ below (QQ b D cA NN ad zT (RV (fun S2 => MRel S2 (recA A) ∧ ∀ k, k ≠ 181 → k ≠ 183 → S2 k = S k))) (List.toArray [.ref (ad 181)]) s0 0 0 (aF b)) b D cA 2 NN ad zT 0 0 10 [some (.ref (ad 181)), some (.int (nI i))] [] (str S 183 (sh1 (S 183) i)) := by
    intro fuel
    induction fuel with
    | zero =>
      intro i  hi hi2 h4
      omega
    | succ fuel ih =>
      intro i  hi hi2 h4
      refine g_iload_n K dX7_record_10 rfl ?_
      refine g_sipush K dX7_record_11 kp_387 ?_
      refine g_icmp_ge (tgt := 39) K dX7_record_14 (by decide) (fun u14 => ?_) (fun u14 => ?_)
      · have hi3 : i = 387 := by
          rw [show (387 : Int32) = nI 387 from rfl, nI_leI (by omega) (by omega)] at u14
          omega
        subst hi3
        refine g_aload_n K dX7_record_39 rfl ?_
        refine g_dup K dX7_record_40 rfl ?_
        refine g_geti K lk_X7_58 dX7_record_41 rfl (rfl : kd 181 = 7) (by decide) (by decide) (show str S 183 (sh1 (S 183) 387) 181 2 = nI 4 by rw [str_n (by decide), hA.2.1.1, h4]) ?_
        refine g_iconst K dX7_record_44 kc_1 ?_
        refine g_isub K dX7_record_45 ?_
        refine g_puti K lk_X7_58 lq_X7_2 dX7_record_46 (put_i _) rfl (rfl : kd 181 = 7) (by decide) (by decide) ?_
        refine g_drop (ls2 := [_, none]) 1 rfl ?_
        first
          | exact kb (aM A) S hA.2.1.1 (by have := hA.2.1.2.1; omega) (fun _ _ _ => rfl) ⟨rfl, rfl⟩ (fun i hi k hk => by
              rw [hA.2.1.2.2 i hi k hk]
              show aP A i k = (if aM A = 4 then (if i = 3 then aZ A else aP A (i + 1)) else if i = aM A then aZ A else aP A i) k
              rw [if_neg h4, if_neg (by omega)]) (by
              show (if aM A = 4 then 4 else aM A + 1) = aM A + 1
              rw [if_neg h4]) (by
              show (if aM A = 4 then (if aM A = 3 then aZ A else aP A (aM A + 1)) else if aM A = aM A then aZ A else aP A (aM A)) = aZ A
              rw [if_neg h4, if_pos rfl])
          | exact kb 3 _ (by rw [stw_app, if_pos ⟨rfl, rfl⟩]; exact nI_pred 3) (by decide) (fun k a b => (stw_n a).trans (str_n b)) ⟨by rw [stw_app, if_neg (by decide), str_n (by decide)], by rw [stw_app, if_neg (by decide), str_n (by decide)]⟩ (fun i hi k hk => by
              rw [stw_n (by decide), str_s]
              unfold sh1
              rw [if_pos (by omega), show 129 * i + k + 129 = 129 * (i + 1) + k by omega, hA.2.1.2.2 (i + 1) (by omega) k hk]
              show aP A (i + 1) k = (if aM A = 4 then (if i = 3 then aZ A else aP A (i + 1)) else if i = aM A then aZ A else aP A i) k
              rw [if_pos h4, if_neg (by omega)]) (by
              show (if aM A = 4 then 4 else aM A + 1) = 3 + 1
              rw [if_pos h4]) (by
              show (if aM A = 4 then (if 3 = 3 then aZ A else aP A (3 + 1)) else if 3 = aM A then aZ A else aP A 3) = aZ A
              rw [if_pos h4, if_pos rfl])
      · have hi3 : i < 387 := by
          rw [show (387 : Int32) = nI 387 from rfl, nI_leI (by omega) (by omega)] at u14
          omega
        refine g_aload_n K dX7_record_17 rfl ?_
        refine g_getr (j := 183) K lk_X7_13 dX7_record_18 rfl (by decide) (rfl : kd 181 = 7) (by decide) (by decide) rfl (rfl : rs 181 1 = 183) ?_
        refine g_iload_n K dX7_record_21 rfl ?_
        refine g_aload_n K dX7_record_22 rfl ?_
        refine g_getr (j := 183) K lk_X7_13 dX7_record_23 rfl (by decide) (rfl : kd 181 = 7) (by decide) (by decide) rfl (rfl : rs 181 1 = 183) ?_
        refine g_iload_n K dX7_record_26 rfl ?_
        refine g_sipush K dX7_record_27 kp_129 ?_
        refine g_iadd K dX7_record_30 ?_
        rw [show nI i + (129 : Int32) = nI (i + 129) from nI_add i 129]
        refine g_iald (j := (i + 129)) K dX7_record_31 rfl ln_183 (by omega) (rfl : kd 183 = 8) (by decide) (show str S 183 (sh1 (S 183) i) 183 (i + 129) = S 183 (i + 129) by rw [str_s]; exact if_neg (by omega)) ?_
        refine g_iast (j := i) K dX7_record_32 rfl ln_183 (by omega) (rfl : kd 183 = 8) (by decide) rfl ?_
        refine g_iinc (ls2 := [_, some (.int _)]) K dX7_record_33 rfl kc_1 rfl ?_
        refine g_goto (tgt := 10) K dX7_record_36 (by decide) ?_
        rw [nI_1, stw_str, sh1_step]
        exact ih (i + 1) (by omega) (by omega) h4
  refine g_aload_n K dX7_record_0 rfl ?_
  refine g_geti K lk_X7_58 dX7_record_1 rfl (rfl : kd 181 = 7) (by decide) (by decide) hA.2.1.1 ?_
  refine g_iconst K dX7_record_4 kc_4 ?_
  refine g_icmp_ne (tgt := 49) K dX7_record_5 (by decide) (fun u5 => ?_) (fun u5 => ?_)
  · have h4 : ¬ aM A = 4 := fun q => u5 (by rw [q]; rfl)
    first
      | exact kb (aM A) S hA.2.1.1 (by have := hA.2.1.2.1; omega) (fun _ _ _ => rfl) ⟨rfl, rfl⟩ (fun i hi k hk => by
          rw [hA.2.1.2.2 i hi k hk]
          show aP A i k = (if aM A = 4 then (if i = 3 then aZ A else aP A (i + 1)) else if i = aM A then aZ A else aP A i) k
          rw [if_neg h4, if_neg (by omega)]) (by
          show (if aM A = 4 then 4 else aM A + 1) = aM A + 1
          rw [if_neg h4]) (by
          show (if aM A = 4 then (if aM A = 3 then aZ A else aP A (aM A + 1)) else if aM A = aM A then aZ A else aP A (aM A)) = aZ A
          rw [if_neg h4, if_pos rfl])
      | exact kb 3 _ (by rw [stw_app, if_pos ⟨rfl, rfl⟩]; exact nI_pred 3) (by decide) (fun k a b => (stw_n a).trans (str_n b)) ⟨by rw [stw_app, if_neg (by decide), str_n (by decide)], by rw [stw_app, if_neg (by decide), str_n (by decide)]⟩ (fun i hi k hk => by
          rw [stw_n (by decide), str_s]
          unfold sh1
          rw [if_pos (by omega), show 129 * i + k + 129 = 129 * (i + 1) + k by omega, hA.2.1.2.2 (i + 1) (by omega) k hk]
          show aP A (i + 1) k = (if aM A = 4 then (if i = 3 then aZ A else aP A (i + 1)) else if i = aM A then aZ A else aP A i) k
          rw [if_pos h4, if_neg (by omega)]) (by
          show (if aM A = 4 then 4 else aM A + 1) = 3 + 1
          rw [if_pos h4]) (by
          show (if aM A = 4 then (if 3 = 3 then aZ A else aP A (3 + 1)) else if 3 = aM A then aZ A else aP A 3) = aZ A
          rw [if_pos h4, if_pos rfl])
  · have h4 : aM A = 4 := by
      have h4 := u5
      rw [show (4 : Int32) = nI 4 from rfl, nI_eq (by have := hA.2.1.2.1; omega) (by decide)] at h4
      exact h4
    refine g_iconst K dX7_record_8 kc_0 ?_
    refine g_istore_n (ls2 := [_, some (.int _)]) K dX7_record_9 (by decide) rfl ?_
    refine g_same (S' := str S 183 (sh1 (S 183) 0)) (Nat.le_refl _) (fun k j _ _ => ?_) (lp (387 + 1) 0 (by omega) (by omega) h4)
    have e : sh1 (S 183) 0 = S 183 := funext fun k => if_neg (by omega)
    rw [e, str_self]
