set_option maxHeartbeats 4000000 in
set_option maxRecDepth 100000 in
theorem c_X7_record2 {l : Launch} {b : Nat} {D : va_G} {cA : Nat → ClassId} {ad : Nat → Nat} {S : ST} {A : AS} (hA : MRel S A) : MT l b D cA NN ad zT yX7_record cX7_record 2 none 1 [.ref (ad 181)] S (RV (fun S2 => MRel S2 (recA A) ∧ (∀ k, k ≠ 181 → k ≠ 183 → S2 k = S k) ∧ ∀ j, j ≠ 2 → S2 181 j = S 181 j)) := by
  refine MT.intro (j := 1) (ls := [some (.ref (ad 181)), none]) pn_X7 rfl rfl rfl (fun pr en s0 mi below meth c' K _ => ?_)
  have kb : ∀ (m : Nat) (S1 : ST), (S1 181 2 = nI m) → (m < 4) → (∀ k, k ≠ 181 → k ≠ 183 → S1 k = S k) → (∀ j, j ≠ 2 → S1 181 j = S 181 j) → (∀ i, i < m → ∀ k, k < 129 → S1 183 (129 * i + k) = aP (recA A) i k) → (aM (recA A) = m + 1) → (aP (recA A) m = aZ A) → G pr l en (rmd 1) s0 mi (List.toArray [.ref (ad 181)]) below meth c' (MQ below (QQ b D cA NN ad zT (RV (fun S2 => MRel S2 (recA A) ∧ (∀ k, k ≠ 181 → k ≠ 183 → S2 k = S k) ∧ ∀ j, j ≠ 2 → S2 181 j = S 181 j))) (List.toArray [.ref (ad 181)]) s0 0 0 (aF b)) b D cA 2 NN ad zT 0 0 49 [some (.ref (ad 181)), none] [] S1 := by
    intro m  S1  hm hm4 h0 h46 hpast hmr hlast
    refine g_aload_n K dX7_record_49 rfl ?_
    refine g_getr (j := 182) K lk_X7_7 dX7_record_50 rfl (by decide) (rfl : kd 181 = 7) (by decide) (by decide) rfl (rfl : rs 181 0 = 182) ?_
    refine g_iconst K dX7_record_53 kc_0 ?_
    refine g_aload_n K dX7_record_54 rfl ?_
    refine g_getr (j := 183) K lk_X7_13 dX7_record_55 rfl (by decide) (rfl : kd 181 = 7) (by decide) (by decide) rfl (rfl : rs 181 1 = 183) ?_
    refine g_sipush K dX7_record_58 kp_129 ?_
    refine g_aload_n K dX7_record_61 rfl ?_
    refine g_geti K lk_X7_58 dX7_record_62 rfl (rfl : kd 181 = 7) (by decide) (by decide) hm ?_
    refine g_imul K dX7_record_65 ?_
    rw [show (129 : Int32) * nI m = nI (129 * m) from pk_mul 129 m]
    refine g_callSv K (c_X7_copyState (p := 0) (q := 129 * m) row_182 row_183 (by decide) (by decide) (by omega) (by decide) (by decide)) mw_X7_copyState ml_X7_62 dX7_record_66 (by rfl) rfl (by simp [Value.category]) ⟨by decide, by decide⟩ ⟨by decide, by decide⟩ ?_
    refine g_aload_n K dX7_record_69 rfl ?_
    refine g_dup K dX7_record_70 rfl ?_
    refine g_geti K lk_X7_58 dX7_record_71 rfl (rfl : kd 181 = 7) (by decide) (by decide) ((congrFun (str_n (by decide)) 2).trans hm) ?_
    refine g_iconst K dX7_record_74 kc_1 ?_
    refine g_iadd K dX7_record_75 ?_
    refine g_puti K lk_X7_58 lq_X7_2 dX7_record_76 (put_i _) rfl (rfl : kd 181 = 7) (by decide) (by decide) ?_
    refine g_vret K dX7_record_79 ⟨rfl, ?_⟩
    have hz1 : MZ S1 (aZ A) := fun k hk => by rw [h0 182 (by decide) (by decide)]; exact hA.1 k hk
    refine ⟨⟨fun k hk => ?_, ⟨?_, ?_, fun i hi k hk => ?_⟩, ?_, ?_⟩, fun k a b => ?_, fun j hj => ?_⟩
    · rw [stw_n (by decide), str_n (by decide)]
      exact hz1 k hk
    · rw [stw_app, if_pos ⟨rfl, rfl⟩, nI_1, hmr]
    · rw [hmr]
      omega
    · rw [hmr] at hi
      rw [stw_n (by decide), str_s]
      by_cases e : i = m
      · subst e
        rw [cpR_in hk, hlast, Nat.zero_add]
        exact hz1 k hk
      · rw [cpR_out (by omega)]
        exact hpast i (by omega) k hk
    · show stw _ 181 2 _ 181 4 = aK A ∧ (aK A = 0 ∨ aK A = 1) ∧ (aK A = 1 → ∀ k, k < 129 → stw _ 181 2 _ 184 k = aKZ A k)
      rw [stw_app, if_neg (by decide), str_n (by decide), h46 4 (by decide), stw_n (by decide), str_n (by decide), h0 184 (by decide) (by decide)]
      exact hA.2.2.1
    · show stw _ 181 2 _ 181 6 = nI (aL A) ∧ aL A ≤ 60 ∧ ∀ i, i < aL A → stw _ 181 2 _ 185 i = aT A i
      rw [stw_app, if_neg (by decide), str_n (by decide), h46 6 (by decide), stw_n (by decide), str_n (by decide), h0 185 (by decide) (by decide)]
      exact hA.2.2.2
    · rw [stw_n a, str_n b]
      exact h0 k a b
    · rw [stw_app, if_neg (fun q => hj q.2), str_n (by decide)]
      exact h46 j hj
  have lp : ∀ (fuel : Nat) (i : Nat), (387 + 1 ≤ i + fuel) → (i ≤ 387) → (aM A = 4) → G pr l en (rmd 1) s0 mi (List.toArray [.ref (ad 181)]) below meth c' (MQ below (QQ b D cA NN ad zT (RV (fun S2 => MRel S2 (recA A) ∧ (∀ k, k ≠ 181 → k ≠ 183 → S2 k = S k) ∧ ∀ j, j ≠ 2 → S2 181 j = S 181 j))) (List.toArray [.ref (ad 181)]) s0 0 0 (aF b)) b D cA 2 NN ad zT 0 0 10 [some (.ref (ad 181)), some (.int (nI i))] [] (str S 183 (sh1 (S 183) i)) := by
    intro fuel
    induction fuel with
    | zero =>
      intro i  hi hi2 h4
      omega
    | succ fuel ih =>
      intro i  hi hi2 h4
      refine g_iload_n K dX7_record_10 rfl ?_
      refine g_sipush K dX7_record_11 kp_387 ?_
      refine g_icmp_ge (tgt := 39) K dX7_record_14 (by decide) (fun u14 => ?_) (fun u14 => ?_)
      · have hi3 : i = 387 := by
          rw [show (387 : Int32) = nI 387 from rfl, nI_leI (by omega) (by omega)] at u14
          omega
        subst hi3
        refine g_aload_n K dX7_record_39 rfl ?_
        refine g_dup K dX7_record_40 rfl ?_
        refine g_geti K lk_X7_58 dX7_record_41 rfl (rfl : kd 181 = 7) (by decide) (by decide) (show str S 183 (sh1 (S 183) 387) 181 2 = nI 4 by rw [str_n (by decide), hA.2.1.1, h4]) ?_
        refine g_iconst K dX7_record_44 kc_1 ?_
        refine g_isub K dX7_record_45 ?_
        refine g_puti K lk_X7_58 lq_X7_2 dX7_record_46 (put_i _) rfl (rfl : kd 181 = 7) (by decide) (by decide) ?_
        refine g_drop (ls2 := [_, none]) 1 rfl ?_
        first
          | exact kb (aM A) S hA.2.1.1 (by have := hA.2.1.2.1; omega) (fun _ _ _ => rfl) (fun _ _ => rfl) (fun i hi k hk => by
              rw [hA.2.1.2.2 i hi k hk]
              show aP A i k = (if aM A = 4 then (if i = 3 then aZ A else aP A (i + 1)) else if i = aM A then aZ A else aP A i) k
              rw [if_neg h4, if_neg (by omega)]) (by
              show (if aM A = 4 then 4 else aM A + 1) = aM A + 1
              rw [if_neg h4]) (by
              show (if aM A = 4 then (if aM A = 3 then aZ A else aP A (aM A + 1)) else if aM A = aM A then aZ A else aP A (aM A)) = aZ A
              rw [if_neg h4, if_pos rfl])
          | exact kb 3 _ (by rw [stw_app, if_pos ⟨rfl, rfl⟩]; exact nI_pred 3) (by decide) (fun k a b => (stw_n a).trans (str_n b)) (fun j hj => by rw [stw_app, if_neg (fun q => hj q.2), str_n (by decide)]) (fun i hi k hk => by
              rw [stw_n (by decide), str_s]
              unfold sh1
              rw [if_pos (by omega), show 129 * i + k + 129 = 129 * (i + 1) + k by omega, hA.2.1.2.2 (i + 1) (by omega) k hk]
              show aP A (i + 1) k = (if aM A = 4 then (if i = 3 then aZ A else aP A (i + 1)) else if i = aM A then aZ A else aP A i) k
              rw [if_pos h4, if_neg (by omega)]) (by
              show (if aM A = 4 then 4 else aM A + 1) = 3 + 1
              rw [if_pos h4]) (by
              show (if aM A = 4 then (if 3 = 3 then aZ A else aP A (3 + 1)) else if 3 = aM A then aZ A else aP A 3) = aZ A
              rw [if_pos h4, if_pos rfl])
      · have hi3 : i < 387 := by
          rw [show (387 : Int32) = nI 387 from rfl, nI_leI (by omega) (by omega)] at u14
          omega
        refine g_aload_n K dX7_record_17 rfl ?_
        refine g_getr (j := 183) K lk_X7_13 dX7_record_18 rfl (by decide) (rfl : kd 181 = 7) (by decide) (by decide) rfl (rfl : rs 181 1 = 183) ?_
        refine g_iload_n K dX7_record_21 rfl ?_
        refine g_aload_n K dX7_record_22 rfl ?_
        refine g_getr (j := 183) K lk_X7_13 dX7_record_23 rfl (by decide) (rfl : kd 181 = 7) (by decide) (by decide) rfl (rfl : rs 181 1 = 183) ?_
        refine g_iload_n K dX7_record_26 rfl ?_
        refine g_sipush K dX7_record_27 kp_129 ?_
        refine g_iadd K dX7_record_30 ?_
        rw [show nI i + (129 : Int32) = nI (i + 129) from nI_add i 129]
        refine g_iald (j := (i + 129)) K dX7_record_31 rfl ln_183 (by omega) (rfl : kd 183 = 8) (by decide) (show str S 183 (sh1 (S 183) i) 183 (i + 129) = S 183 (i + 129) by rw [str_s]; exact if_neg (by omega)) ?_
        refine g_iast (j := i) K dX7_record_32 rfl ln_183 (by omega) (rfl : kd 183 = 8) (by decide) rfl ?_
        refine g_iinc (ls2 := [_, some (.int _)]) K dX7_record_33 rfl kc_1 rfl ?_
        refine g_goto (tgt := 10) K dX7_record_36 (by decide) ?_
        rw [nI_1, stw_str, sh1_step]
        exact ih (i + 1) (by omega) (by omega) h4
  refine g_aload_n K dX7_record_0 rfl ?_
  refine g_geti K lk_X7_58 dX7_record_1 rfl (rfl : kd 181 = 7) (by decide) (by decide) hA.2.1.1 ?_
  refine g_iconst K dX7_record_4 kc_4 ?_
  refine g_icmp_ne (tgt := 49) K dX7_record_5 (by decide) (fun u5 => ?_) (fun u5 => ?_)
  · have h4 : ¬ aM A = 4 := fun q => u5 (by rw [q]; rfl)
    first
      | exact kb (aM A) S hA.2.1.1 (by have := hA.2.1.2.1; omega) (fun _ _ _ => rfl) (fun _ _ => rfl) (fun i hi k hk => by
          rw [hA.2.1.2.2 i hi k hk]
          show aP A i k = (if aM A = 4 then (if i = 3 then aZ A else aP A (i + 1)) else if i = aM A then aZ A else aP A i) k
          rw [if_neg h4, if_neg (by omega)]) (by
          show (if aM A = 4 then 4 else aM A + 1) = aM A + 1
          rw [if_neg h4]) (by
          show (if aM A = 4 then (if aM A = 3 then aZ A else aP A (aM A + 1)) else if aM A = aM A then aZ A else aP A (aM A)) = aZ A
          rw [if_neg h4, if_pos rfl])
      | exact kb 3 _ (by rw [stw_app, if_pos ⟨rfl, rfl⟩]; exact nI_pred 3) (by decide) (fun k a b => (stw_n a).trans (str_n b)) (fun j hj => by rw [stw_app, if_neg (fun q => hj q.2), str_n (by decide)]) (fun i hi k hk => by
          rw [stw_n (by decide), str_s]
          unfold sh1
          rw [if_pos (by omega), show 129 * i + k + 129 = 129 * (i + 1) + k by omega, hA.2.1.2.2 (i + 1) (by omega) k hk]
          show aP A (i + 1) k = (if aM A = 4 then (if i = 3 then aZ A else aP A (i + 1)) else if i = aM A then aZ A else aP A i) k
          rw [if_pos h4, if_neg (by omega)]) (by
          show (if aM A = 4 then 4 else aM A + 1) = 3 + 1
          rw [if_pos h4]) (by
          show (if aM A = 4 then (if 3 = 3 then aZ A else aP A (3 + 1)) else if 3 = aM A then aZ A else aP A 3) = aZ A
          rw [if_pos h4, if_pos rfl])
  · have h4 : aM A = 4 := by
      have h4 := u5
      rw [show (4 : Int32) = nI 4 from rfl, nI_eq (by have := hA.2.1.2.1; omega) (by decide)] at h4
      exact h4
    refine g_iconst K dX7_record_8 kc_0 ?_
    refine g_istore_n (ls2 := [_, some (.int _)]) K dX7_record_9 (by decide) rfl ?_
    refine g_same (S' := str S 183 (sh1 (S 183) 0)) (Nat.le_refl _) (fun k j _ _ => ?_) (lp (387 + 1) 0 (by omega) (by omega) h4)
    have e : sh1 (S 183) 0 = S 183 := funext fun k => if_neg (by omega)
    rw [e, str_self]
theorem prun_len {f : Nat → Int32} : ∀ (r pos : Nat) (p : PSt) (L : List (Nat × Nat)), PInv p → szP p ≤ pos → prun f r pos p = .inr L → L.length ≤ pos + r := by
  intro r
  induction r with
  | zero =>
    intro pos p L hI hz h
    by_cases c : p.2.1 = 1 ∨ ¬ wholeP p
    · rw [prun_0 c] at h
      cases h
    · have hw : wholeP p := Classical.byContradiction (fun q => c (Or.inr q))
      rw [prun_1 (fun q => c (Or.inl q)) hw] at h
      have e := Sum.inr.inj h
      subst e
      have := hw.pos
      unfold szP at hz
      rw [if_neg this] at hz
      rw [List.length_append]
      simp only [List.length_cons, List.length_nil]
      omega
  | succ r ih =>
    intro pos p L hI hz h
    cases hs : pstep p (f pos) with
    | none =>
      rw [prun_n hs] at h
      cases h
    | some p2 =>
      rw [prun_s hs] at h
      obtain ⟨g1, g2⟩ := pstep_inv hI hs
      have := ih (pos + 1) p2 L g1 (by omega) h
      omega
/-- the last cart's axles, in the end -/
def EC : List (Nat × Nat) → Nat → Nat
  | [], a => a
  | x :: t, a => if x.1 = 0 then a else EC t (a + 1)
theorem EC_ge : ∀ (t : List (Nat × Nat)) (a : Nat), a ≤ EC t a := by
  intro t
  induction t with
  | nil => intro a; exact Nat.le_refl _
  | cons x t ih =>
    intro a
    have := ih (a + 1)
    unfold EC
    split <;> omega
theorem EC_le : ∀ (t : List (Nat × Nat)) (a : Nat), wfI t a → a ≤ 5 → EC t a ≤ 5 := by
  intro t
  induction t with
  | nil => intro a _ h; exact h
  | cons x t ih =>
    intro a hw h
    unfold EC
    split
    · exact h
    · next e =>
      simp only [wfI, e, if_false] at hw
      exact ih (a + 1) hw.2.2.2 (by omega)
theorem EC_ok {g : Nat → Int32} : ∀ (t : List (Nat × Nat)) (k a : Nat), TT g t (k + 1) a → g (11 * (k + cntI t)) = nI (trI t a) → g (11 * k) = nI (EC t a) := by
  intro t
  induction t with
  | nil => intro k a _ h; exact h
  | cons x t ih =>
    intro k a hT h
    rw [cnt_cons] at h
    by_cases e : x.1 = 0
    · simp only [TT, e, if_true] at hT
      simp only [EC, e, if_true]
      exact hT.1 (by omega)
    · simp only [TT, e, if_false] at hT
      simp only [EC, e, if_false]
      simp only [trI, e, if_false, Nat.add_zero] at h
      exact ih k (a + 1) hT.2 h
theorem EC_end {x : Nat × Nat} {t : List (Nat × Nat)} {a : Nat} (h : x.1 = 0) : EC (x :: t) a = a := by
  unfold EC
  rw [if_pos h]
theorem EC_more {x : Nat × Nat} {t : List (Nat × Nat)} {a : Nat} (h : ¬ x.1 = 0) : a < EC (x :: t) a := by
  have := EC_ge t (a + 1)
  unfold EC
  rw [if_neg h]
  omega
theorem ix_t0 {k : Nat} : (11 : Int32) * nI k = nI (11 * k) := pk_mul 11 k
theorem ix_t2 {k : Nat} : (11 : Int32) * nI k + 2 = nI (11 * k + 2) := by
  rw [ix_t0, show (2 : Int32) = nI 2 from rfl, nI_add]
theorem ix_td {k a : Nat} : (11 : Int32) * nI k + 1 + 2 * nI a = nI (11 * k + 1 + 2 * a) := by
  rw [ix_t0, show (1 : Int32) = nI 1 from rfl, nI_add, show (2 : Int32) = nI 2 from rfl, pk_mul, nI_add]
theorem ix_tw {k a : Nat} : (11 : Int32) * nI k + 2 + 2 * nI a = nI (11 * k + 2 + 2 * a) := by
  rw [ix_t0, show (2 : Int32) = nI 2 from rfl, nI_add, pk_mul, nI_add]
theorem bring_c {z : Nat → Int32} {n : Nat} {x : Nat} {t : List (Nat × Nat)} (hz : z 6 = nI n) (hn : n ≤ 6) : bring z ((0, x) :: t) = bring (newCartZ z n (nI x)) t := by
  show bring (if (0 : Nat) = 0 then newCartZ z (cK (z 6)) (nI x) else _) t = _
  rw [if_pos rfl, hz, cK_nI (by omega)]
theorem bring_a {z : Nat → Int32} {n N : Nat} {x : Nat × Nat} {t : List (Nat × Nat)} (hx : ¬ x.1 = 0) (hz : z 6 = nI n) (hn : n ≤ 6) (hq : qOf z (n - 1) 0 = nI N) (hN : N ≤ 5) : bring z (x :: t) = bring (newAxleZ z (n - 1) N (nI x.1) (nI x.2)) t := by
  show bring (if x.1 = 0 then _ else newAxleZ z (cK (z 6) - 1) (nQ (qOf z (cK (z 6) - 1))) (nI x.1) (nI x.2)) t = _
  rw [if_neg hx, hz, cK_nI (by omega)]
  have e : nQ (qOf z (n - 1)) = N := by
    unfold nQ
    rw [hq]
    exact cK_nI (by omega)
  rw [e]
theorem wf_head {l : List (Nat × Nat)} (h : wfI l 0) : l = [] ∨ ∃ x t, l = (0, x) :: t := by
  cases l with
  | nil => exact Or.inl rfl
  | cons x t =>
    obtain ⟨d, x⟩ := x
    by_cases e : d = 0
    · subst e
      exact Or.inr ⟨x, t, rfl⟩
    · simp only [wfI, e, if_false] at h
      omega
set_option maxHeartbeats 4000000 in
set_option maxRecDepth 100000 in
theorem c_X7_carts {l : Launch} {b : Nat} {D : va_G} {cA : Nat → ClassId} {ad : Nat → Nat} {S : ST} {A : AS} {n : Nat} (hA : MRel S A) (hs : StOk (aZ A) n) : MT l b D cA NN ad zT yX7_carts cX7_carts 3 (some .int) 5 [.ref (ad 181)] S (RI (MPost (o_carts A) S)) := by
  refine MT.intro (j := 2) (ls := [some (.ref (ad 181)), none, none]) pn_X7 rfl rfl rfl (fun pr en s0 mi below meth c' K _ => ?_)
  have lq : ∀ (fuel : Nat) (g : Nat → Int32) (L : TI) (k a n1 : Nat) (R : TI) (z1 : Nat → Int32) (S1 : ST), (6 ≤ a + fuel) → (∀ (a2 n2 : Nat) (R2 : List (Nat × Nat)) (z2 : Nat → Int32) (S2 : ST), (S2 193 = g) → (S2 181 22 = nI (cntI L)) → (TT g R2 (k + 1) a2) → (wfI R2 a2) → (MRel S2 (setZ (recA A) z2)) → (z2 6 = nI n2) → (n2 + cntI R2 ≤ 6) → (k + 1 + cntI R2 = cntI L) → (bring z2 R2 = bring (aZ A) L) → (∀ b, b < 181 → S2 b = S b) → (R2 = [] ∨ ∃ x t, R2 = (0, x) :: t) → (1 ≤ k + 1 + cntI R2 → g (11 * (k + 1 + cntI R2 - 1)) = nI (trI R2 a2)) → G pr l en (rmd 5) s0 mi (List.toArray [.ref (ad 181)]) below meth c' (MQ below (QQ b D cA NN ad zT (RI (MPost (o_carts A) S))) (List.toArray [.ref (ad 181)]) s0 0 0 (aF b)) b D cA 3 NN ad zT 0 0 41 [some (.ref (ad 181)), some (.int (nI (k + 1))), none] [] S2) → (n + cntI L ≤ 6) → (cntI L ≤ 6) → (parse (aT A) (aL A) = .inr L) → (S1 193 = g) → (S1 181 22 = nI (cntI L)) → (TT g R (k + 1) a) → (wfI R a) → (MRel S1 (setZ (recA A) z1)) → (z1 6 = nI n1) → (n1 + cntI R ≤ 6) → (k + 1 + cntI R = cntI L) → (bring z1 R = bring (aZ A) L) → (∀ b, b < 181 → S1 b = S b) → (1 ≤ n1) → (qOf z1 (n1 - 1) 0 = nI a) → (1 ≤ a ∧ a ≤ 5) → (g (11 * (k + cntI R)) = nI (trI R a)) → G pr l en (rmd 5) s0 mi (List.toArray [.ref (ad 181)]) below meth c' (MQ below (QQ b D cA NN ad zT (RI (MPost (o_carts A) S))) (List.toArray [.ref (ad 181)]) s0 0 0 (aF b)) b D cA 3 NN ad zT 0 0 66 [some (.ref (ad 181)), some (.int (nI k)), some (.int (nI a))] [] S1 := by
    intro fuel
    induction fuel with
    | zero =>
      intro g  L  k a n1  R  z1  S1  hif hK hnL hL6 hp hg hm hT hw hM hz6 hn6 hkc hbr hfr hn1 hq ha hl
      exact absurd hif (by omega)
    | succ fuel ih =>
      intro g  L  k a n1  R  z1  S1  hif hK hnL hL6 hp hg hm hT hw hM hz6 hn6 hkc hbr hfr hn1 hq ha hl
      have hEC := EC_ok R k a hT hl
      have hE5 := EC_le R a hw ha.2
      refine g_iload_n K dX7_carts_66 rfl ?_
      refine g_aload_n K dX7_carts_67 rfl ?_
      refine g_getr (j := 193) K lk_X7_43 dX7_carts_68 rfl (by decide) (rfl : kd 181 = 7) (by decide) (by decide) rfl (rfl : rs 181 21 = 193) ?_
      refine g_bipush K dX7_carts_71 kb_11 ?_
      refine g_iload_n K dX7_carts_73 rfl ?_
      refine g_imul K dX7_carts_74 ?_
      refine g_iald (j := (11 * k)) K dX7_carts_75 ix_t0 ln_193 (by omega) (rfl : kd 193 = 8) (by decide) ((congrFun hg _).trans hEC) ?_
      refine g_icmp_ge (tgt := 128) K dX7_carts_76 (by decide) (fun u76 => ?_) (fun u76 => ?_)
      · have hR0 : R = [] ∨ ∃ x t, R = (0, x) :: t := by
          have hge : EC R a ≤ a := by
            rw [nI_leI (by omega) (by omega)] at u76
            exact u76
          cases R with
          | nil => exact Or.inl rfl
          | cons x t =>
            by_cases e : x.1 = 0
            · exact Or.inr ⟨x.2, t, by rw [← e]⟩
            · have := EC_more (x := x) (t := t) (a := a) e
              omega
        refine g_iinc (ls2 := [_, some (.int _), _]) K dX7_carts_128 rfl kc_1 rfl ?_
        refine g_goto (tgt := 41) K dX7_carts_131 (by decide) ?_
        refine g_drop (ls2 := [_, _, none]) 2 rfl ?_
        rw [nI_1]
        refine hK a n1 R z1 S1 hg hm hT hw hM hz6 hn6 hkc hbr hfr hR0 (fun _ => ?_)
        rw [show k + 1 + cntI R - 1 = k + cntI R by omega]
        exact hl
      · have hlt : a < EC R a := by
          rw [nI_leI (by omega) (by omega)] at u76
          omega
        obtain ⟨x, t, rfl⟩ : ∃ x t, R = x :: t := by
          cases R with
          | nil => exact absurd hlt (by show ¬ a < a; omega)
          | cons x t => exact ⟨x, t, rfl⟩
        have hx0 : ¬ x.1 = 0 := fun e => by
          rw [EC_end e] at hlt
          omega
        simp only [TT, hx0, if_false] at hT
        simp only [wfI, hx0, if_false] at hw
        refine g_aload_n K dX7_carts_79 rfl ?_
        refine g_aload_n K dX7_carts_80 rfl ?_
        refine g_getr (j := 182) K lk_X7_7 dX7_carts_81 rfl (by decide) (rfl : kd 181 = 7) (by decide) (by decide) rfl (rfl : rs 181 0 = 182) ?_
        refine g_bipush K dX7_carts_84 kb_6 ?_
        refine g_iald (j := 6) K dX7_carts_86 rfl ln_182 (by decide) (rfl : kd 182 = 8) (by decide) ((hM.1 6 (by decide)).trans hz6) ?_
        refine g_iconst K dX7_carts_87 kc_1 ?_
        refine g_isub K dX7_carts_88 ?_
        rw [nI_sub1 hn1]
        refine g_aload_n K dX7_carts_89 rfl ?_
        refine g_getr (j := 193) K lk_X7_43 dX7_carts_90 rfl (by decide) (rfl : kd 181 = 7) (by decide) (by decide) rfl (rfl : rs 181 21 = 193) ?_
        refine g_bipush K dX7_carts_93 kb_11 ?_
        refine g_iload_n K dX7_carts_95 rfl ?_
        refine g_imul K dX7_carts_96 ?_
        refine g_iconst K dX7_carts_97 kc_1 ?_
        refine g_iadd K dX7_carts_98 ?_
        refine g_iconst K dX7_carts_99 kc_2 ?_
        refine g_iload_n K dX7_carts_100 rfl ?_
        refine g_imul K dX7_carts_101 ?_
        refine g_iadd K dX7_carts_102 ?_
        refine g_iald (j := (11 * k + 1 + 2 * a)) K dX7_carts_103 ix_td ln_193 (by omega) (rfl : kd 193 = 8) (by decide) ((congrFun hg _).trans hT.1.1) ?_
        refine g_aload_n K dX7_carts_104 rfl ?_
        refine g_getr (j := 193) K lk_X7_43 dX7_carts_105 rfl (by decide) (rfl : kd 181 = 7) (by decide) (by decide) rfl (rfl : rs 181 21 = 193) ?_
        refine g_bipush K dX7_carts_108 kb_11 ?_
        refine g_iload_n K dX7_carts_110 rfl ?_
        refine g_imul K dX7_carts_111 ?_
        refine g_iconst K dX7_carts_112 kc_2 ?_
        refine g_iadd K dX7_carts_113 ?_
        refine g_iconst K dX7_carts_114 kc_2 ?_
        refine g_iload_n K dX7_carts_115 rfl ?_
        refine g_imul K dX7_carts_116 ?_
        refine g_iadd K dX7_carts_117 ?_
        refine g_iald (j := (11 * k + 2 + 2 * a)) K dX7_carts_118 ix_tw ln_193 (by omega) (rfl : kd 193 = 8) (by decide) ((congrFun hg _).trans hT.1.2) ?_
        refine g_callVpv K (c_X7_newAxle (z := z1) (k := n1 - 1) hM.1 (by omega) hq (by omega)) mw_X7_newAxle ml_X7_81 dX7_carts_119 (by rfl) rfl rfl (by decide) (by simp [Value.category]) ⟨by decide, by decide⟩ ⟨by decide, by decide⟩ (fun S119 h119 => ?_)
        refine g_iinc (ls2 := [_, _, some (.int _)]) K dX7_carts_122 rfl kc_1 rfl ?_
        refine g_goto (tgt := 66) K dX7_carts_125 (by decide) ?_
        rw [nI_1]
        refine ih g L k (a + 1) n1 t _ S119 (by omega) hK hnL hL6 hp ?_ ?_ ?_ ?_ (MRel_row (A := setZ (recA A) z1) hM h119.1 h119.2) ?_ ?_ ?_ ?_ ?_ hn1 ?_ ?_ ?_
        · rw [h119.2 193 (by decide)]
          exact hg
        · rw [h119.2 181 (by decide)]
          exact hm
        · exact hT.2
        · exact hw.2.2.2
        · rw [naz_o (by omega) (by omega)]
          exact hz6
        · rw [cnt_cons, if_neg hx0] at hn6
          omega
        · rw [cnt_cons, if_neg hx0] at hkc
          omega
        · rw [← hbr, bring_a hx0 hz6 (by omega) hq (by omega)]
        · exact fun b hb => by rw [h119.2 b (by omega)]; exact hfr b hb
        · rw [naz_q (by omega), if_pos rfl]
        · omega
        · rw [cnt_cons, if_neg hx0] at hl
          simp only [trI, hx0, if_false] at hl
          exact hl
  have lp : ∀ (fuel : Nat) (g : Nat → Int32) (L : TI) (k a n1 : Nat) (R : TI) (z1 : Nat → Int32) (S1 : ST), (cntI L + 1 ≤ k + fuel) → (n + cntI L ≤ 6) → (cntI L ≤ 6) → (parse (aT A) (aL A) = .inr L) → (S1 193 = g) → (S1 181 22 = nI (cntI L)) → (TT g R (k) a) → (wfI R a) → (MRel S1 (setZ (recA A) z1)) → (z1 6 = nI n1) → (n1 + cntI R ≤ 6) → (k + cntI R = cntI L) → (bring z1 R = bring (aZ A) L) → (∀ b, b < 181 → S1 b = S b) → (R = [] ∨ ∃ x t, R = (0, x) :: t) → (1 ≤ k + cntI R → g (11 * (k + cntI R - 1)) = nI (trI R a)) → G pr l en (rmd 5) s0 mi (List.toArray [.ref (ad 181)]) below meth c' (MQ below (QQ b D cA NN ad zT (RI (MPost (o_carts A) S))) (List.toArray [.ref (ad 181)]) s0 0 0 (aF b)) b D cA 3 NN ad zT 0 0 41 [some (.ref (ad 181)), some (.int (nI k)), none] [] S1 := by
    intro fuel
    induction fuel with
    | zero =>
      intro g  L  k a n1  R  z1  S1  hif hnL hL6 hp hg hm hT hw hM hz6 hn6 hkc hbr hfr hR0 hl
      exact absurd hif (by omega)
    | succ fuel ih =>
      intro g  L  k a n1  R  z1  S1  hif hnL hL6 hp hg hm hT hw hM hz6 hn6 hkc hbr hfr hR0 hl
      refine g_iload_n K dX7_carts_41 rfl ?_
      refine g_aload_n K dX7_carts_42 rfl ?_
      refine g_geti K lk_X7_166 dX7_carts_43 rfl (rfl : kd 181 = 7) (by decide) (by decide) hm ?_
      refine g_icmp_ge (tgt := 134) K dX7_carts_46 (by decide) (fun u46 => ?_) (fun u46 => ?_)
      · have hk6 : k ≤ 6 := by omega
        have hkm : cntI L ≤ k := by
          rw [nI_leI (by omega) (by omega)] at u46
          exact u46
        have hRn : R = [] := by
          rcases hR0 with q | ⟨x, t, q⟩
          · exact q
          · rw [q, cnt_cons, if_pos rfl] at hkc
            omega
        subst hRn
        refine g_aload_n K dX7_carts_134 rfl ?_
        refine g_geti K lk_X7_166 dX7_carts_135 rfl (rfl : kd 181 = 7) (by decide) (by decide) hm ?_
        refine g_iret K dX7_carts_138 ⟨_, rfl, ?_⟩
        refine mp_ok ?_ hM hfr
        have hb2 : z1 = bring (aZ A) L := hbr
        have hn0 : ¬ 6 < aZ A 6 + nI (cntI L) := by
          rw [hs.2.1, nI_add]
          intro q
          rw [show (6 : Int32) = nI 6 from rfl, nI_ltI (by omega) (by omega)] at q
          omega
        unfold o_carts
        rw [hp]
        show (if 6 < aZ A 6 + nI (cntI L) then _ else _) = _
        rw [if_neg hn0, hb2]
      · have hk6 : k ≤ 6 := by omega
        have hkm : k < cntI L := by
          rw [nI_leI (by omega) (by omega)] at u46
          omega
        obtain ⟨x, R, rfl⟩ : ∃ x t, R = (0, x) :: t := by
          rcases hR0 with q | q
          · rw [q] at hkc
            exact absurd hkc (by show ¬ k + 0 = cntI L; omega)
          · exact q
        refine g_aload_n K dX7_carts_49 rfl ?_
        refine g_aload_n K dX7_carts_50 rfl ?_
        refine g_getr (j := 193) K lk_X7_43 dX7_carts_51 rfl (by decide) (rfl : kd 181 = 7) (by decide) (by decide) rfl (rfl : rs 181 21 = 193) ?_
        refine g_bipush K dX7_carts_54 kb_11 ?_
        refine g_iload_n K dX7_carts_56 rfl ?_
        refine g_imul K dX7_carts_57 ?_
        refine g_iconst K dX7_carts_58 kc_2 ?_
        refine g_iadd K dX7_carts_59 ?_
        refine g_iald (j := (11 * k + 2)) K dX7_carts_60 ix_t2 ln_193 (by omega) (rfl : kd 193 = 8) (by decide) ((congrFun hg _).trans hT.2.1) ?_
        refine g_callVpv K (c_X7_newCart (z := z1) (n := n1) hM.1 hz6 (by rw [cnt_cons, if_pos rfl] at hn6; omega)) mw_X7_newCart ml_X7_77 dX7_carts_61 (by rfl) rfl rfl (by decide) (by simp [Value.category]) ⟨by decide, by decide⟩ ⟨by decide, by decide⟩ (fun S61 h61 => ?_)
        refine g_iconst K dX7_carts_64 kc_1 ?_
        refine g_istore_n (ls2 := [_, _, some (.int _)]) K dX7_carts_65 (by decide) rfl ?_
        refine lq 6 g L k 1 (n1 + 1) R _ S61 (by omega) (fun a2 n2 R2 z2 S2 q1 q2 q3 q4 q5 q6 q7 q8 q9 q10 q11 q12 => ih g L (k + 1) a2 n2 R2 z2 S2 (by omega) hnL hL6 hp q1 q2 q3 q4 q5 q6 q7 q8 q9 q10 q11 q12) hnL hL6 hp ?_ ?_ ?_ hw.2 (MRel_row (A := setZ (recA A) z1) hM h61.1 h61.2) ?_ ?_ ?_ ?_ ?_ ?_ ?_ ?_ ?_
        · rw [h61.2 193 (by decide)]
          exact hg
        · rw [h61.2 181 (by decide)]
          exact hm
        · exact hT.2.2
        · exact if_pos rfl
        · rw [cnt_cons, if_pos rfl] at hn6
          omega
        · rw [cnt_cons, if_pos rfl] at hkc
          omega
        · rw [← hbr, bring_c hz6 (by omega)]
        · exact fun b hb => by rw [h61.2 b (by omega)]; exact hfr b hb
        · omega
        · rw [show n1 + 1 - 1 = n1 from rfl, ncz_q (by decide), if_pos rfl]
          rfl
        · omega
        · have e := hl (by rw [cnt_cons, if_pos rfl]; omega)
          rw [cnt_cons, if_pos rfl] at e
          exact e
  refine g_aload_n K dX7_carts_0 rfl ?_
  refine g_callVpi K (c_X7_readText (f := aT A) (n := aL A) hA.2.2.2.1 hA.2.2.2.2.1 hA.2.2.2.2.2) mw_X7_readText ml_X7_179 dX7_carts_1 (by rfl) rfl rfl (by decide) (by simp [Value.category]) ⟨by decide, by decide⟩ ⟨by decide, by decide⟩ (fun r1 S1 h1 => ?_)
  obtain ⟨p, m, hX, hF, hm, hR⟩ := h1
  have hM1 := MRel_rt hA hF
  refine g_if_ne (tgt := 15) K dX7_carts_4 (by decide) (fun u4 => ?_) (fun u4 => ?_)
  · obtain ⟨_, L, hTL, hcL, hp⟩ := hR.resolve_left (fun q => u4 q.1)
    subst hcL
    have hlen := prun_len (aL A) 0 p0 L p0_inv (Nat.le_refl _) hp
    have h60 := hA.2.2.2.2.1
    have hcl := cnt_le (L := L)
    have hs6 := hs.2.2.1
    refine g_aload_n K dX7_carts_15 rfl ?_
    refine g_getr (j := 182) K lk_X7_7 dX7_carts_16 rfl (by decide) (rfl : kd 181 = 7) (by decide) (by decide) rfl (rfl : rs 181 0 = 182) ?_
    refine g_bipush K dX7_carts_19 kb_6 ?_
    refine g_iald (j := 6) K dX7_carts_21 rfl ln_182 (by decide) (rfl : kd 182 = 8) (by decide) ((hM1.1 6 (by decide)).trans hs.2.1) ?_
    refine g_aload_n K dX7_carts_22 rfl ?_
    refine g_geti K lk_X7_166 dX7_carts_23 rfl (rfl : kd 181 = 7) (by decide) (by decide) hm ?_
    refine g_iadd K dX7_carts_26 ?_
    refine g_bipush K dX7_carts_27 kb_6 ?_
    refine g_icmp_le (tgt := 35) K dX7_carts_29 (by decide) (fun u29 => ?_) (fun u29 => ?_)
    · have hn6 : n + cntI L ≤ 6 := by
        rw [nI_add, show (6 : Int32) = nI 6 from rfl, nI_leI (by omega) (by omega)] at u29
        exact u29
      have hL6 : cntI L ≤ 6 := by omega
      refine g_aload_n K dX7_carts_35 rfl ?_
      refine g_callVpv K (c_X7_record2 hM1) mw_X7_record ml_X7_70 dX7_carts_36 (by rfl) rfl rfl (by decide) (by simp [Value.category]) ⟨by decide, by decide⟩ ⟨by decide, by decide⟩ (fun S36 h36 => ?_)
      refine g_iconst K dX7_carts_39 kc_0 ?_
      refine g_istore_n (ls2 := [_, some (.int _), _]) K dX7_carts_40 (by decide) rfl ?_
      refine lp (cntI L + 1) (S36 193) L 0 0 n L (aZ A) S36 (by omega) hn6 hL6 hp rfl ?_ ?_ hTL.2.1 h36.1 hs.2.1 hn6 (by omega) rfl (fun b hb => ?_) ?_ ?_
      · rw [h36.2.2 22 (by decide)]
        exact hm
      · rw [h36.2.1 193 (by decide) (by decide)]
        exact hTL.1
      · rw [h36.2.1 b (by omega) (by omega), hF.1 b (by omega) (by omega)]
      · exact wf_head hTL.2.1
      · rw [Nat.zero_add, h36.2.1 193 (by decide) (by decide)]
        exact hTL.2.2
    · refine g_bipush K dX7_carts_32 kb_m3 ?_
      refine g_iret K dX7_carts_34 ⟨_, rfl, ?_⟩
      refine mp_rt ?_ hA hF
      unfold o_carts
      rw [hp, hs.2.1]
      show (if 6 < nI n + nI (cntI L) then _ else _) = _
      rw [if_pos (by grind)]
  · obtain ⟨_, hp⟩ := hR.resolve_right (fun q => by rw [u4] at q; exact absurd q.1 (by decide))
    have ho : o_carts A = (-100 - nI p, A) := by
      unfold o_carts
      rw [hp]
    refine g_bipush K dX7_carts_7 kb_m100 ?_
    refine g_aload_n K dX7_carts_9 rfl ?_
    refine g_geti K lk_X7_160 dX7_carts_10 rfl (rfl : kd 181 = 7) (by decide) (by decide) hX.1 ?_
    refine g_isub K dX7_carts_13 ?_
    refine g_iret K dX7_carts_14 ⟨_, rfl, ?_⟩
    exact mp_rt ho hA hF
