abbrev TI : Type := List (Nat × Nat)
/-- what the carts of a text do to the numbers -/
def bring : (Nat → Int32) → List (Nat × Nat) → (Nat → Int32)
  | z, [] => z
  | z, x :: t => bring (if x.1 = 0 then newCartZ z (cK (z 6)) (nI x.2) else newAxleZ z (cK (z 6) - 1) (nQ (qOf z (cK (z 6) - 1))) (nI x.1) (nI x.2)) t
noncomputable def o_fault (A : AS) : Int32 := match parse (aT A) (aL A) with
  | .inl k => nI k
  | .inr _ => -5
noncomputable def o_carts (A : AS) : Int32 × AS := match parse (aT A) (aL A) with
  | .inl k => (-100 - nI k, A)
  | .inr L => if 6 < aZ A 6 + nI (cntI L) then (-3, A) else (nI (cntI L), setZ (recA A) (bring (aZ A) L))
theorem CRel.tf {S S2 : ST} {A : AS} {n : Nat} (h : CRel S A n) (e : TF0 S S2) : CRel S2 A n :=
  h.set (z := aZ A) (fun k hk => e.1 k (by omega) (by omega) (by omega)) (h.1.to (fun j hj => e.1 _ (by omega) (by omega) (by omega))) (fun a ha i hi => by rw [e.1 _ (by omega) (by omega) (by omega)]; exact h.b1 a ha i hi) e.2
theorem cnt_le {L : List (Nat × Nat)} : cntI L ≤ L.length := List.countP_le_length
theorem cK_n {A : AS} {n : Nat} {S : ST} (h : CRel S A n) : cK (aZ A 6) = n := by
  have n6 := h.1.n6
  rw [show aZ A 6 = nI n from h.1.1.2.1]
  exact cK_nI (by omega)
set_option maxHeartbeats 4000000 in
set_option maxRecDepth 100000 in
theorem c_X1_bringCarts {l : Launch} {b : Nat} {D : va_G} {cA : Nat → ClassId} {ad : Nat → Nat} {S : ST} {A : AS} {n : Nat} {L : List (Nat × Nat)} (hA : CRel S A n) (hlen : S 165 4 = nI L.length) (hL60 : L.length ≤ 60) (hrows : ∀ j x, L[j]? = some x → S 167 j = nI x.2 ∧ S 168 j = nI x.1) (hwf0 : wfI L 0) (hn6 : n + cntI L ≤ 6) : MT l b D cA NN ad zT yX1_bringCarts cX1_bringCarts 3 none 3 [.ref (ad 165), .ref (ad 1)] S (RV (fun S2 => CRel S2 (setZ A (bring (aZ A) L)) (n + cntI L) ∧ ∀ k, 165 ≤ k → S2 k = S k)) := by
  refine MT.intro (j := 1) (ls := [some (.ref (ad 165)), some (.ref (ad 1)), none]) pn_X1 rfl rfl rfl (fun pr en s0 mi below meth c' K _ => ?_)
  have lp : ∀ (fuel : Nat) (i : Nat) (R : TI) (a n1 : Nat) (A1 : AS) (S1 : ST), (L.length + 1 ≤ i + fuel) → (i ≤ L.length) → (L.drop i = R) → (CRel S1 A1 n1) → (wfI R a) → (1 ≤ a → 1 ≤ n1 ∧ CartOk (qOf (aZ A1) (n1 - 1)) a) → (n1 + cntI R ≤ 6) → (bring (aZ A1) R = bring (aZ A) L) → (setZ A (aZ A1) = A1) → (∀ k, 165 ≤ k → S1 k = S k) → (n1 + cntI R = n + cntI L) → G pr l en (rmd 3) s0 mi (List.toArray [.ref (ad 165), .ref (ad 1)]) below meth c' (MQ below (QQ b D cA NN ad zT (RV (fun S2 => CRel S2 (setZ A (bring (aZ A) L)) (n + cntI L) ∧ ∀ k, 165 ≤ k → S2 k = S k))) (List.toArray [.ref (ad 165), .ref (ad 1)]) s0 0 0 (aF b)) b D cA 3 NN ad zT 0 0 2 [some (.ref (ad 165)), some (.ref (ad 1)), some (.int (nI i))] [] S1 := by
    intro fuel
    induction fuel with
    | zero =>
      intro i  R  a n1  A1  S1  hif hiL hR hC hwf hlast hn6 hbr hA1 hfr hcn
      omega
    | succ fuel ih =>
      intro i  R  a n1  A1  S1  hif hiL hR hC hwf hlast hn6 hbr hA1 hfr hcn
      refine g_iload_n K dX1_bringCarts_2 rfl ?_
      refine g_aload_n K dX1_bringCarts_3 rfl ?_
      refine g_geti K lk_X1_29 dX1_bringCarts_4 rfl (rfl : kd 165 = 1) (by decide) (by decide) ((congrFun (hfr 165 (by decide)) 4).trans hlen) ?_
      refine g_icmp_ge (tgt := 54) K dX1_bringCarts_7 (by decide) (fun u7 => ?_) (fun u7 => ?_)
      · have hiN : i = L.length := by
          rw [nI_leI (by omega) (by omega)] at u7
          omega
        have hRn : R = [] := by rw [← hR, hiN, List.drop_length]
        subst hRn
        refine g_vret K dX1_bringCarts_54 ⟨rfl, ?_⟩
        refine ⟨?_, hfr⟩
        rw [← hbr, ← hcn]
        show CRel S1 (setZ A (aZ A1)) (n1 + 0)
        rw [hA1]
        exact hC
      · have hiL2 : i < L.length := by
          rw [nI_leI (by omega) (by omega)] at u7
          omega
        obtain ⟨x, hx⟩ : ∃ x, L[i]? = some x := ⟨L[i], List.getElem?_eq_getElem hiL2⟩
        have hR2 : R = x :: L.drop (i + 1) := by
          rw [← hR, List.drop_eq_getElem_cons hiL2]
          congr 1
          exact Option.some.inj ((List.getElem?_eq_getElem hiL2).symm.trans hx)
        subst hR2
        have hw := hwf.1
        have hrow := hrows i x hx
        have n16 := hC.1.n6
        have hw2 : (1 : Int32) ≤ nI x.2 ∧ nI x.2 ≤ 200 := ⟨nI_le (a := 1) hw.1 (by omega), nI_le (b := 200) hw.2 (by decide)⟩
        have h167 : S1 167 = S 167 := hfr 167 (by decide)
        have h168 : S1 168 = S 168 := hfr 168 (by decide)
        have hck := cK_n hC
        refine g_aload_n K dX1_bringCarts_10 rfl ?_
        refine g_getr (j := 168) K lk_X1_19 dX1_bringCarts_11 rfl (by decide) (rfl : kd 165 = 1) (by decide) (by decide) rfl (rfl : rs 165 2 = 168) ?_
        refine g_iload_n K dX1_bringCarts_14 rfl ?_
        refine g_iald (j := i) K dX1_bringCarts_15 rfl ln_168 (by omega) (rfl : kd 168 = 8) (by decide) ((congrFun h168 i).trans hrow.2) ?_
        refine g_if_ne (tgt := 32) K dX1_bringCarts_16 (by decide) (fun u16 => ?_) (fun u16 => ?_)
        · have hx0 : ¬ x.1 = 0 := fun q => u16 (by rw [q]; rfl)
          have hwf2 := hwf.2
          rw [if_neg hx0] at hwf2
          obtain ⟨hd, ha, hwf3⟩ := hwf2
          obtain ⟨hn1, hcart⟩ := hlast ha.1
          obtain ⟨m1, rfl⟩ : ∃ m1, n1 = m1 + 1 := ⟨n1 - 1, by omega⟩
          have hcart2 : CartOk (qOf (aZ A1) m1) a := hcart
          have hd2 : (2 : Int32) ≤ nI x.1 ∧ nI x.1 ≤ 40 := ⟨nI_le (a := 2) hd.1 (by omega), nI_le (b := 40) hd.2 (by decide)⟩
          obtain ⟨hC2, hok2⟩ := axle_rel hC (Nat.lt_succ_self m1) hcart2 ha.2 hd2 hw2
          have hc0 : cntI (x :: L.drop (i + 1)) = cntI (L.drop (i + 1)) := by
            unfold cntI
            rw [List.countP_cons_of_neg (by simpa using hx0)]
          refine g_aload_n K dX1_bringCarts_32 rfl ?_
          refine g_aload_n K dX1_bringCarts_33 rfl ?_
          refine g_getr (j := 168) K lk_X1_19 dX1_bringCarts_34 rfl (by decide) (rfl : kd 165 = 1) (by decide) (by decide) rfl (rfl : rs 165 2 = 168) ?_
          refine g_iload_n K dX1_bringCarts_37 rfl ?_
          refine g_iald (j := i) K dX1_bringCarts_38 rfl ln_168 (by omega) (rfl : kd 168 = 8) (by decide) ((congrFun h168 i).trans hrow.2) ?_
          refine g_aload_n K dX1_bringCarts_39 rfl ?_
          refine g_getr (j := 167) K lk_X1_15 dX1_bringCarts_40 rfl (by decide) (rfl : kd 165 = 1) (by decide) (by decide) rfl (rfl : rs 165 1 = 167) ?_
          refine g_iload_n K dX1_bringCarts_43 rfl ?_
          refine g_iald (j := i) K dX1_bringCarts_44 rfl ln_167 (by omega) (rfl : kd 167 = 8) (by decide) ((congrFun h167 i).trans hrow.1) ?_
          refine g_callVv K (c_X5_addAxleToLast (n := m1) st_1 hC.1.n (by omega) (hC.1.2.2.2 m1 (Nat.lt_succ_self m1) a hcart2).1 ha.2) mw_X5_addAxleToLast ml_X1_88 dX1_bringCarts_45 (by rfl) rfl rfl (by decide) (by simp [Value.category]) ⟨by decide, by decide⟩ ⟨by decide, by decide⟩ ?_
          refine g_iinc (ls2 := [_, _, some (.int _)]) K dX1_bringCarts_48 rfl kc_1 rfl ?_
          refine g_goto (tgt := 2) K dX1_bringCarts_51 (by decide) ?_
          rw [nI_1]
          first
            | exact ih (i + 1) (L.drop (i + 1)) 1 (n1 + 1) _ _ (by omega) (by omega) rfl hC2 hwf2 (fun _ => ⟨by omega, hok2⟩) (by omega) (by
                rw [← hbr]
                show bring (newCartZ (aZ A1) n1 (nI x.2)) (L.drop (i + 1)) = bring (if x.1 = 0 then newCartZ (aZ A1) (cK (aZ A1 6)) (nI x.2) else newAxleZ (aZ A1) (cK (aZ A1 6) - 1) (nQ (qOf (aZ A1) (cK (aZ A1 6) - 1))) (nI x.1) (nI x.2)) (L.drop (i + 1))
                rw [if_pos hx0, hck]) (by rw [← hA1]; rfl) (fun k hk => by rw [addC_n (by omega) hn16]; exact hfr k hk) (by omega)
            | exact ih (i + 1) (L.drop (i + 1)) (a + 1) (m1 + 1) _ _ (by omega) (by omega) rfl hC2 hwf3 (fun _ => ⟨by omega, hok2⟩) (by omega) (by
                rw [← hbr]
                show bring (newAxleZ (aZ A1) m1 a (nI x.1) (nI x.2)) (L.drop (i + 1)) = bring (if x.1 = 0 then newCartZ (aZ A1) (cK (aZ A1 6)) (nI x.2) else newAxleZ (aZ A1) (cK (aZ A1 6) - 1) (nQ (qOf (aZ A1) (cK (aZ A1 6) - 1))) (nI x.1) (nI x.2)) (L.drop (i + 1))
                rw [if_neg hx0, hck, show m1 + 1 - 1 = m1 from rfl, nQ_eq hcart2]) (by rw [← hA1]; rfl) (fun k hk => by rw [addAx_n (by omega)]; exact hfr k hk) (by omega)
        · have hx0 : x.1 = 0 := by
            have hlt : x.1 < 2 ^ 31 := by
              have h2 := hwf.2
              by_cases q : x.1 = 0
              · omega
              · rw [if_neg q] at h2
                omega
            exact (nI_eq (b := 0) hlt (by decide)).mp u16
          have hwf2 := hwf.2
          rw [if_pos hx0] at hwf2
          have hc0 : cntI (x :: L.drop (i + 1)) = cntI (L.drop (i + 1)) + 1 := by
            unfold cntI
            rw [List.countP_cons_of_pos (by simpa using hx0)]
          have hn16 : n1 < 6 := by omega
          obtain ⟨hC2, hok2⟩ := cart_rel hC hn16 hw2
          refine g_aload_n K dX1_bringCarts_19 rfl ?_
          refine g_aload_n K dX1_bringCarts_20 rfl ?_
          refine g_getr (j := 167) K lk_X1_15 dX1_bringCarts_21 rfl (by decide) (rfl : kd 165 = 1) (by decide) (by decide) rfl (rfl : rs 165 1 = 167) ?_
          refine g_iload_n K dX1_bringCarts_24 rfl ?_
          refine g_iald (j := i) K dX1_bringCarts_25 rfl ln_167 (by omega) (rfl : kd 167 = 8) (by decide) ((congrFun h167 i).trans hrow.1) ?_
          refine g_callVv K (c_X5_addCart st_1 hC.1.n hn16) mw_X5_addCart ml_X1_82 dX1_bringCarts_26 (by rfl) rfl rfl (by decide) (by simp [Value.category]) ⟨by decide, by decide⟩ ⟨by decide, by decide⟩ ?_
          refine g_goto (tgt := 48) K dX1_bringCarts_29 (by decide) ?_
          refine g_iinc (ls2 := [_, _, some (.int _)]) K dX1_bringCarts_48 rfl kc_1 rfl ?_
          refine g_goto (tgt := 2) K dX1_bringCarts_51 (by decide) ?_
          rw [nI_1]
          first
            | exact ih (i + 1) (L.drop (i + 1)) 1 (n1 + 1) _ _ (by omega) (by omega) rfl hC2 hwf2 (fun _ => ⟨by omega, hok2⟩) (by omega) (by
                rw [← hbr]
                show bring (newCartZ (aZ A1) n1 (nI x.2)) (L.drop (i + 1)) = bring (if x.1 = 0 then newCartZ (aZ A1) (cK (aZ A1 6)) (nI x.2) else newAxleZ (aZ A1) (cK (aZ A1 6) - 1) (nQ (qOf (aZ A1) (cK (aZ A1 6) - 1))) (nI x.1) (nI x.2)) (L.drop (i + 1))
                rw [if_pos hx0, hck]) (by rw [← hA1]; rfl) (fun k hk => by rw [addC_n (by omega) hn16]; exact hfr k hk) (by omega)
            | exact ih (i + 1) (L.drop (i + 1)) (a + 1) (m1 + 1) _ _ (by omega) (by omega) rfl hC2 hwf3 (fun _ => ⟨by omega, hok2⟩) (by omega) (by
                rw [← hbr]
                show bring (newAxleZ (aZ A1) m1 a (nI x.1) (nI x.2)) (L.drop (i + 1)) = bring (if x.1 = 0 then newCartZ (aZ A1) (cK (aZ A1 6)) (nI x.2) else newAxleZ (aZ A1) (cK (aZ A1 6) - 1) (nQ (qOf (aZ A1) (cK (aZ A1 6) - 1))) (nI x.1) (nI x.2)) (L.drop (i + 1))
                rw [if_neg hx0, hck, show m1 + 1 - 1 = m1 from rfl, nQ_eq hcart2]) (by rw [← hA1]; rfl) (fun k hk => by rw [addAx_n (by omega)]; exact hfr k hk) (by omega)
  refine g_iconst K dX1_bringCarts_0 kc_0 ?_
  refine g_istore_n (ls2 := [_, _, some (.int _)]) K dX1_bringCarts_1 (by decide) rfl ?_
  exact lp (L.length + 1) 0 L 0 n A S (by omega) (by omega) rfl hA hwf0 (fun q => absurd q (by omega)) hn6 rfl rfl (fun _ _ => rfl) rfl
set_option maxHeartbeats 4000000 in
set_option maxRecDepth 100000 in
theorem c_X6_fault {l : Launch} {b : Nat} {D : va_G} {cA : Nat → ClassId} {ad : Nat → Nat} {S : ST} {A : AS} {n : Nat} (hA : CRel S A n) : MT l b D cA NN ad zT yX6_fault cX6_fault 1 (some .int) 5 [.ref (ad 0)] S (RI (CPost (o_fault A, A) S)) := by
  refine MT.intro (j := 0) (ls := [some (.ref (ad 0))]) pn_X6 rfl rfl rfl (fun pr en s0 mi below meth c' K _ => ?_)
  refine g_aload_n K dX6_fault_0 rfl ?_
  refine g_getr (j := 165) K lk_X6_29 dX6_fault_1 rfl (by decide) (rfl : kd 0 = 6) (by decide) (by decide) rfl (rfl : rs 0 3 = 165) ?_
  refine g_callVpv K (c_X1_read (f := aT A) hA.2.2.2.2.1 hA.2.2.2.2.2.1 hA.2.2.2.2.2.2) mw_X1_read ml_X6_94 dX6_fault_4 (by rfl) rfl rfl (by decide) (by simp [Value.category]) ⟨by decide, by decide⟩ ⟨by decide, by decide⟩ (fun S4 h4 => ?_)
  have hC := hA.tf h4.2
  refine g_aload_n K dX6_fault_7 rfl ?_
  refine g_getr (j := 165) K lk_X6_29 dX6_fault_8 rfl (by decide) (rfl : kd 0 = 6) (by decide) (by decide) rfl (rfl : rs 0 3 = 165) ?_
  refine g_geti K lk_X6_97 dX6_fault_11 rfl (rfl : kd 165 = 1) (by decide) (by decide) rfl ?_
  refine g_iret K dX6_fault_14 ⟨_, rfl, ?_⟩
  refine cp_ok (A := A) ?_ hC (fun k hk => h4.2.1 k (by omega) (by omega) (by omega))
  have h := h4.1
  unfold o_fault
  cases hp : parse (aT A) (aL A) with
  | inl k => rw [hp] at h; rw [h.1]
  | inr L => rw [hp] at h; rw [h.1]
set_option maxHeartbeats 4000000 in
set_option maxRecDepth 100000 in
theorem c_X6_clearText {l : Launch} {b : Nat} {D : va_G} {cA : Nat → ClassId} {ad : Nat → Nat} {S : ST} {A : AS} {n : Nat} (hA : CRel S A n) : MT l b D cA NN ad zT yX6_clearText cX6_clearText 2 (some .int) 0 [.ref (ad 0)] S (RI (CPost (o_clear A) S)) := by
  refine MT.intro (j := 1) (ls := [some (.ref (ad 0)), none]) pn_X6 rfl rfl rfl (fun pr en s0 mi below meth c' K _ => ?_)
  refine g_aload_n K dX6_clearText_0 rfl ?_
  refine g_getr (j := 165) K lk_X6_29 dX6_clearText_1 rfl (by decide) (rfl : kd 0 = 6) (by decide) (by decide) rfl (rfl : rs 0 3 = 165) ?_
  refine g_geti K lk_X6_151 dX6_clearText_4 rfl (rfl : kd 165 = 1) (by decide) (by decide) hA.2.2.2.2.1 ?_
  refine g_istore_n (ls2 := [_, some (.int _)]) K dX6_clearText_7 (by decide) rfl ?_
  refine g_aload_n K dX6_clearText_8 rfl ?_
  refine g_getr (j := 165) K lk_X6_29 dX6_clearText_9 rfl (by decide) (rfl : kd 0 = 6) (by decide) (by decide) rfl (rfl : rs 0 3 = 165) ?_
  refine g_iconst K dX6_clearText_12 kc_0 ?_
  refine g_puti K lk_X6_151 lq_X1_3 dX6_clearText_13 (put_i _) rfl (rfl : kd 165 = 1) (by decide) (by decide) ?_
  refine g_iload_n K dX6_clearText_16 rfl ?_
  refine g_iret K dX6_clearText_17 ⟨_, rfl, ?_⟩
  obtain ⟨h1, ⟨hb, hH⟩, h3, h4, h5⟩ := hA
  refine cp_ok (A := (aZ A, aM A, aP A, aK A, aKZ A, 0, aT A)) (n := n) rfl ⟨h1.to (fun j hj => stw_n (by omega)), ⟨hb, fun i hi => by rw [stw_n (by decide)]; exact hH.1 i hi, hH.2.1, by rw [stw_n (by decide)]; exact hH.2.2.1, hH.2.2.2.1, fun i hi => ?_⟩, ?_, ?_, ⟨by rw [stw_app, if_pos ⟨rfl, rfl⟩]; rfl, Nat.zero_le _, fun i hi => absurd hi (Nat.not_lt_zero i)⟩⟩ (fun k hk => stw_n (by omega))
  · obtain ⟨n3, g⟩ := hH.2.2.2.2 i hi
    have hl3 := hH.1.lo (Nat.lt_of_lt_of_le hi hH.2.2.2.1)
    exact ⟨n3, g.to (fun j hj => stw_n (by omega))⟩
  · rw [stw_n (by decide)]
    refine ⟨h3.1, h3.2.1, fun q => ?_⟩
    obtain ⟨n3, g⟩ := h3.2.2 q
    exact ⟨n3, g.to (fun j hj => stw_n (by omega))⟩
  · intro B hB a ha i hi
    rw [stw_n (by rcases hB with rfl | rfl | ⟨j, hj2, rfl⟩ <;> omega)]
    exact h4 B hB a ha i hi
set_option maxHeartbeats 4000000 in
set_option maxRecDepth 100000 in
theorem c_X6_carts {l : Launch} {b : Nat} {D : va_G} {cA : Nat → ClassId} {ad : Nat → Nat} {S : ST} {A : AS} {n : Nat} (hA : CRel S A n) : MT l b D cA NN ad zT yX6_carts cX6_carts 1 (some .int) 5 [.ref (ad 0)] S (RI (CPost (o_carts A) S)) := by
  refine MT.intro (j := 0) (ls := [some (.ref (ad 0))]) pn_X6 rfl rfl rfl (fun pr en s0 mi below meth c' K _ => ?_)
  refine g_aload_n K dX6_carts_0 rfl ?_
  refine g_getr (j := 165) K lk_X6_29 dX6_carts_1 rfl (by decide) (rfl : kd 0 = 6) (by decide) (by decide) rfl (rfl : rs 0 3 = 165) ?_
  refine g_callVpv K (c_X1_read (f := aT A) hA.2.2.2.2.1 hA.2.2.2.2.2.1 hA.2.2.2.2.2.2) mw_X1_read ml_X6_94 dX6_carts_4 (by rfl) rfl rfl (by decide) (by simp [Value.category]) ⟨by decide, by decide⟩ ⟨by decide, by decide⟩ (fun S4 h4 => ?_)
  have hC := hA.tf h4.2
  have hF4 : ∀ k, 181 ≤ k → S4 k = S k := fun k hk => h4.2.1 k (by omega) (by omega) (by omega)
  have n6 := hC.1.n6
  have hn := hC.1.n
  have hz6 : aZ A 6 = nI n := hC.1.1.2.1
  obtain ⟨hb, hH⟩ := hC.2.1
  obtain ⟨hR, hRf⟩ := rem_rel hH hC
  have hro := h4.1
  refine g_aload_n K dX6_carts_7 rfl ?_
  refine g_getr (j := 165) K lk_X6_29 dX6_carts_8 rfl (by decide) (rfl : kd 0 = 6) (by decide) (by decide) rfl (rfl : rs 0 3 = 165) ?_
  refine g_geti K lk_X6_97 dX6_carts_11 rfl (rfl : kd 165 = 1) (by decide) (by decide) rfl ?_
  refine g_bipush K dX6_carts_14 kb_m5 ?_
  refine g_icmp_eq (tgt := 30) K dX6_carts_16 (by decide) (fun u16 => ?_) (fun u16 => ?_)
  · obtain ⟨L, hp⟩ : ∃ L, parse (aT A) (aL A) = .inr L := by
      cases hp : parse (aT A) (aL A) with
      | inl k =>
        rw [hp] at hro
        rw [hro.1] at u16
        exact absurd u16 (by
          intro q
          have := nI_pos (n := k) (by have := hro.2; omega)
          rw [q] at this
          exact this (by decide))
      | inr L => exact ⟨L, rfl⟩
    rw [hp] at hro
    obtain ⟨r1, r2, r3, r4, r5, r6⟩ := hro
    have hcl := cnt_le (L := L)
    refine g_aload_n K dX6_carts_30 rfl ?_
    refine g_getr (j := 1) K lk_X6_10 dX6_carts_31 rfl (by decide) (rfl : kd 0 = 6) (by decide) (by decide) rfl (rfl : rs 0 0 = 1) ?_
    refine g_geti K lk_X6_52 dX6_carts_34 rfl (rfl : kd 1 = 5) (by decide) (by decide) hn ?_
    refine g_aload_n K dX6_carts_37 rfl ?_
    refine g_getr (j := 165) K lk_X6_29 dX6_carts_38 rfl (by decide) (rfl : kd 0 = 6) (by decide) (by decide) rfl (rfl : rs 0 3 = 165) ?_
    refine g_geti K lk_X6_100 dX6_carts_41 rfl (rfl : kd 165 = 1) (by decide) (by decide) r3 ?_
    refine g_iadd K dX6_carts_44 ?_
    refine g_bipush K dX6_carts_45 kb_6 ?_
    refine g_icmp_le (tgt := 53) K dX6_carts_47 (by decide) (fun u47 => ?_) (fun u47 => ?_)
    · have h6 : n + cntI L ≤ 6 := by
        rw [nI_add, show (6 : Int32) = nI 6 from rfl, nI_leI (by omega) (by omega)] at u47
        exact u47
      refine g_aload_n K dX6_carts_53 rfl ?_
      refine g_getr (j := 55) K lk_X6_22 dX6_carts_54 rfl (by decide) (rfl : kd 0 = 6) (by decide) (by decide) rfl (rfl : rs 0 2 = 55) ?_
      refine g_aload_n K dX6_carts_57 rfl ?_
      refine g_getr (j := 1) K lk_X6_10 dX6_carts_58 rfl (by decide) (rfl : kd 0 = 6) (by decide) (by decide) rfl (rfl : rs 0 0 = 1) ?_
      refine g_callVv K (c_X2_remember hH.1 hH.2.2.1 hH.2.2.2.1 (hC.2.2.2.1.fits (Or.inl rfl))) mw_X2_remember ml_X6_56 dX6_carts_61 (by rfl) rfl rfl (by decide) (by simp [Value.category]) ⟨by decide, by decide⟩ ⟨by decide, by decide⟩ ?_
      have e165 : ∀ k, 165 ≤ k → remS S4 hb (aM A) k = S4 k := fun k hk => hRf k (by omega)
      refine g_aload_n K dX6_carts_64 rfl ?_
      refine g_getr (j := 165) K lk_X6_29 dX6_carts_65 rfl (by decide) (rfl : kd 0 = 6) (by decide) (by decide) rfl (rfl : rs 0 3 = 165) ?_
      refine g_aload_n K dX6_carts_68 rfl ?_
      refine g_getr (j := 1) K lk_X6_10 dX6_carts_69 rfl (by decide) (rfl : kd 0 = 6) (by decide) (by decide) rfl (rfl : rs 0 0 = 1) ?_
      refine g_callVpv K (c_X1_bringCarts hR (by rw [e165 165 (by decide)]; exact r2) r5 (fun j x hx => by rw [e165 167 (by decide), e165 168 (by decide)]; exact r6 j x hx) r4 h6) mw_X1_bringCarts ml_X6_101 dX6_carts_72 (by rfl) rfl rfl (by decide) (by simp [Value.category]) ⟨by decide, by decide⟩ ⟨by decide, by decide⟩ (fun S72 h72 => ?_)
      refine g_aload_n K dX6_carts_75 rfl ?_
      refine g_getr (j := 165) K lk_X6_29 dX6_carts_76 rfl (by decide) (rfl : kd 0 = 6) (by decide) (by decide) rfl (rfl : rs 0 3 = 165) ?_
      refine g_geti K lk_X6_100 dX6_carts_79 rfl (rfl : kd 165 = 1) (by decide) (by decide) ((congrFun ((h72.2 165 (by decide)).trans (e165 165 (by decide))) 5).trans r3) ?_
      refine g_iret K dX6_carts_82 ⟨_, rfl, ?_⟩
      refine cp_ok ?_ h72.1 (fun k hk => by rw [h72.2 k (by omega), e165 k (by omega)]; exact hF4 k hk)
      unfold o_carts
      rw [hp]
      show (if 6 < aZ A 6 + nI (cntI L) then _ else _) = _
      rw [hz6, if_neg (by grind)]
      rfl
    · refine g_bipush K dX6_carts_50 kb_m3 ?_
      refine g_iret K dX6_carts_52 ⟨_, rfl, ?_⟩
      refine cp_ok (A := A) ?_ hC hF4
      unfold o_carts
      rw [hp, hz6]
      show (if 6 < nI n + nI (cntI L) then _ else _) = _
      rw [if_pos (by grind)]
  · obtain ⟨k, hp⟩ : ∃ k, parse (aT A) (aL A) = .inl k := by
      cases hp : parse (aT A) (aL A) with
      | inl k => exact ⟨k, rfl⟩
      | inr L =>
        rw [hp] at hro
        exact absurd hro.1 u16
    rw [hp] at hro
    refine g_bipush K dX6_carts_19 kb_m100 ?_
    refine g_aload_n K dX6_carts_21 rfl ?_
    refine g_getr (j := 165) K lk_X6_29 dX6_carts_22 rfl (by decide) (rfl : kd 0 = 6) (by decide) (by decide) rfl (rfl : rs 0 3 = 165) ?_
    refine g_geti K lk_X6_97 dX6_carts_25 rfl (rfl : kd 165 = 1) (by decide) (by decide) rfl ?_
    refine g_isub K dX6_carts_28 ?_
    refine g_iret K dX6_carts_29 ⟨_, rfl, ?_⟩
    refine cp_ok (A := A) ?_ hC hF4
    unfold o_carts
    rw [hp, hro.1]
