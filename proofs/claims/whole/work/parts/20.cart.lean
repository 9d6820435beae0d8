def sumF (g : Nat → Int32) : Nat → Int32
  | 0 => 0
  | k + 1 => sumF g k + g k
def downF (lf : Nat → Int32) (N : Nat) : Int32 := sumF (fun k => if lf k = 0 then 1 else 0) N

set_option maxHeartbeats 4000000 in
set_option maxRecDepth 100000 in
theorem c_X0_hasAxle {l : Launch} {b : Nat} {D : va_G} {cA : Nat → ClassId} {ad : Nat → Nat} {S : ST} {c : Nat} {N : Nat} {x : Int32} (hc : CartAt c) (hN : S c 3 = nI N) : MT l b D cA NN ad zT yX0_hasAxle cX0_hasAxle 2 (some .boolean) 0 [.ref (ad c), .int x] S (EI (if 0 ≤ x ∧ x < nI N then 1 else 0) S) := by
  refine MT.intro (j := 0) (ls := [some (.ref (ad c)), some (.int x)]) pn_X0 rfl rfl rfl (fun p e s m below meth c' K _ => ?_)
  refine g_iload_n K dX0_hasAxle_0 rfl ?_
  refine g_if_lt (tgt := 16) K dX0_hasAxle_1 (by decide) (fun h1 => ?_) (fun h1 => ?_)
  · refine g_iconst K dX0_hasAxle_16 kc_0 ?_
    refine g_zret K dX0_hasAxle_17 (by first | exact Or.inl rfl | exact Or.inr rfl | assumption) ⟨_, rfl, ?_⟩
    refine ⟨?_, rfl⟩
    rw [hN] at *
    grind
  · refine g_iload_n K dX0_hasAxle_4 rfl ?_
    refine g_aload_n K dX0_hasAxle_5 rfl ?_
    refine g_geti K lk_X0_22 dX0_hasAxle_6 rfl hc.k0 hc.n0 (by decide) ?_
    refine g_icmp_ge (tgt := 16) K dX0_hasAxle_9 (by decide) (fun h9 => ?_) (fun h9 => ?_)
    · refine g_iconst K dX0_hasAxle_16 kc_0 ?_
      refine g_zret K dX0_hasAxle_17 (by first | exact Or.inl rfl | exact Or.inr rfl | assumption) ⟨_, rfl, ?_⟩
      refine ⟨?_, rfl⟩
      rw [hN] at *
      grind
    · refine g_iconst K dX0_hasAxle_12 kc_1 ?_
      refine g_goto (tgt := 17) K dX0_hasAxle_13 (by decide) ?_
      refine g_zret K dX0_hasAxle_17 (by first | exact Or.inl rfl | exact Or.inr rfl | assumption) ⟨_, rfl, ?_⟩
      refine ⟨?_, rfl⟩
      rw [hN] at *
      grind
set_option maxHeartbeats 4000000 in
set_option maxRecDepth 100000 in
theorem c_X0_downCount {l : Launch} {b : Nat} {D : va_G} {cA : Nat → ClassId} {ad : Nat → Nat} {S : ST} {c : Nat} {N : Nat} (hc : CartAt c) (hN : S c 3 = nI N) (h5 : N ≤ 5) : MT l b D cA NN ad zT yX0_downCount cX0_downCount 3 (some .int) 0 [.ref (ad c)] S (EI (downF (S (c + 3)) N) S) := by
  refine MT.intro (j := 2) (ls := [some (.ref (ad c)), none, none]) pn_X0 rfl rfl rfl (fun p e s m below meth c' K _ => ?_)
  have lp : ∀ (fuel : Nat) (i : Nat) (x : Int32), N + 1 ≤ i + fuel → i ≤ N → x = downF (S (c + 3)) i → G p l e (rmd 0) s m (List.toArray [.ref (ad c)]) below meth c' (MQ below (QQ b D cA NN ad zT (EI (downF (S (c + 3)) N) S)) (List.toArray [.ref (ad c)]) s 0 0 (aF b)) b D cA 3 NN ad zT 0 0 4 [some (.ref (ad c)), some (.int x), some (.int (nI i))] [] S := by
    intro fuel
    induction fuel with
    | zero =>
      intro i  x  hi hi2 hx
      omega
    | succ fuel ih =>
      intro i  x  hi hi2 hx
      refine g_iload_n K dX0_downCount_4 rfl ?_
      refine g_aload_n K dX0_downCount_5 rfl ?_
      refine g_geti K lk_X0_22 dX0_downCount_6 rfl hc.k0 hc.n0 (by decide) ?_
      refine g_icmp_ge (tgt := 35) K dX0_downCount_9 (by decide) (fun h9 => ?_) (fun h9 => ?_)
      · have hiN : i = N := by
          rw [hN, nI_leI (by omega) (by omega)] at h9
          omega
        subst hiN
        refine g_iload_n K dX0_downCount_35 rfl ?_
        refine g_iret K dX0_downCount_36 ⟨_, rfl, ?_⟩
        exact ⟨hx, rfl⟩
      · have hiN : i < N := by
          rw [hN, nI_leI (by omega) (by omega)] at h9
          omega
        refine g_iload_n K dX0_downCount_12 rfl ?_
        refine g_aload_n K dX0_downCount_13 rfl ?_
        refine g_getr (j := (c + 3)) K lk_X0_18 dX0_downCount_14 rfl (by decide) hc.k0 hc.n0 (by decide) rfl hc.r2 ?_
        refine g_iload_n K dX0_downCount_17 rfl ?_
        refine g_zald (j := i) K dX0_downCount_18 rfl hc.l3 (by first | assumption | omega) hc.k3 hc.n3 ?_
        refine g_if_eq (tgt := 26) K dX0_downCount_19 (by decide) (fun h19 => ?_) (fun h19 => ?_)
        · refine g_iconst K dX0_downCount_26 kc_1 ?_
          refine g_iadd K dX0_downCount_27 ?_
          refine g_istore_n (ls2 := [_, some (.int _), _]) K dX0_downCount_28 (by decide) rfl ?_
          refine g_iinc (ls2 := [_, _, some (.int _)]) K dX0_downCount_29 rfl kc_1 rfl ?_
          refine g_goto (tgt := 4) K dX0_downCount_32 (by decide) ?_
          rw [nI_1]
          refine ih (i + 1) _ (by omega) (by omega) ?_
          simp [hx, downF, sumF, h19]
        · refine g_iconst K dX0_downCount_22 kc_0 ?_
          refine g_goto (tgt := 27) K dX0_downCount_23 (by decide) ?_
          refine g_iadd K dX0_downCount_27 ?_
          refine g_istore_n (ls2 := [_, some (.int _), _]) K dX0_downCount_28 (by decide) rfl ?_
          refine g_iinc (ls2 := [_, _, some (.int _)]) K dX0_downCount_29 rfl kc_1 rfl ?_
          refine g_goto (tgt := 4) K dX0_downCount_32 (by decide) ?_
          rw [nI_1]
          refine ih (i + 1) _ (by omega) (by omega) ?_
          simp [hx, downF, sumF, h19]
  refine g_iconst K dX0_downCount_0 kc_0 ?_
  refine g_istore_n (ls2 := [_, some (.int _), _]) K dX0_downCount_1 (by decide) rfl ?_
  refine g_iconst K dX0_downCount_2 kc_0 ?_
  refine g_istore_n (ls2 := [_, _, some (.int _)]) K dX0_downCount_3 (by decide) rfl ?_
  exact lp (N + 1) 0 0 (by omega) (by omega) rfl
