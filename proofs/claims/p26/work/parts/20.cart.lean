theorem stw_app {S : ST} {k i a j : Nat} {x : Int32} : stw S k i x a j = if a = k ∧ j = i then x else S a j := by
  unfold stw upd
  by_cases h : a = k
  · subst h
    by_cases h2 : j = i <;> simp [h2]
  · simp [h]
theorem g_drop {p : Program} {l : Launch} {e : Env} {R : Room} {s : State} {m : MethodId} {args : Array Value} {below : List Frame} {meth : Method} {c : Code} {Q : State → Prop} {b : Nat} {D : va_G} {cA : Nat → ClassId} {nL n : Nat} {ad : Nat → Nat} {Z : Nat → Nat → Bool} {cells slots : Nat} {pc : Nat} {ls ls2 : List (Option Value)} {st : List Value} {S : ST} (i : Nat) (h : ls.set i none = ls2) (k : G p l e R s m args below meth c Q b D cA nL n ad Z cells slots pc ls2 st S) : G p l e R s m args below meth c Q b D cA nL n ad Z cells slots pc ls st S := by
  intro H locs lsA hP hD hS hl
  refine k H locs lsA hP hD hS ⟨hl.1, hl.2.1, by rw [← h, List.length_set]; exact hl.2.2.1, fun j v hj => hl.2.2.2 j v ?_⟩
  rw [← h, List.getElem?_set] at hj
  split at hj
  · split at hj <;> simp at hj
  · exact hj
theorem str_app {S : ST} {k a : Nat} {f : Nat → Int32} : str S k f a = if a = k then f else S a := rfl
def sumF (g : Nat → Int32) : Nat → Int32
  | 0 => 0
  | k + 1 => sumF g k + g k
theorem sumF_congr {f g : Nat → Int32} : ∀ (n : Nat), (∀ k, k < n → f k = g k) → sumF f n = sumF g n := by
  intro n
  induction n with
  | zero => intro _; rfl
  | succ n ih => intro h; rw [sumF, sumF, ih (fun k hk => h k (by omega)), h n (by omega)]
def downF (lf : Nat → Int32) (N : Nat) : Int32 := sumF (fun k => if lf k = 0 then 1 else 0) N
/-- the first place from k on, of f places, that is down; else k + f -/
def upF (lf : Nat → Int32) : Nat → Nat → Nat
  | 0, k => k
  | f + 1, k => if lf k = 0 then k else upF lf f (k + 1)
/-- the last place ahead of k that is down; else NONE -/
def dnF (lf : Nat → Int32) : Nat → Int32
  | 0 => -5
  | k + 1 => if lf k = 0 then nI k else dnF lf k
def bearerF (lf : Nat → Int32) (N a : Nat) : Int32 := if upF lf (N - a) a < N then nI (upF lf (N - a) a) else dnF lf a
def borneF (w lf : Nat → Int32) (N : Nat) (x : Int32) : Int32 := sumF (fun k => if bearerF lf N k = x then w k else 0) N
def netF (t w : Int32) : Int32 := if t = -5 ∨ w = -5 then -5 else w - t + 1000
def addAx (S : ST) (c N : Nat) (d w : Int32) : ST := stw (stw (stw (stw S (c + 1) N w) (c + 2) N d) (c + 3) N 0) c 3 (nI (N + 1))
def begC (S : ST) (c : Nat) (w : Int32) : ST := stw (stw (stw (stw (addAx (stw S c 3 0) c 0 0 w) c 4 (-5)) c 5 (-5)) c 6 (-5)) c 7 (-5)
def cpCart (S : ST) (c c2 : Nat) : ST := fun k => if k = c then S c2 else if k = c + 1 then S (c2 + 1) else if k = c + 2 then S (c2 + 2) else if k = c + 3 then S (c2 + 3) else S k
theorem upF_le (lf : Nat → Int32) : ∀ (f k : Nat), k ≤ upF lf f k ∧ upF lf f k ≤ k + f := by
  intro f
  induction f with
  | zero => intro k; exact ⟨Nat.le_refl _, Nat.le_refl _⟩
  | succ f ih =>
    intro k
    unfold upF
    split
    · omega
    · have := ih (k + 1)
      omega

set_option maxHeartbeats 4000000 in
set_option maxRecDepth 100000 in
theorem c_X0_hasAxle {l : Launch} {b : Nat} {D : va_G} {cA : Nat → ClassId} {ad : Nat → Nat} {S : ST} {c : Nat} {N : Nat} {x : Int32} (hc : CartAt c) (hN : S c 3 = nI N) : MT l b D cA NN ad zT yX0_hasAxle cX0_hasAxle 2 (some .boolean) 0 [.ref (ad c), .int x] S (EI (if 0 ≤ x ∧ x < nI N then 1 else 0) S) := by
  refine MT.intro (j := 0) (ls := [some (.ref (ad c)), some (.int x)]) pn_X0 rfl rfl rfl (fun pr en s0 mi below meth c' K _ => ?_)
  refine g_iload_n K dX0_hasAxle_0 rfl ?_
  refine g_if_lt (tgt := 16) K dX0_hasAxle_1 (by decide) (fun u1 => ?_) (fun u1 => ?_)
  · refine g_iconst K dX0_hasAxle_16 kc_0 ?_
    refine g_zret K dX0_hasAxle_17 (by first | exact Or.inl rfl | exact Or.inr rfl | assumption) ⟨_, rfl, ?_⟩
    refine ⟨?_, rfl⟩
    rw [hN] at *
    grind
  · refine g_iload_n K dX0_hasAxle_4 rfl ?_
    refine g_aload_n K dX0_hasAxle_5 rfl ?_
    refine g_geti K lk_X0_22 dX0_hasAxle_6 rfl hc.k0 hc.n0 (by decide) rfl ?_
    refine g_icmp_ge (tgt := 16) K dX0_hasAxle_9 (by decide) (fun u9 => ?_) (fun u9 => ?_)
    · refine g_iconst K dX0_hasAxle_16 kc_0 ?_
      refine g_zret K dX0_hasAxle_17 (by first | exact Or.inl rfl | exact Or.inr rfl | assumption) ⟨_, rfl, ?_⟩
      refine ⟨?_, rfl⟩
      rw [hN] at *
      grind
    · refine g_iconst K dX0_hasAxle_12 kc_1 ?_
      refine g_goto (tgt := 17) K dX0_hasAxle_13 (by decide) ?_
      refine g_zret K dX0_hasAxle_17 (by first | exact Or.inl rfl | exact Or.inr rfl | assumption) ⟨_, rfl, ?_⟩
      refine ⟨?_, rfl⟩
      rw [hN] at *
      grind
set_option maxHeartbeats 4000000 in
set_option maxRecDepth 100000 in
theorem c_X0_downCount {l : Launch} {b : Nat} {D : va_G} {cA : Nat → ClassId} {ad : Nat → Nat} {S : ST} {c : Nat} {N : Nat} (hc : CartAt c) (hN : S c 3 = nI N) (h5 : N ≤ 5) : MT l b D cA NN ad zT yX0_downCount cX0_downCount 3 (some .int) 0 [.ref (ad c)] S (EI (downF (S (c + 3)) N) S) := by
  refine MT.intro (j := 2) (ls := [some (.ref (ad c)), none, none]) pn_X0 rfl rfl rfl (fun pr en s0 mi below meth c' K _ => ?_)
  have lp : ∀ (fuel : Nat) (i : Nat) (x : Int32), (N + 1 ≤ i + fuel) → (i ≤ N) → (x = downF (S (c + 3)) i) → G pr l en (rmd 0) s0 mi (List.toArray [.ref (ad c)]) below meth c' (MQ below (QQ b D cA NN ad zT (EI (downF (S (c + 3)) N) S)) (List.toArray [.ref (ad c)]) s0 0 0 (aF b)) b D cA 3 NN ad zT 0 0 4 [some (.ref (ad c)), some (.int x), some (.int (nI i))] [] S := by
    intro fuel
    induction fuel with
    | zero =>
      intro i  x  hi hi2 hx
      omega
    | succ fuel ih =>
      intro i  x  hi hi2 hx
      refine g_iload_n K dX0_downCount_4 rfl ?_
      refine g_aload_n K dX0_downCount_5 rfl ?_
      refine g_geti K lk_X0_22 dX0_downCount_6 rfl hc.k0 hc.n0 (by decide) rfl ?_
      refine g_icmp_ge (tgt := 35) K dX0_downCount_9 (by decide) (fun u9 => ?_) (fun u9 => ?_)
      · have hiN : i = N := by
          rw [hN, nI_leI (by omega) (by omega)] at u9
          omega
        subst hiN
        refine g_iload_n K dX0_downCount_35 rfl ?_
        refine g_iret K dX0_downCount_36 ⟨_, rfl, ?_⟩
        exact ⟨hx, rfl⟩
      · have hiN : i < N := by
          rw [hN, nI_leI (by omega) (by omega)] at u9
          omega
        refine g_iload_n K dX0_downCount_12 rfl ?_
        refine g_aload_n K dX0_downCount_13 rfl ?_
        refine g_getr (j := (c + 3)) K lk_X0_18 dX0_downCount_14 rfl (by decide) hc.k0 hc.n0 (by decide) rfl hc.r2 ?_
        refine g_iload_n K dX0_downCount_17 rfl ?_
        refine g_zald (j := i) K dX0_downCount_18 rfl hc.l3 (by first | assumption | omega) hc.k3 hc.n3 rfl ?_
        refine g_if_eq (tgt := 26) K dX0_downCount_19 (by decide) (fun u19 => ?_) (fun u19 => ?_)
        · refine g_iconst K dX0_downCount_26 kc_1 ?_
          refine g_iadd K dX0_downCount_27 ?_
          refine g_istore_n (ls2 := [_, some (.int _), _]) K dX0_downCount_28 (by decide) rfl ?_
          refine g_iinc (ls2 := [_, _, some (.int _)]) K dX0_downCount_29 rfl kc_1 rfl ?_
          refine g_goto (tgt := 4) K dX0_downCount_32 (by decide) ?_
          rw [nI_1]
          refine ih (i + 1) _ (by omega) (by omega) ?_
          simp [hx, downF, sumF, u19]
        · refine g_iconst K dX0_downCount_22 kc_0 ?_
          refine g_goto (tgt := 27) K dX0_downCount_23 (by decide) ?_
          refine g_iadd K dX0_downCount_27 ?_
          refine g_istore_n (ls2 := [_, some (.int _), _]) K dX0_downCount_28 (by decide) rfl ?_
          refine g_iinc (ls2 := [_, _, some (.int _)]) K dX0_downCount_29 rfl kc_1 rfl ?_
          refine g_goto (tgt := 4) K dX0_downCount_32 (by decide) ?_
          rw [nI_1]
          refine ih (i + 1) _ (by omega) (by omega) ?_
          simp [hx, downF, sumF, u19]
  refine g_iconst K dX0_downCount_0 kc_0 ?_
  refine g_istore_n (ls2 := [_, some (.int _), _]) K dX0_downCount_1 (by decide) rfl ?_
  refine g_iconst K dX0_downCount_2 kc_0 ?_
  refine g_istore_n (ls2 := [_, _, some (.int _)]) K dX0_downCount_3 (by decide) rfl ?_
  exact lp (N + 1) 0 0 (by omega) (by omega) rfl
set_option maxHeartbeats 4000000 in
set_option maxRecDepth 100000 in
theorem c_X0_wholeWeight {l : Launch} {b : Nat} {D : va_G} {cA : Nat → ClassId} {ad : Nat → Nat} {S : ST} {c : Nat} {N : Nat} (hc : CartAt c) (hN : S c 3 = nI N) (h5 : N ≤ 5) : MT l b D cA NN ad zT yX0_wholeWeight cX0_wholeWeight 3 (some .int) 0 [.ref (ad c)] S (EI (sumF (S (c + 1)) N) S) := by
  refine MT.intro (j := 2) (ls := [some (.ref (ad c)), none, none]) pn_X0 rfl rfl rfl (fun pr en s0 mi below meth c' K _ => ?_)
  have lp : ∀ (fuel : Nat) (i : Nat) (x : Int32), (N + 1 ≤ i + fuel) → (i ≤ N) → (x = sumF (S (c + 1)) i) → G pr l en (rmd 0) s0 mi (List.toArray [.ref (ad c)]) below meth c' (MQ below (QQ b D cA NN ad zT (EI (sumF (S (c + 1)) N) S)) (List.toArray [.ref (ad c)]) s0 0 0 (aF b)) b D cA 3 NN ad zT 0 0 4 [some (.ref (ad c)), some (.int x), some (.int (nI i))] [] S := by
    intro fuel
    induction fuel with
    | zero =>
      intro i  x  hi hi2 hx
      omega
    | succ fuel ih =>
      intro i  x  hi hi2 hx
      refine g_iload_n K dX0_wholeWeight_4 rfl ?_
      refine g_aload_n K dX0_wholeWeight_5 rfl ?_
      refine g_geti K lk_X0_22 dX0_wholeWeight_6 rfl hc.k0 hc.n0 (by decide) rfl ?_
      refine g_icmp_ge (tgt := 27) K dX0_wholeWeight_9 (by decide) (fun u9 => ?_) (fun u9 => ?_)
      · have hiN : i = N := by
          rw [hN, nI_leI (by omega) (by omega)] at u9
          omega
        subst hiN
        refine g_iload_n K dX0_wholeWeight_27 rfl ?_
        refine g_iret K dX0_wholeWeight_28 ⟨_, rfl, ?_⟩
        exact ⟨hx, rfl⟩
      · have hiN : i < N := by
          rw [hN, nI_leI (by omega) (by omega)] at u9
          omega
        refine g_iload_n K dX0_wholeWeight_12 rfl ?_
        refine g_aload_n K dX0_wholeWeight_13 rfl ?_
        refine g_getr (j := (c + 1)) K lk_X0_9 dX0_wholeWeight_14 rfl (by decide) hc.k0 hc.n0 (by decide) rfl hc.r0 ?_
        refine g_iload_n K dX0_wholeWeight_17 rfl ?_
        refine g_iald (j := i) K dX0_wholeWeight_18 rfl hc.l1 (by first | assumption | omega) hc.k1 hc.n1 rfl ?_
        refine g_iadd K dX0_wholeWeight_19 ?_
        refine g_istore_n (ls2 := [_, some (.int _), _]) K dX0_wholeWeight_20 (by decide) rfl ?_
        refine g_iinc (ls2 := [_, _, some (.int _)]) K dX0_wholeWeight_21 rfl kc_1 rfl ?_
        refine g_goto (tgt := 4) K dX0_wholeWeight_24 (by decide) ?_
        rw [nI_1]
        refine ih (i + 1) _ (by omega) (by omega) ?_
        rw [hx]; rfl
  refine g_iconst K dX0_wholeWeight_0 kc_0 ?_
  refine g_istore_n (ls2 := [_, some (.int _), _]) K dX0_wholeWeight_1 (by decide) rfl ?_
  refine g_iconst K dX0_wholeWeight_2 kc_0 ?_
  refine g_istore_n (ls2 := [_, _, some (.int _)]) K dX0_wholeWeight_3 (by decide) rfl ?_
  exact lp (N + 1) 0 0 (by omega) (by omega) rfl
set_option maxHeartbeats 4000000 in
set_option maxRecDepth 100000 in
theorem c_X0_wholeLength {l : Launch} {b : Nat} {D : va_G} {cA : Nat → ClassId} {ad : Nat → Nat} {S : ST} {c : Nat} {N : Nat} (hc : CartAt c) (hN : S c 3 = nI N) (h5 : N ≤ 5) : MT l b D cA NN ad zT yX0_wholeLength cX0_wholeLength 3 (some .int) 0 [.ref (ad c)] S (EI (sumF (S (c + 2)) N) S) := by
  refine MT.intro (j := 2) (ls := [some (.ref (ad c)), none, none]) pn_X0 rfl rfl rfl (fun pr en s0 mi below meth c' K _ => ?_)
  have lp : ∀ (fuel : Nat) (i : Nat) (x : Int32), (N + 1 ≤ i + fuel) → (i ≤ N) → (x = sumF (S (c + 2)) i) → G pr l en (rmd 0) s0 mi (List.toArray [.ref (ad c)]) below meth c' (MQ below (QQ b D cA NN ad zT (EI (sumF (S (c + 2)) N) S)) (List.toArray [.ref (ad c)]) s0 0 0 (aF b)) b D cA 3 NN ad zT 0 0 4 [some (.ref (ad c)), some (.int x), some (.int (nI i))] [] S := by
    intro fuel
    induction fuel with
    | zero =>
      intro i  x  hi hi2 hx
      omega
    | succ fuel ih =>
      intro i  x  hi hi2 hx
      refine g_iload_n K dX0_wholeLength_4 rfl ?_
      refine g_aload_n K dX0_wholeLength_5 rfl ?_
      refine g_geti K lk_X0_22 dX0_wholeLength_6 rfl hc.k0 hc.n0 (by decide) rfl ?_
      refine g_icmp_ge (tgt := 27) K dX0_wholeLength_9 (by decide) (fun u9 => ?_) (fun u9 => ?_)
      · have hiN : i = N := by
          rw [hN, nI_leI (by omega) (by omega)] at u9
          omega
        subst hiN
        refine g_iload_n K dX0_wholeLength_27 rfl ?_
        refine g_iret K dX0_wholeLength_28 ⟨_, rfl, ?_⟩
        exact ⟨hx, rfl⟩
      · have hiN : i < N := by
          rw [hN, nI_leI (by omega) (by omega)] at u9
          omega
        refine g_iload_n K dX0_wholeLength_12 rfl ?_
        refine g_aload_n K dX0_wholeLength_13 rfl ?_
        refine g_getr (j := (c + 2)) K lk_X0_15 dX0_wholeLength_14 rfl (by decide) hc.k0 hc.n0 (by decide) rfl hc.r1 ?_
        refine g_iload_n K dX0_wholeLength_17 rfl ?_
        refine g_iald (j := i) K dX0_wholeLength_18 rfl hc.l2 (by first | assumption | omega) hc.k2 hc.n2 rfl ?_
        refine g_iadd K dX0_wholeLength_19 ?_
        refine g_istore_n (ls2 := [_, some (.int _), _]) K dX0_wholeLength_20 (by decide) rfl ?_
        refine g_iinc (ls2 := [_, _, some (.int _)]) K dX0_wholeLength_21 rfl kc_1 rfl ?_
        refine g_goto (tgt := 4) K dX0_wholeLength_24 (by decide) ?_
        rw [nI_1]
        refine ih (i + 1) _ (by omega) (by omega) ?_
        rw [hx]; rfl
  refine g_iconst K dX0_wholeLength_0 kc_0 ?_
  refine g_istore_n (ls2 := [_, some (.int _), _]) K dX0_wholeLength_1 (by decide) rfl ?_
  refine g_iconst K dX0_wholeLength_2 kc_0 ?_
  refine g_istore_n (ls2 := [_, _, some (.int _)]) K dX0_wholeLength_3 (by decide) rfl ?_
  exact lp (N + 1) 0 0 (by omega) (by omega) rfl
set_option maxHeartbeats 4000000 in
set_option maxRecDepth 100000 in
theorem c_X0_netAndBase {l : Launch} {b : Nat} {D : va_G} {cA : Nat → ClassId} {ad : Nat → Nat} {S : ST} {c : Nat} (hc : CartAt c) : MT l b D cA NN ad zT yX0_netAndBase cX0_netAndBase 1 (some .int) 0 [.ref (ad c)] S (EI (netF (S c 4) (S c 5)) S) := by
  refine MT.intro (j := 0) (ls := [some (.ref (ad c))]) pn_X0 rfl rfl rfl (fun pr en s0 mi below meth c' K _ => ?_)
  refine g_aload_n K dX0_netAndBase_0 rfl ?_
  refine g_geti K lk_X0_30 dX0_netAndBase_1 rfl hc.k0 hc.n0 (by decide) rfl ?_
  refine g_bipush K dX0_netAndBase_4 kb_m5 ?_
  refine g_icmp_eq (tgt := 18) K dX0_netAndBase_6 (by decide) (fun u6 => ?_) (fun u6 => ?_)
  · refine g_bipush K dX0_netAndBase_18 kb_m5 ?_
    refine g_iret K dX0_netAndBase_20 ⟨_, rfl, ?_⟩
    refine ⟨?_, rfl⟩
    simp_all [netF]
  · refine g_aload_n K dX0_netAndBase_9 rfl ?_
    refine g_geti K lk_X0_33 dX0_netAndBase_10 rfl hc.k0 hc.n0 (by decide) rfl ?_
    refine g_bipush K dX0_netAndBase_13 kb_m5 ?_
    refine g_icmp_ne (tgt := 21) K dX0_netAndBase_15 (by decide) (fun u15 => ?_) (fun u15 => ?_)
    · refine g_aload_n K dX0_netAndBase_21 rfl ?_
      refine g_geti K lk_X0_33 dX0_netAndBase_22 rfl hc.k0 hc.n0 (by decide) rfl ?_
      refine g_aload_n K dX0_netAndBase_25 rfl ?_
      refine g_geti K lk_X0_30 dX0_netAndBase_26 rfl hc.k0 hc.n0 (by decide) rfl ?_
      refine g_isub K dX0_netAndBase_29 ?_
      refine g_sipush K dX0_netAndBase_30 kp_1000 ?_
      refine g_iadd K dX0_netAndBase_33 ?_
      refine g_iret K dX0_netAndBase_34 ⟨_, rfl, ?_⟩
      refine ⟨?_, rfl⟩
      simp_all [netF]
    · refine g_bipush K dX0_netAndBase_18 kb_m5 ?_
      refine g_iret K dX0_netAndBase_20 ⟨_, rfl, ?_⟩
      refine ⟨?_, rfl⟩
      simp_all [netF]
set_option maxHeartbeats 4000000 in
set_option maxRecDepth 100000 in
theorem c_X0_bearerOf {l : Launch} {b : Nat} {D : va_G} {cA : Nat → ClassId} {ad : Nat → Nat} {S : ST} {c : Nat} {N a : Nat} (hc : CartAt c) (hN : S c 3 = nI N) (h5 : N ≤ 5) (ha : a < N) : MT l b D cA NN ad zT yX0_bearerOf cX0_bearerOf 3 (some .int) 0 [.ref (ad c), .int (nI a)] S (EI (bearerF (S (c + 3)) N a) S) := by
  refine MT.intro (j := 1) (ls := [some (.ref (ad c)), some (.int (nI a)), none]) pn_X0 rfl rfl rfl (fun pr en s0 mi below meth c' K _ => ?_)
  have lq : ∀ (fuel : Nat) (i : Nat) (x : Int32), (i + 1 ≤ fuel) → (i ≤ N) → (x = nI i - 1) → (¬ upF (S (c + 3)) (N - a) a < N) → (dnF (S (c + 3)) a = dnF (S (c + 3)) i) → G pr l en (rmd 0) s0 mi (List.toArray [.ref (ad c), .int (nI a)]) below meth c' (MQ below (QQ b D cA NN ad zT (EI (bearerF (S (c + 3)) N a) S)) (List.toArray [.ref (ad c), .int (nI a)]) s0 0 0 (aF b)) b D cA 3 NN ad zT 0 0 31 [some (.ref (ad c)), some (.int (nI a)), some (.int x)] [] S := by
    intro fuel
    induction fuel with
    | zero =>
      intro i  x  hi hi2 hxi hn hx
      omega
    | succ fuel ih =>
      intro i  x  hi hi2 hxi hn hx
      refine g_iload_n K dX0_bearerOf_31 rfl ?_
      refine g_if_lt (tgt := 52) K dX0_bearerOf_32 (by decide) (fun u32 => ?_) (fun u32 => ?_)
      · have hi0 : i = 0 := by
          rcases Nat.eq_zero_or_pos i with q | q
          · exact q
          · rw [hxi, show i = (i - 1) + 1 by omega, nI_pred] at u32
            exact absurd u32 (nI_pos (by omega))
        subst hi0
        refine g_bipush K dX0_bearerOf_52 kb_m5 ?_
        refine g_iret K dX0_bearerOf_54 ⟨_, rfl, ?_⟩
        refine ⟨?_, rfl⟩
        unfold bearerF
        rw [if_neg hn, hx]
        rfl
      · obtain ⟨j, hij⟩ : ∃ j, i = j + 1 := by
          rcases Nat.eq_zero_or_pos i with q | q
          · subst q
            subst hxi
            exact absurd (by decide) u32
          · exact ⟨i - 1, by omega⟩
        have hxj : x = nI j := by rw [hxi, hij, nI_pred]
        refine g_aload_n K dX0_bearerOf_35 rfl ?_
        refine g_getr (j := (c + 3)) K lk_X0_18 dX0_bearerOf_36 rfl (by decide) hc.k0 hc.n0 (by decide) rfl hc.r2 ?_
        refine g_iload_n K dX0_bearerOf_39 rfl ?_
        refine g_zald (j := j) K dX0_bearerOf_40 hxj hc.l3 (by omega) hc.k3 hc.n3 rfl ?_
        refine g_if_ne (tgt := 46) K dX0_bearerOf_41 (by decide) (fun u41 => ?_) (fun u41 => ?_)
        · refine g_iinc (ls2 := [_, _, some (.int _)]) K dX0_bearerOf_46 rfl kc_m1 rfl ?_
          refine g_goto (tgt := 31) K dX0_bearerOf_49 (by decide) ?_
          have hj : x + (-1) = nI j - 1 := by rw [hxj]; grind
          rw [hj]
          refine ih j _ (by omega) (by omega) rfl hn ?_
          rw [hx, hij, dnF, if_neg u41]
        · refine g_iload_n K dX0_bearerOf_44 rfl ?_
          refine g_iret K dX0_bearerOf_45 ⟨_, rfl, ?_⟩
          refine ⟨?_, rfl⟩
          unfold bearerF
          rw [if_neg hn, hx, hij, dnF, if_pos (by simpa using u41), hxj]
  have lp : ∀ (fuel : Nat) (i : Nat), (N + 1 ≤ i + fuel) → (i ≤ N) → (a ≤ i) → (upF (S (c + 3)) (N - a) a = upF (S (c + 3)) (N - i) i) → G pr l en (rmd 0) s0 mi (List.toArray [.ref (ad c), .int (nI a)]) below meth c' (MQ below (QQ b D cA NN ad zT (EI (bearerF (S (c + 3)) N a) S)) (List.toArray [.ref (ad c), .int (nI a)]) s0 0 0 (aF b)) b D cA 3 NN ad zT 0 0 2 [some (.ref (ad c)), some (.int (nI a)), some (.int (nI i))] [] S := by
    intro fuel
    induction fuel with
    | zero =>
      intro i  hi hi2 hai hx
      omega
    | succ fuel ih =>
      intro i  hi hi2 hai hx
      refine g_iload_n K dX0_bearerOf_2 rfl ?_
      refine g_aload_n K dX0_bearerOf_3 rfl ?_
      refine g_geti K lk_X0_22 dX0_bearerOf_4 rfl hc.k0 hc.n0 (by decide) rfl ?_
      refine g_icmp_ge (tgt := 27) K dX0_bearerOf_7 (by decide) (fun u7 => ?_) (fun u7 => ?_)
      · have hiN : i = N := by
          rw [hN, nI_leI (by omega) (by omega)] at u7
          omega
        refine g_iload_n K dX0_bearerOf_27 rfl ?_
        refine g_iconst K dX0_bearerOf_28 kc_1 ?_
        refine g_isub K dX0_bearerOf_29 ?_
        refine g_istore_n (ls2 := [_, _, some (.int _)]) K dX0_bearerOf_30 (by decide) rfl ?_
        refine lq (a + 1) a _ (by omega) (by omega) rfl ?_ rfl
        rw [hx, hiN, Nat.sub_self]
        unfold upF
        omega
      · have hiN : i < N := by
          rw [hN, nI_leI (by omega) (by omega)] at u7
          omega
        refine g_aload_n K dX0_bearerOf_10 rfl ?_
        refine g_getr (j := (c + 3)) K lk_X0_18 dX0_bearerOf_11 rfl (by decide) hc.k0 hc.n0 (by decide) rfl hc.r2 ?_
        refine g_iload_n K dX0_bearerOf_14 rfl ?_
        refine g_zald (j := i) K dX0_bearerOf_15 rfl hc.l3 (by first | assumption | omega) hc.k3 hc.n3 rfl ?_
        refine g_if_ne (tgt := 21) K dX0_bearerOf_16 (by decide) (fun u16 => ?_) (fun u16 => ?_)
        · refine g_iinc (ls2 := [_, _, some (.int _)]) K dX0_bearerOf_21 rfl kc_1 rfl ?_
          refine g_goto (tgt := 2) K dX0_bearerOf_24 (by decide) ?_
          rw [nI_1]
          refine ih (i + 1) (by omega) (by omega) (by omega) ?_
          rw [hx, show N - i = (N - (i + 1)) + 1 by omega]
          rw [upF, if_neg u16]
        · refine g_iload_n K dX0_bearerOf_19 rfl ?_
          refine g_iret K dX0_bearerOf_20 ⟨_, rfl, ?_⟩
          refine ⟨?_, rfl⟩
          have h0 : upF (S (c + 3)) (N - a) a = i := by
            rw [hx, show N - i = (N - (i + 1)) + 1 by omega, upF, if_pos (by simpa using u16)]
          unfold bearerF
          rw [h0, if_pos hiN]
  refine g_iload_n K dX0_bearerOf_0 rfl ?_
  refine g_istore_n (ls2 := [_, _, some (.int _)]) K dX0_bearerOf_1 (by decide) rfl ?_
  exact lp (N + 1) a (by omega) (by omega) (by omega) rfl
set_option maxHeartbeats 4000000 in
set_option maxRecDepth 100000 in
theorem c_X0_borneBy {l : Launch} {b : Nat} {D : va_G} {cA : Nat → ClassId} {ad : Nat → Nat} {S : ST} {c : Nat} {N : Nat} {x : Int32} (hc : CartAt c) (hN : S c 3 = nI N) (h5 : N ≤ 5) : MT l b D cA NN ad zT yX0_borneBy cX0_borneBy 4 (some .int) 1 [.ref (ad c), .int x] S (EI (borneF (S (c + 1)) (S (c + 3)) N x) S) := by
  refine MT.intro (j := 2) (ls := [some (.ref (ad c)), some (.int x), none, none]) pn_X0 rfl rfl rfl (fun pr en s0 mi below meth c' K _ => ?_)
  have lp : ∀ (fuel : Nat) (i : Nat) (y : Int32), (N + 1 ≤ i + fuel) → (i ≤ N) → (y = sumF (fun k => if bearerF (S (c + 3)) N k = x then S (c + 1) k else 0) i) → G pr l en (rmd 1) s0 mi (List.toArray [.ref (ad c), .int x]) below meth c' (MQ below (QQ b D cA NN ad zT (EI (borneF (S (c + 1)) (S (c + 3)) N x) S)) (List.toArray [.ref (ad c), .int x]) s0 0 0 (aF b)) b D cA 4 NN ad zT 0 0 4 [some (.ref (ad c)), some (.int x), some (.int y), some (.int (nI i))] [] S := by
    intro fuel
    induction fuel with
    | zero =>
      intro i  y  hi hi2 hx
      omega
    | succ fuel ih =>
      intro i  y  hi hi2 hx
      refine g_iload_n K dX0_borneBy_4 rfl ?_
      refine g_aload_n K dX0_borneBy_5 rfl ?_
      refine g_geti K lk_X0_22 dX0_borneBy_6 rfl hc.k0 hc.n0 (by decide) rfl ?_
      refine g_icmp_ge (tgt := 36) K dX0_borneBy_9 (by decide) (fun u9 => ?_) (fun u9 => ?_)
      · have hiN : i = N := by
          rw [hN, nI_leI (by omega) (by omega)] at u9
          omega
        subst hiN
        refine g_iload_n K dX0_borneBy_36 rfl ?_
        refine g_iret K dX0_borneBy_37 ⟨_, rfl, ?_⟩
        exact ⟨hx, rfl⟩
      · have hiN : i < N := by
          rw [hN, nI_leI (by omega) (by omega)] at u9
          omega
        refine g_aload_n K dX0_borneBy_12 rfl ?_
        refine g_iload_n K dX0_borneBy_13 rfl ?_
        refine g_callVi K (c_X0_bearerOf hc hN h5 hiN) mw_X0_bearerOf ml_X0_42 dX0_borneBy_14 (by rfl) rfl (by rw [hc.k0]; rfl) hc.n0 (by simp [Value.category]) ⟨by decide, by decide⟩ ⟨by decide, by decide⟩ ?_
        refine g_iload_n K dX0_borneBy_17 rfl ?_
        refine g_icmp_ne (tgt := 30) K dX0_borneBy_18 (by decide) (fun u18 => ?_) (fun u18 => ?_)
        · refine g_iinc (ls2 := [_, _, _, some (.int _)]) K dX0_borneBy_30 rfl kc_1 rfl ?_
          refine g_goto (tgt := 4) K dX0_borneBy_33 (by decide) ?_
          rw [nI_1]
          refine ih (i + 1) _ (by omega) (by omega) ?_
          simp [hx, sumF, u18]
        · refine g_iload_n K dX0_borneBy_21 rfl ?_
          refine g_aload_n K dX0_borneBy_22 rfl ?_
          refine g_getr (j := (c + 1)) K lk_X0_9 dX0_borneBy_23 rfl (by decide) hc.k0 hc.n0 (by decide) rfl hc.r0 ?_
          refine g_iload_n K dX0_borneBy_26 rfl ?_
          refine g_iald (j := i) K dX0_borneBy_27 rfl hc.l1 (by first | assumption | omega) hc.k1 hc.n1 rfl ?_
          refine g_iadd K dX0_borneBy_28 ?_
          refine g_istore_n (ls2 := [_, _, some (.int _), _]) K dX0_borneBy_29 (by decide) rfl ?_
          refine g_iinc (ls2 := [_, _, _, some (.int _)]) K dX0_borneBy_30 rfl kc_1 rfl ?_
          refine g_goto (tgt := 4) K dX0_borneBy_33 (by decide) ?_
          rw [nI_1]
          refine ih (i + 1) _ (by omega) (by omega) ?_
          simp [hx, sumF, u18]
  refine g_iconst K dX0_borneBy_0 kc_0 ?_
  refine g_istore_n (ls2 := [_, _, some (.int _), _]) K dX0_borneBy_1 (by decide) rfl ?_
  refine g_iconst K dX0_borneBy_2 kc_0 ?_
  refine g_istore_n (ls2 := [_, _, _, some (.int _)]) K dX0_borneBy_3 (by decide) rfl ?_
  exact lp (N + 1) 0 0 (by omega) (by omega) rfl
set_option maxHeartbeats 4000000 in
set_option maxRecDepth 100000 in
theorem c_X0_addAxle {l : Launch} {b : Nat} {D : va_G} {cA : Nat → ClassId} {ad : Nat → Nat} {S : ST} {c : Nat} {N : Nat} {x y : Int32} (hc : CartAt c) (hN : S c 3 = nI N) (h5 : N < 5) : MT l b D cA NN ad zT yX0_addAxle cX0_addAxle 3 none 0 [.ref (ad c), .int x, .int y] S (EV (addAx S c N x y)) := by
  refine MT.intro (j := 0) (ls := [some (.ref (ad c)), some (.int x), some (.int y)]) pn_X0 rfl rfl rfl (fun pr en s0 mi below meth c' K _ => ?_)
  refine g_aload_n K dX0_addAxle_0 rfl ?_
  refine g_geti K lk_X0_22 dX0_addAxle_1 rfl hc.k0 hc.n0 (by decide) rfl ?_
  refine g_iconst K dX0_addAxle_4 kc_5 ?_
  refine g_icmp_lt (tgt := 9) K dX0_addAxle_5 (by decide) (fun u5 => ?_) (fun u5 => absurd (by rw [hN]; exact nI_lt h5 (by decide)) u5)
  refine g_aload_n K dX0_addAxle_9 rfl ?_
  refine g_getr (j := (c + 1)) K lk_X0_9 dX0_addAxle_10 rfl (by decide) hc.k0 hc.n0 (by decide) rfl hc.r0 ?_
  refine g_aload_n K dX0_addAxle_13 rfl ?_
  refine g_geti K lk_X0_22 dX0_addAxle_14 rfl hc.k0 hc.n0 (by decide) rfl ?_
  refine g_iload_n K dX0_addAxle_17 rfl ?_
  refine g_iast (j := N) K dX0_addAxle_18 hN hc.l1 h5 hc.k1 hc.n1 rfl ?_
  refine g_aload_n K dX0_addAxle_19 rfl ?_
  refine g_getr (j := (c + 2)) K lk_X0_15 dX0_addAxle_20 rfl (by decide) hc.k0 hc.n0 (by decide) rfl hc.r1 ?_
  refine g_aload_n K dX0_addAxle_23 rfl ?_
  refine g_geti K lk_X0_22 dX0_addAxle_24 rfl hc.k0 hc.n0 (by decide) rfl ?_
  refine g_iload_n K dX0_addAxle_27 rfl ?_
  refine g_iast (j := N) K dX0_addAxle_28 (by simp [stw_app, hN]) hc.l2 h5 hc.k2 hc.n2 rfl ?_
  refine g_aload_n K dX0_addAxle_29 rfl ?_
  refine g_getr (j := (c + 3)) K lk_X0_18 dX0_addAxle_30 rfl (by decide) hc.k0 hc.n0 (by decide) rfl hc.r2 ?_
  refine g_aload_n K dX0_addAxle_33 rfl ?_
  refine g_geti K lk_X0_22 dX0_addAxle_34 rfl hc.k0 hc.n0 (by decide) rfl ?_
  refine g_iconst K dX0_addAxle_37 kc_0 ?_
  refine g_zast (j := N) K dX0_addAxle_38 (by simp [stw_app, hN]) hc.l3 h5 hc.k3 hc.n3 (by decide : vp_nar .boolean 0 = 0) ?_
  refine g_aload_n K dX0_addAxle_39 rfl ?_
  refine g_dup K dX0_addAxle_40 rfl ?_
  refine g_geti K lk_X0_22 dX0_addAxle_41 rfl hc.k0 hc.n0 (by decide) rfl ?_
  refine g_iconst K dX0_addAxle_44 kc_1 ?_
  refine g_iadd K dX0_addAxle_45 ?_
  refine g_puti K lk_X0_22 lq_X0_3 dX0_addAxle_46 (put_i _) rfl hc.k0 hc.n0 (by decide) ?_
  refine g_vret K dX0_addAxle_49 ⟨rfl, ?_⟩
  show _ = addAx S c N x y
  unfold addAx
  congr 1
  simp only [stw_app]
  simp [hN, nI_1]
set_option maxHeartbeats 4000000 in
set_option maxRecDepth 100000 in
theorem c_X0_begin {l : Launch} {b : Nat} {D : va_G} {cA : Nat → ClassId} {ad : Nat → Nat} {S : ST} {c : Nat} {x : Int32} (hc : CartAt c) : MT l b D cA NN ad zT yX0_begin cX0_begin 2 none 1 [.ref (ad c), .int x] S (EV (begC S c x)) := by
  refine MT.intro (j := 0) (ls := [some (.ref (ad c)), some (.int x)]) pn_X0 rfl rfl rfl (fun pr en s0 mi below meth c' K _ => ?_)
  refine g_aload_n K dX0_begin_0 rfl ?_
  refine g_iconst K dX0_begin_1 kc_0 ?_
  refine g_puti K lk_X0_22 lq_X0_3 dX0_begin_2 (put_i _) rfl hc.k0 hc.n0 (by decide) ?_
  refine g_aload_n K dX0_begin_5 rfl ?_
  refine g_iconst K dX0_begin_6 kc_0 ?_
  refine g_iload_n K dX0_begin_7 rfl ?_
  refine g_callVv K (c_X0_addAxle (N := 0) hc (by simp [stw_app, nI_0]) (by decide)) mw_X0_addAxle ml_X0_26 dX0_begin_8 (by rfl) rfl (by rw [hc.k0]; rfl) hc.n0 (by simp [Value.category]) ⟨by decide, by decide⟩ ⟨by decide, by decide⟩ ?_
  refine g_aload_n K dX0_begin_11 rfl ?_
  refine g_bipush K dX0_begin_12 kb_m5 ?_
  refine g_puti K lk_X0_30 lq_X0_4 dX0_begin_14 (put_i _) rfl hc.k0 hc.n0 (by decide) ?_
  refine g_aload_n K dX0_begin_17 rfl ?_
  refine g_bipush K dX0_begin_18 kb_m5 ?_
  refine g_puti K lk_X0_33 lq_X0_5 dX0_begin_20 (put_i _) rfl hc.k0 hc.n0 (by decide) ?_
  refine g_aload_n K dX0_begin_23 rfl ?_
  refine g_bipush K dX0_begin_24 kb_m5 ?_
  refine g_puti K lk_X0_36 lq_X0_6 dX0_begin_26 (put_i _) rfl hc.k0 hc.n0 (by decide) ?_
  refine g_aload_n K dX0_begin_29 rfl ?_
  refine g_bipush K dX0_begin_30 kb_m5 ?_
  refine g_puti K lk_X0_39 lq_X0_7 dX0_begin_32 (put_i _) rfl hc.k0 hc.n0 (by decide) ?_
  refine g_vret K dX0_begin_35 ⟨rfl, ?_⟩
  exact rfl
theorem fits_nar {x : Int32} (h : fits .boolean (.int x) = true) : vp_nar .boolean x = x := by
  have h2 : x = 0 ∨ x = 1 := by simpa [fits] using h
  rcases h2 with rfl | rfl <;> decide
theorem same_cart {S T : ST} {c c2 : Nat} (hc : CartAt c) (hT : ∀ k, k ≠ c + 3 → T k = str (str S (c + 1) (S (c2 + 1))) (c + 2) (S (c2 + 2)) k) (hT3 : ∀ j, j < 5 → T (c + 3) j = S (c2 + 3) j) : ∀ k i, relv k i →
    stw (stw (stw (stw (stw T c 3 (S c2 3)) c 4 (S c2 4)) c 5 (S c2 5)) c 6 (S c2 6)) c 7 (S c2 7) k i = cpCart S c c2 k i := by
  intro k i hr
  unfold cpCart
  simp only [stw_app]
  by_cases h0 : k = c
  · subst h0
    have h8 : i < 8 := by have := hr.1; rw [hc.l0] at this; exact this
    have h1 := hr.2.1 (by rw [hc.k0]; decide)
    rw [hc.k0] at h1
    have h3 : i = 3 ∨ i = 4 ∨ i = 5 ∨ i = 6 ∨ i = 7 := by
      rcases (show i = 0 ∨ i = 1 ∨ i = 2 ∨ i = 3 ∨ i = 4 ∨ i = 5 ∨ i = 6 ∨ i = 7 by omega) with rfl | rfl | rfl | rfl | rfl | rfl | rfl | rfl <;> first | (exact absurd h1 (by decide)) | simp
    rcases h3 with rfl | rfl | rfl | rfl | rfl <;> simp
  · simp only [h0, false_and, if_false]
    by_cases h3 : k = c + 3
    · subst h3
      have h5 : i < 5 := by have := hr.1; rw [hc.l3] at this; exact this
      simp [hT3 i h5]
    · rw [hT k h3]
      simp only [str_app]
      by_cases h1 : k = c + 1
      · subst h1
        simp
      · by_cases h2 : k = c + 2
        · subst h2
          simp
        · simp [h1, h2, h3]

set_option maxHeartbeats 4000000 in
set_option maxRecDepth 100000 in
theorem c_X0_copyFrom {l : Launch} {b : Nat} {D : va_G} {cA : Nat → ClassId} {ad : Nat → Nat} {S : ST} {c c2 : Nat} (hc : CartAt c) (hc2 : CartAt c2) (hcc : c + 3 < c2 ∨ c2 + 3 < c) (hz : ∀ i, i < 5 → fits .boolean (.int (S (c2 + 3) i)) = true) : MT l b D cA NN ad zT yX0_copyFrom cX0_copyFrom 3 none 1 [.ref (ad c), .ref (ad c2)] S (EV (cpCart S c c2)) := by
  refine MT.intro (j := 1) (ls := [some (.ref (ad c)), some (.ref (ad c2)), none]) pn_X0 rfl rfl rfl (fun pr en s0 mi below meth c' K _ => ?_)
  have lp : ∀ (fuel : Nat) (i : Nat) (T : ST), (6 ≤ i + fuel) → (i ≤ 5) → (∀ k, k ≠ c + 3 → T k = str (str S (c + 1) (S (c2 + 1))) (c + 2) (S (c2 + 2)) k) → (∀ j, j < i → T (c + 3) j = S (c2 + 3) j) → G pr l en (rmd 1) s0 mi (List.toArray [.ref (ad c), .ref (ad c2)]) below meth c' (MQ below (QQ b D cA NN ad zT (EV (cpCart S c c2))) (List.toArray [.ref (ad c), .ref (ad c2)]) s0 0 0 (aF b)) b D cA 3 NN ad zT 0 0 30 [some (.ref (ad c)), some (.ref (ad c2)), some (.int (nI i))] [] T := by
    intro fuel
    induction fuel with
    | zero =>
      intro i  T  hi hi2 hT hT3
      omega
    | succ fuel ih =>
      intro i  T  hi hi2 hT hT3
      refine g_iload_n K dX0_copyFrom_30 rfl ?_
      refine g_iconst K dX0_copyFrom_31 kc_5 ?_
      refine g_icmp_ge (tgt := 53) K dX0_copyFrom_32 (by decide) (fun u32 => ?_) (fun u32 => ?_)
      · have hiN : i = 5 := by
          rw [show (5 : Int32) = nI 5 from rfl, nI_leI (by omega) (by omega)] at u32
          omega
        subst hiN
        refine g_aload_n K dX0_copyFrom_53 rfl ?_
        refine g_aload_n K dX0_copyFrom_54 rfl ?_
        refine g_geti K lk_X0_22 dX0_copyFrom_55 rfl hc2.k0 hc2.n0 (by decide) (congrFun ((hT _ (by omega)).trans ((str_n (by omega)).trans (str_n (by omega)))) 3) ?_
        refine g_puti K lk_X0_22 lq_X0_3 dX0_copyFrom_58 (put_i _) rfl hc.k0 hc.n0 (by decide) ?_
        refine g_aload_n K dX0_copyFrom_61 rfl ?_
        refine g_aload_n K dX0_copyFrom_62 rfl ?_
        refine g_geti K lk_X0_30 dX0_copyFrom_63 rfl hc2.k0 hc2.n0 (by decide) (congrFun ((stw_n (by omega)).trans ((hT _ (by omega)).trans ((str_n (by omega)).trans (str_n (by omega))))) 4) ?_
        refine g_puti K lk_X0_30 lq_X0_4 dX0_copyFrom_66 (put_i _) rfl hc.k0 hc.n0 (by decide) ?_
        refine g_aload_n K dX0_copyFrom_69 rfl ?_
        refine g_aload_n K dX0_copyFrom_70 rfl ?_
        refine g_geti K lk_X0_33 dX0_copyFrom_71 rfl hc2.k0 hc2.n0 (by decide) (congrFun ((stw_n (by omega)).trans ((stw_n (by omega)).trans ((hT _ (by omega)).trans ((str_n (by omega)).trans (str_n (by omega)))))) 5) ?_
        refine g_puti K lk_X0_33 lq_X0_5 dX0_copyFrom_74 (put_i _) rfl hc.k0 hc.n0 (by decide) ?_
        refine g_aload_n K dX0_copyFrom_77 rfl ?_
        refine g_aload_n K dX0_copyFrom_78 rfl ?_
        refine g_geti K lk_X0_36 dX0_copyFrom_79 rfl hc2.k0 hc2.n0 (by decide) (congrFun ((stw_n (by omega)).trans ((stw_n (by omega)).trans ((stw_n (by omega)).trans ((hT _ (by omega)).trans ((str_n (by omega)).trans (str_n (by omega))))))) 6) ?_
        refine g_puti K lk_X0_36 lq_X0_6 dX0_copyFrom_82 (put_i _) rfl hc.k0 hc.n0 (by decide) ?_
        refine g_aload_n K dX0_copyFrom_85 rfl ?_
        refine g_aload_n K dX0_copyFrom_86 rfl ?_
        refine g_geti K lk_X0_39 dX0_copyFrom_87 rfl hc2.k0 hc2.n0 (by decide) (congrFun ((stw_n (by omega)).trans ((stw_n (by omega)).trans ((stw_n (by omega)).trans ((stw_n (by omega)).trans ((hT _ (by omega)).trans ((str_n (by omega)).trans (str_n (by omega)))))))) 7) ?_
        refine g_puti K lk_X0_39 lq_X0_7 dX0_copyFrom_90 (put_i _) rfl hc.k0 hc.n0 (by decide) ?_
        exact g_same (S' := cpCart S c c2) (Nat.le_refl _) (fun k i _ hr => same_cart hc hT hT3 k i hr) (g_vret K dX0_copyFrom_93 ⟨rfl, rfl⟩)
      · have hiN : i < 5 := by
          rw [show (5 : Int32) = nI 5 from rfl, nI_leI (by omega) (by omega)] at u32
          omega
        refine g_aload_n K dX0_copyFrom_35 rfl ?_
        refine g_getr (j := (c + 3)) K lk_X0_18 dX0_copyFrom_36 rfl (by decide) hc.k0 hc.n0 (by decide) rfl hc.r2 ?_
        refine g_iload_n K dX0_copyFrom_39 rfl ?_
        refine g_aload_n K dX0_copyFrom_40 rfl ?_
        refine g_getr (j := (c2 + 3)) K lk_X0_18 dX0_copyFrom_41 rfl (by decide) hc2.k0 hc2.n0 (by decide) rfl hc2.r2 ?_
        refine g_iload_n K dX0_copyFrom_44 rfl ?_
        refine g_zald (j := i) K dX0_copyFrom_45 rfl hc2.l3 (by first | assumption | omega) hc2.k3 hc2.n3 (show T (c2 + 3) i = S (c2 + 3) i from congrFun ((hT _ (by omega)).trans ((str_n (by omega)).trans (str_n (by omega)))) i) ?_
        refine g_zast (j := i) K dX0_copyFrom_46 rfl hc.l3 (by first | assumption | omega) hc.k3 hc.n3 (fits_nar (hz i hiN)) ?_
        refine g_iinc (ls2 := [_, _, some (.int _)]) K dX0_copyFrom_47 rfl kc_1 rfl ?_
        refine g_goto (tgt := 30) K dX0_copyFrom_50 (by decide) ?_
        rw [nI_1]
        refine ih (i + 1) _ (by omega) (by omega) (fun k hk => (stw_n hk).trans (hT k hk)) (fun j hj => ?_)
        rw [stw_app]
        by_cases hji : j = i
        · subst hji
          simp
        · rw [if_neg (fun q => hji q.2)]
          exact hT3 j (by omega)
  refine g_aload_n K dX0_copyFrom_0 rfl ?_
  refine g_getr (j := (c2 + 1)) K lk_X0_9 dX0_copyFrom_1 rfl (by decide) hc2.k0 hc2.n0 (by decide) rfl hc2.r0 ?_
  refine g_iconst K dX0_copyFrom_4 kc_0 ?_
  refine g_aload_n K dX0_copyFrom_5 rfl ?_
  refine g_getr (j := (c + 1)) K lk_X0_9 dX0_copyFrom_6 rfl (by decide) hc.k0 hc.n0 (by decide) rfl hc.r0 ?_
  refine g_iconst K dX0_copyFrom_9 kc_0 ?_
  refine g_iconst K dX0_copyFrom_10 kc_5 ?_
  refine g_copyW (N := 5) (t := 0) (ty := .int) K dX0_copyFrom_11 mj_X0_46 hc2.k1 hc.k1 (by decide) (by decide) rfl rfl rfl rfl (by rw [hc2.l1]; decide) hc.l1 hc2.n1 hc.n1 (by decide) (fun _ _ => rfl) ⟨by decide, by simp [Value.category, rmd]; decide⟩ rfl ?_
  refine g_aload_n K dX0_copyFrom_14 rfl ?_
  refine g_getr (j := (c2 + 2)) K lk_X0_15 dX0_copyFrom_15 rfl (by decide) hc2.k0 hc2.n0 (by decide) rfl hc2.r1 ?_
  refine g_iconst K dX0_copyFrom_18 kc_0 ?_
  refine g_aload_n K dX0_copyFrom_19 rfl ?_
  refine g_getr (j := (c + 2)) K lk_X0_15 dX0_copyFrom_20 rfl (by decide) hc.k0 hc.n0 (by decide) rfl hc.r1 ?_
  refine g_iconst K dX0_copyFrom_23 kc_0 ?_
  refine g_iconst K dX0_copyFrom_24 kc_5 ?_
  refine g_copyW (N := 5) (t := 0) (ty := .int) K dX0_copyFrom_25 mj_X0_46 hc2.k2 hc.k2 (by decide) (by decide) rfl rfl rfl rfl (by rw [hc2.l2]; decide) hc.l2 hc2.n2 hc.n2 (by decide) (fun _ _ => rfl) ⟨by decide, by simp [Value.category, rmd]; decide⟩ (str_n (by omega)) ?_
  refine g_iconst K dX0_copyFrom_28 kc_0 ?_
  refine g_istore_n (ls2 := [_, _, some (.int _)]) K dX0_copyFrom_29 (by decide) rfl ?_
  exact lp 6 0 _ (by omega) (by omega) (fun _ _ => rfl) (fun j hj => absurd hj (by omega))
