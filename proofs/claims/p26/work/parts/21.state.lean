theorem rf_carts {S : ST} {B : Nat} (h : StateAt B) (i : Nat) : rf S (B + 1) i = B + 3 + 4 * i := by
  unfold rf
  rw [if_neg (by rw [h.k1]; decide), rs_carts h]
def FindQ (ad : Nat → Nat) (B n : Nat) (x : Int32) (S : ST) : Option Value → ST → Prop := fun v S' => S' = S ∧ ((∃ i, i < n ∧ x = nI i ∧ v = some (.ref (ad (B + 3 + 4 * i)))) ∨ (¬ (0 ≤ x ∧ x < nI n) ∧ v = some .null))
def addC (S : ST) (B n : Nat) (w : Int32) : ST := stw (begC S (B + 3 + 4 * n) w) B 2 (nI (n + 1))
theorem addAx_n {S : ST} {c N k : Nat} {x y : Int32} (h : k < c ∨ c + 3 < k) : addAx S c N x y k = S k := by
  unfold addAx
  rw [stw_n (by omega), stw_n (by omega), stw_n (by omega), stw_n (by omega)]
theorem begC_n {S : ST} {c k : Nat} {x : Int32} (h : k < c ∨ c + 3 < k) : begC S c x k = S k := by
  unfold begC
  rw [stw_n (by omega), stw_n (by omega), stw_n (by omega), stw_n (by omega), addAx_n h, stw_n (by omega)]
theorem cpCart_n {S : ST} {c c2 k : Nat} (h : k < c ∨ c + 3 < k) : cpCart S c c2 k = S k := by
  unfold cpCart
  rw [if_neg (by omega), if_neg (by omega), if_neg (by omega), if_neg (by omega)]
def cpCarts (S : ST) (B B2 i : Nat) : ST := fun k => if B + 3 ≤ k ∧ k < B + 3 + 4 * i then S (k - B + B2) else S k
def cpState (S : ST) (B B2 : Nat) : ST := fun k => if B ≤ k ∧ k < B + 27 then S (k - B + B2) else S k
theorem cpCarts_step {S : ST} {B B2 i : Nat} (hd : B + 26 < B2 ∨ B2 + 26 < B) (hi : i < 6) : cpCart (cpCarts S B B2 i) (B + 3 + 4 * i) (B2 + 3 + 4 * i) = cpCarts S B B2 (i + 1) := by
  have e : ∀ k, B2 + 3 ≤ k → k < B2 + 27 → cpCarts S B B2 i k = S k := fun k h1 h2 => if_neg (by omega)
  funext k
  unfold cpCart
  rw [e _ (by omega) (by omega), e _ (by omega) (by omega), e _ (by omega) (by omega), e _ (by omega) (by omega)]
  by_cases h0 : k = B + 3 + 4 * i
  · subst h0
    rw [if_pos rfl]
    show _ = if _ then _ else _
    rw [if_pos (by omega)]
    congr 1
    omega
  · rw [if_neg h0]
    by_cases h1 : k = B + 3 + 4 * i + 1
    · subst h1
      rw [if_pos rfl]
      show _ = if _ then _ else _
      rw [if_pos (by omega)]
      congr 1
      omega
    · rw [if_neg h1]
      by_cases h2 : k = B + 3 + 4 * i + 2
      · subst h2
        rw [if_pos rfl]
        show _ = if _ then _ else _
        rw [if_pos (by omega)]
        congr 1
        omega
      · rw [if_neg h2]
        by_cases h3 : k = B + 3 + 4 * i + 3
        · subst h3
          rw [if_pos rfl]
          show _ = if _ then _ else _
          rw [if_pos (by omega)]
          congr 1
          omega
        · rw [if_neg h3]
          unfold cpCarts
          by_cases h4 : B + 3 ≤ k ∧ k < B + 3 + 4 * i
          · rw [if_pos h4, if_pos (by omega)]
          · rw [if_neg h4, if_neg (by omega)]
theorem same_state {S : ST} {B B2 : Nat} (hB : StateAt B) : ∀ k i, relv k i → stw (stw (stw (str (cpCarts S B B2 6) (B + 2) (S (B2 + 2))) B 2 (S B2 2)) B 3 (S B2 3)) B 4 (S B2 4) k i = cpState S B B2 k i := by
  intro k i hr
  unfold cpState
  simp only [stw_app, str_app]
  by_cases h0 : k = B
  · subst h0
    have h5 : i < 5 := by have := hr.1; rw [hB.l0] at this; exact this
    have h1 := hr.2.1 (by rw [hB.k0]; decide)
    rw [hB.k0] at h1
    have h3 : i = 2 ∨ i = 3 ∨ i = 4 := by
      rcases (show i = 0 ∨ i = 1 ∨ i = 2 ∨ i = 3 ∨ i = 4 by omega) with rfl | rfl | rfl | rfl | rfl <;> first | (exact absurd h1 (by decide)) | simp
    rcases h3 with rfl | rfl | rfl <;> simp
  · simp only [h0, false_and, if_false]
    by_cases h1 : k = B + 1
    · subst h1
      exact absurd hB.k1 hr.2.2
    · by_cases h2 : k = B + 2
      · subst h2
        rw [if_pos rfl, if_pos (by omega), show B + 2 - B + B2 = B2 + 2 by omega]
      · rw [if_neg h2]
        unfold cpCarts
        by_cases h4 : B ≤ k ∧ k < B + 27
        · rw [if_pos h4, if_pos (by omega)]
        · rw [if_neg h4, if_neg (by omega)]

set_option maxHeartbeats 4000000 in
set_option maxRecDepth 100000 in
theorem c_X5_findCart {l : Launch} {b : Nat} {D : va_G} {cA : Nat → ClassId} {ad : Nat → Nat} {S : ST} {B n : Nat} {x : Int32} (hB : StateAt B) (hn : S B 2 = nI n) (h6 : n ≤ 6) : MT l b D cA NN ad zT yX5_findCart cX5_findCart 2 (some (.object "RollScales$Cart")) 0 [.ref (ad B), .int x] S (FindQ ad B n x S) := by
  refine MT.intro (j := 0) (ls := [some (.ref (ad B)), some (.int x)]) pn_X5 rfl rfl rfl (fun pr en s0 mi below meth c' K _ => ?_)
  refine g_iload_n K dX5_findCart_0 rfl ?_
  refine g_if_lt (tgt := 21) K dX5_findCart_1 (by decide) (fun u1 => ?_) (fun u1 => ?_)
  · refine g_null K dX5_findCart_21 ?_
    refine g_aret K dX5_findCart_22 (Or.inl rfl) ?_
    first
      | exact ⟨rfl, Or.inl ⟨i, hi, hx, rfl⟩⟩
      | exact ⟨rfl, Or.inr ⟨by grind, rfl⟩⟩
  · refine g_iload_n K dX5_findCart_4 rfl ?_
    refine g_aload_n K dX5_findCart_5 rfl ?_
    refine g_geti K lk_X5_31 dX5_findCart_6 rfl hB.k0 hB.n0 (by decide) rfl ?_
    refine g_icmp_ge (tgt := 21) K dX5_findCart_9 (by decide) (fun u9 => ?_) (fun u9 => ?_)
    · rw [hn] at u9
      refine g_null K dX5_findCart_21 ?_
      refine g_aret K dX5_findCart_22 (Or.inl rfl) ?_
      first
        | exact ⟨rfl, Or.inl ⟨i, hi, hx, rfl⟩⟩
        | exact ⟨rfl, Or.inr ⟨by grind, rfl⟩⟩
    · rw [hn] at u9
      obtain ⟨i, hi, hx⟩ : ∃ i, i < n ∧ x = nI i := by
        rcases pk_ix x (n := n) (by omega) with q | q | q
        · exact absurd q u1
        · exact absurd q u9
        · exact q
      refine g_aload_n K dX5_findCart_12 rfl ?_
      refine g_getr (j := (B + 1)) K lk_X5_11 dX5_findCart_13 rfl (by decide) hB.k0 hB.n0 (by decide) rfl hB.r0 ?_
      refine g_iload_n K dX5_findCart_16 rfl ?_
      refine g_aald (j := i) (t := (B + 3 + 4 * i)) K dX5_findCart_17 hx hB.l1 (by omega) hB.k1 (Or.inl rfl) hB.n1 rfl (rf_carts hB i) ?_
      refine g_goto (tgt := 22) K dX5_findCart_18 (by decide) ?_
      refine g_aret K dX5_findCart_22 (Or.inr ⟨_, rfl⟩) ?_
      first
        | exact ⟨rfl, Or.inl ⟨i, hi, hx, rfl⟩⟩
        | exact ⟨rfl, Or.inr ⟨by grind, rfl⟩⟩
set_option maxHeartbeats 4000000 in
set_option maxRecDepth 100000 in
theorem c_X5_addCart {l : Launch} {b : Nat} {D : va_G} {cA : Nat → ClassId} {ad : Nat → Nat} {S : ST} {B n : Nat} {x : Int32} (hB : StateAt B) (hn : S B 2 = nI n) (h6 : n < 6) : MT l b D cA NN ad zT yX5_addCart cX5_addCart 2 none 2 [.ref (ad B), .int x] S (EV (addC S B n x)) := by
  refine MT.intro (j := 0) (ls := [some (.ref (ad B)), some (.int x)]) pn_X5 rfl rfl rfl (fun pr en s0 mi below meth c' K _ => ?_)
  refine g_aload_n K dX5_addCart_0 rfl ?_
  refine g_geti K lk_X5_31 dX5_addCart_1 rfl hB.k0 hB.n0 (by decide) rfl ?_
  refine g_bipush K dX5_addCart_4 kb_6 ?_
  refine g_icmp_lt (tgt := 10) K dX5_addCart_6 (by decide) (fun u6 => ?_) (fun u6 => absurd (by rw [hn]; exact nI_lt h6 (by decide)) u6)
  refine g_aload_n K dX5_addCart_10 rfl ?_
  refine g_getr (j := (B + 1)) K lk_X5_11 dX5_addCart_11 rfl (by decide) hB.k0 hB.n0 (by decide) rfl hB.r0 ?_
  refine g_aload_n K dX5_addCart_14 rfl ?_
  refine g_geti K lk_X5_31 dX5_addCart_15 rfl hB.k0 hB.n0 (by decide) rfl ?_
  refine g_aald (j := n) (t := (B + 3 + 4 * n)) K dX5_addCart_18 hn hB.l1 h6 hB.k1 (Or.inl rfl) hB.n1 rfl (rf_carts hB n) ?_
  refine g_iload_n K dX5_addCart_19 rfl ?_
  refine g_callVv K (c_X0_begin (hB.cart h6)) mw_X0_begin ml_X5_35 dX5_addCart_20 (by rfl) rfl (by rw [(hB.cart (by omega)).k0]; rfl) (hB.cart (by omega)).n0 (by simp [Value.category]) ⟨by decide, by decide⟩ ⟨by decide, by decide⟩ ?_
  refine g_aload_n K dX5_addCart_23 rfl ?_
  refine g_dup K dX5_addCart_24 rfl ?_
  refine g_geti K lk_X5_31 dX5_addCart_25 rfl hB.k0 hB.n0 (by decide) ((congrFun (begC_n (by omega)) 2).trans hn) ?_
  refine g_iconst K dX5_addCart_28 kc_1 ?_
  refine g_iadd K dX5_addCart_29 ?_
  refine g_puti K lk_X5_31 lq_X5_2 dX5_addCart_30 (put_i _) rfl hB.k0 hB.n0 (by decide) ?_
  refine g_vret K dX5_addCart_33 ⟨rfl, ?_⟩
  show stw (begC S (B + 3 + 4 * n) x) B 2 (nI n + 1) = addC S B n x
  rw [nI_1]
  rfl
set_option maxHeartbeats 4000000 in
set_option maxRecDepth 100000 in
theorem c_X5_addAxleToLast {l : Launch} {b : Nat} {D : va_G} {cA : Nat → ClassId} {ad : Nat → Nat} {S : ST} {B n N : Nat} {x y : Int32} (hB : StateAt B) (hn : S B 2 = nI (n + 1)) (h6 : n < 6) (hN : S (B + 3 + 4 * n) 3 = nI N) (h5 : N < 5) : MT l b D cA NN ad zT yX5_addAxleToLast cX5_addAxleToLast 4 none 1 [.ref (ad B), .int x, .int y] S (EV (addAx S (B + 3 + 4 * n) N x y)) := by
  refine MT.intro (j := 1) (ls := [some (.ref (ad B)), some (.int x), some (.int y), none]) pn_X5 rfl rfl rfl (fun pr en s0 mi below meth c' K _ => ?_)
  refine g_aload_n K dX5_addAxleToLast_0 rfl ?_
  refine g_aload_n K dX5_addAxleToLast_1 rfl ?_
  refine g_geti K lk_X5_31 dX5_addAxleToLast_2 rfl hB.k0 hB.n0 (by decide) hn ?_
  refine g_iconst K dX5_addAxleToLast_5 kc_1 ?_
  refine g_isub K dX5_addAxleToLast_6 ?_
  refine g_callV K (c_X5_findCart hB hn (by omega)) mw_X5_findCart ml_X5_39 dX5_addAxleToLast_7 rfl (by rw [hB.k0]; decide) (by rw [hB.k0]; exact ⟨_, rfl, rfl⟩) hB.n0 (by rfl) (by simp [Value.category]) ⟨by decide, by decide⟩ ⟨by decide, by decide⟩ (fun v7 S7 h7 => ?_)
  obtain ⟨rfl, hf⟩ := h7
  rcases hf with ⟨i, hi, hx, rfl⟩ | ⟨hx, rfl⟩
  · have hin : i = n := by
      rw [nI_pred, nI_eq (by omega) (by omega)] at hx
      omega
    subst hin
    refine g_astore_n (ls2 := [_, _, _, some (.ref _)]) K dX5_addAxleToLast_10 (by decide) rfl ?_
    refine g_aload_n K dX5_addAxleToLast_11 rfl ?_
    refine g_ifnull K dX5_addAxleToLast_12 ?_
    refine g_aload_n K dX5_addAxleToLast_15 rfl ?_
    refine g_iload_n K dX5_addAxleToLast_16 rfl ?_
    refine g_iload_n K dX5_addAxleToLast_17 rfl ?_
    refine g_callVv K (c_X0_addAxle (hB.cart h6) hN h5) mw_X0_addAxle ml_X5_43 dX5_addAxleToLast_18 (by rfl) rfl (by rw [(hB.cart (by omega)).k0]; rfl) (hB.cart (by omega)).n0 (by simp [Value.category]) ⟨by decide, by decide⟩ ⟨by decide, by decide⟩ ?_
    refine g_vret K dX5_addAxleToLast_21 ⟨rfl, ?_⟩
    exact rfl
  · exact absurd (by rw [nI_pred]; exact ⟨nI_pos' (by omega), nI_lt (by omega) (by omega)⟩) hx
set_option maxHeartbeats 4000000 in
set_option maxRecDepth 100000 in
theorem c_X5_taredCount {l : Launch} {b : Nat} {D : va_G} {cA : Nat → ClassId} {ad : Nat → Nat} {S : ST} {B n : Nat} (hB : StateAt B) (hn : S B 2 = nI n) (h6 : n ≤ 6) : MT l b D cA NN ad zT yX5_taredCount cX5_taredCount 3 (some .int) 0 [.ref (ad B)] S (EI (sumF (fun i => if S (B + 3 + 4 * i) 4 = -5 then 0 else 1) n) S) := by
  refine MT.intro (j := 2) (ls := [some (.ref (ad B)), none, none]) pn_X5 rfl rfl rfl (fun pr en s0 mi below meth c' K _ => ?_)
  have lp : ∀ (fuel : Nat) (i : Nat) (x : Int32), (n + 1 ≤ i + fuel) → (i ≤ n) → (x = sumF (fun i => if S (B + 3 + 4 * i) 4 = -5 then 0 else 1) i) → G pr l en (rmd 0) s0 mi (List.toArray [.ref (ad B)]) below meth c' (MQ below (QQ b D cA NN ad zT (EI (sumF (fun i => if S (B + 3 + 4 * i) 4 = -5 then 0 else 1) n) S)) (List.toArray [.ref (ad B)]) s0 0 0 (aF b)) b D cA 3 NN ad zT 0 0 4 [some (.ref (ad B)), some (.int x), some (.int (nI i))] [] S := by
    intro fuel
    induction fuel with
    | zero =>
      intro i  x  hi hi2 hx
      omega
    | succ fuel ih =>
      intro i  x  hi hi2 hx
      refine g_iload_n K dX5_taredCount_4 rfl ?_
      refine g_aload_n K dX5_taredCount_5 rfl ?_
      refine g_geti K lk_X5_31 dX5_taredCount_6 rfl hB.k0 hB.n0 (by decide) rfl ?_
      refine g_icmp_ge (tgt := 40) K dX5_taredCount_9 (by decide) (fun u9 => ?_) (fun u9 => ?_)
      · have hiN : i = n := by
          rw [hn, nI_leI (by omega) (by omega)] at u9
          omega
        subst hiN
        refine g_iload_n K dX5_taredCount_40 rfl ?_
        refine g_iret K dX5_taredCount_41 ⟨_, rfl, ?_⟩
        exact ⟨hx, rfl⟩
      · have hiN : i < n := by
          rw [hn, nI_leI (by omega) (by omega)] at u9
          omega
        refine g_iload_n K dX5_taredCount_12 rfl ?_
        refine g_aload_n K dX5_taredCount_13 rfl ?_
        refine g_getr (j := (B + 1)) K lk_X5_11 dX5_taredCount_14 rfl (by decide) hB.k0 hB.n0 (by decide) rfl hB.r0 ?_
        refine g_iload_n K dX5_taredCount_17 rfl ?_
        refine g_aald (j := i) (t := (B + 3 + 4 * i)) K dX5_taredCount_18 rfl hB.l1 (by omega) hB.k1 (Or.inl rfl) hB.n1 rfl (rf_carts hB i) ?_
        refine g_geti K lk_X5_47 dX5_taredCount_19 rfl (hB.cart (by omega)).k0 (hB.cart (by omega)).n0 (by decide) rfl ?_
        refine g_bipush K dX5_taredCount_22 kb_m5 ?_
        refine g_icmp_ne (tgt := 31) K dX5_taredCount_24 (by decide) (fun u24 => ?_) (fun u24 => ?_)
        · refine g_iconst K dX5_taredCount_31 kc_1 ?_
          refine g_iadd K dX5_taredCount_32 ?_
          refine g_istore_n (ls2 := [_, some (.int _), _]) K dX5_taredCount_33 (by decide) rfl ?_
          refine g_iinc (ls2 := [_, _, some (.int _)]) K dX5_taredCount_34 rfl kc_1 rfl ?_
          refine g_goto (tgt := 4) K dX5_taredCount_37 (by decide) ?_
          rw [nI_1]
          refine ih (i + 1) _ (by omega) (by omega) ?_
          simp [hx, sumF, u24]
        · refine g_iconst K dX5_taredCount_27 kc_0 ?_
          refine g_goto (tgt := 32) K dX5_taredCount_28 (by decide) ?_
          refine g_iadd K dX5_taredCount_32 ?_
          refine g_istore_n (ls2 := [_, some (.int _), _]) K dX5_taredCount_33 (by decide) rfl ?_
          refine g_iinc (ls2 := [_, _, some (.int _)]) K dX5_taredCount_34 rfl kc_1 rfl ?_
          refine g_goto (tgt := 4) K dX5_taredCount_37 (by decide) ?_
          rw [nI_1]
          refine ih (i + 1) _ (by omega) (by omega) ?_
          simp [hx, sumF, u24]
  refine g_iconst K dX5_taredCount_0 kc_0 ?_
  refine g_istore_n (ls2 := [_, some (.int _), _]) K dX5_taredCount_1 (by decide) rfl ?_
  refine g_iconst K dX5_taredCount_2 kc_0 ?_
  refine g_istore_n (ls2 := [_, _, some (.int _)]) K dX5_taredCount_3 (by decide) rfl ?_
  exact lp (n + 1) 0 0 (by omega) (by omega) rfl
set_option maxHeartbeats 4000000 in
set_option maxRecDepth 100000 in
theorem c_X5_copyFrom {l : Launch} {b : Nat} {D : va_G} {cA : Nat → ClassId} {ad : Nat → Nat} {S : ST} {B B2 : Nat} (hB : StateAt B) (hB2 : StateAt B2) (hd : B + 26 < B2 ∨ B2 + 26 < B) (hz : ∀ a, a < 6 → ∀ i, i < 5 → fits .boolean (.int (S (B2 + 3 + 4 * a + 3) i)) = true) : MT l b D cA NN ad zT yX5_copyFrom cX5_copyFrom 3 none 2 [.ref (ad B), .ref (ad B2)] S (EV (cpState S B B2)) := by
  refine MT.intro (j := 1) (ls := [some (.ref (ad B)), some (.ref (ad B2)), none]) pn_X5 rfl rfl rfl (fun pr en s0 mi below meth c' K _ => ?_)
  have lp : ∀ (fuel : Nat) (i : Nat), (6 + 1 ≤ i + fuel) → (i ≤ 6) → G pr l en (rmd 2) s0 mi (List.toArray [.ref (ad B), .ref (ad B2)]) below meth c' (MQ below (QQ b D cA NN ad zT (EV (cpState S B B2))) (List.toArray [.ref (ad B), .ref (ad B2)]) s0 0 0 (aF b)) b D cA 3 NN ad zT 0 0 2 [some (.ref (ad B)), some (.ref (ad B2)), some (.int (nI i))] [] (cpCarts S B B2 i) := by
    intro fuel
    induction fuel with
    | zero =>
      intro i  hi hi2
      omega
    | succ fuel ih =>
      intro i  hi hi2
      refine g_iload_n K dX5_copyFrom_2 rfl ?_
      refine g_bipush K dX5_copyFrom_3 kb_6 ?_
      refine g_icmp_ge (tgt := 29) K dX5_copyFrom_5 (by decide) (fun u5 => ?_) (fun u5 => ?_)
      · have hi6 : i = 6 := by
          have := u5
          rw [show (6 : Int32) = nI 6 from rfl, nI_leI (by omega) (by omega)] at this
          omega
        subst hi6
        refine g_aload_n K dX5_copyFrom_29 rfl ?_
        refine g_getr (j := (B2 + 2)) K lk_X5_17 dX5_copyFrom_30 rfl (by decide) hB2.k0 hB2.n0 (by decide) rfl hB2.r1 ?_
        refine g_iconst K dX5_copyFrom_33 kc_0 ?_
        refine g_aload_n K dX5_copyFrom_34 rfl ?_
        refine g_getr (j := (B + 2)) K lk_X5_17 dX5_copyFrom_35 rfl (by decide) hB.k0 hB.n0 (by decide) rfl hB.r1 ?_
        refine g_iconst K dX5_copyFrom_38 kc_0 ?_
        refine g_bipush K dX5_copyFrom_39 kb_6 ?_
        refine g_copyW (N := 6) (t := 0) (ty := .int) K dX5_copyFrom_41 mj_X5_25 hB2.k2 hB.k2 (by decide) (by decide) rfl rfl rfl rfl (by rw [hB2.l2]; decide) hB.l2 hB2.n2 hB.n2 (by decide) (fun _ _ => rfl) ⟨by decide, by simp [Value.category, rmd]; decide⟩ (if_neg (by omega) : cpCarts S B B2 6 (B2 + 2) = S (B2 + 2)) ?_
        refine g_aload_n K dX5_copyFrom_44 rfl ?_
        refine g_aload_n K dX5_copyFrom_45 rfl ?_
        refine g_geti K lk_X5_31 dX5_copyFrom_46 rfl hB2.k0 hB2.n0 (by decide) (congrFun ((str_n (by omega)).trans (if_neg (by omega) : cpCarts S B B2 6 B2 = S B2)) 2) ?_
        refine g_puti K lk_X5_31 lq_X5_2 dX5_copyFrom_49 (put_i _) rfl hB.k0 hB.n0 (by decide) ?_
        refine g_aload_n K dX5_copyFrom_52 rfl ?_
        refine g_aload_n K dX5_copyFrom_53 rfl ?_
        refine g_geti K lk_X5_54 dX5_copyFrom_54 rfl hB2.k0 hB2.n0 (by decide) (congrFun ((stw_n (by omega)).trans ((str_n (by omega)).trans (if_neg (by omega) : cpCarts S B B2 6 B2 = S B2))) 3) ?_
        refine g_puti K lk_X5_54 lq_X5_3 dX5_copyFrom_57 (put_i _) rfl hB.k0 hB.n0 (by decide) ?_
        refine g_aload_n K dX5_copyFrom_60 rfl ?_
        refine g_aload_n K dX5_copyFrom_61 rfl ?_
        refine g_geti K lk_X5_57 dX5_copyFrom_62 rfl hB2.k0 hB2.n0 (by decide) (congrFun ((stw_n (by omega)).trans ((stw_n (by omega)).trans ((str_n (by omega)).trans (if_neg (by omega) : cpCarts S B B2 6 B2 = S B2)))) 4) ?_
        refine g_puti K lk_X5_57 lq_X5_4 dX5_copyFrom_65 (put_i _) rfl hB.k0 hB.n0 (by decide) ?_
        exact g_same (S' := cpState S B B2) (Nat.le_refl _) (fun k i _ hr => same_state hB k i hr) (g_vret K dX5_copyFrom_68 ⟨rfl, rfl⟩)
      · have hi6 : i < 6 := by
          have := u5
          rw [show (6 : Int32) = nI 6 from rfl, nI_leI (by omega) (by omega)] at this
          omega
        refine g_aload_n K dX5_copyFrom_8 rfl ?_
        refine g_getr (j := (B + 1)) K lk_X5_11 dX5_copyFrom_9 rfl (by decide) hB.k0 hB.n0 (by decide) rfl hB.r0 ?_
        refine g_iload_n K dX5_copyFrom_12 rfl ?_
        refine g_aald (j := i) (t := (B + 3 + 4 * i)) K dX5_copyFrom_13 rfl hB.l1 hi6 hB.k1 (Or.inl rfl) hB.n1 rfl (rf_carts hB i) ?_
        refine g_aload_n K dX5_copyFrom_14 rfl ?_
        refine g_getr (j := (B2 + 1)) K lk_X5_11 dX5_copyFrom_15 rfl (by decide) hB2.k0 hB2.n0 (by decide) rfl hB2.r0 ?_
        refine g_iload_n K dX5_copyFrom_18 rfl ?_
        refine g_aald (j := i) (t := (B2 + 3 + 4 * i)) K dX5_copyFrom_19 rfl hB2.l1 hi6 hB2.k1 (Or.inl rfl) hB2.n1 rfl (rf_carts hB2 i) ?_
        refine g_callVv K (c_X0_copyFrom (hB.cart hi6) (hB2.cart hi6) (by omega) (fun j hj => by rw [show cpCarts S B B2 i (B2 + 3 + 4 * i + 3) = S (B2 + 3 + 4 * i + 3) from if_neg (by omega)]; exact hz i hi6 j hj)) mw_X0_copyFrom ml_X5_50 dX5_copyFrom_20 (by rfl) rfl (by rw [(hB.cart (by omega)).k0]; rfl) (hB.cart (by omega)).n0 (by simp [Value.category]) ⟨by decide, by decide⟩ ⟨by decide, by decide⟩ ?_
        refine g_iinc (ls2 := [_, _, some (.int _)]) K dX5_copyFrom_23 rfl kc_1 rfl ?_
        refine g_goto (tgt := 2) K dX5_copyFrom_26 (by decide) ?_
        rw [nI_1, cpCarts_step hd hi6]
        exact ih (i + 1) (by omega) (by omega)
  refine g_iconst K dX5_copyFrom_0 kc_0 ?_
  refine g_istore_n (ls2 := [_, _, some (.int _)]) K dX5_copyFrom_1 (by decide) rfl ?_
  refine g_same (S' := cpCarts S B B2 0) (Nat.le_refl _) (fun k i _ _ => ?_) (lp (6 + 1) 0 (by omega) (by omega))
  exact congrFun (show S k = cpCarts S B B2 0 k from (if_neg (by omega)).symm) i
