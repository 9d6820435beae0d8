/-! THE MODEL: it holds A, too -/
def MZ (S : ST) (z : Nat → Int32) : Prop := ∀ k, k < 129 → S 182 k = z k
def MRel (S : ST) (A : AS) : Prop := MZ S (aZ A) ∧ (S 181 2 = nI (aM A) ∧ aM A ≤ 4 ∧ ∀ i, i < aM A → ∀ k, k < 129 → S 183 (129 * i + k) = aP A i k) ∧ (S 181 4 = aK A ∧ (aK A = 0 ∨ aK A = 1) ∧ (aK A = 1 → ∀ k, k < 129 → S 184 k = aKZ A k)) ∧ (S 181 6 = nI (aL A) ∧ aL A ≤ 60 ∧ ∀ i, i < aL A → S 185 i = aT A i)
theorem MRel.set {S S2 : ST} {A : AS} {z : Nat → Int32} (h : MRel S A) (hz : MZ S2 z) (h1 : S2 181 2 = S 181 2 ∧ S2 181 4 = S 181 4 ∧ S2 181 6 = S 181 6) (h2 : ∀ k, (k = 183 ∨ k = 184 ∨ k = 185) → S2 k = S k) : MRel S2 (setZ A z) := by
  obtain ⟨g1, g2, g3, g4⟩ := h
  refine ⟨hz, ?_, ?_, ?_⟩
  · rw [h1.1, h2 183 (by omega)]
    exact g2
  · rw [h1.2.1, h2 184 (by omega)]
    exact g3
  · rw [h1.2.2, h2 185 (by omega)]
    exact g4
theorem MRel.keep {S S2 : ST} {A : AS} (h : MRel S A) (h1 : S2 181 2 = S 181 2 ∧ S2 181 4 = S 181 4 ∧ S2 181 6 = S 181 6) (h2 : ∀ k, (k = 182 ∨ k = 183 ∨ k = 184 ∨ k = 185) → S2 k = S k) : MRel S2 A :=
  h.set (z := aZ A) (fun k hk => by rw [h2 182 (by omega)]; exact h.1 k hk) h1 (fun k hk => h2 k (by omega))
def MPost (o : Int32 × AS) (S : ST) : Int32 → ST → Prop := fun r S2 => r = o.1 ∧ MRel S2 o.2 ∧ ∀ k, k < 181 → S2 k = S k
theorem mp_err {o : Int32 × AS} {S : ST} {A : AS} {r : Int32} (h : o = (r, A)) (hA : MRel S A) : MPost o S r S := by
  subst h
  exact ⟨rfl, hA, fun _ _ => rfl⟩
theorem mp_ok {o : Int32 × AS} {S S2 : ST} {A : AS} {r : Int32} (h : o = (r, A)) (hA : MRel S2 A) (hF : ∀ k, k < 181 → S2 k = S k) : MPost o S r S2 := by
  subst h
  exact ⟨rfl, hA, hF⟩
def RowAt (k L : Nat) : Prop := kd k = 8 ∧ ln k = L ∧ k < NN
theorem RowAt.k0 {k L : Nat} (h : RowAt k L) : kd k = 8 := h.1
theorem RowAt.l0 {k L : Nat} (h : RowAt k L) : ln k = L := h.2.1
theorem RowAt.n0 {k L : Nat} (h : RowAt k L) : k < NN := h.2.2
def cpR (S : ST) (a c p q i : Nat) : Nat → Int32 := fun k => if q ≤ k ∧ k < q + i then S a (p + (k - q)) else S c k
theorem cpR_step {S : ST} {a c p q i : Nat} : upd (cpR S a c p q i) (q + i) (S a (p + i)) = cpR S a c p q (i + 1) := by
  funext k
  unfold upd cpR
  by_cases e : k = q + i
  · rw [if_pos e, if_pos (by omega), e]
    congr 1
    omega
  · rw [if_neg e]
    by_cases e2 : q ≤ k ∧ k < q + i
    · rw [if_pos e2, if_pos (by omega)]
    · rw [if_neg e2, if_neg (by omega)]
def sh1 (f : Nat → Int32) (i : Nat) : Nat → Int32 := fun k => if k < i then f (k + 129) else f k
theorem sh1_step {f : Nat → Int32} {i : Nat} : upd (sh1 f i) i (f (i + 129)) = sh1 f (i + 1) := by
  funext k
  unfold upd sh1
  by_cases e : k = i
  · rw [if_pos e, if_pos (by omega), e]
  · rw [if_neg e]
    by_cases e2 : k < i
    · rw [if_pos e2, if_pos (by omega)]
    · rw [if_neg e2, if_neg (by omega)]
theorem ix_q {k w : Nat} : (9 : Int32) + 20 * nI k + nI w = nI (9 + 20 * k + w) := by
  rw [show (9 : Int32) = nI 9 from rfl, show (20 : Int32) = nI 20 from rfl, pk_mul, nI_add, nI_add]
set_option maxHeartbeats 4000000 in
set_option maxRecDepth 100000 in
theorem c_X7_in {l : Launch} {b : Nat} {D : va_G} {cA : Nat → ClassId} {ad : Nat → Nat} {S : ST} {x y w : Int32}  : MT l b D cA NN ad zT yX7_in cX7_in 3 (some .boolean) 0 [.int x, .int y, .int w] S (EI (if y ≤ x ∧ x ≤ w then 1 else 0) S) := by
  refine MT.intro (j := 0) (ls := [some (.int x), some (.int y), some (.int w)]) pn_X7 rfl rfl rfl (fun pr en s0 mi below meth c' K _ => ?_)
  refine g_iload_n K dX7_in_0 rfl ?_
  refine g_iload_n K dX7_in_1 rfl ?_
  refine g_icmp_lt (tgt := 14) K dX7_in_2 (by decide) (fun u2 => ?_) (fun u2 => ?_)
  · refine g_iconst K dX7_in_14 kc_0 ?_
    refine g_zret K dX7_in_15 (by first | exact Or.inl rfl | exact Or.inr rfl | assumption) ⟨_, rfl, ?_⟩
    refine ⟨?_, rfl⟩
    grind
  · refine g_iload_n K dX7_in_5 rfl ?_
    refine g_iload_n K dX7_in_6 rfl ?_
    refine g_icmp_gt (tgt := 14) K dX7_in_7 (by decide) (fun u7 => ?_) (fun u7 => ?_)
    · refine g_iconst K dX7_in_14 kc_0 ?_
      refine g_zret K dX7_in_15 (by first | exact Or.inl rfl | exact Or.inr rfl | assumption) ⟨_, rfl, ?_⟩
      refine ⟨?_, rfl⟩
      grind
    · refine g_iconst K dX7_in_10 kc_1 ?_
      refine g_goto (tgt := 15) K dX7_in_11 (by decide) ?_
      refine g_zret K dX7_in_15 (by first | exact Or.inl rfl | exact Or.inr rfl | assumption) ⟨_, rfl, ?_⟩
      refine ⟨?_, rfl⟩
      grind
set_option maxHeartbeats 4000000 in
set_option maxRecDepth 100000 in
theorem c_X7_size {l : Launch} {b : Nat} {D : va_G} {cA : Nat → ClassId} {ad : Nat → Nat} {S : ST} {x : Int32}  : MT l b D cA NN ad zT yX7_size cX7_size 1 (some .int) 0 [.int x] S (EI (abF x) S) := by
  refine MT.intro (j := 0) (ls := [some (.int x)]) pn_X7 rfl rfl rfl (fun pr en s0 mi below meth c' K _ => ?_)
  refine g_iload_n K dX7_size_0 rfl ?_
  refine g_if_ge (tgt := 9) K dX7_size_1 (by decide) (fun u1 => ?_) (fun u1 => ?_)
  · refine g_iload_n K dX7_size_9 rfl ?_
    refine g_iret K dX7_size_10 ⟨_, rfl, ?_⟩
    refine ⟨?_, rfl⟩
    unfold abF
    grind
  · refine g_iload_n K dX7_size_4 rfl ?_
    refine g_ineg K dX7_size_5 ?_
    refine g_goto (tgt := 10) K dX7_size_6 (by decide) ?_
    refine g_iret K dX7_size_10 ⟨_, rfl, ?_⟩
    refine ⟨?_, rfl⟩
    unfold abF
    grind
set_option maxHeartbeats 4000000 in
set_option maxRecDepth 100000 in
theorem c_X7_of {l : Launch} {b : Nat} {D : va_G} {cA : Nat → ClassId} {ad : Nat → Nat} {S : ST} {z : Nat → Int32} {k w : Nat} (hz : MZ S z) (hk : k < 6) (hw : w < 20) : MT l b D cA NN ad zT yX7_of cX7_of 3 (some .int) 0 [.ref (ad 181), .int (nI k), .int (nI w)] S (EI (qOf z k w) S) := by
  refine MT.intro (j := 0) (ls := [some (.ref (ad 181)), some (.int (nI k)), some (.int (nI w))]) pn_X7 rfl rfl rfl (fun pr en s0 mi below meth c' K _ => ?_)
  refine g_aload_n K dX7_of_0 rfl ?_
  refine g_getr (j := 182) K lk_X7_7 dX7_of_1 rfl (by decide) (rfl : kd 181 = 7) (by decide) (by decide) rfl (rfl : rs 181 0 = 182) ?_
  refine g_bipush K dX7_of_4 kb_9 ?_
  refine g_bipush K dX7_of_6 kb_20 ?_
  refine g_iload_n K dX7_of_8 rfl ?_
  refine g_imul K dX7_of_9 ?_
  refine g_iadd K dX7_of_10 ?_
  refine g_iload_n K dX7_of_11 rfl ?_
  refine g_iadd K dX7_of_12 ?_
  rw [ix_q]
  refine g_iald (j := (9 + 20 * k + w)) K dX7_of_13 rfl ln_182 (by omega) (rfl : kd 182 = 8) (by decide) (hz _ (by omega)) ?_
  refine g_iret K dX7_of_14 ⟨_, rfl, ?_⟩
  exact ⟨rfl, rfl⟩
set_option maxHeartbeats 4000000 in
set_option maxRecDepth 100000 in
theorem c_X7_lay {l : Launch} {b : Nat} {D : va_G} {cA : Nat → ClassId} {ad : Nat → Nat} {S : ST} {k w : Nat} {v : Int32} (hk : k < 6) (hw : w < 20) : MT l b D cA NN ad zT yX7_lay cX7_lay 4 none 0 [.ref (ad 181), .int (nI k), .int (nI w), .int v] S (EV (stw S 182 (9 + 20 * k + w) v)) := by
  refine MT.intro (j := 0) (ls := [some (.ref (ad 181)), some (.int (nI k)), some (.int (nI w)), some (.int v)]) pn_X7 rfl rfl rfl (fun pr en s0 mi below meth c' K _ => ?_)
  refine g_aload_n K dX7_lay_0 rfl ?_
  refine g_getr (j := 182) K lk_X7_7 dX7_lay_1 rfl (by decide) (rfl : kd 181 = 7) (by decide) (by decide) rfl (rfl : rs 181 0 = 182) ?_
  refine g_bipush K dX7_lay_4 kb_9 ?_
  refine g_bipush K dX7_lay_6 kb_20 ?_
  refine g_iload_n K dX7_lay_8 rfl ?_
  refine g_imul K dX7_lay_9 ?_
  refine g_iadd K dX7_lay_10 ?_
  refine g_iload_n K dX7_lay_11 rfl ?_
  refine g_iadd K dX7_lay_12 ?_
  rw [ix_q]
  refine g_iload_n K dX7_lay_13 rfl ?_
  refine g_iast (j := (9 + 20 * k + w)) K dX7_lay_14 rfl ln_182 (by omega) (rfl : kd 182 = 8) (by decide) rfl ?_
  refine g_vret K dX7_lay_15 ⟨rfl, ?_⟩
  exact rfl
set_option maxHeartbeats 4000000 in
set_option maxRecDepth 100000 in
theorem c_X7_isCart {l : Launch} {b : Nat} {D : va_G} {cA : Nat → ClassId} {ad : Nat → Nat} {S : ST} {z : Nat → Int32} {n : Nat} {x : Int32} (hz : MZ S z) (hn : z 6 = nI n) (h6 : n ≤ 6) : MT l b D cA NN ad zT yX7_isCart cX7_isCart 2 (some .boolean) 1 [.ref (ad 181), .int x] S (EI (if 0 ≤ x ∧ x < nI n then 1 else 0) S) := by
  refine MT.intro (j := 0) (ls := [some (.ref (ad 181)), some (.int x)]) pn_X7 rfl rfl rfl (fun pr en s0 mi below meth c' K _ => ?_)
  refine g_iload_n K dX7_isCart_0 rfl ?_
  refine g_iconst K dX7_isCart_1 kc_0 ?_
  refine g_aload_n K dX7_isCart_2 rfl ?_
  refine g_getr (j := 182) K lk_X7_7 dX7_isCart_3 rfl (by decide) (rfl : kd 181 = 7) (by decide) (by decide) rfl (rfl : rs 181 0 = 182) ?_
  refine g_bipush K dX7_isCart_6 kb_6 ?_
  refine g_iald (j := 6) K dX7_isCart_8 rfl ln_182 (by decide) (rfl : kd 182 = 8) (by decide) ((hz 6 (by decide)).trans hn) ?_
  refine g_iconst K dX7_isCart_9 kc_1 ?_
  refine g_isub K dX7_isCart_10 ?_
  refine g_callSi K c_X7_in mw_X7_in ml_X7_46 dX7_isCart_11 (by rfl) rfl (by simp [Value.category]) ⟨by decide, by decide⟩ ⟨by decide, by decide⟩ ?_
  refine g_zret K dX7_isCart_14 (by split <;> first | exact Or.inr rfl | exact Or.inl rfl) ⟨_, rfl, ?_⟩
  refine ⟨?_, rfl⟩
  have h1 : nI n ≤ 6 := nI_le (b := 6) h6 (by decide)
  have h0 : 0 ≤ nI n := nI_pos' (by omega)
  grind
theorem c_in {z : Nat → Int32} {n : Nat} {x : Int32} (h6 : n ≤ 6) (h : 0 ≤ x ∧ x < nI n) : ∃ i, i < n ∧ x = nI i ∧ cK x = i := by
  rcases pk_ix x (n := n) (by omega) with q | q | ⟨j, hj, e⟩
  · exact absurd h.1 (by grind)
  · exact absurd h.2 (by grind)
  · exact ⟨j, hj, e, by rw [e]; exact cK_nI (by omega)⟩
set_option maxHeartbeats 4000000 in
set_option maxRecDepth 100000 in
theorem c_X7_isAxle {l : Launch} {b : Nat} {D : va_G} {cA : Nat → ClassId} {ad : Nat → Nat} {S : ST} {z : Nat → Int32} {n : Nat} {x y : Int32} (hz : MZ S z) (hs : StOk z n) : MT l b D cA NN ad zT yX7_isAxle cX7_isAxle 3 (some .boolean) 2 [.ref (ad 181), .int x, .int y] S (EI (if (0 ≤ x ∧ x < nI n) ∧ 0 ≤ y ∧ y < qOf z (cK x) 0 then 1 else 0) S) := by
  have h6 := hs.2.2.1
  have hn := hs.2.1
  refine MT.intro (j := 0) (ls := [some (.ref (ad 181)), some (.int x), some (.int y)]) pn_X7 rfl rfl rfl (fun pr en s0 mi below meth c' K _ => ?_)
  refine g_aload_n K dX7_isAxle_0 rfl ?_
  refine g_iload_n K dX7_isAxle_1 rfl ?_
  refine g_callVi K (c_X7_isCart hz hn h6) mw_X7_isCart ml_X7_50 dX7_isAxle_2 (by rfl) rfl rfl (by decide) (by simp [Value.category]) ⟨by decide, by decide⟩ ⟨by decide, by decide⟩ ?_
  refine g_if_eq (tgt := 28) K dX7_isAxle_5 (by decide) (fun u5 => ?_) (fun u5 => ?_)
  · refine g_iconst K dX7_isAxle_28 kc_0 ?_
    refine g_zret K dX7_isAxle_29 (by first | exact Or.inl rfl | exact Or.inr rfl | assumption) ⟨_, rfl, ?_⟩
    refine ⟨?_, rfl⟩
    first
      | (have h1 : nI N ≤ 5 := nI_le (b := 5) h5 (by decide)
         have h0 : 0 ≤ nI N := nI_pos' (by omega)
         rw [hki, hN0]
         rw [hN0] at *
         grind)
      | grind
  · have hx : 0 ≤ x ∧ x < nI n := by grind
    obtain ⟨i, hi, hxi, hki⟩ := c_in (z := z) h6 hx
    obtain ⟨N, hN⟩ := hs.2.2.2 i hi
    have h5 := hN.2.2.1
    have hN0 := hN.1
    subst hxi
    refine g_iload_n K dX7_isAxle_8 rfl ?_
    refine g_iconst K dX7_isAxle_9 kc_0 ?_
    refine g_aload_n K dX7_isAxle_10 rfl ?_
    refine g_iload_n K dX7_isAxle_11 rfl ?_
    refine g_iconst K dX7_isAxle_12 kc_0 ?_
    refine g_callVi K (c_X7_of (k := i) (w := 0) hz (by omega) (by decide)) mw_X7_of ml_X7_54 dX7_isAxle_13 (by rfl) rfl rfl (by decide) (by simp [Value.category]) ⟨by decide, by decide⟩ ⟨by decide, by decide⟩ ?_
    refine g_iconst K dX7_isAxle_16 kc_1 ?_
    refine g_isub K dX7_isAxle_17 ?_
    refine g_callSi K c_X7_in mw_X7_in ml_X7_46 dX7_isAxle_18 (by rfl) rfl (by simp [Value.category]) ⟨by decide, by decide⟩ ⟨by decide, by decide⟩ ?_
    refine g_if_eq (tgt := 28) K dX7_isAxle_21 (by decide) (fun u21 => ?_) (fun u21 => ?_)
    · refine g_iconst K dX7_isAxle_28 kc_0 ?_
      refine g_zret K dX7_isAxle_29 (by first | exact Or.inl rfl | exact Or.inr rfl | assumption) ⟨_, rfl, ?_⟩
      refine ⟨?_, rfl⟩
      first
        | (have h1 : nI N ≤ 5 := nI_le (b := 5) h5 (by decide)
           have h0 : 0 ≤ nI N := nI_pos' (by omega)
           rw [hki, hN0]
           rw [hN0] at *
           grind)
        | grind
    · refine g_iconst K dX7_isAxle_24 kc_1 ?_
      refine g_goto (tgt := 29) K dX7_isAxle_25 (by decide) ?_
      refine g_zret K dX7_isAxle_29 (by first | exact Or.inl rfl | exact Or.inr rfl | assumption) ⟨_, rfl, ?_⟩
      refine ⟨?_, rfl⟩
      first
        | (have h1 : nI N ≤ 5 := nI_le (b := 5) h5 (by decide)
           have h0 : 0 ≤ nI N := nI_pos' (by omega)
           rw [hki, hN0]
           rw [hN0] at *
           grind)
        | grind
set_option maxHeartbeats 4000000 in
set_option maxRecDepth 100000 in
theorem c_X7_copyState {l : Launch} {b : Nat} {D : va_G} {cA : Nat → ClassId} {ad : Nat → Nat} {S : ST} {a c p q La Lc : Nat} (ha : RowAt a La) (hc : RowAt c Lc) (hac : a ≠ c) (h1 : p + 129 ≤ La) (h2 : q + 129 ≤ Lc) (hL : La < 1000) (hL2 : Lc < 1000) : MT l b D cA NN ad zT yX7_copyState cX7_copyState 5 none 0 [.ref (ad a), .int (nI p), .ref (ad c), .int (nI q)] S (EV (str S c (cpR S a c p q 129))) := by
  refine MT.intro (j := 1) (ls := [some (.ref (ad a)), some (.int (nI p)), some (.ref (ad c)), some (.int (nI q)), none]) pn_X7 rfl rfl rfl (fun pr en s0 mi below meth c' K _ => ?_)
  have lp : ∀ (fuel : Nat) (i : Nat), (129 + 1 ≤ i + fuel) → (i ≤ 129) → G pr l en (rmd 0) s0 mi (List.toArray [.ref (ad a), .int (nI p), .ref (ad c), .int (nI q)]) below meth c' (MQ below (QQ b D cA NN ad zT (EV (str S c (cpR S a c p q 129)))) (List.toArray [.ref (ad a), .int (nI p), .ref (ad c), .int (nI q)]) s0 0 0 (aF b)) b D cA 5 NN ad zT 0 0 3 [some (.ref (ad a)), some (.int (nI p)), some (.ref (ad c)), some (.int (nI q)), some (.int (nI i))] [] (str S c (cpR S a c p q i)) := by
    intro fuel
    induction fuel with
    | zero =>
      intro i  hi hi2
      omega
    | succ fuel ih =>
      intro i  hi hi2
      refine g_iload K dX7_copyState_3 rfl ?_
      refine g_sipush K dX7_copyState_5 kp_129 ?_
      refine g_icmp_ge (tgt := 29) K dX7_copyState_8 (by decide) (fun u8 => ?_) (fun u8 => ?_)
      · have hi3 : i = 129 := by
          rw [show (129 : Int32) = nI 129 from rfl, nI_leI (by omega) (by omega)] at u8
          omega
        subst hi3
        refine g_vret K dX7_copyState_29 ⟨rfl, ?_⟩
        exact rfl
      · have hi3 : i < 129 := by
          rw [show (129 : Int32) = nI 129 from rfl, nI_leI (by omega) (by omega)] at u8
          omega
        refine g_aload_n K dX7_copyState_11 rfl ?_
        refine g_iload_n K dX7_copyState_12 rfl ?_
        refine g_iload K dX7_copyState_13 rfl ?_
        refine g_iadd K dX7_copyState_15 ?_
        rw [nI_add]
        refine g_aload_n K dX7_copyState_16 rfl ?_
        refine g_iload_n K dX7_copyState_17 rfl ?_
        refine g_iload K dX7_copyState_18 rfl ?_
        refine g_iadd K dX7_copyState_20 ?_
        rw [nI_add]
        refine g_iald (j := (p + i)) K dX7_copyState_21 rfl ha.l0 (by omega) ha.k0 ha.n0 (congrFun (str_n hac) _) ?_
        refine g_iast (j := (q + i)) K dX7_copyState_22 rfl hc.l0 (by omega) hc.k0 hc.n0 rfl ?_
        refine g_iinc (ls2 := [_, _, _, _, some (.int _)]) K dX7_copyState_23 rfl kc_1 rfl ?_
        refine g_goto (tgt := 3) K dX7_copyState_26 (by decide) ?_
        rw [nI_1, stw_str, cpR_step]
        exact ih (i + 1) (by omega) (by omega)
  refine g_iconst K dX7_copyState_0 kc_0 ?_
  refine g_istore (ls2 := [_, _, _, _, some (.int _)]) K dX7_copyState_1 (by decide) rfl ?_
  refine g_same (S' := str S c (cpR S a c p q 0)) (Nat.le_refl _) (fun k j _ _ => ?_) (lp (129 + 1) 0 (by omega) (by omega))
  have e : cpR S a c p q 0 = S c := funext fun k => if_neg (by omega)
  rw [e, str_self]
