set_option maxHeartbeats 4000000 in
set_option maxRecDepth 100000 in
theorem c_X6_isWeight {l : Launch} {b : Nat} {D : va_G} {cA : Nat → ClassId} {ad : Nat → Nat} {S : ST} {x : Int32}  : MT l b D cA NN ad zT yX6_isWeight cX6_isWeight 1 (some .boolean) 0 [.int x] S (EI (if 1 ≤ x ∧ x ≤ 200 then 1 else 0) S) := by
  refine MT.intro (j := 0) (ls := [some (.int x)]) pn_X6 rfl rfl rfl (fun pr en s0 mi below meth c' K _ => ?_)
  refine g_iload_n K dX6_isWeight_0 rfl ?_
  refine g_iconst K dX6_isWeight_1 kc_1 ?_
  refine g_icmp_lt (tgt := 16) K dX6_isWeight_2 (by decide) (fun u2 => ?_) (fun u2 => ?_)
  · refine g_iconst K dX6_isWeight_16 kc_0 ?_
    refine g_zret K dX6_isWeight_17 (by first | exact Or.inl rfl | exact Or.inr rfl | assumption) ⟨_, rfl, ?_⟩
    refine ⟨?_, rfl⟩
    grind
  · refine g_iload_n K dX6_isWeight_5 rfl ?_
    refine g_sipush K dX6_isWeight_6 kp_200 ?_
    refine g_icmp_gt (tgt := 16) K dX6_isWeight_9 (by decide) (fun u9 => ?_) (fun u9 => ?_)
    · refine g_iconst K dX6_isWeight_16 kc_0 ?_
      refine g_zret K dX6_isWeight_17 (by first | exact Or.inl rfl | exact Or.inr rfl | assumption) ⟨_, rfl, ?_⟩
      refine ⟨?_, rfl⟩
      grind
    · refine g_iconst K dX6_isWeight_12 kc_1 ?_
      refine g_goto (tgt := 17) K dX6_isWeight_13 (by decide) ?_
      refine g_zret K dX6_isWeight_17 (by first | exact Or.inl rfl | exact Or.inr rfl | assumption) ⟨_, rfl, ?_⟩
      refine ⟨?_, rfl⟩
      grind
set_option maxHeartbeats 4000000 in
set_option maxRecDepth 100000 in
theorem c_X6_isDistance {l : Launch} {b : Nat} {D : va_G} {cA : Nat → ClassId} {ad : Nat → Nat} {S : ST} {x : Int32}  : MT l b D cA NN ad zT yX6_isDistance cX6_isDistance 1 (some .boolean) 0 [.int x] S (EI (if 2 ≤ x ∧ x ≤ 40 then 1 else 0) S) := by
  refine MT.intro (j := 0) (ls := [some (.int x)]) pn_X6 rfl rfl rfl (fun pr en s0 mi below meth c' K _ => ?_)
  refine g_iload_n K dX6_isDistance_0 rfl ?_
  refine g_iconst K dX6_isDistance_1 kc_2 ?_
  refine g_icmp_lt (tgt := 15) K dX6_isDistance_2 (by decide) (fun u2 => ?_) (fun u2 => ?_)
  · refine g_iconst K dX6_isDistance_15 kc_0 ?_
    refine g_zret K dX6_isDistance_16 (by first | exact Or.inl rfl | exact Or.inr rfl | assumption) ⟨_, rfl, ?_⟩
    refine ⟨?_, rfl⟩
    grind
  · refine g_iload_n K dX6_isDistance_5 rfl ?_
    refine g_bipush K dX6_isDistance_6 kb_40 ?_
    refine g_icmp_gt (tgt := 15) K dX6_isDistance_8 (by decide) (fun u8 => ?_) (fun u8 => ?_)
    · refine g_iconst K dX6_isDistance_15 kc_0 ?_
      refine g_zret K dX6_isDistance_16 (by first | exact Or.inl rfl | exact Or.inr rfl | assumption) ⟨_, rfl, ?_⟩
      refine ⟨?_, rfl⟩
      grind
    · refine g_iconst K dX6_isDistance_11 kc_1 ?_
      refine g_goto (tgt := 16) K dX6_isDistance_12 (by decide) ?_
      refine g_zret K dX6_isDistance_16 (by first | exact Or.inl rfl | exact Or.inr rfl | assumption) ⟨_, rfl, ?_⟩
      refine ⟨?_, rfl⟩
      grind
set_option maxHeartbeats 4000000 in
set_option maxRecDepth 100000 in
theorem c_X6_isSpeed {l : Launch} {b : Nat} {D : va_G} {cA : Nat → ClassId} {ad : Nat → Nat} {S : ST} {x : Int32}  : MT l b D cA NN ad zT yX6_isSpeed cX6_isSpeed 1 (some .boolean) 0 [.int x] S (EI (if 1 ≤ x ∧ x ≤ 9 then 1 else 0) S) := by
  refine MT.intro (j := 0) (ls := [some (.int x)]) pn_X6 rfl rfl rfl (fun pr en s0 mi below meth c' K _ => ?_)
  refine g_iload_n K dX6_isSpeed_0 rfl ?_
  refine g_iconst K dX6_isSpeed_1 kc_1 ?_
  refine g_icmp_lt (tgt := 15) K dX6_isSpeed_2 (by decide) (fun u2 => ?_) (fun u2 => ?_)
  · refine g_iconst K dX6_isSpeed_15 kc_0 ?_
    refine g_zret K dX6_isSpeed_16 (by first | exact Or.inl rfl | exact Or.inr rfl | assumption) ⟨_, rfl, ?_⟩
    refine ⟨?_, rfl⟩
    grind
  · refine g_iload_n K dX6_isSpeed_5 rfl ?_
    refine g_bipush K dX6_isSpeed_6 kb_9 ?_
    refine g_icmp_gt (tgt := 15) K dX6_isSpeed_8 (by decide) (fun u8 => ?_) (fun u8 => ?_)
    · refine g_iconst K dX6_isSpeed_15 kc_0 ?_
      refine g_zret K dX6_isSpeed_16 (by first | exact Or.inl rfl | exact Or.inr rfl | assumption) ⟨_, rfl, ?_⟩
      refine ⟨?_, rfl⟩
      grind
    · refine g_iconst K dX6_isSpeed_11 kc_1 ?_
      refine g_goto (tgt := 16) K dX6_isSpeed_12 (by decide) ?_
      refine g_zret K dX6_isSpeed_16 (by first | exact Or.inl rfl | exact Or.inr rfl | assumption) ⟨_, rfl, ?_⟩
      refine ⟨?_, rfl⟩
      grind
def quoF (x y : Int32) : Int32 := if 0 < y then x / y else 0
def quoUF (x y : Int32) : Int32 := quoF (x + y - 1) y
set_option maxHeartbeats 4000000 in
set_option maxRecDepth 100000 in
theorem c_X6_quotient {l : Launch} {b : Nat} {D : va_G} {cA : Nat → ClassId} {ad : Nat → Nat} {S : ST} {x y : Int32}  : MT l b D cA NN ad zT yX6_quotient cX6_quotient 2 (some .int) 0 [.int x, .int y] S (EI (quoF x y) S) := by
  refine MT.intro (j := 0) (ls := [some (.int x), some (.int y)]) pn_X6 rfl rfl rfl (fun pr en s0 mi below meth c' K _ => ?_)
  refine g_iload_n K dX6_quotient_0 rfl ?_
  refine g_if_gt (tgt := 8) K dX6_quotient_1 (by decide) (fun u1 => ?_) (fun u1 => ?_)
  · refine g_iload_n K dX6_quotient_8 rfl ?_
    refine g_iload_n K dX6_quotient_9 rfl ?_
    refine g_idiv K dX6_quotient_10 (by grind) ?_
    refine g_iret K dX6_quotient_11 ⟨_, rfl, ?_⟩
    refine ⟨?_, rfl⟩
    unfold quoF
    grind
  · refine g_iconst K dX6_quotient_4 kc_0 ?_
    refine g_goto (tgt := 11) K dX6_quotient_5 (by decide) ?_
    refine g_iret K dX6_quotient_11 ⟨_, rfl, ?_⟩
    refine ⟨?_, rfl⟩
    unfold quoF
    grind
set_option maxHeartbeats 4000000 in
set_option maxRecDepth 100000 in
theorem c_X6_quotientUp {l : Launch} {b : Nat} {D : va_G} {cA : Nat → ClassId} {ad : Nat → Nat} {S : ST} {x y : Int32}  : MT l b D cA NN ad zT yX6_quotientUp cX6_quotientUp 2 (some .int) 1 [.int x, .int y] S (EI (quoUF x y) S) := by
  refine MT.intro (j := 0) (ls := [some (.int x), some (.int y)]) pn_X6 rfl rfl rfl (fun pr en s0 mi below meth c' K _ => ?_)
  refine g_iload_n K dX6_quotientUp_0 rfl ?_
  refine g_if_gt (tgt := 8) K dX6_quotientUp_1 (by decide) (fun u1 => ?_) (fun u1 => ?_)
  · refine g_iload_n K dX6_quotientUp_8 rfl ?_
    refine g_iload_n K dX6_quotientUp_9 rfl ?_
    refine g_iadd K dX6_quotientUp_10 ?_
    refine g_iconst K dX6_quotientUp_11 kc_1 ?_
    refine g_isub K dX6_quotientUp_12 ?_
    refine g_iload_n K dX6_quotientUp_13 rfl ?_
    refine g_idiv K dX6_quotientUp_14 (by grind) ?_
    refine g_iret K dX6_quotientUp_15 ⟨_, rfl, ?_⟩
    refine ⟨?_, rfl⟩
    unfold quoUF quoF
    grind
  · refine g_iconst K dX6_quotientUp_4 kc_0 ?_
    refine g_goto (tgt := 15) K dX6_quotientUp_5 (by decide) ?_
    refine g_iret K dX6_quotientUp_15 ⟨_, rfl, ?_⟩
    refine ⟨?_, rfl⟩
    unfold quoUF quoF
    grind
/-- the places of the kept states -/
def HistOk (S : ST) (hb : Nat → Nat) : Prop := ∀ i, i < 4 → S 56 i = nI (hb i) ∧ ∃ j, j < 4 ∧ hb i = 57 + 27 * j
theorem HistOk.st {S : ST} {hb : Nat → Nat} (h : HistOk S hb) {i : Nat} (hi : i < 4) : StateAt (hb i) := by
  obtain ⟨-, j, hj, e⟩ := h i hi
  rw [e]
  exact st_57 j hj
theorem HistOk.lo {S : ST} {hb : Nat → Nat} (h : HistOk S hb) {i : Nat} (hi : i < 4) : 57 ≤ hb i ∧ hb i + 26 < 165 := by
  obtain ⟨-, j, hj, e⟩ := h i hi
  omega
theorem rf_hist {S : ST} {hb : Nat → Nat} {i t : Nat} (h : S 56 i = nI t) (ht : t < 165) : rf S 56 i = t := by
  unfold rf
  rw [if_pos (by decide), h]
  exact nI_clamp (by omega)
theorem nI_sub1 {i : Nat} (h : 1 ≤ i) : nI i - 1 = nI (i - 1) := by
  obtain ⟨j, rfl⟩ : ∃ j, i = j + 1 := ⟨i - 1, by omega⟩
  exact nI_pred j
def shF (f : Nat → Int32) (i : Nat) : Nat → Int32 := fun j => if j + 1 < i then f (j + 1) else f j
theorem shF_step {f : Nat → Int32} {i : Nat} (hi : 1 ≤ i) : upd (shF f i) (i - 1) (f i) = shF f (i + 1) := by
  funext j
  unfold upd shF
  by_cases h : j = i - 1
  · rw [if_pos h, if_pos (by omega), show j + 1 = i by omega]
  · rw [if_neg h]
    by_cases h2 : j + 1 < i
    · rw [if_pos h2, if_pos (by omega)]
    · rw [if_neg h2, if_neg (by omega)]
def rotF (f : Nat → Int32) : Nat → Int32 := upd (shF f 4) 3 (f 0)
def rotS (S : ST) : ST := stw (str S 56 (rotF (S 56))) 55 1 3
def remS (S : ST) (hb : Nat → Nat) (m : Nat) : ST := if m = 4 then stw (cpState (rotS S) (hb 0) 1) 55 1 4 else stw (cpState S (hb m) 1) 55 1 (nI (m + 1))
def recS (S : ST) (hb : Nat → Nat) (m : Nat) : ST := cpState (stw S 55 1 (nI m)) 1 (hb m)
theorem stw_str {S : ST} {k i : Nat} {f : Nat → Int32} {x : Int32} : stw (str S k f) k i x = str S k (upd f i x) := by
  funext a
  unfold stw str
  by_cases h : a = k
  · rw [if_pos h, if_pos rfl, if_pos h]
  · rw [if_neg h, if_neg h, if_neg h]
theorem str_self {S : ST} {k : Nat} : str S k (S k) = S := by
  funext a
  unfold str
  by_cases h : a = k
  · rw [if_pos h, h]
  · rw [if_neg h]
theorem stw_row {S : ST} {k i : Nat} {x : Int32} : stw S k i x = str S k (upd (S k) i x) := rfl
set_option maxHeartbeats 4000000 in
set_option maxRecDepth 100000 in
theorem c_X2_dropOldest {l : Launch} {b : Nat} {D : va_G} {cA : Nat → ClassId} {ad : Nat → Nat} {S : ST} {hb : Nat → Nat} (hh : HistOk S hb) : MT l b D cA NN ad zT yX2_dropOldest cX2_dropOldest 3 none 0 [.ref (ad 55)] S (EV (rotS S)) := by
  refine MT.intro (j := 2) (ls := [some (.ref (ad 55)), none, none]) pn_X2 rfl rfl rfl (fun pr en s0 mi below meth c' K _ => ?_)
  have lp : ∀ (fuel : Nat) (i : Nat), (4 + 1 ≤ i + fuel) → (1 ≤ i) → (i ≤ 4) → G pr l en (rmd 0) s0 mi (List.toArray [.ref (ad 55)]) below meth c' (MQ below (QQ b D cA NN ad zT (EV (rotS S))) (List.toArray [.ref (ad 55)]) s0 0 0 (aF b)) b D cA 3 NN ad zT 0 0 9 [some (.ref (ad 55)), some (.ref (ad (hb 0))), some (.int (nI i))] [] (str S 56 (shF (S 56) i)) := by
    intro fuel
    induction fuel with
    | zero =>
      intro i  hi hi1 hi2
      omega
    | succ fuel ih =>
      intro i  hi hi1 hi2
      refine g_iload_n K dX2_dropOldest_9 rfl ?_
      refine g_iconst K dX2_dropOldest_10 kc_4 ?_
      refine g_icmp_ge (tgt := 34) K dX2_dropOldest_11 (by decide) (fun u11 => ?_) (fun u11 => ?_)
      · have hi4 : i = 4 := by
          have := u11
          rw [show (4 : Int32) = nI 4 from rfl, nI_leI (by omega) (by omega)] at this
          omega
        subst hi4
        refine g_aload_n K dX2_dropOldest_34 rfl ?_
        refine g_getr (j := 56) K lk_X2_11 dX2_dropOldest_35 rfl (by decide) (rfl : kd 55 = 2) (by decide) (by decide) rfl (rfl : rs 55 0 = 56) ?_
        refine g_iconst K dX2_dropOldest_38 kc_3 ?_
        refine g_aload_n K dX2_dropOldest_39 rfl ?_
        refine g_aast (j := 3) (x := (S 56 0)) K dX2_dropOldest_40 rfl ln_56 (by decide) (rfl : kd 56 = 12) (by decide) (hh.st (by decide)).k0 (hh 0 (by decide)).1 (hh.st (by decide)).n0 (by decide) ?_ (fun _ => rfl)
        refine g_aload_n K dX2_dropOldest_41 rfl ?_
        refine g_iconst K dX2_dropOldest_42 kc_3 ?_
        refine g_puti K lk_X2_18 lq_X2_1 dX2_dropOldest_43 (put_i _) rfl (rfl : kd 55 = 2) (by decide) (by decide) ?_
        refine g_vret K dX2_dropOldest_46 ⟨rfl, ?_⟩
        show stw (stw (str S 56 (shF (S 56) 4)) 56 3 (S 56 0)) 55 1 3 = rotS S
        rw [stw_str]
        rfl
      · have hi4 : i < 4 := by
          have := u11
          rw [show (4 : Int32) = nI 4 from rfl, nI_leI (by omega) (by omega)] at this
          omega
        have hSi : str S 56 (shF (S 56) i) 56 i = nI (hb i) := by
          rw [str_s]
          unfold shF
          rw [if_neg (by omega)]
          exact (hh i hi4).1
        refine g_aload_n K dX2_dropOldest_14 rfl ?_
        refine g_getr (j := 56) K lk_X2_11 dX2_dropOldest_15 rfl (by decide) (rfl : kd 55 = 2) (by decide) (by decide) rfl (rfl : rs 55 0 = 56) ?_
        refine g_iload_n K dX2_dropOldest_18 rfl ?_
        refine g_iconst K dX2_dropOldest_19 kc_1 ?_
        refine g_isub K dX2_dropOldest_20 ?_
        refine g_aload_n K dX2_dropOldest_21 rfl ?_
        refine g_getr (j := 56) K lk_X2_11 dX2_dropOldest_22 rfl (by decide) (rfl : kd 55 = 2) (by decide) (by decide) rfl (rfl : rs 55 0 = 56) ?_
        refine g_iload_n K dX2_dropOldest_25 rfl ?_
        refine g_aald (j := i) (t := (hb i)) K dX2_dropOldest_26 rfl ln_56 hi4 (rfl : kd 56 = 12) (Or.inr rfl) (by decide) rfl (rf_hist (hb := hb) hSi (by have := hh.lo hi4; omega)) ?_
        refine g_aast (j := (i - 1)) (x := (S 56 i)) K dX2_dropOldest_27 (nI_sub1 hi1) ln_56 (by omega) (rfl : kd 56 = 12) (by decide) (hh.st hi4).k0 (hh i hi4).1 (hh.st hi4).n0 (by decide) ?_ (fun _ => rfl)
        refine g_iinc (ls2 := [_, _, some (.int _)]) K dX2_dropOldest_28 rfl kc_1 rfl ?_
        refine g_goto (tgt := 9) K dX2_dropOldest_31 (by decide) ?_
        rw [nI_1, stw_str, shF_step hi1]
        exact ih (i + 1) (by omega) (by omega) (by omega)
  refine g_aload_n K dX2_dropOldest_0 rfl ?_
  refine g_getr (j := 56) K lk_X2_11 dX2_dropOldest_1 rfl (by decide) (rfl : kd 55 = 2) (by decide) (by decide) rfl (rfl : rs 55 0 = 56) ?_
  refine g_iconst K dX2_dropOldest_4 kc_0 ?_
  refine g_aald (j := 0) (t := (hb 0)) K dX2_dropOldest_5 rfl ln_56 (by decide) (rfl : kd 56 = 12) (Or.inr rfl) (by decide) rfl (rf_hist (hb := hb) (hh 0 (by decide)).1 (by have := hh.lo (i := 0) (by decide); omega)) ?_
  refine g_astore_n (ls2 := [_, some (.ref _), _]) K dX2_dropOldest_6 (by decide) rfl ?_
  refine g_iconst K dX2_dropOldest_7 kc_1 ?_
  refine g_istore_n (ls2 := [_, _, some (.int _)]) K dX2_dropOldest_8 (by decide) rfl ?_
  refine g_same (S' := str S 56 (shF (S 56) 1)) (Nat.le_refl _) (fun k i _ _ => ?_) (lp (4 + 1) 1 (by omega) (by omega) (by omega))
  have e : shF (S 56) 1 = S 56 := by
    funext j
    unfold shF
    rw [if_neg (by omega)]
  rw [e, str_self]
theorem rot_ok {S : ST} {hb : Nat → Nat} (hh : HistOk S hb) : HistOk (rotS S) (fun i => if i = 3 then hb 0 else hb (i + 1)) := by
  intro i hi
  have e : rotS S 56 = rotF (S 56) := by
    unfold rotS
    rw [stw_n (by decide), str_s]
  rw [e]
  show (if i = 3 then S 56 0 else if i + 1 < 4 then S 56 (i + 1) else S 56 i) = nI (if i = 3 then hb 0 else hb (i + 1)) ∧ ∃ j, j < 4 ∧ (if i = 3 then hb 0 else hb (i + 1)) = 57 + 27 * j
  by_cases h : i = 3
  · rw [if_pos h, if_pos h]
    exact hh 0 (by decide)
  · rw [if_neg h, if_neg h, if_pos (by omega)]
    exact hh (i + 1) (by omega)
theorem cpState_n {S : ST} {B B2 k : Nat} (h : k < B ∨ B + 26 < k) : cpState S B B2 k = S k := if_neg (by omega)
set_option maxHeartbeats 4000000 in
set_option maxRecDepth 100000 in
theorem c_X2_remember {l : Launch} {b : Nat} {D : va_G} {cA : Nat → ClassId} {ad : Nat → Nat} {S : ST} {hb : Nat → Nat} {m : Nat} (hh : HistOk S hb) (hm : S 55 1 = nI m) (hm4 : m ≤ 4) (hz : ∀ a, a < 6 → ∀ i, i < 5 → fits .boolean (.int (S (1 + 3 + 4 * a + 3) i)) = true) : MT l b D cA NN ad zT yX2_remember cX2_remember 2 none 3 [.ref (ad 55), .ref (ad 1)] S (EV (remS S hb m)) := by
  refine MT.intro (j := 0) (ls := [some (.ref (ad 55)), some (.ref (ad 1))]) pn_X2 rfl rfl rfl (fun pr en s0 mi below meth c' K _ => ?_)
  have ka : ∀ (S0 : ST) (hb2 : Nat → Nat) (m1 : Nat), (HistOk S0 hb2) → (S0 55 1 = nI m1) → (m1 < 4) → (∀ a, a < 6 → ∀ i, i < 5 → fits .boolean (.int (S0 (1 + 3 + 4 * a + 3) i)) = true) → (remS S hb m = stw (cpState S0 (hb2 m1) 1) 55 1 (nI (m1 + 1))) → G pr l en (rmd 3) s0 mi (List.toArray [.ref (ad 55), .ref (ad 1)]) below meth c' (MQ below (QQ b D cA NN ad zT (EV (remS S hb m))) (List.toArray [.ref (ad 55), .ref (ad 1)]) s0 0 0 (aF b)) b D cA 2 NN ad zT 0 0 12 [some (.ref (ad 55)), some (.ref (ad 1))] [] S0 := by
    intro S0  hb2  m1  hh1 hm1 hm5 hz1 hpost
    refine g_aload_n K dX2_remember_12 rfl ?_
    refine g_getr (j := 56) K lk_X2_11 dX2_remember_13 rfl (by decide) (rfl : kd 55 = 2) (by decide) (by decide) rfl (rfl : rs 55 0 = 56) ?_
    refine g_aload_n K dX2_remember_16 rfl ?_
    refine g_geti K lk_X2_18 dX2_remember_17 rfl (rfl : kd 55 = 2) (by decide) (by decide) rfl ?_
    refine g_aald (j := m1) (t := (hb2 m1)) K dX2_remember_20 hm1 ln_56 hm5 (rfl : kd 56 = 12) (Or.inr rfl) (by decide) rfl (rf_hist (hb := hb2) (hh1 m1 hm5).1 (by have := hh1.lo hm5; omega)) ?_
    refine g_aload_n K dX2_remember_21 rfl ?_
    refine g_callVv K (c_X5_copyFrom (hh1.st hm5) st_1 (by have := hh1.lo hm5; omega) hz1) mw_X5_copyFrom ml_X2_25 dX2_remember_22 (by rfl) rfl (by rw [(hh1.st hm5).k0]; rfl) (hh1.st hm5).n0 (by simp [Value.category]) ⟨by decide, by decide⟩ ⟨by decide, by decide⟩ ?_
    refine g_aload_n K dX2_remember_25 rfl ?_
    refine g_dup K dX2_remember_26 rfl ?_
    refine g_geti K lk_X2_18 dX2_remember_27 rfl (rfl : kd 55 = 2) (by decide) (by decide) ((congrFun (cpState_n (by have := hh1.lo hm5; omega)) 1).trans hm1) ?_
    refine g_iconst K dX2_remember_30 kc_1 ?_
    refine g_iadd K dX2_remember_31 ?_
    refine g_puti K lk_X2_18 lq_X2_1 dX2_remember_32 (put_i _) rfl (rfl : kd 55 = 2) (by decide) (by decide) ?_
    refine g_vret K dX2_remember_35 ⟨rfl, ?_⟩
    rw [nI_1, ← hpost]
  refine g_aload_n K dX2_remember_0 rfl ?_
  refine g_geti K lk_X2_18 dX2_remember_1 rfl (rfl : kd 55 = 2) (by decide) (by decide) rfl ?_
  refine g_iconst K dX2_remember_4 kc_4 ?_
  refine g_icmp_lt (tgt := 12) K dX2_remember_5 (by decide) (fun u5 => ?_) (fun u5 => ?_)
  · first
      | exact ka S hb m hh hm (by rw [hm, show (4 : Int32) = nI 4 from rfl, nI_ltI (by omega) (by omega)] at u5; exact u5) hz (by unfold remS; rw [if_neg (by rw [hm, show (4 : Int32) = nI 4 from rfl, nI_ltI (by omega) (by omega)] at u5; omega)])
      | exact ka (rotS S) _ 3 (rot_ok hh) rfl (by decide) (fun a ha i hi => by rw [show rotS S (1 + 3 + 4 * a + 3) = S (1 + 3 + 4 * a + 3) from (stw_n (by omega)).trans (str_n (by omega))]; exact hz a ha i hi) rfl
  · have hm2 : m = 4 := by
      rw [hm, show (4 : Int32) = nI 4 from rfl, nI_ltI (by omega) (by omega)] at u5
      omega
    subst hm2
    refine g_aload_n K dX2_remember_8 rfl ?_
    refine g_callVv K (c_X2_dropOldest hh) mw_X2_dropOldest ml_X2_22 dX2_remember_9 (by rfl) rfl rfl (by decide) (by simp [Value.category]) ⟨by decide, by decide⟩ ⟨by decide, by decide⟩ ?_
    first
      | exact ka S hb m hh hm (by rw [hm, show (4 : Int32) = nI 4 from rfl, nI_ltI (by omega) (by omega)] at u5; exact u5) hz (by unfold remS; rw [if_neg (by rw [hm, show (4 : Int32) = nI 4 from rfl, nI_ltI (by omega) (by omega)] at u5; omega)])
      | exact ka (rotS S) _ 3 (rot_ok hh) rfl (by decide) (fun a ha i hi => by rw [show rotS S (1 + 3 + 4 * a + 3) = S (1 + 3 + 4 * a + 3) from (stw_n (by omega)).trans (str_n (by omega))]; exact hz a ha i hi) rfl
set_option maxHeartbeats 4000000 in
set_option maxRecDepth 100000 in
theorem c_X2_recall {l : Launch} {b : Nat} {D : va_G} {cA : Nat → ClassId} {ad : Nat → Nat} {S : ST} {hb : Nat → Nat} {m : Nat} (hh : HistOk S hb) (hm : S 55 1 = nI (m + 1)) (hm4 : m < 4) (hz : ∀ a, a < 6 → ∀ i, i < 5 → fits .boolean (.int (S (hb m + 3 + 4 * a + 3) i)) = true) : MT l b D cA NN ad zT yX2_recall cX2_recall 2 none 3 [.ref (ad 55), .ref (ad 1)] S (EV (recS S hb m)) := by
  refine MT.intro (j := 0) (ls := [some (.ref (ad 55)), some (.ref (ad 1))]) pn_X2 rfl rfl rfl (fun pr en s0 mi below meth c' K _ => ?_)
  refine g_aload_n K dX2_recall_0 rfl ?_
  refine g_geti K lk_X2_18 dX2_recall_1 rfl (rfl : kd 55 = 2) (by decide) (by decide) rfl ?_
  refine g_if_gt (tgt := 8) K dX2_recall_4 (by decide) (fun u4 => ?_) (fun u4 => absurd (by rw [hm]; exact nI_lt (a := 0) (by omega) (by omega)) u4)
  refine g_aload_n K dX2_recall_8 rfl ?_
  refine g_dup K dX2_recall_9 rfl ?_
  refine g_geti K lk_X2_18 dX2_recall_10 rfl (rfl : kd 55 = 2) (by decide) (by decide) hm ?_
  refine g_iconst K dX2_recall_13 kc_1 ?_
  refine g_isub K dX2_recall_14 ?_
  rw [nI_pred]
  refine g_puti K lk_X2_18 lq_X2_1 dX2_recall_15 (put_i _) rfl (rfl : kd 55 = 2) (by decide) (by decide) ?_
  refine g_aload_n K dX2_recall_18 rfl ?_
  refine g_aload_n K dX2_recall_19 rfl ?_
  refine g_getr (j := 56) K lk_X2_11 dX2_recall_20 rfl (by decide) (rfl : kd 55 = 2) (by decide) (by decide) rfl (rfl : rs 55 0 = 56) ?_
  refine g_aload_n K dX2_recall_23 rfl ?_
  refine g_geti K lk_X2_18 dX2_recall_24 rfl (rfl : kd 55 = 2) (by decide) (by decide) (show stw S 55 1 (nI m) 55 1 = nI m by simp [stw_app]) ?_
  refine g_aald (j := m) (t := (hb m)) K dX2_recall_27 rfl ln_56 hm4 (rfl : kd 56 = 12) (Or.inr rfl) (by decide) rfl (rf_hist (hb := hb) (by rw [stw_n (by decide)]; exact (hh m hm4).1) (by have := hh.lo hm4; omega)) ?_
  refine g_callVv K (c_X5_copyFrom st_1 (hh.st hm4) (by have := hh.lo hm4; omega) (fun a ha i hi => by rw [stw_n (by have := hh.lo hm4; omega)]; exact hz a ha i hi)) mw_X5_copyFrom ml_X2_25 dX2_recall_28 (by rfl) rfl rfl (by decide) (by simp [Value.category]) ⟨by decide, by decide⟩ ⟨by decide, by decide⟩ ?_
  refine g_vret K dX2_recall_31 ⟨rfl, ?_⟩
  exact rfl
