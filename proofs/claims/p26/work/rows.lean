section
/-! floats near whole numbers: in units of 2^-149 -/
def FZ (a : UInt32) : Int := FP.Core.zval FP.Core.b32 (FP.Core.val32 a)
/-- a is a number, and nearer to v units than h -/
def FN (a : UInt32) (v h : Int) : Prop := FP.Core.FFin a ∧ FZ a - v < h ∧ v - FZ a < h
theorem fr_zinf : ¬ (FP.Core.b32.tails * 2 ^ (FP.Core.b32.exps - 2) ≤ 2 ^ 165) := by decide +kernel
theorem fr_zV : FP.Core.zmag FP.Core.b32 (.fin false (2 ^ 23) (-7)) = 2 ^ 165 := by decide +kernel
theorem fr_fV : FP.Core.fits FP.Core.b32 (.fin false (2 ^ 23) (-7)) := ⟨by decide, by decide, by decide, Or.inr (by decide)⟩
/-- a number below 2^16 rounds to a number -/
theorem fr_fin {s : Bool} {n B : Nat} {e e0 : Int} (hB : 0 < B) (h0 : e0 ≤ -149) (h0e : e0 ≤ e) (hX : FP.Core.inUnits n e e0 ≤ 2 ^ 165 * 2 ^ (-149 - e0).toNat * B) : ∃ c q, FP.Core.roundRatio FP.Core.b32 s n B e = .fin s c q := by
  have hq : FP.Core.b32.qmin = -149 := FP.Core.qmin_b32
  have hle := FP.Core.zmag_roundRatio_le FP.Core.good_b32 (s := s) (A := n) (B := B) (e := e) (e0 := e0) hB fr_fV (fun h => by cases h) (by rw [hq]; exact h0) h0e (by rw [fr_zV, hq]; exact hX)
  have hsg := FP.Core.sgn_roundRatio FP.Core.b32 s n B e
  rcases FP.Core.roundRatio_cases FP.Core.b32 s n B e with ⟨c, q, hR⟩ | hR
  · exact ⟨c, q, hR⟩
  · rw [hR, fr_zV] at hle
    exact absurd hle fr_zinf
theorem fr_div (X D : Nat) (h : 0 < D) : X / D * D ≤ X ∧ X < X / D * D + D := by
  have h1 := Nat.div_add_mod X D
  have h2 := Nat.mod_lt X h
  rw [Nat.mul_comm] at h1
  omega
/-- how far off a rounding is: below 2^(24+q') it is by less than 2^q' -/
theorem fr_near {s : Bool} {n B c : Nat} {e e0 q q' : Int} {k : Nat} (hB : 0 < B) (h0 : e0 ≤ -149) (h0e : e0 ≤ e) (hq' : -149 ≤ q') (hk : (q' - e0).toNat = k) (hX : FP.Core.inUnits n e e0 < 2 ^ 24 * (2 ^ k * B)) (hR : FP.Core.roundRatio FP.Core.b32 s n B e = .fin s c q) :
    FP.Core.inUnits n e e0 < FP.Core.zmag FP.Core.b32 (.fin s c q) * 2 ^ (-149 - e0).toNat * B + 2 ^ k * B ∧ FP.Core.zmag FP.Core.b32 (.fin s c q) * 2 ^ (-149 - e0).toNat * B < FP.Core.inUnits n e e0 + 2 ^ k * B := by
  have hqm : FP.Core.b32.qmin = -149 := FP.Core.qmin_b32
  have hfit : FP.Core.fits FP.Core.b32 (.fin s c q) := hR ▸ FP.Core.roundRatio_fits FP.Core.good_b32 s n hB e
  have hu := FP.Core.units_fin hfit (e0 := e0) (by rw [hqm]; exact h0)
  rw [hqm] at hu
  have hD : 0 < 2 ^ k * B := Nat.mul_pos (Nat.two_pow_pos _) hB
  have hd := FP.Core.roundRatio_nearest FP.Core.good_b32 (c' := FP.Core.inUnits n e e0 / (2 ^ k * B)) (q' := q') (e0 := e0) hB hR (Nat.div_lt_of_lt_mul (by rw [Nat.mul_comm]; exact hX)) (by rw [hqm]; exact hq') (by rw [hqm]; exact h0) h0e
  unfold FP.Core.distance at hd
  rw [hu] at hd
  have e1 : FP.Core.inUnits (FP.Core.inUnits n e e0 / (2 ^ k * B)) q' e0 = FP.Core.inUnits n e e0 / (2 ^ k * B) * 2 ^ k := by
    show _ * 2 ^ (q' - e0).toNat = _
    rw [hk]
  rw [e1] at hd
  obtain ⟨g1, g2⟩ := fr_div (FP.Core.inUnits n e e0) (2 ^ k * B) hD
  rw [← Nat.mul_assoc] at g1 g2
  rw [← Int.natCast_mul, ← Int.natCast_mul] at hd
  generalize FP.Core.inUnits n e e0 / (2 ^ k * B) * 2 ^ k * B = y at g1 g2 hd
  generalize FP.Core.zmag FP.Core.b32 (.fin s c q) * 2 ^ (-149 - e0).toNat * B = z at hd ⊢
  generalize 2 ^ k * B = D at g2 ⊢
  generalize FP.Core.inUnits n e e0 = X at g1 g2 hd ⊢
  omega
theorem fz_fin {a : UInt32} {s : Bool} {c : Nat} {q : Int} (h : FP.Core.val32 a = .fin s c q) : FZ a = FP.Core.signed s (FP.Core.zmag FP.Core.b32 (.fin s c q)) := by
  unfold FZ
  rw [h]
  rfl
theorem fn_add {a b : UInt32} {v w h k : Int} (ha : FN a v h) (hb : FN b w k) (h1 : v + w + h + k < 2 ^ 165) (h2 : -(2 ^ 165) < v + w - h - k) : FN (FP.fadd a b) (v + w) (h + k + 2 ^ 141) := by
  obtain ⟨⟨s, c, q, ea⟩, a1, a2⟩ := ha
  obtain ⟨⟨t, d, r, eb⟩, b1, b2⟩ := hb
  have fa : FP.Core.fits FP.Core.b32 (.fin s c q) := ea ▸ FP.Core.val32_fits a
  have fb : FP.Core.fits FP.Core.b32 (.fin t d r) := eb ▸ FP.Core.val32_fits b
  obtain ⟨sg, n, e, h3, h4, h5⟩ := FP.Core.sum_units fa fb
  have hv := FP.Core.val32_fadd a b
  rw [ea, eb, h3] at hv
  have za : FZ a = FP.Core.zval FP.Core.b32 (.fin s c q) := by unfold FZ; rw [ea]
  have zb : FZ b = FP.Core.zval FP.Core.b32 (.fin t d r) := by unfold FZ; rw [eb]
  rw [← za, ← zb] at h5
  have hqm : FP.Core.b32.qmin = -149 := FP.Core.qmin_b32
  rw [hqm] at h4 h5
  have hX : FP.Core.inUnits n e (-149) < 2 ^ 165 := by
    cases sg
    · simp only [FP.Core.signed] at h5
      simp at h5
      omega
    · simp only [FP.Core.signed] at h5
      simp at h5
      omega
  obtain ⟨c2, q2, hR⟩ := fr_fin (s := sg) (n := n) (B := 1) (e := e) (e0 := -149) (by decide) (by decide) h4 (by simp only [Nat.mul_one]; exact Nat.le_trans (Nat.le_of_lt hX) (by decide))
  have hn := fr_near (k := 141) (q' := -8) (by decide) (by decide) h4 (by decide) (by decide) (by rw [Nat.mul_one]; exact Nat.lt_of_lt_of_le hX (by decide)) hR
  have hv2 : FP.Core.val32 (FP.fadd a b) = .fin sg c2 q2 := hv.trans hR
  rw [show ((-149 : Int) - (-149)).toNat = 0 by decide, Nat.pow_zero, Nat.mul_one, Nat.mul_one, Nat.mul_one] at hn
  refine ⟨⟨sg, c2, q2, hv2⟩, ?_⟩
  rw [fz_fin hv2]
  generalize FP.Core.zmag FP.Core.b32 (.fin sg c2 q2) = Z at hn ⊢
  generalize FP.Core.inUnits n e (-149) = X at hn h5
  cases sg
  · simp [FP.Core.signed] at h5 ⊢
    omega
  · simp [FP.Core.signed] at h5 ⊢
    omega
theorem fn_neg {b : UInt32} {w k : Int} (hb : FN b w k) : FN (FP.Core.fneg b) (-w) k := by
  obtain ⟨⟨t, d, r, eb⟩, b1, b2⟩ := hb
  have hv := FP.Core.val32_fneg b
  have hz : FZ (FP.Core.fneg b) = -FZ b := by
    unfold FZ
    rw [hv, FP.Core.zval_negate]
  rw [eb] at hv
  refine ⟨⟨_, _, _, hv⟩, ?_⟩
  rw [hz]
  omega
theorem fn_neg2 {b : UInt32} {w k : Int} (hb : FN b w k) : FN (FP.fneg b) (-w) k := by
  obtain ⟨⟨t, d, r, eb⟩, b1, b2⟩ := hb
  have hv := FP.val32_fneg b
  have hz : FZ (FP.fneg b) = -FZ b := by
    unfold FZ
    rw [hv, FP.Core.zval_negate]
  rw [eb] at hv
  refine ⟨⟨_, _, _, hv⟩, ?_⟩
  rw [hz]
  omega
theorem fn_sub {a b : UInt32} {v w h k : Int} (ha : FN a v h) (hb : FN b w k) (h1 : v - w + h + k < 2 ^ 165) (h2 : -(2 ^ 165) < v - w - h - k) : FN (FP.fsub a b) (v - w) (h + k + 2 ^ 141) := by
  have e : FP.fsub a b = FP.fadd a (FP.Core.fneg b) := FP.Core.fsub_eq a b
  rw [e, show v - w = v + -w by omega]
  exact fn_add ha (fn_neg hb) (by omega) (by omega)
/-- a whole number is a float -/
theorem fn_int {x : Int32} (h1 : -16777216 < x.toInt) (h2 : x.toInt < 16777216) : FP.Core.FFin (FP.i2f x) ∧ FZ (FP.i2f x) = x.toInt * 2 ^ 149 := by
  refine ⟨FP.Core.i2f_fin x, ?_⟩
  have hw : FP.Core.Whole x.toInt (FP.Core.val32 (FP.Core.i2f x)) := by
    rw [FP.Core.i2f_l2f]
    have := FP.Core.l2f_whole (a := x.toInt64) ⟨by rw [Int32.toInt_toInt64]; exact h1, by rw [Int32.toInt_toInt64]; exact h2⟩
    rw [Int32.toInt_toInt64] at this
    exact this
  have h := FP.Core.whole_zval FP.Core.good_b32 (FP.Core.val32_fits _) hw
  rw [show (-FP.Core.b32.qmin).toNat = 149 by decide +kernel] at h
  exact h
theorem fn_mul {a b : UInt32} {B : Int} {N : Nat} (hN : B = N) (ha : FP.Core.FFin a) (hb : FP.Core.FFin b) (hB : FZ b = B * 2 ^ 149) (h1 : FZ a * B < 2 ^ 165) (h2 : -(2 ^ 165) < FZ a * B) : FN (FP.fmul a b) (FZ a * B) (2 ^ 141) := by
  obtain ⟨s, c, q, ea⟩ := ha
  obtain ⟨t, d, r, eb⟩ := hb
  have fa : FP.Core.fits FP.Core.b32 (.fin s c q) := ea ▸ FP.Core.val32_fits a
  have fb : FP.Core.fits FP.Core.b32 (.fin t d r) := eb ▸ FP.Core.val32_fits b
  obtain ⟨g1, g2, g3⟩ := FP.Core.product_units fa fb
  have hv := FP.Core.val32_fmul a b
  rw [ea, eb, g1] at hv
  rw [fz_fin ea] at h1 h2 ⊢
  rw [fz_fin eb] at hB
  have hqm : FP.Core.b32.qmin = -149 := FP.Core.qmin_b32
  rw [hqm, show (2 : Int) * (-149) = -298 by decide] at g2 g3
  have hy : FP.Core.zmag FP.Core.b32 (.fin t d r) = N * 2 ^ 149 ∧ (N ≠ 0 → t = false) := by
    generalize FP.Core.zmag FP.Core.b32 (.fin t d r) = y at hB
    subst hN
    cases t
    · simp [FP.Core.signed] at hB ⊢
      omega
    · simp [FP.Core.signed] at hB ⊢
      omega
  rw [hy.1, ← Nat.mul_assoc] at g3
  have hX : FP.Core.zmag FP.Core.b32 (.fin s c q) * N < 2 ^ 165 := by
    subst hN
    cases s
    · simp only [FP.Core.signed] at h1 h2
      simp at h1 h2
      rw [← Int.natCast_mul] at h1
      omega
    · simp only [FP.Core.signed] at h1 h2
      simp at h1 h2
      rw [Int.neg_mul, ← Int.natCast_mul] at h2
      omega
  obtain ⟨c2, q2, hR⟩ := fr_fin (s := s != t) (n := c * d) (B := 1) (e := q + r) (e0 := -298) (by decide) (by decide) g2 (by
    rw [g3, Nat.mul_one, show ((-149 : Int) - (-298)).toNat = 149 by decide]
    exact Nat.mul_le_mul_right _ (Nat.le_of_lt hX))
  have hn := fr_near (k := 290) (q' := -8) (by decide) (by decide) g2 (by decide) (by decide) (by
    rw [g3, Nat.mul_one, show (290 : Nat) = 141 + 149 by decide, Nat.pow_add, ← Nat.mul_assoc, ← Nat.pow_add]
    exact Nat.mul_lt_mul_of_pos_right hX (Nat.two_pow_pos _)) hR
  have hv2 : FP.Core.val32 (FP.fmul a b) = .fin (s != t) c2 q2 := hv.trans hR
  rw [g3, show ((-149 : Int) - (-298)).toNat = 149 by decide, Nat.mul_one, Nat.mul_one, show (290 : Nat) = 141 + 149 by decide, Nat.pow_add, ← Nat.add_mul, ← Nat.add_mul] at hn
  have k1 := Nat.lt_of_mul_lt_mul_right hn.1
  have k2 := Nat.lt_of_mul_lt_mul_right hn.2
  refine ⟨⟨_, c2, q2, hv2⟩, ?_⟩
  rw [fz_fin hv2]
  generalize FP.Core.zmag FP.Core.b32 (.fin (s != t) c2 q2) = Z at k1 k2 ⊢
  subst hN
  by_cases hN0 : N = 0
  · subst hN0
    rw [Nat.mul_zero] at k1 k2
    rw [Int.natCast_zero, Int.mul_zero]
    have hs : FP.Core.signed (s != t) Z = (Z : Int) ∨ FP.Core.signed (s != t) Z = -(Z : Int) := by
      unfold FP.Core.signed
      by_cases hst : (s != t) = true
      · exact Or.inr (if_pos hst)
      · exact Or.inl (if_neg hst)
    clear hX hn
    rcases hs with hs | hs <;> rw [hs] <;> omega
  · rw [hy.2 hN0]
    cases s
    · simp [FP.Core.signed]
      rw [← Int.natCast_mul]
      omega
    · simp [FP.Core.signed]
      rw [Int.neg_mul, ← Int.natCast_mul]
      omega
theorem fq_units (c : Nat) {q r : Int} (hq : -149 ≤ q) (hr : -149 ≤ r) (h : -253 ≤ q - r) : FP.Core.inUnits c (q - r) (-253) * 2 ^ (r + 149).toNat = FP.Core.inUnits c q (-149) * 2 ^ 253 := by
  unfold FP.Core.inUnits
  rw [Nat.mul_assoc, Nat.mul_assoc, ← Nat.pow_add, ← Nat.pow_add]
  congr 2
  omega
/-- a quotient of whole numbers, times the divisor -/
theorem fn_div {x y : Int32} {a : Nat} (hx1 : -32768 < x.toInt) (hx2 : x.toInt < 32768) (hy : y.toInt = a) (ha : 1 ≤ a) (ha2 : a < 1024) : FP.Core.FFin (FP.fdiv (FP.i2f x) (FP.i2f y)) ∧ FZ (FP.fdiv (FP.i2f x) (FP.i2f y)) * a - x.toInt * 2 ^ 149 < 2 ^ 141 ∧ x.toInt * 2 ^ 149 - FZ (FP.fdiv (FP.i2f x) (FP.i2f y)) * a < 2 ^ 141 := by
  obtain ⟨⟨s, c, q, ea⟩, za⟩ := fn_int (x := x) (by omega) (by omega)
  obtain ⟨⟨t, d, r, eb⟩, zb⟩ := fn_int (x := y) (by omega) (by omega)
  have fa : FP.Core.fits FP.Core.b32 (.fin s c q) := ea ▸ FP.Core.val32_fits _
  have fb : FP.Core.fits FP.Core.b32 (.fin t d r) := eb ▸ FP.Core.val32_fits _
  rw [fz_fin ea] at za
  rw [fz_fin eb, hy] at zb
  have hqm : FP.Core.b32.qmin = -149 := FP.Core.qmin_b32
  have hqM : FP.Core.b32.qmax = 104 := by decide
  have ez : ∀ (s : Bool) (c : Nat) (q : Int), FP.Core.zmag FP.Core.b32 (.fin s c q) = FP.Core.inUnits c q (-149) := fun s c q => by
    show FP.Core.inUnits c q FP.Core.b32.qmin = _
    rw [hqm]
  rw [ez] at za zb
  have hq := fa.2.1
  have hr := fb.2.1
  have hr2 := fb.2.2.1
  rw [hqm] at hq hr
  rw [hqM] at hr2
  have hb : FP.Core.inUnits d r (-149) = a * 2 ^ 149 ∧ t = false := by
    generalize FP.Core.inUnits d r (-149) = y at zb
    cases t
    · simp [FP.Core.signed] at zb ⊢
      omega
    · simp [FP.Core.signed] at zb ⊢
      omega
  obtain ⟨hb1, rfl⟩ := hb
  have hd0 : d ≠ 0 := by
    rintro rfl
    rw [show FP.Core.inUnits 0 r (-149) = 0 from Nat.zero_mul _] at hb1
    omega
  obtain ⟨m, hm, hm1⟩ : ∃ m : Nat, FP.Core.inUnits c q (-149) = m * 2 ^ 149 ∧ x.toInt = FP.Core.signed s m := by
    refine ⟨x.toInt.natAbs, ?_, ?_⟩
    · generalize FP.Core.inUnits c q (-149) = y at za
      cases s
      · simp [FP.Core.signed] at za ⊢
        omega
      · simp [FP.Core.signed] at za ⊢
        omega
    · generalize FP.Core.inUnits c q (-149) = y at za
      cases s
      · simp [FP.Core.signed] at za ⊢
        omega
      · simp [FP.Core.signed] at za ⊢
        omega
  have hm2 : m < 32768 := by
    rw [hm1] at hx1 hx2
    cases s
    · simp [FP.Core.signed] at hx2
      omega
    · simp [FP.Core.signed] at hx1
      omega
  have hv := FP.Core.val32_fdiv (FP.Core.i2f x) (FP.Core.i2f y)
  rw [show FP.Core.val32 (FP.Core.i2f x) = .fin s c q from ea, show FP.Core.val32 (FP.Core.i2f y) = .fin false d r from eb] at hv
  have hquo : FP.Core.quotient FP.Core.b32 (.fin s c q) (.fin false d r) = FP.Core.roundRatio FP.Core.b32 s c d (q - r) := by
    show (if d = 0 then (if c = 0 then FP.Core.Datum.nan else .inf (s != false)) else FP.Core.roundRatio FP.Core.b32 (s != false) c d (q - r)) = _
    rw [if_neg hd0, Bool.bne_false]
  rw [hquo] at hv
  have hB : 0 < d := Nat.pos_of_ne_zero hd0
  have hM : 0 < 2 ^ (r + 149).toNat := Nat.two_pow_pos _
  have E1 := fq_units c hq hr (show -253 ≤ q - r by omega)
  rw [hm] at E1
  have E2 : d * 2 ^ (r + 149).toNat = a * 2 ^ 149 := hb1
  obtain ⟨c2, q2, hR⟩ := fr_fin (s := s) (n := c) (B := d) (e := q - r) (e0 := -253) hB (by decide) (by omega) (by
    refine Nat.le_of_mul_le_mul_right (c := 2 ^ (r + 149).toNat) ?_ hM
    rw [E1, Nat.mul_assoc _ d, E2, show ((-149 : Int) - (-253)).toNat = 104 by decide]
    generalize (2 : Nat) ^ (r + 149).toNat = M at E1 E2
    omega)
  have hj : ∃ j : Nat, j ≤ 9 ∧ 2 ^ j ≤ a ∧ a < 2 ^ (j + 1) := by
    refine ⟨a.log2, ?_, Nat.log2_self_le (by omega), Nat.lt_log2_self⟩
    have h1 := Nat.log2_self_le (n := a) (by omega)
    have h2 : 2 ^ a.log2 < 2 ^ 10 := Nat.lt_of_le_of_lt h1 (by omega)
    have := (Nat.pow_lt_pow_iff_right (by decide : 1 < 2)).mp h2
    omega
  obtain ⟨j, hj9, hj1, hj2⟩ := hj
  have hn := fr_near (s := s) (n := c) (B := d) (e := q - r) (e0 := -253) (q' := -9 - (j : Int)) (k := 244 - j) hB (by decide) (by omega) (by omega) (by omega) (by
    refine Nat.lt_of_mul_lt_mul_right (a := 2 ^ (r + 149).toNat) ?_
    rw [E1, Nat.mul_assoc (2 ^ 24), Nat.mul_assoc _ d, E2]
    generalize (2 : Nat) ^ (r + 149).toNat = M at E1 E2
    rcases (show j = 0 ∨ j = 1 ∨ j = 2 ∨ j = 3 ∨ j = 4 ∨ j = 5 ∨ j = 6 ∨ j = 7 ∨ j = 8 ∨ j = 9 by omega) with rfl | rfl | rfl | rfl | rfl | rfl | rfl | rfl | rfl | rfl <;> simp only [Nat.reduceSub, Nat.reduceAdd] at hj1 hj2 ⊢ <;> omega) hR
  have hv2 : FP.Core.val32 (FP.fdiv (FP.i2f x) (FP.i2f y)) = .fin s c2 q2 := hv.trans hR
  refine ⟨⟨_, _, _, hv2⟩, ?_⟩
  rw [fz_fin hv2, hm1]
  generalize FP.Core.zmag FP.Core.b32 (.fin s c2 q2) = Z at hn ⊢
  rw [show ((-149 : Int) - (-253)).toNat = 104 by decide, ← Nat.add_mul] at hn
  have k1 := Nat.mul_lt_mul_of_pos_right hn.1 hM
  have k2 := Nat.mul_lt_mul_of_pos_right hn.2 hM
  rw [E1, Nat.mul_assoc _ d, E2] at k1
  rw [Nat.add_mul, E1, Nat.mul_assoc _ d, Nat.mul_assoc _ d, E2] at k2
  have k3 : m * 2 ^ 149 < Z * a + 2 ^ 141 ∧ Z * a < m * 2 ^ 149 + 2 ^ 141 := by
    rw [← Nat.mul_assoc, Nat.add_mul, show Z * 2 ^ 104 * a = Z * a * 2 ^ 104 by ac_rfl] at k1
    rw [← Nat.mul_assoc, show Z * 2 ^ 104 * a = Z * a * 2 ^ 104 by ac_rfl] at k2
    generalize Z * a = y at k1 k2 ⊢
    clear hn E1 E2 hb1 hm hv hv2 hR hquo za zb
    rcases (show j = 0 ∨ j = 1 ∨ j = 2 ∨ j = 3 ∨ j = 4 ∨ j = 5 ∨ j = 6 ∨ j = 7 ∨ j = 8 ∨ j = 9 by omega) with rfl | rfl | rfl | rfl | rfl | rfl | rfl | rfl | rfl | rfl <;> simp only [Nat.reduceSub, Nat.reduceAdd] at k1 k2 hj1 hj2 ⊢ <;> omega
  cases s
  · simp [FP.Core.signed]
    rw [← Int.natCast_mul]
    omega
  · simp [FP.Core.signed]
    rw [Int.neg_mul, Int.neg_mul, ← Int.natCast_mul]
    omega
theorem fn_vf {a : UInt32} {v h : Int} (ha : FN a v h) : vf_n32 a := by
  have h1 := (FP.Core.fin_bits32 a).mp ha.1
  unfold vf_n32
  rw [UInt32.le_iff_toNat_le, FP.Core.mask_toNat32]
  exact Nat.le_of_lt h1
/-- what the law makes of a weight w of a cart that weighs a -/
theorem fn_law {w a : Int32} {wn an : Nat} (hw : w.toInt = wn) (hw2 : wn ≤ 22000) (ha : a.toInt = an) (ha1 : 1 ≤ an) (ha2 : an ≤ 1000) (hd : (w - a).toInt = (wn : Int) - an) :
    FN (FP.fmul (FP.fdiv (FP.i2f (w - a)) (FP.i2f a)) (FP.i2f a)) (((wn : Int) - an) * 2 ^ 149) (2 ^ 142) ∧ FN (FP.fsub (FP.fmul (FP.fdiv (FP.i2f (w - a)) (FP.i2f a)) (FP.i2f a)) (FP.i2f w)) (-(an * 2 ^ 149)) (2 ^ 143) ∧ FN (FP.fadd (FP.fsub (FP.fmul (FP.fdiv (FP.i2f (w - a)) (FP.i2f a)) (FP.i2f a)) (FP.i2f w)) (FP.i2f a)) 0 (2 ^ 144) := by
  obtain ⟨d1, d2, d3⟩ := fn_div (x := w - a) (y := a) (a := an) (by omega) (by omega) ha ha1 (by omega)
  obtain ⟨a1, a2⟩ := fn_int (x := a) (by omega) (by omega)
  obtain ⟨w1, w2⟩ := fn_int (x := w) (by omega) (by omega)
  rw [ha] at a2
  rw [hw] at w2
  rw [hd] at d2 d3
  generalize FP.fdiv (FP.i2f (w - a)) (FP.i2f a) = o at *
  have m0 := fn_mul (a := o) (b := FP.i2f a) (B := (an : Int)) rfl d1 a1 a2 (by omega) (by omega)
  have m1 : FN (FP.fmul o (FP.i2f a)) (((wn : Int) - an) * 2 ^ 149) (2 ^ 142) := by
    refine ⟨m0.1, ?_⟩
    have h1 := m0.2.1
    have h2 := m0.2.2
    generalize FZ o * (an : Int) = y at *
    omega
  have aa : FN (FP.i2f a) (an * 2 ^ 149) 1 := ⟨a1, by omega, by omega⟩
  have ww : FN (FP.i2f w) (wn * 2 ^ 149) 1 := ⟨w1, by omega, by omega⟩
  have s0 := fn_sub m1 ww (by omega) (by omega)
  have s1 : FN (FP.fsub (FP.fmul o (FP.i2f a)) (FP.i2f w)) (-(an * 2 ^ 149)) (2 ^ 143) := by
    refine ⟨s0.1, ?_⟩
    have h1 := s0.2.1
    have h2 := s0.2.2
    omega
  have t0 := fn_add s1 aa (by omega) (by omega)
  refine ⟨m1, s1, t0.1, ?_⟩
  have h1 := t0.2.1
  have h2 := t0.2.2
  omega
theorem fn_lt1 {y : UInt32} (h : FN y 0 (2 ^ 144)) : FP.fcmp y 0x3f800000 = some .lt := by
  obtain ⟨⟨s, c, q, e⟩, h1, h2⟩ := h
  have h3 : FP.fcmp y 0x3f800000 = some (compare (FP.Core.zval FP.Core.b32 (FP.Core.val32 y)) (FP.Core.zval FP.Core.b32 (FP.Core.val32 0x3f800000))) := FP.Core.fcmp_zval (by rw [e]; exact fun h => by cases h) (by rw [show FP.Core.val32 0x3f800000 = _ from FP.Core.val32_fconst1]; exact fun h => by cases h)
  rw [h3, show FP.Core.zval FP.Core.b32 (FP.Core.val32 0x3f800000) = 2 ^ 149 by decide +kernel]
  congr 1
  rw [FP.Core.compare_lt_iff]
  unfold FZ at h1
  omega
end
