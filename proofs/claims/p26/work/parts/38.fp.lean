/-! floats: what a quotient of whole numbers may not be -/
theorem fp_fin32 (s : Bool) (c : Nat) (q : Int) (hc : c < 2 ^ 24) (hq : q ≤ 104) : FP.Core.encode FP.Core.b32 (.fin s c q) % 2 ^ 31 ≤ 2139095040 ∧ FP.Core.encode FP.Core.b32 (.fin s c q) < 2 ^ 32 := by
  have e : FP.Core.encode FP.Core.b32 (.fin s c q) = if c < 8388608 then (s.toNat * 256 + 0) * 8388608 + c else (s.toNat * 256 + ((q - (-149)).toNat + 1)) * 8388608 + (c - 8388608) := rfl
  rw [e]
  have hs : s.toNat = 0 ∨ s.toNat = 1 := by cases s <;> simp
  have hq2 : (q - (-149)).toNat ≤ 253 := by omega
  generalize (q - (-149)).toNat = g at hq2 ⊢
  split
  · rcases hs with h | h <;> rw [h] <;> omega
  · rcases hs with h | h <;> rw [h] <;> omega
theorem fp_inf32 (s : Bool) : FP.Core.encode FP.Core.b32 (.inf s) % 2 ^ 31 ≤ 2139095040 ∧ FP.Core.encode FP.Core.b32 (.inf s) < 2 ^ 32 := by
  cases s <;> decide +kernel
theorem fp_bound32 (s : Bool) (c : Nat) (q : Int) (hc : c < 2 ^ 24) : FP.Core.encode FP.Core.b32 (FP.Core.bound FP.Core.b32 s c q) % 2 ^ 31 ≤ 2139095040 ∧ FP.Core.encode FP.Core.b32 (FP.Core.bound FP.Core.b32 s c q) < 2 ^ 32 := by
  have e : FP.Core.bound FP.Core.b32 s c q = if q ≤ 104 then .fin s c q else .inf s := rfl
  rw [e]
  split
  · next h => exact fp_fin32 s c q hc h
  · exact fp_inf32 s
theorem fp_rr32 (s : Bool) (num den : Nat) (x : Int) : FP.Core.encode FP.Core.b32 (FP.Core.roundRatio FP.Core.b32 s num den x) % 2 ^ 31 ≤ 2139095040 ∧ FP.Core.encode FP.Core.b32 (FP.Core.roundRatio FP.Core.b32 s num den x) < 2 ^ 32 := by
  unfold FP.Core.roundRatio
  split
  · exact fp_fin32 s 0 _ (by decide) (by decide)
  · unfold FP.Core.roundAt FP.Core.settle
    split
    · next h => exact fp_bound32 s _ _ h
    · exact fp_bound32 s _ _ (by decide)
theorem fp_dec32 {n : Nat} (h : n % 2 ^ 31 ≤ 2139095040) : FP.Core.decode FP.Core.b32 n ≠ .nan := by
  intro e
  have e2 : FP.Core.decode FP.Core.b32 n = if n / 8388608 % 256 = 255 then (if n % 8388608 = 0 then .inf (FP.Core.fieldS FP.Core.b32 n) else .nan) else if n / 8388608 % 256 = 0 then .fin (FP.Core.fieldS FP.Core.b32 n) (n % 8388608) FP.Core.b32.qmin else .fin (FP.Core.fieldS FP.Core.b32 n) (FP.Core.b32.tails + n % 8388608) (FP.Core.b32.qmin + ((FP.Core.fieldE FP.Core.b32 n : Int) - 1)) := rfl
  rw [e2] at e
  split at e
  · split at e
    · cases e
    · omega
  · split at e <;> cases e
theorem fp_vf32 {n : Nat} (h : n % 2 ^ 31 ≤ 2139095040 ∧ n < 2 ^ 32) : vf_n32 (UInt32.ofNat n) := by
  unfold vf_n32
  rw [UInt32.le_iff_toNat_le, UInt32.toNat_and]
  have e1 : (0x7fffffff : UInt32).toNat = 2 ^ 31 - 1 := by decide
  have e2 : (0x7f800000 : UInt32).toNat = 2139095040 := by decide
  have e3 : (UInt32.ofNat n).toNat = n := by
    rw [UInt32.toNat_ofNat']
    exact Nat.mod_eq_of_lt h.2
  rw [e1, e2, e3, Nat.and_two_pow_sub_one_eq_mod]
  exact h.1
theorem fp_i2f (x : Int32) : ∃ n, FP.i2f x = UInt32.ofNat n ∧ n % 2 ^ 31 ≤ 2139095040 ∧ n < 2 ^ 32 := by
  refine ⟨FP.Core.fromInt FP.Core.b32 x.toInt, rfl, ?_⟩
  exact fp_rr32 _ _ _ _
def fpOk (b : Nat) : Bool := match FP.Core.decode FP.Core.b32 (FP.i2f (nI b)).toNat with
  | .fin _ d _ => d != 0
  | _ => false
theorem fp_div : ∀ b, b < 1001 → 1 ≤ b → fpOk b = true := by
  have h : (List.range 1001).all (fun b => b == 0 || fpOk b) = true := by decide +kernel
  intro b hb h1
  have := List.all_eq_true.mp h b (List.mem_range.mpr hb)
  rcases (Bool.or_eq_true _ _).mp this with q | q
  · have : b = 0 := by simpa using q
    omega
  · exact q
theorem fp_toNat {n : Nat} (h : n < 2 ^ 32) : (UInt32.ofNat n).toNat = n := by
  rw [UInt32.toNat_ofNat']
  exact Nat.mod_eq_of_lt h
theorem fp_quo {x : Int32} {b : Nat} (hb : 1 ≤ b) (hb2 : b ≤ 1000) : ∃ n, FP.fdiv (FP.i2f x) (FP.i2f (nI b)) = UInt32.ofNat n ∧ n % 2 ^ 31 ≤ 2139095040 ∧ n < 2 ^ 32 := by
  obtain ⟨n, e, h1, h2⟩ := fp_i2f x
  refine ⟨FP.Core.div FP.Core.b32 (FP.i2f x).toNat (FP.i2f (nI b)).toNat, rfl, ?_⟩
  have hd := fp_div b (by omega) hb
  unfold fpOk at hd
  rw [e, fp_toNat h2]
  have hn := fp_dec32 h1
  unfold FP.Core.div
  cases hx : FP.Core.decode FP.Core.b32 n with
  | nan => exact absurd hx hn
  | inf s =>
    cases hy : FP.Core.decode FP.Core.b32 (FP.i2f (nI b)).toNat with
    | nan => rw [hy] at hd; cases hd
    | inf t => rw [hy] at hd; cases hd
    | fin t d r => exact fp_inf32 _
  | fin s c q =>
    cases hy : FP.Core.decode FP.Core.b32 (FP.i2f (nI b)).toNat with
    | nan => rw [hy] at hd; cases hd
    | inf t => rw [hy] at hd; cases hd
    | fin t d r =>
      rw [hy] at hd
      have hd0 : d ≠ 0 := by simpa using hd
      have hq : FP.Core.quotient FP.Core.b32 (.fin s c q) (.fin t d r) = FP.Core.roundRatio FP.Core.b32 (s != t) c d (q - r) := by
        show (if d = 0 then (if c = 0 then FP.Core.Datum.nan else .inf (s != t)) else FP.Core.roundRatio FP.Core.b32 (s != t) c d (q - r)) = _
        rw [if_neg hd0]
      rw [hq]
      exact fp_rr32 _ _ _ _
theorem fp_vdiv {x : Int32} {b : Nat} (hb : 1 ≤ b) (hb2 : b ≤ 1000) : vf_n32 (FP.fdiv (FP.i2f x) (FP.i2f (nI b))) := by
  obtain ⟨n, e, h⟩ := fp_quo (x := x) hb hb2
  rw [e]
  exact fp_vf32 h
theorem fp_fin64 (s : Bool) (c : Nat) (q : Int) (hc : c < 2 ^ 53) (hq : q ≤ 971) : FP.Core.encode FP.Core.b64 (.fin s c q) % 2 ^ 63 ≤ 9218868437227405312 ∧ FP.Core.encode FP.Core.b64 (.fin s c q) < 2 ^ 64 := by
  have e : FP.Core.encode FP.Core.b64 (.fin s c q) = if c < 4503599627370496 then (s.toNat * 2048 + 0) * 4503599627370496 + c else (s.toNat * 2048 + ((q - (-1074)).toNat + 1)) * 4503599627370496 + (c - 4503599627370496) := rfl
  rw [e]
  have hs : s.toNat = 0 ∨ s.toNat = 1 := by cases s <;> simp
  have hq2 : (q - (-1074)).toNat ≤ 2045 := by omega
  generalize (q - (-1074)).toNat = g at hq2 ⊢
  split
  · rcases hs with h | h <;> rw [h] <;> omega
  · rcases hs with h | h <;> rw [h] <;> omega
theorem fp_inf64 (s : Bool) : FP.Core.encode FP.Core.b64 (.inf s) % 2 ^ 63 ≤ 9218868437227405312 ∧ FP.Core.encode FP.Core.b64 (.inf s) < 2 ^ 64 := by
  cases s <;> decide +kernel
theorem fp_bound64 (s : Bool) (c : Nat) (q : Int) (hc : c < 2 ^ 53) : FP.Core.encode FP.Core.b64 (FP.Core.bound FP.Core.b64 s c q) % 2 ^ 63 ≤ 9218868437227405312 ∧ FP.Core.encode FP.Core.b64 (FP.Core.bound FP.Core.b64 s c q) < 2 ^ 64 := by
  have e : FP.Core.bound FP.Core.b64 s c q = if q ≤ 971 then .fin s c q else .inf s := rfl
  rw [e]
  split
  · next h => exact fp_fin64 s c q hc h
  · exact fp_inf64 s
theorem fp_rr64 (s : Bool) (num den : Nat) (x : Int) : FP.Core.encode FP.Core.b64 (FP.Core.roundRatio FP.Core.b64 s num den x) % 2 ^ 63 ≤ 9218868437227405312 ∧ FP.Core.encode FP.Core.b64 (FP.Core.roundRatio FP.Core.b64 s num den x) < 2 ^ 64 := by
  unfold FP.Core.roundRatio
  split
  · exact fp_fin64 s 0 _ (by decide) (by decide)
  · unfold FP.Core.roundAt FP.Core.settle
    split
    · next h => exact fp_bound64 s _ _ h
    · exact fp_bound64 s _ _ (by decide)
theorem fp_vf64 {n : Nat} (h : n % 2 ^ 63 ≤ 9218868437227405312 ∧ n < 2 ^ 64) : vf_n64 (UInt64.ofNat n) := by
  unfold vf_n64
  rw [UInt64.le_iff_toNat_le, UInt64.toNat_and]
  have e1 : (0x7fffffffffffffff : UInt64).toNat = 2 ^ 63 - 1 := by decide
  have e2 : (0x7ff0000000000000 : UInt64).toNat = 9218868437227405312 := by decide
  have e3 : (UInt64.ofNat n).toNat = n := by
    rw [UInt64.toNat_ofNat']
    exact Nat.mod_eq_of_lt h.2
  rw [e1, e2, e3, Nat.and_two_pow_sub_one_eq_mod]
  exact h.1
theorem fp_f2d {n : Nat} (h : n % 2 ^ 31 ≤ 2139095040 ∧ n < 2 ^ 32) : vf_n64 (FP.f2d (UInt32.ofNat n)) := by
  have hn := fp_dec32 h.1
  have e : FP.Core.fIsNaN (UInt32.ofNat n) = false := by
    show decide (FP.Core.decode FP.Core.b32 (UInt32.ofNat n).toNat = .nan) = false
    rw [fp_toNat h.2]
    exact decide_eq_false hn
  unfold FP.f2d
  rw [e, if_neg (by decide)]
  have e2 : FP.Core.f2d (UInt32.ofNat n) = UInt64.ofNat (FP.Core.encode FP.Core.b64 (FP.Core.round FP.Core.b64 (FP.Core.decode FP.Core.b32 (UInt32.ofNat n).toNat))) := rfl
  rw [e2, fp_toNat h.2]
  refine fp_vf64 ?_
  cases hx : FP.Core.decode FP.Core.b32 n with
  | nan => exact absurd hx hn
  | inf s => exact fp_inf64 s
  | fin s c q => exact fp_rr64 _ _ _ _
/-- a float that is a number, and so is its double -/
def FOk (r : UInt32) : Prop := ∃ n, r = UInt32.ofNat n ∧ n % 2 ^ 31 ≤ 2139095040 ∧ n < 2 ^ 32
theorem FOk.d {r : UInt32} (h : FOk r) : vf_n64 (FP.f2d r) := by
  obtain ⟨n, rfl, h⟩ := h
  exact fp_f2d h
theorem fok_2 : FOk 0x40000000 := ⟨0x40000000, by decide, by decide, by decide⟩

