/-! BETWEEN NUMBERS -/
theorem prun_suc {f : Nat → Int32} {n pos : Nat} {p : PSt} (h : pos < n) : prun f (n - pos) pos p = match pstep p (f pos) with
    | none => .inl pos
    | some p2 => prun f (n - (pos + 1)) (pos + 1) p2 := by
  rw [show n - pos = (n - (pos + 1)) + 1 by omega]
  rfl
theorem prun_end {f : Nat → Int32} {n : Nat} {x a d : Nat} {its : List (Nat × Nat)} (hw : 1 ≤ x ∧ x ≤ 200) : prun f (n - n) n (x, 0, a, d, its) = .inr (its ++ [(d, x)]) := by
  rw [Nat.sub_self]
  unfold prun
  have h : wholeP (x, 0, a, d, its) := by
    unfold wholeP
    simp only
    rw [if_neg (by decide)]
    exact hw
  rw [if_neg (by simp [h])]
theorem prun_in {f : Nat → Int32} {n pos : Nat} {x a d : Nat} {its : List (Nat × Nat)} (hw : 2 ≤ x ∧ x ≤ 40) (hp : pos ≤ n) (hn : pos < n → 48 ≤ f pos ∧ f pos ≤ 57 → 40 < x * 10 + dgt (f pos)) : prun f (n - pos) pos (x, 1, a, d, its) = if pos < n ∧ f pos = 42 then prun f (n - (pos + 1)) (pos + 1) (0, 0, a, x, its) else .inl pos := by
  have h : wholeP (x, 1, a, d, its) := by
    unfold wholeP
    simp only [if_true]
    exact hw
  rcases Nat.lt_or_ge pos n with q | q
  · rw [prun_suc q]
    have hl : limP (x, 1, a, d, its) = 40 := rfl
    by_cases g : 48 ≤ f pos ∧ f pos ≤ 57
    · have e : pstep (x, 1, a, d, its) (f pos) = none := by
        unfold pstep
        rw [hl, if_pos g, if_pos (Or.inr (hn q g))]
      rw [e, if_neg (fun k => by grind)]
    · by_cases c : f pos = 42
      · have e : pstep (x, 1, a, d, its) (f pos) = some (0, 0, a, x, its) := by
          unfold pstep
          rw [if_neg g, if_neg (fun k => k h), if_pos rfl, if_pos c]
        rw [e, if_pos ⟨q, c⟩]
      · have e : pstep (x, 1, a, d, its) (f pos) = none := by
          unfold pstep
          rw [if_neg g, if_neg (fun k => k h), if_pos rfl, if_neg c]
        rw [e, if_neg (fun k => c k.2)]
  · rw [if_neg (fun k => by omega), show n - pos = 0 by omega]
    unfold prun
    rw [if_pos (Or.inl rfl)]
theorem prun_out {f : Nat → Int32} {n pos : Nat} {x a d : Nat} {its : List (Nat × Nat)} (hw : 1 ≤ x ∧ x ≤ 200) (hp : pos < n) (hn : pos < n → 48 ≤ f pos ∧ f pos ≤ 57 → 200 < x * 10 + dgt (f pos)) : prun f (n - pos) pos (x, 0, a, d, its) = if f pos = 59 then prun f (n - (pos + 1)) (pos + 1) (0, 0, 1, 0, its ++ [(d, x)]) else if f pos = 43 ∧ a < 5 then prun f (n - (pos + 1)) (pos + 1) (0, 1, a + 1, d, its ++ [(d, x)]) else .inl pos := by
  have h : wholeP (x, 0, a, d, its) := by
    unfold wholeP
    simp only
    rw [if_neg (by decide)]
    exact hw
  rw [prun_suc hp]
  have hl : limP (x, 0, a, d, its) = 200 := rfl
  by_cases g : 48 ≤ f pos ∧ f pos ≤ 57
  · have e : pstep (x, 0, a, d, its) (f pos) = none := by
      unfold pstep
      rw [hl, if_pos g, if_pos (Or.inr (hn hp g))]
    rw [e, if_neg (fun k => by grind), if_neg (fun k => by grind)]
  · by_cases c : f pos = 59
    · have e : pstep (x, 0, a, d, its) (f pos) = some (0, 0, 1, 0, its ++ [(d, x)]) := by
        unfold pstep
        rw [if_neg g, if_neg (fun k => k h), if_neg (by simp only; decide), if_pos c]
      rw [e, if_pos c]
    · by_cases c2 : f pos = 43 ∧ a < 5
      · have e : pstep (x, 0, a, d, its) (f pos) = some (0, 1, a + 1, d, its ++ [(d, x)]) := by
          unfold pstep
          rw [if_neg g, if_neg (fun k => k h), if_neg (by simp only; decide), if_neg c, if_pos c2]
        rw [e, if_neg c, if_pos c2]
      · have e : pstep (x, 0, a, d, its) (f pos) = none := by
          unfold pstep
          rw [if_neg g, if_neg (fun k => k h), if_neg (by simp only; decide), if_neg c, if_neg c2]
        rw [e, if_neg c, if_neg c2]
/-- what was read, laid out cart by cart: m carts begun, a axles in the last; the last cart's count is said apart -/
def TT (g : Nat → Int32) : List (Nat × Nat) → Nat → Nat → Prop
  | [], _, _ => True
  | x :: t, m, a => if x.1 = 0 then (1 ≤ m → g (11 * (m - 1)) = nI a) ∧ g (11 * m + 2) = nI x.2 ∧ TT g t (m + 1) 1 else (g (11 * (m - 1) + 1 + 2 * a) = nI x.1 ∧ g (11 * (m - 1) + 2 + 2 * a) = nI x.2) ∧ TT g t m (a + 1)
theorem TT_app {g : Nat → Int32} {y : Nat × Nat} : ∀ (l : List (Nat × Nat)) (m a : Nat), TT g (l ++ [y]) m a ↔ TT g l m a ∧ TT g [y] (m + cntI l) (trI l a) := by
  intro l
  induction l with
  | nil =>
    intro m a
    simp [TT, cntI, trI]
  | cons x t ih =>
    intro m a
    have hc : cntI (x :: t) = cntI t + if x.1 = 0 then 1 else 0 := by
      unfold cntI
      rw [List.countP_cons]
      by_cases h : x.1 = 0 <;> simp [h]
    rw [hc]
    by_cases h : x.1 = 0
    · have e1 : TT g ((x :: t) ++ [y]) m a ↔ (1 ≤ m → g (11 * (m - 1)) = nI a) ∧ g (11 * m + 2) = nI x.2 ∧ TT g (t ++ [y]) (m + 1) 1 := by
        simp only [List.cons_append, TT, h, if_true]
      have e2 : TT g (x :: t) m a ↔ (1 ≤ m → g (11 * (m - 1)) = nI a) ∧ g (11 * m + 2) = nI x.2 ∧ TT g t (m + 1) 1 := by
        simp only [TT, h, if_true]
      have e3 : trI (x :: t) a = trI t 1 := by simp only [trI, h, if_true]
      rw [e1, e2, e3, ih, if_pos h, show m + 1 + cntI t = m + (cntI t + 1) by omega]
      constructor
      · rintro ⟨h1, h2, h3, h4⟩
        exact ⟨⟨h1, h2, h3⟩, h4⟩
      · rintro ⟨⟨h1, h2, h3⟩, h4⟩
        exact ⟨h1, h2, h3, h4⟩
    · have e1 : TT g ((x :: t) ++ [y]) m a ↔ (g (11 * (m - 1) + 1 + 2 * a) = nI x.1 ∧ g (11 * (m - 1) + 2 + 2 * a) = nI x.2) ∧ TT g (t ++ [y]) m (a + 1) := by
        simp only [List.cons_append, TT, h, if_false]
      have e2 : TT g (x :: t) m a ↔ (g (11 * (m - 1) + 1 + 2 * a) = nI x.1 ∧ g (11 * (m - 1) + 2 + 2 * a) = nI x.2) ∧ TT g t m (a + 1) := by
        simp only [TT, h, if_false]
      have e3 : trI (x :: t) a = trI t (a + 1) := by simp only [trI, h, if_false]
      rw [e1, e2, e3, ih, if_neg h, Nat.add_zero]
      constructor
      · rintro ⟨h1, h2, h3⟩
        exact ⟨⟨h1, h2⟩, h3⟩
      · rintro ⟨⟨h1, h2⟩, h3⟩
        exact ⟨h1, h2, h3⟩
