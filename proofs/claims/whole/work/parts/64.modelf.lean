theorem cnt_cons {x : Nat × Nat} {t : List (Nat × Nat)} : cntI (x :: t) = cntI t + if x.1 = 0 then 1 else 0 := by
  unfold cntI
  rw [List.countP_cons]
  by_cases h : x.1 = 0 <;> simp [h]
theorem trI_ge : ∀ (t : List (Nat × Nat)) (a : Nat), cntI t = 0 → a ≤ trI t a := by
  intro t
  induction t with
  | nil => intro a _; exact Nat.le_refl _
  | cons x t ih =>
    intro a h
    rw [cnt_cons] at h
    by_cases e : x.1 = 0
    · rw [if_pos e] at h
      omega
    · have g := ih (a + 1) (by omega)
      simp only [trI, e, if_false]
      omega
theorem TT_congr {g g2 : Nat → Int32} : ∀ (l : List (Nat × Nat)) (m a : Nat), wfI l a → (1 ≤ a → 1 ≤ m) → (∀ i, (i < 11 * (m + cntI l - 1) ∨ (11 * (m + cntI l - 1) < i ∧ i < 11 * (m + cntI l - 1) + 1 + 2 * trI l a)) → g2 i = g i) → TT g l m a → TT g2 l m a := by
  intro l
  induction l with
  | nil => intro m a _ _ _ _; exact trivial
  | cons x t ih =>
    intro m a hw hm h hT
    rw [cnt_cons] at h
    by_cases e : x.1 = 0
    · simp only [wfI, e, if_true] at hw
      simp only [TT, e, if_true] at hT ⊢
      simp only [trI, e, if_true] at h
      rw [show m + (cntI t + 1) - 1 = m + 1 + cntI t - 1 by omega] at h
      refine ⟨fun q => ?_, ?_, ih (m + 1) 1 hw.2 (fun _ => by omega) h hT.2.2⟩
      · rw [h _ (by omega)]
        exact hT.1 q
      · by_cases c : cntI t = 0
        · have g3 := trI_ge t 1 c
          rw [h _ (by omega)]
          exact hT.2.1
        · rw [h _ (by omega)]
          exact hT.2.1
    · simp only [wfI, e, if_false] at hw
      simp only [TT, e, if_false] at hT ⊢
      simp only [trI, e, if_false, Nat.add_zero] at h
      have ha := hw.2.2.1
      have hm1 := hm ha.1
      refine ⟨⟨?_, ?_⟩, ih m (a + 1) hw.2.2.2 (fun _ => hm1) h hT.2⟩
      · by_cases c : cntI t = 0
        · have g3 := trI_ge t (a + 1) c
          rw [h _ (by omega)]
          exact hT.1.1
        · rw [h _ (by omega)]
          exact hT.1.1
      · by_cases c : cntI t = 0
        · have g3 := trI_ge t (a + 1) c
          rw [h _ (by omega)]
          exact hT.1.2
        · rw [h _ (by omega)]
          exact hT.1.2
theorem wf_nil {l : List (Nat × Nat)} (h : wfI l 0) (hc : cntI l = 0) : l = [] := by
  cases l with
  | nil => rfl
  | cons x t =>
    exfalso
    rw [cnt_cons] at hc
    by_cases e : x.1 = 0
    · rw [if_pos e] at hc
      omega
    · simp only [wfI, e, if_false] at h
      omega
/-- the rows of what was told: the list l with m carts, the last of a axles -/
def TL (g : Nat → Int32) (l : List (Nat × Nat)) : Prop := TT g l 0 0 ∧ wfI l 0 ∧ (1 ≤ cntI l → g (11 * (cntI l - 1)) = nI (trI l 0))
/-- a cart begins -/
theorem TL_cart {g g2 : Nat → Int32} {l : List (Nat × Nat)} {x : Nat} (h : TL g l) (hx : 1 ≤ x ∧ x ≤ 200) (h1 : g2 (11 * cntI l) = 1) (h2 : g2 (11 * cntI l + 2) = nI x) (h3 : ∀ i, i < 11 * cntI l → g2 i = g i) (ht : trI l 0 ≤ 5) : TL g2 (l ++ [(0, x)]) ∧ cntI (l ++ [(0, x)]) = cntI l + 1 ∧ trI (l ++ [(0, x)]) 0 = 1 := by
  have hc : cntI (l ++ [(0, x)]) = cntI l + 1 := by rw [cntI_app, if_pos rfl]
  have htr : trI (l ++ [(0, x)]) 0 = 1 := by rw [trI_app, if_pos rfl]
  refine ⟨⟨?_, ?_, fun _ => ?_⟩, hc, htr⟩
  · rw [TT_app]
    refine ⟨TT_congr l 0 0 h.2.1 (fun q => absurd q (by decide)) (fun i hi => h3 i (by
      by_cases c : cntI l = 0
      · have hl := wf_nil h.2.1 c
        have ht0 : trI l 0 = 0 := by rw [hl]; rfl
        rw [c, ht0] at hi
        omega
      · omega)) h.1, ?_⟩
    simp only [TT, Nat.zero_add, if_true, and_true]
    refine ⟨fun q => ?_, h2⟩
    rw [h3 _ (by omega)]
    exact h.2.2 q
  · rw [wfI_app]
    exact ⟨h.2.1, hx, Or.inl rfl⟩
  · rw [hc, htr, Nat.add_sub_cancel]
    exact h1
/-- an axle more -/
theorem TL_axle {g g2 : Nat → Int32} {l : List (Nat × Nat)} {d x : Nat} (h : TL g l) (hx : 1 ≤ x ∧ x ≤ 200) (hd : 2 ≤ d ∧ d ≤ 40) (hc : 1 ≤ cntI l) (ht : 1 ≤ trI l 0 ∧ trI l 0 < 5) (h1 : g2 (11 * (cntI l - 1)) = nI (trI l 0 + 1)) (h2 : g2 (11 * (cntI l - 1) + 1 + 2 * trI l 0) = nI d) (h3 : g2 (11 * (cntI l - 1) + 2 + 2 * trI l 0) = nI x) (h4 : ∀ i, i ≠ 11 * (cntI l - 1) → i < 11 * (cntI l - 1) + 1 + 2 * trI l 0 → g2 i = g i) : TL g2 (l ++ [(d, x)]) ∧ cntI (l ++ [(d, x)]) = cntI l ∧ trI (l ++ [(d, x)]) 0 = trI l 0 + 1 := by
  have hd0 : ¬ d = 0 := by omega
  have hc2 : cntI (l ++ [(d, x)]) = cntI l := by rw [cntI_app, if_neg hd0, Nat.add_zero]
  have htr : trI (l ++ [(d, x)]) 0 = trI l 0 + 1 := by rw [trI_app, if_neg hd0]
  refine ⟨⟨?_, ?_, fun _ => ?_⟩, hc2, htr⟩
  · rw [TT_app]
    refine ⟨TT_congr l 0 0 h.2.1 (fun q => absurd q (by decide)) (fun i hi => h4 i (by omega) (by omega)) h.1, ?_⟩
    simp only [TT, Nat.zero_add, hd0, if_false, and_true]
    exact ⟨h2, h3⟩
  · rw [wfI_app]
    exact ⟨h.2.1, hx, Or.inr ⟨hd, ht⟩⟩
  · rw [hc2, htr]
    exact h1
