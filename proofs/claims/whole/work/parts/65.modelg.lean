theorem TX_w {S : ST} {f : Nat → Int32} {n pos k i : Nat} {v : Int32} (h : TX S f n pos) (h1 : ¬ k = 181) (h2 : ¬ k = 185) : TX (stw S k i v) f n pos :=
  ⟨by rw [stw_n (Ne.symm h1)]; exact h.1, h.2.1, by rw [stw_n (Ne.symm h1)]; exact h.2.2.1, h.2.2.2.1, fun j hj => by rw [stw_n (Ne.symm h2)]; exact h.2.2.2.2 j hj⟩
def RdF (S S1 : ST) : Prop := (∀ k, k ≠ 181 → k ≠ 193 → S1 k = S k) ∧ ∀ j, j ≠ 20 → S1 181 j = S 181 j
theorem RdF_id {S : ST} : RdF S S := ⟨fun _ _ _ => rfl, fun _ _ => rfl⟩
theorem RdF_p {S S1 : ST} {v : Int32} (h : RdF S S1) : RdF S (stw S1 181 20 v) := ⟨fun k a b => by rw [stw_n a]; exact h.1 k a b, fun j hj => by rw [stw_app, if_neg (fun q => hj q.2)]; exact h.2 j hj⟩
theorem RdF_t {S S1 : ST} {i : Nat} {v : Int32} (h : RdF S S1) : RdF S (stw S1 193 i v) := ⟨fun k a b => by rw [stw_n b]; exact h.1 k a b, fun j hj => by rw [stw_n (by decide)]; exact h.2 j hj⟩
/-- a cart is being read: y whether it is good so far, from pos on, at p now -/
def RdI (S1 : ST) (f : Nat → Int32) (n pos m : Nat) (its : List (Nat × Nat)) (p : Nat) (y : Int32) : Prop :=
  (y = 0 ∧ prun f (n - pos) pos (0, 0, 1, 0, its) = .inl p) ∨ (y = 1 ∧ ∃ x d its2, TL (S1 193) (its2 ++ [(d, x)]) ∧ cntI (its2 ++ [(d, x)]) = m + 1 ∧ (1 ≤ x ∧ x ≤ 200) ∧ pos + 1 ≤ p ∧ (p < n → 48 ≤ f p ∧ f p ≤ 57 → 200 < x * 10 + dgt (f p)) ∧ (1 ≤ trI (its2 ++ [(d, x)]) 0 ∧ trI (its2 ++ [(d, x)]) 0 ≤ 5) ∧ prun f (n - pos) pos (0, 0, 1, 0, its) = prun f (n - p) p (x, 0, trI (its2 ++ [(d, x)]) 0, d, its2))
/-- it was read to its end -/
def RdE (S1 : ST) (f : Nat → Int32) (n pos m : Nat) (its : List (Nat × Nat)) (p : Nat) (y : Int32) : Prop :=
  (y = 0 ∧ prun f (n - pos) pos (0, 0, 1, 0, its) = .inl p) ∨ (y = 1 ∧ ∃ L, TL (S1 193) L ∧ cntI L = m + 1 ∧ trI L 0 ≤ 5 ∧ pos + 1 ≤ p ∧ ((p = n ∧ prun f (n - pos) pos (0, 0, 1, 0, its) = .inr L) ∨ (p < n ∧ prun f (n - pos) pos (0, 0, 1, 0, its) = if f p = 59 then prun f (n - (p + 1)) (p + 1) (0, 0, 1, 0, L) else .inl p)))
theorem RdI.stop {S1 : ST} {f : Nat → Int32} {n pos m : Nat} {its : List (Nat × Nat)} {p : Nat} {y : Int32} (h : RdI S1 f n pos m its p y) (hp : p ≤ n) (hs : ∀ x d its2, cntI (its2 ++ [(d, x)]) = m + 1 → TL (S1 193) (its2 ++ [(d, x)]) → y = 1 → ¬ (p < n ∧ f p = 43 ∧ trI (its2 ++ [(d, x)]) 0 < 5)) : RdE S1 f n pos m its p y := by
  rcases h with h | ⟨hy, x, d, its2, h1, h2, h3, h4, h5, h6, h7⟩
  · exact Or.inl h
  · refine Or.inr ⟨hy, its2 ++ [(d, x)], h1, h2, h6.2, h4, ?_⟩
    have hs2 := hs x d its2 h2 h1 hy
    rcases Nat.lt_or_ge p n with q | q
    · refine Or.inr ⟨q, ?_⟩
      rw [h7, prun_out h3 q h5]
      by_cases c : f p = 59
      · rw [if_pos c, if_pos c]
      · rw [if_neg c, if_neg c, if_neg (fun k => hs2 ⟨q, k⟩)]
    · have e : p = n := by omega
      refine Or.inl ⟨e, ?_⟩
      rw [h7, e, prun_end h3]
