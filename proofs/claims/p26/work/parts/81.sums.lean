/-! sums of naturals; who bears what -/
def sumN (g : Nat → Nat) : Nat → Nat
  | 0 => 0
  | k + 1 => sumN g k + g k
theorem sumN_congr {f g : Nat → Nat} : ∀ n, (∀ k, k < n → f k = g k) → sumN f n = sumN g n := by
  intro n
  induction n with
  | zero => intro _; rfl
  | succ n ih => intro h; rw [sumN, sumN, ih (fun k hk => h k (by omega)), h n (by omega)]
theorem sumF_N {f : Nat → Int32} {g : Nat → Nat} : ∀ n, (∀ k, k < n → f k = nI (g k)) → sumF f n = nI (sumN g n) := by
  intro n
  induction n with
  | zero => intro _; rfl
  | succ n ih => intro h; rw [sumF, sumN, ih (fun k hk => h k (by omega)), h n (by omega), nI_add]
theorem sumN_add (f g : Nat → Nat) : ∀ n, sumN (fun k => f k + g k) n = sumN f n + sumN g n := by
  intro n
  induction n with
  | zero => rfl
  | succ n ih => rw [sumN, sumN, sumN, ih]; omega
theorem sumN_zero : ∀ n, sumN (fun _ => 0) n = 0 := by
  intro n
  induction n with
  | zero => rfl
  | succ n ih => rw [sumN, ih]
theorem sumN_comm (F : Nat → Nat → Nat) (n : Nat) : ∀ m, sumN (fun a => sumN (fun k => F a k) n) m = sumN (fun k => sumN (fun a => F a k) m) n := by
  intro m
  induction m with
  | zero => exact (sumN_zero n).symm
  | succ m ih => rw [sumN, ih, ← sumN_add]; rfl
theorem sumN_delta (v b : Nat) : ∀ m, sumN (fun a => if b = a then v else 0) m = if b < m then v else 0 := by
  intro m
  induction m with
  | zero => rfl
  | succ m ih =>
    rw [sumN, ih]
    by_cases h : b = m
    · subst h
      rw [if_neg (by omega), if_pos rfl, if_pos (by omega), Nat.zero_add]
    · rw [if_neg h]
      by_cases h2 : b < m
      · rw [if_pos h2, if_pos (by omega), Nat.add_zero]
      · rw [if_neg h2, if_neg (by omega)]
theorem sumN_ge {g : Nat → Nat} : ∀ n k, k < n → g k ≤ sumN g n := by
  intro n
  induction n with
  | zero => intro k h; omega
  | succ n ih =>
    intro k h
    rw [sumN]
    by_cases e : k = n
    · subst e
      omega
    · have := ih k (by omega)
      omega
theorem sumN_le {f g : Nat → Nat} : ∀ n, (∀ k, k < n → f k ≤ g k) → sumN f n ≤ sumN g n := by
  intro n
  induction n with
  | zero => intro _; exact Nat.le_refl _
  | succ n ih =>
    intro h
    have h1 := ih (fun k hk => h k (by omega))
    have h2 := h n (by omega)
    rw [sumN, sumN]
    omega
theorem sumN_mul {g : Nat → Nat} {b : Nat} : ∀ n, (∀ k, k < n → g k ≤ b) → sumN g n ≤ n * b := by
  intro n
  induction n with
  | zero => intro _; simp [sumN]
  | succ n ih =>
    intro h
    have h1 := ih (fun k hk => h k (by omega))
    have h2 := h n (by omega)
    rw [sumN, Nat.succ_mul]
    omega
theorem upF_down (lf : Nat → Int32) : ∀ f k, upF lf f k < k + f → lf (upF lf f k) = 0 := by
  intro f
  induction f with
  | zero => intro k h; unfold upF at h; omega
  | succ f ih =>
    intro k h
    unfold upF at h ⊢
    by_cases e : lf k = 0
    · rw [if_pos e]
      exact e
    · rw [if_neg e] at h ⊢
      exact ih (k + 1) (by omega)
theorem upF_none (lf : Nat → Int32) : ∀ f k, ¬ upF lf f k < k + f → ∀ j, k ≤ j → j < k + f → lf j ≠ 0 := by
  intro f
  induction f with
  | zero => intro k _ j h1 h2; omega
  | succ f ih =>
    intro k h j h1 h2
    unfold upF at h
    by_cases e : lf k = 0
    · rw [if_pos e] at h
      omega
    · rw [if_neg e] at h
      by_cases e2 : j = k
      · subst e2
        exact e
      · exact ih (k + 1) (by omega) j (by omega) (by omega)
theorem dnF_some (lf : Nat → Int32) : ∀ k, (∃ j, j < k ∧ lf j = 0) → ∃ b, b < k ∧ lf b = 0 ∧ dnF lf k = nI b := by
  intro k
  induction k with
  | zero => rintro ⟨j, h, -⟩; omega
  | succ k ih =>
    rintro ⟨j, h, hj⟩
    unfold dnF
    by_cases e : lf k = 0
    · rw [if_pos e]
      exact ⟨k, by omega, e, rfl⟩
    · rw [if_neg e]
      have hjk : j ≠ k := fun q => e (q ▸ hj)
      obtain ⟨b, h1, h2, h3⟩ := ih ⟨j, by omega, hj⟩
      exact ⟨b, by omega, h2, h3⟩
theorem bearer_ok {lf : Nat → Int32} {N k : Nat} (hk : k < N) (hd : ∃ a, a < N ∧ lf a = 0) : ∃ b, b < N ∧ lf b = 0 ∧ bearerF lf N k = nI b ∧ (lf k = 0 → b = k) := by
  unfold bearerF
  by_cases h : upF lf (N - k) k < N
  · rw [if_pos h]
    refine ⟨_, h, upF_down lf _ _ (by omega), rfl, fun e => ?_⟩
    rw [show N - k = (N - k - 1) + 1 by omega]
    unfold upF
    rw [if_pos e]
  · rw [if_neg h]
    have hn := upF_none lf (N - k) k (by omega)
    obtain ⟨a, ha, hl⟩ := hd
    have hak : a < k := by
      rcases Nat.lt_or_ge a k with q | q
      · exact q
      · exact absurd hl (hn a q (by omega))
    obtain ⟨b, h1, h2, h3⟩ := dnF_some lf k ⟨a, hak, hl⟩
    exact ⟨b, by omega, h2, h3, fun e => absurd e (hn k (Nat.le_refl _) (by omega))⟩
/-! a cart in naturals -/
def kgN (q : Nat → Int32) (a : Nat) : Nat := cK (wQ q a)
def brrN (q : Nat → Int32) (N k : Nat) : Nat := cK (bearerF (lQ q) N k)
def bnN (q : Nat → Int32) (N a : Nat) : Nat := sumN (fun k => if brrN q N k = a then kgN q k else 0) N
def alN (q : Nat → Int32) (N : Nat) : Nat := sumN (kgN q) N
theorem kg_ok {q : Nat → Int32} {N a : Nat} (hq : CartOk q N) (ha : a < N) : wQ q a = nI (kgN q a) ∧ 1 ≤ kgN q a ∧ kgN q a ≤ 200 := by
  have h := hq.2.2.2.1 a ha
  obtain ⟨j, hj, e⟩ := nI_le_of (x := wQ q a) (b := 200) (by have := h.1; grind) (by decide) h.2.1
  have e2 : kgN q a = j := by
    unfold kgN
    rw [e]
    exact cK_nI (by omega)
  rw [e2]
  refine ⟨e, ?_, hj⟩
  rcases Nat.eq_zero_or_pos j with q0 | q0
  · subst q0
    have h1 := h.1
    rw [e] at h1
    exact absurd h1 (by decide)
  · exact q0
theorem brr_ok {q : Nat → Int32} {N k : Nat} (hq : CartOk q N) (hk : k < N) : brrN q N k < N ∧ lQ q (brrN q N k) = 0 ∧ bearerF (lQ q) N k = nI (brrN q N k) ∧ (lQ q k = 0 → brrN q N k = k) := by
  obtain ⟨b, h1, h2, h3, h4⟩ := bearer_ok hk hq.2.2.2.2
  have h5 := hq.2.2.1
  have e : brrN q N k = b := by
    unfold brrN
    rw [h3]
    exact cK_nI (by omega)
  rw [e]
  exact ⟨h1, h2, h3, h4⟩
theorem bn_ok {q : Nat → Int32} {N a : Nat} (hq : CartOk q N) (ha : a < N) : borneF (wQ q) (lQ q) N (nI a) = nI (bnN q N a) := by
  unfold borneF bnN
  refine sumF_N _ (fun k hk => ?_)
  obtain ⟨h1, -, h3, -⟩ := brr_ok hq hk
  have h5 := hq.2.2.1
  rw [h3, (kg_ok hq hk).1]
  by_cases e : brrN q N k = a
  · rw [if_pos (by rw [e]), if_pos e]
  · rw [if_neg (fun h => e ((nI_eq (by omega) (by omega)).mp h)), if_neg e]
    rfl
theorem bn_sum {q : Nat → Int32} {N : Nat} (hq : CartOk q N) : sumN (bnN q N) N = alN q N := by
  unfold bnN alN
  rw [sumN_comm (fun a k => if brrN q N k = a then kgN q k else 0)]
  refine sumN_congr _ (fun k hk => ?_)
  rw [sumN_delta, if_pos (brr_ok hq hk).1]
theorem bn_up {q : Nat → Int32} {N a : Nat} (hq : CartOk q N) (hl : lQ q a ≠ 0) : bnN q N a = 0 := by
  unfold bnN
  refine Eq.trans (sumN_congr (g := fun _ => 0) _ (fun k hk => if_neg (fun e => hl ?_))) (sumN_zero N)
  rw [← e]
  exact (brr_ok hq hk).2.1
theorem bn_down {q : Nat → Int32} {N a : Nat} (hq : CartOk q N) (ha : a < N) (hl : lQ q a = 0) : kgN q a ≤ bnN q N a := by
  unfold bnN
  have h := sumN_ge (g := fun k => if brrN q N k = a then kgN q k else 0) N a ha
  simp only [(brr_ok hq ha).2.2.2 hl, if_true] at h
  exact h
theorem al_ok {q : Nat → Int32} {N : Nat} (hq : CartOk q N) : sumF (wQ q) N = nI (alN q N) ∧ 1 ≤ alN q N ∧ alN q N ≤ 1000 := by
  refine ⟨sumF_N _ (fun k hk => (kg_ok hq hk).1), ?_, ?_⟩
  · have h0 : 0 < N := hq.2.1
    exact Nat.le_trans (kg_ok hq h0).2.1 (sumN_ge N 0 h0)
  · exact Nat.le_trans (sumN_mul N (fun k hk => (kg_ok hq hk).2.2)) (by have := hq.2.2.1; omega)
theorem bn_le {q : Nat → Int32} {N a : Nat} (hq : CartOk q N) (ha : a < N) : bnN q N a ≤ 1000 := by
  have h1 := sumN_ge (g := bnN q N) N a ha
  rw [bn_sum hq] at h1
  exact Nat.le_trans h1 (al_ok hq).2.2
/-! those that are down -/
def dwN (q : Nat → Int32) : Nat → Nat := sumN (fun k => if lQ q k = 0 then 1 else 0)
theorem dw_ok (q : Nat → Int32) (n : Nat) : downF (lQ q) n = nI (dwN q n) := by
  unfold downF dwN
  refine sumF_N n (fun k _ => ?_)
  by_cases e : lQ q k = 0
  · rw [if_pos e, if_pos e]
    rfl
  · rw [if_neg e, if_neg e]
    rfl
theorem dw_le (q : Nat → Int32) (n : Nat) : dwN q n ≤ n := by
  have := sumN_mul (g := fun k => if lQ q k = 0 then 1 else 0) (b := 1) n (fun k _ => by split <;> omega)
  unfold dwN
  omega
theorem dw_pos {q : Nat → Int32} {N : Nat} (hq : CartOk q N) : 1 ≤ dwN q N := by
  obtain ⟨a, ha, hl⟩ := hq.2.2.2.2
  have h := sumN_ge (g := fun k => if lQ q k = 0 then 1 else 0) N a ha
  simp only [hl, if_true] at h
  exact h
