/-! what is told is never less than nothing -/
theorem ab_nI {a b c : Nat} (ha : a ≤ c) (hb : b ≤ c) (hc : c < 2 ^ 29) : ∃ d, d ≤ c ∧ abF (nI a - nI b) = nI d := by
  unfold abF
  rcases Nat.lt_or_ge a b with q | q
  · refine ⟨b - a, by omega, ?_⟩
    have hs := pk_sneg (a := a) (b := b) (by omega) q
    rw [if_neg (by grind), ← pk_sub (a := b) (b := a) (by omega)]
    grind
  · refine ⟨a - b, by omega, ?_⟩
    rw [pk_sub q, if_pos (nI_pos' (by omega))]
theorem brQ_nI {q : Nat → Int32} {N : Nat} (hq : CartOk q N) (a : Nat) : ∃ j, j ≤ 1000 ∧ brQ q a = nI j := by
  have hN := nQ_eq hq
  have h5 := hq.2.2.1
  unfold brQ borneF
  rw [hN]
  obtain ⟨j, hj, e⟩ := sumF_nI (f := fun k => if bearerF (lQ q) N k = nI a then wQ q k else 0) (b := 200) N (fun k hk => by
    show ∃ j, j ≤ 200 ∧ (if bearerF (lQ q) N k = nI a then wQ q k else 0) = nI j
    split
    · have g := hq.2.2.2.1 k hk
      exact nI_le_of (by grind) (by decide) g.2.1
    · exact ⟨0, by omega, rfl⟩)
  exact ⟨j, Nat.le_trans hj (Nat.mul_le_mul_right 200 h5), e⟩
theorem ldQ_nI {se q : Nat → Int32} {s : Int32} {N : Nat} (hq : CartOk q N) (t : Nat) : ∃ j, j ≤ 5000 ∧ ldQ se q s t = nI j := by
  have hN := nQ_eq hq
  have h5 := hq.2.2.1
  unfold ldQ ldR ldF
  rw [hN]
  obtain ⟨j, hj, e⟩ := sumF_nI (f := fun a => if 0 ≤ s * nI t - bhQ q a ∧ s * nI t - bhQ q a < se 0 then brQ q a else 0) (b := 1000) N (fun k hk => by
    show ∃ j, j ≤ 1000 ∧ (if 0 ≤ s * nI t - bhQ q k ∧ s * nI t - bhQ q k < se 0 then brQ q k else 0) = nI j
    split
    · exact brQ_nI hq k
    · exact ⟨0, by omega, rfl⟩)
  exact ⟨j, Nat.le_trans hj (Nat.mul_le_mul_right 1000 h5), e⟩
theorem sw_step {b d p r : Nat} (hb : b ≤ 100000) (hd : d ≤ 5000) (hp : p ≤ 95) (hr : r ≤ 100) : ∃ j, j ≤ 100000 ∧ nI b * nI p / 100 + nI d * nI r / 100 = nI j := by
  have h1 : b * p ≤ 100000 * 95 := Nat.mul_le_mul hb hp
  have h2 : d * r ≤ 5000 * 100 := Nat.mul_le_mul hd hr
  refine ⟨b * p / 100 + d * r / 100, ?_, ?_⟩
  · omega
  · rw [pk_mul, pk_mul, show (100 : Int32) = nI 100 from rfl, pk_div (by omega) (by decide) (by decide), pk_div (by omega) (by decide) (by decide), nI_add]
theorem swQ_nI {se q : Nat → Int32} {s : Int32} {N : Nat} (hq : CartOk q N) (hse : SetOk se) : ∀ t, ∃ j, j ≤ 100000 ∧ swQ se q s t = nI j := by
  obtain ⟨p, hp, ep⟩ := nI_le_of (x := se 2) (b := 95) (by have := (hse 2 (by decide)).1; exact this) (by decide) (hse 2 (by decide)).2
  obtain ⟨r, hr, er⟩ := nI_le_of (x := se 1) (b := 100) (by have := (hse 1 (by decide)).1; exact this) (by decide) (hse 1 (by decide)).2
  intro t
  induction t with
  | zero =>
    obtain ⟨a, ha, ea⟩ := ldQ_nI (se := se) (s := s) hq 0
    obtain ⟨d, hd, ed⟩ := ab_nI (a := a) (b := 0) (c := 5000) ha (by omega) (by decide)
    obtain ⟨j, hj, ej⟩ := sw_step (b := 0) (d := d) (by omega) hd hp hr
    refine ⟨j, hj, ?_⟩
    rw [← ej]
    unfold swQ swR
    rw [show ldR se (bhQ q) (brQ q) s (nQ q) 0 = nI a from ea, ep, er, show (nI a - 0 : Int32) = nI a - nI 0 from rfl, ed]
    rfl
  | succ t ih =>
    obtain ⟨b, hb, eb⟩ := ih
    obtain ⟨a, ha, ea⟩ := ldQ_nI (se := se) (s := s) hq t
    obtain ⟨a2, ha2, ea2⟩ := ldQ_nI (se := se) (s := s) hq (t + 1)
    obtain ⟨d, hd, ed⟩ := ab_nI (a := a2) (b := a) (c := 5000) ha2 ha (by decide)
    obtain ⟨j, hj, ej⟩ := sw_step hb hd hp hr
    refine ⟨j, hj, ?_⟩
    rw [← ej]
    unfold swQ swR
    rw [show ldR se (bhQ q) (brQ q) s (nQ q) t = nI a from ea, show ldR se (bhQ q) (brQ q) s (nQ q) (t + 1) = nI a2 from ea2, show swR se (bhQ q) (brQ q) s (nQ q) t = nI b from eb, ep, er, ed]
theorem rdQ_nI {se q : Nat → Int32} {s : Int32} {N : Nat} (hq : CartOk q N) (hse : SetOk se) (t : Nat) : ∃ j, j ≤ 105000 ∧ rdQ se q s t = nI j := by
  obtain ⟨a, ha, ea⟩ := ldQ_nI (se := se) (s := s) hq t
  obtain ⟨b, hb, eb⟩ := swQ_nI (s := s) hq hse t
  unfold rdQ rdR rdF
  rw [show ldR se (bhQ q) (brQ q) s (nQ q) t = nI a from ea, show swR se (bhQ q) (brQ q) s (nQ q) t = nI b from eb]
  split
  · exact ⟨a + b, by omega, nI_add a b⟩
  · split
    · rcases Nat.lt_or_ge a b with q0 | q0
      · rw [if_pos (pk_sneg (by omega) q0)]
        exact ⟨0, by omega, rfl⟩
      · rw [pk_sub q0, if_neg (nI_pos (by omega))]
        exact ⟨a - b, by omega, rfl⟩
    · exact ⟨a, by omega, rfl⟩
theorem suF_nI {f : Nat → Int32} {c a : Nat} (h : ∀ t, ∃ j, j ≤ c ∧ f t = nI j) : ∀ n, ∃ j, j ≤ n * c ∧ suF f a n = nI j := by
  intro n
  induction n with
  | zero => exact ⟨0, by omega, rfl⟩
  | succ n ih =>
    obtain ⟨j, hj, e⟩ := ih
    obtain ⟨i, hi, e2⟩ := h (a + n)
    refine ⟨j + i, by rw [Nat.succ_mul]; omega, ?_⟩
    unfold suF
    rw [e, e2, nI_add]
theorem meF_nI {se q : Nat → Int32} {s : Int32} {N : Nat} (hq : CartOk q N) (hse : SetOk se) (t : Nat) : ∃ j, j < 2 ^ 30 ∧ meF (rdQ se q s) (wN se) t = nI j := by
  obtain ⟨w1, w2, w3⟩ := wN_ok hse
  obtain ⟨j, hj, e⟩ := suF_nI (c := 105000) (a := t + 1 - wN se) (rdQ_nI (s := s) hq hse) (wN se)
  have hj2 : j ≤ 9 * 105000 := Nat.le_trans hj (Nat.mul_le_mul_right 105000 w3)
  have hd := Nat.div_le_self j (wN se)
  refine ⟨j / wN se, by omega, ?_⟩
  unfold meF
  rw [e, pk_div (by omega) (by omega) (by omega)]
theorem lvQ_pos {se q : Nat → Int32} {s : Int32} {N : Nat} (hq : CartOk q N) (hse : SetOk se) : ∀ t, ¬ lvR (rdQ se q s) (wN se) (se 4) t 0 = 0 → 0 ≤ lvR (rdQ se q s) (wN se) (se 4) t 2 := by
  intro t
  induction t with
  | zero => intro h; exact absurd rfl h
  | succ t ih =>
    unfold lvR
    split
    · obtain ⟨j, hj, e⟩ := meF_nI (s := s) hq hse t
      unfold offF
      by_cases h1 : 0 < lvR (rdQ se q s) (wN se) (se 4) t 0 ∧ abF (meF (rdQ se q s) (wN se) t - lvR (rdQ se q s) (wN se) (se 4) t 1) ≤ se 4
      · rw [if_pos h1, if_pos h1]
        exact ih
      · rw [if_neg h1, if_neg h1]
        intro _
        show 0 ≤ if lvR (rdQ se q s) (wN se) (se 4) t 0 = 0 ∨ lvR (rdQ se q s) (wN se) (se 4) t 2 < meF (rdQ se q s) (wN se) t then meF (rdQ se q s) (wN se) t else lvR (rdQ se q s) (wN se) (se 4) t 2
        split
        · rw [e]
          exact nI_pos' (by omega)
        · next h2 => exact ih (fun q0 => h2 (Or.inl q0))
    · exact ih
theorem rsQ_0 {se q : Nat → Int32} {s : Int32} (h : rsQ se q s = 0) : ¬ 120 < rT se q s ∧ ¬ lvQ se q s 0 = 0 := by
  unfold rsQ rsF at h
  constructor
  · intro q0
    rw [if_pos q0] at h
    exact absurd h (by decide)
  · intro q0
    by_cases h1 : 120 < rT se q s
    · rw [if_pos h1] at h
      exact absurd h (by decide)
    · rw [if_neg h1, if_pos q0] at h
      exact absurd h (by decide)
theorem gr_pos {se q : Nat → Int32} {s : Int32} {N : Nat} (hq : CartOk q N) (hse : SetOk se) (h : rsQ se q s = 0) : 0 ≤ lvQ se q s 2 := lvQ_pos hq hse _ (rsQ_0 h).2
theorem tw_none {se q : Nat → Int32} {s : Int32} {N : Nat} (hq : CartOk q N) (hse : SetOk se) : twQ se q s = -5 ↔ ¬ rsQ se q s = 0 := by
  unfold twQ twF
  by_cases h : rsQ se q s = 0
  · have := gr_pos hq hse h
    rw [if_pos h]
    constructor
    · intro q0
      rw [q0] at this
      exact absurd this (by decide)
    · intro q0
      exact absurd h q0
  · rw [if_neg h]
    exact ⟨fun _ => h, fun _ => rfl⟩
def whQ (q : Nat → Int32) : Int32 := sumF (wQ q) (nQ q)
theorem wh_pos {q : Nat → Int32} {N : Nat} (hq : CartOk q N) : ∃ j, 1 ≤ j ∧ j ≤ 1000 ∧ whQ q = nI j := by
  have h5 := hq.2.2.1
  have h1 := hq.2.1
  unfold whQ
  rw [nQ_eq hq]
  obtain ⟨M, rfl⟩ : ∃ M, N = M + 1 := ⟨N - 1, by omega⟩
  have hw : ∀ k, k < M + 1 → ∃ j, j ≤ 200 ∧ wQ q k = nI j := fun k hk => by
    have g := hq.2.2.2.1 k hk
    exact nI_le_of (by grind) (by decide) g.2.1
  obtain ⟨j, hj, e⟩ := sumF_nI (b := 200) M (fun k hk => hw k (by omega))
  obtain ⟨i, hi, e2⟩ := hw M (by omega)
  have hi1 : 1 ≤ i := by
    rcases Nat.eq_zero_or_pos i with q0 | q0
    · have g := (hq.2.2.2.1 M (by omega)).1
      rw [e2, q0] at g
      exact absurd g (by decide)
    · exact q0
  have hj2 : j ≤ 4 * 200 := Nat.le_trans hj (Nat.mul_le_mul_right 200 (by omega))
  refine ⟨j + i, by omega, by omega, ?_⟩
  unfold sumF
  rw [e, e2, nI_add]
noncomputable def neQ (se q : Nat → Int32) (s : Int32) : Int32 := if rsQ se q s = 0 ∧ abF (lvQ se q s 2 - whQ q) ≤ se 4 then 1 else 0

