/-! WHAT A STATE IS, in the numbers z that the reference keeps; a cart's twenty numbers q -/
def qOf (z : Nat → Int32) (k : Nat) : Nat → Int32 := fun i => z (9 + 20 * k + i)
def wQ (q : Nat → Int32) : Nat → Int32 := fun a => q (5 + a)
def dQ (q : Nat → Int32) : Nat → Int32 := fun a => q (10 + a)
def lQ (q : Nat → Int32) : Nat → Int32 := fun a => q (15 + a)
/-- the numbers of a cart are in order: N axles -/
def CartOk (q : Nat → Int32) (N : Nat) : Prop := q 0 = nI N ∧ 1 ≤ N ∧ N ≤ 5 ∧ (∀ a, a < N → 1 ≤ wQ q a ∧ wQ q a ≤ 200 ∧ 0 ≤ dQ q a ∧ dQ q a ≤ 40 ∧ (lQ q a = 0 ∨ lQ q a = 1)) ∧ ∃ a, a < N ∧ lQ q a = 0
/-- settings in their ranges -/
def SetOk (z : Nat → Int32) : Prop := ∀ i, i < 6 → leastS i ≤ z i ∧ z i ≤ mostS i
def StOk (z : Nat → Int32) (n : Nat) : Prop := SetOk z ∧ z 6 = nI n ∧ n ≤ 6 ∧ ∀ k, k < n → ∃ N, CartOk (qOf z k) N
/-- the cart at the cell c holds q -/
def RelCart (S : ST) (c : Nat) (q : Nat → Int32) (N : Nat) : Prop := S c 3 = nI N ∧ (∀ i, i < 4 → S c (4 + i) = q (1 + i)) ∧ ∀ a, a < N → S (c + 1) a = wQ q a ∧ S (c + 2) a = dQ q a ∧ S (c + 3) a = lQ q a
/-- the state at the cell B holds z -/
def RelSt (S : ST) (B : Nat) (z : Nat → Int32) (n : Nat) : Prop := StOk z n ∧ (∀ i, i < 6 → S (B + 2) i = z i) ∧ (∀ i, i < 3 → S B (2 + i) = z (6 + i)) ∧ ∀ k, k < n → ∀ N, CartOk (qOf z k) N → RelCart S (B + 3 + 4 * k) (qOf z k) N
theorem RelCart.to {S S' : ST} {c : Nat} {q : Nat → Int32} {N : Nat} (h : RelCart S c q N) {c' : Nat} (e : ∀ j, j < 4 → S' (c' + j) = S (c + j)) : RelCart S' c' q N := by
  have e0 : S' c' = S c := e 0 (by omega)
  unfold RelCart
  rw [e0, e 1 (by omega), e 2 (by omega), e 3 (by omega)]
  exact h
theorem RelSt.to {S S' : ST} {B B' : Nat} {z : Nat → Int32} {n : Nat} (h : RelSt S B z n) (e : ∀ j, j < 27 → S' (B' + j) = S (B + j)) : RelSt S' B' z n := by
  obtain ⟨h1, h2, h3, h4⟩ := h
  have e0 : S' B' = S B := e 0 (by omega)
  refine ⟨h1, by rw [e 2 (by omega)]; exact h2, by rw [e0]; exact h3, fun k hk N hN => (h4 k hk N hN).to (fun j hj => ?_)⟩
  have := e (3 + 4 * k + j) (by have := h1.2.2.1; omega)
  rw [show B' + 3 + 4 * k + j = B' + (3 + 4 * k + j) by omega, this]
  congr 1
  omega
theorem RelSt.n {S : ST} {B : Nat} {z : Nat → Int32} {n : Nat} (h : RelSt S B z n) : S B 2 = nI n := (h.2.2.1 0 (by decide)).trans h.1.2.1
theorem RelSt.n6 {S : ST} {B : Nat} {z : Nat → Int32} {n : Nat} (h : RelSt S B z n) : n ≤ 6 := h.1.2.2.1
theorem RelSt.cart {S : ST} {B : Nat} {z : Nat → Int32} {n : Nat} (h : RelSt S B z n) {k : Nat} (hk : k < n) : ∃ N, CartOk (qOf z k) N ∧ RelCart S (B + 3 + 4 * k) (qOf z k) N := by
  obtain ⟨N, hN⟩ := h.1.2.2.2 k hk
  exact ⟨N, hN, h.2.2.2 k hk N hN⟩
theorem CartOk.uniq {q : Nat → Int32} {N N' : Nat} (h : CartOk q N) (h' : CartOk q N') : N = N' := (nI_eq (Nat.lt_of_le_of_lt h.2.2.1 (by decide)) (Nat.lt_of_le_of_lt h'.2.2.1 (by decide))).mp (h.1.symm.trans h'.1)
/-! the abstract state: now, how many kept in the history, they, whether a snapshot, it, the length of the text, it -/
abbrev AS : Type := (Nat → Int32) × Nat × (Nat → Nat → Int32) × Int32 × (Nat → Int32) × Nat × (Nat → Int32)
def aZ (A : AS) : Nat → Int32 := A.1
def aM (A : AS) : Nat := A.2.1
def aP (A : AS) : Nat → Nat → Int32 := A.2.2.1
def aK (A : AS) : Int32 := A.2.2.2.1
def aKZ (A : AS) : Nat → Int32 := A.2.2.2.2.1
def aL (A : AS) : Nat := A.2.2.2.2.2.1
def aT (A : AS) : Nat → Int32 := A.2.2.2.2.2.2
def setZ (A : AS) (z : Nat → Int32) : AS := (z, A.2)
/-- one more state is recorded -/
def recA (A : AS) : AS := (aZ A, if aM A = 4 then 4 else aM A + 1, (fun i => if aM A = 4 then (if i = 3 then aZ A else aP A (i + 1)) else if i = aM A then aZ A else aP A i), A.2.2.2)
def Bool01 (S : ST) : Prop := ∀ B, (B = 1 ∨ B = 28 ∨ ∃ j, j < 4 ∧ B = 57 + 27 * j) → ∀ a, a < 6 → ∀ i, i < 5 → S (B + 3 + 4 * a + 3) i = 0 ∨ S (B + 3 + 4 * a + 3) i = 1
def HistRel (S : ST) (A : AS) (hb : Nat → Nat) : Prop := HistOk S hb ∧ (∀ i j, i < 4 → j < 4 → hb i = hb j → i = j) ∧ S 55 1 = nI (aM A) ∧ aM A ≤ 4 ∧ ∀ i, i < aM A → ∃ n, RelSt S (hb i) (aP A i) n
/-- the class holds A, with n carts now -/
def CRel (S : ST) (A : AS) (n : Nat) : Prop := RelSt S 1 (aZ A) n ∧ (∃ hb, HistRel S A hb) ∧ (S 0 6 = aK A ∧ (aK A = 0 ∨ aK A = 1) ∧ (aK A = 1 → ∃ n2, RelSt S 28 (aKZ A) n2)) ∧ Bool01 S ∧ (S 165 3 = nI (aL A) ∧ aL A ≤ 60 ∧ ∀ i, i < aL A → S 166 i = aT A i)
theorem Bool01.fits {S : ST} (h : Bool01 S) {B : Nat} (hB : B = 1 ∨ B = 28 ∨ ∃ j, j < 4 ∧ B = 57 + 27 * j) : ∀ a, a < 6 → ∀ i, i < 5 → fits .boolean (.int (S (B + 3 + 4 * a + 3) i)) = true := fun a ha i hi => (put_z (h B hB a ha i hi)).2
theorem cpState_b {S : ST} {B B2 j : Nat} (h : j < 27) : cpState S B B2 (B + j) = S (B2 + j) := by
  unfold cpState
  rw [if_pos (by omega)]
  congr 1
  omega
theorem HistOk.apart {S : ST} {hb : Nat → Nat} (h : HistOk S hb) (hi : ∀ i j, i < 4 → j < 4 → hb i = hb j → i = j) {i j : Nat} (h1 : i < 4) (h2 : j < 4) (hn : i ≠ j) : hb i + 26 < hb j ∨ hb j + 26 < hb i := by
  obtain ⟨-, a, ha, e1⟩ := h i h1
  obtain ⟨-, c, hc, e2⟩ := h j h2
  have : hb i ≠ hb j := fun q => hn (hi i j h1 h2 q)
  omega
/-- the class's whole record of a state -/
theorem rem_rel {S : ST} {A : AS} {n : Nat} {hb : Nat → Nat} (hh : HistRel S A hb) (h : CRel S A n) : CRel (remS S hb (aM A)) (recA A) n ∧ ∀ k, (k ≠ 55 ∧ k ≠ 56 ∧ (k < 57 ∨ 164 < k)) → remS S hb (aM A) k = S k := by
  obtain ⟨hO, hinj, hm, hm4, hp⟩ := hh
  obtain ⟨h1, -, h3, hbz, h5⟩ := h
  have key : ∀ (S0 : ST) (hb2 : Nat → Nat) (m : Nat) (x : Int32), m < 4 → HistOk S0 hb2 → (∀ i j, i < 4 → j < 4 → hb2 i = hb2 j → i = j) → (∀ k, (k ≠ 55 ∧ k ≠ 56) → S0 k = S k) → x = nI (m + 1) → (recA A).2.1 = m + 1 → (∀ i, i < m → ∃ n, RelSt S0 (hb2 i) (aP (recA A) i) n) → aP (recA A) m = aZ A → CRel (stw (cpState S0 (hb2 m) 1) 55 1 x) (recA A) n ∧ ∀ k, (k ≠ 55 ∧ k ≠ 56 ∧ (k < 57 ∨ 164 < k)) → stw (cpState S0 (hb2 m) 1) 55 1 x k = S k := by
    intro S0 hb2 m x hm hO2 hinj2 hS0 hx hA hp2 hlast
    have hlo := hO2.lo hm
    have hfr : ∀ k, (k ≠ 55 ∧ k ≠ 56 ∧ (k < hb2 m ∨ hb2 m + 26 < k)) → stw (cpState S0 (hb2 m) 1) 55 1 x k = S k := fun k hk => by rw [stw_n hk.1, cpState_n hk.2.2, hS0 k ⟨hk.1, hk.2.1⟩]
    refine ⟨⟨h1.to (fun j hj => hfr _ (by omega)), ⟨hb2, ?_, hinj2, ?_, ?_, ?_⟩, ?_, ?_, ?_⟩, fun k hk => hfr k (by omega)⟩
    · intro i hi
      rw [stw_n (by decide), cpState_n (by omega)]
      exact hO2 i hi
    · show stw (cpState S0 (hb2 m) 1) 55 1 x 55 1 = nI (recA A).2.1
      rw [hA, stw_app, if_pos ⟨rfl, rfl⟩, hx]
    · show (recA A).2.1 ≤ 4
      rw [hA]
      omega
    · intro i hi
      have hi2 : i < m + 1 := by rw [← hA]; exact hi
      by_cases e : i = m
      · subst e
        rw [hlast]
        refine ⟨n, h1.to (fun j hj => ?_)⟩
        rw [stw_n (by omega), cpState_b hj]
        exact hS0 _ (by omega)
      · obtain ⟨n2, hr⟩ := hp2 i (by omega)
        refine ⟨n2, hr.to (fun j hj => ?_)⟩
        have hap := hO2.apart hinj2 (show i < 4 by omega) hm e
        have hl2 := hO2.lo (show i < 4 by omega)
        rw [stw_n (by omega), cpState_n (by omega)]
    · rw [hfr 0 (by omega)]
      refine ⟨h3.1, h3.2.1, fun q => ?_⟩
      obtain ⟨n2, hr⟩ := h3.2.2 q
      exact ⟨n2, hr.to (fun j hj => hfr _ (by omega))⟩
    · intro B hB a ha i hi
      by_cases e : B = hb2 m
      · subst e
        rw [stw_n (by omega), show hb2 m + 3 + 4 * a + 3 = hb2 m + (6 + 4 * a) by omega, cpState_b (by omega), hS0 _ (by omega)]
        have := hbz 1 (Or.inl rfl) a ha i hi
        rw [show 1 + (6 + 4 * a) = 1 + 3 + 4 * a + 3 by omega]
        exact this
      · obtain ⟨-, j2, hj2, e2⟩ := hO2 m hm
        rw [hfr _ (by rcases hB with rfl | rfl | ⟨j, hj, rfl⟩ <;> omega)]
        exact hbz B hB a ha i hi
    · rw [hfr 165 (by omega), hfr 166 (by omega)]
      exact h5
  unfold remS
  by_cases e4 : aM A = 4
  · rw [if_pos e4]
    refine key (rotS S) (fun i => if i = 3 then hb 0 else hb (i + 1)) 3 4 (by decide) (rot_ok hO) ?_ ?_ rfl ?_ ?_ ?_
    · intro i j hi hj
      show (if i = 3 then hb 0 else hb (i + 1)) = (if j = 3 then hb 0 else hb (j + 1)) → i = j
      by_cases e1 : i = 3
      · by_cases e2 : j = 3
        · intro _
          omega
        · rw [if_pos e1, if_neg e2]
          intro q
          have := hinj 0 (j + 1) (by decide) (by omega) q
          omega
      · by_cases e2 : j = 3
        · rw [if_neg e1, if_pos e2]
          intro q
          have := hinj (i + 1) 0 (by omega) (by decide) q
          omega
        · rw [if_neg e1, if_neg e2]
          intro q
          have := hinj (i + 1) (j + 1) (by omega) (by omega) q
          omega
    · intro k hk
      unfold rotS
      rw [stw_n hk.1, str_n hk.2]
    · show (if aM A = 4 then 4 else aM A + 1) = 3 + 1
      rw [if_pos e4]
    · intro i hi
      obtain ⟨n2, hr⟩ := hp (i + 1) (by omega)
      have hl := hO.lo (show i + 1 < 4 by omega)
      refine ⟨n2, ?_⟩
      show RelSt (rotS S) (if i = 3 then hb 0 else hb (i + 1)) (if aM A = 4 then (if i = 3 then aZ A else aP A (i + 1)) else if i = aM A then aZ A else aP A i) n2
      rw [if_neg (by omega), if_pos e4, if_neg (by omega)]
      refine hr.to (fun j hj => ?_)
      unfold rotS
      rw [stw_n (by omega), str_n (by omega)]
    · show (if aM A = 4 then (if 3 = 3 then aZ A else aP A (3 + 1)) else if 3 = aM A then aZ A else aP A 3) = aZ A
      rw [if_pos e4, if_pos rfl]
  · rw [if_neg e4]
    refine key S hb (aM A) _ (by omega) hO hinj (fun _ _ => rfl) rfl ?_ ?_ ?_
    · show (if aM A = 4 then 4 else aM A + 1) = aM A + 1
      rw [if_neg e4]
    · intro i hi
      obtain ⟨n2, hr⟩ := hp i hi
      refine ⟨n2, ?_⟩
      show RelSt S (hb i) (if aM A = 4 then (if i = 3 then aZ A else aP A (i + 1)) else if i = aM A then aZ A else aP A i) n2
      rw [if_neg e4, if_neg (by omega)]
      exact hr
    · show (if aM A = 4 then (if aM A = 3 then aZ A else aP A (aM A + 1)) else if aM A = aM A then aZ A else aP A (aM A)) = aZ A
      rw [if_neg e4, if_pos rfl]
/-- the present state is another one -/
theorem CRel.set {S S' : ST} {A : AS} {n n' : Nat} {z : Nat → Int32} (h : CRel S A n) (hf : ∀ k, (k < 1 ∨ 27 < k) ∧ (k < 165 ∨ k = 166 ∨ 180 < k) → S' k = S k) (hr : RelSt S' 1 z n') (hbz : ∀ a, a < 6 → ∀ i, i < 5 → S' (1 + 3 + 4 * a + 3) i = 0 ∨ S' (1 + 3 + 4 * a + 3) i = 1) (h165 : S' 165 3 = S 165 3 := by first | rfl | exact congrFun (stw_n (by omega)) 3) : CRel S' (setZ A z) n' := by
  obtain ⟨h1, ⟨hb, g1, g2, g3, g4, g5⟩, h3, hb4, h5⟩ := h
  refine ⟨hr, ⟨hb, ?_, g2, ?_, g4, ?_⟩, ?_, ?_, ?_⟩
  · intro i hi
    rw [hf 56 (by omega)]
    exact g1 i hi
  · rw [hf 55 (by omega)]
    exact g3
  · intro i hi
    obtain ⟨n2, q⟩ := g5 i hi
    have hl := g1.lo (Nat.lt_of_lt_of_le hi g4)
    exact ⟨n2, q.to (fun j hj => hf _ (by omega))⟩
  · rw [hf 0 (by omega)]
    refine ⟨h3.1, h3.2.1, fun q => ?_⟩
    obtain ⟨n2, hr⟩ := h3.2.2 q
    exact ⟨n2, hr.to (fun j hj => hf _ (by omega))⟩
  · intro B hB a ha i hi
    rcases hB with rfl | hB
    · exact hbz a ha i hi
    · rw [hf _ (by rcases hB with rfl | ⟨j, hj, rfl⟩ <;> omega)]
      exact hb4 B (Or.inr hB) a ha i hi
  · rw [h165, hf 166 (by omega)]
    exact h5
theorem setZ_self (A : AS) : setZ A (aZ A) = A := rfl

