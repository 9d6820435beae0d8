/-! what the calls do to the numbers -/
def lay (z : Nat → Int32) (k i : Nat) (v : Int32) : Nat → Int32 := upd z (9 + 20 * k + i) v
def newCartZ (z : Nat → Int32) (n : Nat) (w : Int32) : Nat → Int32 := fun i =>
  if i = 6 then nI (n + 1) else if 9 + 20 * n ≤ i ∧ i < 9 + 20 * n + 20 then
    (if i = 9 + 20 * n then 1 else if i ≤ 9 + 20 * n + 4 then -5 else if i = 9 + 20 * n + 5 then w else 0) else z i
def newAxleZ (z : Nat → Int32) (k N : Nat) (d w : Int32) : Nat → Int32 := lay (lay (lay (lay z k (5 + N) w) k (10 + N) d) k (15 + N) 0) k 0 (nI (N + 1))
theorem lay_q {z : Nat → Int32} {k i j : Nat} {v : Int32} (hi : i < 20) : qOf (lay z k i v) k j = if j = i then v else qOf z k j := by
  unfold qOf lay upd
  by_cases h : j = i
  · subst h
    simp
  · rw [if_neg (by omega), if_neg h]
theorem lay_o {z : Nat → Int32} {k i j : Nat} {v : Int32} (hi : i < 20) (h : j < 9 + 20 * k ∨ 9 + 20 * k + 20 ≤ j) : lay z k i v j = z j := if_neg (by omega)
theorem qOf_o {z z' : Nat → Int32} {k k2 : Nat} (hz : ∀ i, (i < 9 + 20 * k ∨ 9 + 20 * k + 20 ≤ i) → z' i = z i) (h : k2 ≠ k) : ∀ i, i < 20 → qOf z' k2 i = qOf z k2 i := by
  intro i hi
  exact hz _ (by omega)
theorem CartOk.to {q q' : Nat → Int32} {N : Nat} (h : CartOk q N) (e : ∀ i, i < 20 → q' i = q i) : CartOk q' N := by
  obtain ⟨h1, h2, h3, h4, a, ha, hl⟩ := h
  refine ⟨(e 0 (by decide)).trans h1, h2, h3, fun b hb => ?_, a, ha, (e (15 + a) (by omega)).trans hl⟩
  unfold wQ dQ lQ
  rw [e _ (by omega), e _ (by omega), e _ (by omega)]
  exact h4 b hb
theorem RelCart.toq {S : ST} {c : Nat} {q q' : Nat → Int32} {N : Nat} (h : RelCart S c q N) (h5 : N ≤ 5) (e : ∀ i, i < 20 → q' i = q i) : RelCart S c q' N := by
  refine ⟨h.1, fun i hi => by rw [e _ (by omega)]; exact h.2.1 i hi, fun a ha => ?_⟩
  unfold wQ dQ lQ
  rw [e _ (by omega), e _ (by omega), e _ (by omega)]
  exact h.2.2 a ha
/-- one cart becomes another -/
theorem RelSt.one {S S' : ST} {z z' : Nat → Int32} {n k N' : Nat} (h : RelSt S 1 z n) (hk : k < n) (hz : ∀ i, (i < 9 + 20 * k ∨ 9 + 20 * k + 20 ≤ i) → z' i = z i) (hS : ∀ a, a < 28 → (a < 1 + 3 + 4 * k ∨ 1 + 3 + 4 * k + 3 < a) → S' a = S a) (hc : CartOk (qOf z' k) N') (hr : RelCart S' (1 + 3 + 4 * k) (qOf z' k) N') : RelSt S' 1 z' n := by
  obtain ⟨⟨g1, g2, g3, g4⟩, h2, h3, h4⟩ := h
  refine ⟨⟨fun i hi => by rw [hz i (by omega)]; exact g1 i hi, by rw [hz 6 (by omega)]; exact g2, g3, fun k2 hk2 => ?_⟩, fun i hi => by rw [hS _ (by omega) (by omega), hz i (by omega)]; exact h2 i hi, fun i hi => by rw [hS _ (by omega) (by omega), hz _ (by omega)]; exact h3 i hi, fun k2 hk2 N hN => ?_⟩
  · by_cases e : k2 = k
    · subst e
      exact ⟨N', hc⟩
    · obtain ⟨N, hN⟩ := g4 k2 hk2
      exact ⟨N, hN.to (qOf_o hz e)⟩
  · by_cases e : k2 = k
    · subst e
      rw [hN.uniq hc]
      exact hr
    · have hN2 : CartOk (qOf z k2) N := hN.to (fun i hi => (qOf_o hz e i hi).symm)
      exact ((h4 k2 hk2 N hN2).to (fun j hj => hS _ (by omega) (by omega))).toq hN.2.2.1 (qOf_o hz e)
theorem bool_one {S S' : ST} {k : Nat} (hb : ∀ a, a < 6 → ∀ i, i < 5 → S (1 + 3 + 4 * a + 3) i = 0 ∨ S (1 + 3 + 4 * a + 3) i = 1) (h : ∀ a, a < 6 → ∀ i, i < 5 → S' (1 + 3 + 4 * a + 3) i = S (1 + 3 + 4 * a + 3) i ∨ S' (1 + 3 + 4 * a + 3) i = 0 ∨ S' (1 + 3 + 4 * a + 3) i = 1) : ∀ a, a < 6 → ∀ i, i < 5 → S' (1 + 3 + 4 * a + 3) i = 0 ∨ S' (1 + 3 + 4 * a + 3) i = 1 := by
  intro a ha i hi
  rcases h a ha i hi with q | q
  · rw [q]
    exact hb a ha i hi
  · exact q
theorem CRel.b1 {S : ST} {A : AS} {n : Nat} (h : CRel S A n) : ∀ a, a < 6 → ∀ i, i < 5 → S (1 + 3 + 4 * a + 3) i = 0 ∨ S (1 + 3 + 4 * a + 3) i = 1 := h.2.2.2.1 1 (Or.inl rfl)
/-- another weight -/
theorem load_rel {S : ST} {A : AS} {n k N a : Nat} {w : Int32} (h : CRel S A n) (hk : k < n) (hN : CartOk (qOf (aZ A) k) N) (ha : a < N) (hw : 1 ≤ w ∧ w ≤ 200) : CRel (stw S (1 + 3 + 4 * k + 1) a w) (setZ A (lay (aZ A) k (5 + a) w)) n := by
  have h5 := hN.2.2.1
  have hr := h.1.2.2.2 k hk N hN
  have n6 := h.1.n6
  have hq : ∀ j, qOf (lay (aZ A) k (5 + a) w) k j = if j = 5 + a then w else qOf (aZ A) k j := fun j => lay_q (by omega)
  refine h.set (fun b hb => stw_n (by omega)) (h.1.one hk (fun i hi => lay_o (by omega) hi) (fun b hb hb2 => stw_n (by omega)) (N' := N) ?_ ?_) (fun b hb i hi => by rw [stw_n (by omega)]; exact h.b1 b hb i hi)
  · obtain ⟨h1, h2, h3, h4, a0, ha0, hl⟩ := hN
    refine ⟨by rw [hq, if_neg (by omega)]; exact h1, h2, h3, fun b hb => ?_, a0, ha0, ?_⟩
    · have g := h4 b hb
      unfold wQ dQ lQ at g ⊢
      rw [hq, hq, hq]
      by_cases e : b = a
      · rw [if_pos (by omega), if_neg (by omega), if_neg (by omega)]
        exact ⟨hw.1, hw.2, g.2.2⟩
      · rw [if_neg (by omega), if_neg (by omega), if_neg (by omega)]
        exact g
    · unfold lQ at hl ⊢
      rw [hq, if_neg (by omega)]
      exact hl
  · refine ⟨by rw [stw_n (by omega)]; exact hr.1, fun i hi => by rw [stw_n (by omega), hq, if_neg (by omega)]; exact hr.2.1 i hi, fun b hb => ?_⟩
    have g := hr.2.2 b hb
    unfold wQ dQ lQ at g ⊢
    rw [hq, hq, hq, stw_n (show 1 + 3 + 4 * k + 2 ≠ 1 + 3 + 4 * k + 1 by omega), stw_n (show 1 + 3 + 4 * k + 3 ≠ 1 + 3 + 4 * k + 1 by omega), if_neg (show ¬ 10 + b = 5 + a by omega), if_neg (show ¬ 15 + b = 5 + a by omega), stw_app]
    by_cases e : b = a
    · rw [if_pos ⟨rfl, e⟩, if_pos (by omega)]
      exact ⟨rfl, g.2⟩
    · rw [if_neg (fun q => e q.2), if_neg (by omega)]
      exact g
/-- lifted, or let down; one axle stays down -/
theorem lift_rel {S : ST} {A : AS} {n k N a : Nat} {v : Int32} (h : CRel S A n) (hk : k < n) (hN : CartOk (qOf (aZ A) k) N) (ha : a < N) (hv : v = 0 ∨ v = 1) (hd : ∃ b, b < N ∧ (if b = a then v else lQ (qOf (aZ A) k) b) = 0) : CRel (stw S (1 + 3 + 4 * k + 3) a v) (setZ A (lay (aZ A) k (15 + a) v)) n ∧ CartOk (qOf (lay (aZ A) k (15 + a) v) k) N := by
  have h5 := hN.2.2.1
  have hr := h.1.2.2.2 k hk N hN
  have n6 := h.1.n6
  have hq : ∀ j, qOf (lay (aZ A) k (15 + a) v) k j = if j = 15 + a then v else qOf (aZ A) k j := fun j => lay_q (by omega)
  have hok : CartOk (qOf (lay (aZ A) k (15 + a) v) k) N := by
    obtain ⟨h1, h2, h3, h4, -⟩ := hN
    obtain ⟨b0, hb0, hd⟩ := hd
    refine ⟨by rw [hq, if_neg (by omega)]; exact h1, h2, h3, fun b hb => ?_, b0, hb0, ?_⟩
    · have g := h4 b hb
      unfold wQ dQ lQ at g ⊢
      rw [hq, hq, hq]
      by_cases e : b = a
      · rw [if_neg (by omega), if_neg (by omega), if_pos (by omega)]
        exact ⟨g.1, g.2.1, g.2.2.1, g.2.2.2.1, hv⟩
      · rw [if_neg (by omega), if_neg (by omega), if_neg (by omega)]
        exact g
    · unfold lQ at hd ⊢
      rw [hq]
      by_cases e : b0 = a
      · rw [if_pos (by omega)]
        rw [if_pos e] at hd
        exact hd
      · rw [if_neg (by omega)]
        rw [if_neg e] at hd
        exact hd
  refine ⟨h.set (fun b hb => stw_n (by omega)) (h.1.one hk (fun i hi => lay_o (by omega) hi) (fun b hb hb2 => stw_n (by omega)) (N' := N) hok ?_) ?_, hok⟩
  · refine ⟨by rw [stw_n (by omega)]; exact hr.1, fun i hi => by rw [stw_n (by omega), hq, if_neg (by omega)]; exact hr.2.1 i hi, fun b hb => ?_⟩
    have g := hr.2.2 b hb
    unfold wQ dQ lQ at g ⊢
    rw [hq, hq, hq, stw_n (show 1 + 3 + 4 * k + 2 ≠ 1 + 3 + 4 * k + 3 by omega), stw_n (show 1 + 3 + 4 * k + 1 ≠ 1 + 3 + 4 * k + 3 by omega), if_neg (show ¬ 10 + b = 15 + a by omega), if_neg (show ¬ 5 + b = 15 + a by omega), stw_app]
    by_cases e : b = a
    · rw [if_pos ⟨rfl, e⟩, if_pos (by omega)]
      exact ⟨g.1, g.2.1, rfl⟩
    · rw [if_neg (fun q => e q.2), if_neg (by omega)]
      exact g
  · exact bool_one (k := k) h.b1 (fun b hb i hi => by
      rw [stw_app]
      by_cases e : 1 + 3 + 4 * b + 3 = 1 + 3 + 4 * k + 3 ∧ i = a
      · rw [if_pos e]
        exact Or.inr hv
      · rw [if_neg e]
        exact Or.inl rfl)
/-- one of the four numbers of a cart: tare, latest weight, speed, times -/
theorem num_rel {S : ST} {A : AS} {n k i0 : Nat} {v : Int32} (h : CRel S A n) (hk : k < n) (hi0 : i0 < 4) : CRel (stw S (1 + 3 + 4 * k) (4 + i0) v) (setZ A (lay (aZ A) k (1 + i0) v)) n := by
  obtain ⟨N, hN, hr⟩ := h.1.cart hk
  have h5 := hN.2.2.1
  have n6 := h.1.n6
  have hq : ∀ j, qOf (lay (aZ A) k (1 + i0) v) k j = if j = 1 + i0 then v else qOf (aZ A) k j := fun j => lay_q (by omega)
  have hq5 : ∀ j, 5 ≤ j → qOf (lay (aZ A) k (1 + i0) v) k j = qOf (aZ A) k j := fun j hj => by rw [hq, if_neg (by omega)]
  refine h.set (fun b hb => stw_n (by omega)) (h.1.one hk (fun i hi => lay_o (by omega) hi) (fun b hb hb2 => stw_n (by omega)) (N' := N) ?_ ?_) (fun b hb i hi => by rw [stw_n (by omega)]; exact h.b1 b hb i hi)
  · obtain ⟨h1, h2, h3, h4, a0, ha0, hl⟩ := hN
    refine ⟨by rw [hq, if_neg (by omega)]; exact h1, h2, h3, fun b hb => ?_, a0, ha0, ?_⟩
    · have g := h4 b hb
      unfold wQ dQ lQ at g ⊢
      rw [hq5 _ (by omega), hq5 _ (by omega), hq5 _ (by omega)]
      exact g
    · unfold lQ at hl ⊢
      rw [hq5 _ (by omega)]
      exact hl
  · refine ⟨by rw [stw_app, if_neg (by omega)]; exact hr.1, fun i hi => ?_, fun b hb => ?_⟩
    · rw [hq, stw_app]
      by_cases e : i = i0
      · rw [if_pos ⟨rfl, by omega⟩, if_pos (by omega)]
      · rw [if_neg (by omega), if_neg (by omega)]
        exact hr.2.1 i hi
    · have g := hr.2.2 b hb
      unfold wQ dQ lQ at g ⊢
      rw [hq5 _ (by omega), hq5 _ (by omega), hq5 _ (by omega), stw_n (by omega), stw_n (by omega), stw_n (by omega)]
      exact g
/-- the counters of runs -/
theorem cnt_rel {S : ST} {A : AS} {n i0 : Nat} {v : Int32} (h : CRel S A n) (hi0 : i0 = 1 ∨ i0 = 2) : CRel (stw S 1 (2 + i0) v) (setZ A (upd (aZ A) (6 + i0) v)) n := by
  have n6 := h.1.n6
  obtain ⟨⟨g1, g2, g3, g4⟩, h2, h3, h4⟩ := h.1
  have hu : ∀ j, j ≠ 6 + i0 → upd (aZ A) (6 + i0) v j = aZ A j := fun j hj => if_neg hj
  have hq : ∀ k i, qOf (upd (aZ A) (6 + i0) v) k i = qOf (aZ A) k i := fun k i => hu _ (by omega)
  refine h.set (fun b hb => stw_n (by omega)) ⟨⟨fun i hi => by rw [hu i (by omega)]; exact g1 i hi, by rw [hu 6 (by omega)]; exact g2, g3, fun k hk => ?_⟩, fun i hi => by rw [stw_n (by omega), hu i (by omega)]; exact h2 i hi, fun i hi => ?_, fun k hk N hN => ?_⟩ (fun b hb i hi => by rw [stw_n (by omega)]; exact h.b1 b hb i hi)
  · obtain ⟨N, hN⟩ := g4 k hk
    exact ⟨N, hN.to (fun i _ => hq k i)⟩
  · rw [stw_app]
    by_cases e : i = i0
    · rw [if_pos ⟨rfl, by omega⟩, e]
      exact (if_pos rfl).symm
    · rw [if_neg (by omega), hu _ (by omega)]
      exact h3 i hi
  · have hN2 : CartOk (qOf (aZ A) k) N := hN.to (fun i _ => (hq k i).symm)
    exact ((h4 k hk N hN2).to (fun j hj => stw_n (by omega))).toq hN.2.2.1 (fun i _ => hq k i)
/-- a setting -/
theorem set_rel {S : ST} {A : AS} {n i0 : Nat} {v : Int32} (h : CRel S A n) (hi0 : i0 < 6) (hv : leastS i0 ≤ v ∧ v ≤ mostS i0) : CRel (stw S 3 i0 v) (setZ A (upd (aZ A) i0 v)) n := by
  have n6 := h.1.n6
  obtain ⟨⟨g1, g2, g3, g4⟩, h2, h3, h4⟩ := h.1
  have hu : ∀ j, j ≠ i0 → upd (aZ A) i0 v j = aZ A j := fun j hj => if_neg hj
  have hq : ∀ k i, qOf (upd (aZ A) i0 v) k i = qOf (aZ A) k i := fun k i => hu _ (by omega)
  refine h.set (fun b hb => stw_n (by omega)) ⟨⟨fun i hi => ?_, by rw [hu 6 (by omega)]; exact g2, g3, fun k hk => ?_⟩, fun i hi => ?_, fun i hi => by rw [stw_n (by omega), hu _ (by omega)]; exact h3 i hi, fun k hk N hN => ?_⟩ (fun b hb i hi => by rw [stw_n (by omega)]; exact h.b1 b hb i hi)
  · by_cases e : i = i0
    · subst e
      rw [show upd (aZ A) i v i = v from if_pos rfl]
      exact hv
    · rw [hu i e]
      exact g1 i hi
  · obtain ⟨N, hN⟩ := g4 k hk
    exact ⟨N, hN.to (fun i _ => hq k i)⟩
  · show stw S 3 i0 v 3 i = _
    rw [stw_app]
    by_cases e : i = i0
    · rw [if_pos ⟨rfl, e⟩, e]
      exact (if_pos rfl).symm
    · rw [if_neg (fun q => e q.2), hu i e]
      exact h2 i hi
  · have hN2 : CartOk (qOf (aZ A) k) N := hN.to (fun i _ => (hq k i).symm)
    exact ((h4 k hk N hN2).to (fun j hj => stw_n (by omega))).toq hN.2.2.1 (fun i _ => hq k i)

