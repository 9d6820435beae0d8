theorem naz_q {z : Nat → Int32} {k N j : Nat} {d w : Int32} (h5 : N < 5) : qOf (newAxleZ z k N d w) k j = if j = 0 then nI (N + 1) else if j = 15 + N then 0 else if j = 10 + N then d else if j = 5 + N then w else qOf z k j := by
  unfold newAxleZ
  rw [lay_q (by omega), lay_q (by omega), lay_q (by omega), lay_q (by omega)]
theorem naz_o {z : Nat → Int32} {k N j : Nat} {d w : Int32} (h5 : N < 5) (h : j < 9 + 20 * k ∨ 9 + 20 * k + 20 ≤ j) : newAxleZ z k N d w j = z j := by
  unfold newAxleZ
  rw [lay_o (by omega) h, lay_o (by omega) h, lay_o (by omega) h, lay_o (by omega) h]
theorem addAx_app {S : ST} {c N b i : Nat} {d w : Int32} : addAx S c N d w b i = if b = c ∧ i = 3 then nI (N + 1) else if b = c + 3 ∧ i = N then 0 else if b = c + 2 ∧ i = N then d else if b = c + 1 ∧ i = N then w else S b i := by
  unfold addAx
  rw [stw_app, stw_app, stw_app, stw_app]
/-- an axle more -/
theorem axle_rel {S : ST} {A : AS} {n k N : Nat} {d w : Int32} (h : CRel S A n) (hk : k < n) (hN : CartOk (qOf (aZ A) k) N) (h5 : N < 5) (hd : 2 ≤ d ∧ d ≤ 40) (hw : 1 ≤ w ∧ w ≤ 200) : CRel (addAx S (1 + 3 + 4 * k) N d w) (setZ A (newAxleZ (aZ A) k N d w)) n ∧ CartOk (qOf (newAxleZ (aZ A) k N d w) k) (N + 1) := by
  have hr := h.1.2.2.2 k hk N hN
  have n6 := h.1.n6
  have hok : CartOk (qOf (newAxleZ (aZ A) k N d w) k) (N + 1) := by
    obtain ⟨h1, h2, h3, h4, a0, ha0, hl⟩ := hN
    refine ⟨by rw [naz_q h5, if_pos rfl], by omega, by omega, fun b hb => ?_, a0, by omega, ?_⟩
    · unfold wQ dQ lQ at h4 ⊢
      rw [naz_q h5, naz_q h5, naz_q h5]
      by_cases e : b = N
      · rw [if_neg (by omega), if_neg (by omega), if_neg (by omega), if_pos (by omega), if_neg (by omega), if_neg (by omega), if_pos (by omega), if_neg (by omega), if_pos (by omega)]
        exact ⟨hw.1, hw.2, by grind, hd.2, Or.inl rfl⟩
      · have g := h4 b (by omega)
        rw [if_neg (by omega), if_neg (by omega), if_neg (by omega), if_neg (by omega), if_neg (by omega), if_neg (by omega), if_neg (by omega), if_neg (by omega), if_neg (by omega), if_neg (by omega), if_neg (by omega), if_neg (by omega)]
        exact g
    · unfold lQ at hl ⊢
      rw [naz_q h5, if_neg (by omega), if_neg (by omega), if_neg (by omega), if_neg (by omega)]
      exact hl
  refine ⟨h.set (fun b hb => addAx_n (by omega)) (h.1.one hk (fun i hi => naz_o h5 hi) (fun b hb hb2 => addAx_n (by omega)) (N' := N + 1) hok ?_) ?_ (congrFun (addAx_n (by omega)) 3), hok⟩
  · refine ⟨by rw [addAx_app, if_pos ⟨rfl, rfl⟩], fun i hi => ?_, fun b hb => ?_⟩
    · rw [addAx_app, naz_q h5, if_neg (by omega), if_neg (by omega), if_neg (by omega), if_neg (by omega), if_neg (by omega), if_neg (by omega), if_neg (by omega), if_neg (by omega)]
      exact hr.2.1 i hi
    · unfold wQ dQ lQ
      rw [addAx_app, addAx_app, addAx_app, naz_q h5, naz_q h5, naz_q h5]
      by_cases e : b = N
      · subst e
        refine ⟨?_, ?_, ?_⟩
        · rw [if_neg (by omega), if_neg (by omega), if_neg (by omega), if_pos (by omega), if_neg (by omega), if_neg (by omega), if_neg (by omega), if_pos (by omega)]
        · rw [if_neg (by omega), if_neg (by omega), if_pos (by omega), if_neg (by omega), if_neg (by omega), if_pos (by omega)]
        · rw [if_neg (by omega), if_pos (by omega), if_neg (by omega), if_pos (by omega)]
      · have g := hr.2.2 b (by omega)
        unfold wQ dQ lQ at g
        refine ⟨?_, ?_, ?_⟩
        · rw [if_neg (by omega), if_neg (by omega), if_neg (by omega), if_neg (by omega), if_neg (by omega), if_neg (by omega), if_neg (by omega), if_neg (by omega)]
          exact g.1
        · rw [if_neg (by omega), if_neg (by omega), if_neg (by omega), if_neg (by omega), if_neg (by omega), if_neg (by omega), if_neg (by omega), if_neg (by omega)]
          exact g.2.1
        · rw [if_neg (by omega), if_neg (by omega), if_neg (by omega), if_neg (by omega), if_neg (by omega), if_neg (by omega), if_neg (by omega), if_neg (by omega)]
          exact g.2.2
  · exact bool_one (k := k) h.b1 (fun b hb i hi => by
      rw [addAx_app, if_neg (by omega)]
      by_cases e : 1 + 3 + 4 * b + 3 = 1 + 3 + 4 * k + 3 ∧ i = N
      · rw [if_pos e]
        exact Or.inr (Or.inl rfl)
      · rw [if_neg e, if_neg (by omega), if_neg (by omega)]
        exact Or.inl rfl)
theorem begC_app {S : ST} {c b i : Nat} {w : Int32} : begC S c w b i = if b = c ∧ i = 7 then -5 else if b = c ∧ i = 6 then -5 else if b = c ∧ i = 5 then -5 else if b = c ∧ i = 4 then -5 else if b = c ∧ i = 3 then 1 else if b = c + 3 ∧ i = 0 then 0 else if b = c + 2 ∧ i = 0 then 0 else if b = c + 1 ∧ i = 0 then w else S b i := by
  unfold begC
  rw [stw_app, stw_app, stw_app, stw_app, addAx_app, stw_app]
  by_cases e : b = c ∧ i = 3
  · rw [if_pos e, if_pos e]
    rfl
  · rw [if_neg e, if_neg e, if_neg e]
theorem addC_app {S : ST} {n b i : Nat} {w : Int32} : addC S 1 n w b i = if b = 1 ∧ i = 2 then nI (n + 1) else begC S (1 + 3 + 4 * n) w b i := by
  unfold addC
  rw [stw_app]
theorem ncz_q {z : Nat → Int32} {n k j : Nat} {w : Int32} (hj : j < 20) : qOf (newCartZ z n w) k j = if k = n then (if j = 0 then 1 else if j ≤ 4 then -5 else if j = 5 then w else 0) else qOf z k j := by
  unfold qOf newCartZ
  rw [if_neg (by omega)]
  by_cases e : k = n
  · subst e
    rw [if_pos (by omega), if_pos rfl]
    by_cases e0 : j = 0
    · rw [if_pos (by omega), if_pos e0]
    · rw [if_neg (by omega), if_neg e0]
      by_cases e4 : j ≤ 4
      · rw [if_pos (by omega), if_pos e4]
      · rw [if_neg (by omega), if_neg e4]
        by_cases e5 : j = 5
        · rw [if_pos (by omega), if_pos e5]
        · rw [if_neg (by omega), if_neg e5]
  · rw [if_neg (by omega), if_neg e]
/-- a cart more -/
theorem cart_rel {S : ST} {A : AS} {n : Nat} {w : Int32} (h : CRel S A n) (h6 : n < 6) (hw : 1 ≤ w ∧ w ≤ 200) : CRel (addC S 1 n w) (setZ A (newCartZ (aZ A) n w)) (n + 1) ∧ CartOk (qOf (newCartZ (aZ A) n w) n) 1 := by
  obtain ⟨⟨g1, g2, g3, g4⟩, h2, h3, h4⟩ := h.1
  have hz : ∀ j, j < 9 + 20 * n → j ≠ 6 → newCartZ (aZ A) n w j = aZ A j := fun j hj hj6 => by
    unfold newCartZ
    rw [if_neg hj6, if_neg (by omega)]
  have hz6 : newCartZ (aZ A) n w 6 = nI (n + 1) := if_pos rfl
  have hok : CartOk (qOf (newCartZ (aZ A) n w) n) 1 := by
    refine ⟨by rw [ncz_q (by decide), if_pos rfl]; rfl, by decide, by decide, fun b hb => ?_, 0, by decide, ?_⟩
    · have hb0 : b = 0 := by omega
      subst hb0
      unfold wQ dQ lQ
      rw [ncz_q (by decide), ncz_q (by decide), ncz_q (by decide)]
      simp [hw.1, hw.2]
    · unfold lQ
      rw [ncz_q (by decide), if_pos rfl]
      rfl
  have hbn : ∀ b, (b < 1 ∨ (1 < b ∧ b < 1 + 3 + 4 * n) ∨ 1 + 3 + 4 * n + 3 < b) → addC S 1 n w b = S b := fun b hb => by
    unfold addC
    rw [stw_n (by omega), begC_n (by omega)]
  refine ⟨h.set (fun b hb => hbn b (by omega)) ⟨⟨fun i hi => by rw [hz i (by omega) (by omega)]; exact g1 i hi, hz6, by omega, fun k hk => ?_⟩, fun i hi => by rw [hbn _ (by omega), hz i (by omega) (by omega)]; exact h2 i hi, fun i hi => ?_, fun k hk N hN => ?_⟩ ?_ (congrFun (hbn _ (by omega)) 3), hok⟩
  · by_cases e : k = n
    · subst e
      exact ⟨1, hok⟩
    · obtain ⟨N, hN⟩ := g4 k (by omega)
      exact ⟨N, hN.to (fun i hi => by rw [ncz_q hi, if_neg e])⟩
  · rw [addC_app]
    by_cases e : i = 0
    · subst e
      rw [if_pos ⟨rfl, rfl⟩]
      exact hz6.symm
    · rw [if_neg (by omega), begC_n (by omega), hz _ (by omega) (by omega)]
      exact h3 i hi
  · by_cases e : k = n
    · subst e
      have hN1 : N = 1 := hN.uniq hok
      subst hN1
      refine ⟨by rw [addC_app, if_neg (by omega), begC_app]; simp; rfl, fun i hi => ?_, fun b hb => ?_⟩
      · rw [addC_app, if_neg (by omega), begC_app, ncz_q (by omega)]
        rcases (show i = 0 ∨ i = 1 ∨ i = 2 ∨ i = 3 by omega) with rfl | rfl | rfl | rfl <;> simp
      · have hb0 : b = 0 := by omega
        subst hb0
        unfold wQ dQ lQ
        rw [addC_app, addC_app, addC_app, if_neg (by omega), if_neg (by omega), if_neg (by omega), begC_app, begC_app, begC_app, ncz_q (by decide), ncz_q (by decide), ncz_q (by decide)]
        simp
    · have hN2 : CartOk (qOf (aZ A) k) N := hN.to (fun i hi => by rw [ncz_q hi, if_neg e])
      exact ((h4 k (by omega) N hN2).to (fun j hj => hbn _ (by omega))).toq hN.2.2.1 (fun i hi => by rw [ncz_q hi, if_neg e])
  · exact bool_one (k := n) h.b1 (fun b hb i hi => by
      rw [addC_app, if_neg (by omega)]
      by_cases e : b = n
      · subst e
        rw [begC_app, if_neg (by omega), if_neg (by omega), if_neg (by omega), if_neg (by omega), if_neg (by omega)]
        by_cases e2 : i = 0
        · rw [if_pos ⟨rfl, e2⟩]
          exact Or.inr (Or.inl rfl)
        · rw [if_neg (by omega), if_neg (by omega), if_neg (by omega)]
          exact Or.inl rfl
      · rw [begC_n (by omega)]
        exact Or.inl rfl)
/-- only the rows of the roll are others -/
theorem CRel.keep {S S' : ST} {A : AS} {n : Nat} (h : CRel S A n) (e : ∀ k, (k < 169 ∨ 180 < k) → S' k = S k) : CRel S' A n :=
  h.set (z := aZ A) (fun k hk => e k (by omega)) (h.1.to (fun j hj => e _ (by omega))) (fun a ha i hi => by rw [e _ (by omega)]; exact h.b1 a ha i hi) (congrFun (e 165 (by omega)) 3)

