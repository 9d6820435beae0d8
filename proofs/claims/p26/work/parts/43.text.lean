/-! THE TEXT: a reader, character by character: number, in a distance (1), axles of the cart, distance, what was read (distance, weight; a distance of 0 begins a cart) -/
abbrev PSt : Type := Nat × Nat × Nat × Nat × List (Nat × Nat)
def wholeP (p : PSt) : Prop := if p.2.1 = 1 then 2 ≤ p.1 ∧ p.1 ≤ 40 else 1 ≤ p.1 ∧ p.1 ≤ 200
def limP (p : PSt) : Nat := if p.2.1 = 1 then 40 else 200
def dgt (c : Int32) : Nat := (c - 48).toNatClampNeg
noncomputable def pstep (p : PSt) (c : Int32) : Option PSt := by
  classical
  exact if 48 ≤ c ∧ c ≤ 57 then (if p.1 * 10 + dgt c = 0 ∨ limP p < p.1 * 10 + dgt c then none else some (p.1 * 10 + dgt c, p.2))
    else if ¬ wholeP p then none
    else if p.2.1 = 1 then (if c = 42 then some (0, 0, p.2.2.1, p.1, p.2.2.2.2) else none)
    else if c = 59 then some (0, 0, 1, 0, p.2.2.2.2 ++ [(p.2.2.2.1, p.1)])
    else if c = 43 ∧ p.2.2.1 < 5 then some (0, 1, p.2.2.1 + 1, p.2.2.2.1, p.2.2.2.2 ++ [(p.2.2.2.1, p.1)])
    else none
/-- the rest of the text from a place on: the fault, or what was read -/
noncomputable def prun (f : Nat → Int32) : Nat → Nat → PSt → Nat ⊕ List (Nat × Nat)
  | 0, pos, p => by
    classical
    exact if p.2.1 = 1 ∨ ¬ wholeP p then .inl pos else .inr (p.2.2.2.2 ++ [(p.2.2.2.1, p.1)])
  | r + 1, pos, p => match pstep p (f pos) with
    | none => .inl pos
    | some p' => prun f r (pos + 1) p'
def p0 : PSt := (0, 0, 1, 0, [])
noncomputable def parse (f : Nat → Int32) (n : Nat) : Nat ⊕ List (Nat × Nat) := prun f n 0 p0
def cntI (l : List (Nat × Nat)) : Nat := l.countP (fun x => x.1 == 0)
/-- carts of at most five axles: a axles stand already -/
def wfI : List (Nat × Nat) → Nat → Prop
  | [], _ => True
  | x :: t, a => (1 ≤ x.2 ∧ x.2 ≤ 200) ∧ (if x.1 = 0 then wfI t 1 else (2 ≤ x.1 ∧ x.1 ≤ 40) ∧ (1 ≤ a ∧ a < 5) ∧ wfI t (a + 1))
def trI : List (Nat × Nat) → Nat → Nat
  | [], a => a
  | x :: t, a => if x.1 = 0 then trI t 1 else trI t (a + 1)
theorem wfI_app {x : Nat × Nat} : ∀ (l : List (Nat × Nat)) (a : Nat), wfI (l ++ [x]) a ↔ wfI l a ∧ (1 ≤ x.2 ∧ x.2 ≤ 200) ∧ (x.1 = 0 ∨ (2 ≤ x.1 ∧ x.1 ≤ 40) ∧ 1 ≤ trI l a ∧ trI l a < 5) := by
  intro l
  induction l with
  | nil =>
    intro a
    simp only [List.nil_append, wfI, trI, true_and]
    by_cases h : x.1 = 0 <;> simp [h]
  | cons y t ih =>
    intro a
    simp only [List.cons_append, wfI, trI]
    by_cases h : y.1 = 0
    · simp only [h, if_true, ih]
      constructor
      · rintro ⟨h1, h2, h3⟩; exact ⟨⟨h1, h2⟩, h3⟩
      · rintro ⟨⟨h1, h2⟩, h3⟩; exact ⟨h1, h2, h3⟩
    · simp only [h, if_false, ih]
      constructor
      · rintro ⟨h1, h2, h3, h4, h5⟩; exact ⟨⟨h1, h2, h3, h4⟩, h5⟩
      · rintro ⟨⟨h1, h2, h3, h4⟩, h5⟩; exact ⟨h1, h2, h3, h4, h5⟩
theorem trI_app {x : Nat × Nat} : ∀ (l : List (Nat × Nat)) (a : Nat), trI (l ++ [x]) a = if x.1 = 0 then 1 else trI l a + 1 := by
  intro l
  induction l with
  | nil => intro a; simp only [List.nil_append, trI]
  | cons y t ih =>
    intro a
    simp only [List.cons_append, trI]
    by_cases h : y.1 = 0 <;> simp only [h, if_true, if_false, ih]
theorem cntI_app {x : Nat × Nat} (l : List (Nat × Nat)) : cntI (l ++ [x]) = cntI l + if x.1 = 0 then 1 else 0 := by
  unfold cntI
  rw [List.countP_append]
  by_cases h : x.1 = 0 <;> simp [h]
/-- what always holds of the reader -/
def PInv (p : PSt) : Prop := p.1 ≤ limP p ∧ (p.2.1 = 0 ∨ p.2.1 = 1) ∧ 1 ≤ p.2.2.1 ∧ p.2.2.1 ≤ 5 ∧ p.2.2.2.1 ≤ 40 ∧ (p.2.2.1 = 1 → p.2.2.2.1 = 0 ∧ p.2.1 = 0) ∧ (1 < p.2.2.1 → (p.2.1 = 0 → 2 ≤ p.2.2.2.1) ∧ trI p.2.2.2.2 0 = p.2.2.1 - 1) ∧ wfI p.2.2.2.2 0
theorem PInv.push {p : PSt} (h : PInv p) (hd : p.2.1 = 0) (hw : wholeP p) : wfI (p.2.2.2.2 ++ [(p.2.2.2.1, p.1)]) 0 ∧ trI (p.2.2.2.2 ++ [(p.2.2.2.1, p.1)]) 0 = p.2.2.1 ∧ cntI (p.2.2.2.2 ++ [(p.2.2.2.1, p.1)]) = cntI p.2.2.2.2 + if p.2.2.1 = 1 then 1 else 0 := by
  obtain ⟨h1, h2, h3, h4, h5, h6, h7, h8⟩ := h
  unfold wholeP at hw
  rw [if_neg (by omega)] at hw
  rw [wfI_app, trI_app, cntI_app]
  by_cases ha : p.2.2.1 = 1
  · have := h6 ha
    refine ⟨⟨h8, hw, Or.inl this.1⟩, ?_, ?_⟩
    · rw [if_pos this.1, ha]
    · rw [if_pos this.1, if_pos ha]
  · have h9 := h7 (by omega)
    have h10 := h9.1 hd
    refine ⟨⟨h8, hw, Or.inr ⟨⟨h10, h5⟩, by omega, by omega⟩⟩, ?_, ?_⟩
    · rw [if_neg (by simp only; omega), h9.2]
      omega
    · rw [if_neg (by simp only; omega), if_neg ha]
def szP (p : PSt) : Nat := 2 * p.2.2.2.2.length + if p.1 = 0 then 0 else 1
theorem wholeP.pos {p : PSt} (h : wholeP p) : ¬ p.1 = 0 := by
  unfold wholeP at h
  split at h <;> omega
theorem pstep_inv {p p' : PSt} {c : Int32} (h : PInv p) (hs : pstep p c = some p') : PInv p' ∧ szP p' ≤ szP p + 1 := by
  unfold szP
  have hpu := PInv.push h
  obtain ⟨h1, h2, h3, h4, h5, h6, h7, h8⟩ := h
  unfold pstep at hs
  split at hs
  · split at hs
    · cases hs
    · next q =>
      cases hs
      refine ⟨⟨?_, h2, h3, h4, h5, h6, h7, h8⟩, by simp only; split <;> split <;> omega⟩
      show p.1 * 10 + dgt c ≤ limP p
      omega
  · split at hs
    · cases hs
    · next hw =>
      have hw2 : wholeP p := Classical.byContradiction hw
      split at hs
      · next hd =>
        split at hs
        · cases hs
          unfold wholeP at hw2
          rw [if_pos hd] at hw2
          refine ⟨⟨by simp [limP], Or.inl rfl, h3, h4, hw2.2, fun q => ?_, fun q => ⟨fun _ => hw2.1, (h7 q).2⟩, h8⟩, by simp; split <;> omega⟩
          have := h6 q
          omega
        · cases hs
      · next hd =>
        have hd0 : p.2.1 = 0 := by omega
        obtain ⟨g1, g2, g3⟩ := hpu hd0 hw2
        split at hs
        · cases hs
          exact ⟨⟨by simp [limP], Or.inl rfl, Nat.le_refl _, by simp, by simp, fun _ => ⟨rfl, rfl⟩, fun q => absurd q (by simp), g1⟩, by rw [if_neg (wholeP.pos hw2)]; simp; omega⟩
        · split at hs
          · next hc =>
            cases hs
            refine ⟨⟨by simp [limP], Or.inr rfl, by simp, by simp; omega, h5, fun q => ?_, fun _ => ⟨fun q => absurd q (by simp), ?_⟩, g1⟩, by rw [if_neg (wholeP.pos hw2)]; simp; omega⟩
            · simp at q
              omega
            · show trI (p.2.2.2.2 ++ [(p.2.2.2.1, p.1)]) 0 = p.2.2.1 + 1 - 1
              rw [g2]
              omega
          · cases hs
/-- the reader's fields hold p -/
def PRel (S : ST) (p : PSt) : Prop := S 165 7 = nI p.1 ∧ S 165 10 = nI p.2.1 ∧ S 165 9 = nI p.2.2.1 ∧ S 165 8 = nI p.2.2.2.1 ∧ S 165 4 = nI p.2.2.2.2.length ∧ S 165 5 = nI (cntI p.2.2.2.2 + if p.2.2.1 = 1 then 1 else 0) ∧ ∀ j x, p.2.2.2.2[j]? = some x → S 167 j = nI x.2 ∧ S 168 j = nI x.1
def TF (S S2 : ST) : Prop := (∀ k, k ≠ 165 → k ≠ 167 → k ≠ 168 → S2 k = S k) ∧ S2 165 3 = S 165 3 ∧ S2 165 6 = S 165 6
theorem TF.rf {S : ST} : TF S S := ⟨fun _ _ _ _ => rfl, rfl, rfl⟩
theorem TF.tr {S S1 S2 : ST} (h : TF S S1) (h2 : TF S1 S2) : TF S S2 := ⟨fun k a b c => (h2.1 k a b c).trans (h.1 k a b c), h2.2.1.trans h.2.1, h2.2.2.trans h.2.2⟩
def endS (S : ST) (n : Nat) : ST := stw (stw (stw S 167 n (S 165 7)) 168 n (S 165 8)) 165 4 (nI (n + 1))
def begS (S : ST) (x : Int32) : ST := stw (stw S 165 7 0) 165 10 x
def begK (S : ST) : ST := begS (stw (stw (stw S 165 5 (S 165 5 + 1)) 165 9 1) 165 8 0) 0
theorem endS_rel {S : ST} {p : PSt} (h : PRel S p) : (∀ j x, (p.2.2.2.2 ++ [(p.2.2.2.1, p.1)])[j]? = some x → endS S p.2.2.2.2.length 167 j = nI x.2 ∧ endS S p.2.2.2.2.length 168 j = nI x.1) ∧ endS S p.2.2.2.2.length 165 4 = nI (p.2.2.2.2 ++ [(p.2.2.2.1, p.1)]).length ∧ (∀ i, i ≠ 4 → endS S p.2.2.2.2.length 165 i = S 165 i) ∧ TF S (endS S p.2.2.2.2.length) := by
  obtain ⟨h1, h2, h3, h4, h5, h6, h7⟩ := h
  refine ⟨fun j x hx => ?_, ?_, fun i hi => ?_, ⟨fun k a b c => ?_, ?_, ?_⟩⟩
  · unfold endS
    by_cases e : j < p.2.2.2.2.length
    · rw [List.getElem?_append_left e] at hx
      have := h7 j x hx
      simp [stw_app, show j ≠ p.2.2.2.2.length by omega, this]
    · have hj : j = p.2.2.2.2.length := by
        have := (List.getElem?_eq_some_iff.mp hx).1
        simp at this
        omega
      subst hj
      rw [List.getElem?_append_right (Nat.le_refl _)] at hx
      simp at hx
      subst hx
      simp [stw_app, h1, h4]
  · unfold endS
    simp [stw_app]
  · unfold endS
    simp [stw_app, hi]
  · unfold endS
    rw [stw_n a, stw_n c, stw_n b]
  · unfold endS
    simp [stw_app]
  · unfold endS
    simp [stw_app]
set_option maxHeartbeats 4000000 in
set_option maxRecDepth 100000 in
theorem c_X1_beginNumber {l : Launch} {b : Nat} {D : va_G} {cA : Nat → ClassId} {ad : Nat → Nat} {S : ST} {x : Int32} (hx : x = 0 ∨ x = 1) : MT l b D cA NN ad zT yX1_beginNumber cX1_beginNumber 2 none 0 [.ref (ad 165), .int x] S (EV (begS S x)) := by
  refine MT.intro (j := 0) (ls := [some (.ref (ad 165)), some (.int x)]) pn_X1 rfl rfl rfl (fun pr en s0 mi below meth c' K _ => ?_)
  refine g_aload_n K dX1_beginNumber_0 rfl ?_
  refine g_iconst K dX1_beginNumber_1 kc_0 ?_
  refine g_puti K lk_X1_63 lq_X1_7 dX1_beginNumber_2 (put_i _) rfl (rfl : kd 165 = 1) (by decide) (by decide) ?_
  refine g_aload_n K dX1_beginNumber_5 rfl ?_
  refine g_iload_n K dX1_beginNumber_6 rfl ?_
  refine g_puti K lk_X1_42 lq_X1_10 dX1_beginNumber_7 (put_z hx) rfl (rfl : kd 165 = 1) (by decide) (by decide) ?_
  refine g_vret K dX1_beginNumber_10 ⟨rfl, ?_⟩
  exact rfl
set_option maxHeartbeats 4000000 in
set_option maxRecDepth 100000 in
theorem c_X1_beginCart {l : Launch} {b : Nat} {D : va_G} {cA : Nat → ClassId} {ad : Nat → Nat} {S : ST}  : MT l b D cA NN ad zT yX1_beginCart cX1_beginCart 1 none 1 [.ref (ad 165)] S (EV (begK S)) := by
  refine MT.intro (j := 0) (ls := [some (.ref (ad 165))]) pn_X1 rfl rfl rfl (fun pr en s0 mi below meth c' K _ => ?_)
  refine g_aload_n K dX1_beginCart_0 rfl ?_
  refine g_dup K dX1_beginCart_1 rfl ?_
  refine g_geti K lk_X1_32 dX1_beginCart_2 rfl (rfl : kd 165 = 1) (by decide) (by decide) rfl ?_
  refine g_iconst K dX1_beginCart_5 kc_1 ?_
  refine g_iadd K dX1_beginCart_6 ?_
  refine g_puti K lk_X1_32 lq_X1_5 dX1_beginCart_7 (put_i _) rfl (rfl : kd 165 = 1) (by decide) (by decide) ?_
  refine g_aload_n K dX1_beginCart_10 rfl ?_
  refine g_iconst K dX1_beginCart_11 kc_1 ?_
  refine g_puti K lk_X1_53 lq_X1_9 dX1_beginCart_12 (put_i _) rfl (rfl : kd 165 = 1) (by decide) (by decide) ?_
  refine g_aload_n K dX1_beginCart_15 rfl ?_
  refine g_iconst K dX1_beginCart_16 kc_0 ?_
  refine g_puti K lk_X1_56 lq_X1_8 dX1_beginCart_17 (put_i _) rfl (rfl : kd 165 = 1) (by decide) (by decide) ?_
  refine g_aload_n K dX1_beginCart_20 rfl ?_
  refine g_iconst K dX1_beginCart_21 kc_0 ?_
  refine g_callVv K (c_X1_beginNumber (Or.inl rfl)) mw_X1_beginNumber ml_X1_59 dX1_beginCart_22 (by rfl) rfl rfl (by decide) (by simp [Value.category]) ⟨by decide, by decide⟩ ⟨by decide, by decide⟩ ?_
  refine g_vret K dX1_beginCart_25 ⟨rfl, ?_⟩
  exact rfl
set_option maxHeartbeats 4000000 in
set_option maxRecDepth 100000 in
theorem c_X1_isWhole {l : Launch} {b : Nat} {D : va_G} {cA : Nat → ClassId} {ad : Nat → Nat} {S : ST} {p : PSt} (hP : PRel S p) (hI : PInv p) : MT l b D cA NN ad zT yX1_isWhole cX1_isWhole 1 (some .boolean) 1 [.ref (ad 165)] S (RI (fun r S2 => (wholeP p → r = 1) ∧ (¬ wholeP p → r = 0) ∧ S2 = S)) := by
  have hl : p.1 ≤ 200 := Nat.le_trans hI.1 (by unfold limP; split <;> decide)
  have h01 := hI.2.1
  refine MT.intro (j := 0) (ls := [some (.ref (ad 165))]) pn_X1 rfl rfl rfl (fun pr en s0 mi below meth c' K _ => ?_)
  refine g_aload_n K dX1_isWhole_0 rfl ?_
  refine g_geti K lk_X1_42 dX1_isWhole_1 rfl (rfl : kd 165 = 1) (by decide) (by decide) hP.2.1 ?_
  refine g_if_eq (tgt := 17) K dX1_isWhole_4 (by decide) (fun u4 => ?_) (fun u4 => ?_)
  · have hd : p.2.1 = 0 := (nI_eq (b := 0) (by omega) (by decide)).mp u4
    refine g_aload_n K dX1_isWhole_17 rfl ?_
    refine g_geti K lk_X1_63 dX1_isWhole_18 rfl (rfl : kd 165 = 1) (by decide) (by decide) hP.1 ?_
    refine g_callSi K c_X6_isWeight mw_X6_isWeight ml_X1_70 dX1_isWhole_21 (by rfl) rfl (by simp [Value.category]) ⟨by decide, by decide⟩ ⟨by decide, by decide⟩ ?_
    refine g_zret K dX1_isWhole_24 (by first | (split <;> first | exact Or.inr rfl | exact Or.inl rfl)) ⟨_, rfl, ?_⟩
    unfold wholeP
    have e1 : (1 : Int32) ≤ nI p.1 ↔ 1 ≤ p.1 := nI_leI (a := 1) (by decide) (by omega)
    have e2 : (2 : Int32) ≤ nI p.1 ↔ 2 ≤ p.1 := nI_leI (a := 2) (by decide) (by omega)
    have e3 : nI p.1 ≤ 40 ↔ p.1 ≤ 40 := nI_leI (b := 40) (by omega) (by decide)
    have e4 : nI p.1 ≤ 200 ↔ p.1 ≤ 200 := nI_leI (b := 200) (by omega) (by decide)
    rw [hd]
    simp only [e1, e2, e3, e4]
    grind
  · have hd : p.2.1 = 1 := h01.resolve_left (fun q => u4 (by rw [q]; rfl))
    refine g_aload_n K dX1_isWhole_7 rfl ?_
    refine g_geti K lk_X1_63 dX1_isWhole_8 rfl (rfl : kd 165 = 1) (by decide) (by decide) hP.1 ?_
    refine g_callSi K c_X6_isDistance mw_X6_isDistance ml_X1_66 dX1_isWhole_11 (by rfl) rfl (by simp [Value.category]) ⟨by decide, by decide⟩ ⟨by decide, by decide⟩ ?_
    refine g_goto (tgt := 24) K dX1_isWhole_14 (by decide) ?_
    refine g_zret K dX1_isWhole_24 (by first | (split <;> first | exact Or.inr rfl | exact Or.inl rfl)) ⟨_, rfl, ?_⟩
    unfold wholeP
    have e1 : (1 : Int32) ≤ nI p.1 ↔ 1 ≤ p.1 := nI_leI (a := 1) (by decide) (by omega)
    have e2 : (2 : Int32) ≤ nI p.1 ↔ 2 ≤ p.1 := nI_leI (a := 2) (by decide) (by omega)
    have e3 : nI p.1 ≤ 40 ↔ p.1 ≤ 40 := nI_leI (b := 40) (by omega) (by decide)
    have e4 : nI p.1 ≤ 200 ↔ p.1 ≤ 200 := nI_leI (b := 200) (by omega) (by decide)
    rw [hd]
    simp only [e1, e2, e3, e4]
    grind
set_option maxHeartbeats 4000000 in
set_option maxRecDepth 100000 in
theorem c_X1_endAxle {l : Launch} {b : Nat} {D : va_G} {cA : Nat → ClassId} {ad : Nat → Nat} {S : ST} {n : Nat} (hn : S 165 4 = nI n) (h60 : n < 60) : MT l b D cA NN ad zT yX1_endAxle cX1_endAxle 1 none 0 [.ref (ad 165)] S (EV (endS S n)) := by
  refine MT.intro (j := 0) (ls := [some (.ref (ad 165))]) pn_X1 rfl rfl rfl (fun pr en s0 mi below meth c' K _ => ?_)
  refine g_aload_n K dX1_endAxle_0 rfl ?_
  refine g_geti K lk_X1_29 dX1_endAxle_1 rfl (rfl : kd 165 = 1) (by decide) (by decide) rfl ?_
  refine g_bipush K dX1_endAxle_4 kb_60 ?_
  refine g_icmp_lt (tgt := 10) K dX1_endAxle_6 (by decide) (fun u6 => ?_) (fun u6 => absurd (by rw [hn]; exact nI_lt (b := 60) h60 (by decide)) u6)
  refine g_aload_n K dX1_endAxle_10 rfl ?_
  refine g_getr (j := 167) K lk_X1_15 dX1_endAxle_11 rfl (by decide) (rfl : kd 165 = 1) (by decide) (by decide) rfl (rfl : rs 165 1 = 167) ?_
  refine g_aload_n K dX1_endAxle_14 rfl ?_
  refine g_geti K lk_X1_29 dX1_endAxle_15 rfl (rfl : kd 165 = 1) (by decide) (by decide) rfl ?_
  refine g_aload_n K dX1_endAxle_18 rfl ?_
  refine g_geti K lk_X1_63 dX1_endAxle_19 rfl (rfl : kd 165 = 1) (by decide) (by decide) rfl ?_
  refine g_iast (j := n) K dX1_endAxle_22 hn ln_167 h60 (rfl : kd 167 = 8) (by decide) rfl ?_
  refine g_aload_n K dX1_endAxle_23 rfl ?_
  refine g_getr (j := 168) K lk_X1_19 dX1_endAxle_24 rfl (by decide) (rfl : kd 165 = 1) (by decide) (by decide) rfl (rfl : rs 165 2 = 168) ?_
  refine g_aload_n K dX1_endAxle_27 rfl ?_
  refine g_geti K lk_X1_29 dX1_endAxle_28 rfl (rfl : kd 165 = 1) (by decide) (by decide) (show stw S 167 n (S 165 7) 165 4 = nI n by rw [stw_n (by decide)]; exact hn) ?_
  refine g_aload_n K dX1_endAxle_31 rfl ?_
  refine g_geti K lk_X1_56 dX1_endAxle_32 rfl (rfl : kd 165 = 1) (by decide) (by decide) (show stw S 167 n (S 165 7) 165 8 = S 165 8 by rw [stw_n (by decide)]) ?_
  refine g_iast (j := n) K dX1_endAxle_35 rfl ln_168 h60 (rfl : kd 168 = 8) (by decide) rfl ?_
  refine g_aload_n K dX1_endAxle_36 rfl ?_
  refine g_dup K dX1_endAxle_37 rfl ?_
  refine g_geti K lk_X1_29 dX1_endAxle_38 rfl (rfl : kd 165 = 1) (by decide) (by decide) (show stw (stw S 167 n (S 165 7)) 168 n (S 165 8) 165 4 = nI n by rw [stw_n (by decide), stw_n (by decide)]; exact hn) ?_
  refine g_iconst K dX1_endAxle_41 kc_1 ?_
  refine g_iadd K dX1_endAxle_42 ?_
  refine g_puti K lk_X1_29 lq_X1_4 dX1_endAxle_43 (put_i _) rfl (rfl : kd 165 = 1) (by decide) (by decide) ?_
  refine g_vret K dX1_endAxle_46 ⟨rfl, ?_⟩
  rw [nI_1]
  rfl
