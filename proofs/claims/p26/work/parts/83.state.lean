/-! what is read of a state -/
theorem CRel.uniq {S S2 : ST} {A : AS} {n n2 : Nat} (h : CRel S A n) (h2 : CRel S2 A n2) : n2 = n := by
  have a := h.1.n6
  have b := h2.1.n6
  have e1 : aZ A 6 = nI n := h.1.1.2.1
  have e2 : aZ A 6 = nI n2 := h2.1.1.2.1
  exact (nI_eq (by omega) (by omega)).mp (e2.symm.trans e1)
theorem rd {l : Launch} {b : Nat} {D : va_G} {cA : Nat → ClassId} {ad : Nat → Nat} {y : MethodName} {code : ByteArray} {maxL d : Nat} {ret2 : Option FieldType} {av : List Value} {S : ST} {A : AS} {n : Nat} {f v : Int32} (hC : CRel S A n) (h : MT l b D cA NN ad zT y code maxL ret2 d av S (RI (CPost (f, A) S))) (e : f = v) : MT l b D cA NN ad zT y code maxL ret2 d av S (RI (fun r S2 => r = v ∧ CRel S2 A n)) := h.weak (fun w S2 q => by
  obtain ⟨r, rfl, hr, ⟨n2, h2⟩, -⟩ := q
  refine ⟨r, rfl, Eq.trans hr e, ?_⟩
  have h3 : CRel S2 A n2 := h2
  rw [← hC.uniq h3]
  exact h3)
theorem rq {l : Launch} {b : Nat} {D : va_G} {cA : Nat → ClassId} {ad : Nat → Nat} {y : MethodName} {code : ByteArray} {maxL d : Nat} {ret2 : Option FieldType} {av : List Value} {S : ST} {A : AS} {n : Nat} {o : Int32 × AS} {v : Int32} (hC : CRel S A n) (h : MT l b D cA NN ad zT y code maxL ret2 d av S (RI (CPost o S))) (e : o = (v, A)) : MT l b D cA NN ad zT y code maxL ret2 d av S (RI (fun r S2 => r = v ∧ CRel S2 A n)) := by
  subst e
  exact rd hC h rfl
theorem ra {l : Launch} {b : Nat} {D : va_G} {cA : Nat → ClassId} {ad : Nat → Nat} {y : MethodName} {code : ByteArray} {maxL d : Nat} {ret2 : Option FieldType} {av : List Value} {S : ST} {A2 : AS} {o : Int32 × AS} {v : Int32} (h : MT l b D cA NN ad zT y code maxL ret2 d av S (RI (CPost o S))) (e : o = (v, A2)) : MT l b D cA NN ad zT y code maxL ret2 d av S (RI (fun r S2 => r = v ∧ ∃ n, CRel S2 A2 n)) := by
  subst e
  exact h.weak (fun w S2 q => by
    obtain ⟨r, rfl, hr, h2, -⟩ := q
    exact ⟨r, rfl, hr, h2⟩)
theorem rdf {l : Launch} {b : Nat} {D : va_G} {cA : Nat → ClassId} {ad : Nat → Nat} {y : MethodName} {code : ByteArray} {maxL d : Nat} {ret2 : Option FieldType} {av : List Value} {S : ST} {A : AS} {n : Nat} {f v : UInt32} (hC : CRel S A n) (h : MT l b D cA NN ad zT y code maxL ret2 d av S (RF (FPost f A S))) (e : f = v) : MT l b D cA NN ad zT y code maxL ret2 d av S (RF (fun r S2 => r = v ∧ CRel S2 A n)) := h.weak (fun w S2 q => by
  obtain ⟨r, rfl, hr, ⟨n2, h2⟩, -⟩ := q
  refine ⟨r, rfl, Eq.trans hr e, ?_⟩
  rw [← hC.uniq h2]
  exact h2)
/-! the answers, cart by cart -/
theorem in_c {A : AS} {n k : Nat} (hs : StOk (aZ A) n) (hk : k < n) : (0 : Int32) ≤ nI k ∧ nI k < aZ A 6 := by
  have n6 := hs.2.2.1
  rw [hs.2.1]
  exact ⟨nI_pos' (by omega), nI_lt hk (by omega)⟩
theorem qA_k {A : AS} {n k : Nat} (hs : StOk (aZ A) n) (hk : k < n) : qA A (nI k) = qOf (aZ A) k := by
  have n6 := hs.2.2.1
  unfold qA
  rw [cK_nI (by omega)]
theorem xc_0 {A : AS} {n k N : Nat} (hs : StOk (aZ A) n) (hk : k < n) (hq : CartOk (qOf (aZ A) k) N) : o_cartOf A (nI k) 0 = nI N := by
  unfold o_cartOf
  rw [if_pos (in_c hs hk), if_pos rfl, qA_k hs hk]
  exact hq.1
theorem xc_1 {A : AS} {n k N : Nat} (hs : StOk (aZ A) n) (hk : k < n) (hq : CartOk (qOf (aZ A) k) N) : o_cartOf A (nI k) 1 = nI (dwN (qOf (aZ A) k) N) := by
  unfold o_cartOf
  rw [if_pos (in_c hs hk), if_neg (by decide), if_pos rfl, qA_k hs hk, nQ_eq hq]
  exact dw_ok _ _
theorem xc_2 {A : AS} {n k N : Nat} (hs : StOk (aZ A) n) (hk : k < n) (hq : CartOk (qOf (aZ A) k) N) : o_cartOf A (nI k) 2 = nI (alN (qOf (aZ A) k) N) := by
  unfold o_cartOf
  rw [if_pos (in_c hs hk), if_neg (by decide), if_neg (by decide), if_pos rfl, qA_k hs hk, nQ_eq hq]
  exact (al_ok hq).1
theorem xc_3 {A : AS} {n k N : Nat} (hs : StOk (aZ A) n) (hk : k < n) (hq : CartOk (qOf (aZ A) k) N) : o_cartOf A (nI k) 3 = sumF (dQ (qOf (aZ A) k)) N := by
  unfold o_cartOf
  rw [if_pos (in_c hs hk), if_neg (by decide), if_neg (by decide), if_neg (by decide), if_pos rfl, qA_k hs hk, nQ_eq hq]
theorem xc_4 {A : AS} {n k : Nat} (hs : StOk (aZ A) n) (hk : k < n) : o_cartOf A (nI k) 4 = qOf (aZ A) k 1 := by
  unfold o_cartOf
  rw [if_pos (in_c hs hk), if_neg (by decide), if_neg (by decide), if_neg (by decide), if_neg (by decide), if_pos rfl, qA_k hs hk]
theorem xc_5 {A : AS} {n k : Nat} (hs : StOk (aZ A) n) (hk : k < n) : o_cartOf A (nI k) 5 = qOf (aZ A) k 2 := by
  unfold o_cartOf
  rw [if_pos (in_c hs hk), if_neg (by decide), if_neg (by decide), if_neg (by decide), if_neg (by decide), if_neg (by decide), if_pos rfl, qA_k hs hk]
theorem xc_6 {A : AS} {n k : Nat} (hs : StOk (aZ A) n) (hk : k < n) : o_cartOf A (nI k) 6 = netF (qOf (aZ A) k 1) (qOf (aZ A) k 2) := by
  unfold o_cartOf
  rw [if_pos (in_c hs hk), if_neg (by decide), if_neg (by decide), if_neg (by decide), if_neg (by decide), if_neg (by decide), if_neg (by decide), if_pos rfl, qA_k hs hk]
theorem xc_7 {A : AS} {n k : Nat} (hs : StOk (aZ A) n) (hk : k < n) : o_cartOf A (nI k) 7 = qOf (aZ A) k 3 := by
  unfold o_cartOf
  rw [if_pos (in_c hs hk), if_neg (by decide), if_neg (by decide), if_neg (by decide), if_neg (by decide), if_neg (by decide), if_neg (by decide), if_neg (by decide), if_pos rfl, qA_k hs hk]
theorem xc_8 {A : AS} {n k : Nat} (hs : StOk (aZ A) n) (hk : k < n) : o_cartOf A (nI k) 8 = qOf (aZ A) k 4 := by
  unfold o_cartOf
  rw [if_pos (in_c hs hk), if_neg (by decide), if_neg (by decide), if_neg (by decide), if_neg (by decide), if_neg (by decide), if_neg (by decide), if_neg (by decide), if_neg (by decide), if_pos rfl, qA_k hs hk]
theorem xc_no {A : AS} {n : Nat} (hs : StOk (aZ A) n) {c : Int32} (hc : ¬ (0 ≤ c ∧ c < nI n)) (w : Int32) : o_cartOf A c w = -1 := by
  unfold o_cartOf
  rw [hs.2.1, if_neg hc]
theorem xc_bad {A : AS} {n k : Nat} (hs : StOk (aZ A) n) (hk : k < n) {w : Int32} (hw : w = -1 ∨ w = 9) : o_cartOf A (nI k) w = -2 := by
  unfold o_cartOf
  rcases hw with rfl | rfl
  · rw [if_pos (in_c hs hk), if_neg (by decide), if_neg (by decide), if_neg (by decide), if_neg (by decide), if_neg (by decide), if_neg (by decide), if_neg (by decide), if_neg (by decide), if_neg (by decide)]
  · rw [if_pos (in_c hs hk), if_neg (by decide), if_neg (by decide), if_neg (by decide), if_neg (by decide), if_neg (by decide), if_neg (by decide), if_neg (by decide), if_neg (by decide), if_neg (by decide)]
theorem n_out {n : Nat} (h : n ≤ 6) : ¬ ((0 : Int32) ≤ nI n ∧ nI n < nI n) := fun q => absurd q.2 (nI_nlt (Nat.le_refl n) (by omega))
theorem in_a {A : AS} {n k N a : Nat} (hs : StOk (aZ A) n) (hk : k < n) (hq : CartOk (qOf (aZ A) k) N) (ha : a < N) : ((0 : Int32) ≤ nI k ∧ nI k < aZ A 6) ∧ (0 : Int32) ≤ nI a ∧ nI a < qA A (nI k) 0 := by
  have h5 := hq.2.2.1
  refine ⟨in_c hs hk, nI_pos' (by omega), ?_⟩
  rw [qA_k hs hk, hq.1]
  exact nI_lt ha (by omega)
theorem cK_a {N a : Nat} (h5 : N ≤ 5) (ha : a < N) : cK (nI a) = a := cK_nI (by omega)
theorem ao_0 {A : AS} {n k N a : Nat} (hs : StOk (aZ A) n) (hk : k < n) (hq : CartOk (qOf (aZ A) k) N) (ha : a < N) : o_axleOf A (nI k) (nI a) 0 = wQ (qOf (aZ A) k) a := by
  unfold o_axleOf
  rw [if_pos (in_a hs hk hq ha), if_pos rfl, qA_k hs hk, cK_a hq.2.2.1 ha]
theorem ao_1 {A : AS} {n k N a : Nat} (hs : StOk (aZ A) n) (hk : k < n) (hq : CartOk (qOf (aZ A) k) N) (ha : a < N) : o_axleOf A (nI k) (nI a) 1 = dQ (qOf (aZ A) k) a := by
  unfold o_axleOf
  rw [if_pos (in_a hs hk hq ha), if_neg (by decide), if_pos rfl, qA_k hs hk, cK_a hq.2.2.1 ha]
theorem ao_2 {A : AS} {n k N a : Nat} (hs : StOk (aZ A) n) (hk : k < n) (hq : CartOk (qOf (aZ A) k) N) (ha : a < N) : o_axleOf A (nI k) (nI a) 2 = lQ (qOf (aZ A) k) a := by
  unfold o_axleOf
  rw [if_pos (in_a hs hk hq ha), if_neg (by decide), if_neg (by decide), if_pos rfl, qA_k hs hk, cK_a hq.2.2.1 ha]
theorem ao_3 {A : AS} {n k N a : Nat} (hs : StOk (aZ A) n) (hk : k < n) (hq : CartOk (qOf (aZ A) k) N) (ha : a < N) : o_axleOf A (nI k) (nI a) 3 = nI (bnN (qOf (aZ A) k) N a) := by
  unfold o_axleOf
  rw [if_pos (in_a hs hk hq ha), if_neg (by decide), if_neg (by decide), if_neg (by decide), if_pos rfl, qA_k hs hk, nQ_eq hq]
  exact bn_ok hq ha
theorem ao_no {A : AS} {n k N : Nat} (hs : StOk (aZ A) n) (hk : k < n) (hq : CartOk (qOf (aZ A) k) N) {a : Int32} (ha : ¬ (0 ≤ a ∧ a < nI N)) (w : Int32) : o_axleOf A (nI k) a w = -1 := by
  unfold o_axleOf
  rw [qA_k hs hk, hq.1, if_neg (fun q => ha q.2)]
theorem ao_noc {A : AS} {n : Nat} (hs : StOk (aZ A) n) {c : Int32} (hc : ¬ (0 ≤ c ∧ c < nI n)) (a w : Int32) : o_axleOf A c a w = -1 := by
  unfold o_axleOf
  rw [hs.2.1, if_neg (fun q => hc q.1)]
theorem ao_bad {A : AS} {n k N a : Nat} (hs : StOk (aZ A) n) (hk : k < n) (hq : CartOk (qOf (aZ A) k) N) (ha : a < N) {w : Int32} (hw : w = -1 ∨ w = 4) : o_axleOf A (nI k) (nI a) w = -2 := by
  unfold o_axleOf
  rcases hw with rfl | rfl
  · rw [if_pos (in_a hs hk hq ha), if_neg (by decide), if_neg (by decide), if_neg (by decide), if_neg (by decide)]
  · rw [if_pos (in_a hs hk hq ha), if_neg (by decide), if_neg (by decide), if_neg (by decide), if_neg (by decide)]
theorem cn_0 {A : AS} {n : Nat} (hs : StOk (aZ A) n) : o_count A 0 = nI n := by
  unfold o_count
  rw [if_pos rfl]
  exact hs.2.1
theorem cn_1 (A : AS) : o_count A 1 = aZ A 7 := by
  unfold o_count
  rw [if_neg (by decide), if_pos rfl]
theorem cn_2 (A : AS) : o_count A 2 = aZ A 8 := by
  unfold o_count
  rw [if_neg (by decide), if_neg (by decide), if_pos rfl]
def tarN (z : Nat → Int32) (n : Nat) : Int32 := sumF (fun k => if qOf z k 1 = -5 then 0 else 1) n
theorem cn_3 {A : AS} {n : Nat} (hs : StOk (aZ A) n) : o_count A 3 = tarN (aZ A) n := by
  have n6 := hs.2.2.1
  unfold o_count
  rw [if_neg (by decide), if_neg (by decide), if_neg (by decide), if_pos rfl, hs.2.1, cK_nI (by omega)]
  rfl
theorem cn_4 (A : AS) : o_count A 4 = nI (aM A) := by
  unfold o_count
  rw [if_neg (by decide), if_neg (by decide), if_neg (by decide), if_neg (by decide), if_pos rfl]
theorem cn_s (A : AS) (i : Nat) (hi : i < 6) : o_count A (nI (6 + i)) = aZ A i := by
  rcases (show i = 0 ∨ i = 1 ∨ i = 2 ∨ i = 3 ∨ i = 4 ∨ i = 5 by omega) with rfl | rfl | rfl | rfl | rfl | rfl <;> (unfold o_count; rw [if_neg (by decide), if_neg (by decide), if_neg (by decide), if_neg (by decide), if_neg (by decide), if_neg (by decide), if_pos (by decide)]; rfl)
theorem cn_bad (A : AS) {w : Int32} (hw : w = -1 ∨ w = 12) : o_count A w = -2 := by
  unfold o_count
  rcases hw with rfl | rfl
  · rw [if_neg (by decide), if_neg (by decide), if_neg (by decide), if_neg (by decide), if_neg (by decide), if_neg (by decide), if_neg (by decide)]
  · rw [if_neg (by decide), if_neg (by decide), if_neg (by decide), if_neg (by decide), if_neg (by decide), if_neg (by decide), if_neg (by decide)]
/-! all that belongs to a state, as one number -/
def sn1 (A : AS) : Nat → Int64
  | 0 => 167
  | k + 1 => if k = 4 ∨ k = 5 then sn1 A k else 31 * sn1 A k + (o_count A (nI k)).toInt64
def sn2 (A : AS) : Nat → Int64
  | 0 => sn1 A 12
  | k + 1 => 31 * sn2 A k + (o_cartOf A (nI k / 9) (nI k - nI k / 9 * 9)).toInt64
def sn3 (A : AS) : Nat → Int64
  | 0 => sn2 A 54
  | k + 1 => 31 * (31 * (31 * sn3 A k + (o_axleOf A (nI k / 5) (nI k - nI k / 5 * 5) 0).toInt64) + (o_axleOf A (nI k / 5) (nI k - nI k / 5 * 5) 1).toInt64) + (o_axleOf A (nI k / 5) (nI k - nI k / 5 * 5) 2).toInt64
def stA (z : Nat → Int32) : AS := (z, 0, fun _ _ => 0, 0, fun _ => 0, 0, fun _ => 0)
/-- a state's number -/
def seenZ (z : Nat → Int32) : Int64 := sn3 (stA z) 30
theorem xc_st (A : AS) (c w : Int32) : o_cartOf A c w = o_cartOf (stA (aZ A)) c w := rfl
theorem ao_st (A : AS) (c a w : Int32) : o_axleOf A c a w = o_axleOf (stA (aZ A)) c a w := rfl
theorem sn1_st (A : AS) : ∀ k, k ≤ 12 → sn1 A k = sn1 (stA (aZ A)) k := by
  intro k
  induction k with
  | zero => intro _; rfl
  | succ k ih =>
    intro hk
    unfold sn1
    by_cases h : k = 4 ∨ k = 5
    · rw [if_pos h, if_pos h, ih (by omega)]
    · rw [if_neg h, if_neg h, ih (by omega)]
      have e : o_count A (nI k) = o_count (stA (aZ A)) (nI k) := by
        have h4 : ¬ nI k = 4 := fun q => h (Or.inl ((nI_eq (b := 4) (by omega) (by decide)).mp q))
        have h5 : ¬ nI k = 5 := fun q => h (Or.inr ((nI_eq (b := 5) (by omega) (by decide)).mp q))
        unfold o_count
        rw [if_neg h4, if_neg h4, if_neg h5, if_neg h5]
        rfl
      rw [e]
theorem sn2_st (A : AS) : ∀ k, sn2 A k = sn2 (stA (aZ A)) k := by
  intro k
  induction k with
  | zero => exact sn1_st A 12 (by decide)
  | succ k ih =>
    unfold sn2
    rw [ih]
    rfl
theorem sn3_st (A : AS) : ∀ k, sn3 A k = sn3 (stA (aZ A)) k := by
  intro k
  induction k with
  | zero => exact sn2_st A 54
  | succ k ih =>
    unfold sn3
    rw [ih]
    rfl
theorem seen_ok (A : AS) : sn3 A 30 = seenZ (aZ A) := sn3_st A 30
/-! what holds of a state beside -/
def EQc (q : Nat → Int32) (N : Nat) : Prop := dQ q 0 = 0 ∧ (∀ a, 1 ≤ a → a < N → 2 ≤ dQ q a) ∧ (q 3 = -5 ↔ q 4 = -5) ∧ (q 2 ≠ -5 → 0 < q 3) ∧ q 4 ≤ 5
def EZ (z : Nat → Int32) (B : Nat) : Prop := (∀ k, k < cK (z 6) → EQc (qOf z k) (nQ (qOf z k))) ∧ 0 ≤ z 8 ∧ z 8 ≤ z 7 ∧ z 7 ≤ nI B
def EA (A : AS) (B : Nat) : Prop := EZ (aZ A) B ∧ (∀ i, i < aM A → EZ (aP A i) B) ∧ (aK A = 1 → EZ (aKZ A) B) ∧ aL A = 0
theorem EQc.to {q q' : Nat → Int32} {N : Nat} (h5 : N ≤ 5) (h : EQc q N) (e : ∀ i, i < 20 → q' i = q i) : EQc q' N := by
  obtain ⟨h1, h2, h3, h4, h6⟩ := h
  unfold EQc dQ
  rw [e _ (by decide), e 3 (by decide), e 4 (by decide), e 2 (by decide)]
  refine ⟨h1, fun a h7 h8 => ?_, h3, h4, h6⟩
  rw [e _ (by omega)]
  exact h2 a h7 h8
theorem EZ.more {z : Nat → Int32} {B B' : Nat} (h : EZ z B) (hB : B ≤ B') (hB2 : B' < 2 ^ 31) : EZ z B' := by
  obtain ⟨h1, h2, h3, h4⟩ := h
  have := nI_le hB hB2
  exact ⟨h1, h2, h3, by grind⟩
theorem EZ.q {z : Nat → Int32} {n k N B : Nat} (h : EZ z B) (hs : StOk z n) (hk : k < n) (hq : CartOk (qOf z k) N) : EQc (qOf z k) N := by
  have n6 := hs.2.2.1
  have := h.1 k (by rw [hs.2.1, cK_nI (by omega)]; exact hk)
  rw [nQ_eq hq] at this
  exact this
/-- one cart has changed, or none -/
theorem EZ.one {z z' : Nat → Int32} {n k B B' : Nat} (hs : StOk z n) (h : EZ z B) (hz : ∀ i, (i = 6 ∨ 9 ≤ i) → (i < 9 + 20 * k ∨ 9 + 20 * k + 20 ≤ i) → z' i = z i) (hk : k < n → EQc (qOf z' k) (nQ (qOf z' k))) (h8 : 0 ≤ z' 8) (h87 : z' 8 ≤ z' 7) (h7 : z' 7 ≤ nI B') : EZ z' B' := by
  have n6 := hs.2.2.1
  refine ⟨fun j hj => ?_, h8, h87, h7⟩
  rw [hz 6 (by omega) (by omega), hs.2.1, cK_nI (by omega)] at hj
  by_cases e : j = k
  · subst e
    exact hk hj
  · obtain ⟨N, hN⟩ := hs.2.2.2 j hj
    have eq : ∀ i, i < 20 → qOf z' j i = qOf z j i := fun i hi => hz _ (by omega) (by omega)
    rw [nQ_eq (hN.to eq)]
    exact (h.q hs hj hN).to hN.2.2.1 eq
theorem aM_rec (A : AS) : aM (recA A) = if aM A = 4 then 4 else aM A + 1 := rfl
theorem aP_rec (A : AS) (i : Nat) : aP (recA A) i = if aM A = 4 then (if i = 3 then aZ A else aP A (i + 1)) else if i = aM A then aZ A else aP A i := rfl
theorem EA.act {A : AS} {z : Nat → Int32} {B : Nat} (h : EA A B) (hm : aM A ≤ 4) (hB : B + 1 < 2 ^ 31) (hz : EZ z (B + 1)) : EA (setZ (recA A) z) (B + 1) := by
  obtain ⟨h1, h2, h3, h4⟩ := h
  refine ⟨hz, fun i hi => ?_, fun q => (h3 q).more (by omega) hB, h4⟩
  have hi2 : i < aM (recA A) := hi
  rw [aM_rec] at hi2
  show EZ (aP (recA A) i) (B + 1)
  rw [aP_rec]
  by_cases e4 : aM A = 4
  · rw [if_pos e4] at hi2 ⊢
    by_cases e3 : i = 3
    · rw [if_pos e3]
      exact h1.more (by omega) hB
    · rw [if_neg e3]
      exact (h2 (i + 1) (by omega)).more (by omega) hB
  · rw [if_neg e4] at hi2 ⊢
    by_cases e3 : i = aM A
    · rw [if_pos e3]
      exact h1.more (by omega) hB
    · rw [if_neg e3]
      exact (h2 i (by omega)).more (by omega) hB
theorem EA.more {A : AS} {B B' : Nat} (h : EA A B) (hB : B ≤ B') (hB2 : B' < 2 ^ 31) : EA A B' := ⟨h.1.more hB hB2, fun i hi => (h.2.1 i hi).more hB hB2, fun q => (h.2.2.1 q).more hB hB2, h.2.2.2⟩
theorem EA.undo {A : AS} {B m : Nat} (h : EA A B) (hm : aM A = m + 1) : EA (aP A m, m, A.2.2) B := ⟨h.2.1 m (by omega), fun i hi => h.2.1 i (by have : i < m := hi; omega), h.2.2.1, h.2.2.2⟩
theorem EA.keep {A : AS} {B : Nat} (h : EA A B) : EA (aZ A, aM A, aP A, 1, aZ A, A.2.2.2.2.2) B := ⟨h.1, h.2.1, fun _ => h.1, h.2.2.2⟩
theorem rec_last (A : AS) (z : Nat → Int32) {m : Nat} (hm : aM A ≤ 4) (h : aM (setZ (recA A) z) = m + 1) : aP (setZ (recA A) z) m = aZ A := by
  have h2 : aM (recA A) = m + 1 := h
  rw [aM_rec] at h2
  show aP (recA A) m = aZ A
  rw [aP_rec]
  by_cases e4 : aM A = 4
  · rw [if_pos e4] at h2 ⊢
    rw [if_pos (by omega)]
  · rw [if_neg e4] at h2 ⊢
    rw [if_pos (by omega)]
theorem CRel.m4 {S : ST} {A : AS} {n : Nat} (h : CRel S A n) : aM A ≤ 4 := by
  obtain ⟨-, ⟨hb, -, -, -, h4, -⟩, -⟩ := h
  exact h4
theorem CRel.st {S : ST} {A : AS} {n : Nat} (h : CRel S A n) : StOk (aZ A) n := h.1.1
