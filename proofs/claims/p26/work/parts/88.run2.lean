/-! a run keeps to what the law asks -/
theorem tn_ok {z q : Nat → Int32} {N v : Nat} (hz : SetOk z) (hq : CartOk q N) (h1 : 1 ≤ v) (h9 : v ≤ 9) : (z 0 + sumF (dQ q) N + nI v - 1) / nI v + 1 = nI (tN z q (nI v)) ∧ 1 ≤ tN z q (nI v) ∧ tN z q (nI v) < 1000 := by
  obtain ⟨a1, a2, a3⟩ := rT_ok hq hz (s_in h1 h9)
  refine ⟨?_, a2, a3⟩
  rw [← a1]
  unfold rT quoUF quoF
  rw [nQ_eq hq, if_pos (show (0 : Int32) < nI v from nI_lt (a := 0) h1 (by omega))]
theorem lo_ok {z q : Nat → Int32} {N v : Nat} (hz : SetOk z) (hq : CartOk q N) : LvOk (lvQ z q (nI v)) (nN z q (nI v)) := by
  obtain ⟨-, w1, w9⟩ := wN_ok hz
  exact lv_ok (g := rdN z q N (nI v)) (fun t => rd_ok hz hq (nI v) t) w1 w9 (z 4) _ (by have := nN_le (se := z) (q := q) (s := nI v); omega)
theorem ro_k {A : AS} {n k v : Nat} (hs : StOk (aZ A) n) (hk : k < n) (h1 : 1 ≤ v) (h9 : v ≤ 9) (w : Int32) : o_runOf A (nI k) (nI v) w = (if w = 0 then twQ (aZ A) (qOf (aZ A) k) (nI v) else if w = 1 then rsQ (aZ A) (qOf (aZ A) k) (nI v) else if w = 2 then nI (nN (aZ A) (qOf (aZ A) k) (nI v)) else if w = 3 then lvQ (aZ A) (qOf (aZ A) k) (nI v) 0 else if w = 4 then lvQ (aZ A) (qOf (aZ A) k) (nI v) 2 else if w = 5 then quoF (aZ A 5) (quoUF (aZ A 5) (nI v)) else if w = 6 then wtQ (qOf (aZ A) k) (nI v) else if w = 7 then waF (rsQ (aZ A) (qOf (aZ A) k) (nI v)) (lvQ (aZ A) (qOf (aZ A) k) (nI v)) (wtQ (qOf (aZ A) k) (nI v)) else if w = 8 then lvQ (aZ A) (qOf (aZ A) k) (nI v) 3 else -2) := by
  unfold o_runOf
  rw [if_pos (in_c hs hk), if_pos (s_in h1 h9), qA_k hs hk]
theorem rs_ok {z q : Nat → Int32} {N v : Nat} (hz : SetOk z) (hq : CartOk q N) (h1 : 1 ≤ v) (h9 : v ≤ 9) : (120 < tN z q (nI v) ∧ rsQ z q (nI v) = 1) ∨ (tN z q (nI v) ≤ 120 ∧ lvQ z q (nI v) 0 = 0 ∧ rsQ z q (nI v) = 2) ∨ (tN z q (nI v) ≤ 120 ∧ ¬ lvQ z q (nI v) 0 = 0 ∧ (rsQ z q (nI v) = 3 ∨ rsQ z q (nI v) = 0)) := by
  classical
  obtain ⟨a1, a2, a3⟩ := rT_ok hq hz (s_in h1 h9)
  unfold rsQ rsF
  rw [a1]
  by_cases h : 120 < tN z q (nI v)
  · exact Or.inl ⟨h, if_pos (nI_lt (a := 120) h (by omega))⟩
  · have hn : ¬ (120 : Int32) < nI (tN z q (nI v)) := nI_nlt (a := 120) (b := tN z q (nI v)) (by omega) (by decide)
    rw [if_neg hn]
    by_cases h0 : lvQ z q (nI v) 0 = 0
    · exact Or.inr (Or.inl ⟨by omega, h0, if_pos h0⟩)
    · rw [if_neg h0]
      refine Or.inr (Or.inr ⟨by omega, h0, ?_⟩)
      split
      · exact Or.inl rfl
      · exact Or.inr rfl
set_option maxHeartbeats 2000000 in
theorem c_L_isRun {l : Launch} {b : Nat} {D : va_G} {cA : Nat → ClassId} {ad : Nat → Nat} {S : ST} {A : AS} {n k v tt : Nat} (hC : CRel S A n) (hk : k < n) (hv1 : 1 ≤ v) (hv9 : v ≤ 9) (htt : tt < 120) : MT l b D cA NN ad zT yL_isRun cL_isRun 28 (some .boolean) 6 [.ref (ad 0), .int (nI k), .int (nI v), .int (nI tt)] S (RI (fun r S2 => r = 1 ∧ CRel S2 A n)) := by
  have hs := hC.st
  obtain ⟨N, hq⟩ := hs.2.2.2 k hk
  have n6 := hs.2.2.1
  have h5 := hq.2.2.1
  obtain ⟨t1, t2, t3⟩ := tn_ok (q := qOf (aZ A) k) hs.1 hq hv1 hv9
  have hL := lo_ok (v := v) hs.1 hq
  obtain ⟨c, e6, hc1, hc2⟩ := wt_fin hq hv1 hv9
  obtain ⟨w5, e5, hw1, hw2⟩ := ws_ok hs.1 hv1 hv9
  have hn1 := nN_pos hq hs.1 (s_in hv1 hv9)
  have hn2 := nN_le (se := aZ A) (q := qOf (aZ A) k) (s := nI v)
  have hr := rs_ok hs.1 hq hv1 hv9
  have r0 := ro_k hs hk hv1 hv9 0
  have r1 := ro_k hs hk hv1 hv9 1
  have r2 := ro_k hs hk hv1 hv9 2
  have r3 := ro_k hs hk hv1 hv9 3
  have r4 := ro_k hs hk hv1 hv9 4
  have r5 := ro_k hs hk hv1 hv9 5
  have r6 := ro_k hs hk hv1 hv9 6
  have r7 := ro_k hs hk hv1 hv9 7
  have r8 := ro_k hs hk hv1 hv9 8
  rw [if_pos rfl] at r0
  rw [if_neg (by decide), if_pos rfl] at r1
  rw [if_neg (by decide), if_neg (by decide), if_pos rfl] at r2
  rw [if_neg (by decide), if_neg (by decide), if_neg (by decide), if_pos rfl] at r3
  rw [if_neg (by decide), if_neg (by decide), if_neg (by decide), if_neg (by decide), if_pos rfl] at r4
  rw [if_neg (by decide), if_neg (by decide), if_neg (by decide), if_neg (by decide), if_neg (by decide), if_pos rfl, e5] at r5
  rw [if_neg (by decide), if_neg (by decide), if_neg (by decide), if_neg (by decide), if_neg (by decide), if_neg (by decide), if_pos rfl, e6] at r6
  rw [if_neg (by decide), if_neg (by decide), if_neg (by decide), if_neg (by decide), if_neg (by decide), if_neg (by decide), if_neg (by decide), if_pos rfl] at r7
  rw [if_neg (by decide), if_neg (by decide), if_neg (by decide), if_neg (by decide), if_neg (by decide), if_neg (by decide), if_neg (by decide), if_neg (by decide), if_pos rfl] at r8
  have hoff : ∀ x : Int32, rsQ (aZ A) (qOf (aZ A) k) (nI v) = x → o_off A (nI k) (nI v) = if x = 0 then FP.fdiv (FP.i2f (lvQ (aZ A) (qOf (aZ A) k) (nI v) 2 - nI (alN (qOf (aZ A) k) N))) (FP.i2f (nI (alN (qOf (aZ A) k) N))) else 0x40000000 := fun x hx => by
    unfold o_off
    rw [if_pos ⟨in_c hs hk, s_in hv1 hv9⟩, qA_k hs hk, hx, show whQ (qOf (aZ A) k) = nI (alN (qOf (aZ A) k) N) by unfold whQ; rw [nQ_eq hq]; exact (al_ok hq).1]
  have hnn : nN (aZ A) (qOf (aZ A) k) (nI v) = if 120 < tN (aZ A) (qOf (aZ A) k) (nI v) then 120 else tN (aZ A) (qOf (aZ A) k) (nI v) := rfl
  have h8 : ¬ nI (nN (aZ A) (qOf (aZ A) k) (nI v)) ≤ lvQ (aZ A) (qOf (aZ A) k) (nI v) 3 := by
    rcases hL with ⟨-, -, h3, -⟩ | ⟨c', l', g', t', s', -, -, -, -, -, -, -, h3, h4, -⟩
    · rw [h3]
      have := nI_pos' (n := nN (aZ A) (qOf (aZ A) k) (nI v)) (by omega)
      grind
    · rw [h3]
      exact nI_ge h4 (by omega)
  have hg1 : ¬ lvQ (aZ A) (qOf (aZ A) k) (nI v) 0 ≤ 0 → 0 ≤ lvQ (aZ A) (qOf (aZ A) k) (nI v) 2 := fun h => by
    rcases hL with ⟨h0, -⟩ | ⟨c', l', g', t', s', -, -, -, -, -, h2, h3, -⟩
    · exact absurd (by rw [h0]; decide) h
    · rw [h2]
      exact nI_pos' (by omega)
  have hg2 : -5 ≤ lvQ (aZ A) (qOf (aZ A) k) (nI v) 2 := by
    rcases hL with ⟨-, h2, -⟩ | ⟨c', l', g', t', s', -, -, -, -, -, h2, h3, -⟩
    · rw [h2]
      decide
    · rw [h2]
      have := nI_pos' (n := g') (by omega)
      grind
  have hg3 : ¬ lvQ (aZ A) (qOf (aZ A) k) (nI v) 0 = 0 → ∃ g, g ≤ 22000 ∧ lvQ (aZ A) (qOf (aZ A) k) (nI v) 2 = nI g := fun h => by
    rcases hL with ⟨h0, -⟩ | ⟨c', l', g', t', s', -, -, -, -, -, h2, h3, -⟩
    · exact absurd h0 h
    · exact ⟨g', by omega, h2⟩
  have hg4 : ¬ lvQ (aZ A) (qOf (aZ A) k) (nI v) 0 = 0 → lvQ (aZ A) (qOf (aZ A) k) (nI v) 2 ≤ lvQ (aZ A) (qOf (aZ A) k) (nI v) 5 := fun h => by
    rcases hL with ⟨h0, -⟩ | ⟨c', l', g', t', s', -, -, -, -, -, h2, h3, -, -, h4, -, h5, h6⟩
    · exact absurd h0 h
    · rw [h2, h4]
      exact nI_le h5 (by omega)
  have go := fun (r we ba : Int32) er ew eb H ho0 ho1 => c_L_isRun0 (l := l) (b := b) (D := D) (cA := cA) (ad := ad) (r := r) (we := we) (ba := ba) hC hk hq hv1 hv9 htt rfl hn1 hn2 rfl r2 t1 t3 er ew r3 r4 eb H r6 hc1 hc2 r5 hw1 hw2 r8 h8 hg1 hg2 ho0 ho1
  rcases hr with ⟨b1, b2⟩ | ⟨b1, b2, b3⟩ | ⟨b1, b2, b3⟩
  · rw [b2] at r1
    refine go 1 (-5) (-5) r1 (r0.trans ?_) (r7.trans ?_) (Or.inl ⟨rfl, b1, by rw [hnn, if_pos b1], rfl, rfl⟩) (fun h => absurd h (by decide)) (fun _ => (hoff 1 b2).trans (if_neg (by decide)))
    · unfold twQ twF
      rw [b2]
      rfl
    · rw [b2]
      exact if_neg (fun h => absurd h.1 (by decide))
  · rw [b3] at r1
    refine go 2 (-5) (-5) r1 (r0.trans ?_) (r7.trans ?_) (Or.inr (Or.inl ⟨rfl, b1, by rw [hnn, if_neg (by omega)], b2, rfl, rfl⟩)) (fun h => absurd h (by decide)) (fun _ => (hoff 2 b3).trans (if_neg (by decide)))
    · unfold twQ twF
      rw [b3]
      rfl
    · rw [b3]
      exact if_neg (fun h => absurd h.1 (by decide))
  · rcases b3 with b3 | b3
    · rw [b3] at r1
      by_cases hw : lvQ (aZ A) (qOf (aZ A) k) (nI v) 4 = wtQ (qOf (aZ A) k) (nI v)
      · by_cases h5' : lvQ (aZ A) (qOf (aZ A) k) (nI v) 5 = -5
        · refine go 3 (-5) (-5) r1 (r0.trans ?_) (r7.trans ?_) (Or.inr (Or.inr (Or.inr (Or.inl ⟨rfl, b1, by rw [hnn, if_neg (by omega)], b2, rfl, rfl⟩)))) (fun h => absurd h (by decide)) (fun _ => (hoff 3 b3).trans (if_neg (by decide)))
          · unfold twQ twF
            rw [b3]
            rfl
          · rw [b3]
            exact (if_pos ⟨rfl, hw⟩).trans h5'
        · refine go 3 (-5) _ r1 (r0.trans ?_) (r7.trans ?_) (Or.inr (Or.inr (Or.inr (Or.inr ⟨rfl, b1, by rw [hnn, if_neg (by omega)], b2, rfl, h5', hg4 b2⟩)))) (fun h => absurd h (by decide)) (fun _ => (hoff 3 b3).trans (if_neg (by decide)))
          · unfold twQ twF
            rw [b3]
            rfl
          · rw [b3]
            exact if_pos ⟨rfl, hw⟩
      · refine go 3 (-5) (-5) r1 (r0.trans ?_) (r7.trans ?_) (Or.inr (Or.inr (Or.inr (Or.inl ⟨rfl, b1, by rw [hnn, if_neg (by omega)], b2, rfl, rfl⟩)))) (fun h => absurd h (by decide)) (fun _ => (hoff 3 b3).trans (if_neg (by decide)))
        · unfold twQ twF
          rw [b3]
          rfl
        · exact if_neg (fun h => hw h.2)
    · rw [b3] at r1
      refine go 0 _ (-5) r1 (r0.trans ?_) (r7.trans ?_) (Or.inr (Or.inr (Or.inl ⟨rfl, b1, by rw [hnn, if_neg (by omega)], b2, rfl, rfl⟩))) (fun _ => ⟨(hoff 0 b3).trans (if_pos rfl), hg3 b2⟩) (fun h => absurd rfl h)
      · unfold twQ twF
        rw [b3]
        rfl
      · rw [b3]
        exact if_neg (fun h => absurd h.1 (by decide))
