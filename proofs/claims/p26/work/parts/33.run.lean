/-! A RUN of the cart q with the settings se and the speed s, in numbers -/
def nQ (q : Nat → Int32) : Nat := (q 0).toNatClampNeg
def bhQ (q : Nat → Int32) : Nat → Int32 := fun a => sumF (dQ q) (a + 1)
def brQ (q : Nat → Int32) : Nat → Int32 := fun a => borneF (wQ q) (lQ q) (nQ q) (nI a)
def rT (se q : Nat → Int32) (s : Int32) : Int32 := quoUF (se 0 + sumF (dQ q) (nQ q)) s + 1
def tN (se q : Nat → Int32) (s : Int32) : Nat := (rT se q s).toNatClampNeg
def nN (se q : Nat → Int32) (s : Int32) : Nat := if 120 < tN se q s then 120 else tN se q s
def wN (se : Nat → Int32) : Nat := (se 3).toNatClampNeg
def ldQ (se q : Nat → Int32) (s : Int32) : Nat → Int32 := ldR se (bhQ q) (brQ q) s (nQ q)
def swQ (se q : Nat → Int32) (s : Int32) : Nat → Int32 := swR se (bhQ q) (brQ q) s (nQ q)
def rdQ (se q : Nat → Int32) (s : Int32) : Nat → Int32 := rdR se (bhQ q) (brQ q) s (nQ q)
def lvQ (se q : Nat → Int32) (s : Int32) : Nat → Int32 := lvR (rdQ se q s) (wN se) (se 4) (nN se q s)
def wtQ (q : Nat → Int32) (s : Int32) : Int32 := (wtF (bhQ q) (lQ q) s (nQ q)).1
noncomputable def rsQ (se q : Nat → Int32) (s : Int32) : Int32 := rsF se (bhQ q) (lQ q) s (nQ q) (lvQ se q s) (rT se q s)
noncomputable def twQ (se q : Nat → Int32) (s : Int32) : Int32 := twF (rsQ se q s) (lvQ se q s)
theorem nQ_eq {q : Nat → Int32} {N : Nat} (h : CartOk q N) : nQ q = N := by
  unfold nQ
  rw [h.1]
  exact nI_clamp (Nat.lt_of_le_of_lt h.2.2.1 (by decide))
theorem upF_congr {f g : Nat → Int32} : ∀ (n k : Nat), (∀ j, j < k + n → f j = g j) → upF f n k = upF g n k := by
  intro n
  induction n with
  | zero => intro k _; rfl
  | succ n ih =>
    intro k h
    unfold upF
    rw [h k (by omega), ih (k + 1) (fun j hj => h j (by omega))]
theorem dnF_congr {f g : Nat → Int32} : ∀ (k : Nat), (∀ j, j < k → f j = g j) → dnF f k = dnF g k := by
  intro k
  induction k with
  | zero => intro _; rfl
  | succ k ih =>
    intro h
    unfold dnF
    rw [h k (by omega), ih (fun j hj => h j (by omega))]
theorem bearerF_congr {f g : Nat → Int32} {N a : Nat} (ha : a < N) (h : ∀ j, j < N → f j = g j) : bearerF f N a = bearerF g N a := by
  unfold bearerF
  rw [upF_congr (g := g) _ _ (fun j hj => h j (by omega)), dnF_congr (g := g) _ (fun j hj => h j (by omega))]
theorem borneF_congr {w w' f g : Nat → Int32} {N : Nat} {x : Int32} (hw : ∀ j, j < N → w j = w' j) (h : ∀ j, j < N → f j = g j) : borneF w f N x = borneF w' g N x := by
  unfold borneF
  exact sumF_congr _ (fun k hk => by rw [bearerF_congr hk h, hw k hk])
theorem downF_congr {f g : Nat → Int32} {N : Nat} (h : ∀ j, j < N → f j = g j) : downF f N = downF g N := sumF_congr _ (fun k hk => by rw [h k hk])
theorem ldF_congr {se se' bh bh' br br' : Nat → Int32} {s : Int32} {N : Nat} {t : Int32} (h0 : se 0 = se' 0) (h1 : ∀ a, a < N → bh a = bh' a) (h2 : ∀ a, a < N → br a = br' a) : ldF se bh br s N t = ldF se' bh' br' s N t := by
  unfold ldF
  exact sumF_congr _ (fun k hk => by rw [h0, h1 k hk, h2 k hk])
theorem swR_congr {se se' bh bh' br br' : Nat → Int32} {s : Int32} {N : Nat} (h0 : ∀ i, i < 6 → se i = se' i) (h1 : ∀ a, a < N → bh a = bh' a) (h2 : ∀ a, a < N → br a = br' a) : ∀ t, swR se bh br s N t = swR se' bh' br' s N t := by
  have hl : ∀ t, ldR se bh br s N t = ldR se' bh' br' s N t := fun t => ldF_congr (h0 0 (by decide)) h1 h2
  intro t
  induction t with
  | zero => unfold swR; rw [hl, h0 2 (by decide), h0 1 (by decide)]
  | succ t ih => unfold swR; rw [hl, hl, ih, h0 2 (by decide), h0 1 (by decide)]
theorem rdR_congr {se se' bh bh' br br' : Nat → Int32} {s : Int32} {N : Nat} (h0 : ∀ i, i < 6 → se i = se' i) (h1 : ∀ a, a < N → bh a = bh' a) (h2 : ∀ a, a < N → br a = br' a) : rdR se bh br s N = rdR se' bh' br' s N := by
  funext t
  unfold rdR
  rw [show ldR se bh br s N t = ldR se' bh' br' s N t from ldF_congr (h0 0 (by decide)) h1 h2, swR_congr h0 h1 h2]
theorem wtF_congr {bh bh' lf lf' : Nat → Int32} {s : Int32} : ∀ N, (∀ a, a < N → bh a = bh' a) → (∀ a, a < N → lf a = lf' a) → wtF bh lf s N = wtF bh' lf' s N := by
  intro N
  induction N with
  | zero => intro _ _; rfl
  | succ N ih =>
    intro h1 h2
    unfold wtF
    rw [ih (fun a ha => h1 a (by omega)) (fun a ha => h2 a (by omega)), h1 N (by omega), h2 N (by omega)]
theorem aoP_congr {se se' bh bh' lf lf' : Nat → Int32} {s t : Int32} {N : Nat} (h0 : se 0 = se' 0) (h1 : ∀ a, a < N → bh a = bh' a) (h2 : ∀ a, a < N → lf a = lf' a) : aoP se bh lf s t N ↔ aoP se' bh' lf' s t N := by
  unfold aoP
  constructor
  · intro h a ha hl
    rw [← h0, ← h1 a ha]
    exact h a ha (by rw [h2 a ha]; exact hl)
  · intro h a ha hl
    rw [h0, h1 a ha]
    exact h a ha (by rw [← h2 a ha]; exact hl)
theorem rsF_congr {se se' bh bh' lf lf' : Nat → Int32} {s T : Int32} {N : Nat} {L : Nat → Int32} (h0 : se 0 = se' 0) (h1 : ∀ a, a < N → bh a = bh' a) (h2 : ∀ a, a < N → lf a = lf' a) : rsF se bh lf s N L T = rsF se' bh' lf' s N L T := by
  unfold rsF
  rw [wtF_congr (bh' := bh') (lf' := lf') N h1 h2]
  rw [show aoP se bh lf s (L 3) N = aoP se' bh' lf' s (L 3) N from propext (aoP_congr (s := s) (t := L 3) h0 h1 h2)]
theorem sumF_nI {f : Nat → Int32} {b : Nat} : ∀ n, (∀ a, a < n → ∃ j, j ≤ b ∧ f a = nI j) → ∃ j, j ≤ n * b ∧ sumF f n = nI j := by
  intro n
  induction n with
  | zero => intro _; exact ⟨0, by omega, rfl⟩
  | succ n ih =>
    intro h
    obtain ⟨j, hj, e⟩ := ih (fun a ha => h a (by omega))
    obtain ⟨i, hi, e2⟩ := h n (by omega)
    refine ⟨j + i, ?_, ?_⟩
    · rw [Nat.succ_mul]
      omega
    · unfold sumF
      rw [e, e2, nI_add]
theorem nI_le_of {x : Int32} {b : Nat} (h0 : 0 ≤ x) (hb : b < 2 ^ 31) (h : x ≤ nI b) : ∃ j, j ≤ b ∧ x = nI j := by
  obtain ⟨j, hj, rfl⟩ := nI_of (x := x) (by grind)
  exact ⟨j, (nI_leI hj hb).mp h, rfl⟩
theorem quoUF_nI {x s : Nat} (hx : x < 2 ^ 30) (hs : 1 ≤ s) (hs2 : s < 2 ^ 30) : quoUF (nI x) (nI s) = nI ((x + s - 1) / s) := by
  unfold quoUF quoF
  rw [if_pos (show (0 : Int32) < nI s from nI_lt (a := 0) (by omega) (by omega)), nI_add, show nI (x + s) - 1 = nI (x + s - 1) from nI_sub1 (by omega), pk_div (by omega) (by omega) (by omega)]
/-- how long a run is -/
theorem rT_ok {se q : Nat → Int32} {s : Int32} {N : Nat} (hq : CartOk q N) (hse : SetOk se) (hs : 1 ≤ s ∧ s ≤ 9) : rT se q s = nI (tN se q s) ∧ 1 ≤ tN se q s ∧ tN se q s < 1000 := by
  have h0 := hse 0 (by decide)
  obtain ⟨p, hp, e0⟩ := nI_le_of (x := se 0) (b := 90) (by have := h0.1; simp only [leastS] at this; grind) (by decide) h0.2
  obtain ⟨f, hf, e1⟩ := sumF_nI (f := dQ q) (b := 40) (nQ q) (fun a ha => by
    rw [nQ_eq hq] at ha
    have g := hq.2.2.2.1 a ha
    exact nI_le_of g.2.2.1 (by decide) g.2.2.2.1)
  obtain ⟨s1, hs1, e2⟩ := nI_le_of (x := s) (b := 9) (by grind) (by decide) hs.2
  have hs0 : 1 ≤ s1 := by
    rcases Nat.eq_zero_or_pos s1 with q0 | q0
    · subst q0
      rw [e2] at hs
      exact absurd hs.1 (by decide)
    · exact q0
  have h5 := hq.2.2.1
  have hN := nQ_eq hq
  have hf2 : f ≤ 200 := Nat.le_trans hf (by rw [hN]; exact Nat.mul_le_mul_right 40 h5)
  have e : rT se q s = nI ((p + f + s1 - 1) / s1 + 1) := by
    unfold rT
    rw [e0, e1, e2, nI_add, quoUF_nI (by omega) hs0 (by omega), nI_1]
  have hle : (p + f + s1 - 1) / s1 ≤ p + f + s1 - 1 := Nat.div_le_self _ _
  have ht : tN se q s = (p + f + s1 - 1) / s1 + 1 := by
    unfold tN
    rw [e]
    exact nI_clamp (by omega)
  have hle2 : (p + f + s1 - 1) / s1 ≤ 298 := Nat.le_trans hle (by omega)
  rw [ht, e]
  exact ⟨rfl, Nat.le_add_left 1 _, Nat.lt_of_le_of_lt (Nat.add_le_add_right hle2 1) (by decide)⟩
theorem wN_ok {se : Nat → Int32} (hse : SetOk se) : se 3 = nI (wN se) ∧ 1 ≤ wN se ∧ wN se ≤ 9 := by
  have h3 := hse 3 (by decide)
  have ha : (1 : Int32) ≤ se 3 := h3.1
  obtain ⟨w, hw, e⟩ := nI_le_of (x := se 3) (b := 9) (by grind) (by decide) h3.2
  have hw0 : wN se = w := by
    unfold wN
    rw [e]
    exact nI_clamp (by omega)
  rw [hw0]
  refine ⟨e, ?_, hw⟩
  rcases Nat.eq_zero_or_pos w with q0 | q0
  · subst q0
    rw [e] at ha
    exact absurd ha (by decide)
  · exact q0
/-- what the rows of the roll hold behind a run -/
def RunA (S : ST) (se q : Nat → Int32) (s : Int32) : Prop := (∀ j, j < nN se q s → S 170 j = ldQ se q s j ∧ S 171 j = swQ se q s j ∧ S 172 j = rdQ se q s j ∧ S 173 j = stF (rdQ se q s) (wN se) (se 4) j ∧ S 174 j = lvR (rdQ se q s) (wN se) (se 4) (j + 1) 1) ∧ S 175 = lvQ se q s
def PrepA (S : ST) (se q : Nat → Int32) (s : Int32) : Prop := S 169 12 = rT se q s ∧ ∃ se2 bh br lf, RC S se2 bh br lf s (nQ q) ∧ (∀ i, i < 6 → se2 i = se i) ∧ (∀ a, a < nQ q → bh a = bhQ q a ∧ br a = brQ q a ∧ lf a = lQ q a)
theorem PrepA.to {S S' : ST} {se q : Nat → Int32} {s : Int32} (h : PrepA S se q s) (e : ∀ k, (k = 169 ∨ k = 176 ∨ k = 177 ∨ k = 178 ∨ k = 179) → S' k = S k) : PrepA S' se q s := by
  obtain ⟨h1, se2, bh, br, lf, h2, h3, h4⟩ := h
  exact ⟨by rw [e 169 (by omega)]; exact h1, se2, bh, br, lf, h2.to e, h3, h4⟩
section
variable {l : Launch} {b : Nat} {D : va_G} {cA : Nat → ClassId} {ad : Nat → Nat} {S : ST} {se q : Nat → Int32} {s : Int32}
/-- the run is laid -/
theorem m_prepare {c k N : Nat} (hc : CartAt c) (hcl : c + 3 < 165) (hk : SettAt k) (hq : CartOk q N) (hr : RelCart S c q N) (hks : ∀ i, i < 6 → S k i = se i) : MT l b D cA NN ad zT yX4_prepare cX4_prepare 6 none 2 [.ref (ad 169), .ref (ad c), .int s, .ref (ad k)] S (RV (fun S2 => PrepA S2 se q s ∧ ∀ a, (a < 169 ∨ (169 < a ∧ a < 176) ∨ 179 < a) → S2 a = S a)) := by
  have hN := nQ_eq hq
  refine (c_X4_prepare (N := N) hc hcl hk hr.1 hq.2.2.1 (fun a ha => by rw [(hr.2.2 a ha).2.2]; exact (hq.2.2.2.1 a ha).2.2.2.2)).weak (fun v S2 h => ?_)
  obtain ⟨rfl, rfl⟩ := h
  have ed : ∀ a, a ≤ N → sumF (S (c + 2)) a = sumF (dQ q) a := fun a ha => sumF_congr _ (fun j hj => (hr.2.2 j (by omega)).2.1)
  refine ⟨rfl, ⟨?_, _, _, _, _, by rw [hN]; exact prep_rc hq.2.2.1, hks, fun a ha => ?_⟩, fun a ha => prep_n ha⟩
  · rw [prep_12]
    unfold rT
    rw [hN, hks 0 (by decide), ed N (Nat.le_refl _)]
  · rw [hN] at ha
    unfold bhR brR lfR bhQ brQ
    rw [if_pos ha, if_pos ha, if_pos ha, hN]
    exact ⟨ed (a + 1) (by omega), borneF_congr (fun j hj => (hr.2.2 j hj).1) (fun j hj => (hr.2.2 j hj).2.2), (hr.2.2 a ha).2.2⟩
theorem m_roll {N : Nat} (hq : CartOk q N) (hse : SetOk se) (hs : 1 ≤ s ∧ s ≤ 9) (hp : PrepA S se q s) : MT l b D cA NN ad zT yX4_rollOver cX4_rollOver 3 none 3 [.ref (ad 169)] S (RV (fun S2 => RunA S2 se q s ∧ PrepA S2 se q s ∧ ∀ a, (a < 170 ∨ 175 < a) → S2 a = S a)) := by
  obtain ⟨hT, se2, bh, br, lf, hR, h6, hrows⟩ := id hp
  obtain ⟨w1, w2, w3⟩ := wN_ok hse
  obtain ⟨t1, t2, t3⟩ := rT_ok hq hse hs
  refine (c_X4_rollOver (w := wN se) (T := tN se q s) (n := nN se q s) hR ((h6 3 (by decide)).trans w1) w2 w3 (hT.trans t1) (by omega) rfl).weak (fun v S2 h => ?_)
  obtain ⟨rfl, hO, hF⟩ := h
  have e1 : rdR se2 bh br s (nQ q) = rdQ se q s := rdR_congr h6 (fun a ha => (hrows a ha).1) (fun a ha => (hrows a ha).2.1)
  have e2 : ldR se2 bh br s (nQ q) = ldQ se q s := funext fun t => ldF_congr (h6 0 (by decide)) (fun a ha => (hrows a ha).1) (fun a ha => (hrows a ha).2.1)
  have e3 : swR se2 bh br s (nQ q) = swQ se q s := funext fun t => swR_congr h6 (fun a ha => (hrows a ha).1) (fun a ha => (hrows a ha).2.1) t
  unfold RunOk at hO
  rw [e1, e2, e3, h6 4 (by decide)] at hO
  exact ⟨rfl, hO, hp.to (fun k hk => hF k (by omega)), hF⟩
theorem m_follow {c k N : Nat} (hc : CartAt c) (hcl : c + 3 < 165) (hk : SettAt k) (hq : CartOk q N) (hr : RelCart S c q N) (hks : ∀ i, i < 6 → S k i = se i) (hse : SetOk se) (hs : 1 ≤ s ∧ s ≤ 9) : MT l b D cA NN ad zT yX4_follow cX4_follow 4 none 4 [.ref (ad 169), .ref (ad c), .int s, .ref (ad k)] S (RV (fun S2 => RunA S2 se q s ∧ PrepA S2 se q s ∧ ∀ a, (a < 169 ∨ 179 < a) → S2 a = S a)) := by
  refine MT.intro (j := 0) (ls := [some (.ref (ad 169)), some (.ref (ad c)), some (.int s), some (.ref (ad k))]) pn_X4 rfl rfl rfl (fun pr en s0 mi below meth c' K _ => ?_)
  refine g_aload_n K dX4_follow_0 rfl ?_
  refine g_aload_n K dX4_follow_1 rfl ?_
  refine g_iload_n K dX4_follow_2 rfl ?_
  refine g_aload_n K dX4_follow_3 rfl ?_
  refine g_callVpv K (m_prepare hc hcl hk hq hr hks) mw_X4_prepare ml_X4_47 dX4_follow_4 (by rfl) rfl rfl (by decide) (by simp [Value.category]) ⟨by decide, by decide⟩ ⟨by decide, by decide⟩ (fun S4 h4 => ?_)
  refine g_aload_n K dX4_follow_7 rfl ?_
  refine g_callVpv K (m_roll hq hse hs h4.1) mw_X4_rollOver ml_X4_51 dX4_follow_8 (by rfl) rfl rfl (by decide) (by simp [Value.category]) ⟨by decide, by decide⟩ ⟨by decide, by decide⟩ (fun S8 h8 => ?_)
  refine g_vret K dX4_follow_11 ⟨rfl, h8.1, h8.2.1, fun a ha => ?_⟩
  rw [h8.2.2 a (by omega), h4.2 a (by omega)]
theorem m_reason (hp : PrepA S se q s) (hL : S 175 = lvQ se q s) : MT l b D cA NN ad zT yX4_reason cX4_reason 1 (some .int) 3 [.ref (ad 169)] S (EI (rsQ se q s) S) := by
  obtain ⟨hT, se2, bh, br, lf, hR, h6, hrows⟩ := hp
  have h := c_X4_reason (l := l) (b := b) (D := D) (cA := cA) (ad := ad) hR
  rw [hL, hT, rsF_congr (h6 0 (by decide)) (fun a ha => (hrows a ha).1) (fun a ha => (hrows a ha).2.2)] at h
  exact h
theorem m_told (hp : PrepA S se q s) (hL : S 175 = lvQ se q s) : MT l b D cA NN ad zT yX4_toldWeight cX4_toldWeight 1 (some .int) 4 [.ref (ad 169)] S (EI (twQ se q s) S) := by
  obtain ⟨hT, se2, bh, br, lf, hR, h6, hrows⟩ := hp
  have h := c_X4_toldWeight (l := l) (b := b) (D := D) (cA := cA) (ad := ad) hR
  rw [hL, hT, rsF_congr (h6 0 (by decide)) (fun a ha => (hrows a ha).1) (fun a ha => (hrows a ha).2.2)] at h
  exact h
theorem m_times (hp : PrepA S se q s) : MT l b D cA NN ad zT yX4_wireTimes cX4_wireTimes 5 (some .int) 2 [.ref (ad 169)] S (EI (wtQ q s) S) := by
  obtain ⟨hT, se2, bh, br, lf, hR, h6, hrows⟩ := hp
  have h := c_X4_wireTimes (l := l) (b := b) (D := D) (cA := cA) (ad := ad) hR
  rw [wtF_congr (nQ q) (fun a ha => (hrows a ha).1) (fun a ha => (hrows a ha).2.2)] at h
  exact h
theorem m_byAxles (hp : PrepA S se q s) (hL : S 175 = lvQ se q s) : MT l b D cA NN ad zT yX4_weightByAxles cX4_weightByAxles 1 (some .int) 4 [.ref (ad 169)] S (EI (waF (rsQ se q s) (lvQ se q s) (wtQ q s)) S) := by
  obtain ⟨hT, se2, bh, br, lf, hR, h6, hrows⟩ := hp
  have h := c_X4_weightByAxles (l := l) (b := b) (D := D) (cA := cA) (ad := ad) hR
  rw [hL, hT, rsF_congr (h6 0 (by decide)) (fun a ha => (hrows a ha).1) (fun a ha => (hrows a ha).2.2), wtF_congr (nQ q) (fun a ha => (hrows a ha).1) (fun a ha => (hrows a ha).2.2)] at h
  exact h
theorem m_speed (hp : PrepA S se q s) : MT l b D cA NN ad zT yX4_wireSpeed cX4_wireSpeed 1 (some .int) 2 [.ref (ad 169)] S (EI (quoF (se 5) (quoUF (se 5) s)) S) := by
  obtain ⟨hT, se2, bh, br, lf, hR, h6, hrows⟩ := hp
  have h := c_X4_wireSpeed (l := l) (b := b) (D := D) (cA := cA) (ad := ad) hR
  rw [h6 5 (by decide)] at h
  exact h
theorem m_many {N : Nat} (hq : CartOk q N) (hse : SetOk se) (hs : 1 ≤ s ∧ s ≤ 9) (hp : PrepA S se q s) : MT l b D cA NN ad zT yX4_readingCount cX4_readingCount 1 (some .int) 1 [.ref (ad 169)] S (EI (nI (nN se q s)) S) := by
  have h := c_X4_readingCount (l := l) (b := b) (D := D) (cA := cA) (ad := ad) (S := S)
  obtain ⟨t1, t2, t3⟩ := rT_ok hq hse hs
  have e : (if 120 < S 169 12 then 120 else S 169 12) = nI (nN se q s) := by
    rw [hp.1, t1]
    unfold nN
    by_cases q0 : 120 < tN se q s
    · rw [if_pos q0, if_pos (show (120 : Int32) < nI (tN se q s) from nI_lt (a := 120) q0 (by omega))]
      rfl
    · rw [if_neg q0, if_neg (show ¬ (120 : Int32) < nI (tN se q s) from nI_nlt (b := tN se q s) (a := 120) (by omega) (by decide))]
  rw [e] at h
  exact h
end

