/-! a run in naturals -/
def onP (z q : Nat → Int32) (s : Int32) (t a : Nat) : Prop := 0 ≤ s * nI t - bhQ q a ∧ s * nI t - bhQ q a < z 0
noncomputable def onN (z q : Nat → Int32) (N : Nat) (s : Int32) (t a : Nat) : Nat := by
  classical
  exact if onP z q s t a then bnN q N a else 0
noncomputable def ldN (z q : Nat → Int32) (N : Nat) (s : Int32) (t : Nat) : Nat := sumN (onN z q N s t) N
theorem ld_ok {z q : Nat → Int32} {N : Nat} (hq : CartOk q N) (s : Int32) (t : Nat) : ldQ z q s t = nI (ldN z q N s t) ∧ ldN z q N s t ≤ alN q N := by
  constructor
  · unfold ldQ ldR ldF ldN
    rw [nQ_eq hq]
    refine sumF_N _ (fun a ha => ?_)
    unfold onN
    by_cases h : onP z q s t a
    · rw [if_pos h]
      refine Eq.trans (if_pos h) ?_
      unfold brQ
      rw [nQ_eq hq]
      exact bn_ok hq ha
    · rw [if_neg h]
      exact if_neg h
  · rw [← bn_sum hq]
    refine sumN_le _ (fun a ha => ?_)
    unfold onN
    split
    · exact Nat.le_refl _
    · exact Nat.zero_le _
theorem ab_N {a b : Nat} (ha : a < 2 ^ 30) (hb : b < 2 ^ 30) : abF (nI a - nI b) = nI ((a - b) + (b - a)) := by
  unfold abF
  by_cases h : b ≤ a
  · rw [pk_sub h, if_pos (nI_pos' (by omega)), show a - b + (b - a) = a - b by omega]
  · have h1 : nI a - nI b < 0 := pk_sneg hb (by omega)
    rw [if_neg (by grind), show a - b + (b - a) = b - a by omega, ← pk_sub (show a ≤ b by omega)]
    grind
/-- a setting in naturals -/
theorem se_ok {z : Nat → Int32} (hz : SetOk z) {i lo hi : Nat} (hi6 : i < 6) (hlo : leastS i = nI lo) (hhi : mostS i = nI hi) (hl : lo < 100) (hh : hi < 200) : ∃ j, z i = nI j ∧ lo ≤ j ∧ j ≤ hi := by
  have h := hz i hi6
  rw [hlo, hhi] at h
  have h0 : (0 : Int32) ≤ z i := by
    have := nI_pos' (n := lo) (by omega)
    grind
  obtain ⟨j, hj, e⟩ := nI_le_of h0 (by omega) h.2
  refine ⟨j, e, ?_, hj⟩
  rw [e] at h
  exact (nI_leI (by omega) (by omega)).mp h.1
noncomputable def swN (z q : Nat → Int32) (N : Nat) (s : Int32) : Nat → Nat
  | 0 => ldN z q N s 0 * cK (z 1) / 100
  | t + 1 => swN z q N s t * cK (z 2) / 100 + ((ldN z q N s (t + 1) - ldN z q N s t) + (ldN z q N s t - ldN z q N s (t + 1))) * cK (z 1) / 100
theorem sw_ok {z q : Nat → Int32} {N : Nat} (hz : SetOk z) (hq : CartOk q N) (s : Int32) : ∀ t, swQ z q s t = nI (swN z q N s t) ∧ swN z q N s t ≤ 20000 := by
  obtain ⟨s1, e1, -, h1⟩ := se_ok hz (i := 1) (lo := 0) (hi := 100) (by decide) (by decide) (by decide) (by decide) (by decide)
  obtain ⟨s2, e2, -, h2⟩ := se_ok hz (i := 2) (lo := 0) (hi := 95) (by decide) (by decide) (by decide) (by decide) (by decide)
  have k1 : cK (z 1) = s1 := by rw [e1]; exact cK_nI (by omega)
  have k2 : cK (z 2) = s2 := by rw [e2]; exact cK_nI (by omega)
  have hal := (al_ok hq).2.2
  have hl : ∀ t, ldR z (bhQ q) (brQ q) s (nQ q) t = nI (ldN z q N s t) := fun t => (ld_ok hq s t).1
  have hb : ∀ t, ldN z q N s t ≤ 1000 := fun t => Nat.le_trans (ld_ok hq s t).2 hal
  have h100 : (100 : Int32) = nI 100 := rfl
  have bnd : ∀ x y : Nat, x ≤ 1000 → y ≤ 1000 → ((x - y) + (y - x)) * s1 ≤ 100000 := fun x y hx hy => Nat.le_trans (Nat.mul_le_mul (show (x - y) + (y - x) ≤ 1000 by omega) h1) (by decide)
  intro t
  induction t with
  | zero =>
    have h0 := hb 0
    have b0 : ldN z q N s 0 * s1 ≤ 100000 := Nat.le_trans (Nat.mul_le_mul h0 h1) (by decide)
    refine ⟨?_, ?_⟩
    · unfold swQ swR swN
      rw [hl, show (0 : Int32) = nI 0 from rfl, ab_N (by omega) (by omega), Nat.sub_zero, Nat.zero_sub, Nat.add_zero, e1, pk_mul, h100, pk_div (by omega) (by decide) (by decide), cK_nI (by omega)]
      have e0 : nI 0 * z 2 / nI 100 = nI 0 := by
        rw [e2, pk_mul, pk_div (by omega) (by decide) (by decide), Nat.zero_mul, Nat.zero_div]
      rw [e0, nI_add, Nat.zero_add]
    · unfold swN
      rw [k1]
      omega
  | succ t ih =>
    obtain ⟨ih1, ih2⟩ := ih
    have c0 := hb t
    have c1 := hb (t + 1)
    have b1 := bnd _ _ c1 c0
    have b2 : swN z q N s t * s2 ≤ 1900000 := Nat.le_trans (Nat.mul_le_mul ih2 h2) (by decide)
    refine ⟨?_, ?_⟩
    · show swR z (bhQ q) (brQ q) s (nQ q) (t + 1) = _
      unfold swR swN
      have ih3 : swR z (bhQ q) (brQ q) s (nQ q) t = nI (swN z q N s t) := ih1
      rw [hl, hl, ih3, ab_N (by omega) (by omega), e2, e1, pk_mul, pk_mul, h100, pk_div (by omega) (by decide) (by decide), pk_div (by omega) (by decide) (by decide), nI_add, cK_nI (by omega), cK_nI (by omega)]
    · unfold swN
      rw [k1, k2]
      omega
noncomputable def rdN (z q : Nat → Int32) (N : Nat) (s : Int32) (t : Nat) : Nat := if t % 4 = 0 then ldN z q N s t + swN z q N s t else if t % 4 = 2 then ldN z q N s t - swN z q N s t else ldN z q N s t
theorem rd_ok {z q : Nat → Int32} {N : Nat} (hz : SetOk z) (hq : CartOk q N) (s : Int32) (t : Nat) : rdQ z q s t = nI (rdN z q N s t) ∧ rdN z q N s t ≤ 21000 := by
  have hal := (al_ok hq).2.2
  obtain ⟨l1, l2⟩ := ld_ok (z := z) hq s t
  obtain ⟨w1, w2⟩ := sw_ok hz hq s t
  have e : rdQ z q s t = rdF (nI (ldN z q N s t)) (nI (swN z q N s t)) t := by
    show rdF (ldQ z q s t) (swQ z q s t) t = _
    rw [l1, w1]
  rw [e]
  unfold rdF rdN
  by_cases h0 : t % 4 = 0
  · rw [if_pos h0, if_pos h0, nI_add]
    exact ⟨rfl, by omega⟩
  · rw [if_neg h0, if_neg h0]
    by_cases h2 : t % 4 = 2
    · rw [if_pos h2, if_pos h2]
      refine ⟨?_, by omega⟩
      by_cases h : swN z q N s t ≤ ldN z q N s t
      · rw [pk_sub h, if_neg (nI_pos (by omega))]
      · rw [if_pos (pk_sneg (by omega) (by omega)), Nat.sub_eq_zero_of_le (by omega)]
        rfl
    · rw [if_neg h2, if_neg h2]
      exact ⟨rfl, by omega⟩
theorem suF_N {f : Nat → Int32} {g : Nat → Nat} {b : Nat} (h : ∀ k, f k = nI (g k) ∧ g k ≤ b) (a : Nat) : ∀ n, ∃ j, j ≤ n * b ∧ suF f a n = nI j := by
  intro n
  induction n with
  | zero => exact ⟨0, by omega, rfl⟩
  | succ n ih =>
    obtain ⟨j, h1, h2⟩ := ih
    obtain ⟨e, h3⟩ := h (a + n)
    refine ⟨j + g (a + n), by rw [Nat.succ_mul]; omega, ?_⟩
    unfold suF
    rw [h2, e, nI_add]
theorem me_ok {f : Nat → Int32} {g : Nat → Nat} {b : Nat} (hb : b ≤ 21000) (h : ∀ k, f k = nI (g k) ∧ g k ≤ b) {w : Nat} (hw : 1 ≤ w) (hw9 : w ≤ 9) (t : Nat) : ∃ j, j ≤ b ∧ meF f w t = nI j := by
  obtain ⟨j, h1, h2⟩ := suF_N h (t + 1 - w) w
  have h3 : w * b ≤ 9 * 21000 := Nat.mul_le_mul hw9 hb
  refine ⟨j / w, ?_, ?_⟩
  · exact Nat.le_trans (Nat.div_le_div_right h1) (by rw [Nat.mul_comm, Nat.mul_div_cancel _ hw]; exact Nat.le_refl _)
  · unfold meF
    rw [h2, pk_div (by omega) (by omega) (by omega)]
/-- what the levels keep to, T ticks on -/
def LvOk (L : Nat → Int32) (T : Nat) : Prop := (L 0 = 0 ∧ L 2 = -5 ∧ L 3 = -5 ∧ L 5 = 0) ∨ ∃ c l g t s : Nat, L 0 = nI c ∧ 1 ≤ c ∧ c ≤ T ∧ L 1 = nI l ∧ l ≤ 21000 ∧ L 2 = nI g ∧ g ≤ 21000 ∧ L 3 = nI t ∧ t < T ∧ L 5 = nI s ∧ l ≤ s ∧ g ≤ s ∧ s ≤ 21000 * T
theorem LvOk.more {L : Nat → Int32} {T : Nat} (h : LvOk L T) : LvOk L (T + 1) := by
  rcases h with h | ⟨c, l, g, t, s, h1, h2, h3, h4, h5, h6, h7, h8, h9, h10, h11, h12, h13⟩
  · exact Or.inl h
  · exact Or.inr ⟨c, l, g, t, s, h1, h2, by omega, h4, h5, h6, h7, h8, by omega, h10, h11, h12, by omega⟩
theorem LvOk.off {L : Nat → Int32} {T m : Nat} (hT : T < 1000) (hm : m ≤ 21000) (bo : Int32) (h : LvOk L T) : LvOk (offF L (nI m) (nI T) bo) (T + 1) := by
  by_cases hk : 0 < L 0 ∧ abF (nI m - L 1) ≤ bo
  · rw [show offF L (nI m) (nI T) bo = L from funext fun i => by unfold offF; rw [if_pos hk]]
    exact h.more
  · have e : ∀ i, offF L (nI m) (nI T) bo i = if i = 0 then L 0 + 1 else if i = 1 then nI m
  else if i = 2 then (if L 0 = 0 ∨ L 2 < nI m then nI m else L 2)
  else if i = 3 then (if L 0 = 0 ∨ L 2 < nI m then nI T else L 3)
  else if i = 4 then (if (if 0 < L 0 then L 1 else 0) < nI m then L 4 + 1 else L 4)
  else if i = 5 then (if (if 0 < L 0 then L 1 else 0) < nI m then L 5 + (nI m - (if 0 < L 0 then L 1 else 0)) else L 5)
  else L i := fun i => by unfold offF; rw [if_neg hk]
    refine Or.inr ?_
    rw [e, e, e, e, e]
    rw [if_pos rfl, if_neg (show ¬ (1 : Nat) = 0 by decide), if_pos rfl, if_neg (show ¬ (2 : Nat) = 0 by decide), if_neg (show ¬ (2 : Nat) = 1 by decide), if_pos rfl, if_neg (show ¬ (3 : Nat) = 0 by decide), if_neg (show ¬ (3 : Nat) = 1 by decide), if_neg (show ¬ (3 : Nat) = 2 by decide), if_pos rfl, if_neg (show ¬ (5 : Nat) = 0 by decide), if_neg (show ¬ (5 : Nat) = 1 by decide), if_neg (show ¬ (5 : Nat) = 2 by decide), if_neg (show ¬ (5 : Nat) = 3 by decide), if_neg (show ¬ (5 : Nat) = 4 by decide), if_pos rfl]
    rcases h with ⟨h0, h2, h3, h5⟩ | ⟨c, l, g, t, s, h1, h2, h3, h4, h5, h6, h7, h8, h9, h10, h11, h12, h13⟩
    · rw [if_neg (show ¬ (0 : Int32) < L 0 by rw [h0]; decide), h0, h5, if_pos (Or.inl rfl), if_pos (Or.inl rfl)]
      refine ⟨1, m, m, T, m, rfl, Nat.le_refl _, by omega, rfl, hm, rfl, hm, rfl, by omega, ?_, Nat.le_refl _, Nat.le_refl _, by omega⟩
      by_cases hm0 : m = 0
      · subst hm0
        rw [if_neg (by decide)]
        rfl
      · rw [if_pos (show (0 : Int32) < nI m from nI_lt (a := 0) (by omega) (by omega))]
        grind
    · have hc : (0 : Int32) < L 0 := by rw [h1]; exact nI_lt (a := 0) (by omega) (by omega)
      have hc0 : ¬ L 0 = 0 := by grind
      rw [if_pos hc, h1, h4, h6, h8, h10]
      have hor : (nI c = 0 ∨ nI g < nI m) ↔ g < m := by
        rw [← h1]
        constructor
        · rintro (q | q)
          · exact absurd q hc0
          · exact (nI_ltI (by omega) (by omega)).mp q
        · exact fun q => Or.inr ((nI_ltI (by omega) (by omega)).mpr q)
      have hlm : nI l < nI m ↔ l < m := nI_ltI (by omega) (by omega)
      refine ⟨c + 1, m, if g < m then m else g, if g < m then T else t, if l < m then s + (m - l) else s, nI_1 c, by omega, by omega, rfl, hm, ?_, ?_, ?_, ?_, ?_, ?_, ?_, ?_⟩
      · by_cases q : g < m
        · rw [if_pos (hor.mpr q), if_pos q]
        · rw [if_neg (fun z => q (hor.mp z)), if_neg q]
      · split <;> omega
      · by_cases q : g < m
        · rw [if_pos (hor.mpr q), if_pos q]
        · rw [if_neg (fun z => q (hor.mp z)), if_neg q]
      · split <;> omega
      · by_cases q : l < m
        · rw [if_pos (hlm.mpr q), if_pos q, pk_sub (by omega), nI_add]
        · rw [if_neg (fun z => q (hlm.mp z)), if_neg q]
      · split <;> omega
      · split <;> split <;> omega
      · split <;> omega
theorem lv_ok {f : Nat → Int32} {g : Nat → Nat} (h : ∀ k, f k = nI (g k) ∧ g k ≤ 21000) {w : Nat} (hw : 1 ≤ w) (hw9 : w ≤ 9) (bo : Int32) : ∀ T, T < 1000 → LvOk (lvR f w bo T) T := by
  intro T
  induction T with
  | zero => intro _; exact Or.inl ⟨rfl, rfl, rfl, rfl⟩
  | succ T ih =>
    intro hT
    unfold lvR
    by_cases hs : stF f w bo T = 1
    · rw [if_pos hs]
      obtain ⟨j, hj, e⟩ := me_ok (Nat.le_refl _) h hw hw9 T
      rw [e]
      exact (ih (by omega)).off (by omega) hj bo
    · rw [if_neg hs]
      exact (ih (by omega)).more
/-- the speed told by the wires -/
theorem ws_dec : ∀ W, W < 41 → ∀ v, v < 10 → 4 ≤ W → 1 ≤ v → 1 ≤ W / ((W + v - 1) / v) ∧ W / ((W + v - 1) / v) ≤ v ∧ 1 ≤ (W + v - 1) / v := by decide +kernel
theorem ws_ok {z : Nat → Int32} (hz : SetOk z) {v : Nat} (h1 : 1 ≤ v) (h9 : v ≤ 9) : ∃ j, quoF (z 5) (quoUF (z 5) (nI v)) = nI j ∧ 1 ≤ j ∧ j ≤ v := by
  obtain ⟨W, e, hW, hW2⟩ := se_ok hz (i := 5) (lo := 4) (hi := 40) (by decide) (by decide) (by decide) (by decide) (by decide)
  obtain ⟨d1, d2, d3⟩ := ws_dec W (by omega) v (by omega) hW h1
  have hle : (W + v - 1) / v ≤ W + v - 1 := Nat.div_le_self _ _
  refine ⟨W / ((W + v - 1) / v), ?_, d1, d2⟩
  rw [e, quoUF_nI (by omega) h1 (by omega)]
  unfold quoF
  rw [if_pos (show (0 : Int32) < nI ((W + v - 1) / v) from nI_lt (a := 0) d3 (by omega)), pk_div (by omega) d3 (by omega)]
/-- what lies behind the first axle -/
theorem bh_ok {q : Nat → Int32} {N a : Nat} (hq : CartOk q N) (ha : a < N) : ∃ j, j ≤ 200 ∧ bhQ q a = nI j := by
  have h5 := hq.2.2.1
  obtain ⟨j, h1, h2⟩ := sumF_nI (f := dQ q) (b := 40) (a + 1) (fun c hc => by
    have g := hq.2.2.2.1 c (by omega)
    exact nI_le_of g.2.2.1 (by decide) g.2.2.2.1)
  exact ⟨j, by omega, h2⟩
/-- the axles told by the wires -/
theorem wt_ok {q : Nat → Int32} {N : Nat} (hq : CartOk q N) {v : Nat} (h1 : 1 ≤ v) (h9 : v ≤ 9) : ∀ a, a ≤ N → ∃ c, (wtF (bhQ q) (lQ q) (nI v) a).1 = nI c ∧ c ≤ dwN q a ∧ (c = 0 → (wtF (bhQ q) (lQ q) (nI v) a).2 = -5 ∧ dwN q a = 0) := by
  intro a
  induction a with
  | zero => intro _; exact ⟨0, rfl, Nat.le_refl _, fun _ => ⟨rfl, rfl⟩⟩
  | succ a ih =>
    intro ha
    obtain ⟨c, g1, g2, g3⟩ := ih (by omega)
    obtain ⟨j, hj, ej⟩ := bh_ok hq (show a < N by omega)
    have hdl := dw_le q a
    have h5 := hq.2.2.1
    have ed : dwN q (a + 1) = dwN q a + if lQ q a = 0 then 1 else 0 := rfl
    unfold wtF
    by_cases hc : lQ q a = 0 ∧ quoUF (bhQ q a) (nI v) ≠ (wtF (bhQ q) (lQ q) (nI v) a).2
    · rw [if_pos hc]
      refine ⟨c + 1, ?_, ?_, fun h => absurd h (by omega)⟩
      · show _ + 1 = _
        rw [g1, nI_1]
      · rw [ed, if_pos hc.1]
        omega
    · rw [if_neg hc]
      refine ⟨c, g1, by rw [ed]; omega, fun h => ?_⟩
      obtain ⟨k1, k2⟩ := g3 h
      refine ⟨k1, ?_⟩
      by_cases hl : lQ q a = 0
      · exfalso
        apply hc
        refine ⟨hl, ?_⟩
        rw [k1, ej, quoUF_nI (by omega) h1 (by omega)]
        have hle : (j + v - 1) / v ≤ j + v - 1 := Nat.div_le_self _ _
        have := nI_pos' (n := (j + v - 1) / v) (by omega)
        intro e
        rw [e] at this
        exact absurd this (by decide)
      · rw [ed, if_neg hl, k2]
theorem wt_fin {q : Nat → Int32} {N : Nat} (hq : CartOk q N) {v : Nat} (h1 : 1 ≤ v) (h9 : v ≤ 9) : ∃ c, wtQ q (nI v) = nI c ∧ 1 ≤ c ∧ c ≤ dwN q N := by
  obtain ⟨c, g1, g2, g3⟩ := wt_ok hq h1 h9 N (Nat.le_refl _)
  refine ⟨c, ?_, ?_, g2⟩
  · unfold wtQ
    rw [nQ_eq hq]
    exact g1
  · rcases Nat.eq_zero_or_pos c with q0 | q0
    · have := (g3 q0).2
      have := dw_pos hq
      omega
    · exact q0
/-! greatest and least of a window, folded backwards as the law does -/
def bmx (f : Nat → Int32) (t : Nat) : Nat → Int32
  | 0 => f t
  | k + 1 => if bmx f t k < f (t - (k + 1)) then f (t - (k + 1)) else bmx f t k
def bmn (f : Nat → Int32) (t : Nat) : Nat → Int32
  | 0 => f t
  | k + 1 => if f (t - (k + 1)) < bmn f t k then f (t - (k + 1)) else bmn f t k
theorem mx_ge (f : Nat → Int32) (a : Nat) (x : Int32) : ∀ n, x ≤ mxF f a x n ∧ ∀ k, k < n → f (a + k) ≤ mxF f a x n := by
  intro n
  induction n with
  | zero => exact ⟨by unfold mxF; grind, fun k h => by omega⟩
  | succ n ih =>
    unfold mxF
    refine ⟨by grind, fun k hk => ?_⟩
    by_cases e : k = n
    · subst e
      grind
    · have := ih.2 k (by omega)
      grind
theorem mx_in (f : Nat → Int32) (a : Nat) (x : Int32) : ∀ n, mxF f a x n = x ∨ ∃ k, k < n ∧ mxF f a x n = f (a + k) := by
  intro n
  induction n with
  | zero => exact Or.inl rfl
  | succ n ih =>
    unfold mxF
    by_cases h : mxF f a x n < f (a + n)
    · rw [if_pos h]
      exact Or.inr ⟨n, by omega, rfl⟩
    · rw [if_neg h]
      rcases ih with h1 | ⟨k, hk, h1⟩
      · exact Or.inl h1
      · exact Or.inr ⟨k, by omega, h1⟩
theorem mn_le (f : Nat → Int32) (a : Nat) (x : Int32) : ∀ n, mnF f a x n ≤ x ∧ ∀ k, k < n → mnF f a x n ≤ f (a + k) := by
  intro n
  induction n with
  | zero => exact ⟨by unfold mnF; grind, fun k h => by omega⟩
  | succ n ih =>
    unfold mnF
    refine ⟨by grind, fun k hk => ?_⟩
    by_cases e : k = n
    · subst e
      grind
    · have := ih.2 k (by omega)
      grind
theorem mn_in (f : Nat → Int32) (a : Nat) (x : Int32) : ∀ n, mnF f a x n = x ∨ ∃ k, k < n ∧ mnF f a x n = f (a + k) := by
  intro n
  induction n with
  | zero => exact Or.inl rfl
  | succ n ih =>
    unfold mnF
    by_cases h : f (a + n) < mnF f a x n
    · rw [if_pos h]
      exact Or.inr ⟨n, by omega, rfl⟩
    · rw [if_neg h]
      rcases ih with h1 | ⟨k, hk, h1⟩
      · exact Or.inl h1
      · exact Or.inr ⟨k, by omega, h1⟩
theorem bmx_ge (f : Nat → Int32) (t : Nat) : ∀ n, ∀ k, k ≤ n → f (t - k) ≤ bmx f t n := by
  intro n
  induction n with
  | zero => intro k hk; rw [show k = 0 by omega]; unfold bmx; rw [Nat.sub_zero]; grind
  | succ n ih =>
    intro k hk
    unfold bmx
    by_cases e : k = n + 1
    · subst e
      grind
    · have := ih k (by omega)
      grind
theorem bmx_in (f : Nat → Int32) (t : Nat) : ∀ n, ∃ k, k ≤ n ∧ bmx f t n = f (t - k) := by
  intro n
  induction n with
  | zero => exact ⟨0, Nat.le_refl _, by unfold bmx; rw [Nat.sub_zero]⟩
  | succ n ih =>
    unfold bmx
    by_cases h : bmx f t n < f (t - (n + 1))
    · rw [if_pos h]
      exact ⟨n + 1, Nat.le_refl _, rfl⟩
    · rw [if_neg h]
      obtain ⟨k, hk, e⟩ := ih
      exact ⟨k, by omega, e⟩
theorem bmn_le (f : Nat → Int32) (t : Nat) : ∀ n, ∀ k, k ≤ n → bmn f t n ≤ f (t - k) := by
  intro n
  induction n with
  | zero => intro k hk; rw [show k = 0 by omega]; unfold bmn; rw [Nat.sub_zero]; grind
  | succ n ih =>
    intro k hk
    unfold bmn
    by_cases e : k = n + 1
    · subst e
      grind
    · have := ih k (by omega)
      grind
theorem bmn_in (f : Nat → Int32) (t : Nat) : ∀ n, ∃ k, k ≤ n ∧ bmn f t n = f (t - k) := by
  intro n
  induction n with
  | zero => exact ⟨0, Nat.le_refl _, by unfold bmn; rw [Nat.sub_zero]⟩
  | succ n ih =>
    unfold bmn
    by_cases h : f (t - (n + 1)) < bmn f t n
    · rw [if_pos h]
      exact ⟨n + 1, Nat.le_refl _, rfl⟩
    · rw [if_neg h]
      obtain ⟨k, hk, e⟩ := ih
      exact ⟨k, by omega, e⟩
theorem bmx_eq {f : Nat → Int32} {t w : Nat} (hw : 1 ≤ w) (hwt : w ≤ t + 1) : bmx f t (w - 1) = mxF f (t + 1 - w) (f t) (w - 1) := by
  obtain ⟨k1, h1, e1⟩ := bmx_in f t (w - 1)
  obtain ⟨g1, g2⟩ := mx_ge f (t + 1 - w) (f t) (w - 1)
  have a1 : bmx f t (w - 1) ≤ mxF f (t + 1 - w) (f t) (w - 1) := by
    rw [e1]
    by_cases e : k1 = 0
    · subst e
      exact g1
    · have := g2 (w - 1 - k1) (by omega)
      rw [show t + 1 - w + (w - 1 - k1) = t - k1 by omega] at this
      exact this
  have a2 : mxF f (t + 1 - w) (f t) (w - 1) ≤ bmx f t (w - 1) := by
    rcases mx_in f (t + 1 - w) (f t) (w - 1) with h | ⟨k, hk, h⟩
    · rw [h]
      exact bmx_ge f t (w - 1) 0 (Nat.zero_le _)
    · rw [h, show t + 1 - w + k = t - (w - 1 - k) by omega]
      exact bmx_ge f t (w - 1) _ (by omega)
  grind
theorem bmn_eq {f : Nat → Int32} {t w : Nat} (hw : 1 ≤ w) (hwt : w ≤ t + 1) : bmn f t (w - 1) = mnF f (t + 1 - w) (f t) (w - 1) := by
  obtain ⟨k1, h1, e1⟩ := bmn_in f t (w - 1)
  obtain ⟨g1, g2⟩ := mn_le f (t + 1 - w) (f t) (w - 1)
  have a1 : mnF f (t + 1 - w) (f t) (w - 1) ≤ bmn f t (w - 1) := by
    rw [e1]
    by_cases e : k1 = 0
    · subst e
      exact g1
    · have := g2 (w - 1 - k1) (by omega)
      rw [show t + 1 - w + (w - 1 - k1) = t - k1 by omega] at this
      exact this
  have a2 : bmn f t (w - 1) ≤ mnF f (t + 1 - w) (f t) (w - 1) := by
    rcases mn_in f (t + 1 - w) (f t) (w - 1) with h | ⟨k, hk, h⟩
    · rw [h]
      exact bmn_le f t (w - 1) 0 (Nat.zero_le _)
    · rw [h, show t + 1 - w + k = t - (w - 1 - k) by omega]
      exact bmn_le f t (w - 1) _ (by omega)
  grind
