/-! what is refused -/
theorem rf_cart {A : AS} {w : Int32} (h : ¬ (1 ≤ w ∧ w ≤ 200)) : o_cart A w = (-2, A) := by
  unfold o_cart
  rw [if_neg h]
theorem rf_cart6 {A : AS} (h : aZ A 6 = 6) {w : Int32} (hw : 1 ≤ w ∧ w ≤ 200) : o_cart A w = (-3, A) := by
  unfold o_cart
  rw [if_pos hw, if_pos h]
theorem rf_axle_no {A : AS} {n : Nat} (hs : StOk (aZ A) n) {c : Int32} (hc : ¬ (0 ≤ c ∧ c < nI n)) (d w : Int32) : o_axle A c d w = (-1, A) := by
  unfold o_axle
  rw [hs.2.1, if_neg hc]
theorem rf_load_no {A : AS} {n : Nat} (hs : StOk (aZ A) n) {c : Int32} (hc : ¬ (0 ≤ c ∧ c < nI n)) (a w : Int32) : o_load A c a w = (-1, A) := by
  unfold o_load
  rw [hs.2.1, if_neg (fun q => hc q.1)]
theorem rf_lift_no {A : AS} {n : Nat} (hs : StOk (aZ A) n) {c : Int32} (hc : ¬ (0 ≤ c ∧ c < nI n)) (a u : Int32) : o_lift A c a u = (-1, A) := by
  unfold o_lift
  rw [hs.2.1, if_neg (fun q => hc q.1)]
theorem rf_run_no {A : AS} {n : Nat} (hs : StOk (aZ A) n) {c : Int32} (hc : ¬ (0 ≤ c ∧ c < nI n)) (s : Int32) : o_run A c s = (-1, A) := by
  unfold o_run
  rw [hs.2.1, if_neg hc]
theorem rf_tare_no {A : AS} {n : Nat} (hs : StOk (aZ A) n) {c : Int32} (hc : ¬ (0 ≤ c ∧ c < nI n)) : o_tare A c = (-1, A) := by
  unfold o_tare
  rw [hs.2.1, if_neg hc]
theorem rf_set_no {A : AS} {i : Int32} (h : ¬ (0 ≤ i ∧ i < 6)) (v : Int32) : o_set A i v = (-2, A) := by
  unfold o_set
  rw [if_neg h]
theorem rf_set_bad {A : AS} {i : Nat} (hi : i < 6) {v : Int32} (h : ¬ (leastS i ≤ v ∧ v ≤ mostS i)) : o_set A (nI i) v = (-2, A) := by
  unfold o_set
  rw [if_pos ⟨nI_pos' (by omega), nI_lt (b := 6) hi (by decide)⟩, cK_nI (by omega), if_neg h]
theorem rf_set_same {A : AS} {i : Nat} (hz : SetOk (aZ A)) (hi : i < 6) : o_set A (nI i) (aZ A i) = (-5, A) := by
  unfold o_set
  rw [if_pos ⟨nI_pos' (by omega), nI_lt (b := 6) hi (by decide)⟩, cK_nI (by omega), if_pos (hz i hi), if_pos rfl]
theorem rf_axle_d {A : AS} {n k : Nat} (hs : StOk (aZ A) n) (hk : k < n) {d w : Int32} (h : ¬ ((2 ≤ d ∧ d ≤ 40) ∧ 1 ≤ w ∧ w ≤ 200)) : o_axle A (nI k) d w = (-2, A) := by
  unfold o_axle
  rw [if_pos (in_c hs hk), if_neg h]
theorem rf_axle_5 {A : AS} {n k N : Nat} (hs : StOk (aZ A) n) (hk : k < n) (hq : CartOk (qOf (aZ A) k) N) (hN : N = 5) {d w : Int32} (h : (2 ≤ d ∧ d ≤ 40) ∧ 1 ≤ w ∧ w ≤ 200) : o_axle A (nI k) d w = (-3, A) := by
  unfold o_axle
  rw [if_pos (in_c hs hk), if_pos h, qA_k hs hk, hq.1, hN, if_pos (show nI 5 = (5 : Int32) from rfl)]
theorem rf_load_a {A : AS} {n k N : Nat} (hs : StOk (aZ A) n) (hk : k < n) (hq : CartOk (qOf (aZ A) k) N) {a : Int32} (ha : ¬ (0 ≤ a ∧ a < nI N)) (w : Int32) : o_load A (nI k) a w = (-1, A) := by
  unfold o_load
  rw [qA_k hs hk, hq.1, if_neg (fun q => ha q.2)]
theorem rf_load_w {A : AS} {n k N a : Nat} (hs : StOk (aZ A) n) (hk : k < n) (hq : CartOk (qOf (aZ A) k) N) (ha : a < N) {w : Int32} (hw : ¬ (1 ≤ w ∧ w ≤ 200)) : o_load A (nI k) (nI a) w = (-2, A) := by
  unfold o_load
  rw [if_pos (in_a hs hk hq ha), if_neg hw]
theorem rf_load_same {A : AS} {n k N a : Nat} (hs : StOk (aZ A) n) (hk : k < n) (hq : CartOk (qOf (aZ A) k) N) (ha : a < N) {w : Int32} (hw : wQ (qOf (aZ A) k) a = w) : o_load A (nI k) (nI a) w = (-5, A) := by
  have h := hq.2.2.2.1 a ha
  unfold o_load
  rw [if_pos (in_a hs hk hq ha), if_pos ⟨by rw [← hw]; exact h.1, by rw [← hw]; exact h.2.1⟩, qA_k hs hk, cK_a hq.2.2.1 ha, if_pos hw]
theorem rf_lift_a {A : AS} {n k N : Nat} (hs : StOk (aZ A) n) (hk : k < n) (hq : CartOk (qOf (aZ A) k) N) {a : Int32} (ha : ¬ (0 ≤ a ∧ a < nI N)) (u : Int32) : o_lift A (nI k) a u = (-1, A) := by
  unfold o_lift
  rw [qA_k hs hk, hq.1, if_neg (fun q => ha q.2)]
theorem rf_lift_same {A : AS} {n k N a : Nat} (hs : StOk (aZ A) n) (hk : k < n) (hq : CartOk (qOf (aZ A) k) N) (ha : a < N) {u : Int32} (hu : lQ (qOf (aZ A) k) a = u) : o_lift A (nI k) (nI a) u = (-5, A) := by
  unfold o_lift
  rw [if_pos (in_a hs hk hq ha), qA_k hs hk, cK_a hq.2.2.1 ha, if_neg (fun q => q.1 (hu.symm.trans q.2.1)), if_pos hu.symm]
theorem rf_lift_np {A : AS} {n k N a : Nat} (hs : StOk (aZ A) n) (hk : k < n) (hq : CartOk (qOf (aZ A) k) N) (ha : a < N) (hl : lQ (qOf (aZ A) k) a = 0) (hd : dwN (qOf (aZ A) k) N = 1) : o_lift A (nI k) (nI a) 1 = (-4, A) := by
  unfold o_lift
  rw [if_pos (in_a hs hk hq ha), qA_k hs hk, cK_a hq.2.2.1 ha, if_pos ⟨by decide, hl, by rw [nQ_eq hq, dw_ok, hd]; rfl⟩]
theorem rf_run_s {A : AS} {n k : Nat} (hs : StOk (aZ A) n) (hk : k < n) {s : Int32} (h : ¬ (1 ≤ s ∧ s ≤ 9)) : o_run A (nI k) s = (-2, A) := by
  unfold o_run
  rw [if_pos (in_c hs hk), if_neg h]
theorem rf_tare_np {A : AS} {n k : Nat} (hs : StOk (aZ A) n) (hk : k < n) (h : qOf (aZ A) k 2 = -5) : o_tare A (nI k) = (-4, A) := by
  unfold o_tare
  rw [if_pos (in_c hs hk), qA_k hs hk, if_pos h]
theorem rf_tare_same {A : AS} {n k : Nat} (hs : StOk (aZ A) n) (hk : k < n) (h : qOf (aZ A) k 2 ≠ -5) (h2 : qOf (aZ A) k 2 = qOf (aZ A) k 1) : o_tare A (nI k) = (-5, A) := by
  unfold o_tare
  rw [if_pos (in_c hs hk), qA_k hs hk, if_neg h, if_pos h2]
theorem to_no {A : AS} {n : Nat} (hs : StOk (aZ A) n) {c : Int32} (hc : ¬ (0 ≤ c ∧ c < nI n)) (s t w : Int32) : o_tick A c s t w = -1 := by
  unfold o_tick
  rw [hs.2.1, if_neg hc]
theorem to_s {A : AS} {n k : Nat} (hs : StOk (aZ A) n) (hk : k < n) {s : Int32} (h : ¬ (1 ≤ s ∧ s ≤ 9)) (t w : Int32) : o_tick A (nI k) s t w = -2 := by
  unfold o_tick
  rw [if_pos (in_c hs hk), if_neg h]
theorem nN_le {se q : Nat → Int32} {s : Int32} : nN se q s ≤ 120 := by
  unfold nN
  split <;> omega
theorem to_t {A : AS} {n k : Nat} (hs : StOk (aZ A) n) (hk : k < n) {s t : Int32} (h : 1 ≤ s ∧ s ≤ 9) (ht : ¬ (0 ≤ t ∧ t < nI (nN (aZ A) (qOf (aZ A) k) s))) (w : Int32) : o_tick A (nI k) s t w = -1 := by
  unfold o_tick
  rw [if_pos (in_c hs hk), if_pos h, qA_k hs hk, if_neg ht]
theorem to_out {A : AS} {n k : Nat} (hs : StOk (aZ A) n) (hk : k < n) {s t : Int32} (h : 1 ≤ s ∧ s ≤ 9) (ht : t < 0 ∨ 120 ≤ t) (w : Int32) : o_tick A (nI k) s t w = -1 := by
  refine to_t hs hk h (fun q => ?_) w
  have h1 : nI (nN (aZ A) (qOf (aZ A) k) s) ≤ nI 120 := nI_le nN_le (by decide)
  have h2 : nI 120 = (120 : Int32) := rfl
  grind
theorem nN_pos {z q : Nat → Int32} {s : Int32} {N : Nat} (hq : CartOk q N) (hz : SetOk z) (h : 1 ≤ s ∧ s ≤ 9) : 1 ≤ nN z q s := by
  obtain ⟨-, h2, -⟩ := rT_ok hq hz h
  unfold nN
  split <;> omega
theorem to_bad {A : AS} {n k N : Nat} (hs : StOk (aZ A) n) (hk : k < n) (hq : CartOk (qOf (aZ A) k) N) {s : Int32} (h : 1 ≤ s ∧ s ≤ 9) {w : Int32} (hw : w = -1 ∨ w = 5) : o_tick A (nI k) s 0 w = -2 := by
  have h1 : (0 : Int32) < nI (nN (aZ A) (qOf (aZ A) k) s) := nI_lt (a := 0) (nN_pos hq hs.1 h) (by have := nN_le (se := aZ A) (q := qOf (aZ A) k) (s := s); omega)
  unfold o_tick
  rcases hw with rfl | rfl
  · rw [if_pos (in_c hs hk), if_pos h, qA_k hs hk, if_pos ⟨by decide, h1⟩, if_neg (by decide), if_neg (by decide), if_neg (by decide), if_neg (by decide), if_neg (by decide)]
  · rw [if_pos (in_c hs hk), if_pos h, qA_k hs hk, if_pos ⟨by decide, h1⟩, if_neg (by decide), if_neg (by decide), if_neg (by decide), if_neg (by decide), if_neg (by decide)]
theorem ro_no {A : AS} {n : Nat} (hs : StOk (aZ A) n) {c : Int32} (hc : ¬ (0 ≤ c ∧ c < nI n)) (s w : Int32) : o_runOf A c s w = -1 := by
  unfold o_runOf
  rw [hs.2.1, if_neg hc]
theorem ro_s {A : AS} {n k : Nat} (hs : StOk (aZ A) n) (hk : k < n) {s : Int32} (h : ¬ (1 ≤ s ∧ s ≤ 9)) (w : Int32) : o_runOf A (nI k) s w = -2 := by
  unfold o_runOf
  rw [if_pos (in_c hs hk), if_neg h]
theorem ro_bad {A : AS} {n k : Nat} (hs : StOk (aZ A) n) (hk : k < n) {s : Int32} (h : 1 ≤ s ∧ s ≤ 9) {w : Int32} (hw : w = -1 ∨ w = 9) : o_runOf A (nI k) s w = -2 := by
  unfold o_runOf
  rcases hw with rfl | rfl
  · rw [if_pos (in_c hs hk), if_pos h, if_neg (by decide), if_neg (by decide), if_neg (by decide), if_neg (by decide), if_neg (by decide), if_neg (by decide), if_neg (by decide), if_neg (by decide), if_neg (by decide)]
  · rw [if_pos (in_c hs hk), if_pos h, if_neg (by decide), if_neg (by decide), if_neg (by decide), if_neg (by decide), if_neg (by decide), if_neg (by decide), if_neg (by decide), if_neg (by decide), if_neg (by decide)]
theorem oo_no {A : AS} {n : Nat} (hs : StOk (aZ A) n) {c s : Int32} (hc : ¬ (0 ≤ c ∧ c < nI n)) : o_off A c s = 0x40000000 := by
  unfold o_off
  rw [hs.2.1, if_neg (fun q => hc q.1)]
theorem oo_s {A : AS} {c s : Int32} (h : ¬ (1 ≤ s ∧ s ≤ 9)) : o_off A c s = 0x40000000 := by
  unfold o_off
  rw [if_neg (fun q => h q.2)]
theorem of_no {A : AS} {n : Nat} (hs : StOk (aZ A) n) {c : Int32} (hc : ¬ (0 ≤ c ∧ c < nI n)) : o_fastest A c = -1 := by
  unfold o_fastest
  rw [hs.2.1, if_neg hc]
theorem ol_no {A : AS} {n : Nat} (hs : StOk (aZ A) n) {c : Int32} (hc : ¬ (0 ≤ c ∧ c < nI n)) (s : Int32) (w lo hi : Nat) : o_least A c s w lo hi = -1 := by
  unfold o_least
  rw [hs.2.1, if_neg hc]
theorem ol_s {A : AS} {n k : Nat} (hs : StOk (aZ A) n) (hk : k < n) {s : Int32} (h : ¬ (1 ≤ s ∧ s ≤ 9)) (w lo hi : Nat) : o_least A (nI k) s w lo hi = -2 := by
  unfold o_least
  rw [if_pos (in_c hs hk), if_neg h]
theorem tx_0 (f : Nat → Int32) : parse f 0 = .inl 0 := by
  unfold parse prun p0 wholeP
  rw [if_pos (Or.inr (by simp))]
theorem tx_clear {A : AS} (h : aL A = 0) : o_clear A = (0, A) := by
  obtain ⟨z, m, p, k, kz, l, t⟩ := A
  have h2 : l = 0 := h
  subst h2
  rfl
theorem tx_carts {A : AS} (h : aL A = 0) : o_carts A = (-100, A) := by
  unfold o_carts
  rw [h, tx_0]
  rfl
theorem tx_fault {A : AS} (h : aL A = 0) : o_fault A = 0 := by
  unfold o_fault
  rw [h, tx_0]
  rfl
/-! what the acts bring -/
theorem nc_q {z : Nat → Int32} {n i : Nat} {w : Int32} (hi : i < 20) : qOf (newCartZ z n w) n i = if i = 0 then 1 else if i ≤ 4 then -5 else if i = 5 then w else 0 := by
  unfold qOf newCartZ
  rw [if_neg (by omega), if_pos (by omega)]
  by_cases h0 : i = 0
  · rw [if_pos (by omega), if_pos h0]
  · rw [if_neg (by omega), if_neg h0]
    by_cases h4 : i ≤ 4
    · rw [if_pos (by omega), if_pos h4]
    · rw [if_neg (by omega), if_neg h4]
      by_cases h5 : i = 5
      · rw [if_pos (by omega), if_pos h5]
      · rw [if_neg (by omega), if_neg h5]
theorem nc_o {z : Nat → Int32} {n j : Nat} {w : Int32} (hj : j ≠ n) : ∀ i, i < 20 → qOf (newCartZ z n w) j i = qOf z j i := by
  intro i hi
  unfold qOf newCartZ
  rw [if_neg (by omega), if_neg (by omega)]
theorem nc_lo {z : Nat → Int32} {n i : Nat} {w : Int32} (h6 : i ≠ 6) (hi : i < 9) : newCartZ z n w i = z i := by
  unfold newCartZ
  rw [if_neg h6, if_neg (by omega)]
theorem nc_6 {z : Nat → Int32} {n : Nat} {w : Int32} : newCartZ z n w 6 = nI (n + 1) := if_pos rfl
theorem nc_nQ {z : Nat → Int32} {n : Nat} {w : Int32} : nQ (qOf (newCartZ z n w) n) = 1 := by
  unfold nQ
  rw [nc_q (by decide), if_pos rfl]
  rfl
theorem nc_EZ {z : Nat → Int32} {n B : Nat} {w : Int32} (hs : StOk z n) (h : EZ z B) : EZ (newCartZ z n w) B := by
  have n6 := hs.2.2.1
  refine ⟨fun k hk => ?_, by rw [nc_lo (by decide) (by decide)]; exact h.2.1, by rw [nc_lo (by decide) (by decide), nc_lo (by decide) (by decide)]; exact h.2.2.1, by rw [nc_lo (by decide) (by decide)]; exact h.2.2.2⟩
  rw [nc_6, cK_nI (by omega)] at hk
  by_cases e : k = n
  · subst e
    rw [nc_nQ]
    unfold EQc dQ
    rw [nc_q (by decide), nc_q (by decide), nc_q (by decide), nc_q (by decide)]
    exact ⟨rfl, fun a h1 h2 => absurd h1 (by omega), Iff.rfl, fun q => absurd rfl q, (by decide : (-5 : Int32) ≤ 5)⟩
  · obtain ⟨N, hN⟩ := hs.2.2.2 k (by omega)
    rw [nQ_eq (hN.to (nc_o e))]
    exact (h.q hs (by omega) hN).to hN.2.2.1 (nc_o e)
theorem ac_cart {A : AS} {n w : Nat} (hs : StOk (aZ A) n) (hn : n < 6) (h1 : 1 ≤ w) (h2 : w ≤ 200) : o_cart A (nI w) = (nI n, setZ (recA A) (newCartZ (aZ A) n (nI w))) := by
  unfold o_cart
  rw [if_pos ⟨nI_le (a := 1) h1 (by omega), nI_le (b := 200) h2 (by decide)⟩, hs.2.1, if_neg (fun q => by have := (nI6 (n := n) (by omega)).mp q; omega), cK_nI (by omega)]
theorem w_in {w : Nat} (h1 : 1 ≤ w) (h2 : w ≤ 200) : (1 : Int32) ≤ nI w ∧ nI w ≤ 200 := ⟨nI_le (a := 1) h1 (by omega), nI_le (b := 200) h2 (by decide)⟩
theorem d_in {d : Nat} (h1 : 2 ≤ d) (h2 : d ≤ 40) : (2 : Int32) ≤ nI d ∧ nI d ≤ 40 := ⟨nI_le (a := 2) h1 (by omega), nI_le (b := 40) h2 (by decide)⟩
theorem s_in {v : Nat} (h1 : 1 ≤ v) (h2 : v ≤ 9) : (1 : Int32) ≤ nI v ∧ nI v ≤ 9 := ⟨nI_le (a := 1) h1 (by omega), nI_le (b := 9) h2 (by decide)⟩
theorem nc_2 {A : AS} {z : Nat → Int32} {n n' : Nat} {w : Int32} (hs : StOk (aZ A) n') (hn : n < n') (hz : aZ A = newCartZ z n w) : o_cartOf A (nI n) 2 = w := by
  unfold o_cartOf
  rw [if_pos (in_c hs hn), if_neg (by decide), if_neg (by decide), if_pos rfl, qA_k hs hn, hz, nc_nQ]
  show (0 : Int32) + qOf (newCartZ z n w) n 5 = w
  rw [nc_q (by decide)]
  simp
theorem nc_0 {A : AS} {z : Nat → Int32} {n n' : Nat} {w : Int32} (hs : StOk (aZ A) n') (hn : n < n') (hz : aZ A = newCartZ z n w) : o_cartOf A (nI n) 0 = 1 := by
  unfold o_cartOf
  rw [if_pos (in_c hs hn), if_pos rfl, qA_k hs hn, hz, nc_q (by decide), if_pos rfl]
theorem nc_4 {A : AS} {z : Nat → Int32} {n n' : Nat} {w : Int32} (hs : StOk (aZ A) n') (hn : n < n') (hz : aZ A = newCartZ z n w) : o_cartOf A (nI n) 4 = -5 := by
  rw [xc_4 hs hn, hz, nc_q (by decide)]
  rfl
theorem nc_7 {A : AS} {z : Nat → Int32} {n n' : Nat} {w : Int32} (hs : StOk (aZ A) n') (hn : n < n') (hz : aZ A = newCartZ z n w) : o_cartOf A (nI n) 7 = -5 := by
  rw [xc_7 hs hn, hz, nc_q (by decide)]
  rfl
theorem na_q {z : Nat → Int32} {k N j : Nat} {d w : Int32} (hN : N < 5) : qOf (newAxleZ z k N d w) k j = if j = 0 then nI (N + 1) else if j = 15 + N then 0 else if j = 10 + N then d else if j = 5 + N then w else qOf z k j := by
  unfold newAxleZ
  rw [lay_q (by decide), lay_q (by omega), lay_q (by omega), lay_q (by omega)]
theorem na_o {z : Nat → Int32} {k N i : Nat} {d w : Int32} (hN : N < 5) (h : i < 9 + 20 * k ∨ 9 + 20 * k + 20 ≤ i) : newAxleZ z k N d w i = z i := by
  unfold newAxleZ
  rw [lay_o (by decide) h, lay_o (by omega) h, lay_o (by omega) h, lay_o (by omega) h]
theorem ac_axle {A : AS} {n k N d w : Nat} (hs : StOk (aZ A) n) (hk : k < n) (hq : CartOk (qOf (aZ A) k) N) (hN : N < 5) (hd : 2 ≤ d) (hd2 : d ≤ 40) (h1 : 1 ≤ w) (h2 : w ≤ 200) : o_axle A (nI k) (nI d) (nI w) = (nI (N + 1), setZ (recA A) (newAxleZ (aZ A) k N (nI d) (nI w))) := by
  have n6 := hs.2.2.1
  unfold o_axle
  rw [if_pos (in_c hs hk), if_pos ⟨d_in hd hd2, w_in h1 h2⟩, qA_k hs hk, hq.1, if_neg (fun q => by have := (nI5 (n := N) (by omega)).mp q; omega), nI_1, nQ_eq hq, cK_nI (by omega)]
theorem na_EZ {z : Nat → Int32} {n k N B d : Nat} {w : Int32} (hs : StOk z n) (h : EZ z B) (hk : k < n) (hq : CartOk (qOf z k) N) (hN : N < 5) (hd : 2 ≤ d) (hd2 : d ≤ 40) : EZ (newAxleZ z k N (nI d) w) B := by
  refine h.one hs (k := k) (fun i _ hi => na_o hN hi) (fun _ => ?_) (by rw [na_o hN (by omega)]; exact h.2.1) (by rw [na_o hN (by omega), na_o hN (by omega)]; exact h.2.2.1) (by rw [na_o hN (by omega)]; exact h.2.2.2)
  have eN : nQ (qOf (newAxleZ z k N (nI d) w) k) = N + 1 := by
    unfold nQ
    rw [na_q hN, if_pos rfl]
    exact nI_clamp (by omega)
  have h0 := hq.2.1
  obtain ⟨g1, g2, g3, g4, g5⟩ := h.q hs hk hq
  rw [eN]
  have e : ∀ j, j ≠ 0 → j ≠ 15 + N → j ≠ 10 + N → j ≠ 5 + N → qOf (newAxleZ z k N (nI d) w) k j = qOf z k j := fun j a1 a2 a3 a4 => by
    rw [na_q hN, if_neg a1, if_neg a2, if_neg a3, if_neg a4]
  unfold EQc dQ
  rw [e 3 (by decide) (by omega) (by omega) (by omega), e 4 (by decide) (by omega) (by omega) (by omega), e 2 (by decide) (by omega) (by omega) (by omega), e (10 + 0) (by decide) (by omega) (by omega) (by omega)]
  refine ⟨g1, fun a h1 h2 => ?_, g3, g4, g5⟩
  by_cases ea : a = N
  · subst ea
    rw [na_q hN, if_neg (by omega), if_neg (by omega), if_pos rfl]
    exact nI_le (a := 2) hd (by omega)
  · rw [e _ (by omega) (by omega) (by omega) (by omega)]
    exact g2 a h1 (by omega)
theorem na_in {A : AS} {z : Nat → Int32} {n' k N : Nat} {d w : Int32} (hs : StOk (aZ A) n') (hk : k < n') (hN : N < 5) (hz : aZ A = newAxleZ z k N d w) : ((0 : Int32) ≤ nI k ∧ nI k < aZ A 6) ∧ (0 : Int32) ≤ nI N ∧ nI N < qA A (nI k) 0 := by
  refine ⟨in_c hs hk, nI_pos' (by omega), ?_⟩
  rw [qA_k hs hk, hz, na_q hN, if_pos rfl]
  exact nI_lt (Nat.lt_succ_self N) (by omega)
theorem na_0 {A : AS} {z : Nat → Int32} {n' k N : Nat} {d w : Int32} (hs : StOk (aZ A) n') (hk : k < n') (hN : N < 5) (hz : aZ A = newAxleZ z k N d w) : o_axleOf A (nI k) (nI N) 0 = w := by
  unfold o_axleOf
  rw [if_pos (na_in hs hk hN hz), if_pos rfl, qA_k hs hk, cK_nI (by omega), hz]
  unfold wQ
  rw [na_q hN, if_neg (by omega), if_neg (by omega), if_neg (by omega), if_pos rfl]
theorem na_1 {A : AS} {z : Nat → Int32} {n' k N : Nat} {d w : Int32} (hs : StOk (aZ A) n') (hk : k < n') (hN : N < 5) (hz : aZ A = newAxleZ z k N d w) : o_axleOf A (nI k) (nI N) 1 = d := by
  unfold o_axleOf
  rw [if_pos (na_in hs hk hN hz), if_neg (by decide), if_pos rfl, qA_k hs hk, cK_nI (by omega), hz]
  unfold dQ
  rw [na_q hN, if_neg (by omega), if_neg (by omega), if_pos rfl]
theorem na_2 {A : AS} {z : Nat → Int32} {n' k N : Nat} {d w : Int32} (hs : StOk (aZ A) n') (hk : k < n') (hN : N < 5) (hz : aZ A = newAxleZ z k N d w) : o_axleOf A (nI k) (nI N) 2 = 0 := by
  unfold o_axleOf
  rw [if_pos (na_in hs hk hN hz), if_neg (by decide), if_neg (by decide), if_pos rfl, qA_k hs hk, cK_nI (by omega), hz]
  unfold lQ
  rw [na_q hN, if_neg (by omega), if_pos rfl]
/-- one number of a cart is another -/
theorem ly_EZ {z : Nat → Int32} {n k N B i : Nat} {v : Int32} (hs : StOk z n) (h : EZ z B) (hk : k < n) (hq : CartOk (qOf z k) N) (hi : i = 1 ∨ (5 ≤ i ∧ i < 10) ∨ (15 ≤ i ∧ i < 20)) : EZ (lay z k i v) B := by
  refine h.one hs (k := k) (fun j _ hj => lay_o (by omega) hj) (fun _ => ?_) (by rw [lay_lo (by decide)]; exact h.2.1) (by rw [lay_lo (by decide), lay_lo (by decide)]; exact h.2.2.1) (by rw [lay_lo (by decide)]; exact h.2.2.2)
  have e : ∀ j, j ≠ i → qOf (lay z k i v) k j = qOf z k j := fun j hj => by rw [lay_q (by omega), if_neg hj]
  have eN : nQ (qOf (lay z k i v) k) = N := by
    unfold nQ
    rw [e 0 (by omega)]
    exact nQ_eq hq
  have h5 := hq.2.2.1
  obtain ⟨g1, g2, g3, g4, g5⟩ := h.q hs hk hq
  rw [eN]
  unfold EQc dQ
  rw [e 3 (by omega), e 4 (by omega), e 2 (by omega), e (10 + 0) (by omega)]
  refine ⟨g1, fun a h1 h2 => ?_, g3, g4, g5⟩
  rw [e _ (by omega)]
  exact g2 a h1 h2
theorem ac_load {A : AS} {n k N a w : Nat} (hs : StOk (aZ A) n) (hk : k < n) (hq : CartOk (qOf (aZ A) k) N) (ha : a < N) (h1 : 1 ≤ w) (h2 : w ≤ 200) (hne : wQ (qOf (aZ A) k) a ≠ nI w) : o_load A (nI k) (nI a) (nI w) = (wQ (qOf (aZ A) k) a, setZ (recA A) (lay (aZ A) k (5 + a) (nI w))) := by
  have n6 := hs.2.2.1
  unfold o_load
  rw [if_pos (in_a hs hk hq ha), if_pos (w_in h1 h2), qA_k hs hk, cK_a hq.2.2.1 ha, if_neg hne, cK_nI (by omega)]
theorem ly_in {A : AS} {z : Nat → Int32} {n' k N a i : Nat} {v : Int32} (hs : StOk (aZ A) n') (hk : k < n') (hq : CartOk (qOf z k) N) (ha : a < N) (hi : i ≠ 0) (hi2 : i < 20) (hz : aZ A = lay z k i v) : ((0 : Int32) ≤ nI k ∧ nI k < aZ A 6) ∧ (0 : Int32) ≤ nI a ∧ nI a < qA A (nI k) 0 := by
  have h5 := hq.2.2.1
  refine ⟨in_c hs hk, nI_pos' (by omega), ?_⟩
  rw [qA_k hs hk, hz, lay_q hi2, if_neg (fun q => hi q.symm), hq.1]
  exact nI_lt ha (by omega)
theorem ly_0 {A : AS} {z : Nat → Int32} {n' k N a : Nat} {v : Int32} (hs : StOk (aZ A) n') (hk : k < n') (hq : CartOk (qOf z k) N) (ha : a < N) (hz : aZ A = lay z k (5 + a) v) : o_axleOf A (nI k) (nI a) 0 = v := by
  have h5 := hq.2.2.1
  unfold o_axleOf
  rw [if_pos (ly_in hs hk hq ha (by omega) (by omega) hz), if_pos rfl, qA_k hs hk, cK_nI (by omega), hz]
  unfold wQ
  rw [lay_q (by omega), if_pos rfl]
theorem ly_2 {A : AS} {z : Nat → Int32} {n' k N a : Nat} {v : Int32} (hs : StOk (aZ A) n') (hk : k < n') (hq : CartOk (qOf z k) N) (ha : a < N) (hz : aZ A = lay z k (15 + a) v) : o_axleOf A (nI k) (nI a) 2 = v := by
  have h5 := hq.2.2.1
  unfold o_axleOf
  rw [if_pos (ly_in hs hk hq ha (by omega) (by omega) hz), if_neg (by decide), if_neg (by decide), if_pos rfl, qA_k hs hk, cK_nI (by omega), hz]
  unfold lQ
  rw [lay_q (by omega), if_pos rfl]
theorem sumN_one {f g : Nat → Nat} {a : Nat} : ∀ n, a < n → (∀ k, k ≠ a → f k = g k) → sumN f n + g a = sumN g n + f a := by
  intro n
  induction n with
  | zero => intro h; omega
  | succ n ih =>
    intro h e
    rw [sumN, sumN]
    by_cases q : a = n
    · subst q
      rw [sumN_congr a (fun k hk => e k (by omega))]
      omega
    · have := ih (by omega) e
      rw [e n (fun z => q z.symm)]
      omega
theorem dw_lay {z : Nat → Int32} {k N a : Nat} {u : Int32} (h5 : N ≤ 5) (ha : a < N) : dwN (qOf (lay z k (15 + a) u) k) N + (if lQ (qOf z k) a = 0 then 1 else 0) = dwN (qOf z k) N + (if u = 0 then 1 else 0) := by
  have e : ∀ j, lQ (qOf (lay z k (15 + a) u) k) j = if j = a then u else lQ (qOf z k) j := fun j => by
    unfold lQ
    rw [lay_q (by omega)]
    by_cases q : j = a
    · rw [if_pos q, if_pos (by omega)]
    · rw [if_neg q, if_neg (by omega)]
  have h := sumN_one (f := fun j => if lQ (qOf (lay z k (15 + a) u) k) j = 0 then 1 else 0) (g := fun j => if lQ (qOf z k) j = 0 then 1 else 0) N ha (fun j hj => by rw [e, if_neg hj])
  simp only [e a, if_true] at h
  exact h
theorem ac_lift {A : AS} {n k N a : Nat} {u : Int32} (hs : StOk (aZ A) n) (hk : k < n) (hq : CartOk (qOf (aZ A) k) N) (ha : a < N) (hu : ¬ (u ≠ 0 ∧ lQ (qOf (aZ A) k) a = 0 ∧ dwN (qOf (aZ A) k) N = 1)) (hne : u ≠ lQ (qOf (aZ A) k) a) : o_lift A (nI k) (nI a) u = (nI (dwN (qOf (lay (aZ A) k (15 + a) u) k) N), setZ (recA A) (lay (aZ A) k (15 + a) u)) := by
  have n6 := hs.2.2.1
  have h5 := hq.2.2.1
  have hd5 := dw_le (qOf (aZ A) k) N
  unfold o_lift
  rw [if_pos (in_a hs hk hq ha), qA_k hs hk, cK_a h5 ha, nQ_eq hq, dw_ok, if_neg (fun q => hu ⟨q.1, q.2.1, (nI_eq (b := 1) (by omega) (by decide)).mp q.2.2⟩), if_neg hne, cK_nI (by omega), dw_ok]
theorem rz_q {z : Nat → Int32} {k j : Nat} {s : Int32} : qOf (runZ3 z k s) k j = if j = 4 then wtQ (qOf z k) s else if j = 3 then s else if j = 2 then twQ z (qOf z k) s else qOf z k j := by
  have e : ∀ i v j, i < 9 → qOf (upd (runZ z k s) i v) k j = qOf (runZ z k s) k j := fun i v j hi => pk_un (by omega)
  have e2 : qOf (runZ z k s) k j = if j = 4 then wtQ (qOf z k) s else if j = 3 then s else if j = 2 then twQ z (qOf z k) s else qOf z k j := by
    unfold runZ
    rw [lay_q (by decide), lay_q (by decide), lay_q (by decide)]
  rw [← e2]
  unfold runZ3 runZ2
  split
  · show upd (upd (runZ z k s) 7 (z 7 + 1)) 8 (z 8 + 1) (9 + 20 * k + j) = _
    rw [pk_un (by omega)]
    exact e 7 _ j (by decide)
  · exact e 7 _ j (by decide)
theorem rz_o {z : Nat → Int32} {k i : Nat} {s : Int32} (h7 : i ≠ 7) (h8 : i ≠ 8) (h : i < 9 + 20 * k ∨ 9 + 20 * k + 20 ≤ i) : runZ3 z k s i = z i := by
  have e : runZ z k s i = z i := by
    unfold runZ
    rw [lay_o (by decide) h, lay_o (by decide) h, lay_o (by decide) h]
  unfold runZ3 runZ2
  split
  · rw [pk_un h8, pk_un h7, e]
  · rw [pk_un h7, e]
theorem rz_7 {z : Nat → Int32} {k : Nat} {s : Int32} : runZ3 z k s 7 = z 7 + 1 := by
  unfold runZ3 runZ2
  split
  · rw [pk_un (by decide), pk_us]
  · rw [pk_us]
theorem rz_8 {z : Nat → Int32} {k : Nat} {s : Int32} : runZ3 z k s 8 = z 8 + (if rsQ z (qOf z k) s = 0 then 1 else 0) := by
  have e : runZ z k s 8 = z 8 := by
    unfold runZ
    rw [lay_lo (by decide), lay_lo (by decide), lay_lo (by decide)]
  unfold runZ3 runZ2
  by_cases h : rsQ z (qOf z k) s = 0
  · rw [if_pos h, if_pos h, pk_us]
  · rw [if_neg h, if_neg h, pk_un (by decide), e]
    simp
theorem ac_run {A : AS} {n k v : Nat} (hs : StOk (aZ A) n) (hk : k < n) (h1 : 1 ≤ v) (h9 : v ≤ 9) : o_run A (nI k) (nI v) = (if rsQ (aZ A) (qOf (aZ A) k) (nI v) = 0 then lvQ (aZ A) (qOf (aZ A) k) (nI v) 2 else -10 - rsQ (aZ A) (qOf (aZ A) k) (nI v), setZ (recA A) (runZ3 (aZ A) k (nI v))) := by
  have n6 := hs.2.2.1
  unfold o_run
  rw [if_pos (in_c hs hk), if_pos (s_in h1 h9), qA_k hs hk, cK_nI (by omega)]
theorem rz_EZ {z : Nat → Int32} {n k N B v : Nat} (hs : StOk z n) (h : EZ z B) (hk : k < n) (hq : CartOk (qOf z k) N) (h1 : 1 ≤ v) (h9 : v ≤ 9) (hB : B + 1 < 2 ^ 31) : EZ (runZ3 z k (nI v)) (B + 1) := by
  obtain ⟨c, c1, c2, c3⟩ := wt_fin hq h1 h9
  have h5 := hq.2.2.1
  have hd := dw_le (qOf z k) N
  obtain ⟨e1, e2, e3, e4⟩ := h
  have hB1 : nI B + 1 = nI (B + 1) := nI_1 B
  have hBm : nI (B + 1) ≤ nI (2 ^ 31 - 1) := nI_le (by omega) (by decide)
  have hM : nI (2 ^ 31 - 1) = (2147483647 : Int32) := rfl
  have hBp := nI_pos' (n := B) (by omega)
  have hBp1 := nI_lt (Nat.lt_succ_self B) (by omega)
  refine EZ.one (B := B) hs ⟨e1, e2, e3, e4⟩ (k := k) (fun j hj hj2 => rz_o (by omega) (by omega) hj2) (fun _ => ?_) ?_ ?_ ?_
  · have eN : nQ (qOf (runZ3 z k (nI v)) k) = N := by
      unfold nQ
      rw [rz_q, if_neg (by decide), if_neg (by decide), if_neg (by decide)]
      exact nQ_eq hq
    obtain ⟨g1, g2, g3, g4, g5⟩ := EZ.q ⟨e1, e2, e3, e4⟩ hs hk hq
    rw [eN]
    unfold EQc dQ
    rw [rz_q, if_neg (by decide), if_neg (by decide), if_neg (by decide), rz_q, if_neg (by decide), if_pos rfl, rz_q, if_pos rfl, rz_q, if_neg (by decide), if_neg (by decide), if_pos rfl, c1]
    have p3 : (0 : Int32) < nI v := nI_lt (a := 0) h1 (by omega)
    have p4 : (0 : Int32) < nI c := nI_lt (a := 0) c2 (by omega)
    refine ⟨g1, fun a a1 a2 => ?_, ⟨fun q => ?_, fun q => ?_⟩, fun _ => p3, nI_le (b := 5) (by omega) (by decide)⟩
    · rw [rz_q, if_neg (by omega), if_neg (by omega), if_neg (by omega)]
      exact g2 a a1 a2
    · rw [q] at p3
      exact absurd p3 (by decide)
    · rw [q] at p4
      exact absurd p4 (by decide)
  · rw [rz_8]
    by_cases q : rsQ z (qOf z k) (nI v) = 0
    · rw [if_pos q]
      grind
    · rw [if_neg q]
      grind
  · rw [rz_8, rz_7]
    by_cases q : rsQ z (qOf z k) (nI v) = 0
    · rw [if_pos q]
      grind
    · rw [if_neg q]
      grind
  · rw [rz_7, ← hB1]
    grind
theorem ac_tare {A : AS} {n k : Nat} (hs : StOk (aZ A) n) (hk : k < n) (h : qOf (aZ A) k 2 ≠ -5) (h2 : qOf (aZ A) k 2 ≠ qOf (aZ A) k 1) : o_tare A (nI k) = (qOf (aZ A) k 2, setZ (recA A) (lay (aZ A) k 1 (qOf (aZ A) k 2))) := by
  have n6 := hs.2.2.1
  unfold o_tare
  rw [if_pos (in_c hs hk), qA_k hs hk, if_neg h, if_neg h2, cK_nI (by omega)]
theorem ac_set {A : AS} {i : Nat} {v : Int32} (hi : i < 6) (hv : leastS i ≤ v ∧ v ≤ mostS i) (hne : aZ A i ≠ v) : o_set A (nI i) v = (aZ A i, setZ (recA A) (upd (aZ A) i v)) := by
  unfold o_set
  rw [if_pos ⟨nI_pos' (by omega), nI_lt (b := 6) hi (by decide)⟩, cK_nI (by omega), if_pos hv, if_neg hne]
theorem up_EZ {z : Nat → Int32} {n B i : Nat} {v : Int32} (hs : StOk z n) (h : EZ z B) (hi : i < 6) : EZ (upd z i v) B := by
  have n6 := hs.2.2.1
  exact h.one hs (k := 6) (fun j hj _ => pk_un (by omega)) (fun q => absurd q (by omega)) (by rw [pk_un (by omega)]; exact h.2.1) (by rw [pk_un (by omega), pk_un (by omega)]; exact h.2.2.1) (by rw [pk_un (by omega)]; exact h.2.2.2)
