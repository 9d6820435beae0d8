/-! THE MODEL READS A TEXT -/
def TX (S : ST) (f : Nat → Int32) (n pos : Nat) : Prop := S 181 20 = nI pos ∧ pos ≤ n ∧ S 181 6 = nI n ∧ n ≤ 60 ∧ ∀ i, i < n → S 185 i = f i
theorem TX_mv {S : ST} {f : Nat → Int32} {n pos p2 : Nat} (h : TX S f n pos) (h2 : p2 ≤ n) : TX (stw S 181 20 (nI p2)) f n p2 :=
  ⟨by rw [stw_app, if_pos ⟨rfl, rfl⟩], h2, by rw [stw_app, if_neg (by decide)]; exact h.2.2.1, h.2.2.2.1, fun i hi => by rw [stw_n (by decide)]; exact h.2.2.2.2 i hi⟩
theorem stw_at {S : ST} {k i : Nat} {v w : Int32} : stw (stw S k i v) k i w = stw S k i w := by
  funext a b
  simp only [stw_app]
  by_cases h : a = k ∧ b = i
  · rw [if_pos h, if_pos h]
  · rw [if_neg h, if_neg h, if_neg h]
theorem stw_id {S : ST} {k i : Nat} {v : Int32} (h : S k i = v) : stw S k i v = S := by
  funext a b
  rw [stw_app]
  by_cases e : a = k ∧ b = i
  · rw [if_pos e, e.1, e.2, h]
  · rw [if_neg e]
theorem dgt_ok {c : Int32} (h : 48 ≤ c ∧ c ≤ 57) : c - 48 = nI (dgt c) ∧ dgt c ≤ 9 := by
  obtain ⟨j, hj, e⟩ := nI_le_of (x := c - 48) (b := 9) (by grind) (by decide) (by have : nI 9 = (9 : Int32) := rfl; grind)
  have hd : dgt c = j := by
    unfold dgt
    rw [e]
    exact cK_nI (by omega)
  rw [hd]
  exact ⟨e, hj⟩
set_option maxHeartbeats 4000000 in
set_option maxRecDepth 100000 in
theorem c_X7_sees {l : Launch} {b : Nat} {D : va_G} {cA : Nat → ClassId} {ad : Nat → Nat} {S : ST} {f : Nat → Int32} {n pos : Nat} {x y : Int32} (hX : TX S f n pos) : MT l b D cA NN ad zT yX7_sees cX7_sees 3 (some .boolean) 1 [.ref (ad 181), .int x, .int y] S (EI (if pos < n ∧ x ≤ f pos ∧ f pos ≤ y then 1 else 0) S) := by
  obtain ⟨hx1, hx2, hx3, hx4, hx5⟩ := hX
  refine MT.intro (j := 0) (ls := [some (.ref (ad 181)), some (.int x), some (.int y)]) pn_X7 rfl rfl rfl (fun pr en s0 mi below meth c' K _ => ?_)
  refine g_aload_n K dX7_sees_0 rfl ?_
  refine g_geti K lk_X7_160 dX7_sees_1 rfl (rfl : kd 181 = 7) (by decide) (by decide) hx1 ?_
  refine g_aload_n K dX7_sees_4 rfl ?_
  refine g_geti K lk_X7_157 dX7_sees_5 rfl (rfl : kd 181 = 7) (by decide) (by decide) hx3 ?_
  refine g_icmp_ge (tgt := 32) K dX7_sees_8 (by decide) (fun u8 => ?_) (fun u8 => ?_)
  · have hpn : ¬ pos < n := by
      rw [nI_leI (by omega) (by omega)] at u8
      omega
    refine g_iconst K dX7_sees_32 kc_0 ?_
    refine g_zret K dX7_sees_33 (by first | exact Or.inl rfl | exact Or.inr rfl | assumption) ⟨_, rfl, ?_⟩
    refine ⟨?_, rfl⟩
    grind
  · have hpn : pos < n := by
      rw [nI_leI (by omega) (by omega)] at u8
      omega
    refine g_aload_n K dX7_sees_11 rfl ?_
    refine g_getr (j := 185) K lk_X7_19 dX7_sees_12 rfl (by decide) (rfl : kd 181 = 7) (by decide) (by decide) rfl (rfl : rs 181 5 = 185) ?_
    refine g_aload_n K dX7_sees_15 rfl ?_
    refine g_geti K lk_X7_160 dX7_sees_16 rfl (rfl : kd 181 = 7) (by decide) (by decide) hx1 ?_
    refine g_iald (j := pos) K dX7_sees_19 rfl ln_185 (by omega) (rfl : kd 185 = 8) (by decide) (hx5 pos hpn) ?_
    refine g_iload_n K dX7_sees_20 rfl ?_
    refine g_iload_n K dX7_sees_21 rfl ?_
    refine g_callSi K c_X7_in mw_X7_in ml_X7_46 dX7_sees_22 (by rfl) rfl (by simp [Value.category]) ⟨by decide, by decide⟩ ⟨by decide, by decide⟩ ?_
    refine g_if_eq (tgt := 32) K dX7_sees_25 (by decide) (fun u25 => ?_) (fun u25 => ?_)
    · refine g_iconst K dX7_sees_32 kc_0 ?_
      refine g_zret K dX7_sees_33 (by first | exact Or.inl rfl | exact Or.inr rfl | assumption) ⟨_, rfl, ?_⟩
      refine ⟨?_, rfl⟩
      grind
    · refine g_iconst K dX7_sees_28 kc_1 ?_
      refine g_goto (tgt := 33) K dX7_sees_29 (by decide) ?_
      refine g_zret K dX7_sees_33 (by first | exact Or.inl rfl | exact Or.inr rfl | assumption) ⟨_, rfl, ?_⟩
      refine ⟨?_, rfl⟩
      grind
set_option maxHeartbeats 4000000 in
set_option maxRecDepth 100000 in
theorem c_X7_takes {l : Launch} {b : Nat} {D : va_G} {cA : Nat → ClassId} {ad : Nat → Nat} {S : ST} {f : Nat → Int32} {n pos : Nat} {x : Int32} (hX : TX S f n pos) : MT l b D cA NN ad zT yX7_takes cX7_takes 3 (some .boolean) 2 [.ref (ad 181), .int x] S (EI (if pos < n ∧ f pos = x then 1 else 0) (stw S 181 20 (nI (if pos < n ∧ f pos = x then pos + 1 else pos)))) := by
  have hle : (x ≤ f pos ∧ f pos ≤ x) ↔ f pos = x := ⟨fun h => by grind, fun h => by grind⟩
  refine MT.intro (j := 1) (ls := [some (.ref (ad 181)), some (.int x), none]) pn_X7 rfl rfl rfl (fun pr en s0 mi below meth c' K _ => ?_)
  refine g_aload_n K dX7_takes_0 rfl ?_
  refine g_iload_n K dX7_takes_1 rfl ?_
  refine g_iload_n K dX7_takes_2 rfl ?_
  refine g_callVi K (c_X7_sees hX) mw_X7_sees ml_X7_163 dX7_takes_3 (by rfl) rfl rfl (by decide) (by simp [Value.category]) ⟨by decide, by decide⟩ ⟨by decide, by decide⟩ ?_
  refine g_nm (y := if pos < n ∧ f pos = x then 1 else 0) (by simp only [hle]) ?_
  refine g_istore_n (ls2 := [_, _, some (.int _)]) K dX7_takes_6 (by decide) rfl ?_
  refine g_aload_n K dX7_takes_7 rfl ?_
  refine g_dup K dX7_takes_8 rfl ?_
  refine g_geti K lk_X7_160 dX7_takes_9 rfl (rfl : kd 181 = 7) (by decide) (by decide) hX.1 ?_
  refine g_iload_n K dX7_takes_12 rfl ?_
  refine g_if_eq (tgt := 20) K dX7_takes_13 (by decide) (fun u13 => ?_) (fun u13 => ?_)
  · refine g_iconst K dX7_takes_20 kc_0 ?_
    refine g_iadd K dX7_takes_21 ?_
    refine g_puti K lk_X7_160 lq_X7_20 dX7_takes_22 (put_i _) rfl (rfl : kd 181 = 7) (by decide) (by decide) ?_
    refine g_iload_n K dX7_takes_25 rfl ?_
    refine g_zret K dX7_takes_26 (by split <;> first | exact Or.inr rfl | exact Or.inl rfl) ⟨_, rfl, ?_⟩
    refine ⟨rfl, ?_⟩
    first
      | (have h : pos < n ∧ f pos = x := by grind
         rw [if_pos h, nI_1])
      | (have h : ¬ (pos < n ∧ f pos = x) := by grind
         rw [if_neg h]
         congr 1
         grind)
  · refine g_iconst K dX7_takes_16 kc_1 ?_
    refine g_goto (tgt := 21) K dX7_takes_17 (by decide) ?_
    refine g_iadd K dX7_takes_21 ?_
    refine g_puti K lk_X7_160 lq_X7_20 dX7_takes_22 (put_i _) rfl (rfl : kd 181 = 7) (by decide) (by decide) ?_
    refine g_iload_n K dX7_takes_25 rfl ?_
    refine g_zret K dX7_takes_26 (by split <;> first | exact Or.inr rfl | exact Or.inl rfl) ⟨_, rfl, ?_⟩
    refine ⟨rfl, ?_⟩
    first
      | (have h : pos < n ∧ f pos = x := by grind
         rw [if_pos h, nI_1])
      | (have h : ¬ (pos < n ∧ f pos = x) := by grind
         rw [if_neg h]
         congr 1
         grind)
def NumP (f : Nat → Int32) (n pos : Nat) (lo hi : Nat) (S : ST) : Int32 → ST → Prop := fun r S2 => ∃ x p2, pos ≤ p2 ∧ p2 ≤ n ∧ S2 = stw S 181 20 (nI p2) ∧
  ((r = -5 ∧ ∀ t : Nat × Nat × Nat × List (Nat × Nat), (if t.1 = 1 then lo = 2 ∧ hi = 40 else lo = 1 ∧ hi = 200) → prun f (n - pos) pos (0, t) = .inl p2)
   ∨ (r = nI x ∧ pos + 1 ≤ p2 ∧ lo ≤ x ∧ x ≤ hi ∧ (p2 < n → 48 ≤ f p2 ∧ f p2 ≤ 57 → hi < x * 10 + dgt (f p2)) ∧ ∀ t : Nat × Nat × Nat × List (Nat × Nat), (if t.1 = 1 then lo = 2 ∧ hi = 40 else lo = 1 ∧ hi = 200) → prun f (n - pos) pos (0, t) = prun f (n - p2) p2 (x, t)))
theorem lim_t {x lo hi : Nat} {t : Nat × Nat × Nat × List (Nat × Nat)} (h : if t.1 = 1 then lo = 2 ∧ hi = 40 else lo = 1 ∧ hi = 200) : limP (x, t) = hi ∧ (wholeP (x, t) ↔ lo ≤ x ∧ x ≤ hi) := by
  unfold limP wholeP
  by_cases e : t.1 = 1
  · rw [if_pos e] at h
    simp only [e, if_true]
    omega
  · rw [if_neg e] at h
    simp only [e, if_false]
    omega
/-- one digit more -/
theorem prun_dig {f : Nat → Int32} {n pos x lo hi : Nat} {t : Nat × Nat × Nat × List (Nat × Nat)} (h : if t.1 = 1 then lo = 2 ∧ hi = 40 else lo = 1 ∧ hi = 200) (hp : pos < n) (hd : 48 ≤ f pos ∧ f pos ≤ 57) (h0 : ¬ x * 10 + dgt (f pos) = 0) (hl : x * 10 + dgt (f pos) ≤ hi) : prun f (n - pos) pos (x, t) = prun f (n - (pos + 1)) (pos + 1) (x * 10 + dgt (f pos), t) := by
  obtain ⟨l1, l2⟩ := lim_t (x := x) h
  rw [show n - pos = (n - (pos + 1)) + 1 by omega]
  conv => lhs; unfold prun
  have e : pstep (x, t) (f pos) = some (x * 10 + dgt (f pos), t) := by
    unfold pstep
    rw [l1, if_pos hd, if_neg (by simp only; omega)]
  rw [e]
/-- a number that is not whole, and no digit: a fault here -/
theorem prun_stop {f : Nat → Int32} {n pos x lo hi : Nat} {t : Nat × Nat × Nat × List (Nat × Nat)} (h : if t.1 = 1 then lo = 2 ∧ hi = 40 else lo = 1 ∧ hi = 200) (hw : x < lo) (hd : pos < n → 48 ≤ f pos ∧ f pos ≤ 57 → x * 10 + dgt (f pos) = 0 ∨ hi < x * 10 + dgt (f pos)) (hp : pos ≤ n) : prun f (n - pos) pos (x, t) = .inl pos := by
  obtain ⟨l1, l2⟩ := lim_t (x := x) h
  have hnw : ¬ wholeP (x, t) := by rw [l2]; omega
  rcases Nat.lt_or_ge pos n with q | q
  · rw [show n - pos = (n - (pos + 1)) + 1 by omega]
    unfold prun
    have e : pstep (x, t) (f pos) = none := by
      unfold pstep
      by_cases g : 48 ≤ f pos ∧ f pos ≤ 57
      · rw [l1, if_pos g, if_pos (hd q g)]
      · rw [if_neg g, if_pos hnw]
    rw [e]
  · rw [show n - pos = 0 by omega]
    unfold prun
    rw [if_pos (Or.inr hnw)]
set_option maxHeartbeats 4000000 in
set_option maxRecDepth 100000 in
theorem c_X7_number {l : Launch} {b : Nat} {D : va_G} {cA : Nat → ClassId} {ad : Nat → Nat} {S : ST} {f : Nat → Int32} {n pos : Nat} {lo hi : Nat} (hX : TX S f n pos) (hlh : 1 ≤ lo ∧ lo ≤ 2 ∧ (lo = 2 → hi = 40) ∧ 40 ≤ hi ∧ hi ≤ 200) : MT l b D cA NN ad zT yX7_number cX7_number 4 (some .int) 2 [.ref (ad 181), .int (nI lo), .int (nI hi)] S (RI (NumP f n pos lo hi S)) := by
  refine MT.intro (j := 1) (ls := [some (.ref (ad 181)), some (.int (nI lo)), some (.int (nI hi)), none]) pn_X7 rfl rfl rfl (fun pr en s0 mi below meth c' K _ => ?_)
  have lp : ∀ (fuel : Nat) (x p : Nat) (S1 : ST), (n + 1 ≤ p + fuel) → (pos ≤ p) → (x ≤ hi) → (TX S1 f n p) → (S1 = stw S 181 20 (nI p)) → ((x = 0 ∧ p < n ∧ 49 ≤ f p ∧ f p ≤ 57) ∨ (1 ≤ x ∧ pos + 1 ≤ p)) → (∀ t : Nat × Nat × Nat × List (Nat × Nat), (if t.1 = 1 then lo = 2 ∧ hi = 40 else lo = 1 ∧ hi = 200) → prun f (n - pos) pos (0, t) = prun f (n - p) p (x, t)) → G pr l en (rmd 2) s0 mi (List.toArray [.ref (ad 181), .int (nI lo), .int (nI hi)]) below meth c' (MQ below (QQ b D cA NN ad zT (RI (NumP f n pos lo hi S))) (List.toArray [.ref (ad 181), .int (nI lo), .int (nI hi)]) s0 0 0 (aF b)) b D cA 4 NN ad zT 0 0 16 [some (.ref (ad 181)), some (.int (nI lo)), some (.int (nI hi)), some (.int (nI x))] [] S1 := by
    intro fuel
    induction fuel with
    | zero =>
      intro x p  S1  hif hp1 hx hX1 hS h0 hr
      exact absurd hif (by have := hX1.2.1; omega)
    | succ fuel ih =>
      intro x p  S1  hif hp1 hx hX1 hS h0 hr
      have hpn := hX1.2.1
      have hn60 := hX1.2.2.2.1
      refine g_aload_n K dX7_number_16 rfl ?_
      refine g_bipush K dX7_number_17 kb_48 ?_
      refine g_bipush K dX7_number_19 kb_57 ?_
      refine g_callVi K (c_X7_sees hX1) mw_X7_sees ml_X7_163 dX7_number_21 (by rfl) rfl rfl (by decide) (by simp [Value.category]) ⟨by decide, by decide⟩ ⟨by decide, by decide⟩ ?_
      refine g_if_eq (tgt := 79) K dX7_number_24 (by decide) (fun u24 => ?_) (fun u24 => ?_)
      · have hg : ¬ (p < n ∧ 48 ≤ f p ∧ f p ≤ 57) := by grind
        refine g_iload_n K dX7_number_79 rfl ?_
        refine g_iload_n K dX7_number_80 rfl ?_
        refine g_icmp_ge (tgt := 89) K dX7_number_81 (by decide) (fun u81 => ?_) (fun u81 => ?_)
        · have hxl : lo ≤ x := by
            rw [nI_leI (by omega) (by omega)] at u81
            exact u81
          refine g_iload_n K dX7_number_89 rfl ?_
          refine g_iret K dX7_number_90 ⟨_, rfl, ?_⟩
          have hnd : p < n → 48 ≤ f p ∧ f p ≤ 57 → hi < x * 10 + dgt (f p) := fun q1 q2 => by
            first
            | exact hgt
            | exact absurd ⟨q1, q2⟩ hg
          refine ⟨x, p, hp1, hpn, hS, ?_⟩
          first
            | (refine Or.inr ⟨rfl, by omega, hxl, hx, hnd, hr⟩; done)
            | exact Or.inl ⟨rfl, fun t ht => (hr t ht).trans (prun_stop ht hxl (fun q1 q2 => Or.inr (hnd q1 q2)) hpn)⟩
        · have hxl : x < lo := by
            rw [nI_leI (by omega) (by omega)] at u81
            omega
          refine g_bipush K dX7_number_84 kb_m5 ?_
          refine g_goto (tgt := 90) K dX7_number_86 (by decide) ?_
          refine g_iret K dX7_number_90 ⟨_, rfl, ?_⟩
          have hnd : p < n → 48 ≤ f p ∧ f p ≤ 57 → hi < x * 10 + dgt (f p) := fun q1 q2 => by
            first
            | exact hgt
            | exact absurd ⟨q1, q2⟩ hg
          refine ⟨x, p, hp1, hpn, hS, ?_⟩
          first
            | (refine Or.inr ⟨rfl, by omega, hxl, hx, hnd, hr⟩; done)
            | exact Or.inl ⟨rfl, fun t ht => (hr t ht).trans (prun_stop ht hxl (fun q1 q2 => Or.inr (hnd q1 q2)) hpn)⟩
      · have hg : p < n ∧ 48 ≤ f p ∧ f p ≤ 57 := by grind
        obtain ⟨hd1, hd2⟩ := dgt_ok hg.2
        have hv : (10 : Int32) * nI x + f p - 48 = nI (x * 10 + dgt (f p)) := by
          rw [show (10 : Int32) * nI x + f p - 48 = 10 * nI x + (f p - 48) by grind, hd1, show (10 : Int32) = nI 10 from rfl, pk_mul, nI_add, Nat.mul_comm]
        refine g_bipush K dX7_number_27 kb_10 ?_
        refine g_iload_n K dX7_number_29 rfl ?_
        refine g_imul K dX7_number_30 ?_
        refine g_aload_n K dX7_number_31 rfl ?_
        refine g_getr (j := 185) K lk_X7_19 dX7_number_32 rfl (by decide) (rfl : kd 181 = 7) (by decide) (by decide) rfl (rfl : rs 181 5 = 185) ?_
        refine g_aload_n K dX7_number_35 rfl ?_
        refine g_geti K lk_X7_160 dX7_number_36 rfl (rfl : kd 181 = 7) (by decide) (by decide) hX1.1 ?_
        refine g_iald (j := p) K dX7_number_39 rfl ln_185 (by omega) (rfl : kd 185 = 8) (by decide) (hX1.2.2.2.2 p hg.1) ?_
        refine g_iadd K dX7_number_40 ?_
        refine g_bipush K dX7_number_41 kb_48 ?_
        refine g_isub K dX7_number_43 ?_
        refine g_iload_n K dX7_number_44 rfl ?_
        refine g_icmp_gt (tgt := 79) K dX7_number_45 (by decide) (fun u45 => ?_) (fun u45 => ?_)
        · have hgt : hi < x * 10 + dgt (f p) := by
            rw [hv, nI_ltI (by omega) (by omega)] at u45
            exact u45
          refine g_iload_n K dX7_number_79 rfl ?_
          refine g_iload_n K dX7_number_80 rfl ?_
          refine g_icmp_ge (tgt := 89) K dX7_number_81 (by decide) (fun u81 => ?_) (fun u81 => ?_)
          · have hxl : lo ≤ x := by
              rw [nI_leI (by omega) (by omega)] at u81
              exact u81
            refine g_iload_n K dX7_number_89 rfl ?_
            refine g_iret K dX7_number_90 ⟨_, rfl, ?_⟩
            have hnd : p < n → 48 ≤ f p ∧ f p ≤ 57 → hi < x * 10 + dgt (f p) := fun q1 q2 => by
              first
              | exact hgt
              | exact absurd ⟨q1, q2⟩ hg
            refine ⟨x, p, hp1, hpn, hS, ?_⟩
            first
              | (refine Or.inr ⟨rfl, by omega, hxl, hx, hnd, hr⟩; done)
              | exact Or.inl ⟨rfl, fun t ht => (hr t ht).trans (prun_stop ht hxl (fun q1 q2 => Or.inr (hnd q1 q2)) hpn)⟩
          · have hxl : x < lo := by
              rw [nI_leI (by omega) (by omega)] at u81
              omega
            refine g_bipush K dX7_number_84 kb_m5 ?_
            refine g_goto (tgt := 90) K dX7_number_86 (by decide) ?_
            refine g_iret K dX7_number_90 ⟨_, rfl, ?_⟩
            have hnd : p < n → 48 ≤ f p ∧ f p ≤ 57 → hi < x * 10 + dgt (f p) := fun q1 q2 => by
              first
              | exact hgt
              | exact absurd ⟨q1, q2⟩ hg
            refine ⟨x, p, hp1, hpn, hS, ?_⟩
            first
              | (refine Or.inr ⟨rfl, by omega, hxl, hx, hnd, hr⟩; done)
              | exact Or.inl ⟨rfl, fun t ht => (hr t ht).trans (prun_stop ht hxl (fun q1 q2 => Or.inr (hnd q1 q2)) hpn)⟩
        · have hle : x * 10 + dgt (f p) ≤ hi := by
            rw [hv, nI_ltI (by omega) (by omega)] at u45
            omega
          have h1 : 1 ≤ x * 10 + dgt (f p) := by
            rcases h0 with q | q
            · apply Nat.pos_of_ne_zero
              intro q2
              have q3 : dgt (f p) = 0 := by omega
              rw [q3] at hd1
              have q4 := q.2.2.1
              have : nI 0 = (0 : Int32) := rfl
              grind
            · omega
          refine g_bipush K dX7_number_48 kb_10 ?_
          refine g_iload_n K dX7_number_50 rfl ?_
          refine g_imul K dX7_number_51 ?_
          refine g_aload_n K dX7_number_52 rfl ?_
          refine g_getr (j := 185) K lk_X7_19 dX7_number_53 rfl (by decide) (rfl : kd 181 = 7) (by decide) (by decide) rfl (rfl : rs 181 5 = 185) ?_
          refine g_aload_n K dX7_number_56 rfl ?_
          refine g_geti K lk_X7_160 dX7_number_57 rfl (rfl : kd 181 = 7) (by decide) (by decide) hX1.1 ?_
          refine g_iald (j := p) K dX7_number_60 rfl ln_185 (by omega) (rfl : kd 185 = 8) (by decide) (hX1.2.2.2.2 p hg.1) ?_
          refine g_iadd K dX7_number_61 ?_
          refine g_bipush K dX7_number_62 kb_48 ?_
          refine g_isub K dX7_number_64 ?_
          refine g_istore_n (ls2 := [_, _, _, some (.int _)]) K dX7_number_65 (by decide) rfl ?_
          refine g_aload_n K dX7_number_66 rfl ?_
          refine g_dup K dX7_number_67 rfl ?_
          refine g_geti K lk_X7_160 dX7_number_68 rfl (rfl : kd 181 = 7) (by decide) (by decide) hX1.1 ?_
          refine g_iconst K dX7_number_71 kc_1 ?_
          refine g_iadd K dX7_number_72 ?_
          rw [nI_1]
          refine g_puti K lk_X7_160 lq_X7_20 dX7_number_73 (put_i _) rfl (rfl : kd 181 = 7) (by decide) (by decide) ?_
          refine g_goto (tgt := 16) K dX7_number_76 (by decide) ?_
          rw [hv]
          refine ih (x * 10 + dgt (f p)) (p + 1) _ (by omega) (by omega) hle (TX_mv hX1 (by omega)) ?_ (Or.inr ⟨h1, by omega⟩) (fun t ht => ?_)
          · rw [hS, stw_at]
          · rw [hr t ht]
            exact prun_dig ht hg.1 hg.2 (by omega) hle
  refine g_aload_n K dX7_number_0 rfl ?_
  refine g_bipush K dX7_number_1 kb_49 ?_
  refine g_bipush K dX7_number_3 kb_57 ?_
  refine g_callVi K (c_X7_sees hX) mw_X7_sees ml_X7_163 dX7_number_5 (by rfl) rfl rfl (by decide) (by simp [Value.category]) ⟨by decide, by decide⟩ ⟨by decide, by decide⟩ ?_
  refine g_if_ne (tgt := 14) K dX7_number_8 (by decide) (fun u8 => ?_) (fun u8 => ?_)
  · refine g_iconst K dX7_number_14 kc_0 ?_
    refine g_istore_n (ls2 := [_, _, _, some (.int _)]) K dX7_number_15 (by decide) rfl ?_
    exact lp (n + 1) 0 pos S (by omega) (Nat.le_refl _) (Nat.zero_le _) hX (stw_id hX.1).symm (Or.inl ⟨rfl, by grind⟩) (fun _ _ => rfl)
  · refine g_bipush K dX7_number_11 kb_m5 ?_
    refine g_iret K dX7_number_13 ⟨_, rfl, ?_⟩
    have hg : ¬ (pos < n ∧ 49 ≤ f pos ∧ f pos ≤ 57) := by grind
    refine ⟨0, pos, Nat.le_refl _, hX.2.1, (stw_id hX.1).symm, Or.inl ⟨rfl, fun t ht => prun_stop ht (by omega) (fun q g => Or.inl ?_) hX.2.1⟩⟩
    have e : f pos = 48 := by grind
    rw [e]
    rfl
