theorem tsw {x : Int32} {n : Nat} (hn : n < 2 ^ 30) (h : ¬ (x.toInt < 0 ∨ (n : Int) < x.toInt)) : ∃ j, j ≤ n ∧ x = nI j := by
  obtain ⟨j, hj, e⟩ := vp_in_of (x := x) (n := n + 1) (vp_in_iff.mpr (by omega)) (by omega)
  exact ⟨j, by omega, e⟩
theorem swo {x : Int32} {lo hi : Int} {v : Int32} (h : x.toInt < lo ∨ hi < x.toInt) (h1 : lo ≤ v.toInt) (h2 : v.toInt ≤ hi) : ¬ x = v := by
  intro e
  rw [e] at h
  omega
def o_cartOf (A : AS) (c w : Int32) : Int32 := if 0 ≤ c ∧ c < aZ A 6 then (if w = 0 then qA A c 0 else if w = 1 then downF (lQ (qA A c)) (nQ (qA A c)) else if w = 2 then sumF (wQ (qA A c)) (nQ (qA A c)) else if w = 3 then sumF (dQ (qA A c)) (nQ (qA A c)) else if w = 4 then qA A c 1 else if w = 5 then qA A c 2 else if w = 6 then netF (qA A c 1) (qA A c 2) else if w = 7 then qA A c 3 else if w = 8 then qA A c 4 else -2) else -1
def o_axleOf (A : AS) (c a w : Int32) : Int32 := if (0 ≤ c ∧ c < aZ A 6) ∧ 0 ≤ a ∧ a < qA A c 0 then (if w = 0 then wQ (qA A c) (cK a) else if w = 1 then dQ (qA A c) (cK a) else if w = 2 then lQ (qA A c) (cK a) else if w = 3 then borneF (wQ (qA A c)) (lQ (qA A c)) (nQ (qA A c)) a else -2) else -1
def o_count (A : AS) (w : Int32) : Int32 := if w = 0 then aZ A 6 else if w = 1 then aZ A 7 else if w = 2 then aZ A 8 else if w = 3 then sumF (fun k => if qOf (aZ A) k 1 = -5 then 0 else 1) (cK (aZ A 6)) else if w = 4 then nI (aM A) else if w = 5 then nI (aL A) else if 6 ≤ w ∧ w ≤ 11 then aZ A (cK (w - 6)) else -2
theorem downF_only {f : Nat → Int32} : ∀ {N j : Nat}, j < N → f j = 0 → (∀ b, b < N → b ≠ j → ¬ f b = 0) → N < 2 ^ 30 → downF f N = 1 := by
  intro N
  induction N with
  | zero => intro j hj; exact absurd hj (by omega)
  | succ N ih =>
    intro j hj h0 hall hN
    unfold downF sumF
    by_cases e : j = N
    · subst e
      rw [if_pos h0]
      have hz : ∀ k, k ≤ j → sumF (fun k => if f k = 0 then (1 : Int32) else 0) k = 0 := by
        intro k
        induction k with
        | zero => intro _; rfl
        | succ k ihk =>
          intro hk
          unfold sumF
          rw [ihk (by omega), if_neg (hall k (by omega) (by omega))]
          rfl
      rw [hz j (Nat.le_refl _)]
      rfl
    · rw [if_neg (hall N (by omega) (fun q => e q.symm))]
      have := ih (j := j) (by omega) h0 (fun b hb => hall b (by omega)) (by omega)
      unfold downF at this
      rw [this]
      rfl

/-- the sum of flags -/
theorem downF_one {f : Nat → Int32} : ∀ N, N < 2 ^ 30 → ∃ m, m ≤ N ∧ downF f N = nI m ∧ ((∃ b, b < N ∧ f b = 0) → 1 ≤ m) ∧ (∀ a b, a < N → b < N → a ≠ b → f a = 0 → f b = 0 → 2 ≤ m) := by
  intro N
  induction N with
  | zero => intro _; exact ⟨0, Nat.le_refl _, rfl, fun ⟨b, hb, _⟩ => absurd hb (by omega), fun a b ha => absurd ha (by omega)⟩
  | succ N ih =>
    intro hN
    obtain ⟨m, h1, h2, h3, h4⟩ := ih (by omega)
    by_cases e : f N = 0
    · refine ⟨m + 1, by omega, ?_, fun _ => by omega, fun a b ha hb hab fa fb => ?_⟩
      · unfold downF sumF
        unfold downF at h2
        rw [h2, if_pos e, nI_1]
      · have : 1 ≤ m := by
          by_cases ea : a = N
          · exact h3 ⟨b, by omega, fb⟩
          · exact h3 ⟨a, by omega, fa⟩
        omega
    · refine ⟨m, by omega, ?_, fun ⟨b, hb, fb⟩ => ?_, fun a b ha hb hab fa fb => ?_⟩
      · unfold downF sumF
        unfold downF at h2
        rw [h2, if_neg e]
        grind
      · have hbN : b ≠ N := fun q => e (q ▸ fb)
        exact h3 ⟨b, by omega, fb⟩
      · have haN : a ≠ N := fun q => e (q ▸ fa)
        have hbN : b ≠ N := fun q => e (q ▸ fb)
        exact h4 a b (by omega) (by omega) hab fa fb
theorem lift_last {q : Nat → Int32} {N j : Nat} {u : Int32} (hq : CartOk q N) (hj : j < N) (hu : u = 0 ∨ u = 1) (hne : ¬ u = lQ q j) (hd : ¬ (¬ u = 0 ∧ lQ q j = 0 ∧ downF (lQ q) N = 1)) : ¬ ¬ ∃ b, b < N ∧ (if b = j then u else lQ q b) = 0 := by
  intro hno
  have h5 := hq.2.2.1
  obtain ⟨b0, hb0, hl0⟩ := hq.2.2.2.2
  rcases hu with rfl | rfl
  · exact hno ⟨j, hj, by rw [if_pos rfl]⟩
  · have hj01 := (hq.2.2.2.1 j hj).2.2.2.2
    have hj0 : lQ q j = 0 := by grind
    obtain ⟨m, m1, m2, m3, m4⟩ := downF_one (f := lQ q) N (by omega)
    have hm : ¬ m = 1 := by
      intro e
      rw [e] at m2
      exact hd ⟨by decide, hj0, m2⟩
    have hall : ∀ b, b < N → b ≠ j → ¬ lQ q b = 0 := fun b hb hbj hb0 => hno ⟨b, hb, by rw [if_neg hbj]; exact hb0⟩
    have hone : downF (lQ q) N = 1 := downF_only hj hj0 hall (by omega)
    exact hd ⟨by decide, hj0, hone⟩

set_option maxHeartbeats 4000000 in
set_option maxRecDepth 100000 in
theorem c_X6_lift {l : Launch} {b : Nat} {D : va_G} {cA : Nat → ClassId} {ad : Nat → Nat} {S : ST} {A : AS} {n : Nat} {x y u : Int32} (hA : CRel S A n) (hu : u = 0 ∨ u = 1) : MT l b D cA NN ad zT yX6_lift cX6_lift 6 (some .int) 4 [.ref (ad 0), .int x, .int y, .int u] S (RI (CPost (o_lift A x y u) S)) := by
  obtain ⟨hb, hH⟩ := hA.2.1
  have n6 := hA.1.n6
  have hn := hA.1.n
  have hz6 : aZ A 6 = nI n := hA.1.1.2.1
  obtain ⟨hR, hRf⟩ := rem_rel hH hA
  refine MT.intro (j := 2) (ls := [some (.ref (ad 0)), some (.int x), some (.int y), some (.int u), none, none]) pn_X6 rfl rfl rfl (fun pr en s0 mi below meth c' K _ => ?_)
  refine g_aload_n K dX6_lift_0 rfl ?_
  refine g_getr (j := 1) K lk_X6_10 dX6_lift_1 rfl (by decide) (rfl : kd 0 = 6) (by decide) (by decide) rfl (rfl : rs 0 0 = 1) ?_
  refine g_iload_n K dX6_lift_4 rfl ?_
  refine g_callV K (c_X5_findCart st_1 hn n6) mw_X5_findCart ml_X6_64 dX6_lift_5 rfl (by decide) ⟨_, rfl, rfl⟩ (by decide) (by rfl) (by simp [Value.category]) ⟨by decide, by decide⟩ ⟨by decide, by decide⟩ (fun v5 S5 h5 => ?_)
  obtain ⟨hSe, hf⟩ := h5
  rw [hSe]
  clear hSe
  rcases hf with ⟨i, hi, hx, rfl⟩ | ⟨hx, rfl⟩
  · obtain ⟨N, hq, hr⟩ := hA.1.cart hi
    have hN5 := hq.2.2.1
    have hN1 := hq.2.1
    have hk : cK x = i := by rw [hx]; exact cK_nI (by omega)
    have hqA : qA A x = qOf (aZ A) i := by unfold qA; rw [hk]
    have hcx : 0 ≤ x ∧ x < aZ A 6 := by rw [hx, hz6]; exact ⟨nI_pos' (by omega), nI_lt hi (by omega)⟩
    have hnq : nQ (qOf (aZ A) i) = N := nQ_eq hq
    have hq0 : qOf (aZ A) i 0 = nI N := hq.1
    refine g_astore (ls2 := [_, _, _, _, some (.ref _), _]) K dX6_lift_8 (by decide) rfl ?_
    refine g_aload K dX6_lift_10 rfl ?_
    refine g_ifnull K dX6_lift_12 ?_
    refine g_aload K dX6_lift_15 rfl ?_
    refine g_iload_n K dX6_lift_17 rfl ?_
    refine g_callVi K (c_X0_hasAxle (N := N) (st_1.cart (i := i) (by omega)) hr.1) mw_X0_hasAxle ml_X6_80 dX6_lift_18 (by rfl) rfl (by rw [(st_1.cart (i := i) (by omega)).k0]; rfl) (st_1.cart (i := i) (by omega)).n0 (by simp [Value.category]) ⟨by decide, by decide⟩ ⟨by decide, by decide⟩ ?_
    refine g_if_ne (tgt := 26) K dX6_lift_21 (by decide) (fun u21 => ?_) (fun u21 => ?_)
    · have hax : 0 ≤ y ∧ y < nI N := by grind
      obtain ⟨j, hj, hyj, hkj⟩ := ax_in hax hN5
      have hax2 : (0 ≤ x ∧ x < aZ A 6) ∧ 0 ≤ y ∧ y < qA A x 0 := ⟨hcx, by rw [hqA, hq0]; exact hax⟩
      have hdn : downF (S (1 + 3 + 4 * i + 3)) N = downF (lQ (qOf (aZ A) i)) N := downF_congr (fun b hb => (hr.2.2 b hb).2.2)
      refine g_aload K dX6_lift_26 rfl ?_
      refine g_getr (j := ((1 + 3 + 4 * i) + 3)) K lk_X6_86 dX6_lift_28 rfl (by decide) (st_1.cart (i := i) (by omega)).k0 (st_1.cart (i := i) (by omega)).n0 (by decide) rfl (st_1.cart (i := i) (by omega)).r2 ?_
      refine g_iload_n K dX6_lift_31 rfl ?_
      refine g_zald (j := j) K dX6_lift_32 hyj (st_1.cart (i := i) (by omega)).l3 (by omega) (st_1.cart (i := i) (by omega)).k3 (st_1.cart (i := i) (by omega)).n3 ((hr.2.2 j hj).2.2) ?_
      refine g_istore (ls2 := [_, _, _, _, _, some (.int _)]) K dX6_lift_33 (by decide) rfl ?_
      refine g_iload_n K dX6_lift_35 rfl ?_
      refine g_if_eq (tgt := 56) K dX6_lift_36 (by decide) (fun u36 => ?_) (fun u36 => ?_)
      · refine g_iload_n K dX6_lift_56 rfl ?_
        refine g_iload K dX6_lift_57 rfl ?_
        refine g_icmp_ne (tgt := 65) K dX6_lift_59 (by decide) (fun u59 => ?_) (fun u59 => ?_)
        · refine g_aload_n K dX6_lift_65 rfl ?_
          refine g_getr (j := 55) K lk_X6_22 dX6_lift_66 rfl (by decide) (rfl : kd 0 = 6) (by decide) (by decide) rfl (rfl : rs 0 2 = 55) ?_
          refine g_aload_n K dX6_lift_69 rfl ?_
          refine g_getr (j := 1) K lk_X6_10 dX6_lift_70 rfl (by decide) (rfl : kd 0 = 6) (by decide) (by decide) rfl (rfl : rs 0 0 = 1) ?_
          refine g_callVv K (c_X2_remember hH.1 hH.2.2.1 hH.2.2.2.1 (hA.2.2.2.1.fits (Or.inl rfl))) mw_X2_remember ml_X6_56 dX6_lift_73 (by rfl) rfl rfl (by decide) (by simp [Value.category]) ⟨by decide, by decide⟩ ⟨by decide, by decide⟩ ?_
          have hnd : ∃ b, b < N ∧ (if b = j then u else lQ (qOf (aZ A) i) b) = 0 := by
            apply Classical.byContradiction
            intro hno
            exact lift_last (u := u) hq hj hu (by grind) (by grind) hno
          obtain ⟨hL1, hL2⟩ := lift_rel hR hi hq hj hu hnd
          refine g_aload K dX6_lift_76 rfl ?_
          refine g_getr (j := ((1 + 3 + 4 * i) + 3)) K lk_X6_86 dX6_lift_78 rfl (by decide) (st_1.cart (i := i) (by omega)).k0 (st_1.cart (i := i) (by omega)).n0 (by decide) rfl (st_1.cart (i := i) (by omega)).r2 ?_
          refine g_iload_n K dX6_lift_81 rfl ?_
          refine g_iload_n K dX6_lift_82 rfl ?_
          refine g_zast (j := j) K dX6_lift_83 hyj (st_1.cart (i := i) (by omega)).l3 (by omega) (st_1.cart (i := i) (by omega)).k3 (st_1.cart (i := i) (by omega)).n3 (nar01 hu) ?_
          refine g_aload K dX6_lift_84 rfl ?_
          refine g_callVi K (c_X0_downCount (st_1.cart (i := i) (by omega)) (hL1.1.2.2.2 i hi N hL2).1 hN5) mw_X0_downCount ml_X6_90 dX6_lift_86 (by rfl) rfl (by rw [(st_1.cart (i := i) (by omega)).k0]; rfl) (st_1.cart (i := i) (by omega)).n0 (by simp [Value.category]) ⟨by decide, by decide⟩ ⟨by decide, by decide⟩ ?_
          refine g_nm (y := downF (lQ (qOf (lay (aZ A) i (15 + j) u) i)) N) (downF_congr (fun b hb => ((hL1.1.2.2.2 i hi N hL2).2.2 b hb).2.2)) ?_
          refine g_iret K dX6_lift_89 ⟨_, rfl, ?_⟩
          refine cp_ok ?_ hL1 (fun k hk => ?_)
          · unfold o_lift
            rw [if_pos hax2, hqA, hkj, hnq, if_neg (by grind), if_neg u59, hk]
            rfl
          · rw [stw_n (by omega), hRf k (by omega)]
        · refine g_bipush K dX6_lift_62 kb_m5 ?_
          refine g_iret K dX6_lift_64 ⟨_, rfl, ?_⟩
          refine cp_err ?_ hA
          unfold o_lift
          rw [if_pos hax2, hqA, hkj, hnq, if_neg (by grind), if_pos u59]
      · refine g_iload K dX6_lift_39 rfl ?_
        refine g_if_ne (tgt := 56) K dX6_lift_41 (by decide) (fun u41 => ?_) (fun u41 => ?_)
        · refine g_iload_n K dX6_lift_56 rfl ?_
          refine g_iload K dX6_lift_57 rfl ?_
          refine g_icmp_ne (tgt := 65) K dX6_lift_59 (by decide) (fun u59 => ?_) (fun u59 => ?_)
          · refine g_aload_n K dX6_lift_65 rfl ?_
            refine g_getr (j := 55) K lk_X6_22 dX6_lift_66 rfl (by decide) (rfl : kd 0 = 6) (by decide) (by decide) rfl (rfl : rs 0 2 = 55) ?_
            refine g_aload_n K dX6_lift_69 rfl ?_
            refine g_getr (j := 1) K lk_X6_10 dX6_lift_70 rfl (by decide) (rfl : kd 0 = 6) (by decide) (by decide) rfl (rfl : rs 0 0 = 1) ?_
            refine g_callVv K (c_X2_remember hH.1 hH.2.2.1 hH.2.2.2.1 (hA.2.2.2.1.fits (Or.inl rfl))) mw_X2_remember ml_X6_56 dX6_lift_73 (by rfl) rfl rfl (by decide) (by simp [Value.category]) ⟨by decide, by decide⟩ ⟨by decide, by decide⟩ ?_
            have hnd : ∃ b, b < N ∧ (if b = j then u else lQ (qOf (aZ A) i) b) = 0 := by
              apply Classical.byContradiction
              intro hno
              exact lift_last (u := u) hq hj hu (by grind) (by grind) hno
            obtain ⟨hL1, hL2⟩ := lift_rel hR hi hq hj hu hnd
            refine g_aload K dX6_lift_76 rfl ?_
            refine g_getr (j := ((1 + 3 + 4 * i) + 3)) K lk_X6_86 dX6_lift_78 rfl (by decide) (st_1.cart (i := i) (by omega)).k0 (st_1.cart (i := i) (by omega)).n0 (by decide) rfl (st_1.cart (i := i) (by omega)).r2 ?_
            refine g_iload_n K dX6_lift_81 rfl ?_
            refine g_iload_n K dX6_lift_82 rfl ?_
            refine g_zast (j := j) K dX6_lift_83 hyj (st_1.cart (i := i) (by omega)).l3 (by omega) (st_1.cart (i := i) (by omega)).k3 (st_1.cart (i := i) (by omega)).n3 (nar01 hu) ?_
            refine g_aload K dX6_lift_84 rfl ?_
            refine g_callVi K (c_X0_downCount (st_1.cart (i := i) (by omega)) (hL1.1.2.2.2 i hi N hL2).1 hN5) mw_X0_downCount ml_X6_90 dX6_lift_86 (by rfl) rfl (by rw [(st_1.cart (i := i) (by omega)).k0]; rfl) (st_1.cart (i := i) (by omega)).n0 (by simp [Value.category]) ⟨by decide, by decide⟩ ⟨by decide, by decide⟩ ?_
            refine g_nm (y := downF (lQ (qOf (lay (aZ A) i (15 + j) u) i)) N) (downF_congr (fun b hb => ((hL1.1.2.2.2 i hi N hL2).2.2 b hb).2.2)) ?_
            refine g_iret K dX6_lift_89 ⟨_, rfl, ?_⟩
            refine cp_ok ?_ hL1 (fun k hk => ?_)
            · unfold o_lift
              rw [if_pos hax2, hqA, hkj, hnq, if_neg (by grind), if_neg u59, hk]
              rfl
            · rw [stw_n (by omega), hRf k (by omega)]
          · refine g_bipush K dX6_lift_62 kb_m5 ?_
            refine g_iret K dX6_lift_64 ⟨_, rfl, ?_⟩
            refine cp_err ?_ hA
            unfold o_lift
            rw [if_pos hax2, hqA, hkj, hnq, if_neg (by grind), if_pos u59]
        · refine g_aload K dX6_lift_44 rfl ?_
          refine g_callVi K (c_X0_downCount (st_1.cart (i := i) (by omega)) hr.1 hN5) mw_X0_downCount ml_X6_90 dX6_lift_46 (by rfl) rfl (by rw [(st_1.cart (i := i) (by omega)).k0]; rfl) (st_1.cart (i := i) (by omega)).n0 (by simp [Value.category]) ⟨by decide, by decide⟩ ⟨by decide, by decide⟩ ?_
          refine g_nm hdn ?_
          refine g_iconst K dX6_lift_49 kc_1 ?_
          refine g_icmp_ne (tgt := 56) K dX6_lift_50 (by decide) (fun u50 => ?_) (fun u50 => ?_)
          · refine g_iload_n K dX6_lift_56 rfl ?_
            refine g_iload K dX6_lift_57 rfl ?_
            refine g_icmp_ne (tgt := 65) K dX6_lift_59 (by decide) (fun u59 => ?_) (fun u59 => ?_)
            · refine g_aload_n K dX6_lift_65 rfl ?_
              refine g_getr (j := 55) K lk_X6_22 dX6_lift_66 rfl (by decide) (rfl : kd 0 = 6) (by decide) (by decide) rfl (rfl : rs 0 2 = 55) ?_
              refine g_aload_n K dX6_lift_69 rfl ?_
              refine g_getr (j := 1) K lk_X6_10 dX6_lift_70 rfl (by decide) (rfl : kd 0 = 6) (by decide) (by decide) rfl (rfl : rs 0 0 = 1) ?_
              refine g_callVv K (c_X2_remember hH.1 hH.2.2.1 hH.2.2.2.1 (hA.2.2.2.1.fits (Or.inl rfl))) mw_X2_remember ml_X6_56 dX6_lift_73 (by rfl) rfl rfl (by decide) (by simp [Value.category]) ⟨by decide, by decide⟩ ⟨by decide, by decide⟩ ?_
              have hnd : ∃ b, b < N ∧ (if b = j then u else lQ (qOf (aZ A) i) b) = 0 := by
                apply Classical.byContradiction
                intro hno
                exact lift_last (u := u) hq hj hu (by grind) (by grind) hno
              obtain ⟨hL1, hL2⟩ := lift_rel hR hi hq hj hu hnd
              refine g_aload K dX6_lift_76 rfl ?_
              refine g_getr (j := ((1 + 3 + 4 * i) + 3)) K lk_X6_86 dX6_lift_78 rfl (by decide) (st_1.cart (i := i) (by omega)).k0 (st_1.cart (i := i) (by omega)).n0 (by decide) rfl (st_1.cart (i := i) (by omega)).r2 ?_
              refine g_iload_n K dX6_lift_81 rfl ?_
              refine g_iload_n K dX6_lift_82 rfl ?_
              refine g_zast (j := j) K dX6_lift_83 hyj (st_1.cart (i := i) (by omega)).l3 (by omega) (st_1.cart (i := i) (by omega)).k3 (st_1.cart (i := i) (by omega)).n3 (nar01 hu) ?_
              refine g_aload K dX6_lift_84 rfl ?_
              refine g_callVi K (c_X0_downCount (st_1.cart (i := i) (by omega)) (hL1.1.2.2.2 i hi N hL2).1 hN5) mw_X0_downCount ml_X6_90 dX6_lift_86 (by rfl) rfl (by rw [(st_1.cart (i := i) (by omega)).k0]; rfl) (st_1.cart (i := i) (by omega)).n0 (by simp [Value.category]) ⟨by decide, by decide⟩ ⟨by decide, by decide⟩ ?_
              refine g_nm (y := downF (lQ (qOf (lay (aZ A) i (15 + j) u) i)) N) (downF_congr (fun b hb => ((hL1.1.2.2.2 i hi N hL2).2.2 b hb).2.2)) ?_
              refine g_iret K dX6_lift_89 ⟨_, rfl, ?_⟩
              refine cp_ok ?_ hL1 (fun k hk => ?_)
              · unfold o_lift
                rw [if_pos hax2, hqA, hkj, hnq, if_neg (by grind), if_neg u59, hk]
                rfl
              · rw [stw_n (by omega), hRf k (by omega)]
            · refine g_bipush K dX6_lift_62 kb_m5 ?_
              refine g_iret K dX6_lift_64 ⟨_, rfl, ?_⟩
              refine cp_err ?_ hA
              unfold o_lift
              rw [if_pos hax2, hqA, hkj, hnq, if_neg (by grind), if_pos u59]
          · refine g_bipush K dX6_lift_53 kb_m4 ?_
            refine g_iret K dX6_lift_55 ⟨_, rfl, ?_⟩
            refine cp_err ?_ hA
            unfold o_lift
            rw [if_pos hax2, hqA, hkj, hnq, if_pos ⟨u36, by grind, by grind⟩]
    · refine g_iconst K dX6_lift_24 kc_m1 ?_
      refine g_iret K dX6_lift_25 ⟨_, rfl, ?_⟩
      refine cp_err ?_ hA
      unfold o_lift
      rw [if_neg]
      first
        | exact fun q => hcx q.1
        | (intro q
           rw [hqA, hq0] at q
           grind)
  · have hcx : ¬ (0 ≤ x ∧ x < aZ A 6) := by rw [hz6]; exact hx
    refine g_astoreN (ls2 := [_, _, _, _, some .null, _]) K dX6_lift_8 (by decide) rfl ?_
    refine g_aloadN K dX6_lift_10 rfl ?_
    refine g_ifnullN (tgt := 24) K dX6_lift_12 (by decide) ?_
    refine g_iconst K dX6_lift_24 kc_m1 ?_
    refine g_iret K dX6_lift_25 ⟨_, rfl, ?_⟩
    refine cp_err ?_ hA
    unfold o_lift
    rw [if_neg]
    first
      | exact fun q => hcx q.1
      | (intro q
         rw [hqA, hq0] at q
         grind)
set_option maxHeartbeats 4000000 in
set_option maxRecDepth 100000 in
theorem c_X6_set {l : Launch} {b : Nat} {D : va_G} {cA : Nat → ClassId} {ad : Nat → Nat} {S : ST} {A : AS} {n : Nat} {x v : Int32} (hA : CRel S A n) : MT l b D cA NN ad zT yX6_set cX6_set 4 (some .int) 4 [.ref (ad 0), .int x, .int v] S (RI (CPost (o_set A x v) S)) := by
  obtain ⟨hb, hH⟩ := hA.2.1
  have n6 := hA.1.n6
  have hn := hA.1.n
  have hz6 : aZ A 6 = nI n := hA.1.1.2.1
  obtain ⟨hR, hRf⟩ := rem_rel hH hA
  refine MT.intro (j := 1) (ls := [some (.ref (ad 0)), some (.int x), some (.int v), none]) pn_X6 rfl rfl rfl (fun pr en s0 mi below meth c' K _ => ?_)
  refine g_iload_n K dX6_set_0 rfl ?_
  refine g_if_lt (tgt := 10) K dX6_set_1 (by decide) (fun u1 => ?_) (fun u1 => ?_)
  · have hx6 : ¬ (0 ≤ x ∧ x < 6) := by grind
    refine g_bipush K dX6_set_10 kb_m2 ?_
    refine g_iret K dX6_set_12 ⟨_, rfl, ?_⟩
    exact cp_err (by unfold o_set; rw [if_neg hx6]) hA
  · refine g_iload_n K dX6_set_4 rfl ?_
    refine g_bipush K dX6_set_5 kb_6 ?_
    refine g_icmp_lt (tgt := 13) K dX6_set_7 (by decide) (fun u7 => ?_) (fun u7 => ?_)
    · obtain ⟨j, hj, hxj⟩ : ∃ j, j < 6 ∧ x = nI j := by
        rcases pk_ix x (n := 6) (by decide) with q | q | q
        · exact absurd q u1
        · exact absurd u7 (by have : nI 6 = (6 : Int32) := rfl; grind)
        · exact q
      have hk : cK x = j := by rw [hxj]; exact cK_nI (by omega)
      have hx6 : 0 ≤ x ∧ x < 6 := ⟨by grind, u7⟩
      refine g_iload_n K dX6_set_13 rfl ?_
      refine g_getsL K (N := "LEAST_SETTING") leastS (Or.inl ⟨rfl, rfl⟩) dX6_set_14 lks_X6_141 (fun tS14 hT14 => ?_)
      refine g_iload_n K dX6_set_17 rfl ?_
      refine g_sald (j := j) K hT14 dX6_set_18 hxj hj ?_
      refine g_icmp_lt (tgt := 31) K dX6_set_19 (by decide) (fun u19 => ?_) (fun u19 => ?_)
      · refine g_bipush K dX6_set_31 kb_m2 ?_
        refine g_iret K dX6_set_33 ⟨_, rfl, ?_⟩
        exact cp_err (by unfold o_set; rw [if_pos hx6, hk, if_neg (by grind)]) hA
      · refine g_iload_n K dX6_set_22 rfl ?_
        refine g_getsL K (N := "MOST_SETTING") mostS (Or.inr ⟨rfl, rfl⟩) dX6_set_23 lks_X6_144 (fun tS23 hT23 => ?_)
        refine g_iload_n K dX6_set_26 rfl ?_
        refine g_sald (j := j) K hT23 dX6_set_27 hxj hj ?_
        refine g_icmp_le (tgt := 34) K dX6_set_28 (by decide) (fun u28 => ?_) (fun u28 => ?_)
        · refine g_aload_n K dX6_set_34 rfl ?_
          refine g_getr (j := 1) K lk_X6_10 dX6_set_35 rfl (by decide) (rfl : kd 0 = 6) (by decide) (by decide) rfl (rfl : rs 0 0 = 1) ?_
          refine g_getr (j := 3) K lk_X6_107 dX6_set_38 rfl (by decide) (rfl : kd 1 = 5) (by decide) (by decide) rfl (rfl : rs 1 1 = 3) ?_
          refine g_iload_n K dX6_set_41 rfl ?_
          refine g_iald (j := j) K dX6_set_42 hxj ln_3 hj (rfl : kd 3 = 8) (by decide) (hA.1.2.1 j hj) ?_
          refine g_istore_n (ls2 := [_, _, _, some (.int _)]) K dX6_set_43 (by decide) rfl ?_
          refine g_iload_n K dX6_set_44 rfl ?_
          refine g_iload_n K dX6_set_45 rfl ?_
          refine g_icmp_ne (tgt := 52) K dX6_set_46 (by decide) (fun u46 => ?_) (fun u46 => ?_)
          · refine g_aload_n K dX6_set_52 rfl ?_
            refine g_getr (j := 55) K lk_X6_22 dX6_set_53 rfl (by decide) (rfl : kd 0 = 6) (by decide) (by decide) rfl (rfl : rs 0 2 = 55) ?_
            refine g_aload_n K dX6_set_56 rfl ?_
            refine g_getr (j := 1) K lk_X6_10 dX6_set_57 rfl (by decide) (rfl : kd 0 = 6) (by decide) (by decide) rfl (rfl : rs 0 0 = 1) ?_
            refine g_callVv K (c_X2_remember hH.1 hH.2.2.1 hH.2.2.2.1 (hA.2.2.2.1.fits (Or.inl rfl))) mw_X2_remember ml_X6_56 dX6_set_60 (by rfl) rfl rfl (by decide) (by simp [Value.category]) ⟨by decide, by decide⟩ ⟨by decide, by decide⟩ ?_
            refine g_aload_n K dX6_set_63 rfl ?_
            refine g_getr (j := 1) K lk_X6_10 dX6_set_64 rfl (by decide) (rfl : kd 0 = 6) (by decide) (by decide) rfl (rfl : rs 0 0 = 1) ?_
            refine g_getr (j := 3) K lk_X6_107 dX6_set_67 rfl (by decide) (rfl : kd 1 = 5) (by decide) (by decide) rfl (rfl : rs 1 1 = 3) ?_
            refine g_iload_n K dX6_set_70 rfl ?_
            refine g_iload_n K dX6_set_71 rfl ?_
            refine g_iast (j := j) K dX6_set_72 hxj ln_3 hj (rfl : kd 3 = 8) (by decide) rfl ?_
            refine g_iload_n K dX6_set_73 rfl ?_
            refine g_iret K dX6_set_74 ⟨_, rfl, ?_⟩
            have hv : leastS j ≤ v ∧ v ≤ mostS j := by grind
            refine cp_ok ?_ (set_rel hR hj hv) (fun k hk => ?_)
            · unfold o_set
              rw [if_pos hx6, hk, if_pos hv, if_neg u46]
              rfl
            · rw [stw_n (by omega), hRf k (by omega)]
          · refine g_bipush K dX6_set_49 kb_m5 ?_
            refine g_iret K dX6_set_51 ⟨_, rfl, ?_⟩
            exact cp_err (by unfold o_set; rw [if_pos hx6, hk, if_pos (by grind), if_pos u46]) hA
        · refine g_bipush K dX6_set_31 kb_m2 ?_
          refine g_iret K dX6_set_33 ⟨_, rfl, ?_⟩
          exact cp_err (by unfold o_set; rw [if_pos hx6, hk, if_neg (by grind)]) hA
    · have hx6 : ¬ (0 ≤ x ∧ x < 6) := by grind
      refine g_bipush K dX6_set_10 kb_m2 ?_
      refine g_iret K dX6_set_12 ⟨_, rfl, ?_⟩
      exact cp_err (by unfold o_set; rw [if_neg hx6]) hA
set_option maxHeartbeats 4000000 in
set_option maxRecDepth 100000 in
theorem c_X6_cartOf {l : Launch} {b : Nat} {D : va_G} {cA : Nat → ClassId} {ad : Nat → Nat} {S : ST} {A : AS} {n : Nat} {x v : Int32} (hA : CRel S A n) : MT l b D cA NN ad zT yX6_cartOf cX6_cartOf 4 (some .int) 2 [.ref (ad 0), .int x, .int v] S (RI (CPost (o_cartOf A x v, A) S)) := by
  obtain ⟨hb, hH⟩ := hA.2.1
  have n6 := hA.1.n6
  have hn := hA.1.n
  have hz6 : aZ A 6 = nI n := hA.1.1.2.1
  obtain ⟨hR, hRf⟩ := rem_rel hH hA
  refine MT.intro (j := 1) (ls := [some (.ref (ad 0)), some (.int x), some (.int v), none]) pn_X6 rfl rfl rfl (fun pr en s0 mi below meth c' K _ => ?_)
  refine g_aload_n K dX6_cartOf_0 rfl ?_
  refine g_getr (j := 1) K lk_X6_10 dX6_cartOf_1 rfl (by decide) (rfl : kd 0 = 6) (by decide) (by decide) rfl (rfl : rs 0 0 = 1) ?_
  refine g_iload_n K dX6_cartOf_4 rfl ?_
  refine g_callV K (c_X5_findCart st_1 hn n6) mw_X5_findCart ml_X6_64 dX6_cartOf_5 rfl (by decide) ⟨_, rfl, rfl⟩ (by decide) (by rfl) (by simp [Value.category]) ⟨by decide, by decide⟩ ⟨by decide, by decide⟩ (fun v5 S5 h5 => ?_)
  obtain ⟨hSe, hf⟩ := h5
  rw [hSe]
  clear hSe
  rcases hf with ⟨i, hi, hx, rfl⟩ | ⟨hx, rfl⟩
  · obtain ⟨N, hq, hr⟩ := hA.1.cart hi
    have hN5 := hq.2.2.1
    have hN1 := hq.2.1
    have hk : cK x = i := by rw [hx]; exact cK_nI (by omega)
    have hqA : qA A x = qOf (aZ A) i := by unfold qA; rw [hk]
    have hcx : 0 ≤ x ∧ x < aZ A 6 := by rw [hx, hz6]; exact ⟨nI_pos' (by omega), nI_lt hi (by omega)⟩
    have hnq : nQ (qOf (aZ A) i) = N := nQ_eq hq
    have hq0 : qOf (aZ A) i 0 = nI N := hq.1
    refine g_astore_n (ls2 := [_, _, _, some (.ref _)]) K dX6_cartOf_8 (by decide) rfl ?_
    refine g_aload_n K dX6_cartOf_9 rfl ?_
    refine g_ifnonnull (tgt := 15) K dX6_cartOf_10 (by decide) ?_
    refine g_iload_n K dX6_cartOf_15 rfl ?_
    by_cases hsw : (v : Int32).toInt < 0 ∨ 8 < (v : Int32).toInt
    · refine g_tout (tgt := 113) K dX6_cartOf_16 hsw (by decide) ?_
      have hov : o_cartOf A x v = -2 := by
        unfold o_cartOf
        rw [if_pos hcx, if_neg (swo hsw (by decide) (by decide)), if_neg (swo hsw (by decide) (by decide)), if_neg (swo hsw (by decide) (by decide)), if_neg (swo hsw (by decide) (by decide)), if_neg (swo hsw (by decide) (by decide)), if_neg (swo hsw (by decide) (by decide)), if_neg (swo hsw (by decide) (by decide)), if_neg (swo hsw (by decide) (by decide)), if_neg (swo hsw (by decide) (by decide))]
      refine g_bipush K dX6_cartOf_113 kb_m2 ?_
      refine g_iret K dX6_cartOf_115 ⟨_, rfl, ?_⟩
      exact cp_err (by rw [hov]) hA
    · have hsw2 : v = 0 ∨ v = 1 ∨ v = 2 ∨ v = 3 ∨ v = 4 ∨ v = 5 ∨ v = 6 ∨ v = 7 ∨ v = 8 := by
        obtain ⟨jsw, hjs, ejs⟩ := tsw (n := 8) (by decide) hsw
        rcases (show jsw = 0 ∨ jsw = 1 ∨ jsw = 2 ∨ jsw = 3 ∨ jsw = 4 ∨ jsw = 5 ∨ jsw = 6 ∨ jsw = 7 ∨ jsw = 8 by omega) with rfl | rfl | rfl | rfl | rfl | rfl | rfl | rfl | rfl <;> (rw [ejs]; decide)
      rcases hsw2 with hsw2 | hsw2 | hsw2 | hsw2 | hsw2 | hsw2 | hsw2 | hsw2 | hsw2
      · refine g_tin (off := 52) (tgt := 68) K dX6_cartOf_16 (by rw [hsw2]; decide) (by rw [hsw2]; decide) (by rw [hsw2]; rfl) (by decide) ?_
        have hov : o_cartOf A x v = nI N := by
          unfold o_cartOf
          rw [if_pos hcx, hqA, hsw2]
          simp [hq0]
        refine g_aload_n K dX6_cartOf_68 rfl ?_
        refine g_geti K lk_X6_71 dX6_cartOf_69 rfl (st_1.cart (i := i) (by omega)).k0 (st_1.cart (i := i) (by omega)).n0 (by decide) hr.1 ?_
        refine g_iret K dX6_cartOf_72 ⟨_, rfl, ?_⟩
        exact cp_err (by rw [hov]) hA
      · refine g_tin (off := 57) (tgt := 73) K dX6_cartOf_16 (by rw [hsw2]; decide) (by rw [hsw2]; decide) (by rw [hsw2]; rfl) (by decide) ?_
        have hov : o_cartOf A x v = downF (lQ (qOf (aZ A) i)) N := by
          unfold o_cartOf
          rw [if_pos hcx, hqA, hsw2]
          rw [hnq]
          simp
        refine g_aload_n K dX6_cartOf_73 rfl ?_
        refine g_callVi K (c_X0_downCount (st_1.cart (i := i) (by omega)) hr.1 hN5) mw_X0_downCount ml_X6_90 dX6_cartOf_74 (by rfl) rfl (by rw [(st_1.cart (i := i) (by omega)).k0]; rfl) (st_1.cart (i := i) (by omega)).n0 (by simp [Value.category]) ⟨by decide, by decide⟩ ⟨by decide, by decide⟩ ?_
        refine g_iret K dX6_cartOf_77 ⟨_, rfl, ?_⟩
        exact cp_err (by rw [hov, downF_congr (fun b hb => (hr.2.2 b hb).2.2)]) hA
      · refine g_tin (off := 62) (tgt := 78) K dX6_cartOf_16 (by rw [hsw2]; decide) (by rw [hsw2]; decide) (by rw [hsw2]; rfl) (by decide) ?_
        have hov : o_cartOf A x v = sumF (wQ (qOf (aZ A) i)) N := by
          unfold o_cartOf
          rw [if_pos hcx, hqA, hsw2]
          rw [hnq]
          simp
        refine g_aload_n K dX6_cartOf_78 rfl ?_
        refine g_callVi K (c_X0_wholeWeight (st_1.cart (i := i) (by omega)) hr.1 hN5) mw_X0_wholeWeight ml_X6_163 dX6_cartOf_79 (by rfl) rfl (by rw [(st_1.cart (i := i) (by omega)).k0]; rfl) (st_1.cart (i := i) (by omega)).n0 (by simp [Value.category]) ⟨by decide, by decide⟩ ⟨by decide, by decide⟩ ?_
        refine g_iret K dX6_cartOf_82 ⟨_, rfl, ?_⟩
        exact cp_err (by rw [hov]; rw [sumF_congr N (fun b hb => (hr.2.2 b hb).1)]) hA
      · refine g_tin (off := 67) (tgt := 83) K dX6_cartOf_16 (by rw [hsw2]; decide) (by rw [hsw2]; decide) (by rw [hsw2]; rfl) (by decide) ?_
        have hov : o_cartOf A x v = sumF (dQ (qOf (aZ A) i)) N := by
          unfold o_cartOf
          rw [if_pos hcx, hqA, hsw2]
          rw [hnq]
          simp
        refine g_aload_n K dX6_cartOf_83 rfl ?_
        refine g_callVi K (c_X0_wholeLength (st_1.cart (i := i) (by omega)) hr.1 hN5) mw_X0_wholeLength ml_X6_166 dX6_cartOf_84 (by rfl) rfl (by rw [(st_1.cart (i := i) (by omega)).k0]; rfl) (st_1.cart (i := i) (by omega)).n0 (by simp [Value.category]) ⟨by decide, by decide⟩ ⟨by decide, by decide⟩ ?_
        refine g_iret K dX6_cartOf_87 ⟨_, rfl, ?_⟩
        exact cp_err (by rw [hov, sumF_congr N (fun b hb => (hr.2.2 b hb).2.1)]) hA
      · refine g_tin (off := 72) (tgt := 88) K dX6_cartOf_16 (by rw [hsw2]; decide) (by rw [hsw2]; decide) (by rw [hsw2]; rfl) (by decide) ?_
        have hov : o_cartOf A x v = qOf (aZ A) i 1 := by
          unfold o_cartOf
          rw [if_pos hcx, hqA, hsw2]
          simp
        refine g_aload_n K dX6_cartOf_88 rfl ?_
        refine g_geti K lk_X6_138 dX6_cartOf_89 rfl (st_1.cart (i := i) (by omega)).k0 (st_1.cart (i := i) (by omega)).n0 (by decide) (hr.2.1 0 (by decide)) ?_
        refine g_iret K dX6_cartOf_92 ⟨_, rfl, ?_⟩
        exact cp_err (by rw [hov]) hA
      · refine g_tin (off := 77) (tgt := 93) K dX6_cartOf_16 (by rw [hsw2]; decide) (by rw [hsw2]; decide) (by rw [hsw2]; rfl) (by decide) ?_
        have hov : o_cartOf A x v = qOf (aZ A) i 2 := by
          unfold o_cartOf
          rw [if_pos hcx, hqA, hsw2]
          simp
        refine g_aload_n K dX6_cartOf_93 rfl ?_
        refine g_geti K lk_X6_123 dX6_cartOf_94 rfl (st_1.cart (i := i) (by omega)).k0 (st_1.cart (i := i) (by omega)).n0 (by decide) (hr.2.1 1 (by decide)) ?_
        refine g_iret K dX6_cartOf_97 ⟨_, rfl, ?_⟩
        exact cp_err (by rw [hov]) hA
      · refine g_tin (off := 82) (tgt := 98) K dX6_cartOf_16 (by rw [hsw2]; decide) (by rw [hsw2]; decide) (by rw [hsw2]; rfl) (by decide) ?_
        have hov : o_cartOf A x v = netF (qOf (aZ A) i 1) (qOf (aZ A) i 2) := by
          unfold o_cartOf
          rw [if_pos hcx, hqA, hsw2]
          simp
        refine g_aload_n K dX6_cartOf_98 rfl ?_
        refine g_callVi K (c_X0_netAndBase (st_1.cart (i := i) (by omega))) mw_X0_netAndBase ml_X6_169 dX6_cartOf_99 (by rfl) rfl (by rw [(st_1.cart (i := i) (by omega)).k0]; rfl) (st_1.cart (i := i) (by omega)).n0 (by simp [Value.category]) ⟨by decide, by decide⟩ ⟨by decide, by decide⟩ ?_
        refine g_iret K dX6_cartOf_102 ⟨_, rfl, ?_⟩
        exact cp_err (by rw [hov, hr.2.1 0 (by decide), hr.2.1 1 (by decide)]) hA
      · refine g_tin (off := 87) (tgt := 103) K dX6_cartOf_16 (by rw [hsw2]; decide) (by rw [hsw2]; decide) (by rw [hsw2]; rfl) (by decide) ?_
        have hov : o_cartOf A x v = qOf (aZ A) i 3 := by
          unfold o_cartOf
          rw [if_pos hcx, hqA, hsw2]
          simp
        refine g_aload_n K dX6_cartOf_103 rfl ?_
        refine g_geti K lk_X6_117 dX6_cartOf_104 rfl (st_1.cart (i := i) (by omega)).k0 (st_1.cart (i := i) (by omega)).n0 (by decide) (hr.2.1 2 (by decide)) ?_
        refine g_iret K dX6_cartOf_107 ⟨_, rfl, ?_⟩
        exact cp_err (by rw [hov]) hA
      · refine g_tin (off := 92) (tgt := 108) K dX6_cartOf_16 (by rw [hsw2]; decide) (by rw [hsw2]; decide) (by rw [hsw2]; rfl) (by decide) ?_
        have hov : o_cartOf A x v = qOf (aZ A) i 4 := by
          unfold o_cartOf
          rw [if_pos hcx, hqA, hsw2]
          simp
        refine g_aload_n K dX6_cartOf_108 rfl ?_
        refine g_geti K lk_X6_129 dX6_cartOf_109 rfl (st_1.cart (i := i) (by omega)).k0 (st_1.cart (i := i) (by omega)).n0 (by decide) (hr.2.1 3 (by decide)) ?_
        refine g_iret K dX6_cartOf_112 ⟨_, rfl, ?_⟩
        exact cp_err (by rw [hov]) hA
  · have hcx : ¬ (0 ≤ x ∧ x < aZ A 6) := by rw [hz6]; exact hx
    refine g_astore_nN (ls2 := [_, _, _, some .null]) K dX6_cartOf_8 (by decide) rfl ?_
    refine g_aload_nN K dX6_cartOf_9 rfl ?_
    refine g_ifnonnullN K dX6_cartOf_10 ?_
    refine g_iconst K dX6_cartOf_13 kc_m1 ?_
    refine g_iret K dX6_cartOf_14 ⟨_, rfl, ?_⟩
    exact cp_err (by unfold o_cartOf; rw [if_neg hcx]) hA
