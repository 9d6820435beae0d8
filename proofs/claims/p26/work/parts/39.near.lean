theorem sett_3 : SettAt 3 := ⟨by decide, by decide, by decide, by decide⟩
theorem sett_180 : SettAt 180 := ⟨by decide, by decide, by decide, by decide⟩
def fsF (f : Nat → Int32) : Nat → Int32
  | 0 => -5
  | j + 1 => if f (j + 1) = 1 then nI (j + 1) else fsF f j
def luF (f : Nat → Int32) : Nat → Nat → Int32
  | _, 0 => -5
  | v, k + 1 => if f v = 1 then nI v else luF f (v + 1) k
noncomputable def o_fastest (A : AS) (c : Int32) : Int32 := if 0 ≤ c ∧ c < aZ A 6 then fsF (fun j => neQ (aZ A) (qA A c) (nI j)) 9 else -1
noncomputable def o_least (A : AS) (c s : Int32) (w lo hi : Nat) : Int32 := if 0 ≤ c ∧ c < aZ A 6 then (if 1 ≤ s ∧ s ≤ 9 then luF (fun v => neQ (upd (aZ A) w (nI v)) (qA A c) s) lo (hi + 1 - lo) else -2) else -1
noncomputable def o_runOf (A : AS) (c s w : Int32) : Int32 := if 0 ≤ c ∧ c < aZ A 6 then (if 1 ≤ s ∧ s ≤ 9 then (if w = 0 then twQ (aZ A) (qA A c) s else if w = 1 then rsQ (aZ A) (qA A c) s else if w = 2 then nI (nN (aZ A) (qA A c) s) else if w = 3 then lvQ (aZ A) (qA A c) s 0 else if w = 4 then lvQ (aZ A) (qA A c) s 2 else if w = 5 then quoF (aZ A 5) (quoUF (aZ A 5) s) else if w = 6 then wtQ (qA A c) s else if w = 7 then waF (rsQ (aZ A) (qA A c) s) (lvQ (aZ A) (qA A c) s) (wtQ (qA A c) s) else if w = 8 then lvQ (aZ A) (qA A c) s 3 else -2) else -2) else -1
def o_tick (A : AS) (c s t w : Int32) : Int32 := if 0 ≤ c ∧ c < aZ A 6 then (if 1 ≤ s ∧ s ≤ 9 then (if 0 ≤ t ∧ t < nI (nN (aZ A) (qA A c) s) then (if w = 0 then ldQ (aZ A) (qA A c) s (cK t) else if w = 1 then swQ (aZ A) (qA A c) s (cK t) else if w = 2 then rdQ (aZ A) (qA A c) s (cK t) else if w = 3 then stF (rdQ (aZ A) (qA A c) s) (wN (aZ A)) (aZ A 4) (cK t) else if w = 4 then lvR (rdQ (aZ A) (qA A c) s) (wN (aZ A)) (aZ A 4) (cK t + 1) 1 else -2) else -1) else -2) else -1
noncomputable def o_off (A : AS) (c s : Int32) : UInt32 := if (0 ≤ c ∧ c < aZ A 6) ∧ 1 ≤ s ∧ s ≤ 9 then (if rsQ (aZ A) (qA A c) s = 0 then FP.fdiv (FP.i2f (lvQ (aZ A) (qA A c) s 2 - whQ (qA A c))) (FP.i2f (whQ (qA A c))) else 0x40000000) else 0x40000000
def FPost (o : UInt32) (A : AS) (S : ST) : UInt32 → ST → Prop := fun r S2 => r = o ∧ (∃ n2, CRel S2 A n2) ∧ ∀ k, 181 ≤ k → S2 k = S k
theorem rsQ_long {se q : Nat → Int32} {s : Int32} (h : 120 < rT se q s) : rsQ se q s = 1 := by
  unfold rsQ rsF
  rw [if_pos h]
theorem nN_120 {se q : Nat → Int32} {s : Int32} : nN se q s ≤ 120 := by
  unfold nN
  split <;> omega
set_option maxHeartbeats 4000000 in
set_option maxRecDepth 100000 in
theorem c_X6_tellsNearly {l : Launch} {b : Nat} {D : va_G} {cA : Nat → ClassId} {ad : Nat → Nat} {S : ST} {c k N : Nat} {se q : Nat → Int32} {s : Int32} (hc : CartAt c) (hcl : c + 3 < 165) (hk : SettAt k) (hq : CartOk q N) (hr : RelCart S c q N) (hks : ∀ i, i < 6 → S k i = se i) (hse : SetOk se) (hs : 1 ≤ s ∧ s ≤ 9) : MT l b D cA NN ad zT yX6_tellsNearly cX6_tellsNearly 5 (some .boolean) 5 [.ref (ad 0), .ref (ad c), .int s, .ref (ad k)] S (RI (fun r S2 => r = neQ se q s ∧ ∀ a, (a < 169 ∨ 179 < a) → S2 a = S a)) := by
  have hk4 := hk.2.2.2
  refine MT.intro (j := 1) (ls := [some (.ref (ad 0)), some (.ref (ad c)), some (.int s), some (.ref (ad k)), none]) pn_X6 rfl rfl rfl (fun pr en s0 mi below meth c' K _ => ?_)
  refine g_aload_n K dX6_tellsNearly_0 rfl ?_
  refine g_getr (j := 169) K lk_X6_36 dX6_tellsNearly_1 rfl (by decide) (rfl : kd 0 = 6) (by decide) (by decide) rfl (rfl : rs 0 4 = 169) ?_
  refine g_aload_n K dX6_tellsNearly_4 rfl ?_
  refine g_iload_n K dX6_tellsNearly_5 rfl ?_
  refine g_aload_n K dX6_tellsNearly_6 rfl ?_
  refine g_callVpv K (m_prepare hc hcl hk hq hr hks) mw_X4_prepare ml_X6_179 dX6_tellsNearly_7 (by rfl) rfl rfl (by decide) (by simp [Value.category]) ⟨by decide, by decide⟩ ⟨by decide, by decide⟩ (fun S7 h7 => ?_)
  refine g_aload_n K dX6_tellsNearly_10 rfl ?_
  refine g_getr (j := 169) K lk_X6_36 dX6_tellsNearly_11 rfl (by decide) (rfl : kd 0 = 6) (by decide) (by decide) rfl (rfl : rs 0 4 = 169) ?_
  refine g_callVi K c_X4_isTooLong mw_X4_isTooLong ml_X6_244 dX6_tellsNearly_14 (by rfl) rfl rfl (by decide) (by simp [Value.category]) ⟨by decide, by decide⟩ ⟨by decide, by decide⟩ ?_
  refine g_if_eq (tgt := 22) K dX6_tellsNearly_17 (by decide) (fun u17 => ?_) (fun u17 => ?_)
  · refine g_aload_n K dX6_tellsNearly_22 rfl ?_
    refine g_getr (j := 169) K lk_X6_36 dX6_tellsNearly_23 rfl (by decide) (rfl : kd 0 = 6) (by decide) (by decide) rfl (rfl : rs 0 4 = 169) ?_
    refine g_callVpv K (m_roll hq hse hs h7.1) mw_X4_rollOver ml_X6_185 dX6_tellsNearly_26 (by rfl) rfl rfl (by decide) (by simp [Value.category]) ⟨by decide, by decide⟩ ⟨by decide, by decide⟩ (fun S26 h26 => ?_)
    refine g_aload_n K dX6_tellsNearly_29 rfl ?_
    refine g_getr (j := 169) K lk_X6_36 dX6_tellsNearly_30 rfl (by decide) (rfl : kd 0 = 6) (by decide) (by decide) rfl (rfl : rs 0 4 = 169) ?_
    refine g_callVi K (m_told h26.2.1 h26.1.2) mw_X4_toldWeight ml_X6_120 dX6_tellsNearly_33 (by rfl) rfl rfl (by decide) (by simp [Value.category]) ⟨by decide, by decide⟩ ⟨by decide, by decide⟩ ?_
    have hr26 : RelCart S26 c q N := hr.to (fun j hj => by rw [h26.2.2 _ (by omega), h7.2 _ (by omega)])
    have hfr : ∀ a, (a < 169 ∨ 179 < a) → S26 a = S a := fun a ha => by rw [h26.2.2 a (by omega), h7.2 a (by omega)]
    have hnone := tw_none (s := s) hq hse
    refine g_istore (ls2 := [_, _, _, _, some (.int _)]) K dX6_tellsNearly_36 (by decide) rfl ?_
    refine g_iload K dX6_tellsNearly_38 rfl ?_
    refine g_bipush K dX6_tellsNearly_40 kb_m5 ?_
    refine g_icmp_eq (tgt := 65) K dX6_tellsNearly_42 (by decide) (fun u42 => ?_) (fun u42 => ?_)
    · refine g_iconst K dX6_tellsNearly_65 kc_0 ?_
      refine g_zret K dX6_tellsNearly_66 (by first | exact Or.inl rfl | exact Or.inr rfl | assumption) ⟨_, rfl, ?_⟩
      refine ⟨?_, hfr⟩
      unfold neQ
      unfold twQ twF at *
      unfold abF
      grind
    · refine g_iload K dX6_tellsNearly_45 rfl ?_
      refine g_aload_n K dX6_tellsNearly_47 rfl ?_
      refine g_callVi K (c_X0_wholeWeight hc hr26.1 hq.2.2.1) mw_X0_wholeWeight ml_X6_163 dX6_tellsNearly_48 (by rfl) rfl (by rw [hc.k0]; rfl) hc.n0 (by simp [Value.category]) ⟨by decide, by decide⟩ ⟨by decide, by decide⟩ ?_
      refine g_nm (y := whQ q) (by unfold whQ; rw [nQ_eq hq]; exact sumF_congr N (fun b hb => (hr26.2.2 b hb).1)) ?_
      refine g_isub K dX6_tellsNearly_51 ?_
      refine g_mabs K dX6_tellsNearly_52 mj_X6_248 ⟨by decide, by simp [Value.category, rmd], by simp, by simp⟩ ?_
      refine g_aload_n K dX6_tellsNearly_55 rfl ?_
      refine g_iconst K dX6_tellsNearly_56 kc_4 ?_
      refine g_iald (j := 4) K dX6_tellsNearly_57 rfl hk.l0 (by decide) hk.k0 hk.n0 ((congrFun (hfr _ (by omega)) 4).trans (hks 4 (by decide))) ?_
      refine g_icmp_gt (tgt := 65) K dX6_tellsNearly_58 (by decide) (fun u58 => ?_) (fun u58 => ?_)
      · refine g_iconst K dX6_tellsNearly_65 kc_0 ?_
        refine g_zret K dX6_tellsNearly_66 (by first | exact Or.inl rfl | exact Or.inr rfl | assumption) ⟨_, rfl, ?_⟩
        refine ⟨?_, hfr⟩
        unfold neQ
        unfold twQ twF at *
        unfold abF
        grind
      · refine g_iconst K dX6_tellsNearly_61 kc_1 ?_
        refine g_goto (tgt := 66) K dX6_tellsNearly_62 (by decide) ?_
        refine g_zret K dX6_tellsNearly_66 (by first | exact Or.inl rfl | exact Or.inr rfl | assumption) ⟨_, rfl, ?_⟩
        refine ⟨?_, hfr⟩
        unfold neQ
        unfold twQ twF at *
        unfold abF
        grind
  · refine g_iconst K dX6_tellsNearly_20 kc_0 ?_
    refine g_zret K dX6_tellsNearly_21 (by first | exact Or.inl rfl | exact Or.inr rfl | assumption) ⟨_, rfl, ?_⟩
    refine ⟨?_, fun a ha => h7.2 a (by omega)⟩
    have h1 : rsQ se q s = 1 := rsQ_long (by rw [← h7.1.1]; grind)
    unfold neQ
    rw [if_neg (by rw [h1]; exact fun q0 => absurd q0.1 (by decide))]
set_option maxHeartbeats 4000000 in
set_option maxRecDepth 100000 in
theorem c_X6_fastest {l : Launch} {b : Nat} {D : va_G} {cA : Nat → ClassId} {ad : Nat → Nat} {S : ST} {A : AS} {n : Nat} {x : Int32} (hA : CRel S A n) : MT l b D cA NN ad zT yX6_fastest cX6_fastest 4 (some .int) 6 [.ref (ad 0), .int x] S (RI (CPost (o_fastest A x, A) S)) := by
  obtain ⟨hb, hH⟩ := hA.2.1
  have n6 := hA.1.n6
  have hn := hA.1.n
  have hz6 : aZ A 6 = nI n := hA.1.1.2.1
  obtain ⟨hR, hRf⟩ := rem_rel hH hA
  refine MT.intro (j := 2) (ls := [some (.ref (ad 0)), some (.int x), none, none]) pn_X6 rfl rfl rfl (fun pr en s0 mi below meth c' K _ => ?_)
  have lp : ∀ (fuel : Nat) (i N j : Nat) (S1 : ST), (j + 1 ≤ fuel) → (j ≤ 9) → (i < n) → (CartOk (qOf (aZ A) i) N) → (RelCart S (1 + 3 + 4 * i) (qOf (aZ A) i) N) → (0 ≤ x ∧ x < aZ A 6) → (qA A x = qOf (aZ A) i) → (∀ k, (k < 169 ∨ 180 < k) → S1 k = S k) → (fsF (fun j => neQ (aZ A) (qOf (aZ A) i) (nI j)) 9 = fsF (fun j => neQ (aZ A) (qOf (aZ A) i) (nI j)) j) → G pr l en (rmd 6) s0 mi (List.toArray [.ref (ad 0), .int x]) below meth c' (MQ below (QQ b D cA NN ad zT (RI (CPost (o_fastest A x, A) S))) (List.toArray [.ref (ad 0), .int x]) s0 0 0 (aF b)) b D cA 4 NN ad zT 0 0 18 [some (.ref (ad 0)), some (.int x), some (.ref (ad (1 + 3 + 4 * i))), some (.int (nI j))] [] S1 := by
    intro fuel
    induction fuel with
    | zero =>
      intro i N j  S1  hif hj9 hi hq hr hcx hqA hfr hacc
      omega
    | succ fuel ih =>
      intro i N j  S1  hif hj9 hi hq hr hcx hqA hfr hacc
      refine g_iload_n K dX6_fastest_18 rfl ?_
      refine g_iconst K dX6_fastest_19 kc_1 ?_
      refine g_icmp_lt (tgt := 47) K dX6_fastest_20 (by decide) (fun u20 => ?_) (fun u20 => ?_)
      · have hj0 : j = 0 := by
          rw [show (1 : Int32) = nI 1 from rfl, nI_ltI (by omega) (by omega)] at u20
          omega
        subst hj0
        refine g_bipush K dX6_fastest_47 kb_m5 ?_
        refine g_iret K dX6_fastest_49 ⟨_, rfl, ?_⟩
        refine cp_ok (A := A) ?_ (hA.keep (S' := S1) hfr) (fun b hb => hfr b (by omega))
        unfold o_fastest
        rw [if_pos hcx, hqA, hacc]
        rfl
      · have hj0 : 1 ≤ j := by
          rw [show (1 : Int32) = nI 1 from rfl, nI_ltI (by omega) (by omega)] at u20
          omega
        have hr1 : RelCart S1 (1 + 3 + 4 * i) (qOf (aZ A) i) N := hr.to (fun b hb => hfr _ (by omega))
        have hs : 1 ≤ nI j ∧ nI j ≤ 9 := ⟨nI_le (a := 1) hj0 (by omega), nI_le (b := 9) (by omega) (by decide)⟩
        refine g_aload_n K dX6_fastest_23 rfl ?_
        refine g_aload_n K dX6_fastest_24 rfl ?_
        refine g_iload_n K dX6_fastest_25 rfl ?_
        refine g_aload_n K dX6_fastest_26 rfl ?_
        refine g_getr (j := 1) K lk_X6_10 dX6_fastest_27 rfl (by decide) (rfl : kd 0 = 6) (by decide) (by decide) rfl (rfl : rs 0 0 = 1) ?_
        refine g_getr (j := 3) K lk_X6_107 dX6_fastest_30 rfl (by decide) (rfl : kd 1 = 5) (by decide) (by decide) rfl (rfl : rs 1 1 = 3) ?_
        refine g_callVpi K (c_X6_tellsNearly (st_1.cart (i := i) (by omega)) (by omega) sett_3 hq hr1 (fun b hb => by rw [hfr 3 (by omega)]; exact hA.1.2.1 b hb) hA.1.1.1 hs) mw_X6_tellsNearly ml_X6_230 dX6_fastest_33 (by rfl) rfl rfl (by decide) (by simp [Value.category]) ⟨by decide, by decide⟩ ⟨by decide, by decide⟩ (fun r33 S33 h33 => ?_)
        refine g_if_eq (tgt := 41) K dX6_fastest_36 (by decide) (fun u36 => ?_) (fun u36 => ?_)
        · refine g_iinc (ls2 := [_, _, _, some (.int _)]) K dX6_fastest_41 rfl kc_m1 rfl ?_
          refine g_goto (tgt := 18) K dX6_fastest_44 (by decide) ?_
          have e : nI j + (-1) = nI (j - 1) := by
            rw [← nI_sub1 hj0]
            grind
          rw [e]
          refine ih i N (j - 1) S33 (by omega) (by omega) hi hq hr hcx hqA (fun b hb => by rw [h33.2 b (by omega), hfr b hb]) ?_
          rw [hacc, show j = (j - 1) + 1 by omega]
          conv => lhs; unfold fsF
          rw [if_neg (by rw [show j - 1 + 1 = j by omega, ← h33.1, u36]; decide)]
          rfl
        · refine g_iload_n K dX6_fastest_39 rfl ?_
          refine g_iret K dX6_fastest_40 ⟨_, rfl, ?_⟩
          refine cp_ok (A := A) ?_ (hA.keep (S' := S33) (fun b hb => by rw [h33.2 b (by omega), hfr b (by omega)])) (fun b hb => by rw [h33.2 b (by omega), hfr b (by omega)])
          unfold o_fastest
          rw [if_pos hcx, hqA, hacc, show j = (j - 1) + 1 by omega]
          unfold fsF
          rw [if_pos (by rw [show j - 1 + 1 = j by omega, ← h33.1]; unfold neQ at *; grind)]
  refine g_aload_n K dX6_fastest_0 rfl ?_
  refine g_getr (j := 1) K lk_X6_10 dX6_fastest_1 rfl (by decide) (rfl : kd 0 = 6) (by decide) (by decide) rfl (rfl : rs 0 0 = 1) ?_
  refine g_iload_n K dX6_fastest_4 rfl ?_
  refine g_callV K (c_X5_findCart st_1 hn n6) mw_X5_findCart ml_X6_64 dX6_fastest_5 rfl (by decide) ⟨_, rfl, rfl⟩ (by decide) (by rfl) (by simp [Value.category]) ⟨by decide, by decide⟩ ⟨by decide, by decide⟩ (fun v5 S5 h5 => ?_)
  obtain ⟨hSe, hf⟩ := h5
  rw [hSe]
  clear hSe
  rcases hf with ⟨i, hi, hx, rfl⟩ | ⟨hx, rfl⟩
  · obtain ⟨N, hq, hr⟩ := hA.1.cart hi
    have hN5 := hq.2.2.1
    have hN1 := hq.2.1
    have hk : cK x = i := by rw [hx]; exact cK_nI (by omega)
    have hqA : qA A x = qOf (aZ A) i := by unfold qA; rw [hk]
    have hcx : 0 ≤ x ∧ x < aZ A 6 := by rw [hx, hz6]; exact ⟨nI_pos' (by omega), nI_lt hi (by omega)⟩
    have hnq : nQ (qOf (aZ A) i) = N := nQ_eq hq
    have hq0 : qOf (aZ A) i 0 = nI N := hq.1
    refine g_astore_n (ls2 := [_, _, some (.ref _), _]) K dX6_fastest_8 (by decide) rfl ?_
    refine g_aload_n K dX6_fastest_9 rfl ?_
    refine g_ifnonnull (tgt := 15) K dX6_fastest_10 (by decide) ?_
    refine g_bipush K dX6_fastest_15 kb_9 ?_
    refine g_istore_n (ls2 := [_, _, _, some (.int _)]) K dX6_fastest_17 (by decide) rfl ?_
    exact lp 10 i N 9 S (by omega) (by omega) hi hq hr hcx hqA (fun _ _ => rfl) rfl
  · have hcx : ¬ (0 ≤ x ∧ x < aZ A 6) := by rw [hz6]; exact hx
    refine g_astore_nN (ls2 := [_, _, some .null, _]) K dX6_fastest_8 (by decide) rfl ?_
    refine g_aload_nN K dX6_fastest_9 rfl ?_
    refine g_ifnonnullN K dX6_fastest_10 ?_
    refine g_iconst K dX6_fastest_13 kc_m1 ?_
    refine g_iret K dX6_fastest_14 ⟨_, rfl, ?_⟩
    exact cp_err (by unfold o_fastest; rw [if_neg hcx]) hA
