def RunOk (S : ST) (se bh br : Nat → Int32) (sp : Int32) (N w n : Nat) : Prop := (∀ j, j < n → S 170 j = ldR se bh br sp N j ∧ S 171 j = swR se bh br sp N j ∧ S 172 j = rdR se bh br sp N j ∧ S 173 j = stF (rdR se bh br sp N) w (se 4) j ∧ S 174 j = lvR (rdR se bh br sp N) w (se 4) (j + 1) 1) ∧ S 175 = lvR (rdR se bh br sp N) w (se 4) n
theorem lvR_cnt {f : Nat → Int32} {w : Nat} {bo : Int32} : ∀ t, ∃ m, m ≤ t ∧ lvR f w bo t 0 = nI m := by
  intro t
  induction t with
  | zero => exact ⟨0, Nat.le_refl _, rfl⟩
  | succ t ih =>
    obtain ⟨m, h1, h2⟩ := ih
    unfold lvR
    split
    · unfold offF
      split
      · exact ⟨m, by omega, h2⟩
      · refine ⟨m + 1, by omega, ?_⟩
        rw [if_pos rfl, h2, nI_1]
    · exact ⟨m, by omega, h2⟩
theorem lvR_0 {f : Nat → Int32} {w : Nat} {bo : Int32} {t : Nat} (ht : t < 2 ^ 31) : 0 ≤ lvR f w bo t 0 := by
  obtain ⟨m, h1, h2⟩ := lvR_cnt (f := f) (w := w) (bo := bo) t
  rw [h2]
  exact nI_pos' (by omega)

set_option maxHeartbeats 4000000 in
set_option maxRecDepth 100000 in
theorem c_X4_rollOver {l : Launch} {b : Nat} {D : va_G} {cA : Nat → ClassId} {ad : Nat → Nat} {S : ST} {se bh br lf : Nat → Int32} {sp : Int32} {N : Nat} {w n T : Nat} (hR : RC S se bh br lf sp N) (hw : se 3 = nI w) (hw1 : 1 ≤ w) (hw9 : w ≤ 9) (hT : S 169 12 = nI T) (hT2 : T < 2 ^ 31) (hn : n = if 120 < T then 120 else T) : MT l b D cA NN ad zT yX4_rollOver cX4_rollOver 3 none 3 [.ref (ad 169)] S (RV (fun S2 => RunOk S2 se bh br sp N w n ∧ ∀ k, (k < 170 ∨ 175 < k) → S2 k = S k)) := by
  have hn120 : n ≤ 120 := by
    rw [hn]
    split <;> omega
  refine MT.intro (j := 2) (ls := [some (.ref (ad 169)), none, none]) pn_X4 rfl rfl rfl (fun pr en s0 mi below meth c' K _ => ?_)
  have kb : ∀ (t : Nat) (S1 : ST), (t < n) → (∀ j, j < t + 1 → S1 170 j = ldR se bh br sp N j ∧ S1 171 j = swR se bh br sp N j ∧ S1 172 j = rdR se bh br sp N j ∧ S1 173 j = stF (rdR se bh br sp N) w (se 4) j) → (∀ j, j < t → S1 174 j = lvR (rdR se bh br sp N) w (se 4) (j + 1) 1) → (S1 175 = lvR (rdR se bh br sp N) w (se 4) (t + 1)) → (∀ k, (k < 170 ∨ 175 < k) → S1 k = S k) → (∀ S2 : ST, RunOk S2 se bh br sp N w (t + 1) → (∀ k, (k < 170 ∨ 175 < k) → S2 k = S k) → G pr l en (rmd 3) s0 mi (List.toArray [.ref (ad 169)]) below meth c' (MQ below (QQ b D cA NN ad zT (RV (fun S2 => RunOk S2 se bh br sp N w n ∧ ∀ k, (k < 170 ∨ 175 < k) → S2 k = S k))) (List.toArray [.ref (ad 169)]) s0 0 0 (aF b)) b D cA 3 NN ad zT 0 0 14 [some (.ref (ad 169)), some (.int (nI n)), some (.int (nI (t + 1)))] [] S2) → G pr l en (rmd 3) s0 mi (List.toArray [.ref (ad 169)]) below meth c' (MQ below (QQ b D cA NN ad zT (RV (fun S2 => RunOk S2 se bh br sp N w n ∧ ∀ k, (k < 170 ∨ 175 < k) → S2 k = S k))) (List.toArray [.ref (ad 169)]) s0 0 0 (aF b)) b D cA 3 NN ad zT 0 0 63 [some (.ref (ad 169)), some (.int (nI n)), some (.int (nI t))] [] S1 := by
    intro t  S1  ht hA hB hL hF hgo
    refine g_aload_n K dX4_rollOver_63 rfl ?_
    refine g_getr (j := 174) K lk_X4_25 dX4_rollOver_64 rfl (by decide) (rfl : kd 169 = 4) (by decide) (by decide) rfl (rfl : rs 169 4 = 174) ?_
    refine g_iload_n K dX4_rollOver_67 rfl ?_
    refine g_aload_n K dX4_rollOver_68 rfl ?_
    refine g_getr (j := 175) K lk_X4_31 dX4_rollOver_69 rfl (by decide) (rfl : kd 169 = 4) (by decide) (by decide) rfl (rfl : rs 169 5 = 175) ?_
    refine g_geti K lk_X4_112 dX4_rollOver_72 rfl (rfl : kd 175 = 3) (by decide) (by decide) (congrFun hL 1) ?_
    refine g_iast (j := t) K dX4_rollOver_75 rfl ln_174 (by omega) (rfl : kd 174 = 8) (by decide) rfl ?_
    refine g_iinc (ls2 := [_, _, some (.int _)]) K dX4_rollOver_76 rfl kc_1 rfl ?_
    refine g_goto (tgt := 14) K dX4_rollOver_79 (by decide) ?_
    rw [nI_1]
    refine hgo _ ⟨fun j hj => ?_, ?_⟩ ?_
    · have hq := hA j hj
      rw [stw_n (by decide), stw_n (by decide), stw_n (by decide), stw_n (by decide)]
      refine ⟨hq.1, hq.2.1, hq.2.2.1, hq.2.2.2, ?_⟩
      simp only [stw_app, true_and]
      by_cases e : j = t
      · rw [if_pos e, e]
      · rw [if_neg e]
        exact hB j (by omega)
    · rw [stw_n (by decide)]
      exact hL
    · intro k hk
      rw [stw_n (by omega)]
      exact hF k hk
  have lp : ∀ (fuel : Nat) (t : Nat) (S1 : ST), (n + 1 ≤ t + fuel) → (t ≤ n) → (RunOk S1 se bh br sp N w t) → (∀ k, (k < 170 ∨ 175 < k) → S1 k = S k) → G pr l en (rmd 3) s0 mi (List.toArray [.ref (ad 169)]) below meth c' (MQ below (QQ b D cA NN ad zT (RV (fun S2 => RunOk S2 se bh br sp N w n ∧ ∀ k, (k < 170 ∨ 175 < k) → S2 k = S k))) (List.toArray [.ref (ad 169)]) s0 0 0 (aF b)) b D cA 3 NN ad zT 0 0 14 [some (.ref (ad 169)), some (.int (nI n)), some (.int (nI t))] [] S1 := by
    intro fuel
    induction fuel with
    | zero =>
      intro t  S1  hi hi2 hO hF
      omega
    | succ fuel ih =>
      intro t  S1  hi hi2 hO hF
      have hR1 : RC S1 se bh br lf sp N := hR.to (fun k hk => hF k (by omega))
      refine g_iload_n K dX4_rollOver_14 rfl ?_
      refine g_iload_n K dX4_rollOver_15 rfl ?_
      refine g_icmp_ge (tgt := 82) K dX4_rollOver_16 (by decide) (fun u16 => ?_) (fun u16 => ?_)
      · have hiN : t = n := by
          rw [nI_leI (by omega) (by omega)] at u16
          omega
        subst hiN
        refine g_vret K dX4_rollOver_82 ⟨rfl, ?_⟩
        exact ⟨hO, hF⟩
      · have hiN : t < n := by
          rw [nI_leI (by omega) (by omega)] at u16
          omega
        refine g_aload_n K dX4_rollOver_19 rfl ?_
        refine g_iload_n K dX4_rollOver_20 rfl ?_
        refine g_callVv K (c_X4_weigh hR1 (t := t) (by omega) (fun h0 => ⟨(hO.1 (t - 1) (by omega)).1, (hO.1 (t - 1) (by omega)).2.1⟩)) mw_X4_weigh ml_X4_97 dX4_rollOver_21 (by rfl) rfl rfl (by decide) (by simp [Value.category]) ⟨by decide, by decide⟩ ⟨by decide, by decide⟩ ?_
        have hrd : ∀ j, j ≤ t → stw (stw (stw S1 170 t (ldR se bh br sp N t)) 171 t (swR se bh br sp N t)) 172 t (rdR se bh br sp N t) 172 j = rdR se bh br sp N j := by
          intro j hj
          simp only [stw_app, true_and]
          by_cases e : j = t
          · rw [if_pos e, e]
          · rw [if_neg e]
            simpa using (hO.1 j (by omega)).2.2.1
        have hR2 : RC (stw (stw (stw S1 170 t (ldR se bh br sp N t)) 171 t (swR se bh br sp N t)) 172 t (rdR se bh br sp N t)) se bh br lf sp N := hR1.to (fun k hk => by rw [stw_n (by omega), stw_n (by omega), stw_n (by omega)])
        refine g_aload_n K dX4_rollOver_24 rfl ?_
        refine g_getr (j := 173) K lk_X4_21 dX4_rollOver_25 rfl (by decide) (rfl : kd 169 = 4) (by decide) (by decide) rfl (rfl : rs 169 3 = 173) ?_
        refine g_iload_n K dX4_rollOver_28 rfl ?_
        refine g_aload_n K dX4_rollOver_29 rfl ?_
        refine g_iload_n K dX4_rollOver_30 rfl ?_
        refine g_callVi K (c_X4_hasSettled hR2 (t := t) (by omega) hw hw1 hw9) mw_X4_hasSettled ml_X4_101 dX4_rollOver_31 (by rfl) rfl rfl (by decide) (by simp [Value.category]) ⟨by decide, by decide⟩ ⟨by decide, by decide⟩ ?_
        refine g_nm (stF_congr (g := rdR se bh br sp N) hw1 hrd) ?_
        refine g_zast (j := t) K dX4_rollOver_34 rfl ln_173 (by omega) (rfl : kd 173 = 9) (by decide) (nar01 stF_01) ?_
        obtain ⟨S3, hS3⟩ : ∃ S3, S3 = stw (stw (stw (stw S1 170 t (ldR se bh br sp N t)) 171 t (swR se bh br sp N t)) 172 t (rdR se bh br sp N t)) 173 t (stF (rdR se bh br sp N) w (se 4) t) := ⟨_, rfl⟩
        rw [← hS3]
        have hrd3 : ∀ j, j ≤ t → S3 172 j = rdR se bh br sp N j := fun j hj => by rw [hS3, stw_n (by decide)]; exact hrd j hj
        have hR3 : RC S3 se bh br lf sp N := hR2.to (fun k hk => by rw [hS3, stw_n (by omega)])
        have h73 : S3 173 t = stF (rdR se bh br sp N) w (se 4) t := by rw [hS3]; simp [stw_app]
        have h75 : S3 175 = lvR (rdR se bh br sp N) w (se 4) t := by rw [hS3, stw_n (by decide), stw_n (by decide), stw_n (by decide), stw_n (by decide)]; exact hO.2
        have hA3 : ∀ j, j < t + 1 → S3 170 j = ldR se bh br sp N j ∧ S3 171 j = swR se bh br sp N j ∧ S3 172 j = rdR se bh br sp N j ∧ S3 173 j = stF (rdR se bh br sp N) w (se 4) j := by
          intro j hj
          rw [hS3]
          simp only [stw_app, true_and]
          by_cases e : j = t
          · subst e
            simp
          · have hq := hO.1 j (by omega)
            simp [e, hq.1, hq.2.1, hq.2.2.1, hq.2.2.2.1]
        have hB3 : ∀ j, j < t → S3 174 j = lvR (rdR se bh br sp N) w (se 4) (j + 1) 1 := by
          intro j hj
          rw [hS3]
          simp only [stw_app]
          simpa using (hO.1 j hj).2.2.2.2
        have hF3 : ∀ k, (k < 170 ∨ 175 < k) → S3 k = S k := fun k hk => by rw [hS3, stw_n (by omega), stw_n (by omega), stw_n (by omega), stw_n (by omega)]; exact hF k hk
        refine g_aload_n K dX4_rollOver_35 rfl ?_
        refine g_getr (j := 173) K lk_X4_21 dX4_rollOver_36 rfl (by decide) (rfl : kd 169 = 4) (by decide) (by decide) rfl (rfl : rs 169 3 = 173) ?_
        refine g_iload_n K dX4_rollOver_39 rfl ?_
        refine g_zald (j := t) K dX4_rollOver_40 rfl ln_173 (by omega) (rfl : kd 173 = 9) (by decide) h73 ?_
        refine g_if_eq (tgt := 63) K dX4_rollOver_41 (by decide) (fun u41 => ?_) (fun u41 => ?_)
        · refine kb t S3 hiN hA3 hB3 ?_ hF3 (fun S2 h1 h2 => ih (t + 1) S2 (by omega) (by omega) h1 h2)
          rw [h75]
          exact (if_neg (by rw [u41]; decide)).symm
        · refine g_aload_n K dX4_rollOver_44 rfl ?_
          refine g_getr (j := 175) K lk_X4_31 dX4_rollOver_45 rfl (by decide) (rfl : kd 169 = 4) (by decide) (by decide) rfl (rfl : rs 169 5 = 175) ?_
          refine g_aload_n K dX4_rollOver_48 rfl ?_
          refine g_iload_n K dX4_rollOver_49 rfl ?_
          refine g_callVi K (c_X4_meanAt hR3 (t := t) (by omega) hw hw1 hw9 (stF_w u41)) mw_X4_meanAt ml_X4_105 dX4_rollOver_50 (by rfl) rfl rfl (by decide) (by simp [Value.category]) ⟨by decide, by decide⟩ ⟨by decide, by decide⟩ ?_
          refine g_nm (meF_congr (g := rdR se bh br sp N) (stF_w u41) hrd3) ?_
          refine g_iload_n K dX4_rollOver_53 rfl ?_
          refine g_aload_n K dX4_rollOver_54 rfl ?_
          refine g_getr (j := 176) K lk_X4_35 dX4_rollOver_55 rfl (by decide) (rfl : kd 169 = 4) (by decide) (by decide) rfl (rfl : rs 169 6 = 176) ?_
          refine g_iconst K dX4_rollOver_58 kc_4 ?_
          refine g_iald (j := 4) K dX4_rollOver_59 rfl ln_176 (by decide) (rfl : kd 176 = 8) (by decide) (hR3.se 4) ?_
          refine g_callVv K (c_X3_offer (by rw [h75]; exact lvR_0 (by omega))) mw_X3_offer ml_X4_108 dX4_rollOver_60 (by rfl) rfl rfl (by decide) (by simp [Value.category]) ⟨by decide, by decide⟩ ⟨by decide, by decide⟩ ?_
          refine kb t _ hiN ?_ ?_ ?_ ?_ (fun S2 h1 h2 => ih (t + 1) S2 (by omega) (by omega) h1 h2)
          · intro j hj
            rw [str_n (by decide), str_n (by decide), str_n (by decide), str_n (by decide)]
            exact hA3 j hj
          · intro j hj
            rw [str_n (by decide)]
            exact hB3 j hj
          · rw [str_s, h75]
            conv => rhs; unfold lvR
            rw [if_pos (stF_01.resolve_left u41)]
          · intro k hk
            rw [str_n (by omega)]
            exact hF3 k hk
  refine g_aload_n K dX4_rollOver_0 rfl ?_
  refine g_getr (j := 175) K lk_X4_31 dX4_rollOver_1 rfl (by decide) (rfl : kd 169 = 4) (by decide) (by decide) rfl (rfl : rs 169 5 = 175) ?_
  refine g_callVv K c_X3_forget mw_X3_forget ml_X4_90 dX4_rollOver_4 (by rfl) rfl rfl (by decide) (by simp [Value.category]) ⟨by decide, by decide⟩ ⟨by decide, by decide⟩ ?_
  refine g_aload_n K dX4_rollOver_7 rfl ?_
  refine g_callVi K c_X4_readingCount mw_X4_readingCount ml_X4_93 dX4_rollOver_8 (by rfl) rfl rfl (by decide) (by simp [Value.category]) ⟨by decide, by decide⟩ ⟨by decide, by decide⟩ ?_
  refine g_nm (y := nI n) (by
    rw [str_n (by decide), hT, hn]
    by_cases q : 120 < T
    · rw [if_pos q, if_pos (show (120 : Int32) < nI T from (nI_lt (a := 120) q hT2))]
      rfl
    · rw [if_neg q, if_neg (show ¬ (120 : Int32) < nI T from nI_nlt (b := T) (a := 120) (by omega) (by decide))]) ?_
  refine g_istore_n (ls2 := [_, some (.int _), _]) K dX4_rollOver_11 (by decide) rfl ?_
  refine g_iconst K dX4_rollOver_12 kc_0 ?_
  refine g_istore_n (ls2 := [_, _, some (.int _)]) K dX4_rollOver_13 (by decide) rfl ?_
  refine lp (n + 1) 0 _ (by omega) (by omega) ⟨fun j hj => absurd hj (by omega), str_s⟩ (fun k hk => str_n (by omega))
set_option maxHeartbeats 4000000 in
set_option maxRecDepth 100000 in
theorem c_X4_follow {l : Launch} {b : Nat} {D : va_G} {cA : Nat → ClassId} {ad : Nat → Nat} {S : ST} {c k N : Nat} {x : Int32} {w n T : Nat} (hc : CartAt c) (hcl : c + 3 < 165) (hk : SettAt k) (hN : S c 3 = nI N) (h5 : N ≤ 5) (hz : ∀ a, a < N → S (c + 3) a = 0 ∨ S (c + 3) a = 1) (hw : S k 3 = nI w) (hw1 : 1 ≤ w) (hw9 : w ≤ 9) (hT : quoUF (S k 0 + sumF (S (c + 2)) N) x + 1 = nI T) (hT2 : T < 2 ^ 31) (hn : n = if 120 < T then 120 else T) : MT l b D cA NN ad zT yX4_follow cX4_follow 4 none 4 [.ref (ad 169), .ref (ad c), .int x, .ref (ad k)] S (RV (fun S2 => RunOk S2 (S k) (bhR S c N) (brR S c N N) x N w n ∧ ∀ a, (a < 170 ∨ 175 < a) → S2 a = prepS S c k N x a)) := by
  refine MT.intro (j := 0) (ls := [some (.ref (ad 169)), some (.ref (ad c)), some (.int x), some (.ref (ad k))]) pn_X4 rfl rfl rfl (fun pr en s0 mi below meth c' K _ => ?_)
  refine g_aload_n K dX4_follow_0 rfl ?_
  refine g_aload_n K dX4_follow_1 rfl ?_
  refine g_iload_n K dX4_follow_2 rfl ?_
  refine g_aload_n K dX4_follow_3 rfl ?_
  refine g_callVv K (c_X4_prepare hc hcl hk hN h5 hz) mw_X4_prepare ml_X4_47 dX4_follow_4 (by rfl) rfl rfl (by decide) (by simp [Value.category]) ⟨by decide, by decide⟩ ⟨by decide, by decide⟩ ?_
  refine g_aload_n K dX4_follow_7 rfl ?_
  refine g_callVpv K (c_X4_rollOver (prep_rc h5) hw hw1 hw9 (prep_12.trans hT) hT2 hn) mw_X4_rollOver ml_X4_51 dX4_follow_8 (by rfl) rfl rfl (by decide) (by simp [Value.category]) ⟨by decide, by decide⟩ ⟨by decide, by decide⟩ (fun S8 h8 => ?_)
  refine g_vret K dX4_follow_11 ⟨rfl, ?_⟩
  exact h8
