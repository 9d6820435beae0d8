theorem MZ_lay {S : ST} {z : Nat → Int32} {k i : Nat} {v : Int32} (h : MZ S z) : MZ (stw S 182 (9 + 20 * k + i) v) (lay z k i v) := by
  intro j hj
  rw [stw_s]
  unfold lay upd
  by_cases e : j = 9 + 20 * k + i
  · rw [if_pos e, if_pos e]
  · rw [if_neg e, if_neg e]
    exact h j hj
theorem MZ_put {S : ST} {z : Nat → Int32} {i : Nat} {v : Int32} (h : MZ S z) : MZ (stw S 182 i v) (upd z i v) := by
  intro j hj
  rw [stw_s]
  unfold upd
  by_cases e : j = i
  · rw [if_pos e, if_pos e]
  · rw [if_neg e, if_neg e]
    exact h j hj
theorem MZ_to {S S2 : ST} {z : Nat → Int32} (h : MZ S z) (e : S2 182 = S 182) : MZ S2 z := fun k hk => by rw [e]; exact h k hk
theorem MRel_row {S S2 : ST} {A : AS} {z : Nat → Int32} (h : MRel S A) (hz : MZ S2 z) (e : ∀ k, k ≠ 182 → S2 k = S k) : MRel S2 (setZ A z) :=
  h.set hz ⟨by rw [e 181 (by decide)], by rw [e 181 (by decide)], by rw [e 181 (by decide)]⟩ (fun k hk => e k (by omega))
theorem MRel_lay {S : ST} {A : AS} {k i : Nat} {v : Int32} (h : MRel S A) : MRel (stw S 182 (9 + 20 * k + i) v) (setZ A (lay (aZ A) k i v)) := MRel_row h (MZ_lay h.1) (fun k hk => stw_n hk)
theorem MRel_put {S : ST} {A : AS} {i : Nat} {v : Int32} (h : MRel S A) : MRel (stw S 182 i v) (setZ A (upd (aZ A) i v)) := MRel_row h (MZ_put h.1) (fun k hk => stw_n hk)
theorem lift_ok {z : Nat → Int32} {k N a : Nat} {v : Int32} (hN : CartOk (qOf z k) N) (hv : v = 0 ∨ v = 1) (hd : ∃ b, b < N ∧ (if b = a then v else lQ (qOf z k) b) = 0) (ha : a < N) : CartOk (qOf (lay z k (15 + a) v) k) N := by
  have h5 := hN.2.2.1
  have hq : ∀ j, qOf (lay z k (15 + a) v) k j = if j = 15 + a then v else qOf z k j := fun j => lay_q (by omega)
  obtain ⟨h1, h2, h3, h4, -⟩ := hN
  obtain ⟨b0, hb0, hd⟩ := hd
  refine ⟨by rw [hq, if_neg (by omega)]; exact h1, h2, h3, fun b hb => ?_, b0, hb0, ?_⟩
  · have g := h4 b hb
    unfold wQ dQ lQ at g ⊢
    rw [hq, hq, hq]
    by_cases e : b = a
    · rw [if_neg (by omega), if_neg (by omega), if_pos (by omega)]
      exact ⟨g.1, g.2.1, g.2.2.1, g.2.2.2.1, hv⟩
    · rw [if_neg (by omega), if_neg (by omega), if_neg (by omega)]
      exact g
  · unfold lQ at hd ⊢
    rw [hq]
    by_cases e : b0 = a
    · rw [if_pos (by omega)]
      rw [if_pos e] at hd
      exact hd
    · rw [if_neg (by omega)]
      rw [if_neg e] at hd
      exact hd
set_option maxHeartbeats 4000000 in
set_option maxRecDepth 100000 in
theorem c_X7_newCart {l : Launch} {b : Nat} {D : va_G} {cA : Nat → ClassId} {ad : Nat → Nat} {S : ST} {z : Nat → Int32} {n : Nat} {x : Int32} (hz : MZ S z) (hn : z 6 = nI n) (h6 : n < 6) : MT l b D cA NN ad zT yX7_newCart cX7_newCart 4 none 1 [.ref (ad 181), .int x] S (RV (fun S2 => MZ S2 (newCartZ z n x) ∧ ∀ k, k ≠ 182 → S2 k = S k)) := by
  refine MT.intro (j := 2) (ls := [some (.ref (ad 181)), some (.int x), none, none]) pn_X7 rfl rfl rfl (fun pr en s0 mi below meth c' K _ => ?_)
  have lp : ∀ (fuel : Nat) (i : Nat) (S1 : ST), (20 + 1 ≤ i + fuel) → (i ≤ 20) → (∀ k, k < 129 → S1 182 k = if 9 + 20 * n ≤ k ∧ k < 9 + 20 * n + i then 0 else z k) → (∀ k, k ≠ 182 → S1 k = S k) → G pr l en (rmd 1) s0 mi (List.toArray [.ref (ad 181), .int x]) below meth c' (MQ below (QQ b D cA NN ad zT (RV (fun S2 => MZ S2 (newCartZ z n x) ∧ ∀ k, k ≠ 182 → S2 k = S k))) (List.toArray [.ref (ad 181), .int x]) s0 0 0 (aF b)) b D cA 4 NN ad zT 0 0 10 [some (.ref (ad 181)), some (.int x), some (.int (nI n)), some (.int (nI i))] [] S1 := by
    intro fuel
    induction fuel with
    | zero =>
      intro i  S1  hi hi2 h1 hf
      omega
    | succ fuel ih =>
      intro i  S1  hi hi2 h1 hf
      refine g_iload_n K dX7_newCart_10 rfl ?_
      refine g_bipush K dX7_newCart_11 kb_20 ?_
      refine g_icmp_ge (tgt := 29) K dX7_newCart_13 (by decide) (fun u13 => ?_) (fun u13 => ?_)
      · have hi3 : i = 20 := by
          rw [show (20 : Int32) = nI 20 from rfl, nI_leI (by omega) (by omega)] at u13
          omega
        subst hi3
        refine g_aload_n K dX7_newCart_29 rfl ?_
        refine g_iload_n K dX7_newCart_30 rfl ?_
        refine g_iconst K dX7_newCart_31 kc_1 ?_
        refine g_bipush K dX7_newCart_32 kb_m5 ?_
        refine g_callVv K (c_X7_lay (k := n) (w := 1) (by omega) (by omega)) mw_X7_lay ml_X7_73 dX7_newCart_34 (by rfl) rfl rfl (by decide) (by simp [Value.category]) ⟨by decide, by decide⟩ ⟨by decide, by decide⟩ ?_
        refine g_aload_n K dX7_newCart_37 rfl ?_
        refine g_iload_n K dX7_newCart_38 rfl ?_
        refine g_iconst K dX7_newCart_39 kc_2 ?_
        refine g_bipush K dX7_newCart_40 kb_m5 ?_
        refine g_callVv K (c_X7_lay (k := n) (w := 2) (by omega) (by omega)) mw_X7_lay ml_X7_73 dX7_newCart_42 (by rfl) rfl rfl (by decide) (by simp [Value.category]) ⟨by decide, by decide⟩ ⟨by decide, by decide⟩ ?_
        refine g_aload_n K dX7_newCart_45 rfl ?_
        refine g_iload_n K dX7_newCart_46 rfl ?_
        refine g_iconst K dX7_newCart_47 kc_3 ?_
        refine g_bipush K dX7_newCart_48 kb_m5 ?_
        refine g_callVv K (c_X7_lay (k := n) (w := 3) (by omega) (by omega)) mw_X7_lay ml_X7_73 dX7_newCart_50 (by rfl) rfl rfl (by decide) (by simp [Value.category]) ⟨by decide, by decide⟩ ⟨by decide, by decide⟩ ?_
        refine g_aload_n K dX7_newCart_53 rfl ?_
        refine g_iload_n K dX7_newCart_54 rfl ?_
        refine g_iconst K dX7_newCart_55 kc_4 ?_
        refine g_bipush K dX7_newCart_56 kb_m5 ?_
        refine g_callVv K (c_X7_lay (k := n) (w := 4) (by omega) (by omega)) mw_X7_lay ml_X7_73 dX7_newCart_58 (by rfl) rfl rfl (by decide) (by simp [Value.category]) ⟨by decide, by decide⟩ ⟨by decide, by decide⟩ ?_
        refine g_aload_n K dX7_newCart_61 rfl ?_
        refine g_iload_n K dX7_newCart_62 rfl ?_
        refine g_iconst K dX7_newCart_63 kc_0 ?_
        refine g_iconst K dX7_newCart_64 kc_1 ?_
        refine g_callVv K (c_X7_lay (k := n) (w := 0) (by omega) (by omega)) mw_X7_lay ml_X7_73 dX7_newCart_65 (by rfl) rfl rfl (by decide) (by simp [Value.category]) ⟨by decide, by decide⟩ ⟨by decide, by decide⟩ ?_
        refine g_aload_n K dX7_newCart_68 rfl ?_
        refine g_iload_n K dX7_newCart_69 rfl ?_
        refine g_iconst K dX7_newCart_70 kc_5 ?_
        refine g_iload_n K dX7_newCart_71 rfl ?_
        refine g_callVv K (c_X7_lay (k := n) (w := 5) (by omega) (by omega)) mw_X7_lay ml_X7_73 dX7_newCart_72 (by rfl) rfl rfl (by decide) (by simp [Value.category]) ⟨by decide, by decide⟩ ⟨by decide, by decide⟩ ?_
        refine g_aload_n K dX7_newCart_75 rfl ?_
        refine g_getr (j := 182) K lk_X7_7 dX7_newCart_76 rfl (by decide) (rfl : kd 181 = 7) (by decide) (by decide) rfl (rfl : rs 181 0 = 182) ?_
        refine g_bipush K dX7_newCart_79 kb_6 ?_
        refine g_dup2 K dX7_newCart_81 rfl rfl ?_
        refine g_iald (j := 6) K dX7_newCart_82 rfl ln_182 (by decide) (rfl : kd 182 = 8) (by decide) (show _ = nI n by simp only [stw_app, true_and]; rw [if_neg (by omega), if_neg (by omega), if_neg (by omega), if_neg (by omega), if_neg (by omega), if_neg (by omega), h1 6 (by decide), if_neg (by omega)]; exact hn) ?_
        refine g_iconst K dX7_newCart_83 kc_1 ?_
        refine g_iadd K dX7_newCart_84 ?_
        refine g_iast (j := 6) K dX7_newCart_85 rfl ln_182 (by decide) (rfl : kd 182 = 8) (by decide) rfl ?_
        refine g_vret K dX7_newCart_86 ⟨rfl, ?_⟩
        refine ⟨fun k hk => ?_, fun k hk => by rw [stw_n hk, stw_n hk, stw_n hk, stw_n hk, stw_n hk, stw_n hk, stw_n hk]; exact hf k hk⟩
        simp only [stw_app, true_and]
        rw [h1 k hk, nI_1]
        unfold newCartZ
        grind
      · have hi3 : i < 20 := by
          rw [show (20 : Int32) = nI 20 from rfl, nI_leI (by omega) (by omega)] at u13
          omega
        refine g_aload_n K dX7_newCart_16 rfl ?_
        refine g_iload_n K dX7_newCart_17 rfl ?_
        refine g_iload_n K dX7_newCart_18 rfl ?_
        refine g_iconst K dX7_newCart_19 kc_0 ?_
        refine g_callVv K (c_X7_lay (k := n) (w := i) (by omega) (by omega)) mw_X7_lay ml_X7_73 dX7_newCart_20 (by rfl) rfl rfl (by decide) (by simp [Value.category]) ⟨by decide, by decide⟩ ⟨by decide, by decide⟩ ?_
        refine g_iinc (ls2 := [_, _, _, some (.int _)]) K dX7_newCart_23 rfl kc_1 rfl ?_
        refine g_goto (tgt := 10) K dX7_newCart_26 (by decide) ?_
        rw [nI_1]
        refine ih (i + 1) _ (by omega) (by omega) (fun k hk => ?_) (fun k hk => (stw_n hk).trans (hf k hk))
        rw [stw_s]
        unfold upd
        by_cases e : k = 9 + 20 * n + i
        · rw [if_pos e, if_pos (by omega)]
        · rw [if_neg e, h1 k hk]
          by_cases e2 : 9 + 20 * n ≤ k ∧ k < 9 + 20 * n + i
          · rw [if_pos e2, if_pos (by omega)]
          · rw [if_neg e2, if_neg (by omega)]
  refine g_aload_n K dX7_newCart_0 rfl ?_
  refine g_getr (j := 182) K lk_X7_7 dX7_newCart_1 rfl (by decide) (rfl : kd 181 = 7) (by decide) (by decide) rfl (rfl : rs 181 0 = 182) ?_
  refine g_bipush K dX7_newCart_4 kb_6 ?_
  refine g_iald (j := 6) K dX7_newCart_6 rfl ln_182 (by decide) (rfl : kd 182 = 8) (by decide) ((hz 6 (by decide)).trans hn) ?_
  refine g_istore_n (ls2 := [_, _, some (.int _), _]) K dX7_newCart_7 (by decide) rfl ?_
  refine g_iconst K dX7_newCart_8 kc_0 ?_
  refine g_istore_n (ls2 := [_, _, _, some (.int _)]) K dX7_newCart_9 (by decide) rfl ?_
  exact lp (20 + 1) 0 S (by omega) (by omega) (fun k hk => by rw [if_neg (by omega)]; exact hz k hk) (fun _ _ => rfl)
set_option maxHeartbeats 4000000 in
set_option maxRecDepth 100000 in
theorem c_X7_newAxle {l : Launch} {b : Nat} {D : va_G} {cA : Nat → ClassId} {ad : Nat → Nat} {S : ST} {z : Nat → Int32} {k N : Nat} {x y : Int32} (hz : MZ S z) (hk : k < 6) (hq : qOf z k 0 = nI N) (h5 : N < 5) : MT l b D cA NN ad zT yX7_newAxle cX7_newAxle 5 none 1 [.ref (ad 181), .int (nI k), .int x, .int y] S (RV (fun S2 => MZ S2 (newAxleZ z k N x y) ∧ ∀ k, k ≠ 182 → S2 k = S k)) := by
  refine MT.intro (j := 1) (ls := [some (.ref (ad 181)), some (.int (nI k)), some (.int x), some (.int y), none]) pn_X7 rfl rfl rfl (fun pr en s0 mi below meth c' K _ => ?_)
  refine g_aload_n K dX7_newAxle_0 rfl ?_
  refine g_iload_n K dX7_newAxle_1 rfl ?_
  refine g_iconst K dX7_newAxle_2 kc_0 ?_
  refine g_callVi K (c_X7_of (k := k) (w := 0) hz (by omega) (by omega)) mw_X7_of ml_X7_54 dX7_newAxle_3 (by rfl) rfl rfl (by decide) (by simp [Value.category]) ⟨by decide, by decide⟩ ⟨by decide, by decide⟩ ?_
  rw [hq]
  refine g_istore (ls2 := [_, _, _, _, some (.int _)]) K dX7_newAxle_6 (by decide) rfl ?_
  refine g_aload_n K dX7_newAxle_8 rfl ?_
  refine g_iload_n K dX7_newAxle_9 rfl ?_
  refine g_iconst K dX7_newAxle_10 kc_5 ?_
  refine g_iload K dX7_newAxle_11 rfl ?_
  refine g_iadd K dX7_newAxle_13 ?_
  rw [show (5 : Int32) + nI N = nI (5 + N) from nI_add 5 N]
  refine g_iload_n K dX7_newAxle_14 rfl ?_
  refine g_callVv K (c_X7_lay (k := k) (w := 5 + N) (by omega) (by omega)) mw_X7_lay ml_X7_73 dX7_newAxle_15 (by rfl) rfl rfl (by decide) (by simp [Value.category]) ⟨by decide, by decide⟩ ⟨by decide, by decide⟩ ?_
  refine g_aload_n K dX7_newAxle_18 rfl ?_
  refine g_iload_n K dX7_newAxle_19 rfl ?_
  refine g_bipush K dX7_newAxle_20 kb_10 ?_
  refine g_iload K dX7_newAxle_22 rfl ?_
  refine g_iadd K dX7_newAxle_24 ?_
  rw [show (10 : Int32) + nI N = nI (10 + N) from nI_add 10 N]
  refine g_iload_n K dX7_newAxle_25 rfl ?_
  refine g_callVv K (c_X7_lay (k := k) (w := 10 + N) (by omega) (by omega)) mw_X7_lay ml_X7_73 dX7_newAxle_26 (by rfl) rfl rfl (by decide) (by simp [Value.category]) ⟨by decide, by decide⟩ ⟨by decide, by decide⟩ ?_
  refine g_aload_n K dX7_newAxle_29 rfl ?_
  refine g_iload_n K dX7_newAxle_30 rfl ?_
  refine g_bipush K dX7_newAxle_31 kb_15 ?_
  refine g_iload K dX7_newAxle_33 rfl ?_
  refine g_iadd K dX7_newAxle_35 ?_
  rw [show (15 : Int32) + nI N = nI (15 + N) from nI_add 15 N]
  refine g_iconst K dX7_newAxle_36 kc_0 ?_
  refine g_callVv K (c_X7_lay (k := k) (w := 15 + N) (by omega) (by omega)) mw_X7_lay ml_X7_73 dX7_newAxle_37 (by rfl) rfl rfl (by decide) (by simp [Value.category]) ⟨by decide, by decide⟩ ⟨by decide, by decide⟩ ?_
  refine g_aload_n K dX7_newAxle_40 rfl ?_
  refine g_iload_n K dX7_newAxle_41 rfl ?_
  refine g_iconst K dX7_newAxle_42 kc_0 ?_
  refine g_iload K dX7_newAxle_43 rfl ?_
  refine g_iconst K dX7_newAxle_45 kc_1 ?_
  refine g_iadd K dX7_newAxle_46 ?_
  rw [nI_1]
  refine g_callVv K (c_X7_lay (k := k) (w := 0) (by omega) (by omega)) mw_X7_lay ml_X7_73 dX7_newAxle_47 (by rfl) rfl rfl (by decide) (by simp [Value.category]) ⟨by decide, by decide⟩ ⟨by decide, by decide⟩ ?_
  refine g_vret K dX7_newAxle_50 ⟨rfl, ?_⟩
  exact ⟨MZ_lay (MZ_lay (MZ_lay (MZ_lay hz))), fun k hk => by rw [stw_n hk, stw_n hk, stw_n hk, stw_n hk]⟩
set_option maxHeartbeats 4000000 in
set_option maxRecDepth 100000 in
theorem c_X7_cart {l : Launch} {b : Nat} {D : va_G} {cA : Nat → ClassId} {ad : Nat → Nat} {S : ST} {A : AS} {n : Nat} {x : Int32} (hA : MRel S A) (hs : StOk (aZ A) n) : MT l b D cA NN ad zT yX7_cart cX7_cart 2 (some .int) 2 [.ref (ad 181), .int x] S (RI (MPost (o_cart A x) S)) := by
  have h6 := hs.2.2.1
  have hn := hs.2.1
  have hz := hA.1
  refine MT.intro (j := 0) (ls := [some (.ref (ad 181)), some (.int x)]) pn_X7 rfl rfl rfl (fun pr en s0 mi below meth c' K _ => ?_)
  refine g_iload_n K dX7_cart_0 rfl ?_
  refine g_iconst K dX7_cart_1 kc_1 ?_
  refine g_sipush K dX7_cart_2 kp_200 ?_
  refine g_callSi K c_X7_in mw_X7_in ml_X7_46 dX7_cart_5 (by rfl) rfl (by simp [Value.category]) ⟨by decide, by decide⟩ ⟨by decide, by decide⟩ ?_
  refine g_if_ne (tgt := 14) K dX7_cart_8 (by decide) (fun u8 => ?_) (fun u8 => ?_)
  · refine g_aload_n K dX7_cart_14 rfl ?_
    refine g_getr (j := 182) K lk_X7_7 dX7_cart_15 rfl (by decide) (rfl : kd 181 = 7) (by decide) (by decide) rfl (rfl : rs 181 0 = 182) ?_
    refine g_bipush K dX7_cart_18 kb_6 ?_
    refine g_iald (j := 6) K dX7_cart_20 rfl ln_182 (by decide) (rfl : kd 182 = 8) (by decide) ((hz 6 (by decide)).trans hn) ?_
    refine g_bipush K dX7_cart_21 kb_6 ?_
    refine g_icmp_ne (tgt := 29) K dX7_cart_23 (by decide) (fun u23 => ?_) (fun u23 => ?_)
    · have hn6 : n < 6 := by rw [nI6 h6] at u23; omega
      refine g_aload_n K dX7_cart_29 rfl ?_
      refine g_callVpv K (c_X7_record hA) mw_X7_record ml_X7_70 dX7_cart_30 (by rfl) rfl rfl (by decide) (by simp [Value.category]) ⟨by decide, by decide⟩ ⟨by decide, by decide⟩ (fun S30 h30 => ?_)
      refine g_aload_n K dX7_cart_33 rfl ?_
      refine g_iload_n K dX7_cart_34 rfl ?_
      refine g_callVpv K (c_X7_newCart (z := aZ A) (n := n) h30.1.1 hn hn6) mw_X7_newCart ml_X7_77 dX7_cart_35 (by rfl) rfl rfl (by decide) (by simp [Value.category]) ⟨by decide, by decide⟩ ⟨by decide, by decide⟩ (fun S35 h35 => ?_)
      refine g_aload_n K dX7_cart_38 rfl ?_
      refine g_getr (j := 182) K lk_X7_7 dX7_cart_39 rfl (by decide) (rfl : kd 181 = 7) (by decide) (by decide) rfl (rfl : rs 181 0 = 182) ?_
      refine g_bipush K dX7_cart_42 kb_6 ?_
      refine g_iald (j := 6) K dX7_cart_44 rfl ln_182 (by decide) (rfl : kd 182 = 8) (by decide) ((h35.1 6 (by decide)).trans (show newCartZ (aZ A) n x 6 = nI (n + 1) from if_pos rfl)) ?_
      refine g_iconst K dX7_cart_45 kc_1 ?_
      refine g_isub K dX7_cart_46 ?_
      refine g_iret K dX7_cart_47 ⟨_, rfl, ?_⟩
      have hw : 1 ≤ x ∧ x ≤ 200 := by grind
      refine mp_ok ?_ (MRel_row h30.1 h35.1 h35.2) (fun k hk => by rw [h35.2 k (by omega), h30.2 k (by omega) (by omega)])
      unfold o_cart
      rw [if_pos hw, hn, if_neg (by rw [nI6 h6]; omega), nI_pred, cK_nI (by omega)]
    · have hn6 : n = 6 := (nI6 h6).mp u23
      refine g_bipush K dX7_cart_26 kb_m3 ?_
      refine g_iret K dX7_cart_28 ⟨_, rfl, ?_⟩
      exact mp_err (by unfold o_cart; rw [hn, hn6]; grind [nI6]) hA
  · refine g_bipush K dX7_cart_11 kb_m2 ?_
    refine g_iret K dX7_cart_13 ⟨_, rfl, ?_⟩
    exact mp_err (by unfold o_cart; grind) hA
set_option maxHeartbeats 4000000 in
set_option maxRecDepth 100000 in
theorem c_X7_axle {l : Launch} {b : Nat} {D : va_G} {cA : Nat → ClassId} {ad : Nat → Nat} {S : ST} {A : AS} {n : Nat} {x y w : Int32} (hA : MRel S A) (hs : StOk (aZ A) n) : MT l b D cA NN ad zT yX7_axle cX7_axle 4 (some .int) 2 [.ref (ad 181), .int x, .int y, .int w] S (RI (MPost (o_axle A x y w) S)) := by
  have h6 := hs.2.2.1
  have hn := hs.2.1
  have hz := hA.1
  refine MT.intro (j := 0) (ls := [some (.ref (ad 181)), some (.int x), some (.int y), some (.int w)]) pn_X7 rfl rfl rfl (fun pr en s0 mi below meth c' K _ => ?_)
  refine g_aload_n K dX7_axle_0 rfl ?_
  refine g_iload_n K dX7_axle_1 rfl ?_
  refine g_callVi K (c_X7_isCart hz hn h6) mw_X7_isCart ml_X7_50 dX7_axle_2 (by rfl) rfl rfl (by decide) (by simp [Value.category]) ⟨by decide, by decide⟩ ⟨by decide, by decide⟩ ?_
  refine g_if_ne (tgt := 10) K dX7_axle_5 (by decide) (fun u5 => ?_) (fun u5 => ?_)
  · have hx : 0 ≤ x ∧ x < nI n := by grind
    have hcx : 0 ≤ x ∧ x < aZ A 6 := by rw [hn]; exact hx
    obtain ⟨i, hi, hxi, hki⟩ := c_in (z := aZ A) h6 hx
    have hi6 : i < 6 := by omega
    obtain ⟨N, hq⟩ := hs.2.2.2 i hi
    have h5 := hq.2.2.1
    have hN1 := hq.2.1
    have hq0 : qOf (aZ A) i 0 = nI N := hq.1
    have hnq : nQ (qOf (aZ A) i) = N := nQ_eq hq
    have hqA : qA A x = qOf (aZ A) i := by unfold qA; rw [hki]
    subst hxi
    refine g_iload_n K dX7_axle_10 rfl ?_
    refine g_iconst K dX7_axle_11 kc_2 ?_
    refine g_bipush K dX7_axle_12 kb_40 ?_
    refine g_callSi K c_X7_in mw_X7_in ml_X7_46 dX7_axle_14 (by rfl) rfl (by simp [Value.category]) ⟨by decide, by decide⟩ ⟨by decide, by decide⟩ ?_
    refine g_if_eq (tgt := 31) K dX7_axle_17 (by decide) (fun u17 => ?_) (fun u17 => ?_)
    · refine g_bipush K dX7_axle_31 kb_m2 ?_
      refine g_iret K dX7_axle_33 ⟨_, rfl, ?_⟩
      exact mp_err (by unfold o_axle; grind) hA
    · refine g_iload_n K dX7_axle_20 rfl ?_
      refine g_iconst K dX7_axle_21 kc_1 ?_
      refine g_sipush K dX7_axle_22 kp_200 ?_
      refine g_callSi K c_X7_in mw_X7_in ml_X7_46 dX7_axle_25 (by rfl) rfl (by simp [Value.category]) ⟨by decide, by decide⟩ ⟨by decide, by decide⟩ ?_
      refine g_if_ne (tgt := 34) K dX7_axle_28 (by decide) (fun u28 => ?_) (fun u28 => ?_)
      · refine g_aload_n K dX7_axle_34 rfl ?_
        refine g_iload_n K dX7_axle_35 rfl ?_
        refine g_iconst K dX7_axle_36 kc_0 ?_
        refine g_callVi K (c_X7_of (k := i) (w := 0) hz (by omega) (by omega)) mw_X7_of ml_X7_54 dX7_axle_37 (by rfl) rfl rfl (by decide) (by simp [Value.category]) ⟨by decide, by decide⟩ ⟨by decide, by decide⟩ ?_
        rw [hq0]
        refine g_iconst K dX7_axle_40 kc_5 ?_
        refine g_icmp_ne (tgt := 47) K dX7_axle_41 (by decide) (fun u41 => ?_) (fun u41 => ?_)
        · have hN5 : N < 5 := by rw [nI5 (by omega)] at u41; omega
          refine g_aload_n K dX7_axle_47 rfl ?_
          refine g_callVpv K (c_X7_record hA) mw_X7_record ml_X7_70 dX7_axle_48 (by rfl) rfl rfl (by decide) (by simp [Value.category]) ⟨by decide, by decide⟩ ⟨by decide, by decide⟩ (fun S48 h48 => ?_)
          refine g_aload_n K dX7_axle_51 rfl ?_
          refine g_iload_n K dX7_axle_52 rfl ?_
          refine g_iload_n K dX7_axle_53 rfl ?_
          refine g_iload_n K dX7_axle_54 rfl ?_
          refine g_callVpv K (c_X7_newAxle (z := aZ A) (k := i) h48.1.1 hi6 hq0 hN5) mw_X7_newAxle ml_X7_81 dX7_axle_55 (by rfl) rfl rfl (by decide) (by simp [Value.category]) ⟨by decide, by decide⟩ ⟨by decide, by decide⟩ (fun S55 h55 => ?_)
          refine g_aload_n K dX7_axle_58 rfl ?_
          refine g_iload_n K dX7_axle_59 rfl ?_
          refine g_iconst K dX7_axle_60 kc_0 ?_
          refine g_callVi K (c_X7_of (k := i) (w := 0) h55.1 (by omega) (by omega)) mw_X7_of ml_X7_54 dX7_axle_61 (by rfl) rfl rfl (by decide) (by simp [Value.category]) ⟨by decide, by decide⟩ ⟨by decide, by decide⟩ ?_
          refine g_iret K dX7_axle_64 ⟨_, rfl, ?_⟩
          have hd : 2 ≤ y ∧ y ≤ 40 := by grind
          have hw : 1 ≤ w ∧ w ≤ 200 := by grind
          refine mp_ok ?_ (MRel_row h48.1 h55.1 h55.2) (fun k hk => by rw [h55.2 k (by omega), h48.2 k (by omega) (by omega)])
          unfold o_axle
          rw [if_pos hcx, if_pos ⟨hd, hw⟩, hqA, hq0, if_neg (by rw [nI5 (by omega)]; omega), hnq, hki, naz_q hN5, if_pos rfl, nI_1]
        · have hN5 : N = 5 := (nI5 (by omega)).mp u41
          refine g_bipush K dX7_axle_44 kb_m3 ?_
          refine g_iret K dX7_axle_46 ⟨_, rfl, ?_⟩
          exact mp_err (by unfold o_axle; rw [hqA, hq0, hN5]; grind [nI5]) hA
      · refine g_bipush K dX7_axle_31 kb_m2 ?_
        refine g_iret K dX7_axle_33 ⟨_, rfl, ?_⟩
        exact mp_err (by unfold o_axle; grind) hA
  · have hcx : ¬ (0 ≤ x ∧ x < aZ A 6) := by rw [hn]; grind
    refine g_iconst K dX7_axle_8 kc_m1 ?_
    refine g_iret K dX7_axle_9 ⟨_, rfl, ?_⟩
    exact mp_err (by unfold o_axle; rw [if_neg hcx]) hA
