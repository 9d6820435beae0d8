theorem sp_ne {s : Int32} (h : 1 ≤ s ∧ s ≤ 9) : ¬ s = 0 := by
  intro q
  rw [q] at h
  exact absurd h.1 (by decide)
theorem sp_pos {s : Int32} (h : 1 ≤ s ∧ s ≤ 9) : 0 < s := by grind
/-- what the model has told so far -/
def LV (S : ST) (L : Nat → Int32) : Prop := S 181 15 = L 0 ∧ S 181 16 = L 2 ∧ S 181 17 = L 3 ∧ S 181 18 = L 4 ∧ S 181 19 = L 5
set_option maxHeartbeats 4000000 in
set_option maxRecDepth 100000 in
theorem c_X7_readingMany {l : Launch} {b : Nat} {D : va_G} {cA : Nat → ClassId} {ad : Nat → Nat} {S : ST}  : MT l b D cA NN ad zT yX7_readingMany cX7_readingMany 1 (some .int) 0 [.ref (ad 181)] S (EI (if 120 < S 181 14 then 120 else S 181 14) S) := by
  refine MT.intro (j := 0) (ls := [some (.ref (ad 181))]) pn_X7 rfl rfl rfl (fun pr en s0 mi below meth c' K _ => ?_)
  refine g_aload_n K dX7_readingMany_0 rfl ?_
  refine g_geti K lk_X7_118 dX7_readingMany_1 rfl (rfl : kd 181 = 7) (by decide) (by decide) rfl ?_
  refine g_bipush K dX7_readingMany_4 kb_120 ?_
  refine g_icmp_le (tgt := 14) K dX7_readingMany_6 (by decide) (fun u6 => ?_) (fun u6 => ?_)
  · refine g_aload_n K dX7_readingMany_14 rfl ?_
    refine g_geti K lk_X7_118 dX7_readingMany_15 rfl (rfl : kd 181 = 7) (by decide) (by decide) rfl ?_
    refine g_iret K dX7_readingMany_18 ⟨_, rfl, ?_⟩
    refine ⟨?_, rfl⟩
    grind
  · refine g_bipush K dX7_readingMany_9 kb_120 ?_
    refine g_goto (tgt := 18) K dX7_readingMany_11 (by decide) ?_
    refine g_iret K dX7_readingMany_18 ⟨_, rfl, ?_⟩
    refine ⟨?_, rfl⟩
    grind
set_option maxHeartbeats 4000000 in
set_option maxRecDepth 100000 in
theorem c_X7_loadAt {l : Launch} {b : Nat} {D : va_G} {cA : Nat → ClassId} {ad : Nat → Nat} {S : ST} {z : Nat → Int32} {k N : Nat} {br bh : Nat → Int32} {s t : Int32} (hz : MZ S z) (hk : k < 6) (hq : CartOk (qOf z k) N) (hse : SetOk z) (hbr : ∀ a, a < N → S 186 a = br a) (hbh : ∀ a, a < N → S 187 a = bh a) : MT l b D cA NN ad zT yX7_loadAt cX7_loadAt 6 (some .int) 2 [.ref (ad 181), .int (nI k), .int s, .int t] S (EI (ldF z bh br s N t) S) := by
  have h5 := hq.2.2.1
  have hq0 := hq.1
  refine MT.intro (j := 2) (ls := [some (.ref (ad 181)), some (.int (nI k)), some (.int s), some (.int t), none, none]) pn_X7 rfl rfl rfl (fun pr en s0 mi below meth c' K _ => ?_)
  have lp : ∀ (fuel : Nat) (i : Nat) (y : Int32), (N + 1 ≤ i + fuel) → (i ≤ N) → (y = ldF z bh br s i t) → G pr l en (rmd 2) s0 mi (List.toArray [.ref (ad 181), .int (nI k), .int s, .int t]) below meth c' (MQ below (QQ b D cA NN ad zT (EI (ldF z bh br s N t) S)) (List.toArray [.ref (ad 181), .int (nI k), .int s, .int t]) s0 0 0 (aF b)) b D cA 6 NN ad zT 0 0 6 [some (.ref (ad 181)), some (.int (nI k)), some (.int s), some (.int t), some (.int y), some (.int (nI i))] [] S := by
    intro fuel
    induction fuel with
    | zero =>
      intro i  y  hi hi2 hy
      omega
    | succ fuel ih =>
      intro i  y  hi hi2 hy
      refine g_iload K dX7_loadAt_6 rfl ?_
      refine g_aload_n K dX7_loadAt_8 rfl ?_
      refine g_iload_n K dX7_loadAt_9 rfl ?_
      refine g_iconst K dX7_loadAt_10 kc_0 ?_
      refine g_callVi K (c_X7_of (k := k) (w := 0) hz hk (by decide)) mw_X7_of ml_X7_54 dX7_loadAt_11 (by rfl) rfl rfl (by decide) (by simp [Value.category]) ⟨by decide, by decide⟩ ⟨by decide, by decide⟩ ?_
      refine g_icmp_ge (tgt := 57) K dX7_loadAt_14 (by decide) (fun u14 => ?_) (fun u14 => ?_)
      · have hiN : i = N := by
          rw [hq0, nI_leI (by omega) (by omega)] at u14
          omega
        refine g_iload K dX7_loadAt_57 rfl ?_
        refine g_iret K dX7_loadAt_59 ⟨_, rfl, ?_⟩
        rw [← hiN]
        exact ⟨hy, rfl⟩
      · have hiN : i < N := by
          rw [hq0, nI_leI (by omega) (by omega)] at u14
          omega
        refine g_iload K dX7_loadAt_17 rfl ?_
        refine g_aload_n K dX7_loadAt_19 rfl ?_
        refine g_iload_n K dX7_loadAt_20 rfl ?_
        refine g_iload_n K dX7_loadAt_21 rfl ?_
        refine g_imul K dX7_loadAt_22 ?_
        refine g_aload_n K dX7_loadAt_23 rfl ?_
        refine g_getr (j := 187) K lk_X7_25 dX7_loadAt_24 rfl (by decide) (rfl : kd 181 = 7) (by decide) (by decide) rfl (rfl : rs 181 8 = 187) ?_
        refine g_iload K dX7_loadAt_27 rfl ?_
        refine g_iald (j := i) K dX7_loadAt_29 rfl ln_187 (by omega) (rfl : kd 187 = 8) (by decide) (hbh i hiN) ?_
        refine g_isub K dX7_loadAt_30 ?_
        refine g_callVi K (c_X7_isOn hz hse) mw_X7_isOn ml_X7_98 dX7_loadAt_31 (by rfl) rfl rfl (by decide) (by simp [Value.category]) ⟨by decide, by decide⟩ ⟨by decide, by decide⟩ ?_
        refine g_if_eq (tgt := 47) K dX7_loadAt_34 (by decide) (fun u34 => ?_) (fun u34 => ?_)
        · refine g_iconst K dX7_loadAt_47 kc_0 ?_
          refine g_iadd K dX7_loadAt_48 ?_
          refine g_istore (ls2 := [_, _, _, _, some (.int _), _]) K dX7_loadAt_49 (by decide) rfl ?_
          refine g_iinc (ls2 := [_, _, _, _, _, some (.int _)]) K dX7_loadAt_51 rfl kc_1 rfl ?_
          refine g_goto (tgt := 6) K dX7_loadAt_54 (by decide) ?_
          rw [nI_1]
          refine ih (i + 1) _ (by omega) (by omega) ?_
          rw [hy]
          unfold ldF
          simp only [sumF]
          grind
        · refine g_aload_n K dX7_loadAt_37 rfl ?_
          refine g_getr (j := 186) K lk_X7_22 dX7_loadAt_38 rfl (by decide) (rfl : kd 181 = 7) (by decide) (by decide) rfl (rfl : rs 181 7 = 186) ?_
          refine g_iload K dX7_loadAt_41 rfl ?_
          refine g_iald (j := i) K dX7_loadAt_43 rfl ln_186 (by omega) (rfl : kd 186 = 8) (by decide) (hbr i hiN) ?_
          refine g_goto (tgt := 48) K dX7_loadAt_44 (by decide) ?_
          refine g_iadd K dX7_loadAt_48 ?_
          refine g_istore (ls2 := [_, _, _, _, some (.int _), _]) K dX7_loadAt_49 (by decide) rfl ?_
          refine g_iinc (ls2 := [_, _, _, _, _, some (.int _)]) K dX7_loadAt_51 rfl kc_1 rfl ?_
          refine g_goto (tgt := 6) K dX7_loadAt_54 (by decide) ?_
          rw [nI_1]
          refine ih (i + 1) _ (by omega) (by omega) ?_
          rw [hy]
          unfold ldF
          simp only [sumF]
          grind
  refine g_iconst K dX7_loadAt_0 kc_0 ?_
  refine g_istore (ls2 := [_, _, _, _, some (.int _), _]) K dX7_loadAt_1 (by decide) rfl ?_
  refine g_iconst K dX7_loadAt_3 kc_0 ?_
  refine g_istore (ls2 := [_, _, _, _, _, some (.int _)]) K dX7_loadAt_4 (by decide) rfl ?_
  exact lp (N + 1) 0 0 (by omega) (by omega) rfl
set_option maxHeartbeats 4000000 in
set_option maxRecDepth 100000 in
theorem c_X7_isSettled {l : Launch} {b : Nat} {D : va_G} {cA : Nat → ClassId} {ad : Nat → Nat} {S : ST} {z : Nat → Int32} {t : Nat} (hz : MZ S z) (hse : SetOk z) (ht : t < 120) : MT l b D cA NN ad zT yX7_isSettled cX7_isSettled 5 (some .boolean) 0 [.ref (ad 181), .int (nI t)] S (EI (stF (S 190) (wN z) (z 4) t) S) := by
  obtain ⟨hw, hw1, hw9⟩ := wN_ok hse
  have hz3 : S 182 3 = nI (wN z) := (hz 3 (by decide)).trans hw
  refine MT.intro (j := 3) (ls := [some (.ref (ad 181)), some (.int (nI t)), none, none, none]) pn_X7 rfl rfl rfl (fun pr en s0 mi below meth c' K _ => ?_)
  have fin : ∀ (x y v : Int32), (¬ wN z ≤ t + 1 ∨ (wN z ≤ t + 1 ∧ x = mxF (S 190) (t + 1 - wN z) (S 190 t) (wN z - 1) ∧ y = mnF (S 190) (t + 1 - wN z) (S 190 t) (wN z - 1))) → G pr l en (rmd 0) s0 mi (List.toArray [.ref (ad 181), .int (nI t)]) below meth c' (MQ below (QQ b D cA NN ad zT (EI (stF (S 190) (wN z) (z 4) t) S)) (List.toArray [.ref (ad 181), .int (nI t)]) s0 0 0 (aF b)) b D cA 5 NN ad zT 0 0 89 [some (.ref (ad 181)), some (.int (nI t)), some (.int x), some (.int y), some (.int v)] [] S := by
    intro x y v  hd
    refine g_iload_n K dX7_isSettled_89 rfl ?_
    refine g_iconst K dX7_isSettled_90 kc_1 ?_
    refine g_iadd K dX7_isSettled_91 ?_
    rw [nI_1]
    refine g_aload_n K dX7_isSettled_92 rfl ?_
    refine g_getr (j := 182) K lk_X7_7 dX7_isSettled_93 rfl (by decide) (rfl : kd 181 = 7) (by decide) (by decide) rfl (rfl : rs 181 0 = 182) ?_
    refine g_iconst K dX7_isSettled_96 kc_3 ?_
    refine g_iald (j := 3) K dX7_isSettled_97 rfl ln_182 (by decide) (rfl : kd 182 = 8) (by decide) hz3 ?_
    refine g_icmp_lt (tgt := 117) K dX7_isSettled_98 (by decide) (fun u98 => ?_) (fun u98 => ?_)
    · have hwt : ¬ wN z ≤ t + 1 := by
        rw [nI_ltI (by omega) (by omega)] at u98
        omega
      refine g_iconst K dX7_isSettled_117 kc_0 ?_
      refine g_zret K dX7_isSettled_118 (by first | exact Or.inl rfl | exact Or.inr rfl | assumption) ⟨_, rfl, ?_⟩
      refine ⟨?_, rfl⟩
      unfold stF
      rcases hd with q | ⟨q1, q2, q3⟩
      · grind
      · grind
    · have hwt : wN z ≤ t + 1 := by
        rw [nI_ltI (by omega) (by omega)] at u98
        omega
      refine g_iload_n K dX7_isSettled_101 rfl ?_
      refine g_iload_n K dX7_isSettled_102 rfl ?_
      refine g_isub K dX7_isSettled_103 ?_
      refine g_aload_n K dX7_isSettled_104 rfl ?_
      refine g_getr (j := 182) K lk_X7_7 dX7_isSettled_105 rfl (by decide) (rfl : kd 181 = 7) (by decide) (by decide) rfl (rfl : rs 181 0 = 182) ?_
      refine g_iconst K dX7_isSettled_108 kc_4 ?_
      refine g_iald (j := 4) K dX7_isSettled_109 rfl ln_182 (by decide) (rfl : kd 182 = 8) (by decide) (hz 4 (by decide)) ?_
      refine g_icmp_gt (tgt := 117) K dX7_isSettled_110 (by decide) (fun u110 => ?_) (fun u110 => ?_)
      · refine g_iconst K dX7_isSettled_117 kc_0 ?_
        refine g_zret K dX7_isSettled_118 (by first | exact Or.inl rfl | exact Or.inr rfl | assumption) ⟨_, rfl, ?_⟩
        refine ⟨?_, rfl⟩
        unfold stF
        rcases hd with q | ⟨q1, q2, q3⟩
        · grind
        · grind
      · refine g_iconst K dX7_isSettled_113 kc_1 ?_
        refine g_goto (tgt := 118) K dX7_isSettled_114 (by decide) ?_
        refine g_zret K dX7_isSettled_118 (by first | exact Or.inl rfl | exact Or.inr rfl | assumption) ⟨_, rfl, ?_⟩
        refine ⟨?_, rfl⟩
        unfold stF
        rcases hd with q | ⟨q1, q2, q3⟩
        · grind
        · grind
  have lp : ∀ (fuel : Nat) (k : Nat) (x y v : Int32), (wN z ≤ k + fuel) → (k ≤ wN z - 1) → ((wN z ≤ t + 1 ∧ v = nI (t + 1 - wN z + k) ∧ x = mxF (S 190) (t + 1 - wN z) (S 190 t) k ∧ y = mnF (S 190) (t + 1 - wN z) (S 190 t) k) ∨ (¬ wN z ≤ t + 1 ∧ v < 0)) → G pr l en (rmd 0) s0 mi (List.toArray [.ref (ad 181), .int (nI t)]) below meth c' (MQ below (QQ b D cA NN ad zT (EI (stF (S 190) (wN z) (z 4) t) S)) (List.toArray [.ref (ad 181), .int (nI t)]) s0 0 0 (aF b)) b D cA 5 NN ad zT 0 0 26 [some (.ref (ad 181)), some (.int (nI t)), some (.int x), some (.int y), some (.int v)] [] S := by
    intro fuel
    induction fuel with
    | zero =>
      intro k  x y v  hk hk2 h
      omega
    | succ fuel ih =>
      intro k  x y v  hk hk2 h
      refine g_iload K dX7_isSettled_26 rfl ?_
      refine g_if_lt (tgt := 89) K dX7_isSettled_28 (by decide) (fun u28 => ?_) (fun u28 => ?_)
      · refine fin x y v (Or.inl fun q => ?_)
        rcases h with ⟨_, hv, _⟩ | ⟨hv, _⟩
        · rw [hv] at u28
          have g := nI_pos' (n := t + 1 - wN z + k) (by omega)
          grind
        · exact hv q
      · obtain ⟨hwt, hv, hx, hy⟩ := h.resolve_right (fun q => u28 q.2)
        refine g_iload K dX7_isSettled_31 rfl ?_
        refine g_iload_n K dX7_isSettled_33 rfl ?_
        refine g_icmp_ge (tgt := 89) K dX7_isSettled_34 (by decide) (fun u34 => ?_) (fun u34 => ?_)
        · have hkw : k = wN z - 1 := by
            rw [hv, nI_leI (by omega) (by omega)] at u34
            omega
          exact fin x y v (Or.inr ⟨hwt, by rw [hx, hkw], by rw [hy, hkw]⟩)
        · have hkw : k < wN z - 1 := by
            rw [hv, nI_leI (by omega) (by omega)] at u34
            omega
          refine g_aload_n K dX7_isSettled_37 rfl ?_
          refine g_getr (j := 190) K lk_X7_34 dX7_isSettled_38 rfl (by decide) (rfl : kd 181 = 7) (by decide) (by decide) rfl (rfl : rs 181 11 = 190) ?_
          refine g_iload K dX7_isSettled_41 rfl ?_
          refine g_iald (j := (t + 1 - wN z + k)) K dX7_isSettled_43 hv ln_190 (by omega) (rfl : kd 190 = 8) (by decide) rfl ?_
          refine g_iload_n K dX7_isSettled_44 rfl ?_
          refine g_icmp_le (tgt := 58) K dX7_isSettled_45 (by decide) (fun u45 => ?_) (fun u45 => ?_)
          · refine g_iload_n K dX7_isSettled_58 rfl ?_
            refine g_istore_n (ls2 := [_, _, some (.int _), _, _]) K dX7_isSettled_59 (by decide) rfl ?_
            refine g_aload_n K dX7_isSettled_60 rfl ?_
            refine g_getr (j := 190) K lk_X7_34 dX7_isSettled_61 rfl (by decide) (rfl : kd 181 = 7) (by decide) (by decide) rfl (rfl : rs 181 11 = 190) ?_
            refine g_iload K dX7_isSettled_64 rfl ?_
            refine g_iald (j := (t + 1 - wN z + k)) K dX7_isSettled_66 hv ln_190 (by omega) (rfl : kd 190 = 8) (by decide) rfl ?_
            refine g_iload_n K dX7_isSettled_67 rfl ?_
            refine g_icmp_ge (tgt := 81) K dX7_isSettled_68 (by decide) (fun u68 => ?_) (fun u68 => ?_)
            · refine g_iload_n K dX7_isSettled_81 rfl ?_
              refine g_istore_n (ls2 := [_, _, _, some (.int _), _]) K dX7_isSettled_82 (by decide) rfl ?_
              refine g_iinc (ls2 := [_, _, _, _, some (.int _)]) K dX7_isSettled_83 rfl kc_1 rfl ?_
              refine g_goto (tgt := 26) K dX7_isSettled_86 (by decide) ?_
              refine ih (k + 1) _ _ _ (by omega) (by omega) (Or.inl ⟨hwt, by rw [hv, nI_1]; rfl, ?_, ?_⟩)
              · simp only [mxF]
                rw [← hx]
                grind
              · simp only [mnF]
                rw [← hy]
                grind
            · refine g_aload_n K dX7_isSettled_71 rfl ?_
              refine g_getr (j := 190) K lk_X7_34 dX7_isSettled_72 rfl (by decide) (rfl : kd 181 = 7) (by decide) (by decide) rfl (rfl : rs 181 11 = 190) ?_
              refine g_iload K dX7_isSettled_75 rfl ?_
              refine g_iald (j := (t + 1 - wN z + k)) K dX7_isSettled_77 hv ln_190 (by omega) (rfl : kd 190 = 8) (by decide) rfl ?_
              refine g_goto (tgt := 82) K dX7_isSettled_78 (by decide) ?_
              refine g_istore_n (ls2 := [_, _, _, some (.int _), _]) K dX7_isSettled_82 (by decide) rfl ?_
              refine g_iinc (ls2 := [_, _, _, _, some (.int _)]) K dX7_isSettled_83 rfl kc_1 rfl ?_
              refine g_goto (tgt := 26) K dX7_isSettled_86 (by decide) ?_
              refine ih (k + 1) _ _ _ (by omega) (by omega) (Or.inl ⟨hwt, by rw [hv, nI_1]; rfl, ?_, ?_⟩)
              · simp only [mxF]
                rw [← hx]
                grind
              · simp only [mnF]
                rw [← hy]
                grind
          · refine g_aload_n K dX7_isSettled_48 rfl ?_
            refine g_getr (j := 190) K lk_X7_34 dX7_isSettled_49 rfl (by decide) (rfl : kd 181 = 7) (by decide) (by decide) rfl (rfl : rs 181 11 = 190) ?_
            refine g_iload K dX7_isSettled_52 rfl ?_
            refine g_iald (j := (t + 1 - wN z + k)) K dX7_isSettled_54 hv ln_190 (by omega) (rfl : kd 190 = 8) (by decide) rfl ?_
            refine g_goto (tgt := 59) K dX7_isSettled_55 (by decide) ?_
            refine g_istore_n (ls2 := [_, _, some (.int _), _, _]) K dX7_isSettled_59 (by decide) rfl ?_
            refine g_aload_n K dX7_isSettled_60 rfl ?_
            refine g_getr (j := 190) K lk_X7_34 dX7_isSettled_61 rfl (by decide) (rfl : kd 181 = 7) (by decide) (by decide) rfl (rfl : rs 181 11 = 190) ?_
            refine g_iload K dX7_isSettled_64 rfl ?_
            refine g_iald (j := (t + 1 - wN z + k)) K dX7_isSettled_66 hv ln_190 (by omega) (rfl : kd 190 = 8) (by decide) rfl ?_
            refine g_iload_n K dX7_isSettled_67 rfl ?_
            refine g_icmp_ge (tgt := 81) K dX7_isSettled_68 (by decide) (fun u68 => ?_) (fun u68 => ?_)
            · refine g_iload_n K dX7_isSettled_81 rfl ?_
              refine g_istore_n (ls2 := [_, _, _, some (.int _), _]) K dX7_isSettled_82 (by decide) rfl ?_
              refine g_iinc (ls2 := [_, _, _, _, some (.int _)]) K dX7_isSettled_83 rfl kc_1 rfl ?_
              refine g_goto (tgt := 26) K dX7_isSettled_86 (by decide) ?_
              refine ih (k + 1) _ _ _ (by omega) (by omega) (Or.inl ⟨hwt, by rw [hv, nI_1]; rfl, ?_, ?_⟩)
              · simp only [mxF]
                rw [← hx]
                grind
              · simp only [mnF]
                rw [← hy]
                grind
            · refine g_aload_n K dX7_isSettled_71 rfl ?_
              refine g_getr (j := 190) K lk_X7_34 dX7_isSettled_72 rfl (by decide) (rfl : kd 181 = 7) (by decide) (by decide) rfl (rfl : rs 181 11 = 190) ?_
              refine g_iload K dX7_isSettled_75 rfl ?_
              refine g_iald (j := (t + 1 - wN z + k)) K dX7_isSettled_77 hv ln_190 (by omega) (rfl : kd 190 = 8) (by decide) rfl ?_
              refine g_goto (tgt := 82) K dX7_isSettled_78 (by decide) ?_
              refine g_istore_n (ls2 := [_, _, _, some (.int _), _]) K dX7_isSettled_82 (by decide) rfl ?_
              refine g_iinc (ls2 := [_, _, _, _, some (.int _)]) K dX7_isSettled_83 rfl kc_1 rfl ?_
              refine g_goto (tgt := 26) K dX7_isSettled_86 (by decide) ?_
              refine ih (k + 1) _ _ _ (by omega) (by omega) (Or.inl ⟨hwt, by rw [hv, nI_1]; rfl, ?_, ?_⟩)
              · simp only [mxF]
                rw [← hx]
                grind
              · simp only [mnF]
                rw [← hy]
                grind
  refine g_aload_n K dX7_isSettled_0 rfl ?_
  refine g_getr (j := 190) K lk_X7_34 dX7_isSettled_1 rfl (by decide) (rfl : kd 181 = 7) (by decide) (by decide) rfl (rfl : rs 181 11 = 190) ?_
  refine g_iload_n K dX7_isSettled_4 rfl ?_
  refine g_iald (j := t) K dX7_isSettled_5 rfl ln_190 (by omega) (rfl : kd 190 = 8) (by decide) rfl ?_
  refine g_istore_n (ls2 := [_, _, some (.int _), _, _]) K dX7_isSettled_6 (by decide) rfl ?_
  refine g_aload_n K dX7_isSettled_7 rfl ?_
  refine g_getr (j := 190) K lk_X7_34 dX7_isSettled_8 rfl (by decide) (rfl : kd 181 = 7) (by decide) (by decide) rfl (rfl : rs 181 11 = 190) ?_
  refine g_iload_n K dX7_isSettled_11 rfl ?_
  refine g_iald (j := t) K dX7_isSettled_12 rfl ln_190 (by omega) (rfl : kd 190 = 8) (by decide) rfl ?_
  refine g_istore_n (ls2 := [_, _, _, some (.int _), _]) K dX7_isSettled_13 (by decide) rfl ?_
  refine g_iload_n K dX7_isSettled_14 rfl ?_
  refine g_aload_n K dX7_isSettled_15 rfl ?_
  refine g_getr (j := 182) K lk_X7_7 dX7_isSettled_16 rfl (by decide) (rfl : kd 181 = 7) (by decide) (by decide) rfl (rfl : rs 181 0 = 182) ?_
  refine g_iconst K dX7_isSettled_19 kc_3 ?_
  refine g_iald (j := 3) K dX7_isSettled_20 rfl ln_182 (by decide) (rfl : kd 182 = 8) (by decide) hz3 ?_
  refine g_isub K dX7_isSettled_21 ?_
  refine g_iconst K dX7_isSettled_22 kc_1 ?_
  refine g_iadd K dX7_isSettled_23 ?_
  refine g_istore (ls2 := [_, _, _, _, some (.int _)]) K dX7_isSettled_24 (by decide) rfl ?_
  refine lp (wN z) 0 _ _ _ (by omega) (by omega) ?_
  by_cases hwt : wN z ≤ t + 1
  · exact Or.inl ⟨hwt, pk_sub1 hwt, rfl, rfl⟩
  · refine Or.inr ⟨hwt, ?_⟩
    rw [show nI t - nI (wN z) + 1 = nI (t + 1) - nI (wN z) by rw [← nI_1 t]; grind]
    have := pk_sneg (a := t + 1) (b := wN z) (by omega) (by omega)
    grind
set_option maxHeartbeats 4000000 in
set_option maxRecDepth 100000 in
theorem c_X7_mean {l : Launch} {b : Nat} {D : va_G} {cA : Nat → ClassId} {ad : Nat → Nat} {S : ST} {z : Nat → Int32} {t : Nat} (hz : MZ S z) (hse : SetOk z) (ht : t < 120) (hwt : wN z ≤ t + 1) : MT l b D cA NN ad zT yX7_mean cX7_mean 4 (some .int) 0 [.ref (ad 181), .int (nI t)] S (EI (meF (S 190) (wN z) t) S) := by
  obtain ⟨hw, hw1, hw9⟩ := wN_ok hse
  have hz3 : S 182 3 = nI (wN z) := (hz 3 (by decide)).trans hw
  refine MT.intro (j := 2) (ls := [some (.ref (ad 181)), some (.int (nI t)), none, none]) pn_X7 rfl rfl rfl (fun pr en s0 mi below meth c' K _ => ?_)
  have lp : ∀ (fuel : Nat) (k : Nat), (wN z + 1 ≤ k + fuel) → (k ≤ wN z) → G pr l en (rmd 0) s0 mi (List.toArray [.ref (ad 181), .int (nI t)]) below meth c' (MQ below (QQ b D cA NN ad zT (EI (meF (S 190) (wN z) t) S)) (List.toArray [.ref (ad 181), .int (nI t)]) s0 0 0 (aF b)) b D cA 4 NN ad zT 0 0 13 [some (.ref (ad 181)), some (.int (nI t)), some (.int (suF (S 190) (t + 1 - wN z) k)), some (.int (nI (t + 1 - wN z + k)))] [] S := by
    intro fuel
    induction fuel with
    | zero =>
      intro k  hk hk2
      omega
    | succ fuel ih =>
      intro k  hk hk2
      refine g_iload_n K dX7_mean_13 rfl ?_
      refine g_iload_n K dX7_mean_14 rfl ?_
      refine g_icmp_gt (tgt := 33) K dX7_mean_15 (by decide) (fun u15 => ?_) (fun u15 => ?_)
      · have hkw : k = wN z := by
          rw [nI_ltI (by omega) (by omega)] at u15
          omega
        refine g_iload_n K dX7_mean_33 rfl ?_
        refine g_aload_n K dX7_mean_34 rfl ?_
        refine g_getr (j := 182) K lk_X7_7 dX7_mean_35 rfl (by decide) (rfl : kd 181 = 7) (by decide) (by decide) rfl (rfl : rs 181 0 = 182) ?_
        refine g_iconst K dX7_mean_38 kc_3 ?_
        refine g_iald (j := 3) K dX7_mean_39 rfl ln_182 (by decide) (rfl : kd 182 = 8) (by decide) hz3 ?_
        refine g_idiv K dX7_mean_40 (fun q => by have := (nI_eq (a := wN z) (b := 0) (by omega) (by decide)).mp q; omega) ?_
        refine g_iret K dX7_mean_41 ⟨_, rfl, ?_⟩
        refine ⟨?_, rfl⟩
        unfold meF
        rw [hkw]
      · have hkw : k < wN z := by
          rw [nI_ltI (by omega) (by omega)] at u15
          omega
        refine g_iload_n K dX7_mean_18 rfl ?_
        refine g_aload_n K dX7_mean_19 rfl ?_
        refine g_getr (j := 190) K lk_X7_34 dX7_mean_20 rfl (by decide) (rfl : kd 181 = 7) (by decide) (by decide) rfl (rfl : rs 181 11 = 190) ?_
        refine g_iload_n K dX7_mean_23 rfl ?_
        refine g_iald (j := (t + 1 - wN z + k)) K dX7_mean_24 rfl ln_190 (by omega) (rfl : kd 190 = 8) (by decide) rfl ?_
        refine g_iadd K dX7_mean_25 ?_
        refine g_istore_n (ls2 := [_, _, some (.int _), _]) K dX7_mean_26 (by decide) rfl ?_
        refine g_iinc (ls2 := [_, _, _, some (.int _)]) K dX7_mean_27 rfl kc_1 rfl ?_
        refine g_goto (tgt := 13) K dX7_mean_30 (by decide) ?_
        rw [nI_1]
        exact ih (k + 1) (by omega) (by omega)
  refine g_iconst K dX7_mean_0 kc_0 ?_
  refine g_istore_n (ls2 := [_, _, some (.int _), _]) K dX7_mean_1 (by decide) rfl ?_
  refine g_iload_n K dX7_mean_2 rfl ?_
  refine g_aload_n K dX7_mean_3 rfl ?_
  refine g_getr (j := 182) K lk_X7_7 dX7_mean_4 rfl (by decide) (rfl : kd 181 = 7) (by decide) (by decide) rfl (rfl : rs 181 0 = 182) ?_
  refine g_iconst K dX7_mean_7 kc_3 ?_
  refine g_iald (j := 3) K dX7_mean_8 rfl ln_182 (by decide) (rfl : kd 182 = 8) (by decide) hz3 ?_
  refine g_isub K dX7_mean_9 ?_
  refine g_iconst K dX7_mean_10 kc_1 ?_
  refine g_iadd K dX7_mean_11 ?_
  rw [pk_sub1 hwt]
  refine g_istore_n (ls2 := [_, _, _, some (.int _)]) K dX7_mean_12 (by decide) rfl ?_
  exact lp (wN z + 1) 0 (by omega) (by omega)
