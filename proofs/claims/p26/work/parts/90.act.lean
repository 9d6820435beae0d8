/-- what an act may do -/
def ActP (A : AS) (n B : Nat) (r : Int32) (S2 : ST) : Prop := (r < 0 ∧ -9 < r ∧ 1 ≤ n ∧ CRel S2 A n) ∨ (0 ≤ r ∧ ∃ (z : Nat → Int32) (n2 : Nat), 1 ≤ n2 ∧ EZ z (B + 1) ∧ CRel S2 (setZ (recA A) z) n2)
theorem n_same {z z' : Nat → Int32} {n n2 : Nat} (hs : StOk z n) (hs2 : StOk z' n2) (h : z' 6 = z 6) : n2 = n := by
  have a := hs.2.2.1
  have b := hs2.2.2.1
  exact (nI_eq (by omega) (by omega)).mp (hs2.2.1.symm.trans (h.trans hs.2.1))
theorem ac_run0 {A : AS} {n k v : Nat} (hs : StOk (aZ A) n) (hk : k < n) (h1 : 1 ≤ v) (h9 : v ≤ 9) (hr : rsQ (aZ A) (qOf (aZ A) k) (nI v) = 0) : o_run A (nI k) (nI v) = (twQ (aZ A) (qOf (aZ A) k) (nI v), setZ (recA A) (runZ3 (aZ A) k (nI v))) := by
  rw [ac_run hs hk h1 h9, if_pos hr]
  unfold twQ twF
  rw [if_pos hr]
theorem ac_run1 {A : AS} {n k v : Nat} (hs : StOk (aZ A) n) (hk : k < n) (h1 : 1 ≤ v) (h9 : v ≤ 9) (hr : ¬ rsQ (aZ A) (qOf (aZ A) k) (nI v) = 0) : o_run A (nI k) (nI v) = (-10 - rsQ (aZ A) (qOf (aZ A) k) (nI v), setZ (recA A) (runZ3 (aZ A) k (nI v))) := by
  rw [ac_run hs hk h1 h9, if_neg hr]
theorem ac_lift0 {A : AS} {n k N a : Nat} (hs : StOk (aZ A) n) (hk : k < n) (hq : CartOk (qOf (aZ A) k) N) (ha : a < N) (hl : lQ (qOf (aZ A) k) a = 1) : o_lift A (nI k) (nI a) 0 = (nI (dwN (qOf (aZ A) k) N + 1), setZ (recA A) (lay (aZ A) k (15 + a) 0)) := by
  have h := dw_lay (z := aZ A) (k := k) (u := 0) hq.2.2.1 ha
  rw [if_neg (by rw [hl]; decide), if_pos rfl, Nat.add_zero] at h
  rw [ac_lift hs hk hq ha (fun q => q.1 rfl) (by rw [hl]; decide), h]
theorem ac_lift1 {A : AS} {n k N a : Nat} (hs : StOk (aZ A) n) (hk : k < n) (hq : CartOk (qOf (aZ A) k) N) (ha : a < N) (hl : lQ (qOf (aZ A) k) a = 0) (hd : ¬ dwN (qOf (aZ A) k) N = 1) : o_lift A (nI k) (nI a) 1 = (nI (dwN (qOf (aZ A) k) N - 1), setZ (recA A) (lay (aZ A) k (15 + a) 1)) := by
  have h := dw_lay (z := aZ A) (k := k) (u := 1) hq.2.2.1 ha
  rw [if_pos hl, if_neg (by decide), Nat.add_zero] at h
  rw [ac_lift hs hk hq ha (fun q => hd q.2.2) (by rw [hl]; decide), show dwN (qOf (lay (aZ A) k (15 + a) 1) k) N = dwN (qOf (aZ A) k) N - 1 by omega]
theorem dm_1 {d : Nat} (h : 1 ≤ d) : nI d + (-1) = nI (d - 1) := by
  obtain ⟨e, rfl⟩ : ∃ e, d = e + 1 := ⟨d - 1, by omega⟩
  exact pk_m1 e
theorem st_in {i lo hi x : Nat} (h1 : lo ≤ x) (h2 : x ≤ hi) (hh : hi < 200) (e1 : leastS i = nI lo) (e2 : mostS i = nI hi) : leastS i ≤ nI x ∧ nI x ≤ mostS i := by
  rw [e1, e2]
  exact ⟨nI_le h1 (by omega), nI_le h2 (by omega)⟩
theorem le_S : ∀ i, i < 6 → (0 : Int32) ≤ leastS i := by decide
theorem rf_set_same2 {A : AS} {i : Nat} {w : Int32} (hz : SetOk (aZ A)) (hi : i < 6) (h : aZ A i = w) : o_set A (nI i) w = (-5, A) := by
  rw [← h]
  exact rf_set_same hz hi

theorem lf_cases {u l : Int32} {d : Nat} (hu : u = 0 ∨ u = 1) (hl : l = 0 ∨ l = 1) : (u = 0 ∧ l = 0) ∨ (u = 0 ∧ l = 1) ∨ (u = 1 ∧ l = 0 ∧ d = 1) ∨ (u = 1 ∧ l = 0 ∧ ¬ d = 1) ∨ (u = 1 ∧ l = 1) := by
  by_cases hd : d = 1
  · rcases hu with h | h <;> rcases hl with h2 | h2 <;> simp [h, h2, hd]
  · rcases hu with h | h <;> rcases hl with h2 | h2 <;> simp [h, h2, hd]
theorem tr_cases {x y : Int32} : (x = -5) ∨ (¬ x = -5 ∧ x = y) ∨ (¬ x = -5 ∧ ¬ x = y) := by
  by_cases h : x = -5
  · exact Or.inl h
  · by_cases h2 : x = y
    · exact Or.inr (Or.inl ⟨h, h2⟩)
    · exact Or.inr (Or.inr ⟨h, h2⟩)
set_option maxHeartbeats 40000000 in
set_option maxRecDepth 100000 in
theorem c_L_act0 {l : Launch} {b : Nat} {D : va_G} {cA : Nat → ClassId} {ad : Nat → Nat} {S : ST} {A : AS} {n B xn hw yn wt : Nat} (hC : CRel S A n) (hE : EA A B) (hB : B + 1 < 2 ^ 31) (hx : xn < 2 ^ 31) (ehw : xn % 16 = hw) (eyn : xn / 16 = yn) (ewt : 1 + yn / 36 % 200 = wt) : MT l b D cA NN ad zT yL_act cL_act 16 (some .int) 6 [.ref (ad 0), .int (nI xn)] S (RI (ActP A n B)) := by
  have hs := hC.st
  have n6 := hs.2.2.1
  have hy31 : yn < 2 ^ 31 := by omega
  have hw1 : 1 ≤ wt := by omega
  have hw2 : wt ≤ 200 := by omega
  refine MT.intro (j := 14) (ls := [some (.ref (ad 0)), some (.int (nI xn)), none, none, none, none, none, none, none, none, none, none, none, none, none, none]) pn_L rfl rfl rfl (fun pr en s0 mi below meth c' K _ => ?_)
  refine g_iload_n K dL_act_0 rfl ?_
  refine g_bipush K dL_act_1 kb_16 ?_
  refine g_irem K dL_act_3 (by first | assumption | decide) ?_
  refine g_nm (y := (nI hw)) ((pk_rem (d := 16) hx (by decide) (by decide)).trans (by rw [ehw])) ?_
  refine g_istore_n (ls2 := [_, _, some (.int _), _, _, _, _, _, _, _, _, _, _, _, _, _]) K dL_act_4 (by decide) rfl ?_
  refine g_iload_n K dL_act_5 rfl ?_
  refine g_bipush K dL_act_6 kb_16 ?_
  refine g_idiv K dL_act_8 (by first | assumption | decide) ?_
  refine g_nm (y := (nI yn)) ((pk_div (d := 16) hx (by decide) (by decide)).trans (by rw [eyn])) ?_
  refine g_istore_n (ls2 := [_, _, _, some (.int _), _, _, _, _, _, _, _, _, _, _, _, _]) K dL_act_9 (by decide) rfl ?_
  refine g_aload_n K dL_act_10 rfl ?_
  refine g_iconst K dL_act_11 kc_0 ?_
  refine g_rdV K (rd hC (c_X6_count hC) (cn_0 hs)) mw_X6_count ml_L_14 dL_act_12 (by rfl) rfl rfl (by decide) (by simp [Value.category]) ⟨by decide, by decide⟩ ⟨by decide, by decide⟩ ?_
  clear hC
  intro S12 hC
  refine g_istore (ls2 := [_, _, _, _, some (.int _), _, _, _, _, _, _, _, _, _, _, _]) K dL_act_15 (by decide) rfl ?_
  rcases Nat.eq_zero_or_pos n with hn0 | hn0
  · skip
    refine g_iload K dL_act_17 rfl ?_
    refine g_if_ne (tgt := 26) K dL_act_19 (by decide) (fun u19 => absurd u19 (fun h => h (by rw [hn0]; rfl))) (fun u19 => ?_)
    refine g_iconst K dL_act_22 kc_0 ?_
    refine g_goto (tgt := 30) K dL_act_23 (by decide) ?_
    refine g_istore (ls2 := [_, _, _, _, _, some (.int _), _, _, _, _, _, _, _, _, _, _]) K dL_act_30 (by decide) rfl ?_
    refine g_iconst K dL_act_32 kc_1 ?_
    refine g_iload_n K dL_act_33 rfl ?_
    refine g_bipush K dL_act_34 kb_36 ?_
    refine g_idiv K dL_act_36 (by first | assumption | decide) ?_
    refine g_nm (y := (nI (yn / 36))) (pk_div (d := 36) (by omega) (by decide) (by decide)) ?_
    refine g_sipush K dL_act_37 kp_200 ?_
    refine g_irem K dL_act_40 (by first | assumption | decide) ?_
    refine g_nm (y := (nI (yn / 36 % 200))) (pk_rem (d := 200) (by omega) (by decide) (by decide)) ?_
    refine g_iadd K dL_act_41 ?_
    refine g_nm (y := (nI wt)) ((nI_add 1 _).trans (by rw [ewt])) ?_
    refine g_istore (ls2 := [_, _, _, _, _, _, some (.int _), _, _, _, _, _, _, _, _, _]) K dL_act_42 (by decide) rfl ?_
    have k54 : ∀ (S1 : ST), (CRel S1 A n) → G pr l en (rmd 6) s0 mi (List.toArray [.ref (ad 0), .int (nI xn)]) below meth c' (MQ below (QQ b D cA NN ad zT (RI (ActP A n B))) (List.toArray [.ref (ad 0), .int (nI xn)]) s0 0 0 (aF b)) b D cA 16 NN ad zT 0 0 54 [some (.ref (ad 0)), some (.int (nI xn)), some (.int (nI hw)), some (.int (nI yn)), some (.int (nI n)), none, some (.int (nI wt)), none, none, none, none, none, none, none, none, none] [] S1 := by
      intro S1  hC
      rcases (show n = 6 ∨ n < 6 by omega) with hn | hn
      · have hz6 : aZ A 6 = 6 := by rw [hs.2.1, hn]; rfl
        refine g_aload_n K dL_act_54 rfl ?_
        refine g_iload K dL_act_55 rfl ?_
        refine g_rdV K (rq hC (c_X6_cart hC) (rf_cart6 hz6 (w_in hw1 hw2))) mw_X6_cart ml_L_45 dL_act_57 (by rfl) rfl rfl (by decide) (by simp [Value.category]) ⟨by decide, by decide⟩ ⟨by decide, by decide⟩ ?_
        clear hC
        intro S57 hC
        refine g_istore (ls2 := [_, _, _, _, _, _, _, some (.int _), _, _, _, _, _, _, _, _]) K dL_act_60 (by decide) rfl ?_
        refine g_iload K dL_act_62 rfl ?_
        refine g_iload K dL_act_64 rfl ?_
        refine g_bipush K dL_act_66 kb_6 ?_
        refine g_icmp_ne (tgt := 76) K dL_act_68 (by decide) (fun u68 => absurd u68 (fun h => h (by rw [hn]; rfl))) (fun u68 => ?_)
        refine g_bipush K dL_act_71 kb_m3 ?_
        refine g_goto (tgt := 78) K dL_act_73 (by decide) ?_
        refine g_icmp_ne (tgt := 139) K dL_act_78 (by decide) (fun u78 => absurd u78 (by decide)) (fun u78 => ?_)
        refine g_iload K dL_act_81 rfl ?_
        refine g_if_lt (tgt := 134) K dL_act_83 (by decide) (fun u83 => ?_) (fun u83 => absurd (by decide) u83)
        refine g_iload K dL_act_134 rfl ?_
        refine g_goto (tgt := 141) K dL_act_136 (by decide) ?_
        refine g_iret K dL_act_141 ⟨_, rfl, ?_⟩
        exact Or.inl ⟨by decide, by decide, by omega, hC⟩
      · skip
        refine g_aload_n K dL_act_54 rfl ?_
        refine g_iload K dL_act_55 rfl ?_
        refine g_rdV K (ra (c_X6_cart hC) (ac_cart hs hn hw1 hw2)) mw_X6_cart ml_L_45 dL_act_57 (by rfl) rfl rfl (by decide) (by simp [Value.category]) ⟨by decide, by decide⟩ ⟨by decide, by decide⟩ ?_
        intro S57 hC
        obtain ⟨n2, hC⟩ := hC
        have hs2 := hC.st
        have e2 : n + 1 = n2 := by
          have b6 := hs2.2.2.1
          exact (nI_eq (by omega) (by omega)).mp ((nc_6 (z := aZ A) (n := n) (w := nI wt)).symm.trans hs2.2.1)
        have hn2 : n < n2 := by omega
        refine g_istore (ls2 := [_, _, _, _, _, _, _, some (.int _), _, _, _, _, _, _, _, _]) K dL_act_60 (by decide) rfl ?_
        refine g_iload K dL_act_62 rfl ?_
        refine g_iload K dL_act_64 rfl ?_
        refine g_bipush K dL_act_66 kb_6 ?_
        refine g_icmp_ne (tgt := 76) K dL_act_68 (by decide) (fun u68 => ?_) (fun u68 => absurd u68 (fun h => by have := (nI6 (n := n) (by omega)).mp h; omega))
        refine g_iload K dL_act_76 rfl ?_
        refine g_icmp_ne (tgt := 139) K dL_act_78 (by decide) (fun u78 => absurd u78 (fun h => h rfl)) (fun u78 => ?_)
        refine g_iload K dL_act_81 rfl ?_
        refine g_if_lt (tgt := 134) K dL_act_83 (by decide) (fun u83 => absurd u83 (nI_pos (by omega))) (fun u83 => ?_)
        refine g_aload_n K dL_act_86 rfl ?_
        refine g_iload K dL_act_87 rfl ?_
        refine g_iconst K dL_act_89 kc_2 ?_
        refine g_rdV K (rd hC (c_X6_cartOf hC) (nc_2 hs2 hn2 rfl)) mw_X6_cartOf ml_L_20 dL_act_90 (by rfl) rfl rfl (by decide) (by simp [Value.category]) ⟨by decide, by decide⟩ ⟨by decide, by decide⟩ ?_
        clear hC
        intro S90 hC
        refine g_iload K dL_act_93 rfl ?_
        refine g_icmp_ne (tgt := 139) K dL_act_95 (by decide) (fun u95 => absurd u95 (fun h => h rfl)) (fun u95 => ?_)
        refine g_aload_n K dL_act_98 rfl ?_
        refine g_iload K dL_act_99 rfl ?_
        refine g_iconst K dL_act_101 kc_0 ?_
        refine g_rdV K (rd hC (c_X6_cartOf hC) (nc_0 hs2 hn2 rfl)) mw_X6_cartOf ml_L_20 dL_act_102 (by rfl) rfl rfl (by decide) (by simp [Value.category]) ⟨by decide, by decide⟩ ⟨by decide, by decide⟩ ?_
        clear hC
        intro S102 hC
        refine g_iconst K dL_act_105 kc_1 ?_
        refine g_icmp_ne (tgt := 139) K dL_act_106 (by decide) (fun u106 => absurd u106 (by decide)) (fun u106 => ?_)
        refine g_aload_n K dL_act_109 rfl ?_
        refine g_iload K dL_act_110 rfl ?_
        refine g_iconst K dL_act_112 kc_4 ?_
        refine g_rdV K (rd hC (c_X6_cartOf hC) (nc_4 hs2 hn2 rfl)) mw_X6_cartOf ml_L_20 dL_act_113 (by rfl) rfl rfl (by decide) (by simp [Value.category]) ⟨by decide, by decide⟩ ⟨by decide, by decide⟩ ?_
        clear hC
        intro S113 hC
        refine g_bipush K dL_act_116 kb_m5 ?_
        refine g_icmp_ne (tgt := 139) K dL_act_118 (by decide) (fun u118 => absurd u118 (by decide)) (fun u118 => ?_)
        refine g_aload_n K dL_act_121 rfl ?_
        refine g_iload K dL_act_122 rfl ?_
        refine g_bipush K dL_act_124 kb_7 ?_
        refine g_rdV K (rd hC (c_X6_cartOf hC) (nc_7 hs2 hn2 rfl)) mw_X6_cartOf ml_L_20 dL_act_126 (by rfl) rfl rfl (by decide) (by simp [Value.category]) ⟨by decide, by decide⟩ ⟨by decide, by decide⟩ ?_
        clear hC
        intro S126 hC
        refine g_bipush K dL_act_129 kb_m5 ?_
        refine g_icmp_ne (tgt := 139) K dL_act_131 (by decide) (fun u131 => absurd u131 (by decide)) (fun u131 => ?_)
        refine g_iload K dL_act_134 rfl ?_
        refine g_goto (tgt := 141) K dL_act_136 (by decide) ?_
        refine g_iret K dL_act_141 ⟨_, rfl, ?_⟩
        exact Or.inr ⟨nI_pos' (by omega), _, n2, by omega, (nc_EZ hs hE.1).more (by omega) hB, hC⟩
    refine g_iload_n K dL_act_44 rfl ?_
    refine g_iconst K dL_act_45 kc_3 ?_
    refine g_icmp_lt (tgt := 54) K dL_act_46 (by decide) (fun u46 => ?_) (fun u46 => ?_)
    · refine g_drop (ls2 := [_, _, _, _, _, none, _, _, _, _, _, _, _, _, _, _]) 5 rfl ?_
      exact k54 _ hC
    · refine g_iload K dL_act_49 rfl ?_
      refine g_if_ne (tgt := 142) K dL_act_51 (by decide) (fun u51 => absurd u51 (fun h => h (by rw [hn0]; rfl))) (fun u51 => ?_)
      refine g_drop (ls2 := [_, _, _, _, _, none, _, _, _, _, _, _, _, _, _, _]) 5 rfl ?_
      exact k54 _ hC
  · obtain ⟨k, ek⟩ : ∃ k, yn % n = k := ⟨_, rfl⟩
    have hk : k < n := by rw [← ek]; exact Nat.mod_lt _ hn0
    obtain ⟨N, hq⟩ := hs.2.2.2 k hk
    have h5 := hq.2.2.1
    have hN1 := hq.2.1
    obtain ⟨a, ea⟩ : ∃ a, yn / 6 % N = a := ⟨_, rfl⟩
    have ha : a < N := by rw [← ea]; exact Nat.mod_lt _ hN1
    have hax := hq.2.2.2.1 a ha
    have hdw := dw_le (qOf (aZ A) k) N
    have hdp := dw_pos hq
    refine g_iload K dL_act_17 rfl ?_
    refine g_if_ne (tgt := 26) K dL_act_19 (by decide) (fun u19 => ?_) (fun u19 => absurd u19 (nI_ne0 hn0 (by omega)))
    refine g_iload_n K dL_act_26 rfl ?_
    refine g_iload K dL_act_27 rfl ?_
    refine g_irem K dL_act_29 (nI_ne0 hn0 (by omega)) ?_
    refine g_nm (y := (nI k)) ((pk_rem (by omega) hn0 (by omega)).trans (by rw [ek])) ?_
    refine g_istore (ls2 := [_, _, _, _, _, some (.int _), _, _, _, _, _, _, _, _, _, _]) K dL_act_30 (by decide) rfl ?_
    refine g_iconst K dL_act_32 kc_1 ?_
    refine g_iload_n K dL_act_33 rfl ?_
    refine g_bipush K dL_act_34 kb_36 ?_
    refine g_idiv K dL_act_36 (by first | assumption | decide) ?_
    refine g_nm (y := (nI (yn / 36))) (pk_div (d := 36) (by omega) (by decide) (by decide)) ?_
    refine g_sipush K dL_act_37 kp_200 ?_
    refine g_irem K dL_act_40 (by first | assumption | decide) ?_
    refine g_nm (y := (nI (yn / 36 % 200))) (pk_rem (d := 200) (by omega) (by decide) (by decide)) ?_
    refine g_iadd K dL_act_41 ?_
    refine g_nm (y := (nI wt)) ((nI_add 1 _).trans (by rw [ewt])) ?_
    refine g_istore (ls2 := [_, _, _, _, _, _, some (.int _), _, _, _, _, _, _, _, _, _]) K dL_act_42 (by decide) rfl ?_
    have k54 : ∀ (S1 : ST), (CRel S1 A n) → G pr l en (rmd 6) s0 mi (List.toArray [.ref (ad 0), .int (nI xn)]) below meth c' (MQ below (QQ b D cA NN ad zT (RI (ActP A n B))) (List.toArray [.ref (ad 0), .int (nI xn)]) s0 0 0 (aF b)) b D cA 16 NN ad zT 0 0 54 [some (.ref (ad 0)), some (.int (nI xn)), some (.int (nI hw)), some (.int (nI yn)), some (.int (nI n)), none, some (.int (nI wt)), none, none, none, none, none, none, none, none, none] [] S1 := by
      intro S1  hC
      rcases (show n = 6 ∨ n < 6 by omega) with hn | hn
      · have hz6 : aZ A 6 = 6 := by rw [hs.2.1, hn]; rfl
        refine g_aload_n K dL_act_54 rfl ?_
        refine g_iload K dL_act_55 rfl ?_
        refine g_rdV K (rq hC (c_X6_cart hC) (rf_cart6 hz6 (w_in hw1 hw2))) mw_X6_cart ml_L_45 dL_act_57 (by rfl) rfl rfl (by decide) (by simp [Value.category]) ⟨by decide, by decide⟩ ⟨by decide, by decide⟩ ?_
        clear hC
        intro S57 hC
        refine g_istore (ls2 := [_, _, _, _, _, _, _, some (.int _), _, _, _, _, _, _, _, _]) K dL_act_60 (by decide) rfl ?_
        refine g_iload K dL_act_62 rfl ?_
        refine g_iload K dL_act_64 rfl ?_
        refine g_bipush K dL_act_66 kb_6 ?_
        refine g_icmp_ne (tgt := 76) K dL_act_68 (by decide) (fun u68 => absurd u68 (fun h => h (by rw [hn]; rfl))) (fun u68 => ?_)
        refine g_bipush K dL_act_71 kb_m3 ?_
        refine g_goto (tgt := 78) K dL_act_73 (by decide) ?_
        refine g_icmp_ne (tgt := 139) K dL_act_78 (by decide) (fun u78 => absurd u78 (by decide)) (fun u78 => ?_)
        refine g_iload K dL_act_81 rfl ?_
        refine g_if_lt (tgt := 134) K dL_act_83 (by decide) (fun u83 => ?_) (fun u83 => absurd (by decide) u83)
        refine g_iload K dL_act_134 rfl ?_
        refine g_goto (tgt := 141) K dL_act_136 (by decide) ?_
        refine g_iret K dL_act_141 ⟨_, rfl, ?_⟩
        exact Or.inl ⟨by decide, by decide, by omega, hC⟩
      · skip
        refine g_aload_n K dL_act_54 rfl ?_
        refine g_iload K dL_act_55 rfl ?_
        refine g_rdV K (ra (c_X6_cart hC) (ac_cart hs hn hw1 hw2)) mw_X6_cart ml_L_45 dL_act_57 (by rfl) rfl rfl (by decide) (by simp [Value.category]) ⟨by decide, by decide⟩ ⟨by decide, by decide⟩ ?_
        intro S57 hC
        obtain ⟨n2, hC⟩ := hC
        have hs2 := hC.st
        have e2 : n + 1 = n2 := by
          have b6 := hs2.2.2.1
          exact (nI_eq (by omega) (by omega)).mp ((nc_6 (z := aZ A) (n := n) (w := nI wt)).symm.trans hs2.2.1)
        have hn2 : n < n2 := by omega
        refine g_istore (ls2 := [_, _, _, _, _, _, _, some (.int _), _, _, _, _, _, _, _, _]) K dL_act_60 (by decide) rfl ?_
        refine g_iload K dL_act_62 rfl ?_
        refine g_iload K dL_act_64 rfl ?_
        refine g_bipush K dL_act_66 kb_6 ?_
        refine g_icmp_ne (tgt := 76) K dL_act_68 (by decide) (fun u68 => ?_) (fun u68 => absurd u68 (fun h => by have := (nI6 (n := n) (by omega)).mp h; omega))
        refine g_iload K dL_act_76 rfl ?_
        refine g_icmp_ne (tgt := 139) K dL_act_78 (by decide) (fun u78 => absurd u78 (fun h => h rfl)) (fun u78 => ?_)
        refine g_iload K dL_act_81 rfl ?_
        refine g_if_lt (tgt := 134) K dL_act_83 (by decide) (fun u83 => absurd u83 (nI_pos (by omega))) (fun u83 => ?_)
        refine g_aload_n K dL_act_86 rfl ?_
        refine g_iload K dL_act_87 rfl ?_
        refine g_iconst K dL_act_89 kc_2 ?_
        refine g_rdV K (rd hC (c_X6_cartOf hC) (nc_2 hs2 hn2 rfl)) mw_X6_cartOf ml_L_20 dL_act_90 (by rfl) rfl rfl (by decide) (by simp [Value.category]) ⟨by decide, by decide⟩ ⟨by decide, by decide⟩ ?_
        clear hC
        intro S90 hC
        refine g_iload K dL_act_93 rfl ?_
        refine g_icmp_ne (tgt := 139) K dL_act_95 (by decide) (fun u95 => absurd u95 (fun h => h rfl)) (fun u95 => ?_)
        refine g_aload_n K dL_act_98 rfl ?_
        refine g_iload K dL_act_99 rfl ?_
        refine g_iconst K dL_act_101 kc_0 ?_
        refine g_rdV K (rd hC (c_X6_cartOf hC) (nc_0 hs2 hn2 rfl)) mw_X6_cartOf ml_L_20 dL_act_102 (by rfl) rfl rfl (by decide) (by simp [Value.category]) ⟨by decide, by decide⟩ ⟨by decide, by decide⟩ ?_
        clear hC
        intro S102 hC
        refine g_iconst K dL_act_105 kc_1 ?_
        refine g_icmp_ne (tgt := 139) K dL_act_106 (by decide) (fun u106 => absurd u106 (by decide)) (fun u106 => ?_)
        refine g_aload_n K dL_act_109 rfl ?_
        refine g_iload K dL_act_110 rfl ?_
        refine g_iconst K dL_act_112 kc_4 ?_
        refine g_rdV K (rd hC (c_X6_cartOf hC) (nc_4 hs2 hn2 rfl)) mw_X6_cartOf ml_L_20 dL_act_113 (by rfl) rfl rfl (by decide) (by simp [Value.category]) ⟨by decide, by decide⟩ ⟨by decide, by decide⟩ ?_
        clear hC
        intro S113 hC
        refine g_bipush K dL_act_116 kb_m5 ?_
        refine g_icmp_ne (tgt := 139) K dL_act_118 (by decide) (fun u118 => absurd u118 (by decide)) (fun u118 => ?_)
        refine g_aload_n K dL_act_121 rfl ?_
        refine g_iload K dL_act_122 rfl ?_
        refine g_bipush K dL_act_124 kb_7 ?_
        refine g_rdV K (rd hC (c_X6_cartOf hC) (nc_7 hs2 hn2 rfl)) mw_X6_cartOf ml_L_20 dL_act_126 (by rfl) rfl rfl (by decide) (by simp [Value.category]) ⟨by decide, by decide⟩ ⟨by decide, by decide⟩ ?_
        clear hC
        intro S126 hC
        refine g_bipush K dL_act_129 kb_m5 ?_
        refine g_icmp_ne (tgt := 139) K dL_act_131 (by decide) (fun u131 => absurd u131 (by decide)) (fun u131 => ?_)
        refine g_iload K dL_act_134 rfl ?_
        refine g_goto (tgt := 141) K dL_act_136 (by decide) ?_
        refine g_iret K dL_act_141 ⟨_, rfl, ?_⟩
        exact Or.inr ⟨nI_pos' (by omega), _, n2, by omega, (nc_EZ hs hE.1).more (by omega) hB, hC⟩
    refine g_iload_n K dL_act_44 rfl ?_
    refine g_iconst K dL_act_45 kc_3 ?_
    refine g_icmp_lt (tgt := 54) K dL_act_46 (by decide) (fun u46 => ?_) (fun u46 => ?_)
    · refine g_drop (ls2 := [_, _, _, _, _, none, _, _, _, _, _, _, _, _, _, _]) 5 rfl ?_
      exact k54 _ hC
    · refine g_iload K dL_act_49 rfl ?_
      refine g_if_ne (tgt := 142) K dL_act_51 (by decide) (fun u51 => ?_) (fun u51 => absurd u51 (nI_ne0 hn0 (by omega)))
      refine g_aload_n K dL_act_142 rfl ?_
      refine g_iload K dL_act_143 rfl ?_
      refine g_iconst K dL_act_145 kc_0 ?_
      refine g_rdV K (rd hC (c_X6_cartOf hC) (xc_0 hs hk hq)) mw_X6_cartOf ml_L_20 dL_act_146 (by rfl) rfl rfl (by decide) (by simp [Value.category]) ⟨by decide, by decide⟩ ⟨by decide, by decide⟩ ?_
      clear hC
      intro S146 hC
      refine g_istore (ls2 := [_, _, _, _, _, _, _, some (.int _), _, _, _, _, _, _, _, _]) K dL_act_149 (by decide) rfl ?_
      refine g_iload_n K dL_act_151 rfl ?_
      refine g_bipush K dL_act_152 kb_6 ?_
      refine g_idiv K dL_act_154 (by first | assumption | decide) ?_
      refine g_nm (y := (nI (yn / 6))) (pk_div (d := 6) (by omega) (by decide) (by decide)) ?_
      refine g_iload K dL_act_155 rfl ?_
      refine g_irem K dL_act_157 (nI_ne0 hN1 (by omega)) ?_
      refine g_nm (y := (nI a)) ((pk_rem (by omega) hN1 (by omega)).trans (by rw [ea])) ?_
      refine g_istore (ls2 := [_, _, _, _, _, _, _, _, some (.int _), _, _, _, _, _, _, _]) K dL_act_158 (by decide) rfl ?_
      refine g_iload_n K dL_act_160 rfl ?_
      refine g_bipush K dL_act_161 kb_6 ?_
      refine g_icmp_ge (tgt := 273) K dL_act_163 (by decide) (fun u163 => ?_) (fun u163 => ?_)
      · refine g_iload_n K dL_act_273 rfl ?_
        refine g_bipush K dL_act_274 kb_6 ?_
        refine g_icmp_ne (tgt := 343) K dL_act_276 (by decide) (fun u276 => ?_) (fun u276 => ?_)
        · refine g_iload_n K dL_act_343 rfl ?_
          refine g_bipush K dL_act_344 kb_9 ?_
          refine g_icmp_ge (tgt := 501) K dL_act_346 (by decide) (fun u346 => ?_) (fun u346 => ?_)
          · refine g_iload_n K dL_act_501 rfl ?_
            refine g_bipush K dL_act_502 kb_12 ?_
            refine g_icmp_ge (tgt := 672) K dL_act_504 (by decide) (fun u504 => ?_) (fun u504 => ?_)
            · refine g_iload_n K dL_act_672 rfl ?_
              refine g_bipush K dL_act_673 kb_12 ?_
              refine g_icmp_ne (tgt := 785) K dL_act_675 (by decide) (fun u675 => ?_) (fun u675 => ?_)
              · have k880 : ∀ (i : Nat) (w : Int32) (S1 : ST), (CRel S1 A n) → (i < 6) → (leastS i ≤ w ∧ w ≤ mostS i) → G pr l en (rmd 6) s0 mi (List.toArray [.ref (ad 0), .int (nI xn)]) below meth c' (MQ below (QQ b D cA NN ad zT (RI (ActP A n B))) (List.toArray [.ref (ad 0), .int (nI xn)]) s0 0 0 (aF b)) b D cA 16 NN ad zT 0 0 880 [some (.ref (ad 0)), some (.int (nI xn)), some (.int (nI hw)), some (.int (nI yn)), some (.int (nI n)), some (.int (nI k)), some (.int (nI wt)), some (.int (nI N)), some (.int (nI a)), some (.int (nI i)), none, some (.int w), none, none, none, none] [] S1 := by
                  intro i  w  S1  hC hi hsw
                  rcases Classical.em (aZ A i = w) with hw | hw
                  · skip
                    refine g_aload_n K dL_act_880 rfl ?_
                    refine g_bipush K dL_act_881 kb_6 ?_
                    refine g_iload K dL_act_883 rfl ?_
                    refine g_iadd K dL_act_885 ?_
                    refine g_rdV K (rd hC (c_X6_count hC) ((congrArg (o_count A) (nI_add 6 i)).trans (cn_s A i hi))) mw_X6_count ml_L_14 dL_act_886 (by rfl) rfl rfl (by decide) (by simp [Value.category]) ⟨by decide, by decide⟩ ⟨by decide, by decide⟩ ?_
                    clear hC
                    intro S886 hC
                    refine g_istore (ls2 := [_, _, _, _, _, _, _, _, _, _, _, _, some (.int _), _, _, _]) K dL_act_889 (by decide) rfl ?_
                    refine g_aload_n K dL_act_891 rfl ?_
                    refine g_iload K dL_act_892 rfl ?_
                    refine g_iload K dL_act_894 rfl ?_
                    refine g_rdV K (rq hC (c_X6_set hC) (rf_set_same2 hs.1 hi hw)) mw_X6_set ml_L_64 dL_act_896 (by rfl) rfl rfl (by decide) (by simp [Value.category]) ⟨by decide, by decide⟩ ⟨by decide, by decide⟩ ?_
                    clear hC
                    intro S896 hC
                    refine g_istore (ls2 := [_, _, _, _, _, _, _, _, _, _, _, _, _, some (.int _), _, _]) K dL_act_899 (by decide) rfl ?_
                    refine g_iload K dL_act_901 rfl ?_
                    refine g_iload K dL_act_903 rfl ?_
                    refine g_iload K dL_act_905 rfl ?_
                    refine g_icmp_ne (tgt := 915) K dL_act_907 (by decide) (fun u907 => absurd u907 (fun h => h hw)) (fun u907 => ?_)
                    refine g_bipush K dL_act_910 kb_m5 ?_
                    refine g_goto (tgt := 917) K dL_act_912 (by decide) ?_
                    refine g_icmp_ne (tgt := 939) K dL_act_917 (by decide) (fun u917 => absurd u917 (by decide)) (fun u917 => ?_)
                    refine g_aload_n K dL_act_920 rfl ?_
                    refine g_bipush K dL_act_921 kb_6 ?_
                    refine g_iload K dL_act_923 rfl ?_
                    refine g_iadd K dL_act_925 ?_
                    refine g_rdV K (rd hC (c_X6_count hC) ((congrArg (o_count A) (nI_add 6 i)).trans (cn_s A i hi))) mw_X6_count ml_L_14 dL_act_926 (by rfl) rfl rfl (by decide) (by simp [Value.category]) ⟨by decide, by decide⟩ ⟨by decide, by decide⟩ ?_
                    clear hC
                    intro S926 hC
                    refine g_iload K dL_act_929 rfl ?_
                    refine g_icmp_ne (tgt := 939) K dL_act_931 (by decide) (fun u931 => absurd u931 (fun h => h hw)) (fun u931 => ?_)
                    refine g_iload K dL_act_934 rfl ?_
                    refine g_goto (tgt := 941) K dL_act_936 (by decide) ?_
                    refine g_iret K dL_act_941 ⟨_, rfl, ?_⟩
                    exact Or.inl ⟨by decide, by decide, by omega, hC⟩
                  · skip
                    refine g_aload_n K dL_act_880 rfl ?_
                    refine g_bipush K dL_act_881 kb_6 ?_
                    refine g_iload K dL_act_883 rfl ?_
                    refine g_iadd K dL_act_885 ?_
                    refine g_rdV K (rd hC (c_X6_count hC) ((congrArg (o_count A) (nI_add 6 i)).trans (cn_s A i hi))) mw_X6_count ml_L_14 dL_act_886 (by rfl) rfl rfl (by decide) (by simp [Value.category]) ⟨by decide, by decide⟩ ⟨by decide, by decide⟩ ?_
                    clear hC
                    intro S886 hC
                    refine g_istore (ls2 := [_, _, _, _, _, _, _, _, _, _, _, _, some (.int _), _, _, _]) K dL_act_889 (by decide) rfl ?_
                    refine g_aload_n K dL_act_891 rfl ?_
                    refine g_iload K dL_act_892 rfl ?_
                    refine g_iload K dL_act_894 rfl ?_
                    refine g_rdV K (ra (c_X6_set hC) (ac_set hi hsw hw)) mw_X6_set ml_L_64 dL_act_896 (by rfl) rfl rfl (by decide) (by simp [Value.category]) ⟨by decide, by decide⟩ ⟨by decide, by decide⟩ ?_
                    intro S896 hC
                    obtain ⟨n2, hC⟩ := hC
                    have hs2 := hC.st
                    have e2 : n2 = n := n_same hs hs2 (pk_un (by omega))
                    have hk2 : k < n2 := by omega
                    refine g_istore (ls2 := [_, _, _, _, _, _, _, _, _, _, _, _, _, some (.int _), _, _]) K dL_act_899 (by decide) rfl ?_
                    refine g_iload K dL_act_901 rfl ?_
                    refine g_iload K dL_act_903 rfl ?_
                    refine g_iload K dL_act_905 rfl ?_
                    refine g_icmp_ne (tgt := 915) K dL_act_907 (by decide) (fun u907 => ?_) (fun u907 => absurd u907 hw)
                    refine g_iload K dL_act_915 rfl ?_
                    refine g_icmp_ne (tgt := 939) K dL_act_917 (by decide) (fun u917 => absurd u917 (fun h => h rfl)) (fun u917 => ?_)
                    refine g_aload_n K dL_act_920 rfl ?_
                    refine g_bipush K dL_act_921 kb_6 ?_
                    refine g_iload K dL_act_923 rfl ?_
                    refine g_iadd K dL_act_925 ?_
                    refine g_rdV K (rd hC (c_X6_count hC) ((congrArg (o_count _) (nI_add 6 i)).trans ((cn_s _ i hi).trans pk_us))) mw_X6_count ml_L_14 dL_act_926 (by rfl) rfl rfl (by decide) (by simp [Value.category]) ⟨by decide, by decide⟩ ⟨by decide, by decide⟩ ?_
                    clear hC
                    intro S926 hC
                    refine g_iload K dL_act_929 rfl ?_
                    refine g_icmp_ne (tgt := 939) K dL_act_931 (by decide) (fun u931 => absurd u931 (fun h => h rfl)) (fun u931 => ?_)
                    refine g_iload K dL_act_934 rfl ?_
                    refine g_goto (tgt := 941) K dL_act_936 (by decide) ?_
                    refine g_iret K dL_act_941 ⟨_, rfl, ?_⟩
                    exact Or.inr ⟨by have h1 := le_S i hi; have h2 := (hs.1 i hi).1; grind, _, n2, by omega, (up_EZ hs hE.1 hi).more (by omega) hB, hC⟩
                rcases (show yn % 6 = 0 ∨ yn % 6 = 1 ∨ yn % 6 = 2 ∨ yn % 6 = 3 ∨ yn % 6 = 4 ∨ yn % 6 = 5 by omega) with h6 | h6 | h6 | h6 | h6 | h6
                · skip
                  refine g_iload_n K dL_act_785 rfl ?_
                  refine g_bipush K dL_act_786 kb_6 ?_
                  refine g_irem K dL_act_788 (by first | assumption | decide) ?_
                  refine g_nm (y := 0) ((pk_rem (d := 6) (by omega) (by decide) (by decide)).trans (by rw [h6]; rfl)) ?_
                  refine g_istore (ls2 := [_, _, _, _, _, _, _, _, _, some (.int _), _, _, _, _, _, _]) K dL_act_789 (by decide) rfl ?_
                  refine g_iload_n K dL_act_791 rfl ?_
                  refine g_bipush K dL_act_792 kb_6 ?_
                  refine g_idiv K dL_act_794 (by first | assumption | decide) ?_
                  refine g_nm (y := (nI (yn / 6))) (pk_div (d := 6) (by omega) (by decide) (by decide)) ?_
                  refine g_istore (ls2 := [_, _, _, _, _, _, _, _, _, _, some (.int _), _, _, _, _, _]) K dL_act_795 (by decide) rfl ?_
                  refine g_iload K dL_act_797 rfl ?_
                  refine g_if_ne (tgt := 813) K dL_act_799 (by decide) (fun u799 => absurd u799 (by decide)) (fun u799 => ?_)
                  refine g_bipush K dL_act_802 kb_10 ?_
                  refine g_iload K dL_act_804 rfl ?_
                  refine g_bipush K dL_act_806 kb_81 ?_
                  refine g_irem K dL_act_808 (by first | assumption | decide) ?_
                  refine g_nm (y := (nI (yn / 6 % 81))) (pk_rem (d := 81) (by omega) (by decide) (by decide)) ?_
                  refine g_iadd K dL_act_809 ?_
                  refine g_nm (y := (nI (10 + yn / 6 % 81))) (nI_add 10 _) ?_
                  refine g_goto (tgt := 878) K dL_act_810 (by decide) ?_
                  refine g_istore (ls2 := [_, _, _, _, _, _, _, _, _, _, _, some (.int _), _, _, _, _]) K dL_act_878 (by decide) rfl ?_
                  refine g_drop (ls2 := [_, _, _, _, _, _, _, _, _, _, none, _, _, _, _, _]) 10 rfl ?_
                  exact k880 0 _ _ hC (by decide) (st_in (lo := 10) (hi := 90) (by omega) (by omega) (by decide) (by decide) (by decide))
                · skip
                  refine g_iload_n K dL_act_785 rfl ?_
                  refine g_bipush K dL_act_786 kb_6 ?_
                  refine g_irem K dL_act_788 (by first | assumption | decide) ?_
                  refine g_nm (y := 1) ((pk_rem (d := 6) (by omega) (by decide) (by decide)).trans (by rw [h6]; rfl)) ?_
                  refine g_istore (ls2 := [_, _, _, _, _, _, _, _, _, some (.int _), _, _, _, _, _, _]) K dL_act_789 (by decide) rfl ?_
                  refine g_iload_n K dL_act_791 rfl ?_
                  refine g_bipush K dL_act_792 kb_6 ?_
                  refine g_idiv K dL_act_794 (by first | assumption | decide) ?_
                  refine g_nm (y := (nI (yn / 6))) (pk_div (d := 6) (by omega) (by decide) (by decide)) ?_
                  refine g_istore (ls2 := [_, _, _, _, _, _, _, _, _, _, some (.int _), _, _, _, _, _]) K dL_act_795 (by decide) rfl ?_
                  refine g_iload K dL_act_797 rfl ?_
                  refine g_if_ne (tgt := 813) K dL_act_799 (by decide) (fun u799 => ?_) (fun u799 => absurd u799 (by decide))
                  refine g_iload K dL_act_813 rfl ?_
                  refine g_iconst K dL_act_815 kc_1 ?_
                  refine g_icmp_ne (tgt := 827) K dL_act_816 (by decide) (fun u816 => absurd u816 (by decide)) (fun u816 => ?_)
                  refine g_iload K dL_act_819 rfl ?_
                  refine g_bipush K dL_act_821 kb_101 ?_
                  refine g_irem K dL_act_823 (by first | assumption | decide) ?_
                  refine g_nm (y := (nI (yn / 6 % 101))) (pk_rem (d := 101) (by omega) (by decide) (by decide)) ?_
                  refine g_goto (tgt := 878) K dL_act_824 (by decide) ?_
                  refine g_istore (ls2 := [_, _, _, _, _, _, _, _, _, _, _, some (.int _), _, _, _, _]) K dL_act_878 (by decide) rfl ?_
                  refine g_drop (ls2 := [_, _, _, _, _, _, _, _, _, _, none, _, _, _, _, _]) 10 rfl ?_
                  exact k880 1 _ _ hC (by decide) (st_in (lo := 0) (hi := 100) (by omega) (by omega) (by decide) (by decide) (by decide))
                · skip
                  refine g_iload_n K dL_act_785 rfl ?_
                  refine g_bipush K dL_act_786 kb_6 ?_
                  refine g_irem K dL_act_788 (by first | assumption | decide) ?_
                  refine g_nm (y := 2) ((pk_rem (d := 6) (by omega) (by decide) (by decide)).trans (by rw [h6]; rfl)) ?_
                  refine g_istore (ls2 := [_, _, _, _, _, _, _, _, _, some (.int _), _, _, _, _, _, _]) K dL_act_789 (by decide) rfl ?_
                  refine g_iload_n K dL_act_791 rfl ?_
                  refine g_bipush K dL_act_792 kb_6 ?_
                  refine g_idiv K dL_act_794 (by first | assumption | decide) ?_
                  refine g_nm (y := (nI (yn / 6))) (pk_div (d := 6) (by omega) (by decide) (by decide)) ?_
                  refine g_istore (ls2 := [_, _, _, _, _, _, _, _, _, _, some (.int _), _, _, _, _, _]) K dL_act_795 (by decide) rfl ?_
                  refine g_iload K dL_act_797 rfl ?_
                  refine g_if_ne (tgt := 813) K dL_act_799 (by decide) (fun u799 => ?_) (fun u799 => absurd u799 (by decide))
                  refine g_iload K dL_act_813 rfl ?_
                  refine g_iconst K dL_act_815 kc_1 ?_
                  refine g_icmp_ne (tgt := 827) K dL_act_816 (by decide) (fun u816 => ?_) (fun u816 => absurd u816 (by decide))
                  refine g_iload K dL_act_827 rfl ?_
                  refine g_iconst K dL_act_829 kc_2 ?_
                  refine g_icmp_ne (tgt := 841) K dL_act_830 (by decide) (fun u830 => absurd u830 (by decide)) (fun u830 => ?_)
                  refine g_iload K dL_act_833 rfl ?_
                  refine g_bipush K dL_act_835 kb_96 ?_
                  refine g_irem K dL_act_837 (by first | assumption | decide) ?_
                  refine g_nm (y := (nI (yn / 6 % 96))) (pk_rem (d := 96) (by omega) (by decide) (by decide)) ?_
                  refine g_goto (tgt := 878) K dL_act_838 (by decide) ?_
                  refine g_istore (ls2 := [_, _, _, _, _, _, _, _, _, _, _, some (.int _), _, _, _, _]) K dL_act_878 (by decide) rfl ?_
                  refine g_drop (ls2 := [_, _, _, _, _, _, _, _, _, _, none, _, _, _, _, _]) 10 rfl ?_
                  exact k880 2 _ _ hC (by decide) (st_in (lo := 0) (hi := 95) (by omega) (by omega) (by decide) (by decide) (by decide))
                · skip
                  refine g_iload_n K dL_act_785 rfl ?_
                  refine g_bipush K dL_act_786 kb_6 ?_
                  refine g_irem K dL_act_788 (by first | assumption | decide) ?_
                  refine g_nm (y := 3) ((pk_rem (d := 6) (by omega) (by decide) (by decide)).trans (by rw [h6]; rfl)) ?_
                  refine g_istore (ls2 := [_, _, _, _, _, _, _, _, _, some (.int _), _, _, _, _, _, _]) K dL_act_789 (by decide) rfl ?_
                  refine g_iload_n K dL_act_791 rfl ?_
                  refine g_bipush K dL_act_792 kb_6 ?_
                  refine g_idiv K dL_act_794 (by first | assumption | decide) ?_
                  refine g_nm (y := (nI (yn / 6))) (pk_div (d := 6) (by omega) (by decide) (by decide)) ?_
                  refine g_istore (ls2 := [_, _, _, _, _, _, _, _, _, _, some (.int _), _, _, _, _, _]) K dL_act_795 (by decide) rfl ?_
                  refine g_iload K dL_act_797 rfl ?_
                  refine g_if_ne (tgt := 813) K dL_act_799 (by decide) (fun u799 => ?_) (fun u799 => absurd u799 (by decide))
                  refine g_iload K dL_act_813 rfl ?_
                  refine g_iconst K dL_act_815 kc_1 ?_
                  refine g_icmp_ne (tgt := 827) K dL_act_816 (by decide) (fun u816 => ?_) (fun u816 => absurd u816 (by decide))
                  refine g_iload K dL_act_827 rfl ?_
                  refine g_iconst K dL_act_829 kc_2 ?_
                  refine g_icmp_ne (tgt := 841) K dL_act_830 (by decide) (fun u830 => ?_) (fun u830 => absurd u830 (by decide))
                  refine g_iload K dL_act_841 rfl ?_
                  refine g_iconst K dL_act_843 kc_3 ?_
                  refine g_icmp_ne (tgt := 857) K dL_act_844 (by decide) (fun u844 => absurd u844 (by decide)) (fun u844 => ?_)
                  refine g_iconst K dL_act_847 kc_1 ?_
                  refine g_iload K dL_act_848 rfl ?_
                  refine g_bipush K dL_act_850 kb_9 ?_
                  refine g_irem K dL_act_852 (by first | assumption | decide) ?_
                  refine g_nm (y := (nI (yn / 6 % 9))) (pk_rem (d := 9) (by omega) (by decide) (by decide)) ?_
                  refine g_iadd K dL_act_853 ?_
                  refine g_nm (y := (nI (1 + yn / 6 % 9))) (nI_add 1 _) ?_
                  refine g_goto (tgt := 878) K dL_act_854 (by decide) ?_
                  refine g_istore (ls2 := [_, _, _, _, _, _, _, _, _, _, _, some (.int _), _, _, _, _]) K dL_act_878 (by decide) rfl ?_
                  refine g_drop (ls2 := [_, _, _, _, _, _, _, _, _, _, none, _, _, _, _, _]) 10 rfl ?_
                  exact k880 3 _ _ hC (by decide) (st_in (lo := 1) (hi := 9) (by omega) (by omega) (by decide) (by decide) (by decide))
                · skip
                  refine g_iload_n K dL_act_785 rfl ?_
                  refine g_bipush K dL_act_786 kb_6 ?_
                  refine g_irem K dL_act_788 (by first | assumption | decide) ?_
                  refine g_nm (y := 4) ((pk_rem (d := 6) (by omega) (by decide) (by decide)).trans (by rw [h6]; rfl)) ?_
                  refine g_istore (ls2 := [_, _, _, _, _, _, _, _, _, some (.int _), _, _, _, _, _, _]) K dL_act_789 (by decide) rfl ?_
                  refine g_iload_n K dL_act_791 rfl ?_
                  refine g_bipush K dL_act_792 kb_6 ?_
                  refine g_idiv K dL_act_794 (by first | assumption | decide) ?_
                  refine g_nm (y := (nI (yn / 6))) (pk_div (d := 6) (by omega) (by decide) (by decide)) ?_
                  refine g_istore (ls2 := [_, _, _, _, _, _, _, _, _, _, some (.int _), _, _, _, _, _]) K dL_act_795 (by decide) rfl ?_
                  refine g_iload K dL_act_797 rfl ?_
                  refine g_if_ne (tgt := 813) K dL_act_799 (by decide) (fun u799 => ?_) (fun u799 => absurd u799 (by decide))
                  refine g_iload K dL_act_813 rfl ?_
                  refine g_iconst K dL_act_815 kc_1 ?_
                  refine g_icmp_ne (tgt := 827) K dL_act_816 (by decide) (fun u816 => ?_) (fun u816 => absurd u816 (by decide))
                  refine g_iload K dL_act_827 rfl ?_
                  refine g_iconst K dL_act_829 kc_2 ?_
                  refine g_icmp_ne (tgt := 841) K dL_act_830 (by decide) (fun u830 => ?_) (fun u830 => absurd u830 (by decide))
                  refine g_iload K dL_act_841 rfl ?_
                  refine g_iconst K dL_act_843 kc_3 ?_
                  refine g_icmp_ne (tgt := 857) K dL_act_844 (by decide) (fun u844 => ?_) (fun u844 => absurd u844 (by decide))
                  refine g_iload K dL_act_857 rfl ?_
                  refine g_iconst K dL_act_859 kc_4 ?_
                  refine g_icmp_ne (tgt := 871) K dL_act_860 (by decide) (fun u860 => absurd u860 (by decide)) (fun u860 => ?_)
                  refine g_iload K dL_act_863 rfl ?_
                  refine g_bipush K dL_act_865 kb_21 ?_
                  refine g_irem K dL_act_867 (by first | assumption | decide) ?_
                  refine g_nm (y := (nI (yn / 6 % 21))) (pk_rem (d := 21) (by omega) (by decide) (by decide)) ?_
                  refine g_goto (tgt := 878) K dL_act_868 (by decide) ?_
                  refine g_istore (ls2 := [_, _, _, _, _, _, _, _, _, _, _, some (.int _), _, _, _, _]) K dL_act_878 (by decide) rfl ?_
                  refine g_drop (ls2 := [_, _, _, _, _, _, _, _, _, _, none, _, _, _, _, _]) 10 rfl ?_
                  exact k880 4 _ _ hC (by decide) (st_in (lo := 0) (hi := 20) (by omega) (by omega) (by decide) (by decide) (by decide))
                · skip
                  refine g_iload_n K dL_act_785 rfl ?_
                  refine g_bipush K dL_act_786 kb_6 ?_
                  refine g_irem K dL_act_788 (by first | assumption | decide) ?_
                  refine g_nm (y := 5) ((pk_rem (d := 6) (by omega) (by decide) (by decide)).trans (by rw [h6]; rfl)) ?_
                  refine g_istore (ls2 := [_, _, _, _, _, _, _, _, _, some (.int _), _, _, _, _, _, _]) K dL_act_789 (by decide) rfl ?_
                  refine g_iload_n K dL_act_791 rfl ?_
                  refine g_bipush K dL_act_792 kb_6 ?_
                  refine g_idiv K dL_act_794 (by first | assumption | decide) ?_
                  refine g_nm (y := (nI (yn / 6))) (pk_div (d := 6) (by omega) (by decide) (by decide)) ?_
                  refine g_istore (ls2 := [_, _, _, _, _, _, _, _, _, _, some (.int _), _, _, _, _, _]) K dL_act_795 (by decide) rfl ?_
                  refine g_iload K dL_act_797 rfl ?_
                  refine g_if_ne (tgt := 813) K dL_act_799 (by decide) (fun u799 => ?_) (fun u799 => absurd u799 (by decide))
                  refine g_iload K dL_act_813 rfl ?_
                  refine g_iconst K dL_act_815 kc_1 ?_
                  refine g_icmp_ne (tgt := 827) K dL_act_816 (by decide) (fun u816 => ?_) (fun u816 => absurd u816 (by decide))
                  refine g_iload K dL_act_827 rfl ?_
                  refine g_iconst K dL_act_829 kc_2 ?_
                  refine g_icmp_ne (tgt := 841) K dL_act_830 (by decide) (fun u830 => ?_) (fun u830 => absurd u830 (by decide))
                  refine g_iload K dL_act_841 rfl ?_
                  refine g_iconst K dL_act_843 kc_3 ?_
                  refine g_icmp_ne (tgt := 857) K dL_act_844 (by decide) (fun u844 => ?_) (fun u844 => absurd u844 (by decide))
                  refine g_iload K dL_act_857 rfl ?_
                  refine g_iconst K dL_act_859 kc_4 ?_
                  refine g_icmp_ne (tgt := 871) K dL_act_860 (by decide) (fun u860 => ?_) (fun u860 => absurd u860 (by decide))
                  refine g_iconst K dL_act_871 kc_4 ?_
                  refine g_iload K dL_act_872 rfl ?_
                  refine g_bipush K dL_act_874 kb_37 ?_
                  refine g_irem K dL_act_876 (by first | assumption | decide) ?_
                  refine g_nm (y := (nI (yn / 6 % 37))) (pk_rem (d := 37) (by omega) (by decide) (by decide)) ?_
                  refine g_iadd K dL_act_877 ?_
                  refine g_nm (y := (nI (4 + yn / 6 % 37))) (nI_add 4 _) ?_
                  refine g_istore (ls2 := [_, _, _, _, _, _, _, _, _, _, _, some (.int _), _, _, _, _]) K dL_act_878 (by decide) rfl ?_
                  refine g_drop (ls2 := [_, _, _, _, _, _, _, _, _, _, none, _, _, _, _, _]) 10 rfl ?_
                  exact k880 5 _ _ hC (by decide) (st_in (lo := 4) (hi := 40) (by omega) (by omega) (by decide) (by decide) (by decide))
              · rcases (show (qOf (aZ A) k 2 = -5) ∨ (¬ qOf (aZ A) k 2 = -5 ∧ qOf (aZ A) k 2 = qOf (aZ A) k 1) ∨ (¬ qOf (aZ A) k 2 = -5 ∧ ¬ qOf (aZ A) k 2 = qOf (aZ A) k 1) from tr_cases) with h2 | ⟨h2, h3⟩ | ⟨h2, h3⟩
                · skip
                  refine g_aload_n K dL_act_678 rfl ?_
                  refine g_iload K dL_act_679 rfl ?_
                  refine g_iconst K dL_act_681 kc_5 ?_
                  refine g_rdV K (rd hC (c_X6_cartOf hC) (xc_5 hs hk)) mw_X6_cartOf ml_L_20 dL_act_682 (by rfl) rfl rfl (by decide) (by simp [Value.category]) ⟨by decide, by decide⟩ ⟨by decide, by decide⟩ ?_
                  clear hC
                  intro S682 hC
                  refine g_istore (ls2 := [_, _, _, _, _, _, _, _, _, some (.int _), _, _, _, _, _, _]) K dL_act_685 (by decide) rfl ?_
                  refine g_aload_n K dL_act_687 rfl ?_
                  refine g_iload K dL_act_688 rfl ?_
                  refine g_iconst K dL_act_690 kc_4 ?_
                  refine g_rdV K (rd hC (c_X6_cartOf hC) (xc_4 hs hk)) mw_X6_cartOf ml_L_20 dL_act_691 (by rfl) rfl rfl (by decide) (by simp [Value.category]) ⟨by decide, by decide⟩ ⟨by decide, by decide⟩ ?_
                  clear hC
                  intro S691 hC
                  refine g_istore (ls2 := [_, _, _, _, _, _, _, _, _, _, some (.int _), _, _, _, _, _]) K dL_act_694 (by decide) rfl ?_
                  refine g_aload_n K dL_act_696 rfl ?_
                  refine g_iload K dL_act_697 rfl ?_
                  refine g_rdV K (rq hC (c_X6_tare hC) (rf_tare_np hs hk h2)) mw_X6_tare ml_L_61 dL_act_699 (by rfl) rfl rfl (by decide) (by simp [Value.category]) ⟨by decide, by decide⟩ ⟨by decide, by decide⟩ ?_
                  clear hC
                  intro S699 hC
                  refine g_istore (ls2 := [_, _, _, _, _, _, _, _, _, _, _, some (.int _), _, _, _, _]) K dL_act_702 (by decide) rfl ?_
                  refine g_iload K dL_act_704 rfl ?_
                  refine g_bipush K dL_act_706 kb_m5 ?_
                  refine g_icmp_eq (tgt := 718) K dL_act_708 (by decide) (fun u708 => ?_) (fun u708 => absurd h2 u708)
                  refine g_iload K dL_act_718 rfl ?_
                  refine g_iload K dL_act_720 rfl ?_
                  refine g_bipush K dL_act_722 kb_m5 ?_
                  refine g_icmp_ne (tgt := 732) K dL_act_724 (by decide) (fun u724 => absurd u724 (fun h => h h2)) (fun u724 => ?_)
                  refine g_bipush K dL_act_727 kb_m4 ?_
                  refine g_goto (tgt := 734) K dL_act_729 (by decide) ?_
                  refine g_icmp_ne (tgt := 754) K dL_act_734 (by decide) (fun u734 => absurd u734 (by decide)) (fun u734 => ?_)
                  refine g_aload_n K dL_act_737 rfl ?_
                  refine g_iload K dL_act_738 rfl ?_
                  refine g_iconst K dL_act_740 kc_4 ?_
                  refine g_rdV K (rd hC (c_X6_cartOf hC) (xc_4 hs hk)) mw_X6_cartOf ml_L_20 dL_act_741 (by rfl) rfl rfl (by decide) (by simp [Value.category]) ⟨by decide, by decide⟩ ⟨by decide, by decide⟩ ?_
                  clear hC
                  intro S741 hC
                  refine g_iload K dL_act_744 rfl ?_
                  refine g_icmp_ne (tgt := 754) K dL_act_746 (by decide) (fun u746 => absurd u746 (fun h => h rfl)) (fun u746 => ?_)
                  refine g_iload K dL_act_749 rfl ?_
                  refine g_goto (tgt := 756) K dL_act_751 (by decide) ?_
                  refine g_iret K dL_act_756 ⟨_, rfl, ?_⟩
                  exact Or.inl ⟨by decide, by decide, by omega, hC⟩
                · skip
                  refine g_aload_n K dL_act_678 rfl ?_
                  refine g_iload K dL_act_679 rfl ?_
                  refine g_iconst K dL_act_681 kc_5 ?_
                  refine g_rdV K (rd hC (c_X6_cartOf hC) (xc_5 hs hk)) mw_X6_cartOf ml_L_20 dL_act_682 (by rfl) rfl rfl (by decide) (by simp [Value.category]) ⟨by decide, by decide⟩ ⟨by decide, by decide⟩ ?_
                  clear hC
                  intro S682 hC
                  refine g_istore (ls2 := [_, _, _, _, _, _, _, _, _, some (.int _), _, _, _, _, _, _]) K dL_act_685 (by decide) rfl ?_
                  refine g_aload_n K dL_act_687 rfl ?_
                  refine g_iload K dL_act_688 rfl ?_
                  refine g_iconst K dL_act_690 kc_4 ?_
                  refine g_rdV K (rd hC (c_X6_cartOf hC) (xc_4 hs hk)) mw_X6_cartOf ml_L_20 dL_act_691 (by rfl) rfl rfl (by decide) (by simp [Value.category]) ⟨by decide, by decide⟩ ⟨by decide, by decide⟩ ?_
                  clear hC
                  intro S691 hC
                  refine g_istore (ls2 := [_, _, _, _, _, _, _, _, _, _, some (.int _), _, _, _, _, _]) K dL_act_694 (by decide) rfl ?_
                  refine g_aload_n K dL_act_696 rfl ?_
                  refine g_iload K dL_act_697 rfl ?_
                  refine g_rdV K (rq hC (c_X6_tare hC) (rf_tare_same hs hk h2 h3)) mw_X6_tare ml_L_61 dL_act_699 (by rfl) rfl rfl (by decide) (by simp [Value.category]) ⟨by decide, by decide⟩ ⟨by decide, by decide⟩ ?_
                  clear hC
                  intro S699 hC
                  refine g_istore (ls2 := [_, _, _, _, _, _, _, _, _, _, _, some (.int _), _, _, _, _]) K dL_act_702 (by decide) rfl ?_
                  refine g_iload K dL_act_704 rfl ?_
                  refine g_bipush K dL_act_706 kb_m5 ?_
                  refine g_icmp_eq (tgt := 718) K dL_act_708 (by decide) (fun u708 => absurd u708 h2) (fun u708 => ?_)
                  refine g_iload K dL_act_711 rfl ?_
                  refine g_iload K dL_act_713 rfl ?_
                  refine g_icmp_ne (tgt := 757) K dL_act_715 (by decide) (fun u715 => absurd u715 (fun h => h h3)) (fun u715 => ?_)
                  refine g_iload K dL_act_718 rfl ?_
                  refine g_iload K dL_act_720 rfl ?_
                  refine g_bipush K dL_act_722 kb_m5 ?_
                  refine g_icmp_ne (tgt := 732) K dL_act_724 (by decide) (fun u724 => ?_) (fun u724 => absurd u724 h2)
                  refine g_bipush K dL_act_732 kb_m5 ?_
                  refine g_icmp_ne (tgt := 754) K dL_act_734 (by decide) (fun u734 => absurd u734 (by decide)) (fun u734 => ?_)
                  refine g_aload_n K dL_act_737 rfl ?_
                  refine g_iload K dL_act_738 rfl ?_
                  refine g_iconst K dL_act_740 kc_4 ?_
                  refine g_rdV K (rd hC (c_X6_cartOf hC) (xc_4 hs hk)) mw_X6_cartOf ml_L_20 dL_act_741 (by rfl) rfl rfl (by decide) (by simp [Value.category]) ⟨by decide, by decide⟩ ⟨by decide, by decide⟩ ?_
                  clear hC
                  intro S741 hC
                  refine g_iload K dL_act_744 rfl ?_
                  refine g_icmp_ne (tgt := 754) K dL_act_746 (by decide) (fun u746 => absurd u746 (fun h => h rfl)) (fun u746 => ?_)
                  refine g_iload K dL_act_749 rfl ?_
                  refine g_goto (tgt := 756) K dL_act_751 (by decide) ?_
                  refine g_iret K dL_act_756 ⟨_, rfl, ?_⟩
                  exact Or.inl ⟨by decide, by decide, by omega, hC⟩
                · skip
                  refine g_aload_n K dL_act_678 rfl ?_
                  refine g_iload K dL_act_679 rfl ?_
                  refine g_iconst K dL_act_681 kc_5 ?_
                  refine g_rdV K (rd hC (c_X6_cartOf hC) (xc_5 hs hk)) mw_X6_cartOf ml_L_20 dL_act_682 (by rfl) rfl rfl (by decide) (by simp [Value.category]) ⟨by decide, by decide⟩ ⟨by decide, by decide⟩ ?_
                  clear hC
                  intro S682 hC
                  refine g_istore (ls2 := [_, _, _, _, _, _, _, _, _, some (.int _), _, _, _, _, _, _]) K dL_act_685 (by decide) rfl ?_
                  refine g_aload_n K dL_act_687 rfl ?_
                  refine g_iload K dL_act_688 rfl ?_
                  refine g_iconst K dL_act_690 kc_4 ?_
                  refine g_rdV K (rd hC (c_X6_cartOf hC) (xc_4 hs hk)) mw_X6_cartOf ml_L_20 dL_act_691 (by rfl) rfl rfl (by decide) (by simp [Value.category]) ⟨by decide, by decide⟩ ⟨by decide, by decide⟩ ?_
                  clear hC
                  intro S691 hC
                  refine g_istore (ls2 := [_, _, _, _, _, _, _, _, _, _, some (.int _), _, _, _, _, _]) K dL_act_694 (by decide) rfl ?_
                  refine g_aload_n K dL_act_696 rfl ?_
                  refine g_iload K dL_act_697 rfl ?_
                  refine g_rdV K (ra (c_X6_tare hC) (ac_tare hs hk h2 h3)) mw_X6_tare ml_L_61 dL_act_699 (by rfl) rfl rfl (by decide) (by simp [Value.category]) ⟨by decide, by decide⟩ ⟨by decide, by decide⟩ ?_
                  intro S699 hC
                  obtain ⟨n2, hC⟩ := hC
                  have hs2 := hC.st
                  have e2 : n2 = n := n_same hs hs2 (lay_lo (by decide))
                  have hk2 : k < n2 := by omega
                  refine g_istore (ls2 := [_, _, _, _, _, _, _, _, _, _, _, some (.int _), _, _, _, _]) K dL_act_702 (by decide) rfl ?_
                  refine g_iload K dL_act_704 rfl ?_
                  refine g_bipush K dL_act_706 kb_m5 ?_
                  refine g_icmp_eq (tgt := 718) K dL_act_708 (by decide) (fun u708 => absurd u708 h2) (fun u708 => ?_)
                  refine g_iload K dL_act_711 rfl ?_
                  refine g_iload K dL_act_713 rfl ?_
                  refine g_icmp_ne (tgt := 757) K dL_act_715 (by decide) (fun u715 => ?_) (fun u715 => absurd u715 h3)
                  refine g_iload K dL_act_757 rfl ?_
                  refine g_iload K dL_act_759 rfl ?_
                  refine g_icmp_ne (tgt := 782) K dL_act_761 (by decide) (fun u761 => absurd u761 (fun h => h rfl)) (fun u761 => ?_)
                  refine g_aload_n K dL_act_764 rfl ?_
                  refine g_iload K dL_act_765 rfl ?_
                  refine g_iconst K dL_act_767 kc_4 ?_
                  refine g_rdV K (rd hC (c_X6_cartOf hC) ((xc_4 hs2 hk2).trans ((lay_q (by decide)).trans (if_pos rfl)))) mw_X6_cartOf ml_L_20 dL_act_768 (by rfl) rfl rfl (by decide) (by simp [Value.category]) ⟨by decide, by decide⟩ ⟨by decide, by decide⟩ ?_
                  clear hC
                  intro S768 hC
                  refine g_iload K dL_act_771 rfl ?_
                  refine g_icmp_ne (tgt := 782) K dL_act_773 (by decide) (fun u773 => absurd u773 (fun h => h rfl)) (fun u773 => ?_)
                  refine g_sipush K dL_act_776 kp_1000 ?_
                  refine g_goto (tgt := 784) K dL_act_779 (by decide) ?_
                  refine g_iret K dL_act_784 ⟨_, rfl, ?_⟩
                  exact Or.inr ⟨by decide, _, n2, by omega, (ly_EZ hs hE.1 hk hq (Or.inl rfl)).more (by omega) hB, hC⟩
            · obtain ⟨v, ev⟩ : ∃ v, 1 + yn / 6 % 9 = v := ⟨_, rfl⟩
              have hv1 : 1 ≤ v := by omega
              have hv9 : v ≤ 9 := by omega
              rcases Classical.em (rsQ (aZ A) (qOf (aZ A) k) (nI v) = 0) with hr | hr
              · skip
                refine g_iconst K dL_act_507 kc_1 ?_
                refine g_iload_n K dL_act_508 rfl ?_
                refine g_bipush K dL_act_509 kb_6 ?_
                refine g_idiv K dL_act_511 (by first | assumption | decide) ?_
                refine g_nm (y := (nI (yn / 6))) (pk_div (d := 6) (by omega) (by decide) (by decide)) ?_
                refine g_bipush K dL_act_512 kb_9 ?_
                refine g_irem K dL_act_514 (by first | assumption | decide) ?_
                refine g_nm (y := (nI (yn / 6 % 9))) (pk_rem (d := 9) (by omega) (by decide) (by decide)) ?_
                refine g_iadd K dL_act_515 ?_
                refine g_nm (y := (nI v)) ((nI_add 1 _).trans (by rw [ev])) ?_
                refine g_istore (ls2 := [_, _, _, _, _, _, _, _, _, some (.int _), _, _, _, _, _, _]) K dL_act_516 (by decide) rfl ?_
                refine g_aload_n K dL_act_518 rfl ?_
                refine g_iload K dL_act_519 rfl ?_
                refine g_iload K dL_act_521 rfl ?_
                refine g_iconst K dL_act_523 kc_0 ?_
                refine g_rdV K (rd hC (c_X6_runOf hC) ((ro_k hs hk hv1 hv9 0).trans (if_pos rfl))) mw_X6_runOf ml_L_30 dL_act_524 (by rfl) rfl rfl (by decide) (by simp [Value.category]) ⟨by decide, by decide⟩ ⟨by decide, by decide⟩ ?_
                clear hC
                intro S524 hC
                refine g_istore (ls2 := [_, _, _, _, _, _, _, _, _, _, some (.int _), _, _, _, _, _]) K dL_act_527 (by decide) rfl ?_
                refine g_aload_n K dL_act_529 rfl ?_
                refine g_iload K dL_act_530 rfl ?_
                refine g_iload K dL_act_532 rfl ?_
                refine g_iconst K dL_act_534 kc_1 ?_
                refine g_rdV K (rd hC (c_X6_runOf hC) ((ro_k hs hk hv1 hv9 1).trans ((if_neg (by decide)).trans ((if_pos rfl).trans hr)))) mw_X6_runOf ml_L_30 dL_act_535 (by rfl) rfl rfl (by decide) (by simp [Value.category]) ⟨by decide, by decide⟩ ⟨by decide, by decide⟩ ?_
                clear hC
                intro S535 hC
                refine g_istore (ls2 := [_, _, _, _, _, _, _, _, _, _, _, some (.int _), _, _, _, _]) K dL_act_538 (by decide) rfl ?_
                refine g_aload_n K dL_act_540 rfl ?_
                refine g_iconst K dL_act_541 kc_1 ?_
                refine g_rdV K (rd hC (c_X6_count hC) (cn_1 A)) mw_X6_count ml_L_14 dL_act_542 (by rfl) rfl rfl (by decide) (by simp [Value.category]) ⟨by decide, by decide⟩ ⟨by decide, by decide⟩ ?_
                clear hC
                intro S542 hC
                refine g_istore (ls2 := [_, _, _, _, _, _, _, _, _, _, _, _, some (.int _), _, _, _]) K dL_act_545 (by decide) rfl ?_
                refine g_aload_n K dL_act_547 rfl ?_
                refine g_iconst K dL_act_548 kc_2 ?_
                refine g_rdV K (rd hC (c_X6_count hC) (cn_2 A)) mw_X6_count ml_L_14 dL_act_549 (by rfl) rfl rfl (by decide) (by simp [Value.category]) ⟨by decide, by decide⟩ ⟨by decide, by decide⟩ ?_
                clear hC
                intro S549 hC
                refine g_istore (ls2 := [_, _, _, _, _, _, _, _, _, _, _, _, _, some (.int _), _, _]) K dL_act_552 (by decide) rfl ?_
                refine g_aload_n K dL_act_554 rfl ?_
                refine g_iload K dL_act_555 rfl ?_
                refine g_iconst K dL_act_557 kc_4 ?_
                refine g_rdV K (rd hC (c_X6_cartOf hC) (xc_4 hs hk)) mw_X6_cartOf ml_L_20 dL_act_558 (by rfl) rfl rfl (by decide) (by simp [Value.category]) ⟨by decide, by decide⟩ ⟨by decide, by decide⟩ ?_
                clear hC
                intro S558 hC
                refine g_istore (ls2 := [_, _, _, _, _, _, _, _, _, _, _, _, _, _, some (.int _), _]) K dL_act_561 (by decide) rfl ?_
                refine g_aload_n K dL_act_563 rfl ?_
                refine g_iload K dL_act_564 rfl ?_
                refine g_iload K dL_act_566 rfl ?_
                refine g_rdV K (ra (c_X6_run hC) (ac_run0 hs hk hv1 hv9 hr)) mw_X6_run ml_L_58 dL_act_568 (by rfl) rfl rfl (by decide) (by simp [Value.category]) ⟨by decide, by decide⟩ ⟨by decide, by decide⟩ ?_
                intro S568 hC
                obtain ⟨n2, hC⟩ := hC
                have hs2 := hC.st
                have e2 : n2 = n := n_same hs hs2 (rz_o (by decide) (by decide) (Or.inl (by omega)))
                have hk2 : k < n2 := by omega
                refine g_istore (ls2 := [_, _, _, _, _, _, _, _, _, _, _, _, _, _, _, some (.int _)]) K dL_act_571 (by decide) rfl ?_
                refine g_iload K dL_act_573 rfl ?_
                refine g_iload K dL_act_575 rfl ?_
                refine g_if_ne (tgt := 585) K dL_act_577 (by decide) (fun u577 => absurd u577 (by decide)) (fun u577 => ?_)
                refine g_iload K dL_act_580 rfl ?_
                refine g_goto (tgt := 590) K dL_act_582 (by decide) ?_
                refine g_icmp_ne (tgt := 669) K dL_act_590 (by decide) (fun u590 => absurd u590 (fun h => h rfl)) (fun u590 => ?_)
                refine g_aload_n K dL_act_593 rfl ?_
                refine g_iconst K dL_act_594 kc_1 ?_
                refine g_rdV K (rd hC (c_X6_count hC) ((cn_1 _).trans rz_7)) mw_X6_count ml_L_14 dL_act_595 (by rfl) rfl rfl (by decide) (by simp [Value.category]) ⟨by decide, by decide⟩ ⟨by decide, by decide⟩ ?_
                clear hC
                intro S595 hC
                refine g_iload K dL_act_598 rfl ?_
                refine g_iconst K dL_act_600 kc_1 ?_
                refine g_iadd K dL_act_601 ?_
                refine g_icmp_ne (tgt := 669) K dL_act_602 (by decide) (fun u602 => absurd u602 (fun h => h rfl)) (fun u602 => ?_)
                refine g_aload_n K dL_act_605 rfl ?_
                refine g_iconst K dL_act_606 kc_2 ?_
                refine g_rdV K (rd hC (c_X6_count hC) ((cn_2 _).trans (rz_8.trans (by rw [if_pos hr])))) mw_X6_count ml_L_14 dL_act_607 (by rfl) rfl rfl (by decide) (by simp [Value.category]) ⟨by decide, by decide⟩ ⟨by decide, by decide⟩ ?_
                clear hC
                intro S607 hC
                refine g_iload K dL_act_610 rfl ?_
                refine g_iload K dL_act_612 rfl ?_
                refine g_if_ne (tgt := 621) K dL_act_614 (by decide) (fun u614 => absurd u614 (by decide)) (fun u614 => ?_)
                refine g_iconst K dL_act_617 kc_1 ?_
                refine g_goto (tgt := 622) K dL_act_618 (by decide) ?_
                refine g_iadd K dL_act_622 ?_
                refine g_icmp_ne (tgt := 669) K dL_act_623 (by decide) (fun u623 => absurd u623 (fun h => h rfl)) (fun u623 => ?_)
                refine g_aload_n K dL_act_626 rfl ?_
                refine g_iload K dL_act_627 rfl ?_
                refine g_iconst K dL_act_629 kc_5 ?_
                refine g_rdV K (rd hC (c_X6_cartOf hC) ((xc_5 hs2 hk2).trans rz_q)) mw_X6_cartOf ml_L_20 dL_act_630 (by rfl) rfl rfl (by decide) (by simp [Value.category]) ⟨by decide, by decide⟩ ⟨by decide, by decide⟩ ?_
                clear hC
                intro S630 hC
                refine g_iload K dL_act_633 rfl ?_
                refine g_icmp_ne (tgt := 669) K dL_act_635 (by decide) (fun u635 => absurd u635 (fun h => h rfl)) (fun u635 => ?_)
                refine g_aload_n K dL_act_638 rfl ?_
                refine g_iload K dL_act_639 rfl ?_
                refine g_bipush K dL_act_641 kb_7 ?_
                refine g_rdV K (rd hC (c_X6_cartOf hC) ((xc_7 hs2 hk2).trans rz_q)) mw_X6_cartOf ml_L_20 dL_act_643 (by rfl) rfl rfl (by decide) (by simp [Value.category]) ⟨by decide, by decide⟩ ⟨by decide, by decide⟩ ?_
                clear hC
                intro S643 hC
                refine g_iload K dL_act_646 rfl ?_
                refine g_icmp_ne (tgt := 669) K dL_act_648 (by decide) (fun u648 => absurd u648 (fun h => h rfl)) (fun u648 => ?_)
                refine g_aload_n K dL_act_651 rfl ?_
                refine g_iload K dL_act_652 rfl ?_
                refine g_iconst K dL_act_654 kc_4 ?_
                refine g_rdV K (rd hC (c_X6_cartOf hC) ((xc_4 hs2 hk2).trans rz_q)) mw_X6_cartOf ml_L_20 dL_act_655 (by rfl) rfl rfl (by decide) (by simp [Value.category]) ⟨by decide, by decide⟩ ⟨by decide, by decide⟩ ?_
                clear hC
                intro S655 hC
                refine g_iload K dL_act_658 rfl ?_
                refine g_icmp_ne (tgt := 669) K dL_act_660 (by decide) (fun u660 => absurd u660 (fun h => h rfl)) (fun u660 => ?_)
                refine g_sipush K dL_act_663 kp_1000 ?_
                refine g_goto (tgt := 671) K dL_act_666 (by decide) ?_
                refine g_iret K dL_act_671 ⟨_, rfl, ?_⟩
                exact Or.inr ⟨by decide, _, n2, by omega, rz_EZ hs hE.1 hk hq hv1 hv9 hB, hC⟩
              · skip
                refine g_iconst K dL_act_507 kc_1 ?_
                refine g_iload_n K dL_act_508 rfl ?_
                refine g_bipush K dL_act_509 kb_6 ?_
                refine g_idiv K dL_act_511 (by first | assumption | decide) ?_
                refine g_nm (y := (nI (yn / 6))) (pk_div (d := 6) (by omega) (by decide) (by decide)) ?_
                refine g_bipush K dL_act_512 kb_9 ?_
                refine g_irem K dL_act_514 (by first | assumption | decide) ?_
                refine g_nm (y := (nI (yn / 6 % 9))) (pk_rem (d := 9) (by omega) (by decide) (by decide)) ?_
                refine g_iadd K dL_act_515 ?_
                refine g_nm (y := (nI v)) ((nI_add 1 _).trans (by rw [ev])) ?_
                refine g_istore (ls2 := [_, _, _, _, _, _, _, _, _, some (.int _), _, _, _, _, _, _]) K dL_act_516 (by decide) rfl ?_
                refine g_aload_n K dL_act_518 rfl ?_
                refine g_iload K dL_act_519 rfl ?_
                refine g_iload K dL_act_521 rfl ?_
                refine g_iconst K dL_act_523 kc_0 ?_
                refine g_rdV K (rd hC (c_X6_runOf hC) ((ro_k hs hk hv1 hv9 0).trans (if_pos rfl))) mw_X6_runOf ml_L_30 dL_act_524 (by rfl) rfl rfl (by decide) (by simp [Value.category]) ⟨by decide, by decide⟩ ⟨by decide, by decide⟩ ?_
                clear hC
                intro S524 hC
                refine g_istore (ls2 := [_, _, _, _, _, _, _, _, _, _, some (.int _), _, _, _, _, _]) K dL_act_527 (by decide) rfl ?_
                refine g_aload_n K dL_act_529 rfl ?_
                refine g_iload K dL_act_530 rfl ?_
                refine g_iload K dL_act_532 rfl ?_
                refine g_iconst K dL_act_534 kc_1 ?_
                refine g_rdV K (rd hC (c_X6_runOf hC) ((ro_k hs hk hv1 hv9 1).trans ((if_neg (by decide)).trans (if_pos rfl)))) mw_X6_runOf ml_L_30 dL_act_535 (by rfl) rfl rfl (by decide) (by simp [Value.category]) ⟨by decide, by decide⟩ ⟨by decide, by decide⟩ ?_
                clear hC
                intro S535 hC
                refine g_istore (ls2 := [_, _, _, _, _, _, _, _, _, _, _, some (.int _), _, _, _, _]) K dL_act_538 (by decide) rfl ?_
                refine g_aload_n K dL_act_540 rfl ?_
                refine g_iconst K dL_act_541 kc_1 ?_
                refine g_rdV K (rd hC (c_X6_count hC) (cn_1 A)) mw_X6_count ml_L_14 dL_act_542 (by rfl) rfl rfl (by decide) (by simp [Value.category]) ⟨by decide, by decide⟩ ⟨by decide, by decide⟩ ?_
                clear hC
                intro S542 hC
                refine g_istore (ls2 := [_, _, _, _, _, _, _, _, _, _, _, _, some (.int _), _, _, _]) K dL_act_545 (by decide) rfl ?_
                refine g_aload_n K dL_act_547 rfl ?_
                refine g_iconst K dL_act_548 kc_2 ?_
                refine g_rdV K (rd hC (c_X6_count hC) (cn_2 A)) mw_X6_count ml_L_14 dL_act_549 (by rfl) rfl rfl (by decide) (by simp [Value.category]) ⟨by decide, by decide⟩ ⟨by decide, by decide⟩ ?_
                clear hC
                intro S549 hC
                refine g_istore (ls2 := [_, _, _, _, _, _, _, _, _, _, _, _, _, some (.int _), _, _]) K dL_act_552 (by decide) rfl ?_
                refine g_aload_n K dL_act_554 rfl ?_
                refine g_iload K dL_act_555 rfl ?_
                refine g_iconst K dL_act_557 kc_4 ?_
                refine g_rdV K (rd hC (c_X6_cartOf hC) (xc_4 hs hk)) mw_X6_cartOf ml_L_20 dL_act_558 (by rfl) rfl rfl (by decide) (by simp [Value.category]) ⟨by decide, by decide⟩ ⟨by decide, by decide⟩ ?_
                clear hC
                intro S558 hC
                refine g_istore (ls2 := [_, _, _, _, _, _, _, _, _, _, _, _, _, _, some (.int _), _]) K dL_act_561 (by decide) rfl ?_
                refine g_aload_n K dL_act_563 rfl ?_
                refine g_iload K dL_act_564 rfl ?_
                refine g_iload K dL_act_566 rfl ?_
                refine g_rdV K (ra (c_X6_run hC) (ac_run1 hs hk hv1 hv9 hr)) mw_X6_run ml_L_58 dL_act_568 (by rfl) rfl rfl (by decide) (by simp [Value.category]) ⟨by decide, by decide⟩ ⟨by decide, by decide⟩ ?_
                intro S568 hC
                obtain ⟨n2, hC⟩ := hC
                have hs2 := hC.st
                have e2 : n2 = n := n_same hs hs2 (rz_o (by decide) (by decide) (Or.inl (by omega)))
                have hk2 : k < n2 := by omega
                refine g_istore (ls2 := [_, _, _, _, _, _, _, _, _, _, _, _, _, _, _, some (.int _)]) K dL_act_571 (by decide) rfl ?_
                refine g_iload K dL_act_573 rfl ?_
                refine g_iload K dL_act_575 rfl ?_
                refine g_if_ne (tgt := 585) K dL_act_577 (by decide) (fun u577 => ?_) (fun u577 => absurd u577 hr)
                refine g_bipush K dL_act_585 kb_m10 ?_
                refine g_iload K dL_act_587 rfl ?_
                refine g_isub K dL_act_589 ?_
                refine g_icmp_ne (tgt := 669) K dL_act_590 (by decide) (fun u590 => absurd u590 (fun h => h rfl)) (fun u590 => ?_)
                refine g_aload_n K dL_act_593 rfl ?_
                refine g_iconst K dL_act_594 kc_1 ?_
                refine g_rdV K (rd hC (c_X6_count hC) ((cn_1 _).trans rz_7)) mw_X6_count ml_L_14 dL_act_595 (by rfl) rfl rfl (by decide) (by simp [Value.category]) ⟨by decide, by decide⟩ ⟨by decide, by decide⟩ ?_
                clear hC
                intro S595 hC
                refine g_iload K dL_act_598 rfl ?_
                refine g_iconst K dL_act_600 kc_1 ?_
                refine g_iadd K dL_act_601 ?_
                refine g_icmp_ne (tgt := 669) K dL_act_602 (by decide) (fun u602 => absurd u602 (fun h => h rfl)) (fun u602 => ?_)
                refine g_aload_n K dL_act_605 rfl ?_
                refine g_iconst K dL_act_606 kc_2 ?_
                refine g_rdV K (rd hC (c_X6_count hC) ((cn_2 _).trans (rz_8.trans (by rw [if_neg hr])))) mw_X6_count ml_L_14 dL_act_607 (by rfl) rfl rfl (by decide) (by simp [Value.category]) ⟨by decide, by decide⟩ ⟨by decide, by decide⟩ ?_
                clear hC
                intro S607 hC
                refine g_iload K dL_act_610 rfl ?_
                refine g_iload K dL_act_612 rfl ?_
                refine g_if_ne (tgt := 621) K dL_act_614 (by decide) (fun u614 => ?_) (fun u614 => absurd u614 hr)
                refine g_iconst K dL_act_621 kc_0 ?_
                refine g_iadd K dL_act_622 ?_
                refine g_icmp_ne (tgt := 669) K dL_act_623 (by decide) (fun u623 => absurd u623 (fun h => h rfl)) (fun u623 => ?_)
                refine g_aload_n K dL_act_626 rfl ?_
                refine g_iload K dL_act_627 rfl ?_
                refine g_iconst K dL_act_629 kc_5 ?_
                refine g_rdV K (rd hC (c_X6_cartOf hC) ((xc_5 hs2 hk2).trans rz_q)) mw_X6_cartOf ml_L_20 dL_act_630 (by rfl) rfl rfl (by decide) (by simp [Value.category]) ⟨by decide, by decide⟩ ⟨by decide, by decide⟩ ?_
                clear hC
                intro S630 hC
                refine g_iload K dL_act_633 rfl ?_
                refine g_icmp_ne (tgt := 669) K dL_act_635 (by decide) (fun u635 => absurd u635 (fun h => h rfl)) (fun u635 => ?_)
                refine g_aload_n K dL_act_638 rfl ?_
                refine g_iload K dL_act_639 rfl ?_
                refine g_bipush K dL_act_641 kb_7 ?_
                refine g_rdV K (rd hC (c_X6_cartOf hC) ((xc_7 hs2 hk2).trans rz_q)) mw_X6_cartOf ml_L_20 dL_act_643 (by rfl) rfl rfl (by decide) (by simp [Value.category]) ⟨by decide, by decide⟩ ⟨by decide, by decide⟩ ?_
                clear hC
                intro S643 hC
                refine g_iload K dL_act_646 rfl ?_
                refine g_icmp_ne (tgt := 669) K dL_act_648 (by decide) (fun u648 => absurd u648 (fun h => h rfl)) (fun u648 => ?_)
                refine g_aload_n K dL_act_651 rfl ?_
                refine g_iload K dL_act_652 rfl ?_
                refine g_iconst K dL_act_654 kc_4 ?_
                refine g_rdV K (rd hC (c_X6_cartOf hC) ((xc_4 hs2 hk2).trans rz_q)) mw_X6_cartOf ml_L_20 dL_act_655 (by rfl) rfl rfl (by decide) (by simp [Value.category]) ⟨by decide, by decide⟩ ⟨by decide, by decide⟩ ?_
                clear hC
                intro S655 hC
                refine g_iload K dL_act_658 rfl ?_
                refine g_icmp_ne (tgt := 669) K dL_act_660 (by decide) (fun u660 => absurd u660 (fun h => h rfl)) (fun u660 => ?_)
                refine g_sipush K dL_act_663 kp_1000 ?_
                refine g_goto (tgt := 671) K dL_act_666 (by decide) ?_
                refine g_iret K dL_act_671 ⟨_, rfl, ?_⟩
                exact Or.inr ⟨by decide, _, n2, by omega, rz_EZ hs hE.1 hk hq hv1 hv9 hB, hC⟩
          · have k365 : ∀ (u : Int32) (S1 : ST), (CRel S1 A n) → (u = 0 ∨ u = 1) → G pr l en (rmd 6) s0 mi (List.toArray [.ref (ad 0), .int (nI xn)]) below meth c' (MQ below (QQ b D cA NN ad zT (RI (ActP A n B))) (List.toArray [.ref (ad 0), .int (nI xn)]) s0 0 0 (aF b)) b D cA 16 NN ad zT 0 0 365 [some (.ref (ad 0)), some (.int (nI xn)), some (.int (nI hw)), some (.int (nI yn)), some (.int (nI n)), some (.int (nI k)), some (.int (nI wt)), some (.int (nI N)), some (.int (nI a)), some (.int u), none, none, none, none, none, none] [] S1 := by
              intro u  S1  hC hu
              rcases (show (u = 0 ∧ lQ (qOf (aZ A) k) a = 0) ∨ (u = 0 ∧ lQ (qOf (aZ A) k) a = 1) ∨ (u = 1 ∧ lQ (qOf (aZ A) k) a = 0 ∧ dwN (qOf (aZ A) k) N = 1) ∨ (u = 1 ∧ lQ (qOf (aZ A) k) a = 0 ∧ ¬ dwN (qOf (aZ A) k) N = 1) ∨ (u = 1 ∧ lQ (qOf (aZ A) k) a = 1) from lf_cases hu hax.2.2.2.2) with ⟨rfl, hl⟩ | ⟨rfl, hl⟩ | ⟨rfl, hl, hd⟩ | ⟨rfl, hl, hd⟩ | ⟨rfl, hl⟩
              · skip
                refine g_aload_n K dL_act_365 rfl ?_
                refine g_iload K dL_act_366 rfl ?_
                refine g_iload K dL_act_368 rfl ?_
                refine g_iconst K dL_act_370 kc_2 ?_
                refine g_rdV K (rd hC (c_X6_axleOf hC) ((ao_2 hs hk hq ha).trans hl)) mw_X6_axleOf ml_L_24 dL_act_371 (by rfl) rfl rfl (by decide) (by simp [Value.category]) ⟨by decide, by decide⟩ ⟨by decide, by decide⟩ ?_
                clear hC
                intro S371 hC
                refine g_istore (ls2 := [_, _, _, _, _, _, _, _, _, _, some (.int _), _, _, _, _, _]) K dL_act_374 (by decide) rfl ?_
                refine g_aload_n K dL_act_376 rfl ?_
                refine g_iload K dL_act_377 rfl ?_
                refine g_iconst K dL_act_379 kc_1 ?_
                refine g_rdV K (rd hC (c_X6_cartOf hC) (xc_1 hs hk hq)) mw_X6_cartOf ml_L_20 dL_act_380 (by rfl) rfl rfl (by decide) (by simp [Value.category]) ⟨by decide, by decide⟩ ⟨by decide, by decide⟩ ?_
                clear hC
                intro S380 hC
                refine g_istore (ls2 := [_, _, _, _, _, _, _, _, _, _, _, some (.int _), _, _, _, _]) K dL_act_383 (by decide) rfl ?_
                refine g_aload_n K dL_act_385 rfl ?_
                refine g_iload K dL_act_386 rfl ?_
                refine g_iload K dL_act_388 rfl ?_
                refine g_iload K dL_act_390 rfl ?_
                refine g_rdV K (rq hC (c_X6_lift hC (Or.inl rfl)) (rf_lift_same hs hk hq ha hl)) mw_X6_lift ml_L_54 dL_act_392 (by rfl) rfl rfl (by decide) (by simp [Value.category]) ⟨by decide, by decide⟩ ⟨by decide, by decide⟩ ?_
                clear hC
                intro S392 hC
                refine g_istore (ls2 := [_, _, _, _, _, _, _, _, _, _, _, _, some (.int _), _, _, _]) K dL_act_395 (by decide) rfl ?_
                refine g_iload K dL_act_397 rfl ?_
                refine g_iload K dL_act_399 rfl ?_
                refine g_if_eq (tgt := 408) K dL_act_401 (by decide) (fun u401 => ?_) (fun u401 => absurd (by decide) u401)
                refine g_iconst K dL_act_408 kc_0 ?_
                refine g_icmp_ne (tgt := 416) K dL_act_409 (by decide) (fun u409 => absurd u409 (by decide)) (fun u409 => ?_)
                refine g_iconst K dL_act_412 kc_1 ?_
                refine g_goto (tgt := 417) K dL_act_413 (by decide) ?_
                refine g_istore (ls2 := [_, _, _, _, _, _, _, _, _, _, _, _, _, some (.int _), _, _]) K dL_act_417 (by decide) rfl ?_
                refine g_iload K dL_act_419 rfl ?_
                refine g_if_eq (tgt := 429) K dL_act_421 (by decide) (fun u421 => absurd u421 (by decide)) (fun u421 => ?_)
                refine g_bipush K dL_act_424 kb_m5 ?_
                refine g_goto (tgt := 458) K dL_act_426 (by decide) ?_
                refine g_istore (ls2 := [_, _, _, _, _, _, _, _, _, _, _, _, _, _, some (.int _), _]) K dL_act_458 (by decide) rfl ?_
                refine g_iload K dL_act_460 rfl ?_
                refine g_iload K dL_act_462 rfl ?_
                refine g_icmp_ne (tgt := 498) K dL_act_464 (by decide) (fun u464 => absurd u464 (by decide)) (fun u464 => ?_)
                refine g_aload_n K dL_act_467 rfl ?_
                refine g_iload K dL_act_468 rfl ?_
                refine g_iload K dL_act_470 rfl ?_
                refine g_iconst K dL_act_472 kc_2 ?_
                refine g_rdV K (rd hC (c_X6_axleOf hC) ((ao_2 hs hk hq ha).trans hl)) mw_X6_axleOf ml_L_24 dL_act_473 (by rfl) rfl rfl (by decide) (by simp [Value.category]) ⟨by decide, by decide⟩ ⟨by decide, by decide⟩ ?_
                clear hC
                intro S473 hC
                refine g_iload K dL_act_476 rfl ?_
                refine g_if_le (tgt := 488) K dL_act_478 (by decide) (fun u478 => ?_) (fun u478 => absurd (by decide) u478)
                refine g_iload K dL_act_488 rfl ?_
                refine g_icmp_ne (tgt := 498) K dL_act_490 (by decide) (fun u490 => absurd u490 (by decide)) (fun u490 => ?_)
                refine g_iload K dL_act_493 rfl ?_
                refine g_goto (tgt := 500) K dL_act_495 (by decide) ?_
                refine g_iret K dL_act_500 ⟨_, rfl, ?_⟩
                exact Or.inl ⟨by decide, by decide, by omega, hC⟩
              · skip
                refine g_aload_n K dL_act_365 rfl ?_
                refine g_iload K dL_act_366 rfl ?_
                refine g_iload K dL_act_368 rfl ?_
                refine g_iconst K dL_act_370 kc_2 ?_
                refine g_rdV K (rd hC (c_X6_axleOf hC) ((ao_2 hs hk hq ha).trans hl)) mw_X6_axleOf ml_L_24 dL_act_371 (by rfl) rfl rfl (by decide) (by simp [Value.category]) ⟨by decide, by decide⟩ ⟨by decide, by decide⟩ ?_
                clear hC
                intro S371 hC
                refine g_istore (ls2 := [_, _, _, _, _, _, _, _, _, _, some (.int _), _, _, _, _, _]) K dL_act_374 (by decide) rfl ?_
                refine g_aload_n K dL_act_376 rfl ?_
                refine g_iload K dL_act_377 rfl ?_
                refine g_iconst K dL_act_379 kc_1 ?_
                refine g_rdV K (rd hC (c_X6_cartOf hC) (xc_1 hs hk hq)) mw_X6_cartOf ml_L_20 dL_act_380 (by rfl) rfl rfl (by decide) (by simp [Value.category]) ⟨by decide, by decide⟩ ⟨by decide, by decide⟩ ?_
                clear hC
                intro S380 hC
                refine g_istore (ls2 := [_, _, _, _, _, _, _, _, _, _, _, some (.int _), _, _, _, _]) K dL_act_383 (by decide) rfl ?_
                refine g_aload_n K dL_act_385 rfl ?_
                refine g_iload K dL_act_386 rfl ?_
                refine g_iload K dL_act_388 rfl ?_
                refine g_iload K dL_act_390 rfl ?_
                refine g_rdV K (ra (c_X6_lift hC (Or.inl rfl)) (ac_lift0 hs hk hq ha hl)) mw_X6_lift ml_L_54 dL_act_392 (by rfl) rfl rfl (by decide) (by simp [Value.category]) ⟨by decide, by decide⟩ ⟨by decide, by decide⟩ ?_
                intro S392 hC
                obtain ⟨n2, hC⟩ := hC
                have hs2 := hC.st
                have e2 : n2 = n := n_same hs hs2 (lay_lo (by decide))
                have hk2 : k < n2 := by omega
                refine g_istore (ls2 := [_, _, _, _, _, _, _, _, _, _, _, _, some (.int _), _, _, _]) K dL_act_395 (by decide) rfl ?_
                refine g_iload K dL_act_397 rfl ?_
                refine g_iload K dL_act_399 rfl ?_
                refine g_if_eq (tgt := 408) K dL_act_401 (by decide) (fun u401 => ?_) (fun u401 => absurd (by decide) u401)
                refine g_iconst K dL_act_408 kc_0 ?_
                refine g_icmp_ne (tgt := 416) K dL_act_409 (by decide) (fun u409 => ?_) (fun u409 => absurd u409 (by decide))
                refine g_iconst K dL_act_416 kc_0 ?_
                refine g_istore (ls2 := [_, _, _, _, _, _, _, _, _, _, _, _, _, some (.int _), _, _]) K dL_act_417 (by decide) rfl ?_
                refine g_iload K dL_act_419 rfl ?_
                refine g_if_eq (tgt := 429) K dL_act_421 (by decide) (fun u421 => ?_) (fun u421 => absurd (by decide) u421)
                refine g_iload K dL_act_429 rfl ?_
                refine g_if_eq (tgt := 445) K dL_act_431 (by decide) (fun u431 => ?_) (fun u431 => absurd (by decide) u431)
                refine g_iload K dL_act_445 rfl ?_
                refine g_iload K dL_act_447 rfl ?_
                refine g_if_eq (tgt := 456) K dL_act_449 (by decide) (fun u449 => ?_) (fun u449 => absurd (by decide) u449)
                refine g_iconst K dL_act_456 kc_1 ?_
                refine g_iadd K dL_act_457 ?_
                refine g_nm (y := (nI (dwN (qOf (aZ A) k) N + 1))) (nI_1 _) ?_
                refine g_istore (ls2 := [_, _, _, _, _, _, _, _, _, _, _, _, _, _, some (.int _), _]) K dL_act_458 (by decide) rfl ?_
                refine g_iload K dL_act_460 rfl ?_
                refine g_iload K dL_act_462 rfl ?_
                refine g_icmp_ne (tgt := 498) K dL_act_464 (by decide) (fun u464 => absurd u464 (fun h => h rfl)) (fun u464 => ?_)
                refine g_aload_n K dL_act_467 rfl ?_
                refine g_iload K dL_act_468 rfl ?_
                refine g_iload K dL_act_470 rfl ?_
                refine g_iconst K dL_act_472 kc_2 ?_
                refine g_rdV K (rd hC (c_X6_axleOf hC) (ly_2 hs2 hk2 hq ha rfl)) mw_X6_axleOf ml_L_24 dL_act_473 (by rfl) rfl rfl (by decide) (by simp [Value.category]) ⟨by decide, by decide⟩ ⟨by decide, by decide⟩ ?_
                clear hC
                intro S473 hC
                refine g_iload K dL_act_476 rfl ?_
                refine g_if_le (tgt := 488) K dL_act_478 (by decide) (fun u478 => absurd u478 (nI_nle (Nat.succ_pos _) (by omega))) (fun u478 => ?_)
                refine g_iconst K dL_act_481 kc_1 ?_
                refine g_iload K dL_act_482 rfl ?_
                refine g_isub K dL_act_484 ?_
                refine g_goto (tgt := 490) K dL_act_485 (by decide) ?_
                refine g_icmp_ne (tgt := 498) K dL_act_490 (by decide) (fun u490 => absurd u490 (by decide)) (fun u490 => ?_)
                refine g_iload K dL_act_493 rfl ?_
                refine g_goto (tgt := 500) K dL_act_495 (by decide) ?_
                refine g_iret K dL_act_500 ⟨_, rfl, ?_⟩
                exact Or.inr ⟨nI_pos' (by omega), _, n2, by omega, (ly_EZ hs hE.1 hk hq (by omega)).more (by omega) hB, hC⟩
              · skip
                refine g_aload_n K dL_act_365 rfl ?_
                refine g_iload K dL_act_366 rfl ?_
                refine g_iload K dL_act_368 rfl ?_
                refine g_iconst K dL_act_370 kc_2 ?_
                refine g_rdV K (rd hC (c_X6_axleOf hC) ((ao_2 hs hk hq ha).trans hl)) mw_X6_axleOf ml_L_24 dL_act_371 (by rfl) rfl rfl (by decide) (by simp [Value.category]) ⟨by decide, by decide⟩ ⟨by decide, by decide⟩ ?_
                clear hC
                intro S371 hC
                refine g_istore (ls2 := [_, _, _, _, _, _, _, _, _, _, some (.int _), _, _, _, _, _]) K dL_act_374 (by decide) rfl ?_
                refine g_aload_n K dL_act_376 rfl ?_
                refine g_iload K dL_act_377 rfl ?_
                refine g_iconst K dL_act_379 kc_1 ?_
                refine g_rdV K (rd hC (c_X6_cartOf hC) (xc_1 hs hk hq)) mw_X6_cartOf ml_L_20 dL_act_380 (by rfl) rfl rfl (by decide) (by simp [Value.category]) ⟨by decide, by decide⟩ ⟨by decide, by decide⟩ ?_
                clear hC
                intro S380 hC
                refine g_istore (ls2 := [_, _, _, _, _, _, _, _, _, _, _, some (.int _), _, _, _, _]) K dL_act_383 (by decide) rfl ?_
                refine g_aload_n K dL_act_385 rfl ?_
                refine g_iload K dL_act_386 rfl ?_
                refine g_iload K dL_act_388 rfl ?_
                refine g_iload K dL_act_390 rfl ?_
                refine g_rdV K (rq hC (c_X6_lift hC (Or.inr rfl)) (rf_lift_np hs hk hq ha hl hd)) mw_X6_lift ml_L_54 dL_act_392 (by rfl) rfl rfl (by decide) (by simp [Value.category]) ⟨by decide, by decide⟩ ⟨by decide, by decide⟩ ?_
                clear hC
                intro S392 hC
                refine g_istore (ls2 := [_, _, _, _, _, _, _, _, _, _, _, _, some (.int _), _, _, _]) K dL_act_395 (by decide) rfl ?_
                refine g_iload K dL_act_397 rfl ?_
                refine g_iload K dL_act_399 rfl ?_
                refine g_if_eq (tgt := 408) K dL_act_401 (by decide) (fun u401 => absurd u401 (by decide)) (fun u401 => ?_)
                refine g_iconst K dL_act_404 kc_1 ?_
                refine g_goto (tgt := 409) K dL_act_405 (by decide) ?_
                refine g_icmp_ne (tgt := 416) K dL_act_409 (by decide) (fun u409 => ?_) (fun u409 => absurd u409 (by decide))
                refine g_iconst K dL_act_416 kc_0 ?_
                refine g_istore (ls2 := [_, _, _, _, _, _, _, _, _, _, _, _, _, some (.int _), _, _]) K dL_act_417 (by decide) rfl ?_
                refine g_iload K dL_act_419 rfl ?_
                refine g_if_eq (tgt := 429) K dL_act_421 (by decide) (fun u421 => ?_) (fun u421 => absurd (by decide) u421)
                refine g_iload K dL_act_429 rfl ?_
                refine g_if_eq (tgt := 445) K dL_act_431 (by decide) (fun u431 => absurd u431 (by decide)) (fun u431 => ?_)
                refine g_iload K dL_act_434 rfl ?_
                refine g_iconst K dL_act_436 kc_1 ?_
                refine g_icmp_ne (tgt := 445) K dL_act_437 (by decide) (fun u437 => absurd u437 (fun h => h (by rw [hd]; rfl))) (fun u437 => ?_)
                refine g_bipush K dL_act_440 kb_m4 ?_
                refine g_goto (tgt := 458) K dL_act_442 (by decide) ?_
                refine g_istore (ls2 := [_, _, _, _, _, _, _, _, _, _, _, _, _, _, some (.int _), _]) K dL_act_458 (by decide) rfl ?_
                refine g_iload K dL_act_460 rfl ?_
                refine g_iload K dL_act_462 rfl ?_
                refine g_icmp_ne (tgt := 498) K dL_act_464 (by decide) (fun u464 => absurd u464 (by decide)) (fun u464 => ?_)
                refine g_aload_n K dL_act_467 rfl ?_
                refine g_iload K dL_act_468 rfl ?_
                refine g_iload K dL_act_470 rfl ?_
                refine g_iconst K dL_act_472 kc_2 ?_
                refine g_rdV K (rd hC (c_X6_axleOf hC) ((ao_2 hs hk hq ha).trans hl)) mw_X6_axleOf ml_L_24 dL_act_473 (by rfl) rfl rfl (by decide) (by simp [Value.category]) ⟨by decide, by decide⟩ ⟨by decide, by decide⟩ ?_
                clear hC
                intro S473 hC
                refine g_iload K dL_act_476 rfl ?_
                refine g_if_le (tgt := 488) K dL_act_478 (by decide) (fun u478 => ?_) (fun u478 => absurd (by decide) u478)
                refine g_iload K dL_act_488 rfl ?_
                refine g_icmp_ne (tgt := 498) K dL_act_490 (by decide) (fun u490 => absurd u490 (by decide)) (fun u490 => ?_)
                refine g_iload K dL_act_493 rfl ?_
                refine g_goto (tgt := 500) K dL_act_495 (by decide) ?_
                refine g_iret K dL_act_500 ⟨_, rfl, ?_⟩
                exact Or.inl ⟨by decide, by decide, by omega, hC⟩
              · skip
                refine g_aload_n K dL_act_365 rfl ?_
                refine g_iload K dL_act_366 rfl ?_
                refine g_iload K dL_act_368 rfl ?_
                refine g_iconst K dL_act_370 kc_2 ?_
                refine g_rdV K (rd hC (c_X6_axleOf hC) ((ao_2 hs hk hq ha).trans hl)) mw_X6_axleOf ml_L_24 dL_act_371 (by rfl) rfl rfl (by decide) (by simp [Value.category]) ⟨by decide, by decide⟩ ⟨by decide, by decide⟩ ?_
                clear hC
                intro S371 hC
                refine g_istore (ls2 := [_, _, _, _, _, _, _, _, _, _, some (.int _), _, _, _, _, _]) K dL_act_374 (by decide) rfl ?_
                refine g_aload_n K dL_act_376 rfl ?_
                refine g_iload K dL_act_377 rfl ?_
                refine g_iconst K dL_act_379 kc_1 ?_
                refine g_rdV K (rd hC (c_X6_cartOf hC) (xc_1 hs hk hq)) mw_X6_cartOf ml_L_20 dL_act_380 (by rfl) rfl rfl (by decide) (by simp [Value.category]) ⟨by decide, by decide⟩ ⟨by decide, by decide⟩ ?_
                clear hC
                intro S380 hC
                refine g_istore (ls2 := [_, _, _, _, _, _, _, _, _, _, _, some (.int _), _, _, _, _]) K dL_act_383 (by decide) rfl ?_
                refine g_aload_n K dL_act_385 rfl ?_
                refine g_iload K dL_act_386 rfl ?_
                refine g_iload K dL_act_388 rfl ?_
                refine g_iload K dL_act_390 rfl ?_
                refine g_rdV K (ra (c_X6_lift hC (Or.inr rfl)) (ac_lift1 hs hk hq ha hl hd)) mw_X6_lift ml_L_54 dL_act_392 (by rfl) rfl rfl (by decide) (by simp [Value.category]) ⟨by decide, by decide⟩ ⟨by decide, by decide⟩ ?_
                intro S392 hC
                obtain ⟨n2, hC⟩ := hC
                have hs2 := hC.st
                have e2 : n2 = n := n_same hs hs2 (lay_lo (by decide))
                have hk2 : k < n2 := by omega
                refine g_istore (ls2 := [_, _, _, _, _, _, _, _, _, _, _, _, some (.int _), _, _, _]) K dL_act_395 (by decide) rfl ?_
                refine g_iload K dL_act_397 rfl ?_
                refine g_iload K dL_act_399 rfl ?_
                refine g_if_eq (tgt := 408) K dL_act_401 (by decide) (fun u401 => absurd u401 (by decide)) (fun u401 => ?_)
                refine g_iconst K dL_act_404 kc_1 ?_
                refine g_goto (tgt := 409) K dL_act_405 (by decide) ?_
                refine g_icmp_ne (tgt := 416) K dL_act_409 (by decide) (fun u409 => ?_) (fun u409 => absurd u409 (by decide))
                refine g_iconst K dL_act_416 kc_0 ?_
                refine g_istore (ls2 := [_, _, _, _, _, _, _, _, _, _, _, _, _, some (.int _), _, _]) K dL_act_417 (by decide) rfl ?_
                refine g_iload K dL_act_419 rfl ?_
                refine g_if_eq (tgt := 429) K dL_act_421 (by decide) (fun u421 => ?_) (fun u421 => absurd (by decide) u421)
                refine g_iload K dL_act_429 rfl ?_
                refine g_if_eq (tgt := 445) K dL_act_431 (by decide) (fun u431 => absurd u431 (by decide)) (fun u431 => ?_)
                refine g_iload K dL_act_434 rfl ?_
                refine g_iconst K dL_act_436 kc_1 ?_
                refine g_icmp_ne (tgt := 445) K dL_act_437 (by decide) (fun u437 => ?_) (fun u437 => absurd u437 (fun h => hd ((nI_eq (b := 1) (by omega) (by decide)).mp h)))
                refine g_iload K dL_act_445 rfl ?_
                refine g_iload K dL_act_447 rfl ?_
                refine g_if_eq (tgt := 456) K dL_act_449 (by decide) (fun u449 => absurd u449 (by decide)) (fun u449 => ?_)
                refine g_iconst K dL_act_452 kc_m1 ?_
                refine g_goto (tgt := 457) K dL_act_453 (by decide) ?_
                refine g_iadd K dL_act_457 ?_
                refine g_nm (y := (nI (dwN (qOf (aZ A) k) N - 1))) (dm_1 hdp) ?_
                refine g_istore (ls2 := [_, _, _, _, _, _, _, _, _, _, _, _, _, _, some (.int _), _]) K dL_act_458 (by decide) rfl ?_
                refine g_iload K dL_act_460 rfl ?_
                refine g_iload K dL_act_462 rfl ?_
                refine g_icmp_ne (tgt := 498) K dL_act_464 (by decide) (fun u464 => absurd u464 (fun h => h rfl)) (fun u464 => ?_)
                refine g_aload_n K dL_act_467 rfl ?_
                refine g_iload K dL_act_468 rfl ?_
                refine g_iload K dL_act_470 rfl ?_
                refine g_iconst K dL_act_472 kc_2 ?_
                refine g_rdV K (rd hC (c_X6_axleOf hC) (ly_2 hs2 hk2 hq ha rfl)) mw_X6_axleOf ml_L_24 dL_act_473 (by rfl) rfl rfl (by decide) (by simp [Value.category]) ⟨by decide, by decide⟩ ⟨by decide, by decide⟩ ?_
                clear hC
                intro S473 hC
                refine g_iload K dL_act_476 rfl ?_
                refine g_if_le (tgt := 488) K dL_act_478 (by decide) (fun u478 => absurd u478 (nI_nle (by omega) (by omega))) (fun u478 => ?_)
                refine g_iconst K dL_act_481 kc_1 ?_
                refine g_iload K dL_act_482 rfl ?_
                refine g_isub K dL_act_484 ?_
                refine g_goto (tgt := 490) K dL_act_485 (by decide) ?_
                refine g_icmp_ne (tgt := 498) K dL_act_490 (by decide) (fun u490 => absurd u490 (by decide)) (fun u490 => ?_)
                refine g_iload K dL_act_493 rfl ?_
                refine g_goto (tgt := 500) K dL_act_495 (by decide) ?_
                refine g_iret K dL_act_500 ⟨_, rfl, ?_⟩
                exact Or.inr ⟨nI_pos' (by omega), _, n2, by omega, (ly_EZ hs hE.1 hk hq (by omega)).more (by omega) hB, hC⟩
              · skip
                refine g_aload_n K dL_act_365 rfl ?_
                refine g_iload K dL_act_366 rfl ?_
                refine g_iload K dL_act_368 rfl ?_
                refine g_iconst K dL_act_370 kc_2 ?_
                refine g_rdV K (rd hC (c_X6_axleOf hC) ((ao_2 hs hk hq ha).trans hl)) mw_X6_axleOf ml_L_24 dL_act_371 (by rfl) rfl rfl (by decide) (by simp [Value.category]) ⟨by decide, by decide⟩ ⟨by decide, by decide⟩ ?_
                clear hC
                intro S371 hC
                refine g_istore (ls2 := [_, _, _, _, _, _, _, _, _, _, some (.int _), _, _, _, _, _]) K dL_act_374 (by decide) rfl ?_
                refine g_aload_n K dL_act_376 rfl ?_
                refine g_iload K dL_act_377 rfl ?_
                refine g_iconst K dL_act_379 kc_1 ?_
                refine g_rdV K (rd hC (c_X6_cartOf hC) (xc_1 hs hk hq)) mw_X6_cartOf ml_L_20 dL_act_380 (by rfl) rfl rfl (by decide) (by simp [Value.category]) ⟨by decide, by decide⟩ ⟨by decide, by decide⟩ ?_
                clear hC
                intro S380 hC
                refine g_istore (ls2 := [_, _, _, _, _, _, _, _, _, _, _, some (.int _), _, _, _, _]) K dL_act_383 (by decide) rfl ?_
                refine g_aload_n K dL_act_385 rfl ?_
                refine g_iload K dL_act_386 rfl ?_
                refine g_iload K dL_act_388 rfl ?_
                refine g_iload K dL_act_390 rfl ?_
                refine g_rdV K (rq hC (c_X6_lift hC (Or.inr rfl)) (rf_lift_same hs hk hq ha hl)) mw_X6_lift ml_L_54 dL_act_392 (by rfl) rfl rfl (by decide) (by simp [Value.category]) ⟨by decide, by decide⟩ ⟨by decide, by decide⟩ ?_
                clear hC
                intro S392 hC
                refine g_istore (ls2 := [_, _, _, _, _, _, _, _, _, _, _, _, some (.int _), _, _, _]) K dL_act_395 (by decide) rfl ?_
                refine g_iload K dL_act_397 rfl ?_
                refine g_iload K dL_act_399 rfl ?_
                refine g_if_eq (tgt := 408) K dL_act_401 (by decide) (fun u401 => absurd u401 (by decide)) (fun u401 => ?_)
                refine g_iconst K dL_act_404 kc_1 ?_
                refine g_goto (tgt := 409) K dL_act_405 (by decide) ?_
                refine g_icmp_ne (tgt := 416) K dL_act_409 (by decide) (fun u409 => absurd u409 (by decide)) (fun u409 => ?_)
                refine g_iconst K dL_act_412 kc_1 ?_
                refine g_goto (tgt := 417) K dL_act_413 (by decide) ?_
                refine g_istore (ls2 := [_, _, _, _, _, _, _, _, _, _, _, _, _, some (.int _), _, _]) K dL_act_417 (by decide) rfl ?_
                refine g_iload K dL_act_419 rfl ?_
                refine g_if_eq (tgt := 429) K dL_act_421 (by decide) (fun u421 => absurd u421 (by decide)) (fun u421 => ?_)
                refine g_bipush K dL_act_424 kb_m5 ?_
                refine g_goto (tgt := 458) K dL_act_426 (by decide) ?_
                refine g_istore (ls2 := [_, _, _, _, _, _, _, _, _, _, _, _, _, _, some (.int _), _]) K dL_act_458 (by decide) rfl ?_
                refine g_iload K dL_act_460 rfl ?_
                refine g_iload K dL_act_462 rfl ?_
                refine g_icmp_ne (tgt := 498) K dL_act_464 (by decide) (fun u464 => absurd u464 (by decide)) (fun u464 => ?_)
                refine g_aload_n K dL_act_467 rfl ?_
                refine g_iload K dL_act_468 rfl ?_
                refine g_iload K dL_act_470 rfl ?_
                refine g_iconst K dL_act_472 kc_2 ?_
                refine g_rdV K (rd hC (c_X6_axleOf hC) ((ao_2 hs hk hq ha).trans hl)) mw_X6_axleOf ml_L_24 dL_act_473 (by rfl) rfl rfl (by decide) (by simp [Value.category]) ⟨by decide, by decide⟩ ⟨by decide, by decide⟩ ?_
                clear hC
                intro S473 hC
                refine g_iload K dL_act_476 rfl ?_
                refine g_if_le (tgt := 488) K dL_act_478 (by decide) (fun u478 => ?_) (fun u478 => absurd (by decide) u478)
                refine g_iload K dL_act_488 rfl ?_
                refine g_icmp_ne (tgt := 498) K dL_act_490 (by decide) (fun u490 => absurd u490 (by decide)) (fun u490 => ?_)
                refine g_iload K dL_act_493 rfl ?_
                refine g_goto (tgt := 500) K dL_act_495 (by decide) ?_
                refine g_iret K dL_act_500 ⟨_, rfl, ?_⟩
                exact Or.inl ⟨by decide, by decide, by omega, hC⟩
            rcases Nat.mod_two_eq_zero_or_one (yn / 36) with h2 | h2
            · skip
              refine g_iload_n K dL_act_349 rfl ?_
              refine g_bipush K dL_act_350 kb_36 ?_
              refine g_idiv K dL_act_352 (by first | assumption | decide) ?_
              refine g_nm (y := (nI (yn / 36))) (pk_div (d := 36) (by omega) (by decide) (by decide)) ?_
              refine g_iconst K dL_act_353 kc_2 ?_
              refine g_irem K dL_act_354 (by first | assumption | decide) ?_
              refine g_nm (y := 0) ((pk_rem (d := 2) (by omega) (by decide) (by decide)).trans (by rw [h2]; rfl)) ?_
              refine g_if_ne (tgt := 362) K dL_act_355 (by decide) (fun u355 => absurd u355 (by decide)) (fun u355 => ?_)
              refine g_iconst K dL_act_358 kc_1 ?_
              refine g_goto (tgt := 363) K dL_act_359 (by decide) ?_
              refine g_istore (ls2 := [_, _, _, _, _, _, _, _, _, some (.int _), _, _, _, _, _, _]) K dL_act_363 (by decide) rfl ?_
              exact k365 _ _ hC (by first | exact Or.inl rfl | exact Or.inr rfl)
            · skip
              refine g_iload_n K dL_act_349 rfl ?_
              refine g_bipush K dL_act_350 kb_36 ?_
              refine g_idiv K dL_act_352 (by first | assumption | decide) ?_
              refine g_nm (y := (nI (yn / 36))) (pk_div (d := 36) (by omega) (by decide) (by decide)) ?_
              refine g_iconst K dL_act_353 kc_2 ?_
              refine g_irem K dL_act_354 (by first | assumption | decide) ?_
              refine g_nm (y := 1) ((pk_rem (d := 2) (by omega) (by decide) (by decide)).trans (by rw [h2]; rfl)) ?_
              refine g_if_ne (tgt := 362) K dL_act_355 (by decide) (fun u355 => ?_) (fun u355 => absurd u355 (by decide))
              refine g_iconst K dL_act_362 kc_0 ?_
              refine g_istore (ls2 := [_, _, _, _, _, _, _, _, _, some (.int _), _, _, _, _, _, _]) K dL_act_363 (by decide) rfl ?_
              exact k365 _ _ hC (by first | exact Or.inl rfl | exact Or.inr rfl)
        · rcases Classical.em (wQ (qOf (aZ A) k) a = nI wt) with hw | hw
          · skip
            refine g_aload_n K dL_act_279 rfl ?_
            refine g_iload K dL_act_280 rfl ?_
            refine g_iload K dL_act_282 rfl ?_
            refine g_iconst K dL_act_284 kc_0 ?_
            refine g_rdV K (rd hC (c_X6_axleOf hC) (ao_0 hs hk hq ha)) mw_X6_axleOf ml_L_24 dL_act_285 (by rfl) rfl rfl (by decide) (by simp [Value.category]) ⟨by decide, by decide⟩ ⟨by decide, by decide⟩ ?_
            clear hC
            intro S285 hC
            refine g_istore (ls2 := [_, _, _, _, _, _, _, _, _, some (.int _), _, _, _, _, _, _]) K dL_act_288 (by decide) rfl ?_
            refine g_aload_n K dL_act_290 rfl ?_
            refine g_iload K dL_act_291 rfl ?_
            refine g_iload K dL_act_293 rfl ?_
            refine g_iload K dL_act_295 rfl ?_
            refine g_rdV K (rq hC (c_X6_load hC) (rf_load_same hs hk hq ha hw)) mw_X6_load ml_L_51 dL_act_297 (by rfl) rfl rfl (by decide) (by simp [Value.category]) ⟨by decide, by decide⟩ ⟨by decide, by decide⟩ ?_
            clear hC
            intro S297 hC
            refine g_istore (ls2 := [_, _, _, _, _, _, _, _, _, _, some (.int _), _, _, _, _, _]) K dL_act_300 (by decide) rfl ?_
            refine g_iload K dL_act_302 rfl ?_
            refine g_iload K dL_act_304 rfl ?_
            refine g_iload K dL_act_306 rfl ?_
            refine g_icmp_ne (tgt := 316) K dL_act_308 (by decide) (fun u308 => absurd u308 (fun h => h hw)) (fun u308 => ?_)
            refine g_bipush K dL_act_311 kb_m5 ?_
            refine g_goto (tgt := 318) K dL_act_313 (by decide) ?_
            refine g_icmp_ne (tgt := 340) K dL_act_318 (by decide) (fun u318 => absurd u318 (by decide)) (fun u318 => ?_)
            refine g_aload_n K dL_act_321 rfl ?_
            refine g_iload K dL_act_322 rfl ?_
            refine g_iload K dL_act_324 rfl ?_
            refine g_iconst K dL_act_326 kc_0 ?_
            refine g_rdV K (rd hC (c_X6_axleOf hC) (ao_0 hs hk hq ha)) mw_X6_axleOf ml_L_24 dL_act_327 (by rfl) rfl rfl (by decide) (by simp [Value.category]) ⟨by decide, by decide⟩ ⟨by decide, by decide⟩ ?_
            clear hC
            intro S327 hC
            refine g_iload K dL_act_330 rfl ?_
            refine g_icmp_ne (tgt := 340) K dL_act_332 (by decide) (fun u332 => absurd u332 (fun h => h hw)) (fun u332 => ?_)
            refine g_iload K dL_act_335 rfl ?_
            refine g_goto (tgt := 342) K dL_act_337 (by decide) ?_
            refine g_iret K dL_act_342 ⟨_, rfl, ?_⟩
            exact Or.inl ⟨by decide, by decide, by omega, hC⟩
          · skip
            refine g_aload_n K dL_act_279 rfl ?_
            refine g_iload K dL_act_280 rfl ?_
            refine g_iload K dL_act_282 rfl ?_
            refine g_iconst K dL_act_284 kc_0 ?_
            refine g_rdV K (rd hC (c_X6_axleOf hC) (ao_0 hs hk hq ha)) mw_X6_axleOf ml_L_24 dL_act_285 (by rfl) rfl rfl (by decide) (by simp [Value.category]) ⟨by decide, by decide⟩ ⟨by decide, by decide⟩ ?_
            clear hC
            intro S285 hC
            refine g_istore (ls2 := [_, _, _, _, _, _, _, _, _, some (.int _), _, _, _, _, _, _]) K dL_act_288 (by decide) rfl ?_
            refine g_aload_n K dL_act_290 rfl ?_
            refine g_iload K dL_act_291 rfl ?_
            refine g_iload K dL_act_293 rfl ?_
            refine g_iload K dL_act_295 rfl ?_
            refine g_rdV K (ra (c_X6_load hC) (ac_load hs hk hq ha hw1 hw2 hw)) mw_X6_load ml_L_51 dL_act_297 (by rfl) rfl rfl (by decide) (by simp [Value.category]) ⟨by decide, by decide⟩ ⟨by decide, by decide⟩ ?_
            intro S297 hC
            obtain ⟨n2, hC⟩ := hC
            have hs2 := hC.st
            have e2 : n2 = n := n_same hs hs2 (lay_lo (by decide))
            have hk2 : k < n2 := by omega
            refine g_istore (ls2 := [_, _, _, _, _, _, _, _, _, _, some (.int _), _, _, _, _, _]) K dL_act_300 (by decide) rfl ?_
            refine g_iload K dL_act_302 rfl ?_
            refine g_iload K dL_act_304 rfl ?_
            refine g_iload K dL_act_306 rfl ?_
            refine g_icmp_ne (tgt := 316) K dL_act_308 (by decide) (fun u308 => ?_) (fun u308 => absurd u308 hw)
            refine g_iload K dL_act_316 rfl ?_
            refine g_icmp_ne (tgt := 340) K dL_act_318 (by decide) (fun u318 => absurd u318 (fun h => h rfl)) (fun u318 => ?_)
            refine g_aload_n K dL_act_321 rfl ?_
            refine g_iload K dL_act_322 rfl ?_
            refine g_iload K dL_act_324 rfl ?_
            refine g_iconst K dL_act_326 kc_0 ?_
            refine g_rdV K (rd hC (c_X6_axleOf hC) (ly_0 hs2 hk2 hq ha rfl)) mw_X6_axleOf ml_L_24 dL_act_327 (by rfl) rfl rfl (by decide) (by simp [Value.category]) ⟨by decide, by decide⟩ ⟨by decide, by decide⟩ ?_
            clear hC
            intro S327 hC
            refine g_iload K dL_act_330 rfl ?_
            refine g_icmp_ne (tgt := 340) K dL_act_332 (by decide) (fun u332 => absurd u332 (fun h => h rfl)) (fun u332 => ?_)
            refine g_iload K dL_act_335 rfl ?_
            refine g_goto (tgt := 342) K dL_act_337 (by decide) ?_
            refine g_iret K dL_act_342 ⟨_, rfl, ?_⟩
            exact Or.inr ⟨by have := hax.1; grind, _, n2, by omega, (ly_EZ hs hE.1 hk hq (by omega)).more (by omega) hB, hC⟩
      · have k188 : ∀ (d : Nat) (S1 : ST), (CRel S1 A n) → (2 ≤ d) → (d ≤ 40) → G pr l en (rmd 6) s0 mi (List.toArray [.ref (ad 0), .int (nI xn)]) below meth c' (MQ below (QQ b D cA NN ad zT (RI (ActP A n B))) (List.toArray [.ref (ad 0), .int (nI xn)]) s0 0 0 (aF b)) b D cA 16 NN ad zT 0 0 188 [some (.ref (ad 0)), some (.int (nI xn)), some (.int (nI hw)), some (.int (nI yn)), some (.int (nI n)), some (.int (nI k)), some (.int (nI wt)), some (.int (nI N)), some (.int (nI a)), some (.int (nI d)), none, none, none, none, none, none] [] S1 := by
          intro d  S1  hC hd1 hd2
          rcases (show N = 5 ∨ N < 5 by omega) with hN5 | hN5
          · skip
            refine g_aload_n K dL_act_188 rfl ?_
            refine g_iload K dL_act_189 rfl ?_
            refine g_iload K dL_act_191 rfl ?_
            refine g_iload K dL_act_193 rfl ?_
            refine g_rdV K (rq hC (c_X6_axle hC) (rf_axle_5 hs hk hq hN5 ⟨d_in hd1 hd2, w_in hw1 hw2⟩)) mw_X6_axle ml_L_48 dL_act_195 (by rfl) rfl rfl (by decide) (by simp [Value.category]) ⟨by decide, by decide⟩ ⟨by decide, by decide⟩ ?_
            clear hC
            intro S195 hC
            refine g_istore (ls2 := [_, _, _, _, _, _, _, _, _, _, some (.int _), _, _, _, _, _]) K dL_act_198 (by decide) rfl ?_
            refine g_iload K dL_act_200 rfl ?_
            refine g_iload K dL_act_202 rfl ?_
            refine g_iconst K dL_act_204 kc_5 ?_
            refine g_icmp_ne (tgt := 213) K dL_act_205 (by decide) (fun u205 => absurd u205 (fun h => h (by rw [hN5]; rfl))) (fun u205 => ?_)
            refine g_bipush K dL_act_208 kb_m3 ?_
            refine g_goto (tgt := 217) K dL_act_210 (by decide) ?_
            refine g_icmp_ne (tgt := 270) K dL_act_217 (by decide) (fun u217 => absurd u217 (by decide)) (fun u217 => ?_)
            refine g_iload K dL_act_220 rfl ?_
            refine g_if_lt (tgt := 265) K dL_act_222 (by decide) (fun u222 => ?_) (fun u222 => absurd (by decide) u222)
            refine g_iload K dL_act_265 rfl ?_
            refine g_goto (tgt := 272) K dL_act_267 (by decide) ?_
            refine g_iret K dL_act_272 ⟨_, rfl, ?_⟩
            exact Or.inl ⟨by decide, by decide, by omega, hC⟩
          · skip
            refine g_aload_n K dL_act_188 rfl ?_
            refine g_iload K dL_act_189 rfl ?_
            refine g_iload K dL_act_191 rfl ?_
            refine g_iload K dL_act_193 rfl ?_
            refine g_rdV K (ra (c_X6_axle hC) (ac_axle hs hk hq hN5 hd1 hd2 hw1 hw2)) mw_X6_axle ml_L_48 dL_act_195 (by rfl) rfl rfl (by decide) (by simp [Value.category]) ⟨by decide, by decide⟩ ⟨by decide, by decide⟩ ?_
            intro S195 hC
            obtain ⟨n2, hC⟩ := hC
            have hs2 := hC.st
            have e2 : n2 = n := n_same hs hs2 (na_o hN5 (Or.inl (by omega)))
            have hk2 : k < n2 := by omega
            refine g_istore (ls2 := [_, _, _, _, _, _, _, _, _, _, some (.int _), _, _, _, _, _]) K dL_act_198 (by decide) rfl ?_
            refine g_iload K dL_act_200 rfl ?_
            refine g_iload K dL_act_202 rfl ?_
            refine g_iconst K dL_act_204 kc_5 ?_
            refine g_icmp_ne (tgt := 213) K dL_act_205 (by decide) (fun u205 => ?_) (fun u205 => absurd u205 (fun h => by have := (nI5 (n := N) (by omega)).mp h; omega))
            refine g_iload K dL_act_213 rfl ?_
            refine g_iconst K dL_act_215 kc_1 ?_
            refine g_iadd K dL_act_216 ?_
            refine g_nm (y := (nI (N + 1))) (nI_1 N) ?_
            refine g_icmp_ne (tgt := 270) K dL_act_217 (by decide) (fun u217 => absurd u217 (fun h => h rfl)) (fun u217 => ?_)
            refine g_iload K dL_act_220 rfl ?_
            refine g_if_lt (tgt := 265) K dL_act_222 (by decide) (fun u222 => absurd u222 (nI_pos (by omega))) (fun u222 => ?_)
            refine g_aload_n K dL_act_225 rfl ?_
            refine g_iload K dL_act_226 rfl ?_
            refine g_iload K dL_act_228 rfl ?_
            refine g_iconst K dL_act_230 kc_0 ?_
            refine g_rdV K (rd hC (c_X6_axleOf hC) (na_0 hs2 hk2 hN5 rfl)) mw_X6_axleOf ml_L_24 dL_act_231 (by rfl) rfl rfl (by decide) (by simp [Value.category]) ⟨by decide, by decide⟩ ⟨by decide, by decide⟩ ?_
            clear hC
            intro S231 hC
            refine g_iload K dL_act_234 rfl ?_
            refine g_icmp_ne (tgt := 270) K dL_act_236 (by decide) (fun u236 => absurd u236 (fun h => h rfl)) (fun u236 => ?_)
            refine g_aload_n K dL_act_239 rfl ?_
            refine g_iload K dL_act_240 rfl ?_
            refine g_iload K dL_act_242 rfl ?_
            refine g_iconst K dL_act_244 kc_1 ?_
            refine g_rdV K (rd hC (c_X6_axleOf hC) (na_1 hs2 hk2 hN5 rfl)) mw_X6_axleOf ml_L_24 dL_act_245 (by rfl) rfl rfl (by decide) (by simp [Value.category]) ⟨by decide, by decide⟩ ⟨by decide, by decide⟩ ?_
            clear hC
            intro S245 hC
            refine g_iload K dL_act_248 rfl ?_
            refine g_icmp_ne (tgt := 270) K dL_act_250 (by decide) (fun u250 => absurd u250 (fun h => h rfl)) (fun u250 => ?_)
            refine g_aload_n K dL_act_253 rfl ?_
            refine g_iload K dL_act_254 rfl ?_
            refine g_iload K dL_act_256 rfl ?_
            refine g_iconst K dL_act_258 kc_2 ?_
            refine g_rdV K (rd hC (c_X6_axleOf hC) (na_2 hs2 hk2 hN5 rfl)) mw_X6_axleOf ml_L_24 dL_act_259 (by rfl) rfl rfl (by decide) (by simp [Value.category]) ⟨by decide, by decide⟩ ⟨by decide, by decide⟩ ?_
            clear hC
            intro S259 hC
            refine g_if_ne (tgt := 270) K dL_act_262 (by decide) (fun u262 => absurd u262 (by decide)) (fun u262 => ?_)
            refine g_iload K dL_act_265 rfl ?_
            refine g_goto (tgt := 272) K dL_act_267 (by decide) ?_
            refine g_iret K dL_act_272 ⟨_, rfl, ?_⟩
            exact Or.inr ⟨nI_pos' (by omega), _, n2, by omega, (na_EZ hs hE.1 hk hq hN5 hd1 hd2).more (by omega) hB, hC⟩
        rcases Nat.eq_zero_or_pos (yn % 3) with h3 | h3
        · skip
          refine g_iconst K dL_act_166 kc_2 ?_
          refine g_iload_n K dL_act_167 rfl ?_
          refine g_bipush K dL_act_168 kb_7 ?_
          refine g_idiv K dL_act_170 (by first | assumption | decide) ?_
          refine g_nm (y := (nI (yn / 7))) (pk_div (d := 7) (by omega) (by decide) (by decide)) ?_
          refine g_iload_n K dL_act_171 rfl ?_
          refine g_iconst K dL_act_172 kc_3 ?_
          refine g_irem K dL_act_173 (by first | assumption | decide) ?_
          refine g_nm (y := 0) ((pk_rem (d := 3) (by omega) (by decide) (by decide)).trans (by rw [h3]; rfl)) ?_
          refine g_if_ne (tgt := 182) K dL_act_174 (by decide) (fun u174 => absurd u174 (by decide)) (fun u174 => ?_)
          refine g_bipush K dL_act_177 kb_39 ?_
          refine g_goto (tgt := 184) K dL_act_179 (by decide) ?_
          refine g_irem K dL_act_184 (by first | assumption | decide) ?_
          refine g_nm (y := (nI (yn / 7 % 39))) (pk_rem (d := 39) (by omega) (by decide) (by decide)) ?_
          refine g_iadd K dL_act_185 ?_
          refine g_nm (y := (nI (2 + yn / 7 % 39))) (nI_add 2 _) ?_
          refine g_istore (ls2 := [_, _, _, _, _, _, _, _, _, some (.int _), _, _, _, _, _, _]) K dL_act_186 (by decide) rfl ?_
          exact k188 _ _ hC (by omega) (by omega)
        · skip
          refine g_iconst K dL_act_166 kc_2 ?_
          refine g_iload_n K dL_act_167 rfl ?_
          refine g_bipush K dL_act_168 kb_7 ?_
          refine g_idiv K dL_act_170 (by first | assumption | decide) ?_
          refine g_nm (y := (nI (yn / 7))) (pk_div (d := 7) (by omega) (by decide) (by decide)) ?_
          refine g_iload_n K dL_act_171 rfl ?_
          refine g_iconst K dL_act_172 kc_3 ?_
          refine g_irem K dL_act_173 (by first | assumption | decide) ?_
          refine g_nm (y := (nI (yn % 3))) (pk_rem (d := 3) (by omega) (by decide) (by decide)) ?_
          refine g_if_ne (tgt := 182) K dL_act_174 (by decide) (fun u174 => ?_) (fun u174 => absurd u174 (nI_ne0 h3 (by omega)))
          refine g_bipush K dL_act_182 kb_9 ?_
          refine g_irem K dL_act_184 (by first | assumption | decide) ?_
          refine g_nm (y := (nI (yn / 7 % 9))) (pk_rem (d := 9) (by omega) (by decide) (by decide)) ?_
          refine g_iadd K dL_act_185 ?_
          refine g_nm (y := (nI (2 + yn / 7 % 9))) (nI_add 2 _) ?_
          refine g_istore (ls2 := [_, _, _, _, _, _, _, _, _, some (.int _), _, _, _, _, _, _]) K dL_act_186 (by decide) rfl ?_
          exact k188 _ _ hC (by omega) (by omega)
theorem c_L_act {l : Launch} {b : Nat} {D : va_G} {cA : Nat → ClassId} {ad : Nat → Nat} {S : ST} {A : AS} {n B xn : Nat} (hC : CRel S A n) (hE : EA A B) (hB : B + 1 < 2 ^ 31) (hx : xn < 2 ^ 31) : MT l b D cA NN ad zT yL_act cL_act 16 (some .int) 6 [.ref (ad 0), .int (nI xn)] S (RI (ActP A n B)) := c_L_act0 hC hE hB hx rfl rfl rfl
