set_option maxHeartbeats 4000000 in
set_option maxRecDepth 100000 in
theorem c_X6_init {l : Launch} {b : Nat} {D : va_G} {cA : Nat → ClassId} {ad : Nat → Nat} {Z : Nat → Nat → Bool} {S : ST}  (hCL : CL (1) Z S) (hS : ∀ i, S 0 i = 0) : MN l b D cA yX6_init cX6_init 1 4 180 1773 [.ref (ad 0)] (1) (181) ad Z S (PN iv0 0 (181) ad Z S) := by
  refine MN.intro (j := 0) (ls := [some (.ref (ad 0))]) pn_X6 rfl rfl rfl rfl (fun pr en s0 mi args below meth c' K hm hAO => ?_)
  refine g_aload_n K dX6_init_0 rfl ?_
  refine g_objInit K mj_X6_1 dX6_init_1 ⟨by decide, by decide⟩ ?_
  have hI := IV_start (iv := iv0) (td := fun a b => a = 0 ∧ 0 ≤ b) (sd := fun _ => False) (t := 0) (ad := ad) hCL (fun i _ => (hS i).trans (by rfl)) (fun j => ⟨rfl, Nat.zero_le j⟩)
  refine g_aload_n K dX6_init_4 rfl ?_
  refine g_newobj (ci := 5) (N := 5) (n2 := 2) K tyX5 rfl nw_X6_7 tyX5_ok df_X5 dX6_init_5 rfl (by decide) hI.2.2.1 rfl (by decide) (by decide) (fun ad1 had1 hCL1 => ?_)
  rw [← had1 0 (by omega)]
  refine g_dup K dX6_init_8 rfl ?_
  refine g_init (n1 := 28) K (c_X5_init st_1 hCL1 (fun i => congrFun str_s i)) mi_X5_init ml_X6_9 rfl (by decide +kernel) dX6_init_9 (by simp [Value.category]) ⟨by decide, by decide⟩ ⟨by decide, by decide⟩ hAO (fun ad2 Z2 S2 h2 => ?_)
  rw [← h2.1 0 (by omega), ← h2.1 1 (by omega)]
  have hI := IV_call (u := 1) (n1 := 28) hI (by omega) had1 h2 (fun a i a1 a2 _ _ => by
    unfold ivS iv0 iv55
    repeat' split
    all_goals first | rfl | omega)
  refine g_putf (t := 1) K lf_X6_10 hm dX6_init_12 rfl rfl (by decide) (by decide) rfl ?_
  have hI := IV_put (k := 0) (j := 0) (td2 := fun a b => a = 0 ∧ 1 ≤ b) hI (Nat.le_refl _) (by
    rw [rf_obj (by rw [show kd 0 = 6 from rfl]; decide), show rs 0 0 = 1 from rfl]
    omega) (fun a i hi hr q => by
    obtain ⟨rfl, q⟩ := q
    by_cases e : i ≤ 0
    · rw [rp_obj (show kd 0 = 6 from rfl) (by decide)] at hr
      rcases (show i = 0 by omega) with rfl
      · exact Or.inr ⟨rfl, rfl⟩
    · exact Or.inl ⟨rfl, by omega⟩)
  refine g_aload_n K dX6_init_15 rfl ?_
  refine g_newobj (ci := 5) (N := 5) (n2 := 29) K tyX5 rfl nw_X6_7 tyX5_ok df_X5 dX6_init_16 rfl (by decide) hI.2.2.1 rfl (by decide) (by decide) (fun ad3 had3 hCL3 => ?_)
  rw [← had3 0 (by omega)]
  refine g_dup K dX6_init_19 rfl ?_
  refine g_init (n1 := 55) K (c_X5_init st_28 hCL3 (fun i => congrFun str_s i)) mi_X5_init ml_X6_9 rfl (by decide +kernel) dX6_init_20 (by simp [Value.category]) ⟨by decide, by decide⟩ ⟨by decide, by decide⟩ hAO (fun ad4 Z4 S4 h4 => ?_)
  rw [← h4.1 0 (by omega), ← h4.1 28 (by omega)]
  have hI := IV_call (u := 28) (n1 := 55) hI (by omega) had3 h4 (fun a i a1 a2 _ _ => by
    unfold ivS iv0 iv55
    repeat' split
    all_goals first | rfl | omega)
  refine g_putf (t := 28) K lf_X6_16 hm dX6_init_23 rfl rfl (by decide) (by decide) rfl ?_
  have hI := IV_put (k := 0) (j := 1) (td2 := fun a b => a = 0 ∧ 2 ≤ b) hI (Nat.le_refl _) (by
    rw [rf_obj (by rw [show kd 0 = 6 from rfl]; decide), show rs 0 1 = 28 from rfl]
    omega) (fun a i hi hr q => by
    obtain ⟨rfl, q⟩ := q
    by_cases e : i ≤ 1
    · rw [rp_obj (show kd 0 = 6 from rfl) (by decide)] at hr
      rcases (show i = 1 by omega) with rfl
      · exact Or.inr ⟨rfl, rfl⟩
    · exact Or.inl ⟨rfl, by omega⟩)
  refine g_aload_n K dX6_init_26 rfl ?_
  refine g_newobj (ci := 2) (N := 2) (n2 := 56) K tyX2 rfl nw_X6_19 tyX2_ok df_X2 dX6_init_27 rfl (by decide) hI.2.2.1 rfl (by decide) (by decide) (fun ad5 had5 hCL5 => ?_)
  rw [← had5 0 (by omega)]
  refine g_dup K dX6_init_30 rfl ?_
  refine g_init (n1 := 165) K (c_X2_init hCL5 (fun i => congrFun str_s i)) mi_X2_init ml_X6_21 rfl (by decide +kernel) dX6_init_31 (by simp [Value.category]) ⟨by decide, by decide⟩ ⟨by decide, by decide⟩ hAO (fun ad6 Z6 S6 h6 => ?_)
  rw [← h6.1 0 (by omega), ← h6.1 55 (by omega)]
  have hI := IV_call (u := 55) (n1 := 165) hI (by omega) had5 h6 (fun a i a1 a2 _ _ => by
    unfold iv0
    rw [if_neg (by omega)])
  refine g_putf (t := 55) K lf_X6_22 hm dX6_init_34 rfl rfl (by decide) (by decide) rfl ?_
  have hI := IV_put (k := 0) (j := 2) (td2 := fun a b => a = 0 ∧ 3 ≤ b) hI (Nat.le_refl _) (by
    rw [rf_obj (by rw [show kd 0 = 6 from rfl]; decide), show rs 0 2 = 55 from rfl]
    omega) (fun a i hi hr q => by
    obtain ⟨rfl, q⟩ := q
    by_cases e : i ≤ 2
    · rw [rp_obj (show kd 0 = 6 from rfl) (by decide)] at hr
      rcases (show i = 2 by omega) with rfl
      · exact Or.inr ⟨rfl, rfl⟩
    · exact Or.inl ⟨rfl, by omega⟩)
  refine g_aload_n K dX6_init_37 rfl ?_
  refine g_newobj (ci := 1) (N := 11) (n2 := 166) K tyX1 rfl nw_X6_26 tyX1_ok df_X1 dX6_init_38 rfl (by decide) hI.2.2.1 rfl (by decide) (by decide) (fun ad7 had7 hCL7 => ?_)
  rw [← had7 0 (by omega)]
  refine g_dup K dX6_init_41 rfl ?_
  refine g_init (n1 := 169) K (c_X1_init hCL7 (fun i => congrFun str_s i)) mi_X1_init ml_X6_28 rfl (by decide +kernel) dX6_init_42 (by simp [Value.category]) ⟨by decide, by decide⟩ ⟨by decide, by decide⟩ hAO (fun ad8 Z8 S8 h8 => ?_)
  rw [← h8.1 0 (by omega), ← h8.1 165 (by omega)]
  have hI := IV_call (u := 165) (n1 := 169) hI (by omega) had7 h8 (fun a i a1 a2 _ _ => by
    unfold iv0 iv55
    repeat' split
    all_goals first | rfl | omega)
  refine g_putf (t := 165) K lf_X6_29 hm dX6_init_45 rfl rfl (by decide) (by decide) rfl ?_
  have hI := IV_put (k := 0) (j := 3) (td2 := fun a b => a = 0 ∧ 4 ≤ b) hI (Nat.le_refl _) (by
    rw [rf_obj (by rw [show kd 0 = 6 from rfl]; decide), show rs 0 3 = 165 from rfl]
    omega) (fun a i hi hr q => by
    obtain ⟨rfl, q⟩ := q
    by_cases e : i ≤ 3
    · rw [rp_obj (show kd 0 = 6 from rfl) (by decide)] at hr
      rcases (show i = 3 by omega) with rfl
      · exact Or.inr ⟨rfl, rfl⟩
    · exact Or.inl ⟨rfl, by omega⟩)
  refine g_aload_n K dX6_init_48 rfl ?_
  refine g_newobj (ci := 4) (N := 13) (n2 := 170) K tyX4 rfl nw_X6_33 tyX4_ok df_X4 dX6_init_49 rfl (by decide) hI.2.2.1 rfl (by decide) (by decide) (fun ad9 had9 hCL9 => ?_)
  rw [← had9 0 (by omega)]
  refine g_dup K dX6_init_52 rfl ?_
  refine g_init (n1 := 180) K (c_X4_init hCL9 (fun i => congrFun str_s i)) mi_X4_init ml_X6_35 rfl (by decide +kernel) dX6_init_53 (by simp [Value.category]) ⟨by decide, by decide⟩ ⟨by decide, by decide⟩ hAO (fun ad10 Z10 S10 h10 => ?_)
  rw [← h10.1 0 (by omega), ← h10.1 169 (by omega)]
  have hI := IV_call (u := 169) (n1 := 180) hI (by omega) had9 h10 (fun a i a1 a2 _ _ => by
    unfold iv0 iv55
    repeat' split
    all_goals first | rfl | omega)
  refine g_putf (t := 169) K lf_X6_36 hm dX6_init_56 rfl rfl (by decide) (by decide) rfl ?_
  have hI := IV_put (k := 0) (j := 4) (td2 := fun a b => a = 0 ∧ 5 ≤ b) hI (Nat.le_refl _) (by
    rw [rf_obj (by rw [show kd 0 = 6 from rfl]; decide), show rs 0 4 = 169 from rfl]
    omega) (fun a i hi hr q => by
    obtain ⟨rfl, q⟩ := q
    by_cases e : i ≤ 4
    · rw [rp_obj (show kd 0 = 6 from rfl) (by decide)] at hr
      rcases (show i = 4 by omega) with rfl
      · exact Or.inr ⟨rfl, rfl⟩
    · exact Or.inl ⟨rfl, by omega⟩)
  refine g_aload_n K dX6_init_59 rfl ?_
  refine g_bipush K dX6_init_60 kb_6 ?_
  refine g_newarr (t := 0) (N := 6) (ty := .int) (n2 := 181) K wa_int rfl rfl (by decide) rfl (by decide) dX6_init_62 rfl rfl rfl (by decide) hI.2.2.1 rfl (by decide) (by decide) (fun ad11 had11 _ => ?_)
  rw [← had11 0 (by omega)]
  have hI := IV_arr (n2 := 181) hI rfl (by omega) had11 (fun _ _ q => q) (fun j _ hr => rp_no (by decide) (by decide) hr) (Or.inr fun _ _ => rfl)
  refine g_putf (t := 180) K lf_X6_40 hm dX6_init_64 rfl rfl (by decide) (by decide) rfl ?_
  have hI := IV_put (k := 0) (j := 5) (td2 := fun a b => a = 0 ∧ 6 ≤ b) hI (Nat.le_refl _) (by
    rw [rf_obj (by rw [show kd 0 = 6 from rfl]; decide), show rs 0 5 = 180 from rfl]
    omega) (fun a i hi hr q => by
    obtain ⟨rfl, q⟩ := q
    by_cases e : i ≤ 5
    · rw [rp_obj (show kd 0 = 6 from rfl) (by decide)] at hr
      rcases (show i = 5 by omega) with rfl
      · exact Or.inr ⟨rfl, rfl⟩
    · exact Or.inl ⟨rfl, by omega⟩)
  refine g_aload_n K dX6_init_67 rfl ?_
  refine g_iconst K dX6_init_68 kc_0 ?_
  refine g_puti K lk_X6_44 lq_X6_6 dX6_init_69 (put_z (Or.inl rfl)) rfl (rfl : kd 0 = 6) (by decide) (by decide) ?_
  have hI := IV_row (k := 0) (S2 := stw _ 0 6 0) (sd2 := fun _ => False) hI (Nat.le_refl _) (by decide) (fun a ha => stw_n ha) (fun a q => Or.inl q) (Or.inr (fun i hi => by
    rw [stw_app]
    by_cases e : (0 : Nat) = 0 ∧ i = 6
    · rw [if_pos e]
      rfl
    · rw [if_neg e]
      exact hI.2.2.2.2.1 0 i (Nat.le_refl _) (by decide) hi (fun q => q)))
  exact g_vretN K dX6_init_72 rfl ⟨by decide, by decide⟩ (hI.fin (fun a j hj hr q => by
    obtain ⟨rfl, q⟩ := q
    rw [rp_obj (show kd 0 = 6 from rfl) (by decide)] at hr
    exact absurd ((by decide : ∀ j, j < 7 → 6 ≤ j → isR 6 j = false) j hj q) (by rw [hr]; decide)) (fun _ q => q))
set_option maxHeartbeats 4000000 in
set_option maxRecDepth 100000 in
theorem c_X7_init {l : Launch} {b : Nat} {D : va_G} {cA : Nat → ClassId} {ad : Nat → Nat} {Z : Nat → Nat → Bool} {S : ST}  (hCL : CL (182) Z S) (hS : ∀ i, S 181 i = 0) : MN l b D cA yX7_init cX7_init 1 1 12 1807 [.ref (ad 181)] (182) (194) ad Z S (PN ivM 181 (194) ad Z S) := by
  refine MN.intro (j := 0) (ls := [some (.ref (ad 181))]) pn_X7 rfl rfl rfl rfl (fun pr en s0 mi args below meth c' K hm hAO => ?_)
  refine g_aload_n K dX7_init_0 rfl ?_
  refine g_objInit K mj_X7_1 dX7_init_1 ⟨by decide, by decide⟩ ?_
  have hI := IV_start (iv := ivM) (td := fun a b => a = 181 ∧ 0 ≤ b) (sd := fun a => a = 182) (t := 181) (ad := ad) hCL (fun i _ => (hS i).trans (by rfl)) (fun j => ⟨rfl, Nat.zero_le j⟩)
  refine g_aload_n K dX7_init_4 rfl ?_
  refine g_sipush K dX7_init_5 kp_129 ?_
  refine g_newarr (t := 0) (N := 129) (ty := .int) (n2 := 183) K wa_int rfl rfl (by decide) rfl (by decide) dX7_init_8 rfl rfl rfl (by decide) hI.2.2.1 rfl (by decide) (by decide) (fun ad1 had1 _ => ?_)
  rw [← had1 181 (by omega)]
  have hI := IV_arr (n2 := 183) hI rfl (by omega) had1 (fun _ _ q => q) (fun j _ hr => rp_no (by decide) (by decide) hr) (Or.inl rfl)
  have hzz : ∀ i, sN S 182 182 i = 0 := fun i => congrFun str_s i
  refine g_putf (t := 182) K lf_X7_7 hm dX7_init_10 rfl rfl (by decide) (by decide) rfl ?_
  have hI := IV_put (k := 181) (j := 0) (td2 := fun a b => a = 181 ∧ 1 ≤ b) hI (Nat.le_refl _) (by
    rw [rf_obj (by rw [show kd 181 = 7 from rfl]; decide), show rs 181 0 = 182 from rfl]
    omega) (fun a i hi hr q => by
    obtain ⟨rfl, q⟩ := q
    by_cases e : i ≤ 0
    · rw [rp_obj (show kd 181 = 7 from rfl) (by decide)] at hr
      rcases (show i = 0 by omega) with rfl
      · exact Or.inr ⟨rfl, rfl⟩
    · exact Or.inl ⟨rfl, by omega⟩)
  refine g_aload_n K dX7_init_13 rfl ?_
  refine g_sipush K dX7_init_14 kp_516 ?_
  refine g_newarr (t := 0) (N := 516) (ty := .int) (n2 := 184) K wa_int rfl rfl (by decide) rfl (by decide) dX7_init_17 rfl rfl rfl (by decide) hI.2.2.1 rfl (by decide) (by decide) (fun ad2 had2 _ => ?_)
  rw [← had2 181 (by omega)]
  have hI := IV_arr (n2 := 184) hI rfl (by omega) had2 (fun _ _ q => q) (fun j _ hr => rp_no (by decide) (by decide) hr) (Or.inr fun i _ => if_neg (by decide))
  have hzz := fun i => (congrFun (show sN _ 183 182 = _ from str_n (by decide)) i).trans (hzz i)
  refine g_putf (t := 183) K lf_X7_13 hm dX7_init_19 rfl rfl (by decide) (by decide) rfl ?_
  have hI := IV_put (k := 181) (j := 1) (td2 := fun a b => a = 181 ∧ 2 ≤ b) hI (Nat.le_refl _) (by
    rw [rf_obj (by rw [show kd 181 = 7 from rfl]; decide), show rs 181 1 = 183 from rfl]
    omega) (fun a i hi hr q => by
    obtain ⟨rfl, q⟩ := q
    by_cases e : i ≤ 1
    · rw [rp_obj (show kd 181 = 7 from rfl) (by decide)] at hr
      rcases (show i = 1 by omega) with rfl
      · exact Or.inr ⟨rfl, rfl⟩
    · exact Or.inl ⟨rfl, by omega⟩)
  refine g_aload_n K dX7_init_22 rfl ?_
  refine g_sipush K dX7_init_23 kp_129 ?_
  refine g_newarr (t := 0) (N := 129) (ty := .int) (n2 := 185) K wa_int rfl rfl (by decide) rfl (by decide) dX7_init_26 rfl rfl rfl (by decide) hI.2.2.1 rfl (by decide) (by decide) (fun ad3 had3 _ => ?_)
  rw [← had3 181 (by omega)]
  have hI := IV_arr (n2 := 185) hI rfl (by omega) had3 (fun _ _ q => q) (fun j _ hr => rp_no (by decide) (by decide) hr) (Or.inr fun i _ => if_neg (by decide))
  have hzz := fun i => (congrFun (show sN _ 184 182 = _ from str_n (by decide)) i).trans (hzz i)
  refine g_putf (t := 184) K lf_X7_16 hm dX7_init_28 rfl rfl (by decide) (by decide) rfl ?_
  have hI := IV_put (k := 181) (j := 3) (td2 := fun a b => a = 181 ∧ 4 ≤ b) hI (Nat.le_refl _) (by
    rw [rf_obj (by rw [show kd 181 = 7 from rfl]; decide), show rs 181 3 = 184 from rfl]
    omega) (fun a i hi hr q => by
    obtain ⟨rfl, q⟩ := q
    by_cases e : i ≤ 3
    · rw [rp_obj (show kd 181 = 7 from rfl) (by decide)] at hr
      rcases (show i = 2 ∨ i = 3 by omega) with rfl | rfl
      · exact absurd hr (by decide)
      · exact Or.inr ⟨rfl, rfl⟩
    · exact Or.inl ⟨rfl, by omega⟩)
  refine g_aload_n K dX7_init_31 rfl ?_
  refine g_bipush K dX7_init_32 kb_60 ?_
  refine g_newarr (t := 0) (N := 60) (ty := .int) (n2 := 186) K wa_int rfl rfl (by decide) rfl (by decide) dX7_init_34 rfl rfl rfl (by decide) hI.2.2.1 rfl (by decide) (by decide) (fun ad4 had4 _ => ?_)
  rw [← had4 181 (by omega)]
  have hI := IV_arr (n2 := 186) hI rfl (by omega) had4 (fun _ _ q => q) (fun j _ hr => rp_no (by decide) (by decide) hr) (Or.inr fun i _ => if_neg (by decide))
  have hzz := fun i => (congrFun (show sN _ 185 182 = _ from str_n (by decide)) i).trans (hzz i)
  refine g_putf (t := 185) K lf_X7_19 hm dX7_init_36 rfl rfl (by decide) (by decide) rfl ?_
  have hI := IV_put (k := 181) (j := 5) (td2 := fun a b => a = 181 ∧ 6 ≤ b) hI (Nat.le_refl _) (by
    rw [rf_obj (by rw [show kd 181 = 7 from rfl]; decide), show rs 181 5 = 185 from rfl]
    omega) (fun a i hi hr q => by
    obtain ⟨rfl, q⟩ := q
    by_cases e : i ≤ 5
    · rw [rp_obj (show kd 181 = 7 from rfl) (by decide)] at hr
      rcases (show i = 4 ∨ i = 5 by omega) with rfl | rfl
      · exact absurd hr (by decide)
      · exact Or.inr ⟨rfl, rfl⟩
    · exact Or.inl ⟨rfl, by omega⟩)
  refine g_aload_n K dX7_init_39 rfl ?_
  refine g_iconst K dX7_init_40 kc_5 ?_
  refine g_newarr (t := 0) (N := 5) (ty := .int) (n2 := 187) K wa_int rfl rfl (by decide) rfl (by decide) dX7_init_41 rfl rfl rfl (by decide) hI.2.2.1 rfl (by decide) (by decide) (fun ad5 had5 _ => ?_)
  rw [← had5 181 (by omega)]
  have hI := IV_arr (n2 := 187) hI rfl (by omega) had5 (fun _ _ q => q) (fun j _ hr => rp_no (by decide) (by decide) hr) (Or.inr fun i _ => if_neg (by decide))
  have hzz := fun i => (congrFun (show sN _ 186 182 = _ from str_n (by decide)) i).trans (hzz i)
  refine g_putf (t := 186) K lf_X7_22 hm dX7_init_43 rfl rfl (by decide) (by decide) rfl ?_
  have hI := IV_put (k := 181) (j := 7) (td2 := fun a b => a = 181 ∧ 8 ≤ b) hI (Nat.le_refl _) (by
    rw [rf_obj (by rw [show kd 181 = 7 from rfl]; decide), show rs 181 7 = 186 from rfl]
    omega) (fun a i hi hr q => by
    obtain ⟨rfl, q⟩ := q
    by_cases e : i ≤ 7
    · rw [rp_obj (show kd 181 = 7 from rfl) (by decide)] at hr
      rcases (show i = 6 ∨ i = 7 by omega) with rfl | rfl
      · exact absurd hr (by decide)
      · exact Or.inr ⟨rfl, rfl⟩
    · exact Or.inl ⟨rfl, by omega⟩)
  refine g_aload_n K dX7_init_46 rfl ?_
  refine g_iconst K dX7_init_47 kc_5 ?_
  refine g_newarr (t := 0) (N := 5) (ty := .int) (n2 := 188) K wa_int rfl rfl (by decide) rfl (by decide) dX7_init_48 rfl rfl rfl (by decide) hI.2.2.1 rfl (by decide) (by decide) (fun ad6 had6 _ => ?_)
  rw [← had6 181 (by omega)]
  have hI := IV_arr (n2 := 188) hI rfl (by omega) had6 (fun _ _ q => q) (fun j _ hr => rp_no (by decide) (by decide) hr) (Or.inr fun i _ => if_neg (by decide))
  have hzz := fun i => (congrFun (show sN _ 187 182 = _ from str_n (by decide)) i).trans (hzz i)
  refine g_putf (t := 187) K lf_X7_25 hm dX7_init_50 rfl rfl (by decide) (by decide) rfl ?_
  have hI := IV_put (k := 181) (j := 8) (td2 := fun a b => a = 181 ∧ 9 ≤ b) hI (Nat.le_refl _) (by
    rw [rf_obj (by rw [show kd 181 = 7 from rfl]; decide), show rs 181 8 = 187 from rfl]
    omega) (fun a i hi hr q => by
    obtain ⟨rfl, q⟩ := q
    by_cases e : i ≤ 8
    · rw [rp_obj (show kd 181 = 7 from rfl) (by decide)] at hr
      rcases (show i = 8 by omega) with rfl
      · exact Or.inr ⟨rfl, rfl⟩
    · exact Or.inl ⟨rfl, by omega⟩)
  refine g_aload_n K dX7_init_53 rfl ?_
  refine g_bipush K dX7_init_54 kb_120 ?_
  refine g_newarr (t := 0) (N := 120) (ty := .int) (n2 := 189) K wa_int rfl rfl (by decide) rfl (by decide) dX7_init_56 rfl rfl rfl (by decide) hI.2.2.1 rfl (by decide) (by decide) (fun ad7 had7 _ => ?_)
  rw [← had7 181 (by omega)]
  have hI := IV_arr (n2 := 189) hI rfl (by omega) had7 (fun _ _ q => q) (fun j _ hr => rp_no (by decide) (by decide) hr) (Or.inr fun i _ => if_neg (by decide))
  have hzz := fun i => (congrFun (show sN _ 188 182 = _ from str_n (by decide)) i).trans (hzz i)
  refine g_putf (t := 188) K lf_X7_28 hm dX7_init_58 rfl rfl (by decide) (by decide) rfl ?_
  have hI := IV_put (k := 181) (j := 9) (td2 := fun a b => a = 181 ∧ 10 ≤ b) hI (Nat.le_refl _) (by
    rw [rf_obj (by rw [show kd 181 = 7 from rfl]; decide), show rs 181 9 = 188 from rfl]
    omega) (fun a i hi hr q => by
    obtain ⟨rfl, q⟩ := q
    by_cases e : i ≤ 9
    · rw [rp_obj (show kd 181 = 7 from rfl) (by decide)] at hr
      rcases (show i = 9 by omega) with rfl
      · exact Or.inr ⟨rfl, rfl⟩
    · exact Or.inl ⟨rfl, by omega⟩)
  refine g_aload_n K dX7_init_61 rfl ?_
  refine g_bipush K dX7_init_62 kb_120 ?_
  refine g_newarr (t := 0) (N := 120) (ty := .int) (n2 := 190) K wa_int rfl rfl (by decide) rfl (by decide) dX7_init_64 rfl rfl rfl (by decide) hI.2.2.1 rfl (by decide) (by decide) (fun ad8 had8 _ => ?_)
  rw [← had8 181 (by omega)]
  have hI := IV_arr (n2 := 190) hI rfl (by omega) had8 (fun _ _ q => q) (fun j _ hr => rp_no (by decide) (by decide) hr) (Or.inr fun i _ => if_neg (by decide))
  have hzz := fun i => (congrFun (show sN _ 189 182 = _ from str_n (by decide)) i).trans (hzz i)
  refine g_putf (t := 189) K lf_X7_31 hm dX7_init_66 rfl rfl (by decide) (by decide) rfl ?_
  have hI := IV_put (k := 181) (j := 10) (td2 := fun a b => a = 181 ∧ 11 ≤ b) hI (Nat.le_refl _) (by
    rw [rf_obj (by rw [show kd 181 = 7 from rfl]; decide), show rs 181 10 = 189 from rfl]
    omega) (fun a i hi hr q => by
    obtain ⟨rfl, q⟩ := q
    by_cases e : i ≤ 10
    · rw [rp_obj (show kd 181 = 7 from rfl) (by decide)] at hr
      rcases (show i = 10 by omega) with rfl
      · exact Or.inr ⟨rfl, rfl⟩
    · exact Or.inl ⟨rfl, by omega⟩)
  refine g_aload_n K dX7_init_69 rfl ?_
  refine g_bipush K dX7_init_70 kb_120 ?_
  refine g_newarr (t := 0) (N := 120) (ty := .int) (n2 := 191) K wa_int rfl rfl (by decide) rfl (by decide) dX7_init_72 rfl rfl rfl (by decide) hI.2.2.1 rfl (by decide) (by decide) (fun ad9 had9 _ => ?_)
  rw [← had9 181 (by omega)]
  have hI := IV_arr (n2 := 191) hI rfl (by omega) had9 (fun _ _ q => q) (fun j _ hr => rp_no (by decide) (by decide) hr) (Or.inr fun i _ => if_neg (by decide))
  have hzz := fun i => (congrFun (show sN _ 190 182 = _ from str_n (by decide)) i).trans (hzz i)
  refine g_putf (t := 190) K lf_X7_34 hm dX7_init_74 rfl rfl (by decide) (by decide) rfl ?_
  have hI := IV_put (k := 181) (j := 11) (td2 := fun a b => a = 181 ∧ 12 ≤ b) hI (Nat.le_refl _) (by
    rw [rf_obj (by rw [show kd 181 = 7 from rfl]; decide), show rs 181 11 = 190 from rfl]
    omega) (fun a i hi hr q => by
    obtain ⟨rfl, q⟩ := q
    by_cases e : i ≤ 11
    · rw [rp_obj (show kd 181 = 7 from rfl) (by decide)] at hr
      rcases (show i = 11 by omega) with rfl
      · exact Or.inr ⟨rfl, rfl⟩
    · exact Or.inl ⟨rfl, by omega⟩)
  refine g_aload_n K dX7_init_77 rfl ?_
  refine g_bipush K dX7_init_78 kb_120 ?_
  refine g_newarr (t := 0) (N := 120) (ty := .int) (n2 := 192) K wa_int rfl rfl (by decide) rfl (by decide) dX7_init_80 rfl rfl rfl (by decide) hI.2.2.1 rfl (by decide) (by decide) (fun ad10 had10 _ => ?_)
  rw [← had10 181 (by omega)]
  have hI := IV_arr (n2 := 192) hI rfl (by omega) had10 (fun _ _ q => q) (fun j _ hr => rp_no (by decide) (by decide) hr) (Or.inr fun i _ => if_neg (by decide))
  have hzz := fun i => (congrFun (show sN _ 191 182 = _ from str_n (by decide)) i).trans (hzz i)
  refine g_putf (t := 191) K lf_X7_37 hm dX7_init_82 rfl rfl (by decide) (by decide) rfl ?_
  have hI := IV_put (k := 181) (j := 12) (td2 := fun a b => a = 181 ∧ 13 ≤ b) hI (Nat.le_refl _) (by
    rw [rf_obj (by rw [show kd 181 = 7 from rfl]; decide), show rs 181 12 = 191 from rfl]
    omega) (fun a i hi hr q => by
    obtain ⟨rfl, q⟩ := q
    by_cases e : i ≤ 12
    · rw [rp_obj (show kd 181 = 7 from rfl) (by decide)] at hr
      rcases (show i = 12 by omega) with rfl
      · exact Or.inr ⟨rfl, rfl⟩
    · exact Or.inl ⟨rfl, by omega⟩)
  refine g_aload_n K dX7_init_85 rfl ?_
  refine g_bipush K dX7_init_86 kb_120 ?_
  refine g_newarr (t := 0) (N := 120) (ty := .int) (n2 := 193) K wa_int rfl rfl (by decide) rfl (by decide) dX7_init_88 rfl rfl rfl (by decide) hI.2.2.1 rfl (by decide) (by decide) (fun ad11 had11 _ => ?_)
  rw [← had11 181 (by omega)]
  have hI := IV_arr (n2 := 193) hI rfl (by omega) had11 (fun _ _ q => q) (fun j _ hr => rp_no (by decide) (by decide) hr) (Or.inr fun i _ => if_neg (by decide))
  have hzz := fun i => (congrFun (show sN _ 192 182 = _ from str_n (by decide)) i).trans (hzz i)
  refine g_putf (t := 192) K lf_X7_40 hm dX7_init_90 rfl rfl (by decide) (by decide) rfl ?_
  have hI := IV_put (k := 181) (j := 13) (td2 := fun a b => a = 181 ∧ 14 ≤ b) hI (Nat.le_refl _) (by
    rw [rf_obj (by rw [show kd 181 = 7 from rfl]; decide), show rs 181 13 = 192 from rfl]
    omega) (fun a i hi hr q => by
    obtain ⟨rfl, q⟩ := q
    by_cases e : i ≤ 13
    · rw [rp_obj (show kd 181 = 7 from rfl) (by decide)] at hr
      rcases (show i = 13 by omega) with rfl
      · exact Or.inr ⟨rfl, rfl⟩
    · exact Or.inl ⟨rfl, by omega⟩)
  refine g_aload_n K dX7_init_93 rfl ?_
  refine g_sipush K dX7_init_94 kp_363 ?_
  refine g_newarr (t := 0) (N := 363) (ty := .int) (n2 := 194) K wa_int rfl rfl (by decide) rfl (by decide) dX7_init_97 rfl rfl rfl (by decide) hI.2.2.1 rfl (by decide) (by decide) (fun ad12 had12 _ => ?_)
  rw [← had12 181 (by omega)]
  have hI := IV_arr (n2 := 194) hI rfl (by omega) had12 (fun _ _ q => q) (fun j _ hr => rp_no (by decide) (by decide) hr) (Or.inr fun i _ => if_neg (by decide))
  have hzz := fun i => (congrFun (show sN _ 193 182 = _ from str_n (by decide)) i).trans (hzz i)
  refine g_putf (t := 193) K lf_X7_43 hm dX7_init_99 rfl rfl (by decide) (by decide) rfl ?_
  have hI := IV_put (k := 181) (j := 21) (td2 := fun a b => a = 181 ∧ 22 ≤ b) hI (Nat.le_refl _) (by
    rw [rf_obj (by rw [show kd 181 = 7 from rfl]; decide), show rs 181 21 = 193 from rfl]
    omega) (fun a i hi hr q => by
    obtain ⟨rfl, q⟩ := q
    by_cases e : i ≤ 21
    · rw [rp_obj (show kd 181 = 7 from rfl) (by decide)] at hr
      rcases (show i = 14 ∨ i = 15 ∨ i = 16 ∨ i = 17 ∨ i = 18 ∨ i = 19 ∨ i = 20 ∨ i = 21 by omega) with rfl | rfl | rfl | rfl | rfl | rfl | rfl | rfl
      · exact absurd hr (by decide)
      · exact absurd hr (by decide)
      · exact absurd hr (by decide)
      · exact absurd hr (by decide)
      · exact absurd hr (by decide)
      · exact absurd hr (by decide)
      · exact absurd hr (by decide)
      · exact Or.inr ⟨rfl, rfl⟩
    · exact Or.inl ⟨rfl, by omega⟩)
  have hz0 := hI.2.2.2.1 181 0 (Nat.le_refl _) (by decide) (by decide) (by decide) (fun q => absurd q.2 (by decide))
  refine g_aload_n K dX7_init_102 rfl ?_
  refine g_getr (j := 182) K lk_X7_7 dX7_init_103 rfl (by decide) (rfl : kd 181 = 7) (by decide) (by decide) hz0 rfl ?_
  refine g_iconst K dX7_init_106 kc_0 ?_
  refine g_bipush K dX7_init_107 kb_40 ?_
  refine g_iast (j := 0) K dX7_init_109 rfl ln_182 (by decide) (rfl : kd 182 = 8) (by decide) rfl ?_
  refine g_aload_n K dX7_init_110 rfl ?_
  refine g_getr (j := 182) K lk_X7_7 dX7_init_111 rfl (by decide) (rfl : kd 181 = 7) (by decide) (by decide) hz0 rfl ?_
  refine g_iconst K dX7_init_114 kc_1 ?_
  refine g_bipush K dX7_init_115 kb_40 ?_
  refine g_iast (j := 1) K dX7_init_117 rfl ln_182 (by decide) (rfl : kd 182 = 8) (by decide) rfl ?_
  refine g_aload_n K dX7_init_118 rfl ?_
  refine g_getr (j := 182) K lk_X7_7 dX7_init_119 rfl (by decide) (rfl : kd 181 = 7) (by decide) (by decide) hz0 rfl ?_
  refine g_iconst K dX7_init_122 kc_2 ?_
  refine g_bipush K dX7_init_123 kb_60 ?_
  refine g_iast (j := 2) K dX7_init_125 rfl ln_182 (by decide) (rfl : kd 182 = 8) (by decide) rfl ?_
  refine g_aload_n K dX7_init_126 rfl ?_
  refine g_getr (j := 182) K lk_X7_7 dX7_init_127 rfl (by decide) (rfl : kd 181 = 7) (by decide) (by decide) hz0 rfl ?_
  refine g_iconst K dX7_init_130 kc_3 ?_
  refine g_iconst K dX7_init_131 kc_4 ?_
  refine g_iast (j := 3) K dX7_init_132 rfl ln_182 (by decide) (rfl : kd 182 = 8) (by decide) rfl ?_
  refine g_aload_n K dX7_init_133 rfl ?_
  refine g_getr (j := 182) K lk_X7_7 dX7_init_134 rfl (by decide) (rfl : kd 181 = 7) (by decide) (by decide) hz0 rfl ?_
  refine g_iconst K dX7_init_137 kc_4 ?_
  refine g_iconst K dX7_init_138 kc_3 ?_
  refine g_iast (j := 4) K dX7_init_139 rfl ln_182 (by decide) (rfl : kd 182 = 8) (by decide) rfl ?_
  refine g_aload_n K dX7_init_140 rfl ?_
  refine g_getr (j := 182) K lk_X7_7 dX7_init_141 rfl (by decide) (rfl : kd 181 = 7) (by decide) (by decide) hz0 rfl ?_
  refine g_iconst K dX7_init_144 kc_5 ?_
  refine g_bipush K dX7_init_145 kb_12 ?_
  refine g_iast (j := 5) K dX7_init_147 rfl ln_182 (by decide) (rfl : kd 182 = 8) (by decide) rfl ?_
  generalize hSS : sN _ 193 = SS at hI hzz ⊢
  have hI := IV_row (k := 182) (S2 := stw (stw (stw (stw (stw (stw SS 182 0 40) 182 1 40) 182 2 60) 182 3 4) 182 4 3) 182 5 12) (sd2 := fun _ => False) hI (by decide) (by decide) (fun a ha => by rw [stw_n ha, stw_n ha, stw_n ha, stw_n ha, stw_n ha, stw_n ha]) (fun a q => Or.inr q) (Or.inr (fun i hi => by
    show _ = firstS i
    by_cases e : i < 6
    · rcases (show i = 0 ∨ i = 1 ∨ i = 2 ∨ i = 3 ∨ i = 4 ∨ i = 5 by omega) with rfl | rfl | rfl | rfl | rfl | rfl <;> simp [stw_app, firstS]
    · rw [firstS_ge (by omega)]
      simp only [stw_app]
      rw [if_neg (by omega), if_neg (by omega), if_neg (by omega), if_neg (by omega), if_neg (by omega), if_neg (by omega)]
      exact hzz i))
  exact g_vretN K dX7_init_148 rfl ⟨by decide, by decide⟩ (hI.fin (fun a j hj hr q => by
    obtain ⟨rfl, q⟩ := q
    rw [rp_obj (show kd 181 = 7 from rfl) (by decide)] at hr
    exact absurd ((by decide : ∀ j, j < 23 → 22 ≤ j → isR 7 j = false) j hj q) (by rw [hr]; decide)) (fun _ q => q))
