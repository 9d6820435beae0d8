set_option maxHeartbeats 4000000 in
set_option maxRecDepth 100000 in
theorem c_X6_init {l : Launch} {b : Nat} {D : va_G} {cA : Nat → ClassId} {ad : Nat → Nat} {Z : Nat → Nat → Bool} {S : ST}  (hCL : CL (1) Z S) (hS : ∀ i, S 0 i = 0) : MN l b D cA yX6_init cX6_init 1 4 180 1773 [.ref (ad 0)] (1) (181) ad Z S (PN iv0 0 (181) ad Z S) := by
  refine MN.intro (j := 0) (ls := [some (.ref (ad 0))]) pn_X6 rfl rfl rfl rfl (fun pr en s0 mi args below meth c' K hm hAO => ?_)
  refine g_aload_n K dX6_init_0 rfl ?_
  refine g_objInit K mj_X6_1 dX6_init_1 ⟨by decide, by decide⟩ ?_
  have hI := IV_start (iv := iv0) (td := fun a b => a = 0 ∧ 0 ≤ b) (sd := fun _ => False) (t := 0) (ad := ad) hCL (fun i _ => (hS i).trans (by rfl)) (fun j => ⟨rfl, Nat.zero_le j⟩)
  refine g_aload_n K dX6_init_4 rfl ?_
  refine g_newobj (ci := 5) (N := 5) (n2 := 2) K tyX5 rfl nw_X6_7 tyX5_ok df_X5 dX6_init_5 rfl (by decide) hI.2.2.1 rfl (by decide) (by decide) (fun ad1 had1 hCL1 => ?_)
  rw [← had1 0 (by omega)]
  refine g_dup K dX6_init_8 rfl ?_
  refine g_init (n1 := 28) K (c_X5_init st_1 hCL1 (fun i => congrFun str_s i)) mi_X5_init ml_X6_9 rfl (by decide +kernel) dX6_init_9 (by simp [Value.category]) ⟨by decide, by decide⟩ ⟨by decide, by decide⟩ hAO (fun ad2 Z2 S2 h2 => ?_)
  rw [← h2.1 0 (by omega), ← h2.1 1 (by omega)]
  have hI := IV_call (u := 1) (n1 := 28) hI (by omega) had1 h2 (fun a i a1 a2 _ _ => by
    unfold ivS iv0 iv55
    repeat' split
    all_goals first | rfl | omega)
  refine g_putf (t := 1) K lf_X6_10 hm dX6_init_12 rfl rfl (by decide) (by decide) rfl ?_
  have hI := IV_put (k := 0) (j := 0) (td2 := fun a b => a = 0 ∧ 1 ≤ b) hI (Nat.le_refl _) (by
    rw [rf_obj (by rw [show kd 0 = 6 from rfl]; decide), show rs 0 0 = 1 from rfl]
    omega) (fun a i hi hr q => by
    obtain ⟨rfl, q⟩ := q
    by_cases e : i ≤ 0
    · rw [rp_obj (show kd 0 = 6 from rfl) (by decide)] at hr
      rcases (show i = 0 by omega) with rfl
      · exact Or.inr ⟨rfl, rfl⟩
    · exact Or.inl ⟨rfl, by omega⟩)
  refine g_aload_n K dX6_init_15 rfl ?_
  refine g_newobj (ci := 5) (N := 5) (n2 := 29) K tyX5 rfl nw_X6_7 tyX5_ok df_X5 dX6_init_16 rfl (by decide) hI.2.2.1 rfl (by decide) (by decide) (fun ad3 had3 hCL3 => ?_)
  rw [← had3 0 (by omega)]
  refine g_dup K dX6_init_19 rfl ?_
  refine g_init (n1 := 55) K (c_X5_init st_28 hCL3 (fun i => congrFun str_s i)) mi_X5_init ml_X6_9 rfl (by decide +kernel) dX6_init_20 (by simp [Value.category]) ⟨by decide, by decide⟩ ⟨by decide, by decide⟩ hAO (fun ad4 Z4 S4 h4 => ?_)
  rw [← h4.1 0 (by omega), ← h4.1 28 (by omega)]
  have hI := IV_call (u := 28) (n1 := 55) hI (by omega) had3 h4 (fun a i a1 a2 _ _ => by
    unfold ivS iv0 iv55
    repeat' split
    all_goals first | rfl | omega)
  refine g_putf (t := 28) K lf_X6_16 hm dX6_init_23 rfl rfl (by decide) (by decide) rfl ?_
  have hI := IV_put (k := 0) (j := 1) (td2 := fun a b => a = 0 ∧ 2 ≤ b) hI (Nat.le_refl _) (by
    rw [rf_obj (by rw [show kd 0 = 6 from rfl]; decide), show rs 0 1 = 28 from rfl]
    omega) (fun a i hi hr q => by
    obtain ⟨rfl, q⟩ := q
    by_cases e : i ≤ 1
    · rw [rp_obj (show kd 0 = 6 from rfl) (by decide)] at hr
      rcases (show i = 1 by omega) with rfl
      · exact Or.inr ⟨rfl, rfl⟩
    · exact Or.inl ⟨rfl, by omega⟩)
  refine g_aload_n K dX6_init_26 rfl ?_
  refine g_newobj (ci := 2) (N := 2) (n2 := 56) K tyX2 rfl nw_X6_19 tyX2_ok df_X2 dX6_init_27 rfl (by decide) hI.2.2.1 rfl (by decide) (by decide) (fun ad5 had5 hCL5 => ?_)
  rw [← had5 0 (by omega)]
  refine g_dup K dX6_init_30 rfl ?_
  refine g_init (n1 := 165) K (c_X2_init hCL5 (fun i => congrFun str_s i)) mi_X2_init ml_X6_21 rfl (by decide +kernel) dX6_init_31 (by simp [Value.category]) ⟨by decide, by decide⟩ ⟨by decide, by decide⟩ hAO (fun ad6 Z6 S6 h6 => ?_)
  rw [← h6.1 0 (by omega), ← h6.1 55 (by omega)]
  have hI := IV_call (u := 55) (n1 := 165) hI (by omega) had5 h6 (fun a i a1 a2 _ _ => by
    unfold iv0
    rw [if_neg (by omega)])
  refine g_putf (t := 55) K lf_X6_22 hm dX6_init_34 rfl rfl (by decide) (by decide) rfl ?_
  have hI := IV_put (k := 0) (j := 2) (td2 := fun a b => a = 0 ∧ 3 ≤ b) hI (Nat.le_refl _) (by
    rw [rf_obj (by rw [show kd 0 = 6 from rfl]; decide), show rs 0 2 = 55 from rfl]
    omega) (fun a i hi hr q => by
    obtain ⟨rfl, q⟩ := q
    by_cases e : i ≤ 2
    · rw [rp_obj (show kd 0 = 6 from rfl) (by decide)] at hr
      rcases (show i = 2 by omega) with rfl
      · exact Or.inr ⟨rfl, rfl⟩
    · exact Or.inl ⟨rfl, by omega⟩)
  refine g_aload_n K dX6_init_37 rfl ?_
  refine g_newobj (ci := 1) (N := 11) (n2 := 166) K tyX1 rfl nw_X6_26 tyX1_ok df_X1 dX6_init_38 rfl (by decide) hI.2.2.1 rfl (by decide) (by decide) (fun ad7 had7 hCL7 => ?_)
  rw [← had7 0 (by omega)]
  refine g_dup K dX6_init_41 rfl ?_
  refine g_init (n1 := 169) K (c_X1_init hCL7 (fun i => congrFun str_s i)) mi_X1_init ml_X6_28 rfl (by decide +kernel) dX6_init_42 (by simp [Value.category]) ⟨by decide, by decide⟩ ⟨by decide, by decide⟩ hAO (fun ad8 Z8 S8 h8 => ?_)
  rw [← h8.1 0 (by omega), ← h8.1 165 (by omega)]
  have hI := IV_call (u := 165) (n1 := 169) hI (by omega) had7 h8 (fun a i a1 a2 _ _ => by
    unfold iv0 iv55
    repeat' split
    all_goals first | rfl | omega)
  refine g_putf (t := 165) K lf_X6_29 hm dX6_init_45 rfl rfl (by decide) (by decide) rfl ?_
  have hI := IV_put (k := 0) (j := 3) (td2 := fun a b => a = 0 ∧ 4 ≤ b) hI (Nat.le_refl _) (by
    rw [rf_obj (by rw [show kd 0 = 6 from rfl]; decide), show rs 0 3 = 165 from rfl]
    omega) (fun a i hi hr q => by
    obtain ⟨rfl, q⟩ := q
    by_cases e : i ≤ 3
    · rw [rp_obj (show kd 0 = 6 from rfl) (by decide)] at hr
      rcases (show i = 3 by omega) with rfl
      · exact Or.inr ⟨rfl, rfl⟩
    · exact Or.inl ⟨rfl, by omega⟩)
  refine g_aload_n K dX6_init_48 rfl ?_
  refine g_newobj (ci := 4) (N := 13) (n2 := 170) K tyX4 rfl nw_X6_33 tyX4_ok df_X4 dX6_init_49 rfl (by decide) hI.2.2.1 rfl (by decide) (by decide) (fun ad9 had9 hCL9 => ?_)
  rw [← had9 0 (by omega)]
  refine g_dup K dX6_init_52 rfl ?_
  refine g_init (n1 := 180) K (c_X4_init hCL9 (fun i => congrFun str_s i)) mi_X4_init ml_X6_35 rfl (by decide +kernel) dX6_init_53 (by simp [Value.category]) ⟨by decide, by decide⟩ ⟨by decide, by decide⟩ hAO (fun ad10 Z10 S10 h10 => ?_)
  rw [← h10.1 0 (by omega), ← h10.1 169 (by omega)]
  have hI := IV_call (u := 169) (n1 := 180) hI (by omega) had9 h10 (fun a i a1 a2 _ _ => by
    unfold iv0 iv55
    repeat' split
    all_goals first | rfl | omega)
  refine g_putf (t := 169) K lf_X6_36 hm dX6_init_56 rfl rfl (by decide) (by decide) rfl ?_
  have hI := IV_put (k := 0) (j := 4) (td2 := fun a b => a = 0 ∧ 5 ≤ b) hI (Nat.le_refl _) (by
    rw [rf_obj (by rw [show kd 0 = 6 from rfl]; decide), show rs 0 4 = 169 from rfl]
    omega) (fun a i hi hr q => by
    obtain ⟨rfl, q⟩ := q
    by_cases e : i ≤ 4
    · rw [rp_obj (show kd 0 = 6 from rfl) (by decide)] at hr
      rcases (show i = 4 by omega) with rfl
      · exact Or.inr ⟨rfl, rfl⟩
    · exact Or.inl ⟨rfl, by omega⟩)
  refine g_aload_n K dX6_init_59 rfl ?_
  refine g_bipush K dX6_init_60 kb_6 ?_
  refine g_newarr (t := 0) (N := 6) (ty := .int) (n2 := 181) K wa_int rfl rfl (by decide) rfl (by decide) dX6_init_62 rfl rfl rfl (by decide) hI.2.2.1 rfl (by decide) (by decide) (fun ad11 had11 _ => ?_)
  rw [← had11 0 (by omega)]
  have hI := IV_arr (n2 := 181) hI rfl (by omega) had11 (fun _ _ q => q) (fun j _ hr => rp_no (by decide) (by decide) hr) (Or.inr fun _ _ => rfl)
  refine g_putf (t := 180) K lf_X6_40 hm dX6_init_64 rfl rfl (by decide) (by decide) rfl ?_
  have hI := IV_put (k := 0) (j := 5) (td2 := fun a b => a = 0 ∧ 6 ≤ b) hI (Nat.le_refl _) (by
    rw [rf_obj (by rw [show kd 0 = 6 from rfl]; decide), show rs 0 5 = 180 from rfl]
    omega) (fun a i hi hr q => by
    obtain ⟨rfl, q⟩ := q
    by_cases e : i ≤ 5
    · rw [rp_obj (show kd 0 = 6 from rfl) (by decide)] at hr
      rcases (show i = 5 by omega) with rfl
      · exact Or.inr ⟨rfl, rfl⟩
    · exact Or.inl ⟨rfl, by omega⟩)
  refine g_aload_n K dX6_init_67 rfl ?_
  refine g_iconst K dX6_init_68 kc_0 ?_
  refine g_puti K lk_X6_44 lq_X6_6 dX6_init_69 (put_z (Or.inl rfl)) rfl (rfl : kd 0 = 6) (by decide) (by decide) ?_
  have hI := IV_row (k := 0) (S2 := stw _ 0 6 0) (sd2 := fun _ => False) hI (Nat.le_refl _) (by decide) (fun a ha => stw_n ha) (fun a q => Or.inl q) (Or.inr (fun i hi => by
    rw [stw_app]
    by_cases e : (0 : Nat) = 0 ∧ i = 6
    · rw [if_pos e]
      rfl
    · rw [if_neg e]
      exact hI.2.2.2.2.1 0 i (Nat.le_refl _) (by decide) hi (fun q => q)))
  exact g_vretN K dX6_init_72 rfl ⟨by decide, by decide⟩ (hI.fin (fun a j hj hr q => by
    obtain ⟨rfl, q⟩ := q
    rw [rp_obj (show kd 0 = 6 from rfl) (by decide)] at hr
    exact absurd ((by decide : ∀ j, j < 7 → 6 ≤ j → isR 6 j = false) j hj q) (by rw [hr]; decide)) (fun _ q => q))
