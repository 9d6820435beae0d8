theorem nw_L_15 : Cond.classLink RL 15 RX6 ∈ BIG ∧ Cond.instantiable RX6 7 ∈ BIG ∧ Cond.initialized RX6 ∈ BIG := ⟨big_at 10 (by decide +kernel) (by decide +kernel), big_at 11 (by decide +kernel) (by decide +kernel), big_at 1 (by decide +kernel) (by decide +kernel)⟩
theorem nw_X6_7 : Cond.classLink RX6 7 RX5 ∈ BIG ∧ Cond.instantiable RX5 5 ∈ BIG ∧ Cond.initialized RX5 ∈ BIG := ⟨big_at 18 (by decide +kernel) (by decide +kernel), big_at 19 (by decide +kernel) (by decide +kernel), big_at 2 (by decide +kernel) (by decide +kernel)⟩
theorem nw_X5_9 : Cond.classLink RX5 9 RX0 ∈ BIG ∧ Cond.instantiable RX0 8 ∈ BIG ∧ Cond.initialized RX0 ∈ BIG := ⟨big_at 24 (by decide +kernel) (by decide +kernel), big_at 26 (by decide +kernel) (by decide +kernel), big_at 3 (by decide +kernel) (by decide +kernel)⟩
theorem nw_X6_19 : Cond.classLink RX6 19 RX2 ∈ BIG ∧ Cond.instantiable RX2 2 ∈ BIG ∧ Cond.initialized RX2 ∈ BIG := ⟨big_at 95 (by decide +kernel) (by decide +kernel), big_at 96 (by decide +kernel) (by decide +kernel), big_at 5 (by decide +kernel) (by decide +kernel)⟩
theorem nw_X2_9 : Cond.classLink RX2 9 RX5 ∈ BIG ∧ Cond.instantiable RX5 5 ∈ BIG ∧ Cond.initialized RX5 ∈ BIG := ⟨big_at 101 (by decide +kernel) (by decide +kernel), big_at 19 (by decide +kernel) (by decide +kernel), big_at 2 (by decide +kernel) (by decide +kernel)⟩
theorem nw_X6_26 : Cond.classLink RX6 26 RX1 ∈ BIG ∧ Cond.instantiable RX1 11 ∈ BIG ∧ Cond.initialized RX1 ∈ BIG := ⟨big_at 112 (by decide +kernel) (by decide +kernel), big_at 113 (by decide +kernel) (by decide +kernel), big_at 6 (by decide +kernel) (by decide +kernel)⟩
theorem nw_X6_33 : Cond.classLink RX6 33 RX4 ∈ BIG ∧ Cond.instantiable RX4 13 ∈ BIG ∧ Cond.initialized RX4 ∈ BIG := ⟨big_at 156 (by decide +kernel) (by decide +kernel), big_at 157 (by decide +kernel) (by decide +kernel), big_at 7 (by decide +kernel) (by decide +kernel)⟩
theorem nw_X4_28 : Cond.classLink RX4 28 RX3 ∈ BIG ∧ Cond.instantiable RX3 6 ∈ BIG ∧ Cond.initialized RX3 ∈ BIG := ⟨big_at 162 (by decide +kernel) (by decide +kernel), big_at 163 (by decide +kernel) (by decide +kernel), big_at 8 (by decide +kernel) (by decide +kernel)⟩
theorem wa_int : Cond.arrayClass (newarray.typeOf .int) ∈ BIG := big_at 68 (by decide +kernel) (by decide +kernel)
theorem wa_boolean : Cond.arrayClass (newarray.typeOf .boolean) ∈ BIG := big_at 69 (by decide +kernel) (by decide +kernel)
theorem wa_char : Cond.arrayClass (newarray.typeOf .char) ∈ BIG := big_at 155 (by decide +kernel) (by decide +kernel)
theorem df_X0 : ∀ j, j < 8 → defaultValue (tyX0 j) = if isR 0 j = true then Value.null else .int 0 := by
  intro j hj
  rcases (show j = 0 ∨ j = 1 ∨ j = 2 ∨ j = 3 ∨ j = 4 ∨ j = 5 ∨ j = 6 ∨ j = 7 by omega) with rfl | rfl | rfl | rfl | rfl | rfl | rfl | rfl <;> rfl
theorem df_X1 : ∀ j, j < 11 → defaultValue (tyX1 j) = if isR 1 j = true then Value.null else .int 0 := by
  intro j hj
  rcases (show j = 0 ∨ j = 1 ∨ j = 2 ∨ j = 3 ∨ j = 4 ∨ j = 5 ∨ j = 6 ∨ j = 7 ∨ j = 8 ∨ j = 9 ∨ j = 10 by omega) with rfl | rfl | rfl | rfl | rfl | rfl | rfl | rfl | rfl | rfl | rfl <;> rfl
theorem df_X2 : ∀ j, j < 2 → defaultValue (tyX2 j) = if isR 2 j = true then Value.null else .int 0 := by
  intro j hj
  rcases (show j = 0 ∨ j = 1 by omega) with rfl | rfl <;> rfl
theorem df_X3 : ∀ j, j < 6 → defaultValue (tyX3 j) = if isR 3 j = true then Value.null else .int 0 := by
  intro j hj
  rcases (show j = 0 ∨ j = 1 ∨ j = 2 ∨ j = 3 ∨ j = 4 ∨ j = 5 by omega) with rfl | rfl | rfl | rfl | rfl | rfl <;> rfl
theorem df_X4 : ∀ j, j < 13 → defaultValue (tyX4 j) = if isR 4 j = true then Value.null else .int 0 := by
  intro j hj
  rcases (show j = 0 ∨ j = 1 ∨ j = 2 ∨ j = 3 ∨ j = 4 ∨ j = 5 ∨ j = 6 ∨ j = 7 ∨ j = 8 ∨ j = 9 ∨ j = 10 ∨ j = 11 ∨ j = 12 by omega) with rfl | rfl | rfl | rfl | rfl | rfl | rfl | rfl | rfl | rfl | rfl | rfl | rfl <;> rfl
theorem df_X5 : ∀ j, j < 5 → defaultValue (tyX5 j) = if isR 5 j = true then Value.null else .int 0 := by
  intro j hj
  rcases (show j = 0 ∨ j = 1 ∨ j = 2 ∨ j = 3 ∨ j = 4 by omega) with rfl | rfl | rfl | rfl | rfl <;> rfl
theorem df_X6 : ∀ j, j < 7 → defaultValue (tyX6 j) = if isR 6 j = true then Value.null else .int 0 := by
  intro j hj
  rcases (show j = 0 ∨ j = 1 ∨ j = 2 ∨ j = 3 ∨ j = 4 ∨ j = 5 ∨ j = 6 by omega) with rfl | rfl | rfl | rfl | rfl | rfl | rfl <;> rfl
theorem lf_X0_9 : LF RX0 9 0 0 (.array .int) := ⟨_, rfl, by decide, big_at 31 (by decide +kernel) (by decide +kernel), rfl, rfl, by decide +kernel, fun _ => ⟨rfl, rfl⟩⟩
theorem lf_X0_15 : LF RX0 15 0 1 (.array .int) := ⟨_, rfl, by decide, big_at 33 (by decide +kernel) (by decide +kernel), rfl, rfl, by decide +kernel, fun _ => ⟨rfl, rfl⟩⟩
theorem lf_X0_18 : LF RX0 18 0 2 (.array .boolean) := ⟨_, rfl, by decide, big_at 36 (by decide +kernel) (by decide +kernel), rfl, rfl, by decide +kernel, fun _ => ⟨rfl, rfl⟩⟩
theorem lf_X5_11 : LF RX5 11 5 0 (.array (.object "RollScales$Cart")) := ⟨_, rfl, by decide, big_at 75 (by decide +kernel) (by decide +kernel), rfl, rfl, by decide +kernel, fun _ => ⟨rfl, rfl⟩⟩
theorem lf_X5_17 : LF RX5 17 5 1 (.array .int) := ⟨_, rfl, by decide, big_at 76 (by decide +kernel) (by decide +kernel), rfl, rfl, by decide +kernel, fun _ => ⟨rfl, rfl⟩⟩
theorem lf_X2_11 : LF RX2 11 2 0 (.array (.object "RollScales$State")) := ⟨_, rfl, by decide, big_at 104 (by decide +kernel) (by decide +kernel), rfl, rfl, by decide +kernel, fun _ => ⟨rfl, rfl⟩⟩
theorem lf_X1_9 : LF RX1 9 1 0 (.array .char) := ⟨_, rfl, by decide, big_at 118 (by decide +kernel) (by decide +kernel), rfl, rfl, by decide +kernel, fun _ => ⟨rfl, rfl⟩⟩
theorem lf_X1_15 : LF RX1 15 1 1 (.array .int) := ⟨_, rfl, by decide, big_at 119 (by decide +kernel) (by decide +kernel), rfl, rfl, by decide +kernel, fun _ => ⟨rfl, rfl⟩⟩
theorem lf_X1_19 : LF RX1 19 1 2 (.array .int) := ⟨_, rfl, by decide, big_at 120 (by decide +kernel) (by decide +kernel), rfl, rfl, by decide +kernel, fun _ => ⟨rfl, rfl⟩⟩
theorem lf_X4_9 : LF RX4 9 4 0 (.array .int) := ⟨_, rfl, by decide, big_at 196 (by decide +kernel) (by decide +kernel), rfl, rfl, by decide +kernel, fun _ => ⟨rfl, rfl⟩⟩
theorem lf_X4_15 : LF RX4 15 4 1 (.array .int) := ⟨_, rfl, by decide, big_at 198 (by decide +kernel) (by decide +kernel), rfl, rfl, by decide +kernel, fun _ => ⟨rfl, rfl⟩⟩
theorem lf_X4_18 : LF RX4 18 4 2 (.array .int) := ⟨_, rfl, by decide, big_at 200 (by decide +kernel) (by decide +kernel), rfl, rfl, by decide +kernel, fun _ => ⟨rfl, rfl⟩⟩
theorem lf_X4_21 : LF RX4 21 4 3 (.array .boolean) := ⟨_, rfl, by decide, big_at 202 (by decide +kernel) (by decide +kernel), rfl, rfl, by decide +kernel, fun _ => ⟨rfl, rfl⟩⟩
theorem lf_X4_25 : LF RX4 25 4 4 (.array .int) := ⟨_, rfl, by decide, big_at 204 (by decide +kernel) (by decide +kernel), rfl, rfl, by decide +kernel, fun _ => ⟨rfl, rfl⟩⟩
theorem lf_X4_31 : LF RX4 31 4 5 (.object "RollScales$Levels") := ⟨_, rfl, by decide, big_at 206 (by decide +kernel) (by decide +kernel), rfl, rfl, by decide +kernel, fun _ => ⟨rfl, rfl⟩⟩
theorem lf_X4_35 : LF RX4 35 4 6 (.array .int) := ⟨_, rfl, by decide, big_at 208 (by decide +kernel) (by decide +kernel), rfl, rfl, by decide +kernel, fun _ => ⟨rfl, rfl⟩⟩
theorem lf_X4_38 : LF RX4 38 4 7 (.array .int) := ⟨_, rfl, by decide, big_at 209 (by decide +kernel) (by decide +kernel), rfl, rfl, by decide +kernel, fun _ => ⟨rfl, rfl⟩⟩
theorem lf_X4_41 : LF RX4 41 4 8 (.array .int) := ⟨_, rfl, by decide, big_at 210 (by decide +kernel) (by decide +kernel), rfl, rfl, by decide +kernel, fun _ => ⟨rfl, rfl⟩⟩
theorem lf_X4_44 : LF RX4 44 4 9 (.array .boolean) := ⟨_, rfl, by decide, big_at 211 (by decide +kernel) (by decide +kernel), rfl, rfl, by decide +kernel, fun _ => ⟨rfl, rfl⟩⟩
theorem lf_X6_10 : LF RX6 10 6 0 (.object "RollScales$State") := ⟨_, rfl, by decide, big_at 242 (by decide +kernel) (by decide +kernel), rfl, rfl, by decide +kernel, fun _ => ⟨rfl, rfl⟩⟩
theorem lf_X6_16 : LF RX6 16 6 1 (.object "RollScales$State") := ⟨_, rfl, by decide, big_at 243 (by decide +kernel) (by decide +kernel), rfl, rfl, by decide +kernel, fun _ => ⟨rfl, rfl⟩⟩
theorem lf_X6_22 : LF RX6 22 6 2 (.object "RollScales$History") := ⟨_, rfl, by decide, big_at 244 (by decide +kernel) (by decide +kernel), rfl, rfl, by decide +kernel, fun _ => ⟨rfl, rfl⟩⟩
theorem lf_X6_29 : LF RX6 29 6 3 (.object "RollScales$CartText") := ⟨_, rfl, by decide, big_at 245 (by decide +kernel) (by decide +kernel), rfl, rfl, by decide +kernel, fun _ => ⟨rfl, rfl⟩⟩
theorem lf_X6_36 : LF RX6 36 6 4 (.object "RollScales$Roll") := ⟨_, rfl, by decide, big_at 246 (by decide +kernel) (by decide +kernel), rfl, rfl, by decide +kernel, fun _ => ⟨rfl, rfl⟩⟩
theorem lf_X6_40 : LF RX6 40 6 5 (.array .int) := ⟨_, rfl, by decide, big_at 247 (by decide +kernel) (by decide +kernel), rfl, rfl, by decide +kernel, fun _ => ⟨rfl, rfl⟩⟩
set_option maxHeartbeats 4000000 in
set_option maxRecDepth 100000 in
theorem c_X0_init {l : Launch} {b : Nat} {D : va_G} {cA : Nat → ClassId} {ad : Nat → Nat} {Z : Nat → Nat → Bool} {S : ST} {c : Nat} (h : CartAt c) (hCL : CL (c + 1) Z S) (hS : ∀ i, S c i = 0) : MN l b D cA yX0_init cX0_init 1 1 3 15 [.ref (ad c)] (c + 1) (c + 4) ad Z S (PN (fun _ _ => 0) c (c + 4) ad Z S) := by
  refine MN.intro (j := 0) (ls := [some (.ref (ad c))]) pn_X0 rfl rfl rfl rfl (fun pr en s0 mi args below meth c' K hm hAO => ?_)
  refine g_aload_n K dX0_init_0 rfl ?_
  refine g_objInit K mj_X0_3 dX0_init_1 ⟨by decide, by decide⟩ ?_
  have hI := IV_start (iv := fun _ _ => 0) (td := fun a b => a = c ∧ 0 ≤ b) (sd := fun _ => False) (t := c) (ad := ad) hCL (fun i _ => hS i) (fun j => ⟨rfl, Nat.zero_le j⟩)
  refine g_aload_n K dX0_init_4 rfl ?_
  refine g_iconst K dX0_init_5 kc_5 ?_
  refine g_newarr (t := 0) (N := 5) (ty := .int) (n2 := c + 2) K wa_int rfl rfl (by decide) rfl (by decide) dX0_init_6 rfl h.k1 h.l1 h.n1 hI.2.2.1 rfl (by decide) (by decide) (fun ad1 had1 _ => ?_)
  rw [← had1 c (by omega)]
  have hI := IV_arr (n2 := c + 2) hI rfl (by omega) had1 (fun _ _ q => q) (fun j _ hr => rp_no (by rw [h.k1]; decide) (by rw [h.k1]; decide) hr) (Or.inr fun _ _ => rfl)
  refine g_putf (t := c + 1) K lf_X0_9 hm dX0_init_8 rfl h.k0 (by omega) (by have := h.n3; omega) h.r0 ?_
  have hI := IV_put (k := c) (j := 0) (td2 := fun a b => a = c ∧ 1 ≤ b) hI (Nat.le_refl _) (by
    rw [rf_obj (by rw [h.k0]; decide), show rs c 0 = c + 1 from h.r0]
    omega) (fun a i hi hr q => by
    obtain ⟨rfl, q⟩ := q
    by_cases e : i ≤ 0
    · rw [rp_obj h.k0 (by decide)] at hr
      rcases (show i = 0 by omega) with rfl
      · exact Or.inr ⟨rfl, rfl⟩
    · exact Or.inl ⟨rfl, by omega⟩)
  refine g_aload_n K dX0_init_11 rfl ?_
  refine g_iconst K dX0_init_12 kc_5 ?_
  refine g_newarr (t := 0) (N := 5) (ty := .int) (n2 := c + 3) K wa_int rfl rfl (by decide) rfl (by decide) dX0_init_13 rfl h.k2 h.l2 h.n2 hI.2.2.1 rfl (by decide) (by decide) (fun ad2 had2 _ => ?_)
  rw [← had2 c (by omega)]
  have hI := IV_arr (n2 := c + 3) hI rfl (by omega) had2 (fun _ _ q => q) (fun j _ hr => rp_no (by rw [h.k2]; decide) (by rw [h.k2]; decide) hr) (Or.inr fun _ _ => rfl)
  refine g_putf (t := c + 2) K lf_X0_15 hm dX0_init_15 rfl h.k0 (by omega) (by have := h.n3; omega) h.r1 ?_
  have hI := IV_put (k := c) (j := 1) (td2 := fun a b => a = c ∧ 2 ≤ b) hI (Nat.le_refl _) (by
    rw [rf_obj (by rw [h.k0]; decide), show rs c 1 = c + 2 from h.r1]
    omega) (fun a i hi hr q => by
    obtain ⟨rfl, q⟩ := q
    by_cases e : i ≤ 1
    · rw [rp_obj h.k0 (by decide)] at hr
      rcases (show i = 1 by omega) with rfl
      · exact Or.inr ⟨rfl, rfl⟩
    · exact Or.inl ⟨rfl, by omega⟩)
  refine g_aload_n K dX0_init_18 rfl ?_
  refine g_iconst K dX0_init_19 kc_5 ?_
  refine g_newarr (t := 1) (N := 5) (ty := .boolean) (n2 := c + 4) K wa_boolean rfl rfl (by decide) rfl (by decide) dX0_init_20 rfl h.k3 h.l3 h.n3 hI.2.2.1 rfl (by decide) (by decide) (fun ad3 had3 _ => ?_)
  rw [← had3 c (by omega)]
  have hI := IV_arr (n2 := c + 4) hI rfl (by omega) had3 (fun _ _ q => q) (fun j _ hr => rp_no (by rw [h.k3]; decide) (by rw [h.k3]; decide) hr) (Or.inr fun _ _ => rfl)
  refine g_putf (t := c + 3) K lf_X0_18 hm dX0_init_22 rfl h.k0 (by omega) (by have := h.n3; omega) h.r2 ?_
  have hI := IV_put (k := c) (j := 2) (td2 := fun a b => a = c ∧ 3 ≤ b) hI (Nat.le_refl _) (by
    rw [rf_obj (by rw [h.k0]; decide), show rs c 2 = c + 3 from h.r2]
    omega) (fun a i hi hr q => by
    obtain ⟨rfl, q⟩ := q
    by_cases e : i ≤ 2
    · rw [rp_obj h.k0 (by decide)] at hr
      rcases (show i = 2 by omega) with rfl
      · exact Or.inr ⟨rfl, rfl⟩
    · exact Or.inl ⟨rfl, by omega⟩)
  exact g_vretN K dX0_init_25 rfl ⟨by decide, by decide⟩ (hI.fin (fun a j hj hr q => by
    obtain ⟨rfl, q⟩ := q
    rw [rp_obj h.k0 (by decide)] at hr
    exact absurd ((by decide : ∀ j, j < 8 → 3 ≤ j → isR 0 j = false) j (by rw [h.l0] at hj; exact hj) q) (by rw [hr]; decide)) (fun _ q => q))
set_option maxHeartbeats 4000000 in
set_option maxRecDepth 100000 in
theorem c_X1_init {l : Launch} {b : Nat} {D : va_G} {cA : Nat → ClassId} {ad : Nat → Nat} {Z : Nat → Nat → Bool} {S : ST}  (hCL : CL (166) Z S) (hS : ∀ i, S 165 i = 0) : MN l b D cA yX1_init cX1_init 1 1 3 180 [.ref (ad 165)] (166) (169) ad Z S (PN (fun _ _ => 0) 165 (169) ad Z S) := by
  refine MN.intro (j := 0) (ls := [some (.ref (ad 165))]) pn_X1 rfl rfl rfl rfl (fun pr en s0 mi args below meth c' K hm hAO => ?_)
  refine g_aload_n K dX1_init_0 rfl ?_
  refine g_objInit K mj_X1_3 dX1_init_1 ⟨by decide, by decide⟩ ?_
  have hI := IV_start (iv := (fun _ _ => 0)) (td := fun a b => a = 165 ∧ 0 ≤ b) (sd := fun _ => False) (t := 165) (ad := ad) hCL (fun i _ => hS i) (fun j => ⟨rfl, Nat.zero_le j⟩)
  refine g_aload_n K dX1_init_4 rfl ?_
  refine g_bipush K dX1_init_5 kb_60 ?_
  refine g_newarr (t := 2) (N := 60) (ty := .char) (n2 := 167) K wa_char rfl rfl (by decide) rfl (by decide) dX1_init_7 rfl rfl rfl (by decide) hI.2.2.1 rfl (by decide) (by decide) (fun ad1 had1 _ => ?_)
  rw [← had1 165 (by omega)]
  have hI := IV_arr (n2 := 167) hI rfl (by omega) had1 (fun _ _ q => q) (fun j _ hr => rp_no (by decide) (by decide) hr) (Or.inr fun _ _ => rfl)
  refine g_putf (t := 166) K lf_X1_9 hm dX1_init_9 rfl rfl (by decide) (by decide) rfl ?_
  have hI := IV_put (k := 165) (j := 0) (td2 := fun a b => a = 165 ∧ 1 ≤ b) hI (Nat.le_refl _) (by
    rw [rf_obj (by rw [show kd 165 = 1 from rfl]; decide), show rs 165 0 = 166 from rfl]
    omega) (fun a i hi hr q => by
    obtain ⟨rfl, q⟩ := q
    by_cases e : i ≤ 0
    · rw [rp_obj (show kd 165 = 1 from rfl) (by decide)] at hr
      rcases (show i = 0 by omega) with rfl
      · exact Or.inr ⟨rfl, rfl⟩
    · exact Or.inl ⟨rfl, by omega⟩)
  refine g_aload_n K dX1_init_12 rfl ?_
  refine g_bipush K dX1_init_13 kb_60 ?_
  refine g_newarr (t := 0) (N := 60) (ty := .int) (n2 := 168) K wa_int rfl rfl (by decide) rfl (by decide) dX1_init_15 rfl rfl rfl (by decide) hI.2.2.1 rfl (by decide) (by decide) (fun ad2 had2 _ => ?_)
  rw [← had2 165 (by omega)]
  have hI := IV_arr (n2 := 168) hI rfl (by omega) had2 (fun _ _ q => q) (fun j _ hr => rp_no (by decide) (by decide) hr) (Or.inr fun _ _ => rfl)
  refine g_putf (t := 167) K lf_X1_15 hm dX1_init_17 rfl rfl (by decide) (by decide) rfl ?_
  have hI := IV_put (k := 165) (j := 1) (td2 := fun a b => a = 165 ∧ 2 ≤ b) hI (Nat.le_refl _) (by
    rw [rf_obj (by rw [show kd 165 = 1 from rfl]; decide), show rs 165 1 = 167 from rfl]
    omega) (fun a i hi hr q => by
    obtain ⟨rfl, q⟩ := q
    by_cases e : i ≤ 1
    · rw [rp_obj (show kd 165 = 1 from rfl) (by decide)] at hr
      rcases (show i = 1 by omega) with rfl
      · exact Or.inr ⟨rfl, rfl⟩
    · exact Or.inl ⟨rfl, by omega⟩)
  refine g_aload_n K dX1_init_20 rfl ?_
  refine g_bipush K dX1_init_21 kb_60 ?_
  refine g_newarr (t := 0) (N := 60) (ty := .int) (n2 := 169) K wa_int rfl rfl (by decide) rfl (by decide) dX1_init_23 rfl rfl rfl (by decide) hI.2.2.1 rfl (by decide) (by decide) (fun ad3 had3 _ => ?_)
  rw [← had3 165 (by omega)]
  have hI := IV_arr (n2 := 169) hI rfl (by omega) had3 (fun _ _ q => q) (fun j _ hr => rp_no (by decide) (by decide) hr) (Or.inr fun _ _ => rfl)
  refine g_putf (t := 168) K lf_X1_19 hm dX1_init_25 rfl rfl (by decide) (by decide) rfl ?_
  have hI := IV_put (k := 165) (j := 2) (td2 := fun a b => a = 165 ∧ 3 ≤ b) hI (Nat.le_refl _) (by
    rw [rf_obj (by rw [show kd 165 = 1 from rfl]; decide), show rs 165 2 = 168 from rfl]
    omega) (fun a i hi hr q => by
    obtain ⟨rfl, q⟩ := q
    by_cases e : i ≤ 2
    · rw [rp_obj (show kd 165 = 1 from rfl) (by decide)] at hr
      rcases (show i = 2 by omega) with rfl
      · exact Or.inr ⟨rfl, rfl⟩
    · exact Or.inl ⟨rfl, by omega⟩)
  exact g_vretN K dX1_init_28 rfl ⟨by decide, by decide⟩ (hI.fin (fun a j hj hr q => by
    obtain ⟨rfl, q⟩ := q
    rw [rp_obj (show kd 165 = 1 from rfl) (by decide)] at hr
    exact absurd ((by decide : ∀ j, j < 11 → 3 ≤ j → isR 1 j = false) j hj q) (by rw [hr]; decide)) (fun _ q => q))
set_option maxHeartbeats 4000000 in
set_option maxRecDepth 100000 in
theorem c_X3_init {l : Launch} {b : Nat} {D : va_G} {cA : Nat → ClassId} {ad : Nat → Nat} {Z : Nat → Nat → Bool} {S : ST}  (hCL : CL (176) Z S) (hS : ∀ i, S 175 i = 0) : MN l b D cA yX3_init cX3_init 1 1 0 0 [.ref (ad 175)] (176) (176) ad Z S (PN (fun _ _ => 0) 175 (176) ad Z S) := by
  refine MN.intro (j := 0) (ls := [some (.ref (ad 175))]) pn_X3 rfl rfl rfl rfl (fun pr en s0 mi args below meth c' K hm hAO => ?_)
  refine g_aload_n K dX3_init_0 rfl ?_
  refine g_objInit K mj_X3_3 dX3_init_1 ⟨by decide, by decide⟩ ?_
  have hI := IV_start (iv := (fun _ _ => 0)) (td := fun a b => a = 175 ∧ 0 ≤ b) (sd := fun _ => False) (t := 175) (ad := ad) hCL (fun i _ => hS i) (fun j => ⟨rfl, Nat.zero_le j⟩)
  exact g_vretN K dX3_init_4 rfl ⟨by decide, by decide⟩ (hI.fin (fun a j hj hr q => by
    obtain ⟨rfl, q⟩ := q
    rw [rp_obj (show kd 175 = 3 from rfl) (by decide)] at hr
    exact absurd ((by decide : ∀ j, j < 6 → 0 ≤ j → isR 3 j = false) j hj q) (by rw [hr]; decide)) (fun _ q => q))
set_option maxHeartbeats 4000000 in
set_option maxRecDepth 100000 in
theorem c_X4_init {l : Launch} {b : Nat} {D : va_G} {cA : Nat → ClassId} {ad : Nat → Nat} {Z : Nat → Nat → Bool} {S : ST}  (hCL : CL (170) Z S) (hS : ∀ i, S 169 i = 0) : MN l b D cA yX4_init cX4_init 1 2 10 627 [.ref (ad 169)] (170) (180) ad Z S (PN (fun _ _ => 0) 169 (180) ad Z S) := by
  refine MN.intro (j := 0) (ls := [some (.ref (ad 169))]) pn_X4 rfl rfl rfl rfl (fun pr en s0 mi args below meth c' K hm hAO => ?_)
  refine g_aload_n K dX4_init_0 rfl ?_
  refine g_objInit K mj_X4_3 dX4_init_1 ⟨by decide, by decide⟩ ?_
  have hI := IV_start (iv := (fun _ _ => 0)) (td := fun a b => a = 169 ∧ 0 ≤ b) (sd := fun _ => False) (t := 169) (ad := ad) hCL (fun i _ => hS i) (fun j => ⟨rfl, Nat.zero_le j⟩)
  refine g_aload_n K dX4_init_4 rfl ?_
  refine g_bipush K dX4_init_5 kb_120 ?_
  refine g_newarr (t := 0) (N := 120) (ty := .int) (n2 := 171) K wa_int rfl rfl (by decide) rfl (by decide) dX4_init_7 rfl rfl rfl (by decide) hI.2.2.1 rfl (by decide) (by decide) (fun ad1 had1 _ => ?_)
  rw [← had1 169 (by omega)]
  have hI := IV_arr (n2 := 171) hI rfl (by omega) had1 (fun _ _ q => q) (fun j _ hr => rp_no (by decide) (by decide) hr) (Or.inr fun _ _ => rfl)
  refine g_putf (t := 170) K lf_X4_9 hm dX4_init_9 rfl rfl (by decide) (by decide) rfl ?_
  have hI := IV_put (k := 169) (j := 0) (td2 := fun a b => a = 169 ∧ 1 ≤ b) hI (Nat.le_refl _) (by
    rw [rf_obj (by rw [show kd 169 = 4 from rfl]; decide), show rs 169 0 = 170 from rfl]
    omega) (fun a i hi hr q => by
    obtain ⟨rfl, q⟩ := q
    by_cases e : i ≤ 0
    · rw [rp_obj (show kd 169 = 4 from rfl) (by decide)] at hr
      rcases (show i = 0 by omega) with rfl
      · exact Or.inr ⟨rfl, rfl⟩
    · exact Or.inl ⟨rfl, by omega⟩)
  refine g_aload_n K dX4_init_12 rfl ?_
  refine g_bipush K dX4_init_13 kb_120 ?_
  refine g_newarr (t := 0) (N := 120) (ty := .int) (n2 := 172) K wa_int rfl rfl (by decide) rfl (by decide) dX4_init_15 rfl rfl rfl (by decide) hI.2.2.1 rfl (by decide) (by decide) (fun ad2 had2 _ => ?_)
  rw [← had2 169 (by omega)]
  have hI := IV_arr (n2 := 172) hI rfl (by omega) had2 (fun _ _ q => q) (fun j _ hr => rp_no (by decide) (by decide) hr) (Or.inr fun _ _ => rfl)
  refine g_putf (t := 171) K lf_X4_15 hm dX4_init_17 rfl rfl (by decide) (by decide) rfl ?_
  have hI := IV_put (k := 169) (j := 1) (td2 := fun a b => a = 169 ∧ 2 ≤ b) hI (Nat.le_refl _) (by
    rw [rf_obj (by rw [show kd 169 = 4 from rfl]; decide), show rs 169 1 = 171 from rfl]
    omega) (fun a i hi hr q => by
    obtain ⟨rfl, q⟩ := q
    by_cases e : i ≤ 1
    · rw [rp_obj (show kd 169 = 4 from rfl) (by decide)] at hr
      rcases (show i = 1 by omega) with rfl
      · exact Or.inr ⟨rfl, rfl⟩
    · exact Or.inl ⟨rfl, by omega⟩)
  refine g_aload_n K dX4_init_20 rfl ?_
  refine g_bipush K dX4_init_21 kb_120 ?_
  refine g_newarr (t := 0) (N := 120) (ty := .int) (n2 := 173) K wa_int rfl rfl (by decide) rfl (by decide) dX4_init_23 rfl rfl rfl (by decide) hI.2.2.1 rfl (by decide) (by decide) (fun ad3 had3 _ => ?_)
  rw [← had3 169 (by omega)]
  have hI := IV_arr (n2 := 173) hI rfl (by omega) had3 (fun _ _ q => q) (fun j _ hr => rp_no (by decide) (by decide) hr) (Or.inr fun _ _ => rfl)
  refine g_putf (t := 172) K lf_X4_18 hm dX4_init_25 rfl rfl (by decide) (by decide) rfl ?_
  have hI := IV_put (k := 169) (j := 2) (td2 := fun a b => a = 169 ∧ 3 ≤ b) hI (Nat.le_refl _) (by
    rw [rf_obj (by rw [show kd 169 = 4 from rfl]; decide), show rs 169 2 = 172 from rfl]
    omega) (fun a i hi hr q => by
    obtain ⟨rfl, q⟩ := q
    by_cases e : i ≤ 2
    · rw [rp_obj (show kd 169 = 4 from rfl) (by decide)] at hr
      rcases (show i = 2 by omega) with rfl
      · exact Or.inr ⟨rfl, rfl⟩
    · exact Or.inl ⟨rfl, by omega⟩)
  refine g_aload_n K dX4_init_28 rfl ?_
  refine g_bipush K dX4_init_29 kb_120 ?_
  refine g_newarr (t := 1) (N := 120) (ty := .boolean) (n2 := 174) K wa_boolean rfl rfl (by decide) rfl (by decide) dX4_init_31 rfl rfl rfl (by decide) hI.2.2.1 rfl (by decide) (by decide) (fun ad4 had4 _ => ?_)
  rw [← had4 169 (by omega)]
  have hI := IV_arr (n2 := 174) hI rfl (by omega) had4 (fun _ _ q => q) (fun j _ hr => rp_no (by decide) (by decide) hr) (Or.inr fun _ _ => rfl)
  refine g_putf (t := 173) K lf_X4_21 hm dX4_init_33 rfl rfl (by decide) (by decide) rfl ?_
  have hI := IV_put (k := 169) (j := 3) (td2 := fun a b => a = 169 ∧ 4 ≤ b) hI (Nat.le_refl _) (by
    rw [rf_obj (by rw [show kd 169 = 4 from rfl]; decide), show rs 169 3 = 173 from rfl]
    omega) (fun a i hi hr q => by
    obtain ⟨rfl, q⟩ := q
    by_cases e : i ≤ 3
    · rw [rp_obj (show kd 169 = 4 from rfl) (by decide)] at hr
      rcases (show i = 3 by omega) with rfl
      · exact Or.inr ⟨rfl, rfl⟩
    · exact Or.inl ⟨rfl, by omega⟩)
  refine g_aload_n K dX4_init_36 rfl ?_
  refine g_bipush K dX4_init_37 kb_120 ?_
  refine g_newarr (t := 0) (N := 120) (ty := .int) (n2 := 175) K wa_int rfl rfl (by decide) rfl (by decide) dX4_init_39 rfl rfl rfl (by decide) hI.2.2.1 rfl (by decide) (by decide) (fun ad5 had5 _ => ?_)
  rw [← had5 169 (by omega)]
  have hI := IV_arr (n2 := 175) hI rfl (by omega) had5 (fun _ _ q => q) (fun j _ hr => rp_no (by decide) (by decide) hr) (Or.inr fun _ _ => rfl)
  refine g_putf (t := 174) K lf_X4_25 hm dX4_init_41 rfl rfl (by decide) (by decide) rfl ?_
  have hI := IV_put (k := 169) (j := 4) (td2 := fun a b => a = 169 ∧ 5 ≤ b) hI (Nat.le_refl _) (by
    rw [rf_obj (by rw [show kd 169 = 4 from rfl]; decide), show rs 169 4 = 174 from rfl]
    omega) (fun a i hi hr q => by
    obtain ⟨rfl, q⟩ := q
    by_cases e : i ≤ 4
    · rw [rp_obj (show kd 169 = 4 from rfl) (by decide)] at hr
      rcases (show i = 4 by omega) with rfl
      · exact Or.inr ⟨rfl, rfl⟩
    · exact Or.inl ⟨rfl, by omega⟩)
  refine g_aload_n K dX4_init_44 rfl ?_
  refine g_newobj (ci := 3) (N := 6) (n2 := 176) K tyX3 rfl nw_X4_28 tyX3_ok df_X3 dX4_init_45 rfl (by decide) hI.2.2.1 rfl (by decide) (by decide) (fun ad6 had6 hCL6 => ?_)
  rw [← had6 169 (by omega)]
  refine g_dup K dX4_init_48 rfl ?_
  refine g_init (n1 := 176) K (c_X3_init hCL6 (fun i => congrFun str_s i)) mi_X3_init ml_X4_30 rfl (by decide +kernel) dX4_init_49 (by simp [Value.category]) ⟨by decide, by decide⟩ ⟨by decide, by decide⟩ hAO (fun ad7 Z7 S7 h7 => ?_)
  rw [← h7.1 169 (by omega), ← h7.1 175 (by omega)]
  have hI := IV_call (u := 175) (n1 := 176) hI (by omega) had6 h7 (fun _ _ _ _ _ _ => rfl)
  refine g_putf (t := 175) K lf_X4_31 hm dX4_init_52 rfl rfl (by decide) (by decide) rfl ?_
  have hI := IV_put (k := 169) (j := 5) (td2 := fun a b => a = 169 ∧ 6 ≤ b) hI (Nat.le_refl _) (by
    rw [rf_obj (by rw [show kd 169 = 4 from rfl]; decide), show rs 169 5 = 175 from rfl]
    omega) (fun a i hi hr q => by
    obtain ⟨rfl, q⟩ := q
    by_cases e : i ≤ 5
    · rw [rp_obj (show kd 169 = 4 from rfl) (by decide)] at hr
      rcases (show i = 5 by omega) with rfl
      · exact Or.inr ⟨rfl, rfl⟩
    · exact Or.inl ⟨rfl, by omega⟩)
  refine g_aload_n K dX4_init_55 rfl ?_
  refine g_bipush K dX4_init_56 kb_6 ?_
  refine g_newarr (t := 0) (N := 6) (ty := .int) (n2 := 177) K wa_int rfl rfl (by decide) rfl (by decide) dX4_init_58 rfl rfl rfl (by decide) hI.2.2.1 rfl (by decide) (by decide) (fun ad8 had8 _ => ?_)
  rw [← had8 169 (by omega)]
  have hI := IV_arr (n2 := 177) hI rfl (by omega) had8 (fun _ _ q => q) (fun j _ hr => rp_no (by decide) (by decide) hr) (Or.inr fun _ _ => rfl)
  refine g_putf (t := 176) K lf_X4_35 hm dX4_init_60 rfl rfl (by decide) (by decide) rfl ?_
  have hI := IV_put (k := 169) (j := 6) (td2 := fun a b => a = 169 ∧ 7 ≤ b) hI (Nat.le_refl _) (by
    rw [rf_obj (by rw [show kd 169 = 4 from rfl]; decide), show rs 169 6 = 176 from rfl]
    omega) (fun a i hi hr q => by
    obtain ⟨rfl, q⟩ := q
    by_cases e : i ≤ 6
    · rw [rp_obj (show kd 169 = 4 from rfl) (by decide)] at hr
      rcases (show i = 6 by omega) with rfl
      · exact Or.inr ⟨rfl, rfl⟩
    · exact Or.inl ⟨rfl, by omega⟩)
  refine g_aload_n K dX4_init_63 rfl ?_
  refine g_iconst K dX4_init_64 kc_5 ?_
  refine g_newarr (t := 0) (N := 5) (ty := .int) (n2 := 178) K wa_int rfl rfl (by decide) rfl (by decide) dX4_init_65 rfl rfl rfl (by decide) hI.2.2.1 rfl (by decide) (by decide) (fun ad9 had9 _ => ?_)
  rw [← had9 169 (by omega)]
  have hI := IV_arr (n2 := 178) hI rfl (by omega) had9 (fun _ _ q => q) (fun j _ hr => rp_no (by decide) (by decide) hr) (Or.inr fun _ _ => rfl)
  refine g_putf (t := 177) K lf_X4_38 hm dX4_init_67 rfl rfl (by decide) (by decide) rfl ?_
  have hI := IV_put (k := 169) (j := 7) (td2 := fun a b => a = 169 ∧ 8 ≤ b) hI (Nat.le_refl _) (by
    rw [rf_obj (by rw [show kd 169 = 4 from rfl]; decide), show rs 169 7 = 177 from rfl]
    omega) (fun a i hi hr q => by
    obtain ⟨rfl, q⟩ := q
    by_cases e : i ≤ 7
    · rw [rp_obj (show kd 169 = 4 from rfl) (by decide)] at hr
      rcases (show i = 7 by omega) with rfl
      · exact Or.inr ⟨rfl, rfl⟩
    · exact Or.inl ⟨rfl, by omega⟩)
  refine g_aload_n K dX4_init_70 rfl ?_
  refine g_iconst K dX4_init_71 kc_5 ?_
  refine g_newarr (t := 0) (N := 5) (ty := .int) (n2 := 179) K wa_int rfl rfl (by decide) rfl (by decide) dX4_init_72 rfl rfl rfl (by decide) hI.2.2.1 rfl (by decide) (by decide) (fun ad10 had10 _ => ?_)
  rw [← had10 169 (by omega)]
  have hI := IV_arr (n2 := 179) hI rfl (by omega) had10 (fun _ _ q => q) (fun j _ hr => rp_no (by decide) (by decide) hr) (Or.inr fun _ _ => rfl)
  refine g_putf (t := 178) K lf_X4_41 hm dX4_init_74 rfl rfl (by decide) (by decide) rfl ?_
  have hI := IV_put (k := 169) (j := 8) (td2 := fun a b => a = 169 ∧ 9 ≤ b) hI (Nat.le_refl _) (by
    rw [rf_obj (by rw [show kd 169 = 4 from rfl]; decide), show rs 169 8 = 178 from rfl]
    omega) (fun a i hi hr q => by
    obtain ⟨rfl, q⟩ := q
    by_cases e : i ≤ 8
    · rw [rp_obj (show kd 169 = 4 from rfl) (by decide)] at hr
      rcases (show i = 8 by omega) with rfl
      · exact Or.inr ⟨rfl, rfl⟩
    · exact Or.inl ⟨rfl, by omega⟩)
  refine g_aload_n K dX4_init_77 rfl ?_
  refine g_iconst K dX4_init_78 kc_5 ?_
  refine g_newarr (t := 1) (N := 5) (ty := .boolean) (n2 := 180) K wa_boolean rfl rfl (by decide) rfl (by decide) dX4_init_79 rfl rfl rfl (by decide) hI.2.2.1 rfl (by decide) (by decide) (fun ad11 had11 _ => ?_)
  rw [← had11 169 (by omega)]
  have hI := IV_arr (n2 := 180) hI rfl (by omega) had11 (fun _ _ q => q) (fun j _ hr => rp_no (by decide) (by decide) hr) (Or.inr fun _ _ => rfl)
  refine g_putf (t := 179) K lf_X4_44 hm dX4_init_81 rfl rfl (by decide) (by decide) rfl ?_
  have hI := IV_put (k := 169) (j := 9) (td2 := fun a b => a = 169 ∧ 10 ≤ b) hI (Nat.le_refl _) (by
    rw [rf_obj (by rw [show kd 169 = 4 from rfl]; decide), show rs 169 9 = 179 from rfl]
    omega) (fun a i hi hr q => by
    obtain ⟨rfl, q⟩ := q
    by_cases e : i ≤ 9
    · rw [rp_obj (show kd 169 = 4 from rfl) (by decide)] at hr
      rcases (show i = 9 by omega) with rfl
      · exact Or.inr ⟨rfl, rfl⟩
    · exact Or.inl ⟨rfl, by omega⟩)
  exact g_vretN K dX4_init_84 rfl ⟨by decide, by decide⟩ (hI.fin (fun a j hj hr q => by
    obtain ⟨rfl, q⟩ := q
    rw [rp_obj (show kd 169 = 4 from rfl) (by decide)] at hr
    exact absurd ((by decide : ∀ j, j < 13 → 10 ≤ j → isR 4 j = false) j hj q) (by rw [hr]; decide)) (fun _ q => q))
