def ivS (B : Nat) : ST := fun k i => if k = B + 2 then firstS i else 0
def iv55 : ST := fun k i => if k = 56 then nI (57 + 27 * i) else if 57 ≤ k ∧ k < 165 ∧ (k - 57) % 27 = 2 then firstS i else 0
def iv0 : ST := fun k i => if k = 3 ∨ k = 30 then firstS i else iv55 k i
def ivM : ST := fun k i => if k = 182 then firstS i else 0
theorem IV.td {iv : ST} {td td2 : Nat → Nat → Prop} {sd : Nat → Prop} {n0 t n : Nat} {ad0 ad : Nat → Nat} {Z0 Z : Nat → Nat → Bool} {S0 S : ST} (h : IV iv td sd n0 t n ad0 Z0 S0 ad Z S) (h1 : ∀ a j, j < ln a → rp a j = true → td a j → td2 a j) : IV iv td2 sd n0 t n ad0 Z0 S0 ad Z S :=
  ⟨h.1, h.2.1, h.2.2.1, fun k j a1 a2 a3 a4 a5 => h.2.2.2.1 k j a1 a2 a3 a4 (fun q => a5 (h1 k j a3 a4 q)), h.2.2.2.2.1, h.2.2.2.2.2⟩
theorem IV.sd {iv : ST} {td : Nat → Nat → Prop} {sd : Nat → Prop} {n0 t n : Nat} {ad0 ad : Nat → Nat} {Z0 Z : Nat → Nat → Bool} {S0 S : ST} (h : IV iv td sd n0 t n ad0 Z0 S0 ad Z S) (h1 : ∀ k i, i < ln k → sd k → S k i = iv k i) : IV iv td (fun _ => False) n0 t n ad0 Z0 S0 ad Z S :=
  ⟨h.1, h.2.1, h.2.2.1, h.2.2.2.1, fun k i a1 a2 a3 _ => by
    by_cases e : sd k
    · exact h1 k i a3 e
    · exact h.2.2.2.2.1 k i a1 a2 a3 e, h.2.2.2.2.2⟩
theorem rf_12 {S : ST} {k i : Nat} (h : kd k = 12) : rf S k i = (S k i).toNatClampNeg := if_pos h
theorem firstS_ge {i : Nat} (h : 6 ≤ i) : firstS i = 0 := by
  unfold firstS
  rw [List.getD_eq_getElem?_getD, List.getElem?_eq_none (by simpa using h)]
  rfl
set_option maxHeartbeats 4000000 in
set_option maxRecDepth 100000 in
theorem c_X5_init {l : Launch} {b : Nat} {D : va_G} {cA : Nat → ClassId} {ad : Nat → Nat} {Z : Nat → Nat → Bool} {S : ST} {B : Nat} (h : StateAt B) (hCL : CL (B + 1) Z S) (hS : ∀ i, S B i = 0) : MN l b D cA yX5_init cX5_init 2 2 26 150 [.ref (ad B)] (B + 1) (B + 27) ad Z S (PN (ivS B) B (B + 27) ad Z S) := by
  refine MN.intro (j := 1) (ls := [some (.ref (ad B)), none]) pn_X5 rfl rfl rfl rfl (fun pr en s0 mi args below meth c' K hm hAO => ?_)
  have hlast := h.2.1
  have lp : ∀ (fuel k n ce sl : Nat) (ad1 : Nat → Nat) (Z1 : Nat → Nat → Bool) (S1 : ST), 6 + 1 ≤ k + fuel → k ≤ 6 → n = B + 3 + 4 * k → ce = 2 + 4 * k → sl = 12 + 23 * k → IV (ivS B) (fun a j => a = B + 1 ∧ k ≤ j) (fun a => a = B + 2) (B + 1) B n ad Z S ad1 Z1 S1 → G pr l en (rmn 2 26 150) s0 mi args below meth c' (MQ below (QN b D cA (B + 27) (PN (ivS B) B (B + 27) ad Z S)) args s0 26 150 (aF b)) b D cA 2 n ad1 Z1 ce sl 23 [some (.ref (ad1 B)), some (.int (nI k))] [] S1 := by
    intro fuel
    induction fuel with
    | zero =>
      intro k n ce sl ad1 Z1 S1 hif hk6 hn hce hsl hI
      omega
    | succ fuel ih =>
      intro k n ce sl ad1 Z1 S1 hif hk6 hn hce hsl hI
      subst hn hce hsl
      have hz0 : Z1 B 0 = true := hI.2.2.2.1 B 0 (Nat.le_refl _) (by omega) (by rw [h.l0]; decide) (by rw [rp_obj h.k0 (by decide)]; rfl) (fun q => absurd q.1 (by omega))
      have hz1 : Z1 B 1 = true := hI.2.2.2.1 B 1 (Nat.le_refl _) (by omega) (by rw [h.l0]; decide) (by rw [rp_obj h.k0 (by decide)]; rfl) (fun q => absurd q.1 (by omega))
      refine g_iload_n K dX5_init_23 rfl ?_
      refine g_bipush K dX5_init_24 kb_6 ?_
      refine g_icmp_ge (tgt := 48) K dX5_init_26 (by decide) (fun u26 => ?_) (fun u26 => ?_)
      · have hk : k = 6 := by
          rw [show (6 : Int32) = nI 6 from rfl, nI_leI (by omega) (by omega)] at u26
          omega
        subst hk
        refine g_getsF K dX5_init_48 lks_X5_22 (fun t2 hX hb2 hs2 => ?_)
        refine g_iconst K dX5_init_51 kc_0 ?_
        refine g_aload_n K dX5_init_52 rfl ?_
        refine g_getr (j := B + 2) K lk_X5_17 dX5_init_53 rfl (by decide) h.k0 (by omega) (by show B + 3 + 4 * 6 ≤ 181; have : B + 26 < 181 := hlast; omega) hz1 h.r1 ?_
        refine g_iconst K dX5_init_56 kc_0 ?_
        refine g_bipush K dX5_init_57 kb_6 ?_
        refine g_copyF (k2 := B + 2) K hX hb2 hs2 dX5_init_59 mj_X5_25 h.k2 h.l2 (by omega) (by show B + 3 + 4 * 6 ≤ 181; have : B + 26 < 181 := hlast; omega) ⟨by decide, by decide⟩ ?_
        have hI2 := IV_row (k := B + 2) (S2 := str S1 (B + 2) firstS) (sd2 := fun _ => False) hI (by omega) (by rw [h.k2]; decide) (fun a ha => str_n ha) (fun a q => Or.inr q) (Or.inr (fun i _ => by
          rw [str_s]
          exact (if_pos rfl).symm))
        have hI3 : IV (ivS B) (fun _ _ => False) (fun _ => False) (B + 1) B (B + 27) ad Z S _ _ _ := IV.td hI2 (fun a j hj _ q => by
          rw [q.1, h.l1] at hj
          omega)
        exact g_vretN K dX5_init_62 (by omega) ⟨by decide, by decide⟩ hI3
      · have hk : k < 6 := by
          rw [show (6 : Int32) = nI 6 from rfl, nI_leI (by omega) (by omega)] at u26
          omega
        have hC := h.cart hk
        refine g_aload_n K dX5_init_29 rfl ?_
        refine g_getr (j := B + 1) K lk_X5_11 dX5_init_30 rfl (by decide) h.k0 (by omega) (Nat.le_of_lt hC.n0) hz0 h.r0 ?_
        refine g_iload_n K dX5_init_33 rfl ?_
        refine g_newobj (ci := 0) (N := 8) (n2 := B + 3 + 4 * k + 1) K tyX0 rfl nw_X5_9 tyX0_ok df_X0 dX5_init_34 hC.k0 hC.n0 hI.2.2.1 rfl (by show 2 + 4 * k + 1 ≤ 26; omega) (by show 12 + 23 * k + 8 ≤ 150; omega) (fun ad2 had2 hCL2 => ?_)
        rw [← had2 B (by omega), ← had2 (B + 1) (by omega)]
        refine g_dup K dX5_init_37 rfl ?_
        refine g_init (n1 := B + 3 + 4 * k + 4) K (c_X0_init hC hCL2 (fun i => congrFun str_s i)) mi_X0_init ml_X5_21 rfl (by decide +kernel) dX5_init_38 (by simp [Value.category]) ⟨by decide, by decide⟩ ⟨by show 2 + 4 * k + 1 + 3 ≤ 26; omega, by show 12 + 23 * k + 8 + 15 ≤ 150; omega⟩ hAO (fun ad3 Z3 S3 h3 => ?_)
        rw [← h3.1 B (by omega), ← h3.1 (B + 1) (by omega), ← h3.1 (B + 3 + 4 * k) (by omega)]
        have hI2 := IV_call (u := B + 3 + 4 * k) (n1 := B + 3 + 4 * k + 4) hI (by omega) had2 h3 (fun a i a1 a2 _ _ => (show ivS B a i = 0 from if_neg (by omega)).symm)
        refine g_aastN (k := B + 1) (j := k) (t := B + 3 + 4 * k) (t0 := 3) K dX5_init_41 rfl h.l1 hk h.k1 (by decide) rfl rfl (by omega) hC.k0 (by omega) (by rw [rf_obj (by rw [h.k1]; decide)]; exact rs_carts h k) (fun _ _ => rfl) (fun _ _ => rfl) ?_
        have hI3 := IV_put (k := B + 1) (j := k) (td2 := fun a j => a = B + 1 ∧ k + 1 ≤ j) hI2 (by omega) (by
          rw [rf_obj (by rw [h.k1]; decide), rs_carts h k]
          omega) (fun a i _ _ q => by
          by_cases e : i = k
          · exact Or.inr ⟨q.1, e⟩
          · exact Or.inl ⟨q.1, by omega⟩)
        refine g_iinc (ls2 := [_, some (.int _)]) K dX5_init_42 rfl kc_1 rfl ?_
        refine g_goto (tgt := 23) K dX5_init_45 (by decide) ?_
        rw [nI_1]
        exact ih (k + 1) _ _ _ ad3 _ S3 (by omega) (by omega) (by omega) (by omega) (by omega) hI3
  refine g_aload_n K dX5_init_0 rfl ?_
  refine g_objInit K mj_X5_3 dX5_init_1 ⟨by decide, by decide⟩ ?_
  have hI := IV_start (iv := ivS B) (td := fun a b => a = B ∧ 0 ≤ b) (sd := fun a => a = B + 2) (t := B) (ad := ad) hCL (fun i _ => (hS i).trans (if_neg (by omega)).symm) (fun j => ⟨rfl, Nat.zero_le j⟩)
  refine g_aload_n K dX5_init_4 rfl ?_
  refine g_bipush K dX5_init_5 kb_6 ?_
  refine g_newrow (t := 3) (N := 6) (n2 := B + 2) K nw_X5_9.1 hAO.1 rfl (by decide) (by decide) dX5_init_7 rfl h.k1 h.l1 h.n1 hI.2.2.1 rfl (by decide) (by decide) (fun ad1 had1 _ => ?_)
  rw [← had1 B (by omega)]
  have hI := IV_arr (n2 := B + 2) (td2 := fun a b => (a = B ∧ 0 ≤ b) ∨ (a = B + 1 ∧ 0 ≤ b)) hI rfl (by omega) had1 (fun _ _ q => Or.inl q) (fun j _ _ => Or.inr ⟨rfl, Nat.zero_le _⟩) (Or.inr fun i _ => if_neg (by omega))
  refine g_putf (t := B + 1) K lf_X5_11 hm dX5_init_10 rfl h.k0 (by omega) (Nat.le_of_lt h.n2) h.r0 ?_
  have hI := IV_put (k := B) (j := 0) (td2 := fun a b => (a = B ∧ 1 ≤ b) ∨ (a = B + 1 ∧ 0 ≤ b)) hI (Nat.le_refl _) (by
    rw [rf_obj (by rw [h.k0]; decide), h.r0]
    omega) (fun a i _ _ q => by
    rcases q with q | q
    · by_cases e : i = 0
      · exact Or.inr ⟨q.1, e⟩
      · exact Or.inl (Or.inl ⟨q.1, by omega⟩)
    · exact Or.inl (Or.inr q))
  refine g_aload_n K dX5_init_13 rfl ?_
  refine g_bipush K dX5_init_14 kb_6 ?_
  refine g_newarr (t := 0) (N := 6) (ty := .int) (n2 := B + 3) K wa_int rfl rfl (by decide) rfl (by decide) dX5_init_16 rfl h.k2 h.l2 h.n2 hI.2.2.1 rfl (by decide) (by decide) (fun ad2 had2 _ => ?_)
  rw [← had2 B (by omega)]
  have hI := IV_arr (n2 := B + 3) hI rfl (by omega) had2 (fun _ _ q => q) (fun j _ hr => rp_no (by rw [h.k2]; decide) (by rw [h.k2]; decide) hr) (Or.inl rfl)
  refine g_putf (t := B + 2) K lf_X5_17 hm dX5_init_18 rfl h.k0 (by omega) (by show B + 3 ≤ 181; have : B + 26 < 181 := hlast; omega) h.r1 ?_
  have hI := IV_put (k := B) (j := 1) (td2 := fun a b => a = B + 1 ∧ 0 ≤ b) hI (Nat.le_refl _) (by
    rw [rf_obj (by rw [h.k0]; decide), h.r1]
    omega) (fun a i hi hr q => by
    rcases q with q | q
    · by_cases e : i = 1
      · exact Or.inr ⟨q.1, e⟩
      · rw [q.1, h.l0] at hi
        rw [q.1, rp_obj h.k0 (by decide)] at hr
        exact absurd ((by decide : ∀ j, j < 5 → 2 ≤ j → isR 5 j = false) i hi (by omega)) (by rw [hr]; decide)
    · exact Or.inl q)
  refine g_iconst K dX5_init_21 kc_0 ?_
  refine g_istore_n (ls2 := [_, some (.int _)]) K dX5_init_22 (by decide) rfl ?_
  exact lp (6 + 1) 0 _ _ _ ad2 _ _ (by omega) (by omega) rfl rfl rfl hI
set_option maxHeartbeats 4000000 in
set_option maxRecDepth 100000 in
theorem c_X2_init {l : Launch} {b : Nat} {D : va_G} {cA : Nat → ClassId} {ad : Nat → Nat} {Z : Nat → Nat → Bool} {S : ST}  (hCL : CL (56) Z S) (hS : ∀ i, S 55 i = 0) : MN l b D cA yX2_init cX2_init 2 3 109 624 [.ref (ad 55)] (56) (165) ad Z S (PN iv55 55 (165) ad Z S) := by
  refine MN.intro (j := 1) (ls := [some (.ref (ad 55)), none]) pn_X2 rfl rfl rfl rfl (fun pr en s0 mi args below meth c' K hm hAO => ?_)
  have lp : ∀ (fuel k n ce sl : Nat) (ad1 : Nat → Nat) (Z1 : Nat → Nat → Bool) (S1 : ST), 4 + 1 ≤ k + fuel → k ≤ 4 → n = 57 + 27 * k → ce = 1 + 27 * k → sl = 4 + 155 * k → IV iv55 (fun a j => a = 56 ∧ k ≤ j) (fun a => a = 56) (55 + 1) 55 n ad Z S ad1 Z1 S1 → (∀ i, i < k → S1 56 i = nI (57 + 27 * i)) → G pr l en (rmn 3 109 624) s0 mi args below meth c' (MQ below (QN b D cA (165) (PN iv55 55 (165) ad Z S)) args s0 109 624 (aF b)) b D cA 2 n ad1 Z1 ce sl 14 [some (.ref (ad1 55)), some (.int (nI k))] [] S1 := by
    intro fuel
    induction fuel with
    | zero =>
      intro k n ce sl ad1 Z1 S1 hif hk6 hn hce hsl hI h56
      omega
    | succ fuel ih =>
      intro k n ce sl ad1 Z1 S1 hif hk6 hn hce hsl hI h56
      subst hn hce hsl
      have hz0 : Z1 55 0 = true := hI.2.2.2.1 55 0 (Nat.le_refl _) (by omega) (by decide) (by decide) (fun q => absurd q.1 (by decide))
      refine g_iload_n K dX2_init_14 rfl ?_
      refine g_iconst K dX2_init_15 kc_4 ?_
      refine g_icmp_ge (tgt := 38) K dX2_init_16 (by decide) (fun u26 => ?_) (fun u26 => ?_)
      · have hk : k = 4 := by
          rw [show (4 : Int32) = nI 4 from rfl, nI_leI (by omega) (by omega)] at u26
          omega
        subst hk
        have hI2 := IV.sd hI (fun a i hi q => by
          have q : a = 56 := q
          subst q
          rw [h56 i hi]
          exact (if_pos rfl).symm)
        have hI3 : IV iv55 (fun _ _ => False) (fun _ => False) (55 + 1) 55 165 ad Z S _ _ _ := IV.td hI2 (fun a j hj _ q => by
          have hj2 : j < ln 56 := by rw [← q.1]; exact hj
          have : ln 56 = 4 := rfl
          omega)
        exact g_vretN K dX2_init_38 rfl ⟨by decide, by decide⟩ hI3
      · have hk : k < 4 := by
          rw [show (4 : Int32) = nI 4 from rfl, nI_leI (by omega) (by omega)] at u26
          omega
        have hC := st_57 k hk
        have hC26 : 57 + 27 * k + 26 < 181 := hC.2.1
        refine g_aload_n K dX2_init_19 rfl ?_
        refine g_getr (j := 56) K lk_X2_11 dX2_init_20 rfl (by decide) (rfl : kd 55 = 2) (by omega) (Nat.le_of_lt hC.n0) hz0 rfl ?_
        refine g_iload_n K dX2_init_23 rfl ?_
        refine g_newobj (ci := 5) (N := 5) (n2 := 57 + 27 * k + 1) K tyX5 rfl nw_X2_9 tyX5_ok df_X5 dX2_init_24 hC.k0 hC.n0 hI.2.2.1 rfl (by show 1 + 27 * k + 1 ≤ 109; omega) (by show 4 + 155 * k + 5 ≤ 624; omega) (fun ad2 had2 hCL2 => ?_)
        rw [← had2 55 (by omega), ← had2 56 (by omega)]
        refine g_dup K dX2_init_27 rfl ?_
        refine g_init (n1 := 57 + 27 * k + 27) K (c_X5_init hC hCL2 (fun i => congrFun str_s i)) mi_X5_init ml_X2_17 rfl (by decide +kernel) dX2_init_28 (by simp [Value.category]) ⟨by decide, by decide⟩ ⟨by show 1 + 27 * k + 1 + 26 ≤ 109; omega, by show 4 + 155 * k + 5 + 150 ≤ 624; omega⟩ hAO (fun ad3 Z3 S3 h3 => ?_)
        rw [← h3.1 55 (by omega), ← h3.1 56 (by omega), ← h3.1 (57 + 27 * k) (by omega)]
        have hI2 := IV_call (u := 57 + 27 * k) (n1 := 57 + 27 * k + 27) hI (by omega) had2 h3 (fun a i a1 a2 _ _ => by
          unfold ivS iv55
          by_cases e : a = 57 + 27 * k + 2
          · rw [if_pos e, if_neg (by omega), if_pos (by omega)]
          · rw [if_neg e, if_neg (by omega), if_neg (by omega)])
        have hS3 : S3 56 = S1 56 := ((h3.2.2.2.2.2 56 (by omega)).2).trans (str_n (by omega))
        refine g_aastN (k := 56) (j := k) (t := 57 + 27 * k) (t0 := 4) (S2 := stw S3 56 k (nI (57 + 27 * k))) K dX2_init_31 rfl (rfl : ln 56 = 4) hk (rfl : kd 56 = 12) (by decide) rfl rfl (by omega) hC.k0 (by omega) (by rw [rf_12 rfl, stw_app, if_pos ⟨rfl, rfl⟩]; exact nI_clamp (by omega)) (fun a ha => by rw [rf_12 rfl, rf_12 rfl, stw_app, if_neg (fun q => ha q.2)]) (fun a ha => stw_n ha) ?_
        have hI3 := IV_put2 (k := 56) (j := k) (x := 57 + 27 * k) (td2 := fun a j => a = 56 ∧ k + 1 ≤ j) hI2 (by omega) rfl rfl (by omega) (by omega) (fun a i _ _ q => by
          by_cases e : i = k
          · exact Or.inr ⟨q.1, e⟩
          · exact Or.inl ⟨q.1, by omega⟩)
        refine g_iinc (ls2 := [_, some (.int _)]) K dX2_init_32 rfl kc_1 rfl ?_
        refine g_goto (tgt := 14) K dX2_init_35 (by decide) ?_
        rw [nI_1]
        exact ih (k + 1) _ _ _ ad3 _ _ (by omega) (by omega) (by omega) (by omega) (by omega) hI3 (fun i hi => by
          rw [stw_app]
          by_cases e : i = k
          · rw [if_pos ⟨rfl, e⟩, e]
          · rw [if_neg (fun q => e q.2), hS3]
            exact h56 i (by omega))
  refine g_aload_n K dX2_init_0 rfl ?_
  refine g_objInit K mj_X2_3 dX2_init_1 ⟨by decide, by decide⟩ ?_
  have hI := IV_start (iv := iv55) (td := fun a b => a = 55 ∧ 0 ≤ b) (sd := fun a => a = 56) (t := 55) (ad := ad) hCL (fun i _ => (hS i).trans (by rfl)) (fun j => ⟨rfl, Nat.zero_le j⟩)
  refine g_aload_n K dX2_init_4 rfl ?_
  refine g_iconst K dX2_init_5 kc_4 ?_
  refine g_newrow (t := 4) (N := 4) (n2 := 57) K nw_X2_9.1 hAO.2 rfl (by decide) (by decide) dX2_init_6 rfl (rfl : kd 56 = 12) (rfl : ln 56 = 4) (by decide) hI.2.2.1 rfl (by decide) (by decide) (fun ad1 had1 _ => ?_)
  rw [← had1 55 (by omega)]
  have hI := IV_arr (n2 := 57) (td2 := fun a b => (a = 55 ∧ 0 ≤ b) ∨ (a = 56 ∧ 0 ≤ b)) hI rfl (by omega) had1 (fun _ _ q => Or.inl q) (fun j _ _ => Or.inr ⟨rfl, Nat.zero_le _⟩) (Or.inl rfl)
  refine g_putf (t := 56) K lf_X2_11 hm dX2_init_9 rfl (rfl : kd 55 = 2) (by decide) (by decide) rfl ?_
  have hI := IV_put (k := 55) (j := 0) (td2 := fun a b => a = 56 ∧ 0 ≤ b) hI (Nat.le_refl _) (by
    rw [rf_obj (by decide), show rs 55 0 = 56 from rfl]
    omega) (fun a i hi hr q => by
    rcases q with q | q
    · by_cases e : i = 0
      · exact Or.inr ⟨q.1, e⟩
      · rw [q.1, show ln 55 = 2 from rfl] at hi
        rw [q.1, rp_obj (show kd 55 = 2 from rfl) (by decide)] at hr
        exact absurd ((by decide : ∀ j, j < 2 → 1 ≤ j → isR 2 j = false) i hi (by omega)) (by rw [hr]; decide)
    · exact Or.inl q)
  refine g_iconst K dX2_init_12 kc_0 ?_
  refine g_istore_n (ls2 := [_, some (.int _)]) K dX2_init_13 (by decide) rfl ?_
  exact lp (4 + 1) 0 _ _ _ ad1 _ _ (by omega) (by omega) rfl rfl rfl hI (fun i hi => absurd hi (by omega))
