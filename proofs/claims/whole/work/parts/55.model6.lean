theorem cpz {S : ST} {a p k : Nat} (h : k < 129) : cpR S a 182 p 0 129 k = S a (p + k) := by
  have e := cpR_in (S := S) (a := a) (c := 182) (p := p) (q := 0) h
  rw [Nat.zero_add] at e
  exact e
theorem cpk {S : ST} {a c k : Nat} (h : k < 129) : cpR S a c 0 0 129 k = S a k := by
  have e := cpR_in (S := S) (a := a) (c := c) (p := 0) (q := 0) h
  rw [Nat.zero_add] at e
  exact e
set_option maxHeartbeats 4000000 in
set_option maxRecDepth 100000 in
theorem c_X7_set {l : Launch} {b : Nat} {D : va_G} {cA : Nat → ClassId} {ad : Nat → Nat} {S : ST} {A : AS} {n : Nat} {x v : Int32} (hA : MRel S A) (hs : StOk (aZ A) n) : MT l b D cA NN ad zT yX7_set cX7_set 4 (some .int) 2 [.ref (ad 181), .int x, .int v] S (RI (MPost (o_set A x v) S)) := by
  have h6 := hs.2.2.1
  have hn := hs.2.1
  have hz := hA.1
  refine MT.intro (j := 1) (ls := [some (.ref (ad 181)), some (.int x), some (.int v), none]) pn_X7 rfl rfl rfl (fun pr en s0 mi below meth c' K _ => ?_)
  refine g_iload_n K dX7_set_0 rfl ?_
  refine g_iload_n K dX7_set_1 rfl ?_
  refine g_callSi K c_X7_isValue mw_X7_isValue ml_X7_154 dX7_set_2 (by rfl) rfl (by simp [Value.category]) ⟨by decide, by decide⟩ ⟨by decide, by decide⟩ ?_
  refine g_if_ne (tgt := 11) K dX7_set_5 (by decide) (fun u5 => ?_) (fun u5 => ?_)
  · have hv : (0 ≤ x ∧ x < 6) ∧ leastS (cK x) ≤ v ∧ v ≤ mostS (cK x) := by grind
    obtain ⟨j, hj, hxj, hk⟩ := c_in (n := 6) (z := aZ A) (by decide) hv.1
    refine g_aload_n K dX7_set_11 rfl ?_
    refine g_getr (j := 182) K lk_X7_7 dX7_set_12 rfl (by decide) (rfl : kd 181 = 7) (by decide) (by decide) rfl (rfl : rs 181 0 = 182) ?_
    refine g_iload_n K dX7_set_15 rfl ?_
    refine g_iald (j := j) K dX7_set_16 hxj ln_182 (by omega) (rfl : kd 182 = 8) (by decide) (hz j (by omega)) ?_
    refine g_istore_n (ls2 := [_, _, _, some (.int _)]) K dX7_set_17 (by decide) rfl ?_
    refine g_iload_n K dX7_set_18 rfl ?_
    refine g_iload_n K dX7_set_19 rfl ?_
    refine g_icmp_ne (tgt := 26) K dX7_set_20 (by decide) (fun u20 => ?_) (fun u20 => ?_)
    · refine g_aload_n K dX7_set_26 rfl ?_
      refine g_callVpv K (c_X7_record hA) mw_X7_record ml_X7_70 dX7_set_27 (by rfl) rfl rfl (by decide) (by simp [Value.category]) ⟨by decide, by decide⟩ ⟨by decide, by decide⟩ (fun S27 h27 => ?_)
      refine g_aload_n K dX7_set_30 rfl ?_
      refine g_getr (j := 182) K lk_X7_7 dX7_set_31 rfl (by decide) (rfl : kd 181 = 7) (by decide) (by decide) rfl (rfl : rs 181 0 = 182) ?_
      refine g_iload_n K dX7_set_34 rfl ?_
      refine g_iload_n K dX7_set_35 rfl ?_
      refine g_iast (j := j) K dX7_set_36 hxj ln_182 (by omega) (rfl : kd 182 = 8) (by decide) rfl ?_
      refine g_iload_n K dX7_set_37 rfl ?_
      refine g_iret K dX7_set_38 ⟨_, rfl, ?_⟩
      refine mp_ok ?_ (MRel_put h27.1) (fun k hk2 => by rw [stw_n (by omega), h27.2 k (by omega) (by omega)])
      unfold o_set
      rw [if_pos hv.1, if_pos hv.2, hk, if_neg (by grind)]
      rfl
    · refine g_bipush K dX7_set_23 kb_m5 ?_
      refine g_iret K dX7_set_25 ⟨_, rfl, ?_⟩
      exact mp_err (by unfold o_set; rw [if_pos hv.1, if_pos hv.2, hk, if_pos (by grind)]) hA
  · have hv : ¬ ((0 ≤ x ∧ x < 6) ∧ leastS (cK x) ≤ v ∧ v ≤ mostS (cK x)) := by grind
    refine g_bipush K dX7_set_8 kb_m2 ?_
    refine g_iret K dX7_set_10 ⟨_, rfl, ?_⟩
    refine mp_err ?_ hA
    unfold o_set
    grind
set_option maxHeartbeats 4000000 in
set_option maxRecDepth 100000 in
theorem c_X7_undo {l : Launch} {b : Nat} {D : va_G} {cA : Nat → ClassId} {ad : Nat → Nat} {S : ST} {A : AS} {n : Nat} (hA : MRel S A) (hs : StOk (aZ A) n) : MT l b D cA NN ad zT yX7_undo cX7_undo 1 (some .int) 1 [.ref (ad 181)] S (RI (MPost (o_undo A) S)) := by
  have h6 := hs.2.2.1
  have hn := hs.2.1
  have hz := hA.1
  refine MT.intro (j := 0) (ls := [some (.ref (ad 181))]) pn_X7 rfl rfl rfl (fun pr en s0 mi below meth c' K _ => ?_)
  refine g_aload_n K dX7_undo_0 rfl ?_
  refine g_geti K lk_X7_58 dX7_undo_1 rfl (rfl : kd 181 = 7) (by decide) (by decide) hA.2.1.1 ?_
  refine g_if_ne (tgt := 10) K dX7_undo_4 (by decide) (fun u4 => ?_) (fun u4 => ?_)
  · have hm0 : ¬ aM A = 0 := by
      intro q
      rw [q] at u4
      exact u4 rfl
    obtain ⟨m, hm⟩ : ∃ m, aM A = m + 1 := ⟨aM A - 1, by omega⟩
    have hm4 : m < 4 := by have := hA.2.1.2.1; omega
    refine g_aload_n K dX7_undo_10 rfl ?_
    refine g_dup K dX7_undo_11 rfl ?_
    refine g_geti K lk_X7_58 dX7_undo_12 rfl (rfl : kd 181 = 7) (by decide) (by decide) hA.2.1.1 ?_
    refine g_iconst K dX7_undo_15 kc_1 ?_
    refine g_isub K dX7_undo_16 ?_
    rw [hm, nI_pred]
    refine g_puti K lk_X7_58 lq_X7_2 dX7_undo_17 (put_i _) rfl (rfl : kd 181 = 7) (by decide) (by decide) ?_
    refine g_aload_n K dX7_undo_20 rfl ?_
    refine g_getr (j := 183) K lk_X7_13 dX7_undo_21 rfl (by decide) (rfl : kd 181 = 7) (by decide) (by decide) rfl (rfl : rs 181 1 = 183) ?_
    refine g_sipush K dX7_undo_24 kp_129 ?_
    refine g_aload_n K dX7_undo_27 rfl ?_
    refine g_geti K lk_X7_58 dX7_undo_28 rfl (rfl : kd 181 = 7) (by decide) (by decide) (show stw S 181 2 (nI m) 181 2 = nI m by rw [stw_app, if_pos ⟨rfl, rfl⟩]) ?_
    refine g_imul K dX7_undo_31 ?_
    rw [show (129 : Int32) * nI m = nI (129 * m) from pk_mul 129 m]
    refine g_aload_n K dX7_undo_32 rfl ?_
    refine g_getr (j := 182) K lk_X7_7 dX7_undo_33 rfl (by decide) (rfl : kd 181 = 7) (by decide) (by decide) rfl (rfl : rs 181 0 = 182) ?_
    refine g_iconst K dX7_undo_36 kc_0 ?_
    refine g_callSv K (c_X7_copyState (p := 129 * m) (q := 0) row_183 row_182 (by decide) (by omega) (by decide) (by decide) (by decide)) mw_X7_copyState ml_X7_62 dX7_undo_37 (by rfl) rfl (by simp [Value.category]) ⟨by decide, by decide⟩ ⟨by decide, by decide⟩ ?_
    refine g_aload_n K dX7_undo_40 rfl ?_
    refine g_geti K lk_X7_58 dX7_undo_41 rfl (rfl : kd 181 = 7) (by decide) (by decide) (show str (stw S 181 2 (nI m)) 182 _ 181 2 = nI m by rw [str_n (by decide), stw_app, if_pos ⟨rfl, rfl⟩]) ?_
    refine g_iret K dX7_undo_44 ⟨_, rfl, ?_⟩
    refine mp_ok (A := (aP A m, m, A.2.2)) ?_ ⟨fun k hk => ?_, ⟨?_, ?_, fun i hi k hk => ?_⟩, ?_, ?_⟩ (fun k hk => by rw [str_n (by omega), stw_n (by omega)])
    · unfold o_undo
      rw [if_neg hm0, hm]
      rfl
    · rw [str_s, cpz hk, stw_n (by decide)]
      exact hA.2.1.2.2 m (by omega) k hk
    · rw [str_n (by decide), stw_app, if_pos ⟨rfl, rfl⟩]
      rfl
    · show m ≤ 4
      omega
    · have hi2 : i < m := hi
      rw [str_n (by decide), stw_n (by decide)]
      exact hA.2.1.2.2 i (by omega) k hk
    · show str _ 182 _ 181 4 = aK A ∧ (aK A = 0 ∨ aK A = 1) ∧ (aK A = 1 → ∀ k, k < 129 → str _ 182 _ 184 k = aKZ A k)
      rw [str_n (by decide), stw_app, if_neg (by decide), str_n (by decide), stw_n (by decide)]
      exact hA.2.2.1
    · show str _ 182 _ 181 6 = nI (aL A) ∧ aL A ≤ 60 ∧ ∀ i, i < aL A → str _ 182 _ 185 i = aT A i
      rw [str_n (by decide), stw_app, if_neg (by decide), str_n (by decide), stw_n (by decide)]
      exact hA.2.2.2
  · have hm0 : aM A = 0 := by
      have := hA.2.1.2.1
      exact (nI_eq (b := 0) (by omega) (by decide)).mp u4
    refine g_bipush K dX7_undo_7 kb_m5 ?_
    refine g_iret K dX7_undo_9 ⟨_, rfl, ?_⟩
    exact mp_err (by unfold o_undo; rw [if_pos hm0]) hA
set_option maxHeartbeats 4000000 in
set_option maxRecDepth 100000 in
theorem c_X7_keep {l : Launch} {b : Nat} {D : va_G} {cA : Nat → ClassId} {ad : Nat → Nat} {S : ST} {A : AS} {n : Nat} (hA : MRel S A) (hs : StOk (aZ A) n) : MT l b D cA NN ad zT yX7_keep cX7_keep 1 (some .int) 1 [.ref (ad 181)] S (RI (MPost (o_keep A) S)) := by
  have h6 := hs.2.2.1
  have hn := hs.2.1
  have hz := hA.1
  refine MT.intro (j := 0) (ls := [some (.ref (ad 181))]) pn_X7 rfl rfl rfl (fun pr en s0 mi below meth c' K _ => ?_)
  refine g_aload_n K dX7_keep_0 rfl ?_
  refine g_getr (j := 182) K lk_X7_7 dX7_keep_1 rfl (by decide) (rfl : kd 181 = 7) (by decide) (by decide) rfl (rfl : rs 181 0 = 182) ?_
  refine g_iconst K dX7_keep_4 kc_0 ?_
  refine g_aload_n K dX7_keep_5 rfl ?_
  refine g_getr (j := 184) K lk_X7_16 dX7_keep_6 rfl (by decide) (rfl : kd 181 = 7) (by decide) (by decide) rfl (rfl : rs 181 3 = 184) ?_
  refine g_iconst K dX7_keep_9 kc_0 ?_
  refine g_callSv K (c_X7_copyState (p := 0) (q := 0) row_182 row_184 (by decide) (by decide) (by decide) (by decide) (by decide)) mw_X7_copyState ml_X7_62 dX7_keep_10 (by rfl) rfl (by simp [Value.category]) ⟨by decide, by decide⟩ ⟨by decide, by decide⟩ ?_
  refine g_aload_n K dX7_keep_13 rfl ?_
  refine g_iconst K dX7_keep_14 kc_1 ?_
  refine g_puti K lk_X7_66 lq_X7_4 dX7_keep_15 (put_z (by first | exact Or.inl rfl | exact Or.inr rfl | assumption)) rfl (rfl : kd 181 = 7) (by decide) (by decide) ?_
  refine g_aload_n K dX7_keep_18 rfl ?_
  refine g_getr (j := 182) K lk_X7_7 dX7_keep_19 rfl (by decide) (rfl : kd 181 = 7) (by decide) (by decide) rfl (rfl : rs 181 0 = 182) ?_
  refine g_bipush K dX7_keep_22 kb_6 ?_
  refine g_iald (j := 6) K dX7_keep_24 rfl ln_182 (by decide) (rfl : kd 182 = 8) (by decide) (show stw (str S 184 _) 181 4 1 182 6 = aZ A 6 by rw [stw_n (by decide), str_n (by decide)]; exact hz 6 (by decide)) ?_
  refine g_iret K dX7_keep_25 ⟨_, rfl, ?_⟩
  refine mp_ok (A := (aZ A, aM A, aP A, 1, aZ A, A.2.2.2.2.2)) rfl ⟨fun k hk => ?_, ?_, ⟨?_, Or.inr rfl, fun _ k hk => ?_⟩, ?_⟩ (fun k hk => by rw [stw_n (by omega), str_n (by omega)])
  · rw [stw_n (by decide), str_n (by decide)]
    exact hz k hk
  · show stw _ 181 4 1 181 2 = nI (aM A) ∧ aM A ≤ 4 ∧ ∀ i, i < aM A → ∀ k, k < 129 → stw _ 181 4 1 183 (129 * i + k) = aP A i k
    rw [stw_app, if_neg (by decide), str_n (by decide), stw_n (by decide), str_n (by decide)]
    exact hA.2.1
  · rw [stw_app, if_pos ⟨rfl, rfl⟩]
    rfl
  · rw [stw_n (by decide), str_s, cpk hk]
    exact hz k hk
  · show stw _ 181 4 1 181 6 = nI (aL A) ∧ aL A ≤ 60 ∧ ∀ i, i < aL A → stw _ 181 4 1 185 i = aT A i
    rw [stw_app, if_neg (by decide), str_n (by decide), stw_n (by decide), str_n (by decide)]
    exact hA.2.2.2
set_option maxHeartbeats 4000000 in
set_option maxRecDepth 100000 in
theorem c_X7_restore {l : Launch} {b : Nat} {D : va_G} {cA : Nat → ClassId} {ad : Nat → Nat} {S : ST} {A : AS} {n : Nat} (hA : MRel S A) (hs : StOk (aZ A) n) : MT l b D cA NN ad zT yX7_restore cX7_restore 1 (some .int) 2 [.ref (ad 181)] S (RI (MPost (o_restore A) S)) := by
  have h6 := hs.2.2.1
  have hn := hs.2.1
  have hz := hA.1
  refine MT.intro (j := 0) (ls := [some (.ref (ad 181))]) pn_X7 rfl rfl rfl (fun pr en s0 mi below meth c' K _ => ?_)
  refine g_aload_n K dX7_restore_0 rfl ?_
  refine g_geti K lk_X7_66 dX7_restore_1 rfl (rfl : kd 181 = 7) (by decide) (by decide) hA.2.2.1.1 ?_
  refine g_if_ne (tgt := 10) K dX7_restore_4 (by decide) (fun u4 => ?_) (fun u4 => ?_)
  · refine g_aload_n K dX7_restore_10 rfl ?_
    refine g_callVpv K (c_X7_record hA) mw_X7_record ml_X7_70 dX7_restore_11 (by rfl) rfl rfl (by decide) (by simp [Value.category]) ⟨by decide, by decide⟩ ⟨by decide, by decide⟩ (fun S11 h11 => ?_)
    refine g_aload_n K dX7_restore_14 rfl ?_
    refine g_getr (j := 184) K lk_X7_16 dX7_restore_15 rfl (by decide) (rfl : kd 181 = 7) (by decide) (by decide) rfl (rfl : rs 181 3 = 184) ?_
    refine g_iconst K dX7_restore_18 kc_0 ?_
    refine g_aload_n K dX7_restore_19 rfl ?_
    refine g_getr (j := 182) K lk_X7_7 dX7_restore_20 rfl (by decide) (rfl : kd 181 = 7) (by decide) (by decide) rfl (rfl : rs 181 0 = 182) ?_
    refine g_iconst K dX7_restore_23 kc_0 ?_
    refine g_callSv K (c_X7_copyState (p := 0) (q := 0) row_184 row_182 (by decide) (by decide) (by decide) (by decide) (by decide)) mw_X7_copyState ml_X7_62 dX7_restore_24 (by rfl) rfl (by simp [Value.category]) ⟨by decide, by decide⟩ ⟨by decide, by decide⟩ ?_
    have hk1 : aK A = 1 := by
      rcases hA.2.2.1.2.1 with q | q
      · exact absurd q u4
      · exact q
    have hzk : MZ (str S11 182 (cpR S11 184 182 0 0 129)) (aKZ A) := fun k hk => by
      rw [str_s, cpk hk, h11.2 184 (by decide) (by decide)]
      exact hA.2.2.1.2.2 hk1 k hk
    refine g_aload_n K dX7_restore_27 rfl ?_
    refine g_getr (j := 182) K lk_X7_7 dX7_restore_28 rfl (by decide) (rfl : kd 181 = 7) (by decide) (by decide) rfl (rfl : rs 181 0 = 182) ?_
    refine g_bipush K dX7_restore_31 kb_6 ?_
    refine g_iald (j := 6) K dX7_restore_33 rfl ln_182 (by decide) (rfl : kd 182 = 8) (by decide) (hzk 6 (by decide)) ?_
    refine g_iret K dX7_restore_34 ⟨_, rfl, ?_⟩
    refine mp_ok ?_ (MRel_row h11.1 hzk (fun k hk => str_n hk)) (fun k hk => by rw [str_n (by omega), h11.2 k (by omega) (by omega)])
    unfold o_restore
    rw [if_neg u4]
  · refine g_bipush K dX7_restore_7 kb_m5 ?_
    refine g_iret K dX7_restore_9 ⟨_, rfl, ?_⟩
    exact mp_err (by unfold o_restore; rw [if_pos u4]) hA
set_option maxHeartbeats 4000000 in
set_option maxRecDepth 100000 in
theorem c_X7_type {l : Launch} {b : Nat} {D : va_G} {cA : Nat → ClassId} {ad : Nat → Nat} {S : ST} {A : AS} {n : Nat} {x : Int32} (hA : MRel S A) (hs : StOk (aZ A) n) : MT l b D cA NN ad zT yX7_type cX7_type 2 (some .int) 0 [.ref (ad 181), .int x] S (RI (MPost (o_type A x) S)) := by
  have h6 := hs.2.2.1
  have hn := hs.2.1
  have hz := hA.1
  have hL := hA.2.2.2.2.1
  refine MT.intro (j := 0) (ls := [some (.ref (ad 181)), some (.int x)]) pn_X7 rfl rfl rfl (fun pr en s0 mi below meth c' K _ => ?_)
  refine g_aload_n K dX7_type_0 rfl ?_
  refine g_geti K lk_X7_157 dX7_type_1 rfl (rfl : kd 181 = 7) (by decide) (by decide) hA.2.2.2.1 ?_
  refine g_bipush K dX7_type_4 kb_60 ?_
  refine g_icmp_ne (tgt := 12) K dX7_type_6 (by decide) (fun u6 => ?_) (fun u6 => ?_)
  · have hl : ¬ aL A = 60 := by
      intro q
      rw [q] at u6
      exact u6 rfl
    refine g_aload_n K dX7_type_12 rfl ?_
    refine g_getr (j := 185) K lk_X7_19 dX7_type_13 rfl (by decide) (rfl : kd 181 = 7) (by decide) (by decide) rfl (rfl : rs 181 5 = 185) ?_
    refine g_aload_n K dX7_type_16 rfl ?_
    refine g_geti K lk_X7_157 dX7_type_17 rfl (rfl : kd 181 = 7) (by decide) (by decide) hA.2.2.2.1 ?_
    refine g_iload_n K dX7_type_20 rfl ?_
    refine g_iast (j := (aL A)) K dX7_type_21 rfl ln_185 (by omega) (rfl : kd 185 = 8) (by decide) rfl ?_
    refine g_aload_n K dX7_type_22 rfl ?_
    refine g_dup K dX7_type_23 rfl ?_
    refine g_geti K lk_X7_157 dX7_type_24 rfl (rfl : kd 181 = 7) (by decide) (by decide) (show stw S 185 (aL A) x 181 6 = nI (aL A) by rw [stw_n (by decide)]; exact hA.2.2.2.1) ?_
    refine g_iconst K dX7_type_27 kc_1 ?_
    refine g_iadd K dX7_type_28 ?_
    rw [nI_1]
    refine g_puti K lk_X7_157 lq_X7_6 dX7_type_29 (put_i _) rfl (rfl : kd 181 = 7) (by decide) (by decide) ?_
    refine g_aload_n K dX7_type_32 rfl ?_
    refine g_geti K lk_X7_157 dX7_type_33 rfl (rfl : kd 181 = 7) (by decide) (by decide) (show stw _ 181 6 (nI (aL A + 1)) 181 6 = nI (aL A + 1) by rw [stw_app, if_pos ⟨rfl, rfl⟩]) ?_
    refine g_iret K dX7_type_36 ⟨_, rfl, ?_⟩
    refine mp_ok (A := (aZ A, aM A, aP A, aK A, aKZ A, aL A + 1, upd (aT A) (aL A) x)) (by unfold o_type; rw [if_neg hl]) ⟨fun k hk => ?_, ?_, ?_, ?_, ?_, fun i hi => ?_⟩ (fun k hk => by rw [stw_n (by omega), stw_n (by omega)])
    · rw [stw_n (by decide), stw_n (by decide)]
      exact hz k hk
    · show stw _ 181 6 _ 181 2 = nI (aM A) ∧ aM A ≤ 4 ∧ ∀ i, i < aM A → ∀ k, k < 129 → stw _ 181 6 _ 183 (129 * i + k) = aP A i k
      rw [stw_app, if_neg (by decide), stw_n (by decide), stw_n (by decide), stw_n (by decide)]
      exact hA.2.1
    · show stw _ 181 6 _ 181 4 = aK A ∧ (aK A = 0 ∨ aK A = 1) ∧ (aK A = 1 → ∀ k, k < 129 → stw _ 181 6 _ 184 k = aKZ A k)
      rw [stw_app, if_neg (by decide), stw_n (by decide), stw_n (by decide), stw_n (by decide)]
      exact hA.2.2.1
    · rw [stw_app, if_pos ⟨rfl, rfl⟩]
      rfl
    · show aL A + 1 ≤ 60
      omega
    · have hi2 : i < aL A + 1 := hi
      show stw _ 181 6 _ 185 i = upd (aT A) (aL A) x i
      rw [stw_n (by decide), stw_s]
      unfold upd
      by_cases e : i = aL A
      · rw [if_pos e, if_pos e]
      · rw [if_neg e, if_neg e]
        exact hA.2.2.2.2.2 i (by omega)
  · have hl : aL A = 60 := (nI_eq (b := 60) (by omega) (by decide)).mp u6
    refine g_bipush K dX7_type_9 kb_m3 ?_
    refine g_iret K dX7_type_11 ⟨_, rfl, ?_⟩
    exact mp_err (by unfold o_type; rw [if_pos hl]) hA
set_option maxHeartbeats 4000000 in
set_option maxRecDepth 100000 in
theorem c_X7_clearText {l : Launch} {b : Nat} {D : va_G} {cA : Nat → ClassId} {ad : Nat → Nat} {S : ST} {A : AS} {n : Nat} (hA : MRel S A) (hs : StOk (aZ A) n) : MT l b D cA NN ad zT yX7_clearText cX7_clearText 2 (some .int) 0 [.ref (ad 181)] S (RI (MPost (o_clear A) S)) := by
  have h6 := hs.2.2.1
  have hn := hs.2.1
  have hz := hA.1
  refine MT.intro (j := 1) (ls := [some (.ref (ad 181)), none]) pn_X7 rfl rfl rfl (fun pr en s0 mi below meth c' K _ => ?_)
  refine g_aload_n K dX7_clearText_0 rfl ?_
  refine g_geti K lk_X7_157 dX7_clearText_1 rfl (rfl : kd 181 = 7) (by decide) (by decide) hA.2.2.2.1 ?_
  refine g_istore_n (ls2 := [_, some (.int _)]) K dX7_clearText_4 (by decide) rfl ?_
  refine g_aload_n K dX7_clearText_5 rfl ?_
  refine g_iconst K dX7_clearText_6 kc_0 ?_
  refine g_puti K lk_X7_157 lq_X7_6 dX7_clearText_7 (put_i _) rfl (rfl : kd 181 = 7) (by decide) (by decide) ?_
  refine g_iload_n K dX7_clearText_10 rfl ?_
  refine g_iret K dX7_clearText_11 ⟨_, rfl, ?_⟩
  refine mp_ok (A := (aZ A, aM A, aP A, aK A, aKZ A, 0, aT A)) rfl ⟨fun k hk => ?_, ?_, ?_, ?_, Nat.zero_le _, fun i hi => absurd hi (Nat.not_lt_zero i)⟩ (fun k hk => stw_n (by omega))
  · rw [stw_n (by decide)]
    exact hz k hk
  · show stw _ 181 6 _ 181 2 = nI (aM A) ∧ aM A ≤ 4 ∧ ∀ i, i < aM A → ∀ k, k < 129 → stw _ 181 6 _ 183 (129 * i + k) = aP A i k
    rw [stw_app, if_neg (by decide), stw_n (by decide)]
    exact hA.2.1
  · show stw _ 181 6 _ 181 4 = aK A ∧ (aK A = 0 ∨ aK A = 1) ∧ (aK A = 1 → ∀ k, k < 129 → stw _ 181 6 _ 184 k = aKZ A k)
    rw [stw_app, if_neg (by decide), stw_n (by decide)]
    exact hA.2.2.1
  · rw [stw_app, if_pos ⟨rfl, rfl⟩]
    rfl
set_option maxHeartbeats 4000000 in
set_option maxRecDepth 100000 in
theorem c_X7_count {l : Launch} {b : Nat} {D : va_G} {cA : Nat → ClassId} {ad : Nat → Nat} {S : ST} {A : AS} {n : Nat} {x : Int32} (hA : MRel S A) (hs : StOk (aZ A) n) : MT l b D cA NN ad zT yX7_count cX7_count 2 (some .int) 2 [.ref (ad 181), .int x] S (EI (o_count A x) S) := by
  have h6 := hs.2.2.1
  have hn := hs.2.1
  have hz := hA.1
  refine MT.intro (j := 0) (ls := [some (.ref (ad 181)), some (.int x)]) pn_X7 rfl rfl rfl (fun pr en s0 mi below meth c' K _ => ?_)
  refine g_iload_n K dX7_count_0 rfl ?_
  by_cases hsw : (x : Int32).toInt < 0 ∨ 11 < (x : Int32).toInt
  · refine g_tout (tgt := 99) K dX7_count_1 hsw (by decide) ?_
    have hov : o_count A x = -2 := by
      unfold o_count
      rw [if_neg (swo hsw (by decide) (by decide)), if_neg (swo hsw (by decide) (by decide)), if_neg (swo hsw (by decide) (by decide)), if_neg (swo hsw (by decide) (by decide)), if_neg (swo hsw (by decide) (by decide)), if_neg (swo hsw (by decide) (by decide)), if_neg]
      intro q
      rw [Int32.le_iff_toInt_le, Int32.le_iff_toInt_le] at q
      rw [show (6 : Int32).toInt = 6 from rfl, show (11 : Int32).toInt = 11 from rfl] at q
      omega
    refine g_bipush K dX7_count_99 kb_m2 ?_
    refine g_iret K dX7_count_101 ⟨_, rfl, ?_⟩
    exact ⟨hov.symm, rfl⟩
  · have hsw2 : x = 0 ∨ x = 1 ∨ x = 2 ∨ x = 3 ∨ x = 4 ∨ x = 5 ∨ x = 6 ∨ x = 7 ∨ x = 8 ∨ x = 9 ∨ x = 10 ∨ x = 11 := by
      obtain ⟨jsw, hjs, ejs⟩ := tsw (n := 11) (by decide) hsw
      rcases (show jsw = 0 ∨ jsw = 1 ∨ jsw = 2 ∨ jsw = 3 ∨ jsw = 4 ∨ jsw = 5 ∨ jsw = 6 ∨ jsw = 7 ∨ jsw = 8 ∨ jsw = 9 ∨ jsw = 10 ∨ jsw = 11 by omega) with rfl | rfl | rfl | rfl | rfl | rfl | rfl | rfl | rfl | rfl | rfl | rfl <;> (rw [ejs]; decide)
    rcases hsw2 with hsw2 | hsw2 | hsw2 | hsw2 | hsw2 | hsw2 | hsw2 | hsw2 | hsw2 | hsw2 | hsw2 | hsw2
    · refine g_tin (off := 63) (tgt := 64) K dX7_count_1 (by rw [hsw2]; decide) (by rw [hsw2]; decide) (by rw [hsw2]; rfl) (by decide) ?_
      obtain ⟨jj, hj9, hxj, hov⟩ : ∃ jj, jj < 9 ∧ 6 + x = nI jj ∧ o_count A x = aZ A jj := ⟨6, by decide, by rw [hsw2]; rfl, by unfold o_count; rw [hsw2]; rfl⟩
      refine g_aload_n K dX7_count_64 rfl ?_
      refine g_getr (j := 182) K lk_X7_7 dX7_count_65 rfl (by decide) (rfl : kd 181 = 7) (by decide) (by decide) rfl (rfl : rs 181 0 = 182) ?_
      refine g_bipush K dX7_count_68 kb_6 ?_
      refine g_iload_n K dX7_count_70 rfl ?_
      refine g_iadd K dX7_count_71 ?_
      refine g_iald (j := jj) K dX7_count_72 hxj ln_182 (by omega) (rfl : kd 182 = 8) (by decide) (hz jj (by omega)) ?_
      refine g_iret K dX7_count_73 ⟨_, rfl, ?_⟩
      exact ⟨hov.symm, rfl⟩
    · refine g_tin (off := 63) (tgt := 64) K dX7_count_1 (by rw [hsw2]; decide) (by rw [hsw2]; decide) (by rw [hsw2]; rfl) (by decide) ?_
      obtain ⟨jj, hj9, hxj, hov⟩ : ∃ jj, jj < 9 ∧ 6 + x = nI jj ∧ o_count A x = aZ A jj := ⟨7, by decide, by rw [hsw2]; rfl, by unfold o_count; rw [hsw2]; rfl⟩
      refine g_aload_n K dX7_count_64 rfl ?_
      refine g_getr (j := 182) K lk_X7_7 dX7_count_65 rfl (by decide) (rfl : kd 181 = 7) (by decide) (by decide) rfl (rfl : rs 181 0 = 182) ?_
      refine g_bipush K dX7_count_68 kb_6 ?_
      refine g_iload_n K dX7_count_70 rfl ?_
      refine g_iadd K dX7_count_71 ?_
      refine g_iald (j := jj) K dX7_count_72 hxj ln_182 (by omega) (rfl : kd 182 = 8) (by decide) (hz jj (by omega)) ?_
      refine g_iret K dX7_count_73 ⟨_, rfl, ?_⟩
      exact ⟨hov.symm, rfl⟩
    · refine g_tin (off := 63) (tgt := 64) K dX7_count_1 (by rw [hsw2]; decide) (by rw [hsw2]; decide) (by rw [hsw2]; rfl) (by decide) ?_
      obtain ⟨jj, hj9, hxj, hov⟩ : ∃ jj, jj < 9 ∧ 6 + x = nI jj ∧ o_count A x = aZ A jj := ⟨8, by decide, by rw [hsw2]; rfl, by unfold o_count; rw [hsw2]; rfl⟩
      refine g_aload_n K dX7_count_64 rfl ?_
      refine g_getr (j := 182) K lk_X7_7 dX7_count_65 rfl (by decide) (rfl : kd 181 = 7) (by decide) (by decide) rfl (rfl : rs 181 0 = 182) ?_
      refine g_bipush K dX7_count_68 kb_6 ?_
      refine g_iload_n K dX7_count_70 rfl ?_
      refine g_iadd K dX7_count_71 ?_
      refine g_iald (j := jj) K dX7_count_72 hxj ln_182 (by omega) (rfl : kd 182 = 8) (by decide) (hz jj (by omega)) ?_
      refine g_iret K dX7_count_73 ⟨_, rfl, ?_⟩
      exact ⟨hov.symm, rfl⟩
    · refine g_tin (off := 73) (tgt := 74) K dX7_count_1 (by rw [hsw2]; decide) (by rw [hsw2]; decide) (by rw [hsw2]; rfl) (by decide) ?_
      have hov : o_count A x = sumF (fun k => if qOf (aZ A) k 1 = -5 then 0 else 1) (cK (aZ A 6)) := by
        unfold o_count
        rw [hsw2]
        rfl
      refine g_aload_n K dX7_count_74 rfl ?_
      refine g_callVi K (c_X7_withTare hz hn h6) mw_X7_withTare ml_X7_188 dX7_count_75 (by rfl) rfl rfl (by decide) (by simp [Value.category]) ⟨by decide, by decide⟩ ⟨by decide, by decide⟩ ?_
      refine g_iret K dX7_count_78 ⟨_, rfl, ?_⟩
      refine ⟨?_, rfl⟩
      rw [hov, hn, cK_nI (by omega)]
    · refine g_tin (off := 78) (tgt := 79) K dX7_count_1 (by rw [hsw2]; decide) (by rw [hsw2]; decide) (by rw [hsw2]; rfl) (by decide) ?_
      have hov : o_count A x = nI (aM A) := by
        unfold o_count
        rw [hsw2]
        rfl
      refine g_aload_n K dX7_count_79 rfl ?_
      refine g_geti K lk_X7_58 dX7_count_80 rfl (rfl : kd 181 = 7) (by decide) (by decide) hA.2.1.1 ?_
      refine g_iret K dX7_count_83 ⟨_, rfl, ?_⟩
      exact ⟨hov.symm, rfl⟩
    · refine g_tin (off := 83) (tgt := 84) K dX7_count_1 (by rw [hsw2]; decide) (by rw [hsw2]; decide) (by rw [hsw2]; rfl) (by decide) ?_
      have hov : o_count A x = nI (aL A) := by
        unfold o_count
        rw [hsw2]
        rfl
      refine g_aload_n K dX7_count_84 rfl ?_
      refine g_geti K lk_X7_157 dX7_count_85 rfl (rfl : kd 181 = 7) (by decide) (by decide) hA.2.2.2.1 ?_
      refine g_iret K dX7_count_88 ⟨_, rfl, ?_⟩
      exact ⟨hov.symm, rfl⟩
    · refine g_tin (off := 88) (tgt := 89) K dX7_count_1 (by rw [hsw2]; decide) (by rw [hsw2]; decide) (by rw [hsw2]; rfl) (by decide) ?_
      obtain ⟨jj, hj9, hxj, hov⟩ : ∃ jj, jj < 9 ∧ x - 6 = nI jj ∧ o_count A x = aZ A jj := ⟨0, by decide, by rw [hsw2]; rfl, by unfold o_count; rw [hsw2]; rfl⟩
      refine g_aload_n K dX7_count_89 rfl ?_
      refine g_getr (j := 182) K lk_X7_7 dX7_count_90 rfl (by decide) (rfl : kd 181 = 7) (by decide) (by decide) rfl (rfl : rs 181 0 = 182) ?_
      refine g_iload_n K dX7_count_93 rfl ?_
      refine g_bipush K dX7_count_94 kb_6 ?_
      refine g_isub K dX7_count_96 ?_
      refine g_iald (j := jj) K dX7_count_97 hxj ln_182 (by omega) (rfl : kd 182 = 8) (by decide) (hz jj (by omega)) ?_
      refine g_iret K dX7_count_98 ⟨_, rfl, ?_⟩
      exact ⟨hov.symm, rfl⟩
    · refine g_tin (off := 88) (tgt := 89) K dX7_count_1 (by rw [hsw2]; decide) (by rw [hsw2]; decide) (by rw [hsw2]; rfl) (by decide) ?_
      obtain ⟨jj, hj9, hxj, hov⟩ : ∃ jj, jj < 9 ∧ x - 6 = nI jj ∧ o_count A x = aZ A jj := ⟨1, by decide, by rw [hsw2]; rfl, by unfold o_count; rw [hsw2]; rfl⟩
      refine g_aload_n K dX7_count_89 rfl ?_
      refine g_getr (j := 182) K lk_X7_7 dX7_count_90 rfl (by decide) (rfl : kd 181 = 7) (by decide) (by decide) rfl (rfl : rs 181 0 = 182) ?_
      refine g_iload_n K dX7_count_93 rfl ?_
      refine g_bipush K dX7_count_94 kb_6 ?_
      refine g_isub K dX7_count_96 ?_
      refine g_iald (j := jj) K dX7_count_97 hxj ln_182 (by omega) (rfl : kd 182 = 8) (by decide) (hz jj (by omega)) ?_
      refine g_iret K dX7_count_98 ⟨_, rfl, ?_⟩
      exact ⟨hov.symm, rfl⟩
    · refine g_tin (off := 88) (tgt := 89) K dX7_count_1 (by rw [hsw2]; decide) (by rw [hsw2]; decide) (by rw [hsw2]; rfl) (by decide) ?_
      obtain ⟨jj, hj9, hxj, hov⟩ : ∃ jj, jj < 9 ∧ x - 6 = nI jj ∧ o_count A x = aZ A jj := ⟨2, by decide, by rw [hsw2]; rfl, by unfold o_count; rw [hsw2]; rfl⟩
      refine g_aload_n K dX7_count_89 rfl ?_
      refine g_getr (j := 182) K lk_X7_7 dX7_count_90 rfl (by decide) (rfl : kd 181 = 7) (by decide) (by decide) rfl (rfl : rs 181 0 = 182) ?_
      refine g_iload_n K dX7_count_93 rfl ?_
      refine g_bipush K dX7_count_94 kb_6 ?_
      refine g_isub K dX7_count_96 ?_
      refine g_iald (j := jj) K dX7_count_97 hxj ln_182 (by omega) (rfl : kd 182 = 8) (by decide) (hz jj (by omega)) ?_
      refine g_iret K dX7_count_98 ⟨_, rfl, ?_⟩
      exact ⟨hov.symm, rfl⟩
    · refine g_tin (off := 88) (tgt := 89) K dX7_count_1 (by rw [hsw2]; decide) (by rw [hsw2]; decide) (by rw [hsw2]; rfl) (by decide) ?_
      obtain ⟨jj, hj9, hxj, hov⟩ : ∃ jj, jj < 9 ∧ x - 6 = nI jj ∧ o_count A x = aZ A jj := ⟨3, by decide, by rw [hsw2]; rfl, by unfold o_count; rw [hsw2]; rfl⟩
      refine g_aload_n K dX7_count_89 rfl ?_
      refine g_getr (j := 182) K lk_X7_7 dX7_count_90 rfl (by decide) (rfl : kd 181 = 7) (by decide) (by decide) rfl (rfl : rs 181 0 = 182) ?_
      refine g_iload_n K dX7_count_93 rfl ?_
      refine g_bipush K dX7_count_94 kb_6 ?_
      refine g_isub K dX7_count_96 ?_
      refine g_iald (j := jj) K dX7_count_97 hxj ln_182 (by omega) (rfl : kd 182 = 8) (by decide) (hz jj (by omega)) ?_
      refine g_iret K dX7_count_98 ⟨_, rfl, ?_⟩
      exact ⟨hov.symm, rfl⟩
    · refine g_tin (off := 88) (tgt := 89) K dX7_count_1 (by rw [hsw2]; decide) (by rw [hsw2]; decide) (by rw [hsw2]; rfl) (by decide) ?_
      obtain ⟨jj, hj9, hxj, hov⟩ : ∃ jj, jj < 9 ∧ x - 6 = nI jj ∧ o_count A x = aZ A jj := ⟨4, by decide, by rw [hsw2]; rfl, by unfold o_count; rw [hsw2]; rfl⟩
      refine g_aload_n K dX7_count_89 rfl ?_
      refine g_getr (j := 182) K lk_X7_7 dX7_count_90 rfl (by decide) (rfl : kd 181 = 7) (by decide) (by decide) rfl (rfl : rs 181 0 = 182) ?_
      refine g_iload_n K dX7_count_93 rfl ?_
      refine g_bipush K dX7_count_94 kb_6 ?_
      refine g_isub K dX7_count_96 ?_
      refine g_iald (j := jj) K dX7_count_97 hxj ln_182 (by omega) (rfl : kd 182 = 8) (by decide) (hz jj (by omega)) ?_
      refine g_iret K dX7_count_98 ⟨_, rfl, ?_⟩
      exact ⟨hov.symm, rfl⟩
    · refine g_tin (off := 88) (tgt := 89) K dX7_count_1 (by rw [hsw2]; decide) (by rw [hsw2]; decide) (by rw [hsw2]; rfl) (by decide) ?_
      obtain ⟨jj, hj9, hxj, hov⟩ : ∃ jj, jj < 9 ∧ x - 6 = nI jj ∧ o_count A x = aZ A jj := ⟨5, by decide, by rw [hsw2]; rfl, by unfold o_count; rw [hsw2]; rfl⟩
      refine g_aload_n K dX7_count_89 rfl ?_
      refine g_getr (j := 182) K lk_X7_7 dX7_count_90 rfl (by decide) (rfl : kd 181 = 7) (by decide) (by decide) rfl (rfl : rs 181 0 = 182) ?_
      refine g_iload_n K dX7_count_93 rfl ?_
      refine g_bipush K dX7_count_94 kb_6 ?_
      refine g_isub K dX7_count_96 ?_
      refine g_iald (j := jj) K dX7_count_97 hxj ln_182 (by omega) (rfl : kd 182 = 8) (by decide) (hz jj (by omega)) ?_
      refine g_iret K dX7_count_98 ⟨_, rfl, ?_⟩
      exact ⟨hov.symm, rfl⟩
set_option maxHeartbeats 4000000 in
set_option maxRecDepth 100000 in
theorem c_X7_cartOf {l : Launch} {b : Nat} {D : va_G} {cA : Nat → ClassId} {ad : Nat → Nat} {S : ST} {A : AS} {n : Nat} {x v : Int32} (hA : MRel S A) (hs : StOk (aZ A) n) : MT l b D cA NN ad zT yX7_cartOf cX7_cartOf 3 (some .int) 3 [.ref (ad 181), .int x, .int v] S (EI (o_cartOf A x v) S) := by
  have h6 := hs.2.2.1
  have hn := hs.2.1
  have hz := hA.1
  refine MT.intro (j := 0) (ls := [some (.ref (ad 181)), some (.int x), some (.int v)]) pn_X7 rfl rfl rfl (fun pr en s0 mi below meth c' K _ => ?_)
  refine g_aload_n K dX7_cartOf_0 rfl ?_
  refine g_iload_n K dX7_cartOf_1 rfl ?_
  refine g_callVi K (c_X7_isCart hz hn h6) mw_X7_isCart ml_X7_50 dX7_cartOf_2 (by rfl) rfl rfl (by decide) (by simp [Value.category]) ⟨by decide, by decide⟩ ⟨by decide, by decide⟩ ?_
  refine g_if_ne (tgt := 10) K dX7_cartOf_5 (by decide) (fun u5 => ?_) (fun u5 => ?_)
  · have hx : 0 ≤ x ∧ x < nI n := by grind
    have hcx : 0 ≤ x ∧ x < aZ A 6 := by rw [hn]; exact hx
    obtain ⟨i, hi, hxi, hki⟩ := c_in (z := aZ A) h6 hx
    have hi6 : i < 6 := by omega
    obtain ⟨N, hq⟩ := hs.2.2.2 i hi
    have h5 := hq.2.2.1
    have hN1 := hq.2.1
    have hq0 : qOf (aZ A) i 0 = nI N := hq.1
    have hnq : nQ (qOf (aZ A) i) = N := nQ_eq hq
    have hqA : qA A x = qOf (aZ A) i := by unfold qA; rw [hki]
    subst hxi
    refine g_iload_n K dX7_cartOf_10 rfl ?_
    by_cases hsw : (v : Int32).toInt < 0 ∨ 8 < (v : Int32).toInt
    · refine g_tout (tgt := 122) K dX7_cartOf_11 hsw (by decide) ?_
      have hov : o_cartOf A (nI i) v = -2 := by
        unfold o_cartOf
        rw [if_pos hcx, if_neg (swo hsw (by decide) (by decide)), if_neg (swo hsw (by decide) (by decide)), if_neg (swo hsw (by decide) (by decide)), if_neg (swo hsw (by decide) (by decide)), if_neg (swo hsw (by decide) (by decide)), if_neg (swo hsw (by decide) (by decide)), if_neg (swo hsw (by decide) (by decide)), if_neg (swo hsw (by decide) (by decide)), if_neg (swo hsw (by decide) (by decide))]
      refine g_bipush K dX7_cartOf_122 kb_m2 ?_
      refine g_iret K dX7_cartOf_124 ⟨_, rfl, ?_⟩
      exact ⟨hov.symm, rfl⟩
    · have hsw2 : v = 0 ∨ v = 1 ∨ v = 2 ∨ v = 3 ∨ v = 4 ∨ v = 5 ∨ v = 6 ∨ v = 7 ∨ v = 8 := by
        obtain ⟨jsw, hjs, ejs⟩ := tsw (n := 8) (by decide) hsw
        rcases (show jsw = 0 ∨ jsw = 1 ∨ jsw = 2 ∨ jsw = 3 ∨ jsw = 4 ∨ jsw = 5 ∨ jsw = 6 ∨ jsw = 7 ∨ jsw = 8 by omega) with rfl | rfl | rfl | rfl | rfl | rfl | rfl | rfl | rfl <;> (rw [ejs]; decide)
      rcases hsw2 with hsw2 | hsw2 | hsw2 | hsw2 | hsw2 | hsw2 | hsw2 | hsw2 | hsw2
      · refine g_tin (off := 49) (tgt := 60) K dX7_cartOf_11 (by rw [hsw2]; decide) (by rw [hsw2]; decide) (by rw [hsw2]; rfl) (by decide) ?_
        have hov : o_cartOf A (nI i) v = qOf (aZ A) i 0 := by
          unfold o_cartOf
          rw [if_pos hcx, hqA, hsw2, hnq]
          rfl
        refine g_aload_n K dX7_cartOf_60 rfl ?_
        refine g_iload_n K dX7_cartOf_61 rfl ?_
        refine g_iconst K dX7_cartOf_62 kc_0 ?_
        refine g_callVi K (c_X7_of (k := i) (w := 0) hz (by omega) (by omega)) mw_X7_of ml_X7_54 dX7_cartOf_63 (by rfl) rfl rfl (by decide) (by simp [Value.category]) ⟨by decide, by decide⟩ ⟨by decide, by decide⟩ ?_
        refine g_iret K dX7_cartOf_66 ⟨_, rfl, ?_⟩
        exact ⟨hov.symm, rfl⟩
      · refine g_tin (off := 56) (tgt := 67) K dX7_cartOf_11 (by rw [hsw2]; decide) (by rw [hsw2]; decide) (by rw [hsw2]; rfl) (by decide) ?_
        have hov : o_cartOf A (nI i) v = downF (lQ (qOf (aZ A) i)) N := by
          unfold o_cartOf
          rw [if_pos hcx, hqA, hsw2, hnq]
          rfl
        refine g_aload_n K dX7_cartOf_67 rfl ?_
        refine g_iload_n K dX7_cartOf_68 rfl ?_
        refine g_callVi K (c_X7_down (k := i) (N := N) hz hi6 hq) mw_X7_down ml_X7_91 dX7_cartOf_69 (by rfl) rfl rfl (by decide) (by simp [Value.category]) ⟨by decide, by decide⟩ ⟨by decide, by decide⟩ ?_
        refine g_iret K dX7_cartOf_72 ⟨_, rfl, ?_⟩
        exact ⟨hov.symm, rfl⟩
      · refine g_tin (off := 62) (tgt := 73) K dX7_cartOf_11 (by rw [hsw2]; decide) (by rw [hsw2]; decide) (by rw [hsw2]; rfl) (by decide) ?_
        have hov : o_cartOf A (nI i) v = sumF (wQ (qOf (aZ A) i)) N := by
          unfold o_cartOf
          rw [if_pos hcx, hqA, hsw2, hnq]
          rfl
        refine g_aload_n K dX7_cartOf_73 rfl ?_
        refine g_iload_n K dX7_cartOf_74 rfl ?_
        refine g_iconst K dX7_cartOf_75 kc_5 ?_
        refine g_callVi K (c_X7_sum (k := i) (N := N) (w := 5) hz hi6 hq (by decide)) mw_X7_sum ml_X7_182 dX7_cartOf_76 (by rfl) rfl rfl (by decide) (by simp [Value.category]) ⟨by decide, by decide⟩ ⟨by decide, by decide⟩ ?_
        refine g_iret K dX7_cartOf_79 ⟨_, rfl, ?_⟩
        exact ⟨hov.symm, rfl⟩
      · refine g_tin (off := 69) (tgt := 80) K dX7_cartOf_11 (by rw [hsw2]; decide) (by rw [hsw2]; decide) (by rw [hsw2]; rfl) (by decide) ?_
        have hov : o_cartOf A (nI i) v = sumF (dQ (qOf (aZ A) i)) N := by
          unfold o_cartOf
          rw [if_pos hcx, hqA, hsw2, hnq]
          rfl
        refine g_aload_n K dX7_cartOf_80 rfl ?_
        refine g_iload_n K dX7_cartOf_81 rfl ?_
        refine g_bipush K dX7_cartOf_82 kb_10 ?_
        refine g_callVi K (c_X7_sum (k := i) (N := N) (w := 10) hz hi6 hq (by decide)) mw_X7_sum ml_X7_182 dX7_cartOf_84 (by rfl) rfl rfl (by decide) (by simp [Value.category]) ⟨by decide, by decide⟩ ⟨by decide, by decide⟩ ?_
        refine g_iret K dX7_cartOf_87 ⟨_, rfl, ?_⟩
        exact ⟨hov.symm, rfl⟩
      · refine g_tin (off := 77) (tgt := 88) K dX7_cartOf_11 (by rw [hsw2]; decide) (by rw [hsw2]; decide) (by rw [hsw2]; rfl) (by decide) ?_
        have hov : o_cartOf A (nI i) v = qOf (aZ A) i 1 := by
          unfold o_cartOf
          rw [if_pos hcx, hqA, hsw2, hnq]
          rfl
        refine g_aload_n K dX7_cartOf_88 rfl ?_
        refine g_iload_n K dX7_cartOf_89 rfl ?_
        refine g_iconst K dX7_cartOf_90 kc_1 ?_
        refine g_callVi K (c_X7_of (k := i) (w := 1) hz (by omega) (by omega)) mw_X7_of ml_X7_54 dX7_cartOf_91 (by rfl) rfl rfl (by decide) (by simp [Value.category]) ⟨by decide, by decide⟩ ⟨by decide, by decide⟩ ?_
        refine g_iret K dX7_cartOf_94 ⟨_, rfl, ?_⟩
        exact ⟨hov.symm, rfl⟩
      · refine g_tin (off := 84) (tgt := 95) K dX7_cartOf_11 (by rw [hsw2]; decide) (by rw [hsw2]; decide) (by rw [hsw2]; rfl) (by decide) ?_
        have hov : o_cartOf A (nI i) v = qOf (aZ A) i 2 := by
          unfold o_cartOf
          rw [if_pos hcx, hqA, hsw2, hnq]
          rfl
        refine g_aload_n K dX7_cartOf_95 rfl ?_
        refine g_iload_n K dX7_cartOf_96 rfl ?_
        refine g_iconst K dX7_cartOf_97 kc_2 ?_
        refine g_callVi K (c_X7_of (k := i) (w := 2) hz (by omega) (by omega)) mw_X7_of ml_X7_54 dX7_cartOf_98 (by rfl) rfl rfl (by decide) (by simp [Value.category]) ⟨by decide, by decide⟩ ⟨by decide, by decide⟩ ?_
        refine g_iret K dX7_cartOf_101 ⟨_, rfl, ?_⟩
        exact ⟨hov.symm, rfl⟩
      · refine g_tin (off := 91) (tgt := 102) K dX7_cartOf_11 (by rw [hsw2]; decide) (by rw [hsw2]; decide) (by rw [hsw2]; rfl) (by decide) ?_
        have hov : o_cartOf A (nI i) v = netF (qOf (aZ A) i 1) (qOf (aZ A) i 2) := by
          unfold o_cartOf
          rw [if_pos hcx, hqA, hsw2, hnq]
          rfl
        refine g_aload_n K dX7_cartOf_102 rfl ?_
        refine g_iload_n K dX7_cartOf_103 rfl ?_
        refine g_callVi K (c_X7_net (k := i) (N := N) hz hi6 hq) mw_X7_net ml_X7_185 dX7_cartOf_104 (by rfl) rfl rfl (by decide) (by simp [Value.category]) ⟨by decide, by decide⟩ ⟨by decide, by decide⟩ ?_
        refine g_iret K dX7_cartOf_107 ⟨_, rfl, ?_⟩
        exact ⟨hov.symm, rfl⟩
      · refine g_tin (off := 97) (tgt := 108) K dX7_cartOf_11 (by rw [hsw2]; decide) (by rw [hsw2]; decide) (by rw [hsw2]; rfl) (by decide) ?_
        have hov : o_cartOf A (nI i) v = qOf (aZ A) i 3 := by
          unfold o_cartOf
          rw [if_pos hcx, hqA, hsw2, hnq]
          rfl
        refine g_aload_n K dX7_cartOf_108 rfl ?_
        refine g_iload_n K dX7_cartOf_109 rfl ?_
        refine g_iconst K dX7_cartOf_110 kc_3 ?_
        refine g_callVi K (c_X7_of (k := i) (w := 3) hz (by omega) (by omega)) mw_X7_of ml_X7_54 dX7_cartOf_111 (by rfl) rfl rfl (by decide) (by simp [Value.category]) ⟨by decide, by decide⟩ ⟨by decide, by decide⟩ ?_
        refine g_iret K dX7_cartOf_114 ⟨_, rfl, ?_⟩
        exact ⟨hov.symm, rfl⟩
      · refine g_tin (off := 104) (tgt := 115) K dX7_cartOf_11 (by rw [hsw2]; decide) (by rw [hsw2]; decide) (by rw [hsw2]; rfl) (by decide) ?_
        have hov : o_cartOf A (nI i) v = qOf (aZ A) i 4 := by
          unfold o_cartOf
          rw [if_pos hcx, hqA, hsw2, hnq]
          rfl
        refine g_aload_n K dX7_cartOf_115 rfl ?_
        refine g_iload_n K dX7_cartOf_116 rfl ?_
        refine g_iconst K dX7_cartOf_117 kc_4 ?_
        refine g_callVi K (c_X7_of (k := i) (w := 4) hz (by omega) (by omega)) mw_X7_of ml_X7_54 dX7_cartOf_118 (by rfl) rfl rfl (by decide) (by simp [Value.category]) ⟨by decide, by decide⟩ ⟨by decide, by decide⟩ ?_
        refine g_iret K dX7_cartOf_121 ⟨_, rfl, ?_⟩
        exact ⟨hov.symm, rfl⟩
  · have hcx : ¬ (0 ≤ x ∧ x < aZ A 6) := by rw [hn]; grind
    refine g_iconst K dX7_cartOf_8 kc_m1 ?_
    refine g_iret K dX7_cartOf_9 ⟨_, rfl, ?_⟩
    refine ⟨?_, rfl⟩
    unfold o_cartOf
    rw [if_neg hcx]
set_option maxHeartbeats 4000000 in
set_option maxRecDepth 100000 in
theorem c_X7_axleOf {l : Launch} {b : Nat} {D : va_G} {cA : Nat → ClassId} {ad : Nat → Nat} {S : ST} {A : AS} {n : Nat} {x y v : Int32} (hA : MRel S A) (hs : StOk (aZ A) n) : MT l b D cA NN ad zT yX7_axleOf cX7_axleOf 4 (some .int) 4 [.ref (ad 181), .int x, .int y, .int v] S (EI (o_axleOf A x y v) S) := by
  have h6 := hs.2.2.1
  have hn := hs.2.1
  have hz := hA.1
  refine MT.intro (j := 0) (ls := [some (.ref (ad 181)), some (.int x), some (.int y), some (.int v)]) pn_X7 rfl rfl rfl (fun pr en s0 mi below meth c' K _ => ?_)
  refine g_aload_n K dX7_axleOf_0 rfl ?_
  refine g_iload_n K dX7_axleOf_1 rfl ?_
  refine g_iload_n K dX7_axleOf_2 rfl ?_
  refine g_callVi K (c_X7_isAxle hz hs) mw_X7_isAxle ml_X7_84 dX7_axleOf_3 (by rfl) rfl rfl (by decide) (by simp [Value.category]) ⟨by decide, by decide⟩ ⟨by decide, by decide⟩ ?_
  refine g_if_ne (tgt := 11) K dX7_axleOf_6 (by decide) (fun u6 => ?_) (fun u6 => ?_)
  · have hax2 : (0 ≤ x ∧ x < nI n) ∧ 0 ≤ y ∧ y < qOf (aZ A) (cK x) 0 := by grind
    have hx : 0 ≤ x ∧ x < nI n := by grind
    have hcx : 0 ≤ x ∧ x < aZ A 6 := by rw [hn]; exact hx
    obtain ⟨i, hi, hxi, hki⟩ := c_in (z := aZ A) h6 hx
    have hi6 : i < 6 := by omega
    obtain ⟨N, hq⟩ := hs.2.2.2 i hi
    have h5 := hq.2.2.1
    have hN1 := hq.2.1
    have hq0 : qOf (aZ A) i 0 = nI N := hq.1
    have hnq : nQ (qOf (aZ A) i) = N := nQ_eq hq
    have hqA : qA A x = qOf (aZ A) i := by unfold qA; rw [hki]
    subst hxi
    have hax : 0 ≤ y ∧ y < nI N := by
      have g := hax2.2
      rw [hki, hq0] at g
      exact g
    obtain ⟨j, hj, hyj, hkj⟩ := ax_in hax h5
    subst hyj
    have hax3 : (0 ≤ nI i ∧ nI i < aZ A 6) ∧ 0 ≤ nI j ∧ nI j < qA A (nI i) 0 := ⟨hcx, by rw [hqA, hq0]; exact hax⟩
    refine g_iload_n K dX7_axleOf_11 rfl ?_
    by_cases hsw : (v : Int32).toInt < 0 ∨ 3 < (v : Int32).toInt
    · refine g_tout (tgt := 80) K dX7_axleOf_12 hsw (by decide) ?_
      have hov : o_axleOf A (nI i) (nI j) v = -2 := by
        unfold o_axleOf
        rw [if_pos hax3, if_neg (swo hsw (by decide) (by decide)), if_neg (swo hsw (by decide) (by decide)), if_neg (swo hsw (by decide) (by decide)), if_neg (swo hsw (by decide) (by decide))]
      refine g_bipush K dX7_axleOf_80 kb_m2 ?_
      refine g_iret K dX7_axleOf_82 ⟨_, rfl, ?_⟩
      exact ⟨hov.symm, rfl⟩
    · have hsw2 : v = 0 ∨ v = 1 ∨ v = 2 ∨ v = 3 := by
        obtain ⟨jsw, hjs, ejs⟩ := tsw (n := 3) (by decide) hsw
        rcases (show jsw = 0 ∨ jsw = 1 ∨ jsw = 2 ∨ jsw = 3 by omega) with rfl | rfl | rfl | rfl <;> (rw [ejs]; decide)
      rcases hsw2 with hsw2 | hsw2 | hsw2 | hsw2
      · refine g_tin (off := 32) (tgt := 44) K dX7_axleOf_12 (by rw [hsw2]; decide) (by rw [hsw2]; decide) (by rw [hsw2]; rfl) (by decide) ?_
        have hov : o_axleOf A (nI i) (nI j) v = qOf (aZ A) i (5 + j) := by
          unfold o_axleOf
          rw [if_pos hax3, hqA, hsw2, hkj, hnq]
          rfl
        refine g_aload_n K dX7_axleOf_44 rfl ?_
        refine g_iload_n K dX7_axleOf_45 rfl ?_
        refine g_iconst K dX7_axleOf_46 kc_5 ?_
        refine g_iload_n K dX7_axleOf_47 rfl ?_
        refine g_iadd K dX7_axleOf_48 ?_
        rw [show (5 : Int32) + nI j = nI (5 + j) from nI_add 5 j]
        refine g_callVi K (c_X7_of (k := i) (w := 5 + j) hz (by omega) (by omega)) mw_X7_of ml_X7_54 dX7_axleOf_49 (by rfl) rfl rfl (by decide) (by simp [Value.category]) ⟨by decide, by decide⟩ ⟨by decide, by decide⟩ ?_
        refine g_iret K dX7_axleOf_52 ⟨_, rfl, ?_⟩
        exact ⟨hov.symm, rfl⟩
      · refine g_tin (off := 41) (tgt := 53) K dX7_axleOf_12 (by rw [hsw2]; decide) (by rw [hsw2]; decide) (by rw [hsw2]; rfl) (by decide) ?_
        have hov : o_axleOf A (nI i) (nI j) v = qOf (aZ A) i (10 + j) := by
          unfold o_axleOf
          rw [if_pos hax3, hqA, hsw2, hkj, hnq]
          rfl
        refine g_aload_n K dX7_axleOf_53 rfl ?_
        refine g_iload_n K dX7_axleOf_54 rfl ?_
        refine g_bipush K dX7_axleOf_55 kb_10 ?_
        refine g_iload_n K dX7_axleOf_57 rfl ?_
        refine g_iadd K dX7_axleOf_58 ?_
        rw [show (10 : Int32) + nI j = nI (10 + j) from nI_add 10 j]
        refine g_callVi K (c_X7_of (k := i) (w := 10 + j) hz (by omega) (by omega)) mw_X7_of ml_X7_54 dX7_axleOf_59 (by rfl) rfl rfl (by decide) (by simp [Value.category]) ⟨by decide, by decide⟩ ⟨by decide, by decide⟩ ?_
        refine g_iret K dX7_axleOf_62 ⟨_, rfl, ?_⟩
        exact ⟨hov.symm, rfl⟩
      · refine g_tin (off := 51) (tgt := 63) K dX7_axleOf_12 (by rw [hsw2]; decide) (by rw [hsw2]; decide) (by rw [hsw2]; rfl) (by decide) ?_
        have hov : o_axleOf A (nI i) (nI j) v = qOf (aZ A) i (15 + j) := by
          unfold o_axleOf
          rw [if_pos hax3, hqA, hsw2, hkj, hnq]
          rfl
        refine g_aload_n K dX7_axleOf_63 rfl ?_
        refine g_iload_n K dX7_axleOf_64 rfl ?_
        refine g_bipush K dX7_axleOf_65 kb_15 ?_
        refine g_iload_n K dX7_axleOf_67 rfl ?_
        refine g_iadd K dX7_axleOf_68 ?_
        rw [show (15 : Int32) + nI j = nI (15 + j) from nI_add 15 j]
        refine g_callVi K (c_X7_of (k := i) (w := 15 + j) hz (by omega) (by omega)) mw_X7_of ml_X7_54 dX7_axleOf_69 (by rfl) rfl rfl (by decide) (by simp [Value.category]) ⟨by decide, by decide⟩ ⟨by decide, by decide⟩ ?_
        refine g_iret K dX7_axleOf_72 ⟨_, rfl, ?_⟩
        exact ⟨hov.symm, rfl⟩
      · refine g_tin (off := 61) (tgt := 73) K dX7_axleOf_12 (by rw [hsw2]; decide) (by rw [hsw2]; decide) (by rw [hsw2]; rfl) (by decide) ?_
        have hov : o_axleOf A (nI i) (nI j) v = borneF (wQ (qOf (aZ A) i)) (lQ (qOf (aZ A) i)) N (nI j) := by
          unfold o_axleOf
          rw [if_pos hax3, hqA, hsw2, hkj, hnq]
          rfl
        refine g_aload_n K dX7_axleOf_73 rfl ?_
        refine g_iload_n K dX7_axleOf_74 rfl ?_
        refine g_iload_n K dX7_axleOf_75 rfl ?_
        refine g_callVi K (c_X7_bears (k := i) (N := N) (x := nI j) hz hi6 hq) mw_X7_bears ml_X7_116 dX7_axleOf_76 (by rfl) rfl rfl (by decide) (by simp [Value.category]) ⟨by decide, by decide⟩ ⟨by decide, by decide⟩ ?_
        refine g_iret K dX7_axleOf_79 ⟨_, rfl, ?_⟩
        exact ⟨hov.symm, rfl⟩
  · have hax3 : ¬ ((0 ≤ x ∧ x < aZ A 6) ∧ 0 ≤ y ∧ y < qA A x 0) := by
      rw [hn]
      unfold qA
      grind
    refine g_iconst K dX7_axleOf_9 kc_m1 ?_
    refine g_iret K dX7_axleOf_10 ⟨_, rfl, ?_⟩
    refine ⟨?_, rfl⟩
    unfold o_axleOf
    rw [if_neg hax3]
