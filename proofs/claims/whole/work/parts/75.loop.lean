theorem g_lawend {p : Program} {l : Launch} {e : Env} {s : State} {m : MethodId} {below : List Frame} {meth : Method} {c : Code} {D : va_G} {cA : Nat → ClassId} {ad : Nat → Nat} {Z : Nat → Nat → Bool} {S : ST} {sb n cells slots pc : Nat} {ls : List (Option Value)} (K : CX p s m #[.ref sb] meth c s.heap.size D cA cL_law RL 8 (some .boolean)) (hc : cells ≤ 600000 ∧ slots ≤ 7302250) (d : decode cL_law pc = .ok (.ireturn, 1)) : G p l e room_1 s m #[.ref sb] below meth c (lw_Z below #[.ref sb] s) s.heap.size D cA 8 n ad Z cells slots pc ls [.int 1] S := by
  intro H locs lsA hP hD hS hl
  refine va_forget (fun q hq => hS.2.2 q hq) (W.widen hc.1 hc.2 (W.base ?_))
  exact lw_ret (Drawn.sameBut.refl s.drawn lw_cs) K.1 K.2.1 K.2.2.2.2.2.2.2.1 K.2.2.2.2.2.2.2.2.1 d
theorem g_widen {p : Program} {l : Launch} {e : Env} {R : Room} {s : State} {m : MethodId} {args : Array Value} {below : List Frame} {meth : Method} {c : Code} {Q : State → Prop} {b : Nat} {D : va_G} {cA : Nat → ClassId} {nL n : Nat} {ad : Nat → Nat} {Z : Nat → Nat → Bool} {cells slots k2 n2 pc : Nat} {ls : List (Option Value)} {st : List Value} {S : ST} (h : cells ≤ k2 ∧ slots ≤ n2) (kk : G p l e R s m args below meth c Q b D cA nL n ad Z k2 n2 pc ls st S) : G p l e R s m args below meth c Q b D cA nL n ad Z cells slots pc ls st S :=
  fun H locs lsA hP hD hS hl => W.widen h.1 h.2 (kk H locs lsA hP hD hS hl)
theorem nar_char (v : Int32) : vp_nar .char ((v.toUInt32 % 65536).toInt32) = (v.toUInt32 % 65536).toInt32 := by
  show ((v.toUInt32 % 65536).toInt32.toUInt32 % 65536).toInt32 = _
  have h : (v.toUInt32 % 65536).toInt32.toUInt32 = v.toUInt32 % 65536 := by simp
  rw [h]
  congr 1
  exact UInt32.toNat_inj.mp (by rw [UInt32.toNat_mod, UInt32.toNat_mod]; exact Nat.mod_mod _ _)
theorem mb_off : Cond.methodLink RL 100 yX7_off ∈ BIG := big_at 887 (by decide +kernel) (by decide +kernel)
set_option maxHeartbeats 4000000 in
set_option maxRecDepth 100000 in
theorem law_off {pr : Program} {l : Launch} {en : Env} {s0 : State} {mi : MethodId} {below : List Frame} {meth : Method} {c' : Code} {D : va_G} {cA : Nat → ClassId} {ad : Nat → Nat} {sb L : Nat} {xs : Nat → Int32} (K : CX pr s0 mi #[.ref sb] meth c' s0.heap.size D cA cL_law RL 8 (some .boolean)) (hX : va_X sb L xs s0 s0.heap) (hbl : sb < s0.heap.size) (hL : L ≤ 2560) {S : ST} {A : AS} {i n : Nat} (hi5 : i + 5 ≤ L) (hC : CRel S A n) (hM : MRel S A) (hK : ∀ (n2 : Nat) (S2 : ST), CRel S2 A n2 → MRel S2 A → G pr l en room_1 s0 mi #[.ref sb] below meth c' (lw_Z below #[.ref sb] s0) s0.heap.size D cA 8 NN ad zT 1000 10000 755 [some (.ref sb), some (.ref (ad 0)), some (.ref (ad 181)), some (.int (nI i)), none, none, none, none] [] S2) : G pr l en room_1 s0 mi #[.ref sb] below meth c' (lw_Z below #[.ref sb] s0) s0.heap.size D cA 8 NN ad zT 1000 10000 695 [some (.ref sb), some (.ref (ad 0)), some (.ref (ad 181)), some (.int (nI i)), none, none, none, none] [] S := by
  refine g_aload_n K dL_law_695 rfl ?_
  refine g_aload_n K dL_law_696 rfl ?_
  refine g_iload_n K dL_law_697 rfl ?_
  refine g_iconst K dL_law_698 kc_1 ?_
  refine g_iadd K dL_law_699 ?_
  refine g_sld (j := i + 1) K hX hbl hbl dL_law_700 (nI_add i 1) (by omega) (by omega) ?_
  refine g_aload_n K dL_law_701 rfl ?_
  refine g_iload_n K dL_law_702 rfl ?_
  refine g_iconst K dL_law_703 kc_2 ?_
  refine g_iadd K dL_law_704 ?_
  refine g_sld (j := i + 2) K hX hbl hbl dL_law_705 (nI_add i 2) (by omega) (by omega) ?_
  refine g_callVpf K (c_X6_off hC) mw_X6_off ml_L_96 dL_law_706 (by rfl) rfl rfl (by decide) (by simp [Value.category]) ⟨by decide, by decide⟩ ⟨by decide, by decide⟩ (fun r1 S1 h1 => ?_)
  obtain ⟨hr1, ⟨nC, hC1⟩, hf1⟩ := h1
  have hM1 := hM.high hf1
  have hok := o_off_ok (x := xs (i + 1)) (y := xs (i + 2)) hC.1.1
  rw [hr1]
  generalize hw : o_off A (xs (i + 1)) (xs (i + 2)) = w at hok ⊢
  intro H locs lsA hP1 hD1 hS1 hl
  refine lv_f2d K.1 K.2.1 dL_law_709 hok.d ?_
  refine lv_dstore (nL := 8) K.1 K.2.1 dL_law_710 hl.has (by decide) rfl (fun lsB hB => ?_)
  have e0 : lsB[0]? = some (.val (.ref sb)) := hB.2.2 (0, .ref sb) (List.mem_cons_of_mem _ (List.mem_filter.mpr ⟨prs_mem.mpr ⟨(show (0 : Nat) < 8 by decide), rfl⟩, rfl⟩))
  have e1 : lsB[1]? = some (.val (.ref (ad 0))) := hB.2.2 (1, .ref (ad 0)) (List.mem_cons_of_mem _ (List.mem_filter.mpr ⟨prs_mem.mpr ⟨(show (1 : Nat) < 8 by decide), rfl⟩, rfl⟩))
  have e2 : lsB[2]? = some (.val (.ref (ad 181))) := hB.2.2 (2, .ref (ad 181)) (List.mem_cons_of_mem _ (List.mem_filter.mpr ⟨prs_mem.mpr ⟨(show (2 : Nat) < 8 by decide), rfl⟩, rfl⟩))
  have e3 : lsB[3]? = some (.val (.int (nI i))) := hB.2.2 (3, .int (nI i)) (List.mem_cons_of_mem _ (List.mem_filter.mpr ⟨prs_mem.mpr ⟨(show (3 : Nat) < 8 by decide), rfl⟩, rfl⟩))
  have e4 : lsB[4]? = some (.val (.double (FP.f2d w))) := hB.2.2 (4, .double (FP.f2d w)) List.mem_cons_self
  have hB2 : lv_has lsB 8 [(0, .ref sb), (1, .ref (ad 0)), (2, .ref (ad 181)), (3, .int (nI i)), (4, .double (FP.f2d w))] := by
    refine ⟨hB.1, hB.2.1, fun q hq => ?_⟩
    simp only [List.mem_cons, List.not_mem_nil, or_false] at hq
    rcases hq with rfl | rfl | rfl | rfl | rfl
    · exact e0
    · exact e1
    · exact e2
    · exact e3
    · exact e4
  clear hB hl
  refine lv_aload_n K.1 K.2.1 dL_law_712 rfl e2 ?_
  refine lv_aload_n K.1 K.2.1 dL_law_713 rfl e0 ?_
  refine lv_iload_n K.1 K.2.1 dL_law_714 rfl e3 ?_
  refine lv_iconst K.1 K.2.1 dL_law_715 kc_1 ?_
  refine lv_iadd K.1 K.2.1 dL_law_716 ?_
  refine va_sld K.1 K.2.1 hX hbl (Nat.not_le.mpr hbl) hS1 (vin (nI_add i 1) (show i + 1 < L by omega) (by omega)).1 dL_law_717 ?_
  rw [show (nI i + (1 : Int32)).toNatClampNeg = i + 1 from (vin (nI_add i 1) (show i + 1 < L by omega) (by omega)).2]
  refine lv_aload_n K.1 K.2.1 dL_law_718 rfl e0 ?_
  refine lv_iload_n K.1 K.2.1 dL_law_719 rfl e3 ?_
  refine lv_iconst K.1 K.2.1 dL_law_720 kc_2 ?_
  refine lv_iadd K.1 K.2.1 dL_law_721 ?_
  refine va_sld K.1 K.2.1 hX hbl (Nat.not_le.mpr hbl) hS1 (vin (nI_add i 2) (show i + 2 < L by omega) (by omega)).1 dL_law_722 ?_
  rw [show (nI i + (2 : Int32)).toNatClampNeg = i + 2 from (vin (nI_add i 2) (show i + 2 < L by omega) (by omega)).2]
  refine w_callV K (c_X7_off hM1 hC.1.1) mw_X7_off mb_off dL_law_723 (by rfl) rfl rfl (by decide) (by simp [Value.category]) ⟨by decide, by decide⟩ ⟨by decide, by decide⟩ hP1 hD1 hS1 hB2.1 (fun r2 S2 H2 locs2 h2 hP2 hD2 hS2 => ?_)
  obtain ⟨hr2, hM2, hf2⟩ := h2
  have hC2 := hC1.low hf2
  rw [hr2, hw]
  refine lv_f2d K.1 K.2.1 dL_law_726 hok.d ?_
  refine lv_dstore (nL := 8) K.1 K.2.1 dL_law_727 hB2 (by decide) rfl (fun lsC hC3 => ?_)
  have c0 : lsC[0]? = some (.val (.ref sb)) := hC3.2.2 (0, .ref sb) (by simp [Value.category])
  have c1 : lsC[1]? = some (.val (.ref (ad 0))) := hC3.2.2 (1, .ref (ad 0)) (by simp [Value.category])
  have c2 : lsC[2]? = some (.val (.ref (ad 181))) := hC3.2.2 (2, .ref (ad 181)) (by simp [Value.category])
  have c3 : lsC[3]? = some (.val (.int (nI i))) := hC3.2.2 (3, .int (nI i)) (by simp [Value.category])
  have c4 : lsC[4]? = some (.val (.double (FP.f2d w))) := hC3.2.2 (4, .double (FP.f2d w)) (by simp [Value.category])
  have c6 : lsC[6]? = some (.val (.double (FP.f2d w))) := hC3.2.2 (6, .double (FP.f2d w)) List.mem_cons_self
  have hLC : LC lsC 8 [some (.ref sb), some (.ref (ad 0)), some (.ref (ad 181)), some (.int (nI i)), none, none, none, none] := by
    refine ⟨hC3.1, hC3.2.1, rfl, fun j v hj => ?_⟩
    match j, hj with
    | 0, hj => cases hj; exact ⟨c0, rfl⟩
    | 1, hj => cases hj; exact ⟨c1, rfl⟩
    | 2, hj => cases hj; exact ⟨c2, rfl⟩
    | 3, hj => cases hj; exact ⟨c3, rfl⟩
    | 4, hj => cases hj
    | 5, hj => cases hj
    | 6, hj => cases hj
    | 7, hj => cases hj
    | j + 8, hj => simp at hj
  have hgo := hK nC S2 hC2 hM2 H2 locs2 lsC hP2 hD2 hS2 hLC
  refine lv_dload K.1 K.2.1 dL_law_729 c4 ?_
  refine lv_dload K.1 K.2.1 dL_law_731 c6 ?_
  refine lv_dcmp K.1 K.2.1 dL_law_733 ?_
  refine lv_if_eq (tgt := 755) K.1 K.2.1 dL_law_734 (by decide) (fun _ => hgo) (fun u1 => ?_)
  refine lv_dload K.1 K.2.1 dL_law_737 c4 ?_
  refine lv_dload K.1 K.2.1 dL_law_739 c4 ?_
  refine lv_dcmp K.1 K.2.1 dL_law_741 ?_
  refine lv_if_eq (tgt := 753) K.1 K.2.1 dL_law_742 (by decide) (fun u2 => absurd u2 u1) (fun _ => ?_)
  refine lv_dload K.1 K.2.1 dL_law_745 c6 ?_
  refine lv_dload K.1 K.2.1 dL_law_747 c6 ?_
  refine lv_dcmp K.1 K.2.1 dL_law_749 ?_
  exact lv_if_ne (tgt := 755) K.1 K.2.1 dL_law_750 (by decide) (fun _ => hgo) (fun u2 => absurd u2 u1)
set_option maxHeartbeats 8000000 in
set_option maxRecDepth 100000 in
theorem law_loop {pr : Program} {l : Launch} {en : Env} {s0 : State} {mi : MethodId} {below : List Frame} {meth : Method} {c' : Code} {D : va_G} {cA : Nat → ClassId} {ad : Nat → Nat} {sb L : Nat} {xs : Nat → Int32} (K : CX pr s0 mi #[.ref sb] meth c' s0.heap.size D cA cL_law RL 8 (some .boolean)) (hX : va_X sb L xs s0 s0.heap) (hbl : sb < s0.heap.size) (hL : L ≤ 2560) : ∀ (fuel : Nat) (i n : Nat) (A : AS) (S1 : ST), (L + 6 ≤ i + fuel) → (i ≤ L) → (CRel S1 A n) → (MRel S1 A) → G pr l en room_1 s0 mi #[.ref sb] below meth c' (lw_Z below #[.ref sb] s0) s0.heap.size D cA 8 NN ad zT 1000 10000 18 [some (.ref sb), some (.ref (ad 0)), some (.ref (ad 181)), some (.int (nI i)), none, none, none, none] [] S1 := by
  have lp : ∀ (fuel : Nat) (i n : Nat) (A : AS) (S1 : ST), (L + 6 ≤ i + fuel) → (i ≤ L) → (CRel S1 A n) → (MRel S1 A) → G pr l en room_1 s0 mi #[.ref sb] below meth c' (lw_Z below #[.ref sb] s0) s0.heap.size D cA 8 NN ad zT 1000 10000 18 [some (.ref sb), some (.ref (ad 0)), some (.ref (ad 181)), some (.int (nI i)), none, none, none, none] [] S1 := by
    intro fuel
    induction fuel with
    | zero =>
      intro i n  A  S1  hif hiL hC hM
      exact absurd hif (by omega)
    | succ fuel ih =>
      intro i n  A  S1  hif hiL hC hM
      have hC2 := hC
      have hM2 := hM
      refine g_iload_n K dL_law_18 rfl ?_
      refine g_aload_n K dL_law_19 rfl ?_
      refine g_slen K hX hbl hbl dL_law_20 ?_
      refine g_iconst K dL_law_21 kc_5 ?_
      refine g_isub K dL_law_22 ?_
      refine g_icmp_gt (tgt := 853) K dL_law_23 (by decide) (fun u23 => ?_) (fun u23 => ?_)
      · refine g_iconst K dL_law_853 kc_1 ?_
        exact g_lawend K ⟨by decide, by decide⟩ dL_law_854
      · have hi5 : i + 5 ≤ L := by
          rcases Nat.lt_or_ge L (i + 5) with q | q
          · exfalso
            apply u23
            have h1 : nI L < nI (i + 5) := (nI_ltI (by omega) (by omega)).mpr q
            rw [← nI_add i 5] at h1
            have h2 : 0 ≤ nI i := nI_pos' (by omega)
            have h3 : nI i ≤ 2560 := nI_le (b := 2560) (by omega) (by decide)
            have h4 : 0 ≤ nI L := nI_pos' (by omega)
            have h5 : nI L ≤ 2560 := nI_le (b := 2560) (by omega) (by decide)
            have e5 : nI 5 = (5 : Int32) := rfl
            rw [e5] at h1
            grind
          · exact q
        refine g_aload_n K dL_law_26 rfl ?_
        refine g_iload_n K dL_law_27 rfl ?_
        refine g_sld (j := i) K hX hbl hbl dL_law_28 rfl (by omega) (by omega) ?_
        refine g_bipush K dL_law_29 kb_31 ?_
        refine g_iand K dL_law_31 ?_
        by_cases hsw : ((xs i &&& 31) : Int32).toInt < 0 ∨ 22 < ((xs i &&& 31) : Int32).toInt
        · refine g_tout (tgt := 847) K dL_law_32 hsw (by decide) ?_
          refine g_iinc (ls2 := [_, _, _, some (.int _), _, _, _, _]) K dL_law_847 rfl kc_5 rfl ?_
          refine g_goto (tgt := 18) K dL_law_850 (by decide) ?_
          rw [show nI i + (5 : Int32) = nI (i + 5) from nI_add i 5]
          first
            | exact ih (i + 5) _ _ _ (by omega) (by omega) hC2 hM2
            | exact absurd u292 u265
            | exact absurd u265 u292
        · have hsw2 : (xs i &&& 31) = 0 ∨ (xs i &&& 31) = 1 ∨ (xs i &&& 31) = 2 ∨ (xs i &&& 31) = 3 ∨ (xs i &&& 31) = 4 ∨ (xs i &&& 31) = 5 ∨ (xs i &&& 31) = 6 ∨ (xs i &&& 31) = 7 ∨ (xs i &&& 31) = 8 ∨ (xs i &&& 31) = 9 ∨ (xs i &&& 31) = 10 ∨ (xs i &&& 31) = 11 ∨ (xs i &&& 31) = 12 ∨ (xs i &&& 31) = 13 ∨ (xs i &&& 31) = 14 ∨ (xs i &&& 31) = 15 ∨ (xs i &&& 31) = 16 ∨ (xs i &&& 31) = 17 ∨ (xs i &&& 31) = 18 ∨ (xs i &&& 31) = 19 ∨ (xs i &&& 31) = 20 ∨ (xs i &&& 31) = 21 ∨ (xs i &&& 31) = 22 := by
            obtain ⟨jsw, hjs, ejs⟩ := tsw (n := 22) (by decide) hsw
            rcases (show jsw = 0 ∨ jsw = 1 ∨ jsw = 2 ∨ jsw = 3 ∨ jsw = 4 ∨ jsw = 5 ∨ jsw = 6 ∨ jsw = 7 ∨ jsw = 8 ∨ jsw = 9 ∨ jsw = 10 ∨ jsw = 11 ∨ jsw = 12 ∨ jsw = 13 ∨ jsw = 14 ∨ jsw = 15 ∨ jsw = 16 ∨ jsw = 17 ∨ jsw = 18 ∨ jsw = 19 ∨ jsw = 20 ∨ jsw = 21 ∨ jsw = 22 by omega) with rfl | rfl | rfl | rfl | rfl | rfl | rfl | rfl | rfl | rfl | rfl | rfl | rfl | rfl | rfl | rfl | rfl | rfl | rfl | rfl | rfl | rfl | rfl <;> (rw [ejs]; decide)
          rcases hsw2 with hsw2 | hsw2 | hsw2 | hsw2 | hsw2 | hsw2 | hsw2 | hsw2 | hsw2 | hsw2 | hsw2 | hsw2 | hsw2 | hsw2 | hsw2 | hsw2 | hsw2 | hsw2 | hsw2 | hsw2 | hsw2 | hsw2 | hsw2
          · refine g_tin (off := 108) (tgt := 140) K dL_law_32 (by rw [hsw2]; decide) (by rw [hsw2]; decide) (by rw [hsw2]; rfl) (by decide) ?_
            refine g_aload_n K dL_law_140 rfl ?_
            refine g_aload_n K dL_law_141 rfl ?_
            refine g_iload_n K dL_law_142 rfl ?_
            refine g_iconst K dL_law_143 kc_1 ?_
            refine g_iadd K dL_law_144 ?_
            refine g_sld (j := (i + 1)) K hX hbl hbl dL_law_145 (nI_add i 1) (by omega) (by omega) ?_
            refine g_callVpi K (c_X6_cart hC) mw_X6_cart ml_L_13 dL_law_146 (by rfl) rfl rfl (by decide) (by simp [Value.category]) ⟨by decide, by decide⟩ ⟨by decide, by decide⟩ (fun r146 S146 h146 => ?_)
            obtain ⟨hr1, ⟨nC, hC1⟩, hf1⟩ := h146
            have hM1 := hM.high hf1
            refine g_aload_n K dL_law_149 rfl ?_
            refine g_aload_n K dL_law_150 rfl ?_
            refine g_iload_n K dL_law_151 rfl ?_
            refine g_iconst K dL_law_152 kc_1 ?_
            refine g_iadd K dL_law_153 ?_
            refine g_sld (j := (i + 1)) K hX hbl hbl dL_law_154 (nI_add i 1) (by omega) (by omega) ?_
            refine g_callVpi K (c_X7_cart hM1 hC.1.1) mw_X7_cart ml_L_17 dL_law_155 (by rfl) rfl rfl (by decide) (by simp [Value.category]) ⟨by decide, by decide⟩ ⟨by decide, by decide⟩ (fun r155 S155 h155 => ?_)
            obtain ⟨hr2, hM2, hf2⟩ := h155
            have hC2 := hC1.low hf2
            refine g_icmp_eq (tgt := 847) K dL_law_158 (by decide) (fun u158 => ?_) (fun u158 => absurd (hr1.trans hr2.symm) u158)
            refine g_iinc (ls2 := [_, _, _, some (.int _), _, _, _, _]) K dL_law_847 rfl kc_5 rfl ?_
            refine g_goto (tgt := 18) K dL_law_850 (by decide) ?_
            rw [show nI i + (5 : Int32) = nI (i + 5) from nI_add i 5]
            first
              | exact ih (i + 5) _ _ _ (by omega) (by omega) hC2 hM2
              | exact absurd u292 u265
              | exact absurd u265 u292
          · refine g_tin (off := 131) (tgt := 163) K dL_law_32 (by rw [hsw2]; decide) (by rw [hsw2]; decide) (by rw [hsw2]; rfl) (by decide) ?_
            refine g_aload_n K dL_law_163 rfl ?_
            refine g_aload_n K dL_law_164 rfl ?_
            refine g_iload_n K dL_law_165 rfl ?_
            refine g_iconst K dL_law_166 kc_1 ?_
            refine g_iadd K dL_law_167 ?_
            refine g_sld (j := (i + 1)) K hX hbl hbl dL_law_168 (nI_add i 1) (by omega) (by omega) ?_
            refine g_aload_n K dL_law_169 rfl ?_
            refine g_iload_n K dL_law_170 rfl ?_
            refine g_iconst K dL_law_171 kc_2 ?_
            refine g_iadd K dL_law_172 ?_
            refine g_sld (j := (i + 2)) K hX hbl hbl dL_law_173 (nI_add i 2) (by omega) (by omega) ?_
            refine g_aload_n K dL_law_174 rfl ?_
            refine g_iload_n K dL_law_175 rfl ?_
            refine g_iconst K dL_law_176 kc_3 ?_
            refine g_iadd K dL_law_177 ?_
            refine g_sld (j := (i + 3)) K hX hbl hbl dL_law_178 (nI_add i 3) (by omega) (by omega) ?_
            refine g_callVpi K (c_X6_axle hC) mw_X6_axle ml_L_18 dL_law_179 (by rfl) rfl rfl (by decide) (by simp [Value.category]) ⟨by decide, by decide⟩ ⟨by decide, by decide⟩ (fun r179 S179 h179 => ?_)
            obtain ⟨hr1, ⟨nC, hC1⟩, hf1⟩ := h179
            have hM1 := hM.high hf1
            refine g_aload_n K dL_law_182 rfl ?_
            refine g_aload_n K dL_law_183 rfl ?_
            refine g_iload_n K dL_law_184 rfl ?_
            refine g_iconst K dL_law_185 kc_1 ?_
            refine g_iadd K dL_law_186 ?_
            refine g_sld (j := (i + 1)) K hX hbl hbl dL_law_187 (nI_add i 1) (by omega) (by omega) ?_
            refine g_aload_n K dL_law_188 rfl ?_
            refine g_iload_n K dL_law_189 rfl ?_
            refine g_iconst K dL_law_190 kc_2 ?_
            refine g_iadd K dL_law_191 ?_
            refine g_sld (j := (i + 2)) K hX hbl hbl dL_law_192 (nI_add i 2) (by omega) (by omega) ?_
            refine g_aload_n K dL_law_193 rfl ?_
            refine g_iload_n K dL_law_194 rfl ?_
            refine g_iconst K dL_law_195 kc_3 ?_
            refine g_iadd K dL_law_196 ?_
            refine g_sld (j := (i + 3)) K hX hbl hbl dL_law_197 (nI_add i 3) (by omega) (by omega) ?_
            refine g_callVpi K (c_X7_axle hM1 hC.1.1) mw_X7_axle ml_L_22 dL_law_198 (by rfl) rfl rfl (by decide) (by simp [Value.category]) ⟨by decide, by decide⟩ ⟨by decide, by decide⟩ (fun r198 S198 h198 => ?_)
            obtain ⟨hr2, hM2, hf2⟩ := h198
            have hC2 := hC1.low hf2
            refine g_icmp_eq (tgt := 847) K dL_law_201 (by decide) (fun u201 => ?_) (fun u201 => absurd (hr1.trans hr2.symm) u201)
            refine g_iinc (ls2 := [_, _, _, some (.int _), _, _, _, _]) K dL_law_847 rfl kc_5 rfl ?_
            refine g_goto (tgt := 18) K dL_law_850 (by decide) ?_
            rw [show nI i + (5 : Int32) = nI (i + 5) from nI_add i 5]
            first
              | exact ih (i + 5) _ _ _ (by omega) (by omega) hC2 hM2
              | exact absurd u292 u265
              | exact absurd u265 u292
          · refine g_tin (off := 174) (tgt := 206) K dL_law_32 (by rw [hsw2]; decide) (by rw [hsw2]; decide) (by rw [hsw2]; rfl) (by decide) ?_
            refine g_aload_n K dL_law_206 rfl ?_
            refine g_aload_n K dL_law_207 rfl ?_
            refine g_iload_n K dL_law_208 rfl ?_
            refine g_iconst K dL_law_209 kc_1 ?_
            refine g_iadd K dL_law_210 ?_
            refine g_sld (j := (i + 1)) K hX hbl hbl dL_law_211 (nI_add i 1) (by omega) (by omega) ?_
            refine g_aload_n K dL_law_212 rfl ?_
            refine g_iload_n K dL_law_213 rfl ?_
            refine g_iconst K dL_law_214 kc_2 ?_
            refine g_iadd K dL_law_215 ?_
            refine g_sld (j := (i + 2)) K hX hbl hbl dL_law_216 (nI_add i 2) (by omega) (by omega) ?_
            refine g_aload_n K dL_law_217 rfl ?_
            refine g_iload_n K dL_law_218 rfl ?_
            refine g_iconst K dL_law_219 kc_3 ?_
            refine g_iadd K dL_law_220 ?_
            refine g_sld (j := (i + 3)) K hX hbl hbl dL_law_221 (nI_add i 3) (by omega) (by omega) ?_
            refine g_callVpi K (c_X6_load hC) mw_X6_load ml_L_23 dL_law_222 (by rfl) rfl rfl (by decide) (by simp [Value.category]) ⟨by decide, by decide⟩ ⟨by decide, by decide⟩ (fun r222 S222 h222 => ?_)
            obtain ⟨hr1, ⟨nC, hC1⟩, hf1⟩ := h222
            have hM1 := hM.high hf1
            refine g_aload_n K dL_law_225 rfl ?_
            refine g_aload_n K dL_law_226 rfl ?_
            refine g_iload_n K dL_law_227 rfl ?_
            refine g_iconst K dL_law_228 kc_1 ?_
            refine g_iadd K dL_law_229 ?_
            refine g_sld (j := (i + 1)) K hX hbl hbl dL_law_230 (nI_add i 1) (by omega) (by omega) ?_
            refine g_aload_n K dL_law_231 rfl ?_
            refine g_iload_n K dL_law_232 rfl ?_
            refine g_iconst K dL_law_233 kc_2 ?_
            refine g_iadd K dL_law_234 ?_
            refine g_sld (j := (i + 2)) K hX hbl hbl dL_law_235 (nI_add i 2) (by omega) (by omega) ?_
            refine g_aload_n K dL_law_236 rfl ?_
            refine g_iload_n K dL_law_237 rfl ?_
            refine g_iconst K dL_law_238 kc_3 ?_
            refine g_iadd K dL_law_239 ?_
            refine g_sld (j := (i + 3)) K hX hbl hbl dL_law_240 (nI_add i 3) (by omega) (by omega) ?_
            refine g_callVpi K (c_X7_load hM1 hC.1.1) mw_X7_load ml_L_26 dL_law_241 (by rfl) rfl rfl (by decide) (by simp [Value.category]) ⟨by decide, by decide⟩ ⟨by decide, by decide⟩ (fun r241 S241 h241 => ?_)
            obtain ⟨hr2, hM2, hf2⟩ := h241
            have hC2 := hC1.low hf2
            refine g_icmp_eq (tgt := 847) K dL_law_244 (by decide) (fun u244 => ?_) (fun u244 => absurd (hr1.trans hr2.symm) u244)
            refine g_iinc (ls2 := [_, _, _, some (.int _), _, _, _, _]) K dL_law_847 rfl kc_5 rfl ?_
            refine g_goto (tgt := 18) K dL_law_850 (by decide) ?_
            rw [show nI i + (5 : Int32) = nI (i + 5) from nI_add i 5]
            first
              | exact ih (i + 5) _ _ _ (by omega) (by omega) hC2 hM2
              | exact absurd u292 u265
              | exact absurd u265 u292
          · refine g_tin (off := 217) (tgt := 249) K dL_law_32 (by rw [hsw2]; decide) (by rw [hsw2]; decide) (by rw [hsw2]; rfl) (by decide) ?_
            refine g_aload_n K dL_law_249 rfl ?_
            refine g_aload_n K dL_law_250 rfl ?_
            refine g_iload_n K dL_law_251 rfl ?_
            refine g_iconst K dL_law_252 kc_1 ?_
            refine g_iadd K dL_law_253 ?_
            refine g_sld (j := (i + 1)) K hX hbl hbl dL_law_254 (nI_add i 1) (by omega) (by omega) ?_
            refine g_aload_n K dL_law_255 rfl ?_
            refine g_iload_n K dL_law_256 rfl ?_
            refine g_iconst K dL_law_257 kc_2 ?_
            refine g_iadd K dL_law_258 ?_
            refine g_sld (j := (i + 2)) K hX hbl hbl dL_law_259 (nI_add i 2) (by omega) (by omega) ?_
            refine g_aload_n K dL_law_260 rfl ?_
            refine g_iload_n K dL_law_261 rfl ?_
            refine g_iconst K dL_law_262 kc_3 ?_
            refine g_iadd K dL_law_263 ?_
            refine g_sld (j := (i + 3)) K hX hbl hbl dL_law_264 (nI_add i 3) (by omega) (by omega) ?_
            refine g_if_eq (tgt := 272) K dL_law_265 (by decide) (fun u265 => ?_) (fun u265 => ?_)
            · refine g_iconst K dL_law_272 kc_0 ?_
              have hu01 : (0 : Int32) = 0 ∨ (0 : Int32) = 1 := Or.inl rfl
              refine g_callVpi K (c_X6_lift hC hu01) mw_X6_lift ml_L_27 dL_law_273 (by rfl) rfl rfl (by decide) (by simp [Value.category]) ⟨by decide, by decide⟩ ⟨by decide, by decide⟩ (fun r273 S273 h273 => ?_)
              obtain ⟨hr1, ⟨nC, hC1⟩, hf1⟩ := h273
              have hM1 := hM.high hf1
              refine g_aload_n K dL_law_276 rfl ?_
              refine g_aload_n K dL_law_277 rfl ?_
              refine g_iload_n K dL_law_278 rfl ?_
              refine g_iconst K dL_law_279 kc_1 ?_
              refine g_iadd K dL_law_280 ?_
              refine g_sld (j := (i + 1)) K hX hbl hbl dL_law_281 (nI_add i 1) (by omega) (by omega) ?_
              refine g_aload_n K dL_law_282 rfl ?_
              refine g_iload_n K dL_law_283 rfl ?_
              refine g_iconst K dL_law_284 kc_2 ?_
              refine g_iadd K dL_law_285 ?_
              refine g_sld (j := (i + 2)) K hX hbl hbl dL_law_286 (nI_add i 2) (by omega) (by omega) ?_
              refine g_aload_n K dL_law_287 rfl ?_
              refine g_iload_n K dL_law_288 rfl ?_
              refine g_iconst K dL_law_289 kc_3 ?_
              refine g_iadd K dL_law_290 ?_
              refine g_sld (j := (i + 3)) K hX hbl hbl dL_law_291 (nI_add i 3) (by omega) (by omega) ?_
              refine g_if_eq (tgt := 299) K dL_law_292 (by decide) (fun u292 => ?_) (fun u292 => ?_)
              · refine g_iconst K dL_law_299 kc_0 ?_
                have hu01 : (0 : Int32) = 0 ∨ (0 : Int32) = 1 := Or.inl rfl
                refine g_callVpi K (c_X7_lift hM1 hC.1.1 hu01) mw_X7_lift ml_L_31 dL_law_300 (by rfl) rfl rfl (by decide) (by simp [Value.category]) ⟨by decide, by decide⟩ ⟨by decide, by decide⟩ (fun r300 S300 h300 => ?_)
                obtain ⟨hr2, hM2, hf2⟩ := h300
                have hC2 := hC1.low hf2
                refine g_icmp_eq (tgt := 847) K dL_law_303 (by decide) (fun u303 => ?_) (fun u303 => absurd (by first | exact hr1.trans hr2.symm | exact absurd u292 u265 | exact absurd u265 u292) u303)
                refine g_iinc (ls2 := [_, _, _, some (.int _), _, _, _, _]) K dL_law_847 rfl kc_5 rfl ?_
                refine g_goto (tgt := 18) K dL_law_850 (by decide) ?_
                rw [show nI i + (5 : Int32) = nI (i + 5) from nI_add i 5]
                first
                  | exact ih (i + 5) _ _ _ (by omega) (by omega) hC2 hM2
                  | exact absurd u292 u265
                  | exact absurd u265 u292
              · refine g_iconst K dL_law_295 kc_1 ?_
                have hu01 : (1 : Int32) = 0 ∨ (1 : Int32) = 1 := Or.inr rfl
                refine g_goto (tgt := 300) K dL_law_296 (by decide) ?_
                refine g_callVpi K (c_X7_lift hM1 hC.1.1 hu01) mw_X7_lift ml_L_31 dL_law_300 (by rfl) rfl rfl (by decide) (by simp [Value.category]) ⟨by decide, by decide⟩ ⟨by decide, by decide⟩ (fun r300 S300 h300 => ?_)
                obtain ⟨hr2, hM2, hf2⟩ := h300
                have hC2 := hC1.low hf2
                refine g_icmp_eq (tgt := 847) K dL_law_303 (by decide) (fun u303 => ?_) (fun u303 => absurd (by first | exact hr1.trans hr2.symm | exact absurd u292 u265 | exact absurd u265 u292) u303)
                refine g_iinc (ls2 := [_, _, _, some (.int _), _, _, _, _]) K dL_law_847 rfl kc_5 rfl ?_
                refine g_goto (tgt := 18) K dL_law_850 (by decide) ?_
                rw [show nI i + (5 : Int32) = nI (i + 5) from nI_add i 5]
                first
                  | exact ih (i + 5) _ _ _ (by omega) (by omega) hC2 hM2
                  | exact absurd u292 u265
                  | exact absurd u265 u292
            · refine g_iconst K dL_law_268 kc_1 ?_
              have hu01 : (1 : Int32) = 0 ∨ (1 : Int32) = 1 := Or.inr rfl
              refine g_goto (tgt := 273) K dL_law_269 (by decide) ?_
              refine g_callVpi K (c_X6_lift hC hu01) mw_X6_lift ml_L_27 dL_law_273 (by rfl) rfl rfl (by decide) (by simp [Value.category]) ⟨by decide, by decide⟩ ⟨by decide, by decide⟩ (fun r273 S273 h273 => ?_)
              obtain ⟨hr1, ⟨nC, hC1⟩, hf1⟩ := h273
              have hM1 := hM.high hf1
              refine g_aload_n K dL_law_276 rfl ?_
              refine g_aload_n K dL_law_277 rfl ?_
              refine g_iload_n K dL_law_278 rfl ?_
              refine g_iconst K dL_law_279 kc_1 ?_
              refine g_iadd K dL_law_280 ?_
              refine g_sld (j := (i + 1)) K hX hbl hbl dL_law_281 (nI_add i 1) (by omega) (by omega) ?_
              refine g_aload_n K dL_law_282 rfl ?_
              refine g_iload_n K dL_law_283 rfl ?_
              refine g_iconst K dL_law_284 kc_2 ?_
              refine g_iadd K dL_law_285 ?_
              refine g_sld (j := (i + 2)) K hX hbl hbl dL_law_286 (nI_add i 2) (by omega) (by omega) ?_
              refine g_aload_n K dL_law_287 rfl ?_
              refine g_iload_n K dL_law_288 rfl ?_
              refine g_iconst K dL_law_289 kc_3 ?_
              refine g_iadd K dL_law_290 ?_
              refine g_sld (j := (i + 3)) K hX hbl hbl dL_law_291 (nI_add i 3) (by omega) (by omega) ?_
              refine g_if_eq (tgt := 299) K dL_law_292 (by decide) (fun u292 => ?_) (fun u292 => ?_)
              · refine g_iconst K dL_law_299 kc_0 ?_
                have hu01 : (0 : Int32) = 0 ∨ (0 : Int32) = 1 := Or.inl rfl
                refine g_callVpi K (c_X7_lift hM1 hC.1.1 hu01) mw_X7_lift ml_L_31 dL_law_300 (by rfl) rfl rfl (by decide) (by simp [Value.category]) ⟨by decide, by decide⟩ ⟨by decide, by decide⟩ (fun r300 S300 h300 => ?_)
                obtain ⟨hr2, hM2, hf2⟩ := h300
                have hC2 := hC1.low hf2
                refine g_icmp_eq (tgt := 847) K dL_law_303 (by decide) (fun u303 => ?_) (fun u303 => absurd (by first | exact hr1.trans hr2.symm | exact absurd u292 u265 | exact absurd u265 u292) u303)
                refine g_iinc (ls2 := [_, _, _, some (.int _), _, _, _, _]) K dL_law_847 rfl kc_5 rfl ?_
                refine g_goto (tgt := 18) K dL_law_850 (by decide) ?_
                rw [show nI i + (5 : Int32) = nI (i + 5) from nI_add i 5]
                first
                  | exact ih (i + 5) _ _ _ (by omega) (by omega) hC2 hM2
                  | exact absurd u292 u265
                  | exact absurd u265 u292
              · refine g_iconst K dL_law_295 kc_1 ?_
                have hu01 : (1 : Int32) = 0 ∨ (1 : Int32) = 1 := Or.inr rfl
                refine g_goto (tgt := 300) K dL_law_296 (by decide) ?_
                refine g_callVpi K (c_X7_lift hM1 hC.1.1 hu01) mw_X7_lift ml_L_31 dL_law_300 (by rfl) rfl rfl (by decide) (by simp [Value.category]) ⟨by decide, by decide⟩ ⟨by decide, by decide⟩ (fun r300 S300 h300 => ?_)
                obtain ⟨hr2, hM2, hf2⟩ := h300
                have hC2 := hC1.low hf2
                refine g_icmp_eq (tgt := 847) K dL_law_303 (by decide) (fun u303 => ?_) (fun u303 => absurd (by first | exact hr1.trans hr2.symm | exact absurd u292 u265 | exact absurd u265 u292) u303)
                refine g_iinc (ls2 := [_, _, _, some (.int _), _, _, _, _]) K dL_law_847 rfl kc_5 rfl ?_
                refine g_goto (tgt := 18) K dL_law_850 (by decide) ?_
                rw [show nI i + (5 : Int32) = nI (i + 5) from nI_add i 5]
                first
                  | exact ih (i + 5) _ _ _ (by omega) (by omega) hC2 hM2
                  | exact absurd u292 u265
                  | exact absurd u265 u292
          · refine g_tin (off := 276) (tgt := 308) K dL_law_32 (by rw [hsw2]; decide) (by rw [hsw2]; decide) (by rw [hsw2]; rfl) (by decide) ?_
            refine g_aload_n K dL_law_308 rfl ?_
            refine g_callVpi K (c_X6_carts hC) mw_X6_carts ml_L_32 dL_law_309 (by rfl) rfl rfl (by decide) (by simp [Value.category]) ⟨by decide, by decide⟩ ⟨by decide, by decide⟩ (fun r309 S309 h309 => ?_)
            obtain ⟨hr1, ⟨nC, hC1⟩, hf1⟩ := h309
            have hM1 := hM.high hf1
            refine g_aload_n K dL_law_312 rfl ?_
            refine g_callVpi K (c_X7_carts hM1 hC.1.1) mw_X7_carts ml_L_36 dL_law_313 (by rfl) rfl rfl (by decide) (by simp [Value.category]) ⟨by decide, by decide⟩ ⟨by decide, by decide⟩ (fun r313 S313 h313 => ?_)
            obtain ⟨hr2, hM2, hf2⟩ := h313
            have hC2 := hC1.low hf2
            refine g_icmp_eq (tgt := 847) K dL_law_316 (by decide) (fun u316 => ?_) (fun u316 => absurd (hr1.trans hr2.symm) u316)
            refine g_iinc (ls2 := [_, _, _, some (.int _), _, _, _, _]) K dL_law_847 rfl kc_5 rfl ?_
            refine g_goto (tgt := 18) K dL_law_850 (by decide) ?_
            rw [show nI i + (5 : Int32) = nI (i + 5) from nI_add i 5]
            first
              | exact ih (i + 5) _ _ _ (by omega) (by omega) hC2 hM2
              | exact absurd u292 u265
              | exact absurd u265 u292
          · refine g_tin (off := 289) (tgt := 321) K dL_law_32 (by rw [hsw2]; decide) (by rw [hsw2]; decide) (by rw [hsw2]; rfl) (by decide) ?_
            refine g_aload_n K dL_law_321 rfl ?_
            refine g_aload_n K dL_law_322 rfl ?_
            refine g_iload_n K dL_law_323 rfl ?_
            refine g_iconst K dL_law_324 kc_1 ?_
            refine g_iadd K dL_law_325 ?_
            refine g_sld (j := (i + 1)) K hX hbl hbl dL_law_326 (nI_add i 1) (by omega) (by omega) ?_
            refine g_aload_n K dL_law_327 rfl ?_
            refine g_iload_n K dL_law_328 rfl ?_
            refine g_iconst K dL_law_329 kc_2 ?_
            refine g_iadd K dL_law_330 ?_
            refine g_sld (j := (i + 2)) K hX hbl hbl dL_law_331 (nI_add i 2) (by omega) (by omega) ?_
            refine g_callVpi K (c_X6_run hC) mw_X6_run ml_L_37 dL_law_332 (by rfl) rfl rfl (by decide) (by simp [Value.category]) ⟨by decide, by decide⟩ ⟨by decide, by decide⟩ (fun r332 S332 h332 => ?_)
            obtain ⟨hr1, ⟨nC, hC1⟩, hf1⟩ := h332
            have hM1 := hM.high hf1
            refine g_aload_n K dL_law_335 rfl ?_
            refine g_aload_n K dL_law_336 rfl ?_
            refine g_iload_n K dL_law_337 rfl ?_
            refine g_iconst K dL_law_338 kc_1 ?_
            refine g_iadd K dL_law_339 ?_
            refine g_sld (j := (i + 1)) K hX hbl hbl dL_law_340 (nI_add i 1) (by omega) (by omega) ?_
            refine g_aload_n K dL_law_341 rfl ?_
            refine g_iload_n K dL_law_342 rfl ?_
            refine g_iconst K dL_law_343 kc_2 ?_
            refine g_iadd K dL_law_344 ?_
            refine g_sld (j := (i + 2)) K hX hbl hbl dL_law_345 (nI_add i 2) (by omega) (by omega) ?_
            refine g_callVpi K (c_X7_run hM1 hC.1.1) mw_X7_run ml_L_41 dL_law_346 (by rfl) rfl rfl (by decide) (by simp [Value.category]) ⟨by decide, by decide⟩ ⟨by decide, by decide⟩ (fun r346 S346 h346 => ?_)
            obtain ⟨hr2, hM2, hf2⟩ := h346
            have hC2 := hC1.low hf2
            refine g_icmp_eq (tgt := 847) K dL_law_349 (by decide) (fun u349 => ?_) (fun u349 => absurd (hr1.trans hr2.symm) u349)
            refine g_iinc (ls2 := [_, _, _, some (.int _), _, _, _, _]) K dL_law_847 rfl kc_5 rfl ?_
            refine g_goto (tgt := 18) K dL_law_850 (by decide) ?_
            rw [show nI i + (5 : Int32) = nI (i + 5) from nI_add i 5]
            first
              | exact ih (i + 5) _ _ _ (by omega) (by omega) hC2 hM2
              | exact absurd u292 u265
              | exact absurd u265 u292
          · refine g_tin (off := 322) (tgt := 354) K dL_law_32 (by rw [hsw2]; decide) (by rw [hsw2]; decide) (by rw [hsw2]; rfl) (by decide) ?_
            refine g_aload_n K dL_law_354 rfl ?_
            refine g_aload_n K dL_law_355 rfl ?_
            refine g_iload_n K dL_law_356 rfl ?_
            refine g_iconst K dL_law_357 kc_1 ?_
            refine g_iadd K dL_law_358 ?_
            refine g_sld (j := (i + 1)) K hX hbl hbl dL_law_359 (nI_add i 1) (by omega) (by omega) ?_
            refine g_callVpi K (c_X6_tare hC) mw_X6_tare ml_L_42 dL_law_360 (by rfl) rfl rfl (by decide) (by simp [Value.category]) ⟨by decide, by decide⟩ ⟨by decide, by decide⟩ (fun r360 S360 h360 => ?_)
            obtain ⟨hr1, ⟨nC, hC1⟩, hf1⟩ := h360
            have hM1 := hM.high hf1
            refine g_aload_n K dL_law_363 rfl ?_
            refine g_aload_n K dL_law_364 rfl ?_
            refine g_iload_n K dL_law_365 rfl ?_
            refine g_iconst K dL_law_366 kc_1 ?_
            refine g_iadd K dL_law_367 ?_
            refine g_sld (j := (i + 1)) K hX hbl hbl dL_law_368 (nI_add i 1) (by omega) (by omega) ?_
            refine g_callVpi K (c_X7_tare hM1 hC.1.1) mw_X7_tare ml_L_45 dL_law_369 (by rfl) rfl rfl (by decide) (by simp [Value.category]) ⟨by decide, by decide⟩ ⟨by decide, by decide⟩ (fun r369 S369 h369 => ?_)
            obtain ⟨hr2, hM2, hf2⟩ := h369
            have hC2 := hC1.low hf2
            refine g_icmp_eq (tgt := 847) K dL_law_372 (by decide) (fun u372 => ?_) (fun u372 => absurd (hr1.trans hr2.symm) u372)
            refine g_iinc (ls2 := [_, _, _, some (.int _), _, _, _, _]) K dL_law_847 rfl kc_5 rfl ?_
            refine g_goto (tgt := 18) K dL_law_850 (by decide) ?_
            rw [show nI i + (5 : Int32) = nI (i + 5) from nI_add i 5]
            first
              | exact ih (i + 5) _ _ _ (by omega) (by omega) hC2 hM2
              | exact absurd u292 u265
              | exact absurd u265 u292
          · refine g_tin (off := 345) (tgt := 377) K dL_law_32 (by rw [hsw2]; decide) (by rw [hsw2]; decide) (by rw [hsw2]; rfl) (by decide) ?_
            refine g_aload_n K dL_law_377 rfl ?_
            refine g_aload_n K dL_law_378 rfl ?_
            refine g_iload_n K dL_law_379 rfl ?_
            refine g_iconst K dL_law_380 kc_1 ?_
            refine g_iadd K dL_law_381 ?_
            refine g_sld (j := (i + 1)) K hX hbl hbl dL_law_382 (nI_add i 1) (by omega) (by omega) ?_
            refine g_aload_n K dL_law_383 rfl ?_
            refine g_iload_n K dL_law_384 rfl ?_
            refine g_iconst K dL_law_385 kc_2 ?_
            refine g_iadd K dL_law_386 ?_
            refine g_sld (j := (i + 2)) K hX hbl hbl dL_law_387 (nI_add i 2) (by omega) (by omega) ?_
            refine g_callVpi K (c_X6_set hC) mw_X6_set ml_L_46 dL_law_388 (by rfl) rfl rfl (by decide) (by simp [Value.category]) ⟨by decide, by decide⟩ ⟨by decide, by decide⟩ (fun r388 S388 h388 => ?_)
            obtain ⟨hr1, ⟨nC, hC1⟩, hf1⟩ := h388
            have hM1 := hM.high hf1
            refine g_aload_n K dL_law_391 rfl ?_
            refine g_aload_n K dL_law_392 rfl ?_
            refine g_iload_n K dL_law_393 rfl ?_
            refine g_iconst K dL_law_394 kc_1 ?_
            refine g_iadd K dL_law_395 ?_
            refine g_sld (j := (i + 1)) K hX hbl hbl dL_law_396 (nI_add i 1) (by omega) (by omega) ?_
            refine g_aload_n K dL_law_397 rfl ?_
            refine g_iload_n K dL_law_398 rfl ?_
            refine g_iconst K dL_law_399 kc_2 ?_
            refine g_iadd K dL_law_400 ?_
            refine g_sld (j := (i + 2)) K hX hbl hbl dL_law_401 (nI_add i 2) (by omega) (by omega) ?_
            refine g_callVpi K (c_X7_set hM1 hC.1.1) mw_X7_set ml_L_49 dL_law_402 (by rfl) rfl rfl (by decide) (by simp [Value.category]) ⟨by decide, by decide⟩ ⟨by decide, by decide⟩ (fun r402 S402 h402 => ?_)
            obtain ⟨hr2, hM2, hf2⟩ := h402
            have hC2 := hC1.low hf2
            refine g_icmp_eq (tgt := 847) K dL_law_405 (by decide) (fun u405 => ?_) (fun u405 => absurd (hr1.trans hr2.symm) u405)
            refine g_iinc (ls2 := [_, _, _, some (.int _), _, _, _, _]) K dL_law_847 rfl kc_5 rfl ?_
            refine g_goto (tgt := 18) K dL_law_850 (by decide) ?_
            rw [show nI i + (5 : Int32) = nI (i + 5) from nI_add i 5]
            first
              | exact ih (i + 5) _ _ _ (by omega) (by omega) hC2 hM2
              | exact absurd u292 u265
              | exact absurd u265 u292
          · refine g_tin (off := 378) (tgt := 410) K dL_law_32 (by rw [hsw2]; decide) (by rw [hsw2]; decide) (by rw [hsw2]; rfl) (by decide) ?_
            refine g_aload_n K dL_law_410 rfl ?_
            refine g_aload_n K dL_law_411 rfl ?_
            refine g_iload_n K dL_law_412 rfl ?_
            refine g_iconst K dL_law_413 kc_1 ?_
            refine g_iadd K dL_law_414 ?_
            refine g_sld (j := (i + 1)) K hX hbl hbl dL_law_415 (nI_add i 1) (by omega) (by omega) ?_
            refine g_i2c K dL_law_416 ?_
            refine g_callVpi K (c_X6_type hC (nar_char _)) mw_X6_type ml_L_50 dL_law_417 (by rfl) rfl rfl (by decide) (by simp [Value.category]) ⟨by decide, by decide⟩ ⟨by decide, by decide⟩ (fun r417 S417 h417 => ?_)
            obtain ⟨hr1, ⟨nC, hC1⟩, hf1⟩ := h417
            have hM1 := hM.high hf1
            refine g_aload_n K dL_law_420 rfl ?_
            refine g_aload_n K dL_law_421 rfl ?_
            refine g_iload_n K dL_law_422 rfl ?_
            refine g_iconst K dL_law_423 kc_1 ?_
            refine g_iadd K dL_law_424 ?_
            refine g_sld (j := (i + 1)) K hX hbl hbl dL_law_425 (nI_add i 1) (by omega) (by omega) ?_
            refine g_i2c K dL_law_426 ?_
            refine g_callVpi K (c_X7_type hM1 hC.1.1) mw_X7_type ml_L_54 dL_law_427 (by rfl) rfl rfl (by decide) (by simp [Value.category]) ⟨by decide, by decide⟩ ⟨by decide, by decide⟩ (fun r427 S427 h427 => ?_)
            obtain ⟨hr2, hM2, hf2⟩ := h427
            have hC2 := hC1.low hf2
            refine g_icmp_eq (tgt := 847) K dL_law_430 (by decide) (fun u430 => ?_) (fun u430 => absurd (hr1.trans hr2.symm) u430)
            refine g_iinc (ls2 := [_, _, _, some (.int _), _, _, _, _]) K dL_law_847 rfl kc_5 rfl ?_
            refine g_goto (tgt := 18) K dL_law_850 (by decide) ?_
            rw [show nI i + (5 : Int32) = nI (i + 5) from nI_add i 5]
            first
              | exact ih (i + 5) _ _ _ (by omega) (by omega) hC2 hM2
              | exact absurd u292 u265
              | exact absurd u265 u292
          · refine g_tin (off := 403) (tgt := 435) K dL_law_32 (by rw [hsw2]; decide) (by rw [hsw2]; decide) (by rw [hsw2]; rfl) (by decide) ?_
            refine g_aload_n K dL_law_435 rfl ?_
            refine g_callVpi K (c_X6_clearText hC) mw_X6_clearText ml_L_55 dL_law_436 (by rfl) rfl rfl (by decide) (by simp [Value.category]) ⟨by decide, by decide⟩ ⟨by decide, by decide⟩ (fun r436 S436 h436 => ?_)
            obtain ⟨hr1, ⟨nC, hC1⟩, hf1⟩ := h436
            have hM1 := hM.high hf1
            refine g_aload_n K dL_law_439 rfl ?_
            refine g_callVpi K (c_X7_clearText hM1 hC.1.1) mw_X7_clearText ml_L_58 dL_law_440 (by rfl) rfl rfl (by decide) (by simp [Value.category]) ⟨by decide, by decide⟩ ⟨by decide, by decide⟩ (fun r440 S440 h440 => ?_)
            obtain ⟨hr2, hM2, hf2⟩ := h440
            have hC2 := hC1.low hf2
            refine g_icmp_eq (tgt := 847) K dL_law_443 (by decide) (fun u443 => ?_) (fun u443 => absurd (hr1.trans hr2.symm) u443)
            refine g_iinc (ls2 := [_, _, _, some (.int _), _, _, _, _]) K dL_law_847 rfl kc_5 rfl ?_
            refine g_goto (tgt := 18) K dL_law_850 (by decide) ?_
            rw [show nI i + (5 : Int32) = nI (i + 5) from nI_add i 5]
            first
              | exact ih (i + 5) _ _ _ (by omega) (by omega) hC2 hM2
              | exact absurd u292 u265
              | exact absurd u265 u292
          · refine g_tin (off := 416) (tgt := 448) K dL_law_32 (by rw [hsw2]; decide) (by rw [hsw2]; decide) (by rw [hsw2]; rfl) (by decide) ?_
            refine g_aload_n K dL_law_448 rfl ?_
            refine g_callVpi K (c_X6_fault hC) mw_X6_fault ml_L_59 dL_law_449 (by rfl) rfl rfl (by decide) (by simp [Value.category]) ⟨by decide, by decide⟩ ⟨by decide, by decide⟩ (fun r449 S449 h449 => ?_)
            obtain ⟨hr1, ⟨nC, hC1⟩, hf1⟩ := h449
            have hM1 := hM.high hf1
            refine g_aload_n K dL_law_452 rfl ?_
            refine g_callVpi K (c_X7_fault hM1 hC.1.1) mw_X7_fault ml_L_62 dL_law_453 (by rfl) rfl rfl (by decide) (by simp [Value.category]) ⟨by decide, by decide⟩ ⟨by decide, by decide⟩ (fun r453 S453 h453 => ?_)
            obtain ⟨hr2, hM2, hf2⟩ := h453
            have hC2 := hC1.low hf2
            refine g_icmp_eq (tgt := 847) K dL_law_456 (by decide) (fun u456 => ?_) (fun u456 => absurd (hr1.trans hr2.symm) u456)
            refine g_iinc (ls2 := [_, _, _, some (.int _), _, _, _, _]) K dL_law_847 rfl kc_5 rfl ?_
            refine g_goto (tgt := 18) K dL_law_850 (by decide) ?_
            rw [show nI i + (5 : Int32) = nI (i + 5) from nI_add i 5]
            first
              | exact ih (i + 5) _ _ _ (by omega) (by omega) hC2 hM2
              | exact absurd u292 u265
              | exact absurd u265 u292
          · refine g_tin (off := 429) (tgt := 461) K dL_law_32 (by rw [hsw2]; decide) (by rw [hsw2]; decide) (by rw [hsw2]; rfl) (by decide) ?_
            refine g_aload_n K dL_law_461 rfl ?_
            refine g_callVpi K (c_X6_undo hC) mw_X6_undo ml_L_63 dL_law_462 (by rfl) rfl rfl (by decide) (by simp [Value.category]) ⟨by decide, by decide⟩ ⟨by decide, by decide⟩ (fun r462 S462 h462 => ?_)
            obtain ⟨hr1, ⟨nC, hC1⟩, hf1⟩ := h462
            have hM1 := hM.high hf1
            refine g_aload_n K dL_law_465 rfl ?_
            refine g_callVpi K (c_X7_undo hM1 hC.1.1) mw_X7_undo ml_L_66 dL_law_466 (by rfl) rfl rfl (by decide) (by simp [Value.category]) ⟨by decide, by decide⟩ ⟨by decide, by decide⟩ (fun r466 S466 h466 => ?_)
            obtain ⟨hr2, hM2, hf2⟩ := h466
            have hC2 := hC1.low hf2
            refine g_icmp_eq (tgt := 847) K dL_law_469 (by decide) (fun u469 => ?_) (fun u469 => absurd (hr1.trans hr2.symm) u469)
            refine g_iinc (ls2 := [_, _, _, some (.int _), _, _, _, _]) K dL_law_847 rfl kc_5 rfl ?_
            refine g_goto (tgt := 18) K dL_law_850 (by decide) ?_
            rw [show nI i + (5 : Int32) = nI (i + 5) from nI_add i 5]
            first
              | exact ih (i + 5) _ _ _ (by omega) (by omega) hC2 hM2
              | exact absurd u292 u265
              | exact absurd u265 u292
          · refine g_tin (off := 442) (tgt := 474) K dL_law_32 (by rw [hsw2]; decide) (by rw [hsw2]; decide) (by rw [hsw2]; rfl) (by decide) ?_
            refine g_aload_n K dL_law_474 rfl ?_
            refine g_callVpi K (c_X6_keep hC) mw_X6_keep ml_L_67 dL_law_475 (by rfl) rfl rfl (by decide) (by simp [Value.category]) ⟨by decide, by decide⟩ ⟨by decide, by decide⟩ (fun r475 S475 h475 => ?_)
            obtain ⟨hr1, ⟨nC, hC1⟩, hf1⟩ := h475
            have hM1 := hM.high hf1
            refine g_aload_n K dL_law_478 rfl ?_
            refine g_callVpi K (c_X7_keep hM1 hC.1.1) mw_X7_keep ml_L_70 dL_law_479 (by rfl) rfl rfl (by decide) (by simp [Value.category]) ⟨by decide, by decide⟩ ⟨by decide, by decide⟩ (fun r479 S479 h479 => ?_)
            obtain ⟨hr2, hM2, hf2⟩ := h479
            have hC2 := hC1.low hf2
            refine g_icmp_eq (tgt := 847) K dL_law_482 (by decide) (fun u482 => ?_) (fun u482 => absurd (hr1.trans hr2.symm) u482)
            refine g_iinc (ls2 := [_, _, _, some (.int _), _, _, _, _]) K dL_law_847 rfl kc_5 rfl ?_
            refine g_goto (tgt := 18) K dL_law_850 (by decide) ?_
            rw [show nI i + (5 : Int32) = nI (i + 5) from nI_add i 5]
            first
              | exact ih (i + 5) _ _ _ (by omega) (by omega) hC2 hM2
              | exact absurd u292 u265
              | exact absurd u265 u292
          · refine g_tin (off := 455) (tgt := 487) K dL_law_32 (by rw [hsw2]; decide) (by rw [hsw2]; decide) (by rw [hsw2]; rfl) (by decide) ?_
            refine g_aload_n K dL_law_487 rfl ?_
            refine g_callVpi K (c_X6_restore hC) mw_X6_restore ml_L_71 dL_law_488 (by rfl) rfl rfl (by decide) (by simp [Value.category]) ⟨by decide, by decide⟩ ⟨by decide, by decide⟩ (fun r488 S488 h488 => ?_)
            obtain ⟨hr1, ⟨nC, hC1⟩, hf1⟩ := h488
            have hM1 := hM.high hf1
            refine g_aload_n K dL_law_491 rfl ?_
            refine g_callVpi K (c_X7_restore hM1 hC.1.1) mw_X7_restore ml_L_74 dL_law_492 (by rfl) rfl rfl (by decide) (by simp [Value.category]) ⟨by decide, by decide⟩ ⟨by decide, by decide⟩ (fun r492 S492 h492 => ?_)
            obtain ⟨hr2, hM2, hf2⟩ := h492
            have hC2 := hC1.low hf2
            refine g_icmp_eq (tgt := 847) K dL_law_495 (by decide) (fun u495 => ?_) (fun u495 => absurd (hr1.trans hr2.symm) u495)
            refine g_iinc (ls2 := [_, _, _, some (.int _), _, _, _, _]) K dL_law_847 rfl kc_5 rfl ?_
            refine g_goto (tgt := 18) K dL_law_850 (by decide) ?_
            rw [show nI i + (5 : Int32) = nI (i + 5) from nI_add i 5]
            first
              | exact ih (i + 5) _ _ _ (by omega) (by omega) hC2 hM2
              | exact absurd u292 u265
              | exact absurd u265 u292
          · refine g_tin (off := 468) (tgt := 500) K dL_law_32 (by rw [hsw2]; decide) (by rw [hsw2]; decide) (by rw [hsw2]; rfl) (by decide) ?_
            refine g_aload_n K dL_law_500 rfl ?_
            refine g_aload_n K dL_law_501 rfl ?_
            refine g_iload_n K dL_law_502 rfl ?_
            refine g_iconst K dL_law_503 kc_1 ?_
            refine g_iadd K dL_law_504 ?_
            refine g_sld (j := (i + 1)) K hX hbl hbl dL_law_505 (nI_add i 1) (by omega) (by omega) ?_
            refine g_aload_n K dL_law_506 rfl ?_
            refine g_iload_n K dL_law_507 rfl ?_
            refine g_iconst K dL_law_508 kc_2 ?_
            refine g_iadd K dL_law_509 ?_
            refine g_sld (j := (i + 2)) K hX hbl hbl dL_law_510 (nI_add i 2) (by omega) (by omega) ?_
            refine g_callVpi K (c_X6_cartOf hC) mw_X6_cartOf ml_L_75 dL_law_511 (by rfl) rfl rfl (by decide) (by simp [Value.category]) ⟨by decide, by decide⟩ ⟨by decide, by decide⟩ (fun r511 S511 h511 => ?_)
            obtain ⟨hr1, ⟨nC, hC1⟩, hf1⟩ := h511
            have hM1 := hM.high hf1
            refine g_aload_n K dL_law_514 rfl ?_
            refine g_aload_n K dL_law_515 rfl ?_
            refine g_iload_n K dL_law_516 rfl ?_
            refine g_iconst K dL_law_517 kc_1 ?_
            refine g_iadd K dL_law_518 ?_
            refine g_sld (j := (i + 1)) K hX hbl hbl dL_law_519 (nI_add i 1) (by omega) (by omega) ?_
            refine g_aload_n K dL_law_520 rfl ?_
            refine g_iload_n K dL_law_521 rfl ?_
            refine g_iconst K dL_law_522 kc_2 ?_
            refine g_iadd K dL_law_523 ?_
            refine g_sld (j := (i + 2)) K hX hbl hbl dL_law_524 (nI_add i 2) (by omega) (by omega) ?_
            refine g_callVi K (c_X7_cartOf hM1 hC.1.1) mw_X7_cartOf ml_L_78 dL_law_525 (by rfl) rfl rfl (by decide) (by simp [Value.category]) ⟨by decide, by decide⟩ ⟨by decide, by decide⟩ ?_
            have hM2 := hM1
            have hC2 := hC1
            refine g_icmp_eq (tgt := 847) K dL_law_528 (by decide) (fun u528 => ?_) (fun u528 => absurd hr1 u528)
            refine g_iinc (ls2 := [_, _, _, some (.int _), _, _, _, _]) K dL_law_847 rfl kc_5 rfl ?_
            refine g_goto (tgt := 18) K dL_law_850 (by decide) ?_
            rw [show nI i + (5 : Int32) = nI (i + 5) from nI_add i 5]
            first
              | exact ih (i + 5) _ _ _ (by omega) (by omega) hC2 hM2
              | exact absurd u292 u265
              | exact absurd u265 u292
          · refine g_tin (off := 501) (tgt := 533) K dL_law_32 (by rw [hsw2]; decide) (by rw [hsw2]; decide) (by rw [hsw2]; rfl) (by decide) ?_
            refine g_aload_n K dL_law_533 rfl ?_
            refine g_aload_n K dL_law_534 rfl ?_
            refine g_iload_n K dL_law_535 rfl ?_
            refine g_iconst K dL_law_536 kc_1 ?_
            refine g_iadd K dL_law_537 ?_
            refine g_sld (j := (i + 1)) K hX hbl hbl dL_law_538 (nI_add i 1) (by omega) (by omega) ?_
            refine g_aload_n K dL_law_539 rfl ?_
            refine g_iload_n K dL_law_540 rfl ?_
            refine g_iconst K dL_law_541 kc_2 ?_
            refine g_iadd K dL_law_542 ?_
            refine g_sld (j := (i + 2)) K hX hbl hbl dL_law_543 (nI_add i 2) (by omega) (by omega) ?_
            refine g_aload_n K dL_law_544 rfl ?_
            refine g_iload_n K dL_law_545 rfl ?_
            refine g_iconst K dL_law_546 kc_3 ?_
            refine g_iadd K dL_law_547 ?_
            refine g_sld (j := (i + 3)) K hX hbl hbl dL_law_548 (nI_add i 3) (by omega) (by omega) ?_
            refine g_callVpi K (c_X6_axleOf hC) mw_X6_axleOf ml_L_79 dL_law_549 (by rfl) rfl rfl (by decide) (by simp [Value.category]) ⟨by decide, by decide⟩ ⟨by decide, by decide⟩ (fun r549 S549 h549 => ?_)
            obtain ⟨hr1, ⟨nC, hC1⟩, hf1⟩ := h549
            have hM1 := hM.high hf1
            refine g_aload_n K dL_law_552 rfl ?_
            refine g_aload_n K dL_law_553 rfl ?_
            refine g_iload_n K dL_law_554 rfl ?_
            refine g_iconst K dL_law_555 kc_1 ?_
            refine g_iadd K dL_law_556 ?_
            refine g_sld (j := (i + 1)) K hX hbl hbl dL_law_557 (nI_add i 1) (by omega) (by omega) ?_
            refine g_aload_n K dL_law_558 rfl ?_
            refine g_iload_n K dL_law_559 rfl ?_
            refine g_iconst K dL_law_560 kc_2 ?_
            refine g_iadd K dL_law_561 ?_
            refine g_sld (j := (i + 2)) K hX hbl hbl dL_law_562 (nI_add i 2) (by omega) (by omega) ?_
            refine g_aload_n K dL_law_563 rfl ?_
            refine g_iload_n K dL_law_564 rfl ?_
            refine g_iconst K dL_law_565 kc_3 ?_
            refine g_iadd K dL_law_566 ?_
            refine g_sld (j := (i + 3)) K hX hbl hbl dL_law_567 (nI_add i 3) (by omega) (by omega) ?_
            refine g_callVi K (c_X7_axleOf hM1 hC.1.1) mw_X7_axleOf ml_L_82 dL_law_568 (by rfl) rfl rfl (by decide) (by simp [Value.category]) ⟨by decide, by decide⟩ ⟨by decide, by decide⟩ ?_
            have hM2 := hM1
            have hC2 := hC1
            refine g_icmp_eq (tgt := 847) K dL_law_571 (by decide) (fun u571 => ?_) (fun u571 => absurd hr1 u571)
            refine g_iinc (ls2 := [_, _, _, some (.int _), _, _, _, _]) K dL_law_847 rfl kc_5 rfl ?_
            refine g_goto (tgt := 18) K dL_law_850 (by decide) ?_
            rw [show nI i + (5 : Int32) = nI (i + 5) from nI_add i 5]
            first
              | exact ih (i + 5) _ _ _ (by omega) (by omega) hC2 hM2
              | exact absurd u292 u265
              | exact absurd u265 u292
          · refine g_tin (off := 544) (tgt := 576) K dL_law_32 (by rw [hsw2]; decide) (by rw [hsw2]; decide) (by rw [hsw2]; rfl) (by decide) ?_
            refine g_aload_n K dL_law_576 rfl ?_
            refine g_aload_n K dL_law_577 rfl ?_
            refine g_iload_n K dL_law_578 rfl ?_
            refine g_iconst K dL_law_579 kc_1 ?_
            refine g_iadd K dL_law_580 ?_
            refine g_sld (j := (i + 1)) K hX hbl hbl dL_law_581 (nI_add i 1) (by omega) (by omega) ?_
            refine g_aload_n K dL_law_582 rfl ?_
            refine g_iload_n K dL_law_583 rfl ?_
            refine g_iconst K dL_law_584 kc_2 ?_
            refine g_iadd K dL_law_585 ?_
            refine g_sld (j := (i + 2)) K hX hbl hbl dL_law_586 (nI_add i 2) (by omega) (by omega) ?_
            refine g_aload_n K dL_law_587 rfl ?_
            refine g_iload_n K dL_law_588 rfl ?_
            refine g_iconst K dL_law_589 kc_3 ?_
            refine g_iadd K dL_law_590 ?_
            refine g_sld (j := (i + 3)) K hX hbl hbl dL_law_591 (nI_add i 3) (by omega) (by omega) ?_
            refine g_aload_n K dL_law_592 rfl ?_
            refine g_iload_n K dL_law_593 rfl ?_
            refine g_iconst K dL_law_594 kc_4 ?_
            refine g_iadd K dL_law_595 ?_
            refine g_sld (j := (i + 4)) K hX hbl hbl dL_law_596 (nI_add i 4) (by omega) (by omega) ?_
            refine g_callVpi K (c_X6_tick hC) mw_X6_tick ml_L_83 dL_law_597 (by rfl) rfl rfl (by decide) (by simp [Value.category]) ⟨by decide, by decide⟩ ⟨by decide, by decide⟩ (fun r597 S597 h597 => ?_)
            obtain ⟨hr1, ⟨nC, hC1⟩, hf1⟩ := h597
            have hM1 := hM.high hf1
            refine g_aload_n K dL_law_600 rfl ?_
            refine g_aload_n K dL_law_601 rfl ?_
            refine g_iload_n K dL_law_602 rfl ?_
            refine g_iconst K dL_law_603 kc_1 ?_
            refine g_iadd K dL_law_604 ?_
            refine g_sld (j := (i + 1)) K hX hbl hbl dL_law_605 (nI_add i 1) (by omega) (by omega) ?_
            refine g_aload_n K dL_law_606 rfl ?_
            refine g_iload_n K dL_law_607 rfl ?_
            refine g_iconst K dL_law_608 kc_2 ?_
            refine g_iadd K dL_law_609 ?_
            refine g_sld (j := (i + 2)) K hX hbl hbl dL_law_610 (nI_add i 2) (by omega) (by omega) ?_
            refine g_aload_n K dL_law_611 rfl ?_
            refine g_iload_n K dL_law_612 rfl ?_
            refine g_iconst K dL_law_613 kc_3 ?_
            refine g_iadd K dL_law_614 ?_
            refine g_sld (j := (i + 3)) K hX hbl hbl dL_law_615 (nI_add i 3) (by omega) (by omega) ?_
            refine g_aload_n K dL_law_616 rfl ?_
            refine g_iload_n K dL_law_617 rfl ?_
            refine g_iconst K dL_law_618 kc_4 ?_
            refine g_iadd K dL_law_619 ?_
            refine g_sld (j := (i + 4)) K hX hbl hbl dL_law_620 (nI_add i 4) (by omega) (by omega) ?_
            refine g_callVpi K (c_X7_tick hM1 hC.1.1) mw_X7_tick ml_L_87 dL_law_621 (by rfl) rfl rfl (by decide) (by simp [Value.category]) ⟨by decide, by decide⟩ ⟨by decide, by decide⟩ (fun r621 S621 h621 => ?_)
            obtain ⟨hr2, hM2, hf2⟩ := h621
            have hC2 := hC1.low hf2
            refine g_icmp_eq (tgt := 847) K dL_law_624 (by decide) (fun u624 => ?_) (fun u624 => absurd (hr1.trans hr2.symm) u624)
            refine g_iinc (ls2 := [_, _, _, some (.int _), _, _, _, _]) K dL_law_847 rfl kc_5 rfl ?_
            refine g_goto (tgt := 18) K dL_law_850 (by decide) ?_
            rw [show nI i + (5 : Int32) = nI (i + 5) from nI_add i 5]
            first
              | exact ih (i + 5) _ _ _ (by omega) (by omega) hC2 hM2
              | exact absurd u292 u265
              | exact absurd u265 u292
          · refine g_tin (off := 597) (tgt := 629) K dL_law_32 (by rw [hsw2]; decide) (by rw [hsw2]; decide) (by rw [hsw2]; rfl) (by decide) ?_
            refine g_aload_n K dL_law_629 rfl ?_
            refine g_aload_n K dL_law_630 rfl ?_
            refine g_iload_n K dL_law_631 rfl ?_
            refine g_iconst K dL_law_632 kc_1 ?_
            refine g_iadd K dL_law_633 ?_
            refine g_sld (j := (i + 1)) K hX hbl hbl dL_law_634 (nI_add i 1) (by omega) (by omega) ?_
            refine g_aload_n K dL_law_635 rfl ?_
            refine g_iload_n K dL_law_636 rfl ?_
            refine g_iconst K dL_law_637 kc_2 ?_
            refine g_iadd K dL_law_638 ?_
            refine g_sld (j := (i + 2)) K hX hbl hbl dL_law_639 (nI_add i 2) (by omega) (by omega) ?_
            refine g_aload_n K dL_law_640 rfl ?_
            refine g_iload_n K dL_law_641 rfl ?_
            refine g_iconst K dL_law_642 kc_3 ?_
            refine g_iadd K dL_law_643 ?_
            refine g_sld (j := (i + 3)) K hX hbl hbl dL_law_644 (nI_add i 3) (by omega) (by omega) ?_
            refine g_callVpi K (c_X6_runOf hC) mw_X6_runOf ml_L_88 dL_law_645 (by rfl) rfl rfl (by decide) (by simp [Value.category]) ⟨by decide, by decide⟩ ⟨by decide, by decide⟩ (fun r645 S645 h645 => ?_)
            obtain ⟨hr1, ⟨nC, hC1⟩, hf1⟩ := h645
            have hM1 := hM.high hf1
            refine g_aload_n K dL_law_648 rfl ?_
            refine g_aload_n K dL_law_649 rfl ?_
            refine g_iload_n K dL_law_650 rfl ?_
            refine g_iconst K dL_law_651 kc_1 ?_
            refine g_iadd K dL_law_652 ?_
            refine g_sld (j := (i + 1)) K hX hbl hbl dL_law_653 (nI_add i 1) (by omega) (by omega) ?_
            refine g_aload_n K dL_law_654 rfl ?_
            refine g_iload_n K dL_law_655 rfl ?_
            refine g_iconst K dL_law_656 kc_2 ?_
            refine g_iadd K dL_law_657 ?_
            refine g_sld (j := (i + 2)) K hX hbl hbl dL_law_658 (nI_add i 2) (by omega) (by omega) ?_
            refine g_aload_n K dL_law_659 rfl ?_
            refine g_iload_n K dL_law_660 rfl ?_
            refine g_iconst K dL_law_661 kc_3 ?_
            refine g_iadd K dL_law_662 ?_
            refine g_sld (j := (i + 3)) K hX hbl hbl dL_law_663 (nI_add i 3) (by omega) (by omega) ?_
            refine g_callVpi K (c_X7_runOf hM1 hC.1.1) mw_X7_runOf ml_L_91 dL_law_664 (by rfl) rfl rfl (by decide) (by simp [Value.category]) ⟨by decide, by decide⟩ ⟨by decide, by decide⟩ (fun r664 S664 h664 => ?_)
            obtain ⟨hr2, hM2, hf2⟩ := h664
            have hC2 := hC1.low hf2
            refine g_icmp_eq (tgt := 847) K dL_law_667 (by decide) (fun u667 => ?_) (fun u667 => absurd (hr1.trans hr2.symm) u667)
            refine g_iinc (ls2 := [_, _, _, some (.int _), _, _, _, _]) K dL_law_847 rfl kc_5 rfl ?_
            refine g_goto (tgt := 18) K dL_law_850 (by decide) ?_
            rw [show nI i + (5 : Int32) = nI (i + 5) from nI_add i 5]
            first
              | exact ih (i + 5) _ _ _ (by omega) (by omega) hC2 hM2
              | exact absurd u292 u265
              | exact absurd u265 u292
          · refine g_tin (off := 640) (tgt := 672) K dL_law_32 (by rw [hsw2]; decide) (by rw [hsw2]; decide) (by rw [hsw2]; rfl) (by decide) ?_
            refine g_aload_n K dL_law_672 rfl ?_
            refine g_aload_n K dL_law_673 rfl ?_
            refine g_iload_n K dL_law_674 rfl ?_
            refine g_iconst K dL_law_675 kc_1 ?_
            refine g_iadd K dL_law_676 ?_
            refine g_sld (j := (i + 1)) K hX hbl hbl dL_law_677 (nI_add i 1) (by omega) (by omega) ?_
            refine g_callVpi K (c_X6_count hC) mw_X6_count ml_L_92 dL_law_678 (by rfl) rfl rfl (by decide) (by simp [Value.category]) ⟨by decide, by decide⟩ ⟨by decide, by decide⟩ (fun r678 S678 h678 => ?_)
            obtain ⟨hr1, ⟨nC, hC1⟩, hf1⟩ := h678
            have hM1 := hM.high hf1
            refine g_aload_n K dL_law_681 rfl ?_
            refine g_aload_n K dL_law_682 rfl ?_
            refine g_iload_n K dL_law_683 rfl ?_
            refine g_iconst K dL_law_684 kc_1 ?_
            refine g_iadd K dL_law_685 ?_
            refine g_sld (j := (i + 1)) K hX hbl hbl dL_law_686 (nI_add i 1) (by omega) (by omega) ?_
            refine g_callVi K (c_X7_count hM1 hC.1.1) mw_X7_count ml_L_95 dL_law_687 (by rfl) rfl rfl (by decide) (by simp [Value.category]) ⟨by decide, by decide⟩ ⟨by decide, by decide⟩ ?_
            have hM2 := hM1
            have hC2 := hC1
            refine g_icmp_eq (tgt := 847) K dL_law_690 (by decide) (fun u690 => ?_) (fun u690 => absurd hr1 u690)
            refine g_iinc (ls2 := [_, _, _, some (.int _), _, _, _, _]) K dL_law_847 rfl kc_5 rfl ?_
            refine g_goto (tgt := 18) K dL_law_850 (by decide) ?_
            rw [show nI i + (5 : Int32) = nI (i + 5) from nI_add i 5]
            first
              | exact ih (i + 5) _ _ _ (by omega) (by omega) hC2 hM2
              | exact absurd u292 u265
              | exact absurd u265 u292
          · refine g_tin (off := 663) (tgt := 695) K dL_law_32 (by rw [hsw2]; decide) (by rw [hsw2]; decide) (by rw [hsw2]; rfl) (by decide) ?_
            refine law_off K hX hbl hL hi5 hC hM (fun n2 S2 hC2 hM2 => ?_)
            refine g_goto (tgt := 847) K dL_law_755 (by decide) ?_
            refine g_iinc (ls2 := [_, _, _, some (.int _), _, _, _, _]) K dL_law_847 rfl kc_5 rfl ?_
            refine g_goto (tgt := 18) K dL_law_850 (by decide) ?_
            rw [show nI i + (5 : Int32) = nI (i + 5) from nI_add i 5]
            exact ih (i + 5) n2 A S2 (by omega) (by omega) hC2 hM2
          · refine g_tin (off := 726) (tgt := 758) K dL_law_32 (by rw [hsw2]; decide) (by rw [hsw2]; decide) (by rw [hsw2]; rfl) (by decide) ?_
            refine g_aload_n K dL_law_758 rfl ?_
            refine g_aload_n K dL_law_759 rfl ?_
            refine g_iload_n K dL_law_760 rfl ?_
            refine g_iconst K dL_law_761 kc_1 ?_
            refine g_iadd K dL_law_762 ?_
            refine g_sld (j := (i + 1)) K hX hbl hbl dL_law_763 (nI_add i 1) (by omega) (by omega) ?_
            refine g_callVpi K (c_X6_fastest hC) mw_X6_fastest ml_L_101 dL_law_764 (by rfl) rfl rfl (by decide) (by simp [Value.category]) ⟨by decide, by decide⟩ ⟨by decide, by decide⟩ (fun r764 S764 h764 => ?_)
            obtain ⟨hr1, ⟨nC, hC1⟩, hf1⟩ := h764
            have hM1 := hM.high hf1
            refine g_aload_n K dL_law_767 rfl ?_
            refine g_aload_n K dL_law_768 rfl ?_
            refine g_iload_n K dL_law_769 rfl ?_
            refine g_iconst K dL_law_770 kc_1 ?_
            refine g_iadd K dL_law_771 ?_
            refine g_sld (j := (i + 1)) K hX hbl hbl dL_law_772 (nI_add i 1) (by omega) (by omega) ?_
            refine g_callVpi K (c_X7_fastest hM1 hC.1.1) mw_X7_fastest ml_L_104 dL_law_773 (by rfl) rfl rfl (by decide) (by simp [Value.category]) ⟨by decide, by decide⟩ ⟨by decide, by decide⟩ (fun r773 S773 h773 => ?_)
            obtain ⟨hr2, hM2, hf2⟩ := h773
            have hC2 := hC1.low hf2
            refine g_icmp_eq (tgt := 847) K dL_law_776 (by decide) (fun u776 => ?_) (fun u776 => absurd (hr1.trans hr2.symm) u776)
            refine g_iinc (ls2 := [_, _, _, some (.int _), _, _, _, _]) K dL_law_847 rfl kc_5 rfl ?_
            refine g_goto (tgt := 18) K dL_law_850 (by decide) ?_
            rw [show nI i + (5 : Int32) = nI (i + 5) from nI_add i 5]
            first
              | exact ih (i + 5) _ _ _ (by omega) (by omega) hC2 hM2
              | exact absurd u292 u265
              | exact absurd u265 u292
          · refine g_tin (off := 749) (tgt := 781) K dL_law_32 (by rw [hsw2]; decide) (by rw [hsw2]; decide) (by rw [hsw2]; rfl) (by decide) ?_
            refine g_aload_n K dL_law_781 rfl ?_
            refine g_aload_n K dL_law_782 rfl ?_
            refine g_iload_n K dL_law_783 rfl ?_
            refine g_iconst K dL_law_784 kc_1 ?_
            refine g_iadd K dL_law_785 ?_
            refine g_sld (j := (i + 1)) K hX hbl hbl dL_law_786 (nI_add i 1) (by omega) (by omega) ?_
            refine g_aload_n K dL_law_787 rfl ?_
            refine g_iload_n K dL_law_788 rfl ?_
            refine g_iconst K dL_law_789 kc_2 ?_
            refine g_iadd K dL_law_790 ?_
            refine g_sld (j := (i + 2)) K hX hbl hbl dL_law_791 (nI_add i 2) (by omega) (by omega) ?_
            refine g_callVpi K (c_X6_leastWindow hC) mw_X6_leastWindow ml_L_105 dL_law_792 (by rfl) rfl rfl (by decide) (by simp [Value.category]) ⟨by decide, by decide⟩ ⟨by decide, by decide⟩ (fun r792 S792 h792 => ?_)
            obtain ⟨hr1, ⟨nC, hC1⟩, hf1⟩ := h792
            have hM1 := hM.high hf1
            refine g_aload_n K dL_law_795 rfl ?_
            refine g_aload_n K dL_law_796 rfl ?_
            refine g_iload_n K dL_law_797 rfl ?_
            refine g_iconst K dL_law_798 kc_1 ?_
            refine g_iadd K dL_law_799 ?_
            refine g_sld (j := (i + 1)) K hX hbl hbl dL_law_800 (nI_add i 1) (by omega) (by omega) ?_
            refine g_aload_n K dL_law_801 rfl ?_
            refine g_iload_n K dL_law_802 rfl ?_
            refine g_iconst K dL_law_803 kc_2 ?_
            refine g_iadd K dL_law_804 ?_
            refine g_sld (j := (i + 2)) K hX hbl hbl dL_law_805 (nI_add i 2) (by omega) (by omega) ?_
            refine g_callVpi K (c_X7_leastWindow hM1 hC.1.1) mw_X7_leastWindow ml_L_108 dL_law_806 (by rfl) rfl rfl (by decide) (by simp [Value.category]) ⟨by decide, by decide⟩ ⟨by decide, by decide⟩ (fun r806 S806 h806 => ?_)
            obtain ⟨hr2, hM2, hf2⟩ := h806
            have hC2 := hC1.low hf2
            refine g_icmp_eq (tgt := 847) K dL_law_809 (by decide) (fun u809 => ?_) (fun u809 => absurd (hr1.trans hr2.symm) u809)
            refine g_iinc (ls2 := [_, _, _, some (.int _), _, _, _, _]) K dL_law_847 rfl kc_5 rfl ?_
            refine g_goto (tgt := 18) K dL_law_850 (by decide) ?_
            rw [show nI i + (5 : Int32) = nI (i + 5) from nI_add i 5]
            first
              | exact ih (i + 5) _ _ _ (by omega) (by omega) hC2 hM2
              | exact absurd u292 u265
              | exact absurd u265 u292
          · refine g_tin (off := 782) (tgt := 814) K dL_law_32 (by rw [hsw2]; decide) (by rw [hsw2]; decide) (by rw [hsw2]; rfl) (by decide) ?_
            refine g_aload_n K dL_law_814 rfl ?_
            refine g_aload_n K dL_law_815 rfl ?_
            refine g_iload_n K dL_law_816 rfl ?_
            refine g_iconst K dL_law_817 kc_1 ?_
            refine g_iadd K dL_law_818 ?_
            refine g_sld (j := (i + 1)) K hX hbl hbl dL_law_819 (nI_add i 1) (by omega) (by omega) ?_
            refine g_aload_n K dL_law_820 rfl ?_
            refine g_iload_n K dL_law_821 rfl ?_
            refine g_iconst K dL_law_822 kc_2 ?_
            refine g_iadd K dL_law_823 ?_
            refine g_sld (j := (i + 2)) K hX hbl hbl dL_law_824 (nI_add i 2) (by omega) (by omega) ?_
            refine g_callVpi K (c_X6_shortestPlate hC) mw_X6_shortestPlate ml_L_109 dL_law_825 (by rfl) rfl rfl (by decide) (by simp [Value.category]) ⟨by decide, by decide⟩ ⟨by decide, by decide⟩ (fun r825 S825 h825 => ?_)
            obtain ⟨hr1, ⟨nC, hC1⟩, hf1⟩ := h825
            have hM1 := hM.high hf1
            refine g_aload_n K dL_law_828 rfl ?_
            refine g_aload_n K dL_law_829 rfl ?_
            refine g_iload_n K dL_law_830 rfl ?_
            refine g_iconst K dL_law_831 kc_1 ?_
            refine g_iadd K dL_law_832 ?_
            refine g_sld (j := (i + 1)) K hX hbl hbl dL_law_833 (nI_add i 1) (by omega) (by omega) ?_
            refine g_aload_n K dL_law_834 rfl ?_
            refine g_iload_n K dL_law_835 rfl ?_
            refine g_iconst K dL_law_836 kc_2 ?_
            refine g_iadd K dL_law_837 ?_
            refine g_sld (j := (i + 2)) K hX hbl hbl dL_law_838 (nI_add i 2) (by omega) (by omega) ?_
            refine g_callVpi K (c_X7_shortestPlate hM1 hC.1.1) mw_X7_shortestPlate ml_L_112 dL_law_839 (by rfl) rfl rfl (by decide) (by simp [Value.category]) ⟨by decide, by decide⟩ ⟨by decide, by decide⟩ (fun r839 S839 h839 => ?_)
            obtain ⟨hr2, hM2, hf2⟩ := h839
            have hC2 := hC1.low hf2
            refine g_icmp_eq (tgt := 847) K dL_law_842 (by decide) (fun u842 => ?_) (fun u842 => absurd (hr1.trans hr2.symm) u842)
            refine g_iinc (ls2 := [_, _, _, some (.int _), _, _, _, _]) K dL_law_847 rfl kc_5 rfl ?_
            refine g_goto (tgt := 18) K dL_law_850 (by decide) ?_
            rw [show nI i + (5 : Int32) = nI (i + 5) from nI_add i 5]
            first
              | exact ih (i + 5) _ _ _ (by omega) (by omega) hC2 hM2
              | exact absurd u292 u265
              | exact absurd u265 u292
  exact lp
