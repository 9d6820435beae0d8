theorem num_bad {f : Nat → Int32} {n q p4 lo hi x2 : Nat} {r : Int32} {t : Nat × Nat × Nat × List (Nat × Nat)} {R : Nat ⊕ List (Nat × Nat)} {P : Prop} (h : (r = -5 ∧ ∀ t : Nat × Nat × Nat × List (Nat × Nat), (if t.1 = 1 then lo = 2 ∧ hi = 40 else lo = 1 ∧ hi = 200) → prun f (n - q) q (0, t) = .inl p4) ∨ (r = nI x2 ∧ q + 1 ≤ p4 ∧ lo ≤ x2 ∧ x2 ≤ hi ∧ P)) (hh : hi ≤ 200) (ht : if t.1 = 1 then lo = 2 ∧ hi = 40 else lo = 1 ∧ hi = 200) (e : R = prun f (n - q) q (0, t)) (hr : r = -5) : R = .inl p4 := by
  rcases h with ⟨_, h⟩ | ⟨h, _, _, h2, _⟩
  · exact e.trans (h t ht)
  · exfalso
    have g := nI_pos' (n := x2) (by omega)
    rw [← h, hr] at g
    exact absurd g (by decide)
set_option maxHeartbeats 4000000 in
set_option maxRecDepth 100000 in
theorem c_X7_readCart {l : Launch} {b : Nat} {D : va_G} {cA : Nat → ClassId} {ad : Nat → Nat} {S : ST} {f : Nat → Int32} {n pos m : Nat} {its : List (Nat × Nat)} (hX : TX S f n pos) (hm : S 181 22 = nI m) (hmp : 2 * m ≤ pos) (hT : TL (S 193) its) (hc : cntI its = m) (h5 : trI its 0 ≤ 5) : MT l b D cA NN ad zT yX7_readCart cX7_readCart 5 (some .boolean) 3 [.ref (ad 181)] S (RI (fun r S2 => ∃ p S1, S2 = stw S1 181 22 (nI (m + 1)) ∧ TX S1 f n p ∧ RdF S S1 ∧ RdE S1 f n pos m its p r)) := by
  have hn60 := hX.2.2.2.1
  have hpn0 := hX.2.1
  have hm30 : m ≤ 30 := by omega
  refine MT.intro (j := 4) (ls := [some (.ref (ad 181)), none, none, none, none]) pn_X7 rfl rfl rfl (fun pr en s0 mi below meth c' K _ => ?_)
  have lp : ∀ (fuel : Nat) (p : Nat) (y : Int32) (S1 : ST), (n + 1 ≤ p + fuel) → (TX S1 f n p) → (RdF S S1) → (RdI S1 f n pos m its p y) → G pr l en (rmd 3) s0 mi (List.toArray [.ref (ad 181)]) below meth c' (MQ below (QQ b D cA NN ad zT (RI (fun r S2 => ∃ p S1, S2 = stw S1 181 22 (nI (m + 1)) ∧ TX S1 f n p ∧ RdF S S1 ∧ RdE S1 f n pos m its p r))) (List.toArray [.ref (ad 181)]) s0 0 0 (aF b)) b D cA 5 NN ad zT 0 0 45 [some (.ref (ad 181)), some (.int (nI (11 * m))), none, some (.int y), none] [] S1 := by
    intro fuel
    induction fuel with
    | zero =>
      intro p  y  S1  hif hX1 hF hI
      exact absurd hif (by have := hX1.2.1; omega)
    | succ fuel ih =>
      intro p  y  S1  hif hX1 hF hI
      have hpn := hX1.2.1
      refine g_iload_n K dX7_readCart_45 rfl ?_
      refine g_if_eq (tgt := 200) K dX7_readCart_46 (by decide) (fun u46 => ?_) (fun u46 => ?_)
      · refine g_aload_n K dX7_readCart_200 rfl ?_
        refine g_dup K dX7_readCart_201 rfl ?_
        refine g_geti K lk_X7_166 dX7_readCart_202 rfl (rfl : kd 181 = 7) (by decide) (by decide) ((hF.2 22 (by decide)).trans hm) ?_
        refine g_iconst K dX7_readCart_205 kc_1 ?_
        refine g_iadd K dX7_readCart_206 ?_
        rw [nI_1]
        refine g_puti K lk_X7_166 lq_X7_22 dX7_readCart_207 (put_i _) rfl (rfl : kd 181 = 7) (by decide) (by decide) ?_
        refine g_iload_n K dX7_readCart_210 rfl ?_
        refine g_zret K dX7_readCart_211 (hI.elim (fun q => Or.inl q.1) (fun q => Or.inr q.1)) ⟨_, rfl, ?_⟩
        refine ⟨p, S1, rfl, hX1, hF, RdI.stop hI hpn (fun x2 d2 its3 hc2 hT2 hy2 => ?_)⟩
        first
          | (rw [u46] at hy2; exact absurd hy2 (by decide))
          | exact fun k => hpl ⟨k.1, k.2.1⟩
          | (intro k
             have g := hT2.2.2 (by omega)
             rw [hc2, Nat.add_sub_cancel, hcnt, ha5, nI_eq (by decide) (by omega)] at g
             omega)
      · obtain ⟨hy, x, d, its2, g1, g2, g3, g4, g5, g6, g7⟩ := hI.resolve_left (fun q => u46 q.1)
        obtain ⟨a, ha⟩ : ∃ a, trI (its2 ++ [(d, x)]) 0 = a := ⟨_, rfl⟩
        rw [ha] at g6 g7
        have hcnt : S1 193 (11 * m) = nI a := by
          have g := g1.2.2 (by omega)
          rw [g2, ha, Nat.add_sub_cancel] at g
          exact g
        have hix1 : nI (11 * m) + 1 + 2 * nI a = nI (11 * m + 1 + 2 * a) := by rw [nI_1, show (2 : Int32) = nI 2 from rfl, pk_mul, nI_add]
        have hix2 : nI (11 * m) + 2 + 2 * nI a = nI (11 * m + 2 + 2 * a) := by rw [show nI (11 * m) + (2 : Int32) = nI (11 * m + 2) from nI_add _ 2, show (2 : Int32) = nI 2 from rfl, pk_mul, nI_add]
        refine g_aload_n K dX7_readCart_49 rfl ?_
        refine g_getr (j := 193) K lk_X7_43 dX7_readCart_50 rfl (by decide) (rfl : kd 181 = 7) (by decide) (by decide) rfl (rfl : rs 181 21 = 193) ?_
        refine g_iload_n K dX7_readCart_53 rfl ?_
        refine g_iald (j := (11 * m)) K dX7_readCart_54 rfl ln_193 (by omega) (rfl : kd 193 = 8) (by decide) hcnt ?_
        refine g_iconst K dX7_readCart_55 kc_5 ?_
        refine g_icmp_ge (tgt := 200) K dX7_readCart_56 (by decide) (fun u56 => ?_) (fun u56 => ?_)
        · have ha5 : a = 5 := by
            rw [show (5 : Int32) = nI 5 from rfl, nI_leI (by omega) (by omega)] at u56
            omega
          refine g_aload_n K dX7_readCart_200 rfl ?_
          refine g_dup K dX7_readCart_201 rfl ?_
          refine g_geti K lk_X7_166 dX7_readCart_202 rfl (rfl : kd 181 = 7) (by decide) (by decide) ((hF.2 22 (by decide)).trans hm) ?_
          refine g_iconst K dX7_readCart_205 kc_1 ?_
          refine g_iadd K dX7_readCart_206 ?_
          rw [nI_1]
          refine g_puti K lk_X7_166 lq_X7_22 dX7_readCart_207 (put_i _) rfl (rfl : kd 181 = 7) (by decide) (by decide) ?_
          refine g_iload_n K dX7_readCart_210 rfl ?_
          refine g_zret K dX7_readCart_211 (hI.elim (fun q => Or.inl q.1) (fun q => Or.inr q.1)) ⟨_, rfl, ?_⟩
          refine ⟨p, S1, rfl, hX1, hF, RdI.stop hI hpn (fun x2 d2 its3 hc2 hT2 hy2 => ?_)⟩
          first
            | (rw [u46] at hy2; exact absurd hy2 (by decide))
            | exact fun k => hpl ⟨k.1, k.2.1⟩
            | (intro k
               have g := hT2.2.2 (by omega)
               rw [hc2, Nat.add_sub_cancel, hcnt, ha5, nI_eq (by decide) (by omega)] at g
               omega)
        · have ha5 : a < 5 := by
            rw [show (5 : Int32) = nI 5 from rfl, nI_leI (by omega) (by omega)] at u56
            omega
          refine g_aload_n K dX7_readCart_59 rfl ?_
          refine g_bipush K dX7_readCart_60 kb_43 ?_
          refine g_callVi K (c_X7_takes (x := 43) hX1) mw_X7_takes ml_X7_172 dX7_readCart_62 (by rfl) rfl rfl (by decide) (by simp [Value.category]) ⟨by decide, by decide⟩ ⟨by decide, by decide⟩ ?_
          refine g_if_eq (tgt := 200) K dX7_readCart_65 (by decide) (fun u65 => ?_) (fun u65 => ?_)
          · have hpl : ¬ (p < n ∧ f p = 43) := by grind
            rw [if_neg hpl, stw_id hX1.1]
            refine g_aload_n K dX7_readCart_200 rfl ?_
            refine g_dup K dX7_readCart_201 rfl ?_
            refine g_geti K lk_X7_166 dX7_readCart_202 rfl (rfl : kd 181 = 7) (by decide) (by decide) ((hF.2 22 (by decide)).trans hm) ?_
            refine g_iconst K dX7_readCart_205 kc_1 ?_
            refine g_iadd K dX7_readCart_206 ?_
            rw [nI_1]
            refine g_puti K lk_X7_166 lq_X7_22 dX7_readCart_207 (put_i _) rfl (rfl : kd 181 = 7) (by decide) (by decide) ?_
            refine g_iload_n K dX7_readCart_210 rfl ?_
            refine g_zret K dX7_readCart_211 (hI.elim (fun q => Or.inl q.1) (fun q => Or.inr q.1)) ⟨_, rfl, ?_⟩
            refine ⟨p, S1, rfl, hX1, hF, RdI.stop hI hpn (fun x2 d2 its3 hc2 hT2 hy2 => ?_)⟩
            first
              | (rw [u46] at hy2; exact absurd hy2 (by decide))
              | exact fun k => hpl ⟨k.1, k.2.1⟩
              | (intro k
                 have g := hT2.2.2 (by omega)
                 rw [hc2, Nat.add_sub_cancel, hcnt, ha5, nI_eq (by decide) (by omega)] at g
                 omega)
          · have hpl : p < n ∧ f p = 43 := by grind
            rw [if_pos hpl]
            have hXp := TX_mv hX1 (show p + 1 ≤ n by omega)
            have hpr43 := g7.trans ((prun_out g3 hpl.1 g5).trans (by rw [if_neg (by rw [hpl.2]; decide), if_pos ⟨hpl.2, ha5⟩] <;> rfl))
            refine g_aload_n K dX7_readCart_68 rfl ?_
            refine g_getr (j := 193) K lk_X7_43 dX7_readCart_69 rfl (by decide) (rfl : kd 181 = 7) (by decide) (by decide) rfl (rfl : rs 181 21 = 193) ?_
            refine g_iload_n K dX7_readCart_72 rfl ?_
            refine g_iald (j := (11 * m)) K dX7_readCart_73 rfl ln_193 (by omega) (rfl : kd 193 = 8) (by decide) (show stw S1 181 20 (nI (p + 1)) 193 (11 * m) = nI a by rw [stw_n (by decide)]; exact hcnt) ?_
            refine g_istore (ls2 := [_, _, _, _, some (.int _)]) K dX7_readCart_74 (by decide) rfl ?_
            refine g_aload_n K dX7_readCart_76 rfl ?_
            refine g_getr (j := 193) K lk_X7_43 dX7_readCart_77 rfl (by decide) (rfl : kd 181 = 7) (by decide) (by decide) rfl (rfl : rs 181 21 = 193) ?_
            refine g_iload_n K dX7_readCart_80 rfl ?_
            refine g_iconst K dX7_readCart_81 kc_1 ?_
            refine g_iadd K dX7_readCart_82 ?_
            refine g_iconst K dX7_readCart_83 kc_2 ?_
            refine g_iload K dX7_readCart_84 rfl ?_
            refine g_imul K dX7_readCart_86 ?_
            refine g_iadd K dX7_readCart_87 ?_
            rw [hix1]
            refine g_aload_n K dX7_readCart_88 rfl ?_
            refine g_iconst K dX7_readCart_89 kc_2 ?_
            refine g_bipush K dX7_readCart_90 kb_40 ?_
            refine g_callVpi K (c_X7_number (lo := 2) (hi := 40) hXp (by decide)) mw_X7_number ml_X7_169 dX7_readCart_92 (by rfl) rfl rfl (by decide) (by simp [Value.category]) ⟨by decide, by decide⟩ ⟨by decide, by decide⟩ (fun r92 S92 h92 => ?_)
            obtain ⟨x1, p3, hq1, hq2, hS3, hnum1⟩ := h92
            rw [stw_at] at hS3
            subst hS3
            have hX3 := TX_mv hX1 hq2
            refine g_iast (j := (11 * m + 1 + 2 * a)) K dX7_readCart_95 rfl ln_193 (by omega) (rfl : kd 193 = 8) (by decide) rfl ?_
            refine g_aload_n K dX7_readCart_96 rfl ?_
            refine g_getr (j := 193) K lk_X7_43 dX7_readCart_97 rfl (by decide) (rfl : kd 181 = 7) (by decide) (by decide) rfl (rfl : rs 181 21 = 193) ?_
            refine g_iload_n K dX7_readCart_100 rfl ?_
            refine g_iconst K dX7_readCart_101 kc_1 ?_
            refine g_iadd K dX7_readCart_102 ?_
            refine g_iconst K dX7_readCart_103 kc_2 ?_
            refine g_iload K dX7_readCart_104 rfl ?_
            refine g_imul K dX7_readCart_106 ?_
            refine g_iadd K dX7_readCart_107 ?_
            rw [hix1]
            refine g_iald (j := (11 * m + 1 + 2 * a)) K dX7_readCart_108 rfl ln_193 (by omega) (rfl : kd 193 = 8) (by decide) (show stw (stw S1 181 20 (nI p3)) 193 (11 * m + 1 + 2 * a) r92 193 (11 * m + 1 + 2 * a) = r92 by rw [stw_app, if_pos ⟨rfl, rfl⟩]) ?_
            refine g_bipush K dX7_readCart_109 kb_m5 ?_
            refine g_icmp_eq (tgt := 127) K dX7_readCart_111 (by decide) (fun u111 => ?_) (fun u111 => ?_)
            · have hbad : prun f (n - pos) pos (0, 0, 1, 0, its) = .inl p3 := by
                rcases hnum1 with ⟨hr, hpr⟩ | ⟨hr, hps, hlo, hhi, hnd, hpr⟩
                · exact hpr43.trans (hpr _ (by simp))
                · exfalso
                  have g := nI_pos' (n := x1) (by omega)
                  rw [hr] at u111
                  grind
              have hX4 := TX_w (k := 193) (i := 11 * m + 1 + 2 * a) (v := r92) hX3 (by decide) (by decide)
              refine g_iconst K dX7_readCart_127 kc_0 ?_
              refine g_istore_n (ls2 := [_, _, _, some (.int _), _]) K dX7_readCart_128 (by decide) rfl ?_
              refine g_aload_n K dX7_readCart_129 rfl ?_
              refine g_getr (j := 193) K lk_X7_43 dX7_readCart_130 rfl (by decide) (rfl : kd 181 = 7) (by decide) (by decide) rfl (rfl : rs 181 21 = 193) ?_
              refine g_iload_n K dX7_readCart_133 rfl ?_
              refine g_iconst K dX7_readCart_134 kc_2 ?_
              refine g_iadd K dX7_readCart_135 ?_
              refine g_iconst K dX7_readCart_136 kc_2 ?_
              refine g_iload K dX7_readCart_137 rfl ?_
              refine g_imul K dX7_readCart_139 ?_
              refine g_iadd K dX7_readCart_140 ?_
              rw [hix2]
              refine g_iload_n K dX7_readCart_141 rfl ?_
              refine g_if_eq (tgt := 156) K dX7_readCart_142 (by decide) (fun u142 => ?_) (fun u142 => ?_)
              · refine g_bipush K dX7_readCart_156 kb_m5 ?_
                refine g_iast (j := (11 * m + 2 + 2 * a)) K dX7_readCart_158 rfl ln_193 (by omega) (rfl : kd 193 = 8) (by decide) rfl ?_
                refine g_iload_n K dX7_readCart_159 rfl ?_
                refine g_if_eq (tgt := 185) K dX7_readCart_160 (by decide) (fun u160 => ?_) (fun u160 => ?_)
                · refine g_iconst K dX7_readCart_185 kc_0 ?_
                  refine g_istore_n (ls2 := [_, _, _, some (.int _), _]) K dX7_readCart_186 (by decide) rfl ?_
                  refine g_aload_n K dX7_readCart_187 rfl ?_
                  refine g_getr (j := 193) K lk_X7_43 dX7_readCart_188 rfl (by decide) (rfl : kd 181 = 7) (by decide) (by decide) rfl (rfl : rs 181 21 = 193) ?_
                  refine g_iload_n K dX7_readCart_191 rfl ?_
                  refine g_dup2 K dX7_readCart_192 rfl rfl ?_
                  refine g_iald (j := (11 * m)) K dX7_readCart_193 rfl ln_193 (by omega) (rfl : kd 193 = 8) (by decide) rfl ?_
                  refine g_iconst K dX7_readCart_194 kc_1 ?_
                  refine g_iadd K dX7_readCart_195 ?_
                  refine g_iast (j := (11 * m)) K dX7_readCart_196 rfl ln_193 (by omega) (rfl : kd 193 = 8) (by decide) rfl ?_
                  refine g_goto (tgt := 45) K dX7_readCart_197 (by decide) ?_
                  refine g_drop (ls2 := [_, _, _, _, none]) 4 rfl ?_
                  first
                    | exact absurd rfl u142
                    | exact absurd u142 (by decide)
                    | exact absurd rfl u160
                    | exact absurd u160 (by decide)
                    | exact ih p3 _ _ (by omega) (by
                        repeat (refine TX_w ?_ (by decide) (by decide))
                        assumption) (by
                        repeat (first | refine RdF_t ?_ | refine RdF_p ?_)
                        exact hF) (Or.inl ⟨rfl, hbad⟩)
                    | exact ih p4 _ _ (by omega) (by
                        repeat (refine TX_w ?_ (by decide) (by decide))
                        assumption) (by
                        repeat (first | refine RdF_t ?_ | refine RdF_p ?_)
                        exact hF) (Or.inl ⟨rfl, num_bad hnum2 (by decide) (by simp) hpr3 u178⟩)
                    | (refine ih p4 _ _ (by omega) (by
                         repeat (refine TX_w ?_ (by decide) (by decide))
                         assumption) (by
                         repeat (first | refine RdF_t ?_ | refine RdF_p ?_)
                         exact hF) (Or.inr ⟨rfl, x2, x1, its2 ++ [(d, x)], ?_⟩)
                       obtain ⟨hr2, hps2, hlo2, hhi2, hnd2, hpr2⟩ := hnum2.resolve_left (fun q => u178 q.1)
                       have hx10 : ¬ (x1, x2).1 = 0 := by
                         simp only
                         omega
                       refine ⟨(TL_axle g1 ⟨hlo2, hhi2⟩ ⟨hlo1, hhi1⟩ (by omega) (by rw [ha]; omega) ?_ ?_ ?_ ?_).1, ?_, ⟨hlo2, hhi2⟩, by omega, hnd2, ?_, ?_⟩
                       · rw [g2, ha, Nat.add_sub_cancel, stw_app, if_pos ⟨rfl, rfl⟩, stw_app, if_neg (by omega), stw_n (by decide), stw_n (by decide), stw_app, if_neg (by omega), stw_n (by decide), hcnt, nI_1]
                       · rw [g2, ha, Nat.add_sub_cancel, stw_app, if_neg (by omega), stw_app, if_neg (by omega), stw_n (by decide), stw_n (by decide), stw_app, if_pos ⟨rfl, rfl⟩, hr1]
                       · rw [g2, ha, Nat.add_sub_cancel, stw_app, if_neg (by omega), stw_app, if_pos ⟨rfl, rfl⟩, hr2]
                       · intro i hi1 hi2
                         rw [g2, Nat.add_sub_cancel] at hi1 hi2
                         rw [ha] at hi2
                         rw [stw_app, if_neg (by omega), stw_app, if_neg (by omega), stw_n (by decide), stw_n (by decide), stw_app, if_neg (by omega), stw_n (by decide)]
                       · rw [cntI_app, if_neg hx10, g2]
                       · rw [trI_app, if_neg hx10, ha]
                         omega
                       · rw [trI_app, if_neg hx10, ha]
                         exact hpr3.trans (hpr2 _ (by simp)))
                · refine g_aload_n K dX7_readCart_163 rfl ?_
                  refine g_getr (j := 193) K lk_X7_43 dX7_readCart_164 rfl (by decide) (rfl : kd 181 = 7) (by decide) (by decide) rfl (rfl : rs 181 21 = 193) ?_
                  refine g_iload_n K dX7_readCart_167 rfl ?_
                  refine g_iconst K dX7_readCart_168 kc_2 ?_
                  refine g_iadd K dX7_readCart_169 ?_
                  refine g_iconst K dX7_readCart_170 kc_2 ?_
                  refine g_iload K dX7_readCart_171 rfl ?_
                  refine g_imul K dX7_readCart_173 ?_
                  refine g_iadd K dX7_readCart_174 ?_
                  rw [hix2]
                  refine g_iald (j := (11 * m + 2 + 2 * a)) K dX7_readCart_175 rfl ln_193 (by omega) (rfl : kd 193 = 8) (by decide) rfl ?_
                  refine g_bipush K dX7_readCart_176 kb_m5 ?_
                  refine g_icmp_eq (tgt := 185) K dX7_readCart_178 (by decide) (fun u178 => ?_) (fun u178 => ?_)
                  · rw [stw_app, if_pos ⟨rfl, rfl⟩] at u178
                    refine g_iconst K dX7_readCart_185 kc_0 ?_
                    refine g_istore_n (ls2 := [_, _, _, some (.int _), _]) K dX7_readCart_186 (by decide) rfl ?_
                    refine g_aload_n K dX7_readCart_187 rfl ?_
                    refine g_getr (j := 193) K lk_X7_43 dX7_readCart_188 rfl (by decide) (rfl : kd 181 = 7) (by decide) (by decide) rfl (rfl : rs 181 21 = 193) ?_
                    refine g_iload_n K dX7_readCart_191 rfl ?_
                    refine g_dup2 K dX7_readCart_192 rfl rfl ?_
                    refine g_iald (j := (11 * m)) K dX7_readCart_193 rfl ln_193 (by omega) (rfl : kd 193 = 8) (by decide) rfl ?_
                    refine g_iconst K dX7_readCart_194 kc_1 ?_
                    refine g_iadd K dX7_readCart_195 ?_
                    refine g_iast (j := (11 * m)) K dX7_readCart_196 rfl ln_193 (by omega) (rfl : kd 193 = 8) (by decide) rfl ?_
                    refine g_goto (tgt := 45) K dX7_readCart_197 (by decide) ?_
                    refine g_drop (ls2 := [_, _, _, _, none]) 4 rfl ?_
                    first
                      | exact absurd rfl u142
                      | exact absurd u142 (by decide)
                      | exact absurd rfl u160
                      | exact absurd u160 (by decide)
                      | exact ih p3 _ _ (by omega) (by
                          repeat (refine TX_w ?_ (by decide) (by decide))
                          assumption) (by
                          repeat (first | refine RdF_t ?_ | refine RdF_p ?_)
                          exact hF) (Or.inl ⟨rfl, hbad⟩)
                      | exact ih p4 _ _ (by omega) (by
                          repeat (refine TX_w ?_ (by decide) (by decide))
                          assumption) (by
                          repeat (first | refine RdF_t ?_ | refine RdF_p ?_)
                          exact hF) (Or.inl ⟨rfl, num_bad hnum2 (by decide) (by simp) hpr3 u178⟩)
                      | (refine ih p4 _ _ (by omega) (by
                           repeat (refine TX_w ?_ (by decide) (by decide))
                           assumption) (by
                           repeat (first | refine RdF_t ?_ | refine RdF_p ?_)
                           exact hF) (Or.inr ⟨rfl, x2, x1, its2 ++ [(d, x)], ?_⟩)
                         obtain ⟨hr2, hps2, hlo2, hhi2, hnd2, hpr2⟩ := hnum2.resolve_left (fun q => u178 q.1)
                         have hx10 : ¬ (x1, x2).1 = 0 := by
                           simp only
                           omega
                         refine ⟨(TL_axle g1 ⟨hlo2, hhi2⟩ ⟨hlo1, hhi1⟩ (by omega) (by rw [ha]; omega) ?_ ?_ ?_ ?_).1, ?_, ⟨hlo2, hhi2⟩, by omega, hnd2, ?_, ?_⟩
                         · rw [g2, ha, Nat.add_sub_cancel, stw_app, if_pos ⟨rfl, rfl⟩, stw_app, if_neg (by omega), stw_n (by decide), stw_n (by decide), stw_app, if_neg (by omega), stw_n (by decide), hcnt, nI_1]
                         · rw [g2, ha, Nat.add_sub_cancel, stw_app, if_neg (by omega), stw_app, if_neg (by omega), stw_n (by decide), stw_n (by decide), stw_app, if_pos ⟨rfl, rfl⟩, hr1]
                         · rw [g2, ha, Nat.add_sub_cancel, stw_app, if_neg (by omega), stw_app, if_pos ⟨rfl, rfl⟩, hr2]
                         · intro i hi1 hi2
                           rw [g2, Nat.add_sub_cancel] at hi1 hi2
                           rw [ha] at hi2
                           rw [stw_app, if_neg (by omega), stw_app, if_neg (by omega), stw_n (by decide), stw_n (by decide), stw_app, if_neg (by omega), stw_n (by decide)]
                         · rw [cntI_app, if_neg hx10, g2]
                         · rw [trI_app, if_neg hx10, ha]
                           omega
                         · rw [trI_app, if_neg hx10, ha]
                           exact hpr3.trans (hpr2 _ (by simp)))
                  · rw [stw_app, if_pos ⟨rfl, rfl⟩] at u178
                    refine g_iconst K dX7_readCart_181 kc_1 ?_
                    refine g_goto (tgt := 186) K dX7_readCart_182 (by decide) ?_
                    refine g_istore_n (ls2 := [_, _, _, some (.int _), _]) K dX7_readCart_186 (by decide) rfl ?_
                    refine g_aload_n K dX7_readCart_187 rfl ?_
                    refine g_getr (j := 193) K lk_X7_43 dX7_readCart_188 rfl (by decide) (rfl : kd 181 = 7) (by decide) (by decide) rfl (rfl : rs 181 21 = 193) ?_
                    refine g_iload_n K dX7_readCart_191 rfl ?_
                    refine g_dup2 K dX7_readCart_192 rfl rfl ?_
                    refine g_iald (j := (11 * m)) K dX7_readCart_193 rfl ln_193 (by omega) (rfl : kd 193 = 8) (by decide) rfl ?_
                    refine g_iconst K dX7_readCart_194 kc_1 ?_
                    refine g_iadd K dX7_readCart_195 ?_
                    refine g_iast (j := (11 * m)) K dX7_readCart_196 rfl ln_193 (by omega) (rfl : kd 193 = 8) (by decide) rfl ?_
                    refine g_goto (tgt := 45) K dX7_readCart_197 (by decide) ?_
                    refine g_drop (ls2 := [_, _, _, _, none]) 4 rfl ?_
                    first
                      | exact absurd rfl u142
                      | exact absurd u142 (by decide)
                      | exact absurd rfl u160
                      | exact absurd u160 (by decide)
                      | exact ih p3 _ _ (by omega) (by
                          repeat (refine TX_w ?_ (by decide) (by decide))
                          assumption) (by
                          repeat (first | refine RdF_t ?_ | refine RdF_p ?_)
                          exact hF) (Or.inl ⟨rfl, hbad⟩)
                      | exact ih p4 _ _ (by omega) (by
                          repeat (refine TX_w ?_ (by decide) (by decide))
                          assumption) (by
                          repeat (first | refine RdF_t ?_ | refine RdF_p ?_)
                          exact hF) (Or.inl ⟨rfl, num_bad hnum2 (by decide) (by simp) hpr3 u178⟩)
                      | (refine ih p4 _ _ (by omega) (by
                           repeat (refine TX_w ?_ (by decide) (by decide))
                           assumption) (by
                           repeat (first | refine RdF_t ?_ | refine RdF_p ?_)
                           exact hF) (Or.inr ⟨rfl, x2, x1, its2 ++ [(d, x)], ?_⟩)
                         obtain ⟨hr2, hps2, hlo2, hhi2, hnd2, hpr2⟩ := hnum2.resolve_left (fun q => u178 q.1)
                         have hx10 : ¬ (x1, x2).1 = 0 := by
                           simp only
                           omega
                         refine ⟨(TL_axle g1 ⟨hlo2, hhi2⟩ ⟨hlo1, hhi1⟩ (by omega) (by rw [ha]; omega) ?_ ?_ ?_ ?_).1, ?_, ⟨hlo2, hhi2⟩, by omega, hnd2, ?_, ?_⟩
                         · rw [g2, ha, Nat.add_sub_cancel, stw_app, if_pos ⟨rfl, rfl⟩, stw_app, if_neg (by omega), stw_n (by decide), stw_n (by decide), stw_app, if_neg (by omega), stw_n (by decide), hcnt, nI_1]
                         · rw [g2, ha, Nat.add_sub_cancel, stw_app, if_neg (by omega), stw_app, if_neg (by omega), stw_n (by decide), stw_n (by decide), stw_app, if_pos ⟨rfl, rfl⟩, hr1]
                         · rw [g2, ha, Nat.add_sub_cancel, stw_app, if_neg (by omega), stw_app, if_pos ⟨rfl, rfl⟩, hr2]
                         · intro i hi1 hi2
                           rw [g2, Nat.add_sub_cancel] at hi1 hi2
                           rw [ha] at hi2
                           rw [stw_app, if_neg (by omega), stw_app, if_neg (by omega), stw_n (by decide), stw_n (by decide), stw_app, if_neg (by omega), stw_n (by decide)]
                         · rw [cntI_app, if_neg hx10, g2]
                         · rw [trI_app, if_neg hx10, ha]
                           omega
                         · rw [trI_app, if_neg hx10, ha]
                           exact hpr3.trans (hpr2 _ (by simp)))
              · refine g_aload_n K dX7_readCart_145 rfl ?_
                refine g_iconst K dX7_readCart_146 kc_1 ?_
                refine g_sipush K dX7_readCart_147 kp_200 ?_
                refine g_callVpi K (c_X7_number (lo := 1) (hi := 200) hX4 (by decide)) mw_X7_number ml_X7_169 dX7_readCart_150 (by rfl) rfl rfl (by decide) (by simp [Value.category]) ⟨by decide, by decide⟩ ⟨by decide, by decide⟩ (fun r150 S150 h150 => ?_)
                obtain ⟨x2, p4, hq3, hq4, hS4, hnum2⟩ := h150
                subst hS4
                have hX5 := TX_mv hX4 hq4
                refine g_goto (tgt := 158) K dX7_readCart_153 (by decide) ?_
                refine g_iast (j := (11 * m + 2 + 2 * a)) K dX7_readCart_158 rfl ln_193 (by omega) (rfl : kd 193 = 8) (by decide) rfl ?_
                refine g_iload_n K dX7_readCart_159 rfl ?_
                refine g_if_eq (tgt := 185) K dX7_readCart_160 (by decide) (fun u160 => ?_) (fun u160 => ?_)
                · refine g_iconst K dX7_readCart_185 kc_0 ?_
                  refine g_istore_n (ls2 := [_, _, _, some (.int _), _]) K dX7_readCart_186 (by decide) rfl ?_
                  refine g_aload_n K dX7_readCart_187 rfl ?_
                  refine g_getr (j := 193) K lk_X7_43 dX7_readCart_188 rfl (by decide) (rfl : kd 181 = 7) (by decide) (by decide) rfl (rfl : rs 181 21 = 193) ?_
                  refine g_iload_n K dX7_readCart_191 rfl ?_
                  refine g_dup2 K dX7_readCart_192 rfl rfl ?_
                  refine g_iald (j := (11 * m)) K dX7_readCart_193 rfl ln_193 (by omega) (rfl : kd 193 = 8) (by decide) rfl ?_
                  refine g_iconst K dX7_readCart_194 kc_1 ?_
                  refine g_iadd K dX7_readCart_195 ?_
                  refine g_iast (j := (11 * m)) K dX7_readCart_196 rfl ln_193 (by omega) (rfl : kd 193 = 8) (by decide) rfl ?_
                  refine g_goto (tgt := 45) K dX7_readCart_197 (by decide) ?_
                  refine g_drop (ls2 := [_, _, _, _, none]) 4 rfl ?_
                  first
                    | exact absurd rfl u142
                    | exact absurd u142 (by decide)
                    | exact absurd rfl u160
                    | exact absurd u160 (by decide)
                    | exact ih p3 _ _ (by omega) (by
                        repeat (refine TX_w ?_ (by decide) (by decide))
                        assumption) (by
                        repeat (first | refine RdF_t ?_ | refine RdF_p ?_)
                        exact hF) (Or.inl ⟨rfl, hbad⟩)
                    | exact ih p4 _ _ (by omega) (by
                        repeat (refine TX_w ?_ (by decide) (by decide))
                        assumption) (by
                        repeat (first | refine RdF_t ?_ | refine RdF_p ?_)
                        exact hF) (Or.inl ⟨rfl, num_bad hnum2 (by decide) (by simp) hpr3 u178⟩)
                    | (refine ih p4 _ _ (by omega) (by
                         repeat (refine TX_w ?_ (by decide) (by decide))
                         assumption) (by
                         repeat (first | refine RdF_t ?_ | refine RdF_p ?_)
                         exact hF) (Or.inr ⟨rfl, x2, x1, its2 ++ [(d, x)], ?_⟩)
                       obtain ⟨hr2, hps2, hlo2, hhi2, hnd2, hpr2⟩ := hnum2.resolve_left (fun q => u178 q.1)
                       have hx10 : ¬ (x1, x2).1 = 0 := by
                         simp only
                         omega
                       refine ⟨(TL_axle g1 ⟨hlo2, hhi2⟩ ⟨hlo1, hhi1⟩ (by omega) (by rw [ha]; omega) ?_ ?_ ?_ ?_).1, ?_, ⟨hlo2, hhi2⟩, by omega, hnd2, ?_, ?_⟩
                       · rw [g2, ha, Nat.add_sub_cancel, stw_app, if_pos ⟨rfl, rfl⟩, stw_app, if_neg (by omega), stw_n (by decide), stw_n (by decide), stw_app, if_neg (by omega), stw_n (by decide), hcnt, nI_1]
                       · rw [g2, ha, Nat.add_sub_cancel, stw_app, if_neg (by omega), stw_app, if_neg (by omega), stw_n (by decide), stw_n (by decide), stw_app, if_pos ⟨rfl, rfl⟩, hr1]
                       · rw [g2, ha, Nat.add_sub_cancel, stw_app, if_neg (by omega), stw_app, if_pos ⟨rfl, rfl⟩, hr2]
                       · intro i hi1 hi2
                         rw [g2, Nat.add_sub_cancel] at hi1 hi2
                         rw [ha] at hi2
                         rw [stw_app, if_neg (by omega), stw_app, if_neg (by omega), stw_n (by decide), stw_n (by decide), stw_app, if_neg (by omega), stw_n (by decide)]
                       · rw [cntI_app, if_neg hx10, g2]
                       · rw [trI_app, if_neg hx10, ha]
                         omega
                       · rw [trI_app, if_neg hx10, ha]
                         exact hpr3.trans (hpr2 _ (by simp)))
                · refine g_aload_n K dX7_readCart_163 rfl ?_
                  refine g_getr (j := 193) K lk_X7_43 dX7_readCart_164 rfl (by decide) (rfl : kd 181 = 7) (by decide) (by decide) rfl (rfl : rs 181 21 = 193) ?_
                  refine g_iload_n K dX7_readCart_167 rfl ?_
                  refine g_iconst K dX7_readCart_168 kc_2 ?_
                  refine g_iadd K dX7_readCart_169 ?_
                  refine g_iconst K dX7_readCart_170 kc_2 ?_
                  refine g_iload K dX7_readCart_171 rfl ?_
                  refine g_imul K dX7_readCart_173 ?_
                  refine g_iadd K dX7_readCart_174 ?_
                  rw [hix2]
                  refine g_iald (j := (11 * m + 2 + 2 * a)) K dX7_readCart_175 rfl ln_193 (by omega) (rfl : kd 193 = 8) (by decide) rfl ?_
                  refine g_bipush K dX7_readCart_176 kb_m5 ?_
                  refine g_icmp_eq (tgt := 185) K dX7_readCart_178 (by decide) (fun u178 => ?_) (fun u178 => ?_)
                  · rw [stw_app, if_pos ⟨rfl, rfl⟩] at u178
                    refine g_iconst K dX7_readCart_185 kc_0 ?_
                    refine g_istore_n (ls2 := [_, _, _, some (.int _), _]) K dX7_readCart_186 (by decide) rfl ?_
                    refine g_aload_n K dX7_readCart_187 rfl ?_
                    refine g_getr (j := 193) K lk_X7_43 dX7_readCart_188 rfl (by decide) (rfl : kd 181 = 7) (by decide) (by decide) rfl (rfl : rs 181 21 = 193) ?_
                    refine g_iload_n K dX7_readCart_191 rfl ?_
                    refine g_dup2 K dX7_readCart_192 rfl rfl ?_
                    refine g_iald (j := (11 * m)) K dX7_readCart_193 rfl ln_193 (by omega) (rfl : kd 193 = 8) (by decide) rfl ?_
                    refine g_iconst K dX7_readCart_194 kc_1 ?_
                    refine g_iadd K dX7_readCart_195 ?_
                    refine g_iast (j := (11 * m)) K dX7_readCart_196 rfl ln_193 (by omega) (rfl : kd 193 = 8) (by decide) rfl ?_
                    refine g_goto (tgt := 45) K dX7_readCart_197 (by decide) ?_
                    refine g_drop (ls2 := [_, _, _, _, none]) 4 rfl ?_
                    first
                      | exact absurd rfl u142
                      | exact absurd u142 (by decide)
                      | exact absurd rfl u160
                      | exact absurd u160 (by decide)
                      | exact ih p3 _ _ (by omega) (by
                          repeat (refine TX_w ?_ (by decide) (by decide))
                          assumption) (by
                          repeat (first | refine RdF_t ?_ | refine RdF_p ?_)
                          exact hF) (Or.inl ⟨rfl, hbad⟩)
                      | exact ih p4 _ _ (by omega) (by
                          repeat (refine TX_w ?_ (by decide) (by decide))
                          assumption) (by
                          repeat (first | refine RdF_t ?_ | refine RdF_p ?_)
                          exact hF) (Or.inl ⟨rfl, num_bad hnum2 (by decide) (by simp) hpr3 u178⟩)
                      | (refine ih p4 _ _ (by omega) (by
                           repeat (refine TX_w ?_ (by decide) (by decide))
                           assumption) (by
                           repeat (first | refine RdF_t ?_ | refine RdF_p ?_)
                           exact hF) (Or.inr ⟨rfl, x2, x1, its2 ++ [(d, x)], ?_⟩)
                         obtain ⟨hr2, hps2, hlo2, hhi2, hnd2, hpr2⟩ := hnum2.resolve_left (fun q => u178 q.1)
                         have hx10 : ¬ (x1, x2).1 = 0 := by
                           simp only
                           omega
                         refine ⟨(TL_axle g1 ⟨hlo2, hhi2⟩ ⟨hlo1, hhi1⟩ (by omega) (by rw [ha]; omega) ?_ ?_ ?_ ?_).1, ?_, ⟨hlo2, hhi2⟩, by omega, hnd2, ?_, ?_⟩
                         · rw [g2, ha, Nat.add_sub_cancel, stw_app, if_pos ⟨rfl, rfl⟩, stw_app, if_neg (by omega), stw_n (by decide), stw_n (by decide), stw_app, if_neg (by omega), stw_n (by decide), hcnt, nI_1]
                         · rw [g2, ha, Nat.add_sub_cancel, stw_app, if_neg (by omega), stw_app, if_neg (by omega), stw_n (by decide), stw_n (by decide), stw_app, if_pos ⟨rfl, rfl⟩, hr1]
                         · rw [g2, ha, Nat.add_sub_cancel, stw_app, if_neg (by omega), stw_app, if_pos ⟨rfl, rfl⟩, hr2]
                         · intro i hi1 hi2
                           rw [g2, Nat.add_sub_cancel] at hi1 hi2
                           rw [ha] at hi2
                           rw [stw_app, if_neg (by omega), stw_app, if_neg (by omega), stw_n (by decide), stw_n (by decide), stw_app, if_neg (by omega), stw_n (by decide)]
                         · rw [cntI_app, if_neg hx10, g2]
                         · rw [trI_app, if_neg hx10, ha]
                           omega
                         · rw [trI_app, if_neg hx10, ha]
                           exact hpr3.trans (hpr2 _ (by simp)))
                  · rw [stw_app, if_pos ⟨rfl, rfl⟩] at u178
                    refine g_iconst K dX7_readCart_181 kc_1 ?_
                    refine g_goto (tgt := 186) K dX7_readCart_182 (by decide) ?_
                    refine g_istore_n (ls2 := [_, _, _, some (.int _), _]) K dX7_readCart_186 (by decide) rfl ?_
                    refine g_aload_n K dX7_readCart_187 rfl ?_
                    refine g_getr (j := 193) K lk_X7_43 dX7_readCart_188 rfl (by decide) (rfl : kd 181 = 7) (by decide) (by decide) rfl (rfl : rs 181 21 = 193) ?_
                    refine g_iload_n K dX7_readCart_191 rfl ?_
                    refine g_dup2 K dX7_readCart_192 rfl rfl ?_
                    refine g_iald (j := (11 * m)) K dX7_readCart_193 rfl ln_193 (by omega) (rfl : kd 193 = 8) (by decide) rfl ?_
                    refine g_iconst K dX7_readCart_194 kc_1 ?_
                    refine g_iadd K dX7_readCart_195 ?_
                    refine g_iast (j := (11 * m)) K dX7_readCart_196 rfl ln_193 (by omega) (rfl : kd 193 = 8) (by decide) rfl ?_
                    refine g_goto (tgt := 45) K dX7_readCart_197 (by decide) ?_
                    refine g_drop (ls2 := [_, _, _, _, none]) 4 rfl ?_
                    first
                      | exact absurd rfl u142
                      | exact absurd u142 (by decide)
                      | exact absurd rfl u160
                      | exact absurd u160 (by decide)
                      | exact ih p3 _ _ (by omega) (by
                          repeat (refine TX_w ?_ (by decide) (by decide))
                          assumption) (by
                          repeat (first | refine RdF_t ?_ | refine RdF_p ?_)
                          exact hF) (Or.inl ⟨rfl, hbad⟩)
                      | exact ih p4 _ _ (by omega) (by
                          repeat (refine TX_w ?_ (by decide) (by decide))
                          assumption) (by
                          repeat (first | refine RdF_t ?_ | refine RdF_p ?_)
                          exact hF) (Or.inl ⟨rfl, num_bad hnum2 (by decide) (by simp) hpr3 u178⟩)
                      | (refine ih p4 _ _ (by omega) (by
                           repeat (refine TX_w ?_ (by decide) (by decide))
                           assumption) (by
                           repeat (first | refine RdF_t ?_ | refine RdF_p ?_)
                           exact hF) (Or.inr ⟨rfl, x2, x1, its2 ++ [(d, x)], ?_⟩)
                         obtain ⟨hr2, hps2, hlo2, hhi2, hnd2, hpr2⟩ := hnum2.resolve_left (fun q => u178 q.1)
                         have hx10 : ¬ (x1, x2).1 = 0 := by
                           simp only
                           omega
                         refine ⟨(TL_axle g1 ⟨hlo2, hhi2⟩ ⟨hlo1, hhi1⟩ (by omega) (by rw [ha]; omega) ?_ ?_ ?_ ?_).1, ?_, ⟨hlo2, hhi2⟩, by omega, hnd2, ?_, ?_⟩
                         · rw [g2, ha, Nat.add_sub_cancel, stw_app, if_pos ⟨rfl, rfl⟩, stw_app, if_neg (by omega), stw_n (by decide), stw_n (by decide), stw_app, if_neg (by omega), stw_n (by decide), hcnt, nI_1]
                         · rw [g2, ha, Nat.add_sub_cancel, stw_app, if_neg (by omega), stw_app, if_neg (by omega), stw_n (by decide), stw_n (by decide), stw_app, if_pos ⟨rfl, rfl⟩, hr1]
                         · rw [g2, ha, Nat.add_sub_cancel, stw_app, if_neg (by omega), stw_app, if_pos ⟨rfl, rfl⟩, hr2]
                         · intro i hi1 hi2
                           rw [g2, Nat.add_sub_cancel] at hi1 hi2
                           rw [ha] at hi2
                           rw [stw_app, if_neg (by omega), stw_app, if_neg (by omega), stw_n (by decide), stw_n (by decide), stw_app, if_neg (by omega), stw_n (by decide)]
                         · rw [cntI_app, if_neg hx10, g2]
                         · rw [trI_app, if_neg hx10, ha]
                           omega
                         · rw [trI_app, if_neg hx10, ha]
                           exact hpr3.trans (hpr2 _ (by simp)))
            · obtain ⟨hr1, hps1, hlo1, hhi1, hnd1, hpr1⟩ := hnum1.resolve_left (fun q => u111 q.1)
              have hprd := hpr43.trans ((hpr1 _ (by simp)).trans (prun_in ⟨hlo1, hhi1⟩ hq2 hnd1))
              refine g_aload_n K dX7_readCart_114 rfl ?_
              refine g_bipush K dX7_readCart_115 kb_42 ?_
              refine g_callVi K (c_X7_takes (x := 42) (TX_w (k := 193) (i := 11 * m + 1 + 2 * a) (v := r92) hX3 (by decide) (by decide))) mw_X7_takes ml_X7_172 dX7_readCart_117 (by rfl) rfl rfl (by decide) (by simp [Value.category]) ⟨by decide, by decide⟩ ⟨by decide, by decide⟩ ?_
              refine g_if_eq (tgt := 127) K dX7_readCart_120 (by decide) (fun u120 => ?_) (fun u120 => ?_)
              · have hst : ¬ (p3 < n ∧ f p3 = 42) := by grind
                rw [if_neg hst]
                have hbad := hprd.trans (if_neg hst)
                have hX4 := TX_mv (TX_w (k := 193) (i := 11 * m + 1 + 2 * a) (v := r92) hX3 (by decide) (by decide)) hq2
                refine g_iconst K dX7_readCart_127 kc_0 ?_
                refine g_istore_n (ls2 := [_, _, _, some (.int _), _]) K dX7_readCart_128 (by decide) rfl ?_
                refine g_aload_n K dX7_readCart_129 rfl ?_
                refine g_getr (j := 193) K lk_X7_43 dX7_readCart_130 rfl (by decide) (rfl : kd 181 = 7) (by decide) (by decide) rfl (rfl : rs 181 21 = 193) ?_
                refine g_iload_n K dX7_readCart_133 rfl ?_
                refine g_iconst K dX7_readCart_134 kc_2 ?_
                refine g_iadd K dX7_readCart_135 ?_
                refine g_iconst K dX7_readCart_136 kc_2 ?_
                refine g_iload K dX7_readCart_137 rfl ?_
                refine g_imul K dX7_readCart_139 ?_
                refine g_iadd K dX7_readCart_140 ?_
                rw [hix2]
                refine g_iload_n K dX7_readCart_141 rfl ?_
                refine g_if_eq (tgt := 156) K dX7_readCart_142 (by decide) (fun u142 => ?_) (fun u142 => ?_)
                · refine g_bipush K dX7_readCart_156 kb_m5 ?_
                  refine g_iast (j := (11 * m + 2 + 2 * a)) K dX7_readCart_158 rfl ln_193 (by omega) (rfl : kd 193 = 8) (by decide) rfl ?_
                  refine g_iload_n K dX7_readCart_159 rfl ?_
                  refine g_if_eq (tgt := 185) K dX7_readCart_160 (by decide) (fun u160 => ?_) (fun u160 => ?_)
                  · refine g_iconst K dX7_readCart_185 kc_0 ?_
                    refine g_istore_n (ls2 := [_, _, _, some (.int _), _]) K dX7_readCart_186 (by decide) rfl ?_
                    refine g_aload_n K dX7_readCart_187 rfl ?_
                    refine g_getr (j := 193) K lk_X7_43 dX7_readCart_188 rfl (by decide) (rfl : kd 181 = 7) (by decide) (by decide) rfl (rfl : rs 181 21 = 193) ?_
                    refine g_iload_n K dX7_readCart_191 rfl ?_
                    refine g_dup2 K dX7_readCart_192 rfl rfl ?_
                    refine g_iald (j := (11 * m)) K dX7_readCart_193 rfl ln_193 (by omega) (rfl : kd 193 = 8) (by decide) rfl ?_
                    refine g_iconst K dX7_readCart_194 kc_1 ?_
                    refine g_iadd K dX7_readCart_195 ?_
                    refine g_iast (j := (11 * m)) K dX7_readCart_196 rfl ln_193 (by omega) (rfl : kd 193 = 8) (by decide) rfl ?_
                    refine g_goto (tgt := 45) K dX7_readCart_197 (by decide) ?_
                    refine g_drop (ls2 := [_, _, _, _, none]) 4 rfl ?_
                    first
                      | exact absurd rfl u142
                      | exact absurd u142 (by decide)
                      | exact absurd rfl u160
                      | exact absurd u160 (by decide)
                      | exact ih p3 _ _ (by omega) (by
                          repeat (refine TX_w ?_ (by decide) (by decide))
                          assumption) (by
                          repeat (first | refine RdF_t ?_ | refine RdF_p ?_)
                          exact hF) (Or.inl ⟨rfl, hbad⟩)
                      | exact ih p4 _ _ (by omega) (by
                          repeat (refine TX_w ?_ (by decide) (by decide))
                          assumption) (by
                          repeat (first | refine RdF_t ?_ | refine RdF_p ?_)
                          exact hF) (Or.inl ⟨rfl, num_bad hnum2 (by decide) (by simp) hpr3 u178⟩)
                      | (refine ih p4 _ _ (by omega) (by
                           repeat (refine TX_w ?_ (by decide) (by decide))
                           assumption) (by
                           repeat (first | refine RdF_t ?_ | refine RdF_p ?_)
                           exact hF) (Or.inr ⟨rfl, x2, x1, its2 ++ [(d, x)], ?_⟩)
                         obtain ⟨hr2, hps2, hlo2, hhi2, hnd2, hpr2⟩ := hnum2.resolve_left (fun q => u178 q.1)
                         have hx10 : ¬ (x1, x2).1 = 0 := by
                           simp only
                           omega
                         refine ⟨(TL_axle g1 ⟨hlo2, hhi2⟩ ⟨hlo1, hhi1⟩ (by omega) (by rw [ha]; omega) ?_ ?_ ?_ ?_).1, ?_, ⟨hlo2, hhi2⟩, by omega, hnd2, ?_, ?_⟩
                         · rw [g2, ha, Nat.add_sub_cancel, stw_app, if_pos ⟨rfl, rfl⟩, stw_app, if_neg (by omega), stw_n (by decide), stw_n (by decide), stw_app, if_neg (by omega), stw_n (by decide), hcnt, nI_1]
                         · rw [g2, ha, Nat.add_sub_cancel, stw_app, if_neg (by omega), stw_app, if_neg (by omega), stw_n (by decide), stw_n (by decide), stw_app, if_pos ⟨rfl, rfl⟩, hr1]
                         · rw [g2, ha, Nat.add_sub_cancel, stw_app, if_neg (by omega), stw_app, if_pos ⟨rfl, rfl⟩, hr2]
                         · intro i hi1 hi2
                           rw [g2, Nat.add_sub_cancel] at hi1 hi2
                           rw [ha] at hi2
                           rw [stw_app, if_neg (by omega), stw_app, if_neg (by omega), stw_n (by decide), stw_n (by decide), stw_app, if_neg (by omega), stw_n (by decide)]
                         · rw [cntI_app, if_neg hx10, g2]
                         · rw [trI_app, if_neg hx10, ha]
                           omega
                         · rw [trI_app, if_neg hx10, ha]
                           exact hpr3.trans (hpr2 _ (by simp)))
                  · refine g_aload_n K dX7_readCart_163 rfl ?_
                    refine g_getr (j := 193) K lk_X7_43 dX7_readCart_164 rfl (by decide) (rfl : kd 181 = 7) (by decide) (by decide) rfl (rfl : rs 181 21 = 193) ?_
                    refine g_iload_n K dX7_readCart_167 rfl ?_
                    refine g_iconst K dX7_readCart_168 kc_2 ?_
                    refine g_iadd K dX7_readCart_169 ?_
                    refine g_iconst K dX7_readCart_170 kc_2 ?_
                    refine g_iload K dX7_readCart_171 rfl ?_
                    refine g_imul K dX7_readCart_173 ?_
                    refine g_iadd K dX7_readCart_174 ?_
                    rw [hix2]
                    refine g_iald (j := (11 * m + 2 + 2 * a)) K dX7_readCart_175 rfl ln_193 (by omega) (rfl : kd 193 = 8) (by decide) rfl ?_
                    refine g_bipush K dX7_readCart_176 kb_m5 ?_
                    refine g_icmp_eq (tgt := 185) K dX7_readCart_178 (by decide) (fun u178 => ?_) (fun u178 => ?_)
                    · rw [stw_app, if_pos ⟨rfl, rfl⟩] at u178
                      refine g_iconst K dX7_readCart_185 kc_0 ?_
                      refine g_istore_n (ls2 := [_, _, _, some (.int _), _]) K dX7_readCart_186 (by decide) rfl ?_
                      refine g_aload_n K dX7_readCart_187 rfl ?_
                      refine g_getr (j := 193) K lk_X7_43 dX7_readCart_188 rfl (by decide) (rfl : kd 181 = 7) (by decide) (by decide) rfl (rfl : rs 181 21 = 193) ?_
                      refine g_iload_n K dX7_readCart_191 rfl ?_
                      refine g_dup2 K dX7_readCart_192 rfl rfl ?_
                      refine g_iald (j := (11 * m)) K dX7_readCart_193 rfl ln_193 (by omega) (rfl : kd 193 = 8) (by decide) rfl ?_
                      refine g_iconst K dX7_readCart_194 kc_1 ?_
                      refine g_iadd K dX7_readCart_195 ?_
                      refine g_iast (j := (11 * m)) K dX7_readCart_196 rfl ln_193 (by omega) (rfl : kd 193 = 8) (by decide) rfl ?_
                      refine g_goto (tgt := 45) K dX7_readCart_197 (by decide) ?_
                      refine g_drop (ls2 := [_, _, _, _, none]) 4 rfl ?_
                      first
                        | exact absurd rfl u142
                        | exact absurd u142 (by decide)
                        | exact absurd rfl u160
                        | exact absurd u160 (by decide)
                        | exact ih p3 _ _ (by omega) (by
                            repeat (refine TX_w ?_ (by decide) (by decide))
                            assumption) (by
                            repeat (first | refine RdF_t ?_ | refine RdF_p ?_)
                            exact hF) (Or.inl ⟨rfl, hbad⟩)
                        | exact ih p4 _ _ (by omega) (by
                            repeat (refine TX_w ?_ (by decide) (by decide))
                            assumption) (by
                            repeat (first | refine RdF_t ?_ | refine RdF_p ?_)
                            exact hF) (Or.inl ⟨rfl, num_bad hnum2 (by decide) (by simp) hpr3 u178⟩)
                        | (refine ih p4 _ _ (by omega) (by
                             repeat (refine TX_w ?_ (by decide) (by decide))
                             assumption) (by
                             repeat (first | refine RdF_t ?_ | refine RdF_p ?_)
                             exact hF) (Or.inr ⟨rfl, x2, x1, its2 ++ [(d, x)], ?_⟩)
                           obtain ⟨hr2, hps2, hlo2, hhi2, hnd2, hpr2⟩ := hnum2.resolve_left (fun q => u178 q.1)
                           have hx10 : ¬ (x1, x2).1 = 0 := by
                             simp only
                             omega
                           refine ⟨(TL_axle g1 ⟨hlo2, hhi2⟩ ⟨hlo1, hhi1⟩ (by omega) (by rw [ha]; omega) ?_ ?_ ?_ ?_).1, ?_, ⟨hlo2, hhi2⟩, by omega, hnd2, ?_, ?_⟩
                           · rw [g2, ha, Nat.add_sub_cancel, stw_app, if_pos ⟨rfl, rfl⟩, stw_app, if_neg (by omega), stw_n (by decide), stw_n (by decide), stw_app, if_neg (by omega), stw_n (by decide), hcnt, nI_1]
                           · rw [g2, ha, Nat.add_sub_cancel, stw_app, if_neg (by omega), stw_app, if_neg (by omega), stw_n (by decide), stw_n (by decide), stw_app, if_pos ⟨rfl, rfl⟩, hr1]
                           · rw [g2, ha, Nat.add_sub_cancel, stw_app, if_neg (by omega), stw_app, if_pos ⟨rfl, rfl⟩, hr2]
                           · intro i hi1 hi2
                             rw [g2, Nat.add_sub_cancel] at hi1 hi2
                             rw [ha] at hi2
                             rw [stw_app, if_neg (by omega), stw_app, if_neg (by omega), stw_n (by decide), stw_n (by decide), stw_app, if_neg (by omega), stw_n (by decide)]
                           · rw [cntI_app, if_neg hx10, g2]
                           · rw [trI_app, if_neg hx10, ha]
                             omega
                           · rw [trI_app, if_neg hx10, ha]
                             exact hpr3.trans (hpr2 _ (by simp)))
                    · rw [stw_app, if_pos ⟨rfl, rfl⟩] at u178
                      refine g_iconst K dX7_readCart_181 kc_1 ?_
                      refine g_goto (tgt := 186) K dX7_readCart_182 (by decide) ?_
                      refine g_istore_n (ls2 := [_, _, _, some (.int _), _]) K dX7_readCart_186 (by decide) rfl ?_
                      refine g_aload_n K dX7_readCart_187 rfl ?_
                      refine g_getr (j := 193) K lk_X7_43 dX7_readCart_188 rfl (by decide) (rfl : kd 181 = 7) (by decide) (by decide) rfl (rfl : rs 181 21 = 193) ?_
                      refine g_iload_n K dX7_readCart_191 rfl ?_
                      refine g_dup2 K dX7_readCart_192 rfl rfl ?_
                      refine g_iald (j := (11 * m)) K dX7_readCart_193 rfl ln_193 (by omega) (rfl : kd 193 = 8) (by decide) rfl ?_
                      refine g_iconst K dX7_readCart_194 kc_1 ?_
                      refine g_iadd K dX7_readCart_195 ?_
                      refine g_iast (j := (11 * m)) K dX7_readCart_196 rfl ln_193 (by omega) (rfl : kd 193 = 8) (by decide) rfl ?_
                      refine g_goto (tgt := 45) K dX7_readCart_197 (by decide) ?_
                      refine g_drop (ls2 := [_, _, _, _, none]) 4 rfl ?_
                      first
                        | exact absurd rfl u142
                        | exact absurd u142 (by decide)
                        | exact absurd rfl u160
                        | exact absurd u160 (by decide)
                        | exact ih p3 _ _ (by omega) (by
                            repeat (refine TX_w ?_ (by decide) (by decide))
                            assumption) (by
                            repeat (first | refine RdF_t ?_ | refine RdF_p ?_)
                            exact hF) (Or.inl ⟨rfl, hbad⟩)
                        | exact ih p4 _ _ (by omega) (by
                            repeat (refine TX_w ?_ (by decide) (by decide))
                            assumption) (by
                            repeat (first | refine RdF_t ?_ | refine RdF_p ?_)
                            exact hF) (Or.inl ⟨rfl, num_bad hnum2 (by decide) (by simp) hpr3 u178⟩)
                        | (refine ih p4 _ _ (by omega) (by
                             repeat (refine TX_w ?_ (by decide) (by decide))
                             assumption) (by
                             repeat (first | refine RdF_t ?_ | refine RdF_p ?_)
                             exact hF) (Or.inr ⟨rfl, x2, x1, its2 ++ [(d, x)], ?_⟩)
                           obtain ⟨hr2, hps2, hlo2, hhi2, hnd2, hpr2⟩ := hnum2.resolve_left (fun q => u178 q.1)
                           have hx10 : ¬ (x1, x2).1 = 0 := by
                             simp only
                             omega
                           refine ⟨(TL_axle g1 ⟨hlo2, hhi2⟩ ⟨hlo1, hhi1⟩ (by omega) (by rw [ha]; omega) ?_ ?_ ?_ ?_).1, ?_, ⟨hlo2, hhi2⟩, by omega, hnd2, ?_, ?_⟩
                           · rw [g2, ha, Nat.add_sub_cancel, stw_app, if_pos ⟨rfl, rfl⟩, stw_app, if_neg (by omega), stw_n (by decide), stw_n (by decide), stw_app, if_neg (by omega), stw_n (by decide), hcnt, nI_1]
                           · rw [g2, ha, Nat.add_sub_cancel, stw_app, if_neg (by omega), stw_app, if_neg (by omega), stw_n (by decide), stw_n (by decide), stw_app, if_pos ⟨rfl, rfl⟩, hr1]
                           · rw [g2, ha, Nat.add_sub_cancel, stw_app, if_neg (by omega), stw_app, if_pos ⟨rfl, rfl⟩, hr2]
                           · intro i hi1 hi2
                             rw [g2, Nat.add_sub_cancel] at hi1 hi2
                             rw [ha] at hi2
                             rw [stw_app, if_neg (by omega), stw_app, if_neg (by omega), stw_n (by decide), stw_n (by decide), stw_app, if_neg (by omega), stw_n (by decide)]
                           · rw [cntI_app, if_neg hx10, g2]
                           · rw [trI_app, if_neg hx10, ha]
                             omega
                           · rw [trI_app, if_neg hx10, ha]
                             exact hpr3.trans (hpr2 _ (by simp)))
                · refine g_aload_n K dX7_readCart_145 rfl ?_
                  refine g_iconst K dX7_readCart_146 kc_1 ?_
                  refine g_sipush K dX7_readCart_147 kp_200 ?_
                  refine g_callVpi K (c_X7_number (lo := 1) (hi := 200) hX4 (by decide)) mw_X7_number ml_X7_169 dX7_readCart_150 (by rfl) rfl rfl (by decide) (by simp [Value.category]) ⟨by decide, by decide⟩ ⟨by decide, by decide⟩ (fun r150 S150 h150 => ?_)
                  obtain ⟨x2, p4, hq3, hq4, hS4, hnum2⟩ := h150
                  subst hS4
                  have hX5 := TX_mv hX4 hq4
                  refine g_goto (tgt := 158) K dX7_readCart_153 (by decide) ?_
                  refine g_iast (j := (11 * m + 2 + 2 * a)) K dX7_readCart_158 rfl ln_193 (by omega) (rfl : kd 193 = 8) (by decide) rfl ?_
                  refine g_iload_n K dX7_readCart_159 rfl ?_
                  refine g_if_eq (tgt := 185) K dX7_readCart_160 (by decide) (fun u160 => ?_) (fun u160 => ?_)
                  · refine g_iconst K dX7_readCart_185 kc_0 ?_
                    refine g_istore_n (ls2 := [_, _, _, some (.int _), _]) K dX7_readCart_186 (by decide) rfl ?_
                    refine g_aload_n K dX7_readCart_187 rfl ?_
                    refine g_getr (j := 193) K lk_X7_43 dX7_readCart_188 rfl (by decide) (rfl : kd 181 = 7) (by decide) (by decide) rfl (rfl : rs 181 21 = 193) ?_
                    refine g_iload_n K dX7_readCart_191 rfl ?_
                    refine g_dup2 K dX7_readCart_192 rfl rfl ?_
                    refine g_iald (j := (11 * m)) K dX7_readCart_193 rfl ln_193 (by omega) (rfl : kd 193 = 8) (by decide) rfl ?_
                    refine g_iconst K dX7_readCart_194 kc_1 ?_
                    refine g_iadd K dX7_readCart_195 ?_
                    refine g_iast (j := (11 * m)) K dX7_readCart_196 rfl ln_193 (by omega) (rfl : kd 193 = 8) (by decide) rfl ?_
                    refine g_goto (tgt := 45) K dX7_readCart_197 (by decide) ?_
                    refine g_drop (ls2 := [_, _, _, _, none]) 4 rfl ?_
                    first
                      | exact absurd rfl u142
                      | exact absurd u142 (by decide)
                      | exact absurd rfl u160
                      | exact absurd u160 (by decide)
                      | exact ih p3 _ _ (by omega) (by
                          repeat (refine TX_w ?_ (by decide) (by decide))
                          assumption) (by
                          repeat (first | refine RdF_t ?_ | refine RdF_p ?_)
                          exact hF) (Or.inl ⟨rfl, hbad⟩)
                      | exact ih p4 _ _ (by omega) (by
                          repeat (refine TX_w ?_ (by decide) (by decide))
                          assumption) (by
                          repeat (first | refine RdF_t ?_ | refine RdF_p ?_)
                          exact hF) (Or.inl ⟨rfl, num_bad hnum2 (by decide) (by simp) hpr3 u178⟩)
                      | (refine ih p4 _ _ (by omega) (by
                           repeat (refine TX_w ?_ (by decide) (by decide))
                           assumption) (by
                           repeat (first | refine RdF_t ?_ | refine RdF_p ?_)
                           exact hF) (Or.inr ⟨rfl, x2, x1, its2 ++ [(d, x)], ?_⟩)
                         obtain ⟨hr2, hps2, hlo2, hhi2, hnd2, hpr2⟩ := hnum2.resolve_left (fun q => u178 q.1)
                         have hx10 : ¬ (x1, x2).1 = 0 := by
                           simp only
                           omega
                         refine ⟨(TL_axle g1 ⟨hlo2, hhi2⟩ ⟨hlo1, hhi1⟩ (by omega) (by rw [ha]; omega) ?_ ?_ ?_ ?_).1, ?_, ⟨hlo2, hhi2⟩, by omega, hnd2, ?_, ?_⟩
                         · rw [g2, ha, Nat.add_sub_cancel, stw_app, if_pos ⟨rfl, rfl⟩, stw_app, if_neg (by omega), stw_n (by decide), stw_n (by decide), stw_app, if_neg (by omega), stw_n (by decide), hcnt, nI_1]
                         · rw [g2, ha, Nat.add_sub_cancel, stw_app, if_neg (by omega), stw_app, if_neg (by omega), stw_n (by decide), stw_n (by decide), stw_app, if_pos ⟨rfl, rfl⟩, hr1]
                         · rw [g2, ha, Nat.add_sub_cancel, stw_app, if_neg (by omega), stw_app, if_pos ⟨rfl, rfl⟩, hr2]
                         · intro i hi1 hi2
                           rw [g2, Nat.add_sub_cancel] at hi1 hi2
                           rw [ha] at hi2
                           rw [stw_app, if_neg (by omega), stw_app, if_neg (by omega), stw_n (by decide), stw_n (by decide), stw_app, if_neg (by omega), stw_n (by decide)]
                         · rw [cntI_app, if_neg hx10, g2]
                         · rw [trI_app, if_neg hx10, ha]
                           omega
                         · rw [trI_app, if_neg hx10, ha]
                           exact hpr3.trans (hpr2 _ (by simp)))
                  · refine g_aload_n K dX7_readCart_163 rfl ?_
                    refine g_getr (j := 193) K lk_X7_43 dX7_readCart_164 rfl (by decide) (rfl : kd 181 = 7) (by decide) (by decide) rfl (rfl : rs 181 21 = 193) ?_
                    refine g_iload_n K dX7_readCart_167 rfl ?_
                    refine g_iconst K dX7_readCart_168 kc_2 ?_
                    refine g_iadd K dX7_readCart_169 ?_
                    refine g_iconst K dX7_readCart_170 kc_2 ?_
                    refine g_iload K dX7_readCart_171 rfl ?_
                    refine g_imul K dX7_readCart_173 ?_
                    refine g_iadd K dX7_readCart_174 ?_
                    rw [hix2]
                    refine g_iald (j := (11 * m + 2 + 2 * a)) K dX7_readCart_175 rfl ln_193 (by omega) (rfl : kd 193 = 8) (by decide) rfl ?_
                    refine g_bipush K dX7_readCart_176 kb_m5 ?_
                    refine g_icmp_eq (tgt := 185) K dX7_readCart_178 (by decide) (fun u178 => ?_) (fun u178 => ?_)
                    · rw [stw_app, if_pos ⟨rfl, rfl⟩] at u178
                      refine g_iconst K dX7_readCart_185 kc_0 ?_
                      refine g_istore_n (ls2 := [_, _, _, some (.int _), _]) K dX7_readCart_186 (by decide) rfl ?_
                      refine g_aload_n K dX7_readCart_187 rfl ?_
                      refine g_getr (j := 193) K lk_X7_43 dX7_readCart_188 rfl (by decide) (rfl : kd 181 = 7) (by decide) (by decide) rfl (rfl : rs 181 21 = 193) ?_
                      refine g_iload_n K dX7_readCart_191 rfl ?_
                      refine g_dup2 K dX7_readCart_192 rfl rfl ?_
                      refine g_iald (j := (11 * m)) K dX7_readCart_193 rfl ln_193 (by omega) (rfl : kd 193 = 8) (by decide) rfl ?_
                      refine g_iconst K dX7_readCart_194 kc_1 ?_
                      refine g_iadd K dX7_readCart_195 ?_
                      refine g_iast (j := (11 * m)) K dX7_readCart_196 rfl ln_193 (by omega) (rfl : kd 193 = 8) (by decide) rfl ?_
                      refine g_goto (tgt := 45) K dX7_readCart_197 (by decide) ?_
                      refine g_drop (ls2 := [_, _, _, _, none]) 4 rfl ?_
                      first
                        | exact absurd rfl u142
                        | exact absurd u142 (by decide)
                        | exact absurd rfl u160
                        | exact absurd u160 (by decide)
                        | exact ih p3 _ _ (by omega) (by
                            repeat (refine TX_w ?_ (by decide) (by decide))
                            assumption) (by
                            repeat (first | refine RdF_t ?_ | refine RdF_p ?_)
                            exact hF) (Or.inl ⟨rfl, hbad⟩)
                        | exact ih p4 _ _ (by omega) (by
                            repeat (refine TX_w ?_ (by decide) (by decide))
                            assumption) (by
                            repeat (first | refine RdF_t ?_ | refine RdF_p ?_)
                            exact hF) (Or.inl ⟨rfl, num_bad hnum2 (by decide) (by simp) hpr3 u178⟩)
                        | (refine ih p4 _ _ (by omega) (by
                             repeat (refine TX_w ?_ (by decide) (by decide))
                             assumption) (by
                             repeat (first | refine RdF_t ?_ | refine RdF_p ?_)
                             exact hF) (Or.inr ⟨rfl, x2, x1, its2 ++ [(d, x)], ?_⟩)
                           obtain ⟨hr2, hps2, hlo2, hhi2, hnd2, hpr2⟩ := hnum2.resolve_left (fun q => u178 q.1)
                           have hx10 : ¬ (x1, x2).1 = 0 := by
                             simp only
                             omega
                           refine ⟨(TL_axle g1 ⟨hlo2, hhi2⟩ ⟨hlo1, hhi1⟩ (by omega) (by rw [ha]; omega) ?_ ?_ ?_ ?_).1, ?_, ⟨hlo2, hhi2⟩, by omega, hnd2, ?_, ?_⟩
                           · rw [g2, ha, Nat.add_sub_cancel, stw_app, if_pos ⟨rfl, rfl⟩, stw_app, if_neg (by omega), stw_n (by decide), stw_n (by decide), stw_app, if_neg (by omega), stw_n (by decide), hcnt, nI_1]
                           · rw [g2, ha, Nat.add_sub_cancel, stw_app, if_neg (by omega), stw_app, if_neg (by omega), stw_n (by decide), stw_n (by decide), stw_app, if_pos ⟨rfl, rfl⟩, hr1]
                           · rw [g2, ha, Nat.add_sub_cancel, stw_app, if_neg (by omega), stw_app, if_pos ⟨rfl, rfl⟩, hr2]
                           · intro i hi1 hi2
                             rw [g2, Nat.add_sub_cancel] at hi1 hi2
                             rw [ha] at hi2
                             rw [stw_app, if_neg (by omega), stw_app, if_neg (by omega), stw_n (by decide), stw_n (by decide), stw_app, if_neg (by omega), stw_n (by decide)]
                           · rw [cntI_app, if_neg hx10, g2]
                           · rw [trI_app, if_neg hx10, ha]
                             omega
                           · rw [trI_app, if_neg hx10, ha]
                             exact hpr3.trans (hpr2 _ (by simp)))
                    · rw [stw_app, if_pos ⟨rfl, rfl⟩] at u178
                      refine g_iconst K dX7_readCart_181 kc_1 ?_
                      refine g_goto (tgt := 186) K dX7_readCart_182 (by decide) ?_
                      refine g_istore_n (ls2 := [_, _, _, some (.int _), _]) K dX7_readCart_186 (by decide) rfl ?_
                      refine g_aload_n K dX7_readCart_187 rfl ?_
                      refine g_getr (j := 193) K lk_X7_43 dX7_readCart_188 rfl (by decide) (rfl : kd 181 = 7) (by decide) (by decide) rfl (rfl : rs 181 21 = 193) ?_
                      refine g_iload_n K dX7_readCart_191 rfl ?_
                      refine g_dup2 K dX7_readCart_192 rfl rfl ?_
                      refine g_iald (j := (11 * m)) K dX7_readCart_193 rfl ln_193 (by omega) (rfl : kd 193 = 8) (by decide) rfl ?_
                      refine g_iconst K dX7_readCart_194 kc_1 ?_
                      refine g_iadd K dX7_readCart_195 ?_
                      refine g_iast (j := (11 * m)) K dX7_readCart_196 rfl ln_193 (by omega) (rfl : kd 193 = 8) (by decide) rfl ?_
                      refine g_goto (tgt := 45) K dX7_readCart_197 (by decide) ?_
                      refine g_drop (ls2 := [_, _, _, _, none]) 4 rfl ?_
                      first
                        | exact absurd rfl u142
                        | exact absurd u142 (by decide)
                        | exact absurd rfl u160
                        | exact absurd u160 (by decide)
                        | exact ih p3 _ _ (by omega) (by
                            repeat (refine TX_w ?_ (by decide) (by decide))
                            assumption) (by
                            repeat (first | refine RdF_t ?_ | refine RdF_p ?_)
                            exact hF) (Or.inl ⟨rfl, hbad⟩)
                        | exact ih p4 _ _ (by omega) (by
                            repeat (refine TX_w ?_ (by decide) (by decide))
                            assumption) (by
                            repeat (first | refine RdF_t ?_ | refine RdF_p ?_)
                            exact hF) (Or.inl ⟨rfl, num_bad hnum2 (by decide) (by simp) hpr3 u178⟩)
                        | (refine ih p4 _ _ (by omega) (by
                             repeat (refine TX_w ?_ (by decide) (by decide))
                             assumption) (by
                             repeat (first | refine RdF_t ?_ | refine RdF_p ?_)
                             exact hF) (Or.inr ⟨rfl, x2, x1, its2 ++ [(d, x)], ?_⟩)
                           obtain ⟨hr2, hps2, hlo2, hhi2, hnd2, hpr2⟩ := hnum2.resolve_left (fun q => u178 q.1)
                           have hx10 : ¬ (x1, x2).1 = 0 := by
                             simp only
                             omega
                           refine ⟨(TL_axle g1 ⟨hlo2, hhi2⟩ ⟨hlo1, hhi1⟩ (by omega) (by rw [ha]; omega) ?_ ?_ ?_ ?_).1, ?_, ⟨hlo2, hhi2⟩, by omega, hnd2, ?_, ?_⟩
                           · rw [g2, ha, Nat.add_sub_cancel, stw_app, if_pos ⟨rfl, rfl⟩, stw_app, if_neg (by omega), stw_n (by decide), stw_n (by decide), stw_app, if_neg (by omega), stw_n (by decide), hcnt, nI_1]
                           · rw [g2, ha, Nat.add_sub_cancel, stw_app, if_neg (by omega), stw_app, if_neg (by omega), stw_n (by decide), stw_n (by decide), stw_app, if_pos ⟨rfl, rfl⟩, hr1]
                           · rw [g2, ha, Nat.add_sub_cancel, stw_app, if_neg (by omega), stw_app, if_pos ⟨rfl, rfl⟩, hr2]
                           · intro i hi1 hi2
                             rw [g2, Nat.add_sub_cancel] at hi1 hi2
                             rw [ha] at hi2
                             rw [stw_app, if_neg (by omega), stw_app, if_neg (by omega), stw_n (by decide), stw_n (by decide), stw_app, if_neg (by omega), stw_n (by decide)]
                           · rw [cntI_app, if_neg hx10, g2]
                           · rw [trI_app, if_neg hx10, ha]
                             omega
                           · rw [trI_app, if_neg hx10, ha]
                             exact hpr3.trans (hpr2 _ (by simp)))
              · have hst : p3 < n ∧ f p3 = 42 := by grind
                rw [if_pos hst]
                have hpr3 := hprd.trans (if_pos hst)
                have hX4 := TX_mv (TX_w (k := 193) (i := 11 * m + 1 + 2 * a) (v := r92) hX3 (by decide) (by decide)) (show p3 + 1 ≤ n by omega)
                refine g_iconst K dX7_readCart_123 kc_1 ?_
                refine g_goto (tgt := 128) K dX7_readCart_124 (by decide) ?_
                refine g_istore_n (ls2 := [_, _, _, some (.int _), _]) K dX7_readCart_128 (by decide) rfl ?_
                refine g_aload_n K dX7_readCart_129 rfl ?_
                refine g_getr (j := 193) K lk_X7_43 dX7_readCart_130 rfl (by decide) (rfl : kd 181 = 7) (by decide) (by decide) rfl (rfl : rs 181 21 = 193) ?_
                refine g_iload_n K dX7_readCart_133 rfl ?_
                refine g_iconst K dX7_readCart_134 kc_2 ?_
                refine g_iadd K dX7_readCart_135 ?_
                refine g_iconst K dX7_readCart_136 kc_2 ?_
                refine g_iload K dX7_readCart_137 rfl ?_
                refine g_imul K dX7_readCart_139 ?_
                refine g_iadd K dX7_readCart_140 ?_
                rw [hix2]
                refine g_iload_n K dX7_readCart_141 rfl ?_
                refine g_if_eq (tgt := 156) K dX7_readCart_142 (by decide) (fun u142 => ?_) (fun u142 => ?_)
                · refine g_bipush K dX7_readCart_156 kb_m5 ?_
                  refine g_iast (j := (11 * m + 2 + 2 * a)) K dX7_readCart_158 rfl ln_193 (by omega) (rfl : kd 193 = 8) (by decide) rfl ?_
                  refine g_iload_n K dX7_readCart_159 rfl ?_
                  refine g_if_eq (tgt := 185) K dX7_readCart_160 (by decide) (fun u160 => ?_) (fun u160 => ?_)
                  · refine g_iconst K dX7_readCart_185 kc_0 ?_
                    refine g_istore_n (ls2 := [_, _, _, some (.int _), _]) K dX7_readCart_186 (by decide) rfl ?_
                    refine g_aload_n K dX7_readCart_187 rfl ?_
                    refine g_getr (j := 193) K lk_X7_43 dX7_readCart_188 rfl (by decide) (rfl : kd 181 = 7) (by decide) (by decide) rfl (rfl : rs 181 21 = 193) ?_
                    refine g_iload_n K dX7_readCart_191 rfl ?_
                    refine g_dup2 K dX7_readCart_192 rfl rfl ?_
                    refine g_iald (j := (11 * m)) K dX7_readCart_193 rfl ln_193 (by omega) (rfl : kd 193 = 8) (by decide) rfl ?_
                    refine g_iconst K dX7_readCart_194 kc_1 ?_
                    refine g_iadd K dX7_readCart_195 ?_
                    refine g_iast (j := (11 * m)) K dX7_readCart_196 rfl ln_193 (by omega) (rfl : kd 193 = 8) (by decide) rfl ?_
                    refine g_goto (tgt := 45) K dX7_readCart_197 (by decide) ?_
                    refine g_drop (ls2 := [_, _, _, _, none]) 4 rfl ?_
                    first
                      | exact absurd rfl u142
                      | exact absurd u142 (by decide)
                      | exact absurd rfl u160
                      | exact absurd u160 (by decide)
                      | exact ih p3 _ _ (by omega) (by
                          repeat (refine TX_w ?_ (by decide) (by decide))
                          assumption) (by
                          repeat (first | refine RdF_t ?_ | refine RdF_p ?_)
                          exact hF) (Or.inl ⟨rfl, hbad⟩)
                      | exact ih p4 _ _ (by omega) (by
                          repeat (refine TX_w ?_ (by decide) (by decide))
                          assumption) (by
                          repeat (first | refine RdF_t ?_ | refine RdF_p ?_)
                          exact hF) (Or.inl ⟨rfl, num_bad hnum2 (by decide) (by simp) hpr3 u178⟩)
                      | (refine ih p4 _ _ (by omega) (by
                           repeat (refine TX_w ?_ (by decide) (by decide))
                           assumption) (by
                           repeat (first | refine RdF_t ?_ | refine RdF_p ?_)
                           exact hF) (Or.inr ⟨rfl, x2, x1, its2 ++ [(d, x)], ?_⟩)
                         obtain ⟨hr2, hps2, hlo2, hhi2, hnd2, hpr2⟩ := hnum2.resolve_left (fun q => u178 q.1)
                         have hx10 : ¬ (x1, x2).1 = 0 := by
                           simp only
                           omega
                         refine ⟨(TL_axle g1 ⟨hlo2, hhi2⟩ ⟨hlo1, hhi1⟩ (by omega) (by rw [ha]; omega) ?_ ?_ ?_ ?_).1, ?_, ⟨hlo2, hhi2⟩, by omega, hnd2, ?_, ?_⟩
                         · rw [g2, ha, Nat.add_sub_cancel, stw_app, if_pos ⟨rfl, rfl⟩, stw_app, if_neg (by omega), stw_n (by decide), stw_n (by decide), stw_app, if_neg (by omega), stw_n (by decide), hcnt, nI_1]
                         · rw [g2, ha, Nat.add_sub_cancel, stw_app, if_neg (by omega), stw_app, if_neg (by omega), stw_n (by decide), stw_n (by decide), stw_app, if_pos ⟨rfl, rfl⟩, hr1]
                         · rw [g2, ha, Nat.add_sub_cancel, stw_app, if_neg (by omega), stw_app, if_pos ⟨rfl, rfl⟩, hr2]
                         · intro i hi1 hi2
                           rw [g2, Nat.add_sub_cancel] at hi1 hi2
                           rw [ha] at hi2
                           rw [stw_app, if_neg (by omega), stw_app, if_neg (by omega), stw_n (by decide), stw_n (by decide), stw_app, if_neg (by omega), stw_n (by decide)]
                         · rw [cntI_app, if_neg hx10, g2]
                         · rw [trI_app, if_neg hx10, ha]
                           omega
                         · rw [trI_app, if_neg hx10, ha]
                           exact hpr3.trans (hpr2 _ (by simp)))
                  · refine g_aload_n K dX7_readCart_163 rfl ?_
                    refine g_getr (j := 193) K lk_X7_43 dX7_readCart_164 rfl (by decide) (rfl : kd 181 = 7) (by decide) (by decide) rfl (rfl : rs 181 21 = 193) ?_
                    refine g_iload_n K dX7_readCart_167 rfl ?_
                    refine g_iconst K dX7_readCart_168 kc_2 ?_
                    refine g_iadd K dX7_readCart_169 ?_
                    refine g_iconst K dX7_readCart_170 kc_2 ?_
                    refine g_iload K dX7_readCart_171 rfl ?_
                    refine g_imul K dX7_readCart_173 ?_
                    refine g_iadd K dX7_readCart_174 ?_
                    rw [hix2]
                    refine g_iald (j := (11 * m + 2 + 2 * a)) K dX7_readCart_175 rfl ln_193 (by omega) (rfl : kd 193 = 8) (by decide) rfl ?_
                    refine g_bipush K dX7_readCart_176 kb_m5 ?_
                    refine g_icmp_eq (tgt := 185) K dX7_readCart_178 (by decide) (fun u178 => ?_) (fun u178 => ?_)
                    · rw [stw_app, if_pos ⟨rfl, rfl⟩] at u178
                      refine g_iconst K dX7_readCart_185 kc_0 ?_
                      refine g_istore_n (ls2 := [_, _, _, some (.int _), _]) K dX7_readCart_186 (by decide) rfl ?_
                      refine g_aload_n K dX7_readCart_187 rfl ?_
                      refine g_getr (j := 193) K lk_X7_43 dX7_readCart_188 rfl (by decide) (rfl : kd 181 = 7) (by decide) (by decide) rfl (rfl : rs 181 21 = 193) ?_
                      refine g_iload_n K dX7_readCart_191 rfl ?_
                      refine g_dup2 K dX7_readCart_192 rfl rfl ?_
                      refine g_iald (j := (11 * m)) K dX7_readCart_193 rfl ln_193 (by omega) (rfl : kd 193 = 8) (by decide) rfl ?_
                      refine g_iconst K dX7_readCart_194 kc_1 ?_
                      refine g_iadd K dX7_readCart_195 ?_
                      refine g_iast (j := (11 * m)) K dX7_readCart_196 rfl ln_193 (by omega) (rfl : kd 193 = 8) (by decide) rfl ?_
                      refine g_goto (tgt := 45) K dX7_readCart_197 (by decide) ?_
                      refine g_drop (ls2 := [_, _, _, _, none]) 4 rfl ?_
                      first
                        | exact absurd rfl u142
                        | exact absurd u142 (by decide)
                        | exact absurd rfl u160
                        | exact absurd u160 (by decide)
                        | exact ih p3 _ _ (by omega) (by
                            repeat (refine TX_w ?_ (by decide) (by decide))
                            assumption) (by
                            repeat (first | refine RdF_t ?_ | refine RdF_p ?_)
                            exact hF) (Or.inl ⟨rfl, hbad⟩)
                        | exact ih p4 _ _ (by omega) (by
                            repeat (refine TX_w ?_ (by decide) (by decide))
                            assumption) (by
                            repeat (first | refine RdF_t ?_ | refine RdF_p ?_)
                            exact hF) (Or.inl ⟨rfl, num_bad hnum2 (by decide) (by simp) hpr3 u178⟩)
                        | (refine ih p4 _ _ (by omega) (by
                             repeat (refine TX_w ?_ (by decide) (by decide))
                             assumption) (by
                             repeat (first | refine RdF_t ?_ | refine RdF_p ?_)
                             exact hF) (Or.inr ⟨rfl, x2, x1, its2 ++ [(d, x)], ?_⟩)
                           obtain ⟨hr2, hps2, hlo2, hhi2, hnd2, hpr2⟩ := hnum2.resolve_left (fun q => u178 q.1)
                           have hx10 : ¬ (x1, x2).1 = 0 := by
                             simp only
                             omega
                           refine ⟨(TL_axle g1 ⟨hlo2, hhi2⟩ ⟨hlo1, hhi1⟩ (by omega) (by rw [ha]; omega) ?_ ?_ ?_ ?_).1, ?_, ⟨hlo2, hhi2⟩, by omega, hnd2, ?_, ?_⟩
                           · rw [g2, ha, Nat.add_sub_cancel, stw_app, if_pos ⟨rfl, rfl⟩, stw_app, if_neg (by omega), stw_n (by decide), stw_n (by decide), stw_app, if_neg (by omega), stw_n (by decide), hcnt, nI_1]
                           · rw [g2, ha, Nat.add_sub_cancel, stw_app, if_neg (by omega), stw_app, if_neg (by omega), stw_n (by decide), stw_n (by decide), stw_app, if_pos ⟨rfl, rfl⟩, hr1]
                           · rw [g2, ha, Nat.add_sub_cancel, stw_app, if_neg (by omega), stw_app, if_pos ⟨rfl, rfl⟩, hr2]
                           · intro i hi1 hi2
                             rw [g2, Nat.add_sub_cancel] at hi1 hi2
                             rw [ha] at hi2
                             rw [stw_app, if_neg (by omega), stw_app, if_neg (by omega), stw_n (by decide), stw_n (by decide), stw_app, if_neg (by omega), stw_n (by decide)]
                           · rw [cntI_app, if_neg hx10, g2]
                           · rw [trI_app, if_neg hx10, ha]
                             omega
                           · rw [trI_app, if_neg hx10, ha]
                             exact hpr3.trans (hpr2 _ (by simp)))
                    · rw [stw_app, if_pos ⟨rfl, rfl⟩] at u178
                      refine g_iconst K dX7_readCart_181 kc_1 ?_
                      refine g_goto (tgt := 186) K dX7_readCart_182 (by decide) ?_
                      refine g_istore_n (ls2 := [_, _, _, some (.int _), _]) K dX7_readCart_186 (by decide) rfl ?_
                      refine g_aload_n K dX7_readCart_187 rfl ?_
                      refine g_getr (j := 193) K lk_X7_43 dX7_readCart_188 rfl (by decide) (rfl : kd 181 = 7) (by decide) (by decide) rfl (rfl : rs 181 21 = 193) ?_
                      refine g_iload_n K dX7_readCart_191 rfl ?_
                      refine g_dup2 K dX7_readCart_192 rfl rfl ?_
                      refine g_iald (j := (11 * m)) K dX7_readCart_193 rfl ln_193 (by omega) (rfl : kd 193 = 8) (by decide) rfl ?_
                      refine g_iconst K dX7_readCart_194 kc_1 ?_
                      refine g_iadd K dX7_readCart_195 ?_
                      refine g_iast (j := (11 * m)) K dX7_readCart_196 rfl ln_193 (by omega) (rfl : kd 193 = 8) (by decide) rfl ?_
                      refine g_goto (tgt := 45) K dX7_readCart_197 (by decide) ?_
                      refine g_drop (ls2 := [_, _, _, _, none]) 4 rfl ?_
                      first
                        | exact absurd rfl u142
                        | exact absurd u142 (by decide)
                        | exact absurd rfl u160
                        | exact absurd u160 (by decide)
                        | exact ih p3 _ _ (by omega) (by
                            repeat (refine TX_w ?_ (by decide) (by decide))
                            assumption) (by
                            repeat (first | refine RdF_t ?_ | refine RdF_p ?_)
                            exact hF) (Or.inl ⟨rfl, hbad⟩)
                        | exact ih p4 _ _ (by omega) (by
                            repeat (refine TX_w ?_ (by decide) (by decide))
                            assumption) (by
                            repeat (first | refine RdF_t ?_ | refine RdF_p ?_)
                            exact hF) (Or.inl ⟨rfl, num_bad hnum2 (by decide) (by simp) hpr3 u178⟩)
                        | (refine ih p4 _ _ (by omega) (by
                             repeat (refine TX_w ?_ (by decide) (by decide))
                             assumption) (by
                             repeat (first | refine RdF_t ?_ | refine RdF_p ?_)
                             exact hF) (Or.inr ⟨rfl, x2, x1, its2 ++ [(d, x)], ?_⟩)
                           obtain ⟨hr2, hps2, hlo2, hhi2, hnd2, hpr2⟩ := hnum2.resolve_left (fun q => u178 q.1)
                           have hx10 : ¬ (x1, x2).1 = 0 := by
                             simp only
                             omega
                           refine ⟨(TL_axle g1 ⟨hlo2, hhi2⟩ ⟨hlo1, hhi1⟩ (by omega) (by rw [ha]; omega) ?_ ?_ ?_ ?_).1, ?_, ⟨hlo2, hhi2⟩, by omega, hnd2, ?_, ?_⟩
                           · rw [g2, ha, Nat.add_sub_cancel, stw_app, if_pos ⟨rfl, rfl⟩, stw_app, if_neg (by omega), stw_n (by decide), stw_n (by decide), stw_app, if_neg (by omega), stw_n (by decide), hcnt, nI_1]
                           · rw [g2, ha, Nat.add_sub_cancel, stw_app, if_neg (by omega), stw_app, if_neg (by omega), stw_n (by decide), stw_n (by decide), stw_app, if_pos ⟨rfl, rfl⟩, hr1]
                           · rw [g2, ha, Nat.add_sub_cancel, stw_app, if_neg (by omega), stw_app, if_pos ⟨rfl, rfl⟩, hr2]
                           · intro i hi1 hi2
                             rw [g2, Nat.add_sub_cancel] at hi1 hi2
                             rw [ha] at hi2
                             rw [stw_app, if_neg (by omega), stw_app, if_neg (by omega), stw_n (by decide), stw_n (by decide), stw_app, if_neg (by omega), stw_n (by decide)]
                           · rw [cntI_app, if_neg hx10, g2]
                           · rw [trI_app, if_neg hx10, ha]
                             omega
                           · rw [trI_app, if_neg hx10, ha]
                             exact hpr3.trans (hpr2 _ (by simp)))
                · refine g_aload_n K dX7_readCart_145 rfl ?_
                  refine g_iconst K dX7_readCart_146 kc_1 ?_
                  refine g_sipush K dX7_readCart_147 kp_200 ?_
                  refine g_callVpi K (c_X7_number (lo := 1) (hi := 200) hX4 (by decide)) mw_X7_number ml_X7_169 dX7_readCart_150 (by rfl) rfl rfl (by decide) (by simp [Value.category]) ⟨by decide, by decide⟩ ⟨by decide, by decide⟩ (fun r150 S150 h150 => ?_)
                  obtain ⟨x2, p4, hq3, hq4, hS4, hnum2⟩ := h150
                  subst hS4
                  have hX5 := TX_mv hX4 hq4
                  refine g_goto (tgt := 158) K dX7_readCart_153 (by decide) ?_
                  refine g_iast (j := (11 * m + 2 + 2 * a)) K dX7_readCart_158 rfl ln_193 (by omega) (rfl : kd 193 = 8) (by decide) rfl ?_
                  refine g_iload_n K dX7_readCart_159 rfl ?_
                  refine g_if_eq (tgt := 185) K dX7_readCart_160 (by decide) (fun u160 => ?_) (fun u160 => ?_)
                  · refine g_iconst K dX7_readCart_185 kc_0 ?_
                    refine g_istore_n (ls2 := [_, _, _, some (.int _), _]) K dX7_readCart_186 (by decide) rfl ?_
                    refine g_aload_n K dX7_readCart_187 rfl ?_
                    refine g_getr (j := 193) K lk_X7_43 dX7_readCart_188 rfl (by decide) (rfl : kd 181 = 7) (by decide) (by decide) rfl (rfl : rs 181 21 = 193) ?_
                    refine g_iload_n K dX7_readCart_191 rfl ?_
                    refine g_dup2 K dX7_readCart_192 rfl rfl ?_
                    refine g_iald (j := (11 * m)) K dX7_readCart_193 rfl ln_193 (by omega) (rfl : kd 193 = 8) (by decide) rfl ?_
                    refine g_iconst K dX7_readCart_194 kc_1 ?_
                    refine g_iadd K dX7_readCart_195 ?_
                    refine g_iast (j := (11 * m)) K dX7_readCart_196 rfl ln_193 (by omega) (rfl : kd 193 = 8) (by decide) rfl ?_
                    refine g_goto (tgt := 45) K dX7_readCart_197 (by decide) ?_
                    refine g_drop (ls2 := [_, _, _, _, none]) 4 rfl ?_
                    first
                      | exact absurd rfl u142
                      | exact absurd u142 (by decide)
                      | exact absurd rfl u160
                      | exact absurd u160 (by decide)
                      | exact ih p3 _ _ (by omega) (by
                          repeat (refine TX_w ?_ (by decide) (by decide))
                          assumption) (by
                          repeat (first | refine RdF_t ?_ | refine RdF_p ?_)
                          exact hF) (Or.inl ⟨rfl, hbad⟩)
                      | exact ih p4 _ _ (by omega) (by
                          repeat (refine TX_w ?_ (by decide) (by decide))
                          assumption) (by
                          repeat (first | refine RdF_t ?_ | refine RdF_p ?_)
                          exact hF) (Or.inl ⟨rfl, num_bad hnum2 (by decide) (by simp) hpr3 u178⟩)
                      | (refine ih p4 _ _ (by omega) (by
                           repeat (refine TX_w ?_ (by decide) (by decide))
                           assumption) (by
                           repeat (first | refine RdF_t ?_ | refine RdF_p ?_)
                           exact hF) (Or.inr ⟨rfl, x2, x1, its2 ++ [(d, x)], ?_⟩)
                         obtain ⟨hr2, hps2, hlo2, hhi2, hnd2, hpr2⟩ := hnum2.resolve_left (fun q => u178 q.1)
                         have hx10 : ¬ (x1, x2).1 = 0 := by
                           simp only
                           omega
                         refine ⟨(TL_axle g1 ⟨hlo2, hhi2⟩ ⟨hlo1, hhi1⟩ (by omega) (by rw [ha]; omega) ?_ ?_ ?_ ?_).1, ?_, ⟨hlo2, hhi2⟩, by omega, hnd2, ?_, ?_⟩
                         · rw [g2, ha, Nat.add_sub_cancel, stw_app, if_pos ⟨rfl, rfl⟩, stw_app, if_neg (by omega), stw_n (by decide), stw_n (by decide), stw_app, if_neg (by omega), stw_n (by decide), hcnt, nI_1]
                         · rw [g2, ha, Nat.add_sub_cancel, stw_app, if_neg (by omega), stw_app, if_neg (by omega), stw_n (by decide), stw_n (by decide), stw_app, if_pos ⟨rfl, rfl⟩, hr1]
                         · rw [g2, ha, Nat.add_sub_cancel, stw_app, if_neg (by omega), stw_app, if_pos ⟨rfl, rfl⟩, hr2]
                         · intro i hi1 hi2
                           rw [g2, Nat.add_sub_cancel] at hi1 hi2
                           rw [ha] at hi2
                           rw [stw_app, if_neg (by omega), stw_app, if_neg (by omega), stw_n (by decide), stw_n (by decide), stw_app, if_neg (by omega), stw_n (by decide)]
                         · rw [cntI_app, if_neg hx10, g2]
                         · rw [trI_app, if_neg hx10, ha]
                           omega
                         · rw [trI_app, if_neg hx10, ha]
                           exact hpr3.trans (hpr2 _ (by simp)))
                  · refine g_aload_n K dX7_readCart_163 rfl ?_
                    refine g_getr (j := 193) K lk_X7_43 dX7_readCart_164 rfl (by decide) (rfl : kd 181 = 7) (by decide) (by decide) rfl (rfl : rs 181 21 = 193) ?_
                    refine g_iload_n K dX7_readCart_167 rfl ?_
                    refine g_iconst K dX7_readCart_168 kc_2 ?_
                    refine g_iadd K dX7_readCart_169 ?_
                    refine g_iconst K dX7_readCart_170 kc_2 ?_
                    refine g_iload K dX7_readCart_171 rfl ?_
                    refine g_imul K dX7_readCart_173 ?_
                    refine g_iadd K dX7_readCart_174 ?_
                    rw [hix2]
                    refine g_iald (j := (11 * m + 2 + 2 * a)) K dX7_readCart_175 rfl ln_193 (by omega) (rfl : kd 193 = 8) (by decide) rfl ?_
                    refine g_bipush K dX7_readCart_176 kb_m5 ?_
                    refine g_icmp_eq (tgt := 185) K dX7_readCart_178 (by decide) (fun u178 => ?_) (fun u178 => ?_)
                    · rw [stw_app, if_pos ⟨rfl, rfl⟩] at u178
                      refine g_iconst K dX7_readCart_185 kc_0 ?_
                      refine g_istore_n (ls2 := [_, _, _, some (.int _), _]) K dX7_readCart_186 (by decide) rfl ?_
                      refine g_aload_n K dX7_readCart_187 rfl ?_
                      refine g_getr (j := 193) K lk_X7_43 dX7_readCart_188 rfl (by decide) (rfl : kd 181 = 7) (by decide) (by decide) rfl (rfl : rs 181 21 = 193) ?_
                      refine g_iload_n K dX7_readCart_191 rfl ?_
                      refine g_dup2 K dX7_readCart_192 rfl rfl ?_
                      refine g_iald (j := (11 * m)) K dX7_readCart_193 rfl ln_193 (by omega) (rfl : kd 193 = 8) (by decide) rfl ?_
                      refine g_iconst K dX7_readCart_194 kc_1 ?_
                      refine g_iadd K dX7_readCart_195 ?_
                      refine g_iast (j := (11 * m)) K dX7_readCart_196 rfl ln_193 (by omega) (rfl : kd 193 = 8) (by decide) rfl ?_
                      refine g_goto (tgt := 45) K dX7_readCart_197 (by decide) ?_
                      refine g_drop (ls2 := [_, _, _, _, none]) 4 rfl ?_
                      first
                        | exact absurd rfl u142
                        | exact absurd u142 (by decide)
                        | exact absurd rfl u160
                        | exact absurd u160 (by decide)
                        | exact ih p3 _ _ (by omega) (by
                            repeat (refine TX_w ?_ (by decide) (by decide))
                            assumption) (by
                            repeat (first | refine RdF_t ?_ | refine RdF_p ?_)
                            exact hF) (Or.inl ⟨rfl, hbad⟩)
                        | exact ih p4 _ _ (by omega) (by
                            repeat (refine TX_w ?_ (by decide) (by decide))
                            assumption) (by
                            repeat (first | refine RdF_t ?_ | refine RdF_p ?_)
                            exact hF) (Or.inl ⟨rfl, num_bad hnum2 (by decide) (by simp) hpr3 u178⟩)
                        | (refine ih p4 _ _ (by omega) (by
                             repeat (refine TX_w ?_ (by decide) (by decide))
                             assumption) (by
                             repeat (first | refine RdF_t ?_ | refine RdF_p ?_)
                             exact hF) (Or.inr ⟨rfl, x2, x1, its2 ++ [(d, x)], ?_⟩)
                           obtain ⟨hr2, hps2, hlo2, hhi2, hnd2, hpr2⟩ := hnum2.resolve_left (fun q => u178 q.1)
                           have hx10 : ¬ (x1, x2).1 = 0 := by
                             simp only
                             omega
                           refine ⟨(TL_axle g1 ⟨hlo2, hhi2⟩ ⟨hlo1, hhi1⟩ (by omega) (by rw [ha]; omega) ?_ ?_ ?_ ?_).1, ?_, ⟨hlo2, hhi2⟩, by omega, hnd2, ?_, ?_⟩
                           · rw [g2, ha, Nat.add_sub_cancel, stw_app, if_pos ⟨rfl, rfl⟩, stw_app, if_neg (by omega), stw_n (by decide), stw_n (by decide), stw_app, if_neg (by omega), stw_n (by decide), hcnt, nI_1]
                           · rw [g2, ha, Nat.add_sub_cancel, stw_app, if_neg (by omega), stw_app, if_neg (by omega), stw_n (by decide), stw_n (by decide), stw_app, if_pos ⟨rfl, rfl⟩, hr1]
                           · rw [g2, ha, Nat.add_sub_cancel, stw_app, if_neg (by omega), stw_app, if_pos ⟨rfl, rfl⟩, hr2]
                           · intro i hi1 hi2
                             rw [g2, Nat.add_sub_cancel] at hi1 hi2
                             rw [ha] at hi2
                             rw [stw_app, if_neg (by omega), stw_app, if_neg (by omega), stw_n (by decide), stw_n (by decide), stw_app, if_neg (by omega), stw_n (by decide)]
                           · rw [cntI_app, if_neg hx10, g2]
                           · rw [trI_app, if_neg hx10, ha]
                             omega
                           · rw [trI_app, if_neg hx10, ha]
                             exact hpr3.trans (hpr2 _ (by simp)))
                    · rw [stw_app, if_pos ⟨rfl, rfl⟩] at u178
                      refine g_iconst K dX7_readCart_181 kc_1 ?_
                      refine g_goto (tgt := 186) K dX7_readCart_182 (by decide) ?_
                      refine g_istore_n (ls2 := [_, _, _, some (.int _), _]) K dX7_readCart_186 (by decide) rfl ?_
                      refine g_aload_n K dX7_readCart_187 rfl ?_
                      refine g_getr (j := 193) K lk_X7_43 dX7_readCart_188 rfl (by decide) (rfl : kd 181 = 7) (by decide) (by decide) rfl (rfl : rs 181 21 = 193) ?_
                      refine g_iload_n K dX7_readCart_191 rfl ?_
                      refine g_dup2 K dX7_readCart_192 rfl rfl ?_
                      refine g_iald (j := (11 * m)) K dX7_readCart_193 rfl ln_193 (by omega) (rfl : kd 193 = 8) (by decide) rfl ?_
                      refine g_iconst K dX7_readCart_194 kc_1 ?_
                      refine g_iadd K dX7_readCart_195 ?_
                      refine g_iast (j := (11 * m)) K dX7_readCart_196 rfl ln_193 (by omega) (rfl : kd 193 = 8) (by decide) rfl ?_
                      refine g_goto (tgt := 45) K dX7_readCart_197 (by decide) ?_
                      refine g_drop (ls2 := [_, _, _, _, none]) 4 rfl ?_
                      first
                        | exact absurd rfl u142
                        | exact absurd u142 (by decide)
                        | exact absurd rfl u160
                        | exact absurd u160 (by decide)
                        | exact ih p3 _ _ (by omega) (by
                            repeat (refine TX_w ?_ (by decide) (by decide))
                            assumption) (by
                            repeat (first | refine RdF_t ?_ | refine RdF_p ?_)
                            exact hF) (Or.inl ⟨rfl, hbad⟩)
                        | exact ih p4 _ _ (by omega) (by
                            repeat (refine TX_w ?_ (by decide) (by decide))
                            assumption) (by
                            repeat (first | refine RdF_t ?_ | refine RdF_p ?_)
                            exact hF) (Or.inl ⟨rfl, num_bad hnum2 (by decide) (by simp) hpr3 u178⟩)
                        | (refine ih p4 _ _ (by omega) (by
                             repeat (refine TX_w ?_ (by decide) (by decide))
                             assumption) (by
                             repeat (first | refine RdF_t ?_ | refine RdF_p ?_)
                             exact hF) (Or.inr ⟨rfl, x2, x1, its2 ++ [(d, x)], ?_⟩)
                           obtain ⟨hr2, hps2, hlo2, hhi2, hnd2, hpr2⟩ := hnum2.resolve_left (fun q => u178 q.1)
                           have hx10 : ¬ (x1, x2).1 = 0 := by
                             simp only
                             omega
                           refine ⟨(TL_axle g1 ⟨hlo2, hhi2⟩ ⟨hlo1, hhi1⟩ (by omega) (by rw [ha]; omega) ?_ ?_ ?_ ?_).1, ?_, ⟨hlo2, hhi2⟩, by omega, hnd2, ?_, ?_⟩
                           · rw [g2, ha, Nat.add_sub_cancel, stw_app, if_pos ⟨rfl, rfl⟩, stw_app, if_neg (by omega), stw_n (by decide), stw_n (by decide), stw_app, if_neg (by omega), stw_n (by decide), hcnt, nI_1]
                           · rw [g2, ha, Nat.add_sub_cancel, stw_app, if_neg (by omega), stw_app, if_neg (by omega), stw_n (by decide), stw_n (by decide), stw_app, if_pos ⟨rfl, rfl⟩, hr1]
                           · rw [g2, ha, Nat.add_sub_cancel, stw_app, if_neg (by omega), stw_app, if_pos ⟨rfl, rfl⟩, hr2]
                           · intro i hi1 hi2
                             rw [g2, Nat.add_sub_cancel] at hi1 hi2
                             rw [ha] at hi2
                             rw [stw_app, if_neg (by omega), stw_app, if_neg (by omega), stw_n (by decide), stw_n (by decide), stw_app, if_neg (by omega), stw_n (by decide)]
                           · rw [cntI_app, if_neg hx10, g2]
                           · rw [trI_app, if_neg hx10, ha]
                             omega
                           · rw [trI_app, if_neg hx10, ha]
                             exact hpr3.trans (hpr2 _ (by simp)))
  refine g_bipush K dX7_readCart_0 kb_11 ?_
  refine g_aload_n K dX7_readCart_2 rfl ?_
  refine g_geti K lk_X7_166 dX7_readCart_3 rfl (rfl : kd 181 = 7) (by decide) (by decide) hm ?_
  refine g_imul K dX7_readCart_6 ?_
  rw [show (11 : Int32) * nI m = nI (11 * m) from pk_mul 11 m]
  refine g_istore_n (ls2 := [_, some (.int _), _, _, _]) K dX7_readCart_7 (by decide) rfl ?_
  refine g_aload_n K dX7_readCart_8 rfl ?_
  refine g_iconst K dX7_readCart_9 kc_1 ?_
  refine g_sipush K dX7_readCart_10 kp_200 ?_
  refine g_callVpi K (c_X7_number (lo := 1) (hi := 200) hX (by decide)) mw_X7_number ml_X7_169 dX7_readCart_13 (by rfl) rfl rfl (by decide) (by simp [Value.category]) ⟨by decide, by decide⟩ ⟨by decide, by decide⟩ (fun r13 S13 h13 => ?_)
  obtain ⟨x, p2, hp1, hp2, hS8, hnum⟩ := h13
  subst hS8
  refine g_istore_n (ls2 := [_, _, some (.int _), _, _]) K dX7_readCart_16 (by decide) rfl ?_
  refine g_aload_n K dX7_readCart_17 rfl ?_
  refine g_getr (j := 193) K lk_X7_43 dX7_readCart_18 rfl (by decide) (rfl : kd 181 = 7) (by decide) (by decide) rfl (rfl : rs 181 21 = 193) ?_
  refine g_iload_n K dX7_readCart_21 rfl ?_
  refine g_iconst K dX7_readCart_22 kc_1 ?_
  refine g_iast (j := (11 * m)) K dX7_readCart_23 rfl ln_193 (by omega) (rfl : kd 193 = 8) (by decide) rfl ?_
  refine g_aload_n K dX7_readCart_24 rfl ?_
  refine g_getr (j := 193) K lk_X7_43 dX7_readCart_25 rfl (by decide) (rfl : kd 181 = 7) (by decide) (by decide) rfl (rfl : rs 181 21 = 193) ?_
  refine g_iload_n K dX7_readCart_28 rfl ?_
  refine g_iconst K dX7_readCart_29 kc_2 ?_
  refine g_iadd K dX7_readCart_30 ?_
  rw [show nI (11 * m) + (2 : Int32) = nI (11 * m + 2) from nI_add _ 2]
  refine g_iload_n K dX7_readCart_31 rfl ?_
  refine g_iast (j := (11 * m + 2)) K dX7_readCart_32 rfl ln_193 (by omega) (rfl : kd 193 = 8) (by decide) rfl ?_
  refine g_iload_n K dX7_readCart_33 rfl ?_
  refine g_bipush K dX7_readCart_34 kb_m5 ?_
  refine g_icmp_eq (tgt := 43) K dX7_readCart_36 (by decide) (fun u36 => ?_) (fun u36 => ?_)
  · refine g_iconst K dX7_readCart_43 kc_0 ?_
    refine g_istore_n (ls2 := [_, _, _, some (.int _), _]) K dX7_readCart_44 (by decide) rfl ?_
    refine g_drop (ls2 := [_, _, none, _, _]) 2 rfl ?_
    rcases hnum with ⟨hr, hpr⟩ | ⟨hr, hps, hlo, hhi, hnd, hpr⟩
    · refine lp (n + 1) p2 _ _ (by omega) (TX_w (TX_w (TX_mv hX hp2) (by decide) (by decide)) (by decide) (by decide)) (RdF_t (RdF_t (RdF_p RdF_id))) (Or.inl ⟨?_, hpr _ (by simp)⟩)
      first
      | rfl
      | exact absurd hr u36
    · refine lp (n + 1) p2 _ _ (by omega) (TX_w (TX_w (TX_mv hX hp2) (by decide) (by decide)) (by decide) (by decide)) (RdF_t (RdF_t (RdF_p RdF_id))) (Or.inr ⟨?_, x, 0, its, ?_⟩)
      · first
        | rfl
        | (exfalso
           have g := nI_pos' (n := x) (by omega)
           rw [hr] at u36
           grind)
      · obtain ⟨t1, t2, t3⟩ := TL_cart (g2 := stw (stw (stw S 181 20 (nI p2)) 193 (11 * m) 1) 193 (11 * m + 2) r13 193) hT ⟨hlo, hhi⟩ (by rw [hc, stw_app, if_neg (by omega), stw_app, if_pos ⟨rfl, rfl⟩]) (by rw [hc, stw_app, if_pos ⟨rfl, rfl⟩, hr]) (fun i hi => by rw [stw_app, if_neg (by omega), stw_app, if_neg (by omega), stw_n (by decide)]) h5
        refine ⟨t1, by rw [t2, hc], ⟨hlo, hhi⟩, hps, hnd, by rw [t3]; omega, ?_⟩
        · rw [t3]
          exact hpr _ (by simp)
  · refine g_iconst K dX7_readCart_39 kc_1 ?_
    refine g_goto (tgt := 44) K dX7_readCart_40 (by decide) ?_
    refine g_istore_n (ls2 := [_, _, _, some (.int _), _]) K dX7_readCart_44 (by decide) rfl ?_
    refine g_drop (ls2 := [_, _, none, _, _]) 2 rfl ?_
    rcases hnum with ⟨hr, hpr⟩ | ⟨hr, hps, hlo, hhi, hnd, hpr⟩
    · refine lp (n + 1) p2 _ _ (by omega) (TX_w (TX_w (TX_mv hX hp2) (by decide) (by decide)) (by decide) (by decide)) (RdF_t (RdF_t (RdF_p RdF_id))) (Or.inl ⟨?_, hpr _ (by simp)⟩)
      first
      | rfl
      | exact absurd hr u36
    · refine lp (n + 1) p2 _ _ (by omega) (TX_w (TX_w (TX_mv hX hp2) (by decide) (by decide)) (by decide) (by decide)) (RdF_t (RdF_t (RdF_p RdF_id))) (Or.inr ⟨?_, x, 0, its, ?_⟩)
      · first
        | rfl
        | (exfalso
           have g := nI_pos' (n := x) (by omega)
           rw [hr] at u36
           grind)
      · obtain ⟨t1, t2, t3⟩ := TL_cart (g2 := stw (stw (stw S 181 20 (nI p2)) 193 (11 * m) 1) 193 (11 * m + 2) r13 193) hT ⟨hlo, hhi⟩ (by rw [hc, stw_app, if_neg (by omega), stw_app, if_pos ⟨rfl, rfl⟩]) (by rw [hc, stw_app, if_pos ⟨rfl, rfl⟩, hr]) (fun i hi => by rw [stw_app, if_neg (by omega), stw_app, if_neg (by omega), stw_n (by decide)]) h5
        refine ⟨t1, by rw [t2, hc], ⟨hlo, hhi⟩, hps, hnd, by rw [t3]; omega, ?_⟩
        · rw [t3]
          exact hpr _ (by simp)
