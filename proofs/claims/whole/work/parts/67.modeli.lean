/-- the whole text is being read -/
def RtI (S1 : ST) (f : Nat → Int32) (n : Nat) (m p : Nat) (y : Int32) : Prop :=
  (y = 0 ∧ parse f n = .inl p) ∨ (y = 1 ∧ ∃ L, TL (S1 193) L ∧ cntI L = m ∧ trI L 0 ≤ 5 ∧ 2 * m ≤ p + 1 ∧ ((p = n ∧ parse f n = .inr L) ∨ (p < n ∧ parse f n = if f p = 59 then prun f (n - (p + 1)) (p + 1) (0, 0, 1, 0, L) else .inl p)))
theorem RtI_of {S1 : ST} {f : Nat → Int32} {n pos m p : Nat} {its : List (Nat × Nat)} {y : Int32} (h : RdE S1 f n pos m its p y) (hp : parse f n = prun f (n - pos) pos (0, 0, 1, 0, its)) (hmp : 2 * m ≤ pos) : RtI S1 f n (m + 1) p y := by
  rcases h with ⟨h1, h2⟩ | ⟨h1, L, h2, h3, h4, h5, h6⟩
  · exact Or.inl ⟨h1, hp.trans h2⟩
  · refine Or.inr ⟨h1, L, h2, h3, h4, by omega, ?_⟩
    rw [hp]
    exact h6
def RtF (S S1 : ST) : Prop := (∀ k, k ≠ 181 → k ≠ 193 → S1 k = S k) ∧ ∀ j, j ≠ 20 → j ≠ 22 → S1 181 j = S 181 j
theorem RtF_rd {S S1 S2 : ST} {v : Int32} (h : RtF S S1) (h2 : RdF S1 S2) : RtF S (stw S2 181 22 v) :=
  ⟨fun k a b => by rw [stw_n a]; exact (h2.1 k a b).trans (h.1 k a b), fun j a b => by rw [stw_app, if_neg (fun q => b q.2)]; exact (h2.2 j a).trans (h.2 j a b)⟩
theorem RtF_p {S S1 : ST} {v : Int32} (h : RtF S S1) : RtF S (stw S1 181 20 v) := ⟨fun k a b => by rw [stw_n a]; exact h.1 k a b, fun j a b => by rw [stw_app, if_neg (fun q => a q.2)]; exact h.2 j a b⟩
theorem TX_m {S : ST} {f : Nat → Int32} {n pos : Nat} {v : Int32} (h : TX S f n pos) : TX (stw S 181 22 v) f n pos :=
  ⟨by rw [stw_app, if_neg (by decide)]; exact h.1, h.2.1, by rw [stw_app, if_neg (by decide)]; exact h.2.2.1, h.2.2.2.1, fun j hj => by rw [stw_n (by decide)]; exact h.2.2.2.2 j hj⟩
theorem TL_nil {g : Nat → Int32} : TL g [] := ⟨trivial, trivial, fun h => absurd h (by decide)⟩
set_option maxHeartbeats 4000000 in
set_option maxRecDepth 100000 in
theorem c_X7_readText {l : Launch} {b : Nat} {D : va_G} {cA : Nat → ClassId} {ad : Nat → Nat} {S : ST} {f : Nat → Int32} {n : Nat} (hL : S 181 6 = nI n) (hn60 : n ≤ 60) (hf : ∀ i, i < n → S 185 i = f i) : MT l b D cA NN ad zT yX7_readText cX7_readText 2 (some .boolean) 4 [.ref (ad 181)] S (RI (fun r S2 => ∃ p m, TX S2 f n p ∧ RtF S S2 ∧ S2 181 22 = nI m ∧ ((r = 0 ∧ parse f n = .inl p) ∨ (r = 1 ∧ ∃ L, TL (S2 193) L ∧ cntI L = m ∧ parse f n = .inr L)))) := by
  have hX0 : TX (stw (stw S 181 20 0) 181 22 0) f n 0 := ⟨by rw [stw_app, if_neg (by decide), stw_app, if_pos ⟨rfl, rfl⟩]; rfl, Nat.zero_le _, by rw [stw_app, if_neg (by decide), stw_app, if_neg (by decide)]; exact hL, hn60, fun j hj => by rw [stw_n (by decide), stw_n (by decide)]; exact hf j hj⟩
  have hF0 : RtF S (stw (stw S 181 20 0) 181 22 0) := ⟨fun k a b => by rw [stw_n a, stw_n a], fun j a b => by rw [stw_app, if_neg (fun q => b q.2), stw_app, if_neg (fun q => a q.2)]⟩
  have h01 : ∀ r : Int32, (r = 0 ∨ r = 1) → (r = 0 ∨ r = 1) := fun _ h => h
  refine MT.intro (j := 1) (ls := [some (.ref (ad 181)), none]) pn_X7 rfl rfl rfl (fun pr en s0 mi below meth c' K _ => ?_)
  have lp : ∀ (fuel : Nat) (p m : Nat) (y : Int32) (S1 : ST), (n + 2 ≤ p + fuel ∨ (y = 0 ∧ 1 ≤ fuel)) → (TX S1 f n p) → (RtF S S1) → (S1 181 22 = nI m) → (RtI S1 f n m p y) → G pr l en (rmd 4) s0 mi (List.toArray [.ref (ad 181)]) below meth c' (MQ below (QQ b D cA NN ad zT (RI (fun r S2 => ∃ p m, TX S2 f n p ∧ RtF S S2 ∧ S2 181 22 = nI m ∧ ((r = 0 ∧ parse f n = .inl p) ∨ (r = 1 ∧ ∃ L, TL (S2 193) L ∧ cntI L = m ∧ parse f n = .inr L))))) (List.toArray [.ref (ad 181)]) s0 0 0 (aF b)) b D cA 2 NN ad zT 0 0 15 [some (.ref (ad 181)), some (.int y)] [] S1 := by
    intro fuel
    induction fuel with
    | zero =>
      intro p m  y  S1  hif hX hF hm hI
      exact absurd hif (by have := hX.2.1; omega)
    | succ fuel ih =>
      intro p m  y  S1  hif hX hF hm hI
      refine g_iload_n K dX7_readText_15 rfl ?_
      refine g_if_eq (tgt := 55) K dX7_readText_16 (by decide) (fun u16 => ?_) (fun u16 => ?_)
      · refine g_iload_n K dX7_readText_55 rfl ?_
        refine g_zret K dX7_readText_56 (hI.elim (fun q => Or.inl q.1) (fun q => Or.inr q.1)) ⟨_, rfl, ?_⟩
        refine ⟨p, m, hX, hF, hm, ?_⟩
        rcases hI with h | ⟨hy, L, g1, g2, g3, g4, g5⟩
        · exact Or.inl h
        · first
          | (rw [u16] at hy; exact absurd hy (by decide))
          | exact Or.inr ⟨hy, L, g1, g2, (g5.resolve_right (fun q => by omega)).2⟩
      · refine g_aload_n K dX7_readText_19 rfl ?_
        refine g_geti K lk_X7_160 dX7_readText_20 rfl (rfl : kd 181 = 7) (by decide) (by decide) hX.1 ?_
        refine g_aload_n K dX7_readText_23 rfl ?_
        refine g_geti K lk_X7_157 dX7_readText_24 rfl (rfl : kd 181 = 7) (by decide) (by decide) hX.2.2.1 ?_
        refine g_icmp_ge (tgt := 55) K dX7_readText_27 (by decide) (fun u27 => ?_) (fun u27 => ?_)
        · have hpn : p = n := by
            have := hX.2.1
            rw [nI_leI (by omega) (by omega)] at u27
            omega
          refine g_iload_n K dX7_readText_55 rfl ?_
          refine g_zret K dX7_readText_56 (hI.elim (fun q => Or.inl q.1) (fun q => Or.inr q.1)) ⟨_, rfl, ?_⟩
          refine ⟨p, m, hX, hF, hm, ?_⟩
          rcases hI with h | ⟨hy, L, g1, g2, g3, g4, g5⟩
          · exact Or.inl h
          · first
            | (rw [u16] at hy; exact absurd hy (by decide))
            | exact Or.inr ⟨hy, L, g1, g2, (g5.resolve_right (fun q => by omega)).2⟩
        · have hpn : p < n := by
            have := hX.2.1
            rw [nI_leI (by omega) (by omega)] at u27
            omega
          obtain ⟨hy, L, g1, g2, g3, g4, g5⟩ := hI.resolve_left (fun q => u16 q.1)
          have hif2 := hif.resolve_right (fun q => u16 q.1)
          have g6 := (g5.resolve_left (fun q => by omega)).2
          refine g_aload_n K dX7_readText_30 rfl ?_
          refine g_bipush K dX7_readText_31 kb_59 ?_
          refine g_callVi K (c_X7_takes (x := 59) hX) mw_X7_takes ml_X7_172 dX7_readText_33 (by rfl) rfl rfl (by decide) (by simp [Value.category]) ⟨by decide, by decide⟩ ⟨by decide, by decide⟩ ?_
          refine g_if_eq (tgt := 50) K dX7_readText_36 (by decide) (fun u36 => ?_) (fun u36 => ?_)
          · have hs : ¬ (p < n ∧ f p = 59) := by grind
            rw [if_neg hs, stw_id hX.1]
            refine g_iconst K dX7_readText_50 kc_0 ?_
            refine g_istore_n (ls2 := [_, some (.int _)]) K dX7_readText_51 (by decide) rfl ?_
            refine g_goto (tgt := 15) K dX7_readText_52 (by decide) ?_
            first
              | exact ih p m _ _ (Or.inr ⟨rfl, by omega⟩) hX hF hm (Or.inl ⟨rfl, g6.trans (if_neg (fun q => hs ⟨hpn, q⟩))⟩)
              | (have h1 := hE2.resolve_left (fun q => by first | exact u43 q.1 | (rw [q.1] at u43; exact absurd u43 (by decide)))
                 refine ih p2 (m + 1) _ _ (Or.inl (by obtain ⟨_, _, _, _, _, k, _⟩ := h1; omega)) (TX_m hX2) (RtF_rd (RtF_p hF) hF2) (by rw [stw_app, if_pos ⟨rfl, rfl⟩]) (RtI_of (y := 1) (pos := p + 1) (its := L) ?_ g6 (by omega))
                 unfold RdE
                 rw [stw_n (by decide)]
                 exact Or.inr ⟨rfl, h1.2⟩)
              | (have h1 := hE2.resolve_right (fun q => by rw [q.1] at u43; exact absurd u43 (by decide))
                 refine ih p2 (m + 1) _ _ (Or.inr ⟨rfl, by omega⟩) (TX_m hX2) (RtF_rd (RtF_p hF) hF2) (by rw [stw_app, if_pos ⟨rfl, rfl⟩]) (RtI_of (y := 0) (pos := p + 1) (its := L) (Or.inl ⟨rfl, h1.2⟩) g6 (by omega)))
          · have hs : p < n ∧ f p = 59 := by grind
            rw [if_pos hs]
            rw [if_pos hs.2] at g6
            refine g_aload_n K dX7_readText_39 rfl ?_
            refine g_callVpi K (c_X7_readCart (m := m) (its := L) (TX_mv hX (show p + 1 ≤ n by omega)) (by rw [stw_app, if_neg (by decide)]; exact hm) (by omega) (by rw [stw_n (by decide)]; exact g1) g2 g3) mw_X7_readCart ml_X7_175 dX7_readText_40 (by rfl) rfl rfl (by decide) (by simp [Value.category]) ⟨by decide, by decide⟩ ⟨by decide, by decide⟩ (fun r40 S40 h40 => ?_)
            obtain ⟨p2, S2, hS2, hX2, hF2, hE2⟩ := h40
            subst hS2
            refine g_if_eq (tgt := 50) K dX7_readText_43 (by decide) (fun u43 => ?_) (fun u43 => ?_)
            · refine g_iconst K dX7_readText_50 kc_0 ?_
              refine g_istore_n (ls2 := [_, some (.int _)]) K dX7_readText_51 (by decide) rfl ?_
              refine g_goto (tgt := 15) K dX7_readText_52 (by decide) ?_
              first
                | exact ih p m _ _ (Or.inr ⟨rfl, by omega⟩) hX hF hm (Or.inl ⟨rfl, g6.trans (if_neg (fun q => hs ⟨hpn, q⟩))⟩)
                | (have h1 := hE2.resolve_left (fun q => by first | exact u43 q.1 | (rw [q.1] at u43; exact absurd u43 (by decide)))
                   refine ih p2 (m + 1) _ _ (Or.inl (by obtain ⟨_, _, _, _, _, k, _⟩ := h1; omega)) (TX_m hX2) (RtF_rd (RtF_p hF) hF2) (by rw [stw_app, if_pos ⟨rfl, rfl⟩]) (RtI_of (y := 1) (pos := p + 1) (its := L) ?_ g6 (by omega))
                   unfold RdE
                   rw [stw_n (by decide)]
                   exact Or.inr ⟨rfl, h1.2⟩)
                | (have h1 := hE2.resolve_right (fun q => by rw [q.1] at u43; exact absurd u43 (by decide))
                   refine ih p2 (m + 1) _ _ (Or.inr ⟨rfl, by omega⟩) (TX_m hX2) (RtF_rd (RtF_p hF) hF2) (by rw [stw_app, if_pos ⟨rfl, rfl⟩]) (RtI_of (y := 0) (pos := p + 1) (its := L) (Or.inl ⟨rfl, h1.2⟩) g6 (by omega)))
            · refine g_iconst K dX7_readText_46 kc_1 ?_
              refine g_goto (tgt := 51) K dX7_readText_47 (by decide) ?_
              refine g_istore_n (ls2 := [_, some (.int _)]) K dX7_readText_51 (by decide) rfl ?_
              refine g_goto (tgt := 15) K dX7_readText_52 (by decide) ?_
              first
                | exact ih p m _ _ (Or.inr ⟨rfl, by omega⟩) hX hF hm (Or.inl ⟨rfl, g6.trans (if_neg (fun q => hs ⟨hpn, q⟩))⟩)
                | (have h1 := hE2.resolve_left (fun q => by first | exact u43 q.1 | (rw [q.1] at u43; exact absurd u43 (by decide)))
                   refine ih p2 (m + 1) _ _ (Or.inl (by obtain ⟨_, _, _, _, _, k, _⟩ := h1; omega)) (TX_m hX2) (RtF_rd (RtF_p hF) hF2) (by rw [stw_app, if_pos ⟨rfl, rfl⟩]) (RtI_of (y := 1) (pos := p + 1) (its := L) ?_ g6 (by omega))
                   unfold RdE
                   rw [stw_n (by decide)]
                   exact Or.inr ⟨rfl, h1.2⟩)
                | (have h1 := hE2.resolve_right (fun q => by rw [q.1] at u43; exact absurd u43 (by decide))
                   refine ih p2 (m + 1) _ _ (Or.inr ⟨rfl, by omega⟩) (TX_m hX2) (RtF_rd (RtF_p hF) hF2) (by rw [stw_app, if_pos ⟨rfl, rfl⟩]) (RtI_of (y := 0) (pos := p + 1) (its := L) (Or.inl ⟨rfl, h1.2⟩) g6 (by omega)))
  refine g_aload_n K dX7_readText_0 rfl ?_
  refine g_iconst K dX7_readText_1 kc_0 ?_
  refine g_puti K lk_X7_160 lq_X7_20 dX7_readText_2 (put_i _) rfl (rfl : kd 181 = 7) (by decide) (by decide) ?_
  refine g_aload_n K dX7_readText_5 rfl ?_
  refine g_iconst K dX7_readText_6 kc_0 ?_
  refine g_puti K lk_X7_166 lq_X7_22 dX7_readText_7 (put_i _) rfl (rfl : kd 181 = 7) (by decide) (by decide) ?_
  refine g_aload_n K dX7_readText_10 rfl ?_
  refine g_callVpi K (c_X7_readCart (m := 0) (its := []) hX0 (by rw [stw_app, if_pos ⟨rfl, rfl⟩]; rfl) (Nat.le_refl _) TL_nil rfl (by decide)) mw_X7_readCart ml_X7_175 dX7_readText_11 (by rfl) rfl rfl (by decide) (by simp [Value.category]) ⟨by decide, by decide⟩ ⟨by decide, by decide⟩ (fun r11 S11 h11 => ?_)
  obtain ⟨p1, S1, hS1, hX1, hF1, hE1⟩ := h11
  subst hS1
  refine g_istore_n (ls2 := [_, some (.int _)]) K dX7_readText_14 (by decide) rfl ?_
  exact lp (n + 2) p1 1 _ _ (Or.inl (by omega)) (TX_m hX1) (RtF_rd hF0 hF1) (by rw [stw_app, if_pos ⟨rfl, rfl⟩]) (RtI_of (by unfold RdE at *; rw [stw_n (by decide)]; exact hE1) rfl (Nat.le_refl _))
