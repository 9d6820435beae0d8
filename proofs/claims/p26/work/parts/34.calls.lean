/-! THE CALLS, in numbers: the answer, and the state then -/
def cK (c : Int32) : Nat := c.toNatClampNeg
theorem cK_nI {i : Nat} (h : i < 2 ^ 31) : cK (nI i) = i := nI_clamp h
def qA (A : AS) (c : Int32) : Nat → Int32 := qOf (aZ A) (cK c)
def o_cart (A : AS) (w : Int32) : Int32 × AS := if 1 ≤ w ∧ w ≤ 200 then (if aZ A 6 = 6 then (-3, A) else (aZ A 6, setZ (recA A) (newCartZ (aZ A) (cK (aZ A 6)) w))) else (-2, A)
def o_axle (A : AS) (c d w : Int32) : Int32 × AS := if 0 ≤ c ∧ c < aZ A 6 then (if (2 ≤ d ∧ d ≤ 40) ∧ 1 ≤ w ∧ w ≤ 200 then (if qA A c 0 = 5 then (-3, A) else (qA A c 0 + 1, setZ (recA A) (newAxleZ (aZ A) (cK c) (nQ (qA A c)) d w))) else (-2, A)) else (-1, A)
def axOk (A : AS) (c a : Int32) : Prop := (0 ≤ c ∧ c < aZ A 6) ∧ 0 ≤ a ∧ a < qA A c 0
def o_load (A : AS) (c a w : Int32) : Int32 × AS := if (0 ≤ c ∧ c < aZ A 6) ∧ 0 ≤ a ∧ a < qA A c 0 then (if 1 ≤ w ∧ w ≤ 200 then (if wQ (qA A c) (cK a) = w then (-5, A) else (wQ (qA A c) (cK a), setZ (recA A) (lay (aZ A) (cK c) (5 + cK a) w))) else (-2, A)) else (-1, A)
def o_lift (A : AS) (c a u : Int32) : Int32 × AS := if (0 ≤ c ∧ c < aZ A 6) ∧ 0 ≤ a ∧ a < qA A c 0 then (if ¬ u = 0 ∧ lQ (qA A c) (cK a) = 0 ∧ downF (lQ (qA A c)) (nQ (qA A c)) = 1 then (-4, A) else if u = lQ (qA A c) (cK a) then (-5, A) else (downF (lQ (qOf (lay (aZ A) (cK c) (15 + cK a) u) (cK c))) (nQ (qA A c)), setZ (recA A) (lay (aZ A) (cK c) (15 + cK a) u))) else (-1, A)
noncomputable def runZ (z : Nat → Int32) (k : Nat) (s : Int32) : Nat → Int32 := lay (lay (lay z k 2 (twQ z (qOf z k) s)) k 3 s) k 4 (wtQ (qOf z k) s)
noncomputable def runZ2 (z : Nat → Int32) (k : Nat) (s : Int32) : Nat → Int32 := upd (runZ z k s) 7 (z 7 + 1)
noncomputable def runZ3 (z : Nat → Int32) (k : Nat) (s : Int32) : Nat → Int32 := if rsQ z (qOf z k) s = 0 then upd (runZ2 z k s) 8 (z 8 + 1) else runZ2 z k s
noncomputable def o_run (A : AS) (c s : Int32) : Int32 × AS := if 0 ≤ c ∧ c < aZ A 6 then (if 1 ≤ s ∧ s ≤ 9 then (if rsQ (aZ A) (qA A c) s = 0 then lvQ (aZ A) (qA A c) s 2 else -10 - rsQ (aZ A) (qA A c) s, setZ (recA A) (runZ3 (aZ A) (cK c) s)) else (-2, A)) else (-1, A)
def o_tare (A : AS) (c : Int32) : Int32 × AS := if 0 ≤ c ∧ c < aZ A 6 then (if qA A c 2 = -5 then (-4, A) else if qA A c 2 = qA A c 1 then (-5, A) else (qA A c 2, setZ (recA A) (lay (aZ A) (cK c) 1 (qA A c 2)))) else (-1, A)
def o_set (A : AS) (i v : Int32) : Int32 × AS := if 0 ≤ i ∧ i < 6 then (if leastS (cK i) ≤ v ∧ v ≤ mostS (cK i) then (if aZ A (cK i) = v then (-5, A) else (aZ A (cK i), setZ (recA A) (upd (aZ A) (cK i) v))) else (-2, A)) else (-2, A)
def o_undo (A : AS) : Int32 × AS := if aM A = 0 then (-5, A) else (nI (aM A - 1), (aP A (aM A - 1), aM A - 1, A.2.2))
def o_keep (A : AS) : Int32 × AS := (aZ A 6, (aZ A, aM A, aP A, 1, aZ A, A.2.2.2.2.2))
def o_restore (A : AS) : Int32 × AS := if aK A = 0 then (-5, A) else (aKZ A 6, setZ (recA A) (aKZ A))
def o_type (A : AS) (ch : Int32) : Int32 × AS := if aL A = 60 then (-3, A) else (nI (aL A + 1), (aZ A, aM A, aP A, aK A, aKZ A, aL A + 1, upd (aT A) (aL A) ch))
def o_clear (A : AS) : Int32 × AS := (nI (aL A), (aZ A, aM A, aP A, aK A, aKZ A, 0, aT A))
def CPost (o : Int32 × AS) (S : ST) : Int32 → ST → Prop := fun r S2 => r = o.1 ∧ (∃ n2, CRel S2 o.2 n2) ∧ ∀ k, 181 ≤ k → S2 k = S k
theorem cp_err {o : Int32 × AS} {S : ST} {A : AS} {n : Nat} {r : Int32} (h : o = (r, A)) (hA : CRel S A n) : CPost o S r S := by
  subst h
  exact ⟨rfl, ⟨n, hA⟩, fun _ _ => rfl⟩
theorem cp_ok {o : Int32 × AS} {S S2 : ST} {A : AS} {n : Nat} {r : Int32} (h : o = (r, A)) (hA : CRel S2 A n) (hF : ∀ k, 181 ≤ k → S2 k = S k) : CPost o S r S2 := by
  subst h
  exact ⟨rfl, ⟨n, hA⟩, hF⟩
theorem CartOk.q0 {q : Nat → Int32} {N : Nat} (h : CartOk q N) : q 0 = nI N := h.1
theorem nI6 {n : Nat} (h : n ≤ 6) : nI n = 6 ↔ n = 6 := nI_eq (b := 6) (by omega) (by decide)
theorem nI5 {n : Nat} (h : n ≤ 6) : nI n = 5 ↔ n = 5 := nI_eq (b := 5) (by omega) (by decide)

set_option maxHeartbeats 4000000 in
set_option maxRecDepth 100000 in
theorem c_X6_cart {l : Launch} {b : Nat} {D : va_G} {cA : Nat → ClassId} {ad : Nat → Nat} {S : ST} {A : AS} {n : Nat} {x : Int32} (hA : CRel S A n) : MT l b D cA NN ad zT yX6_cart cX6_cart 2 (some .int) 4 [.ref (ad 0), .int x] S (RI (CPost (o_cart A x) S)) := by
  obtain ⟨hb, hH⟩ := hA.2.1
  have n6 := hA.1.n6
  have hn := hA.1.n
  have hz6 : aZ A 6 = nI n := hA.1.1.2.1
  obtain ⟨hR, hRf⟩ := rem_rel hH hA
  refine MT.intro (j := 0) (ls := [some (.ref (ad 0)), some (.int x)]) pn_X6 rfl rfl rfl (fun pr en s0 mi below meth c' K _ => ?_)
  refine g_iload_n K dX6_cart_0 rfl ?_
  refine g_callSi K c_X6_isWeight mw_X6_isWeight ml_X6_48 dX6_cart_1 (by rfl) rfl (by simp [Value.category]) ⟨by decide, by decide⟩ ⟨by decide, by decide⟩ ?_
  refine g_if_ne (tgt := 10) K dX6_cart_4 (by decide) (fun u4 => ?_) (fun u4 => ?_)
  · refine g_aload_n K dX6_cart_10 rfl ?_
    refine g_getr (j := 1) K lk_X6_10 dX6_cart_11 rfl (by decide) (rfl : kd 0 = 6) (by decide) (by decide) rfl (rfl : rs 0 0 = 1) ?_
    refine g_geti K lk_X6_52 dX6_cart_14 rfl (rfl : kd 1 = 5) (by decide) (by decide) hn ?_
    refine g_bipush K dX6_cart_17 kb_6 ?_
    refine g_icmp_lt (tgt := 25) K dX6_cart_19 (by decide) (fun u19 => ?_) (fun u19 => ?_)
    · have h6 : n < 6 := by rw [show (6 : Int32) = nI 6 from rfl, nI_ltI (by omega) (by omega)] at u19; exact u19
      refine g_aload_n K dX6_cart_25 rfl ?_
      refine g_getr (j := 55) K lk_X6_22 dX6_cart_26 rfl (by decide) (rfl : kd 0 = 6) (by decide) (by decide) rfl (rfl : rs 0 2 = 55) ?_
      refine g_aload_n K dX6_cart_29 rfl ?_
      refine g_getr (j := 1) K lk_X6_10 dX6_cart_30 rfl (by decide) (rfl : kd 0 = 6) (by decide) (by decide) rfl (rfl : rs 0 0 = 1) ?_
      refine g_callVv K (c_X2_remember hH.1 hH.2.2.1 hH.2.2.2.1 (hA.2.2.2.1.fits (Or.inl rfl))) mw_X2_remember ml_X6_56 dX6_cart_33 (by rfl) rfl rfl (by decide) (by simp [Value.category]) ⟨by decide, by decide⟩ ⟨by decide, by decide⟩ ?_
      refine g_aload_n K dX6_cart_36 rfl ?_
      refine g_getr (j := 1) K lk_X6_10 dX6_cart_37 rfl (by decide) (rfl : kd 0 = 6) (by decide) (by decide) rfl (rfl : rs 0 0 = 1) ?_
      refine g_iload_n K dX6_cart_40 rfl ?_
      refine g_callVv K (c_X5_addCart st_1 hR.1.n h6) mw_X5_addCart ml_X6_60 dX6_cart_41 (by rfl) rfl rfl (by decide) (by simp [Value.category]) ⟨by decide, by decide⟩ ⟨by decide, by decide⟩ ?_
      refine g_aload_n K dX6_cart_44 rfl ?_
      refine g_getr (j := 1) K lk_X6_10 dX6_cart_45 rfl (by decide) (rfl : kd 0 = 6) (by decide) (by decide) rfl (rfl : rs 0 0 = 1) ?_
      refine g_geti K lk_X6_52 dX6_cart_48 rfl (rfl : kd 1 = 5) (by decide) (by decide) (show addC (remS S hb (aM A)) 1 n x 1 2 = nI (n + 1) by rw [addC_app, if_pos ⟨rfl, rfl⟩]) ?_
      refine g_iconst K dX6_cart_51 kc_1 ?_
      refine g_isub K dX6_cart_52 ?_
      refine g_iret K dX6_cart_53 ⟨_, rfl, ?_⟩
      have hw : 1 ≤ x ∧ x ≤ 200 := by grind
      refine cp_ok ?_ (cart_rel hR h6 hw).1 (fun k hk => ?_)
      · unfold o_cart
        rw [if_pos hw, hz6, if_neg (by rw [nI6 n6]; omega), nI_pred, cK_nI (by omega)]
        rfl
      · unfold addC
        rw [stw_n (by omega), begC_n (by omega), hRf k (by omega)]
    · have h6 : n = 6 := by rw [show (6 : Int32) = nI 6 from rfl, nI_ltI (by omega) (by omega)] at u19; omega
      refine g_bipush K dX6_cart_22 kb_m3 ?_
      refine g_iret K dX6_cart_24 ⟨_, rfl, ?_⟩
      exact cp_err (by unfold o_cart; rw [hz6, h6]; grind [nI6]) hA
  · refine g_bipush K dX6_cart_7 kb_m2 ?_
    refine g_iret K dX6_cart_9 ⟨_, rfl, ?_⟩
    exact cp_err (by unfold o_cart; grind) hA
set_option maxHeartbeats 4000000 in
set_option maxRecDepth 100000 in
theorem c_X6_axle {l : Launch} {b : Nat} {D : va_G} {cA : Nat → ClassId} {ad : Nat → Nat} {S : ST} {A : AS} {n : Nat} {x y w : Int32} (hA : CRel S A n) : MT l b D cA NN ad zT yX6_axle cX6_axle 5 (some .int) 4 [.ref (ad 0), .int x, .int y, .int w] S (RI (CPost (o_axle A x y w) S)) := by
  obtain ⟨hb, hH⟩ := hA.2.1
  have n6 := hA.1.n6
  have hn := hA.1.n
  have hz6 : aZ A 6 = nI n := hA.1.1.2.1
  obtain ⟨hR, hRf⟩ := rem_rel hH hA
  refine MT.intro (j := 1) (ls := [some (.ref (ad 0)), some (.int x), some (.int y), some (.int w), none]) pn_X6 rfl rfl rfl (fun pr en s0 mi below meth c' K _ => ?_)
  refine g_aload_n K dX6_axle_0 rfl ?_
  refine g_getr (j := 1) K lk_X6_10 dX6_axle_1 rfl (by decide) (rfl : kd 0 = 6) (by decide) (by decide) rfl (rfl : rs 0 0 = 1) ?_
  refine g_iload_n K dX6_axle_4 rfl ?_
  refine g_callV K (c_X5_findCart st_1 hn n6) mw_X5_findCart ml_X6_64 dX6_axle_5 rfl (by decide) ⟨_, rfl, rfl⟩ (by decide) (by rfl) (by simp [Value.category]) ⟨by decide, by decide⟩ ⟨by decide, by decide⟩ (fun v5 S5 h5 => ?_)
  obtain ⟨hSe, hf⟩ := h5
  rw [hSe]
  clear hSe
  rcases hf with ⟨i, hi, hx, rfl⟩ | ⟨hx, rfl⟩
  · obtain ⟨N, hq, hr⟩ := hA.1.cart hi
    have hN5 := hq.2.2.1
    have hN1 := hq.2.1
    have hk : cK x = i := by rw [hx]; exact cK_nI (by omega)
    have hqA : qA A x = qOf (aZ A) i := by unfold qA; rw [hk]
    have hcx : 0 ≤ x ∧ x < aZ A 6 := by rw [hx, hz6]; exact ⟨nI_pos' (by omega), nI_lt hi (by omega)⟩
    have hnq : nQ (qOf (aZ A) i) = N := nQ_eq hq
    have hq0 : qOf (aZ A) i 0 = nI N := hq.1
    refine g_astore (ls2 := [_, _, _, _, some (.ref _)]) K dX6_axle_8 (by decide) rfl ?_
    refine g_aload K dX6_axle_10 rfl ?_
    refine g_ifnonnull (tgt := 17) K dX6_axle_12 (by decide) ?_
    refine g_iload_n K dX6_axle_17 rfl ?_
    refine g_callSi K c_X6_isDistance mw_X6_isDistance ml_X6_68 dX6_axle_18 (by rfl) rfl (by simp [Value.category]) ⟨by decide, by decide⟩ ⟨by decide, by decide⟩ ?_
    refine g_if_eq (tgt := 31) K dX6_axle_21 (by decide) (fun u21 => ?_) (fun u21 => ?_)
    · refine g_bipush K dX6_axle_31 kb_m2 ?_
      refine g_iret K dX6_axle_33 ⟨_, rfl, ?_⟩
      exact cp_err (by unfold o_axle; grind) hA
    · refine g_iload_n K dX6_axle_24 rfl ?_
      refine g_callSi K c_X6_isWeight mw_X6_isWeight ml_X6_48 dX6_axle_25 (by rfl) rfl (by simp [Value.category]) ⟨by decide, by decide⟩ ⟨by decide, by decide⟩ ?_
      refine g_if_ne (tgt := 34) K dX6_axle_28 (by decide) (fun u28 => ?_) (fun u28 => ?_)
      · refine g_aload K dX6_axle_34 rfl ?_
        refine g_geti K lk_X6_71 dX6_axle_36 rfl (st_1.cart (i := i) (by omega)).k0 (st_1.cart (i := i) (by omega)).n0 (by decide) hr.1 ?_
        refine g_iconst K dX6_axle_39 kc_5 ?_
        refine g_icmp_lt (tgt := 46) K dX6_axle_40 (by decide) (fun u40 => ?_) (fun u40 => ?_)
        · have h5 : N < 5 := by rw [show (5 : Int32) = nI 5 from rfl, nI_ltI (by omega) (by omega)] at u40; exact u40
          refine g_aload_n K dX6_axle_46 rfl ?_
          refine g_getr (j := 55) K lk_X6_22 dX6_axle_47 rfl (by decide) (rfl : kd 0 = 6) (by decide) (by decide) rfl (rfl : rs 0 2 = 55) ?_
          refine g_aload_n K dX6_axle_50 rfl ?_
          refine g_getr (j := 1) K lk_X6_10 dX6_axle_51 rfl (by decide) (rfl : kd 0 = 6) (by decide) (by decide) rfl (rfl : rs 0 0 = 1) ?_
          refine g_callVv K (c_X2_remember hH.1 hH.2.2.1 hH.2.2.2.1 (hA.2.2.2.1.fits (Or.inl rfl))) mw_X2_remember ml_X6_56 dX6_axle_54 (by rfl) rfl rfl (by decide) (by simp [Value.category]) ⟨by decide, by decide⟩ ⟨by decide, by decide⟩ ?_
          refine g_aload K dX6_axle_57 rfl ?_
          refine g_iload_n K dX6_axle_59 rfl ?_
          refine g_iload_n K dX6_axle_60 rfl ?_
          refine g_callVv K (c_X0_addAxle (st_1.cart (i := i) (by omega)) (hR.1.2.2.2 i hi N hq).1 h5) mw_X0_addAxle ml_X6_76 dX6_axle_61 (by rfl) rfl (by rw [(st_1.cart (i := i) (by omega)).k0]; rfl) (st_1.cart (i := i) (by omega)).n0 (by simp [Value.category]) ⟨by decide, by decide⟩ ⟨by decide, by decide⟩ ?_
          refine g_aload K dX6_axle_64 rfl ?_
          refine g_geti K lk_X6_71 dX6_axle_66 rfl (st_1.cart (i := i) (by omega)).k0 (st_1.cart (i := i) (by omega)).n0 (by decide) (show addAx (remS _ hb (aM A)) (1 + 3 + 4 * i) N y w (1 + 3 + 4 * i) 3 = nI (N + 1) by rw [addAx_app, if_pos ⟨rfl, rfl⟩]) ?_
          refine g_iret K dX6_axle_69 ⟨_, rfl, ?_⟩
          have hd : 2 ≤ y ∧ y ≤ 40 := by grind
          have hw : 1 ≤ w ∧ w ≤ 200 := by grind
          refine cp_ok ?_ (axle_rel hR hi hq h5 hd hw).1 (fun k hk => ?_)
          · unfold o_axle
            rw [if_pos hcx, if_pos ⟨hd, hw⟩, hqA, hq0, if_neg (by rw [nI5 (by omega)]; omega), hnq, hk, nI_1]
            rfl
          · rw [addAx_n (by omega), hRf k (by omega)]
        · have h5 : N = 5 := by rw [show (5 : Int32) = nI 5 from rfl, nI_ltI (by omega) (by omega)] at u40; omega
          refine g_bipush K dX6_axle_43 kb_m3 ?_
          refine g_iret K dX6_axle_45 ⟨_, rfl, ?_⟩
          exact cp_err (by unfold o_axle; rw [hqA, hq0, h5]; grind [nI5]) hA
      · refine g_bipush K dX6_axle_31 kb_m2 ?_
        refine g_iret K dX6_axle_33 ⟨_, rfl, ?_⟩
        exact cp_err (by unfold o_axle; grind) hA
  · have hcx : ¬ (0 ≤ x ∧ x < aZ A 6) := by rw [hz6]; exact hx
    refine g_astoreN (ls2 := [_, _, _, _, some .null]) K dX6_axle_8 (by decide) rfl ?_
    refine g_aloadN K dX6_axle_10 rfl ?_
    refine g_ifnonnullN K dX6_axle_12 ?_
    refine g_iconst K dX6_axle_15 kc_m1 ?_
    refine g_iret K dX6_axle_16 ⟨_, rfl, ?_⟩
    exact cp_err (by unfold o_axle; rw [if_neg hcx]) hA
