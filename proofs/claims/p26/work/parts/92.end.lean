theorem law_A0 {S : ST} (h : ∀ k i, k < 181 → i < ln k → S k i = iv0 k i) : CRel S A00 0 := by
  have z : ∀ k i, k < 181 → i < ln k → ¬ (k = 3 ∨ k = 30) → ¬ k = 56 → ¬ (57 ≤ k ∧ k < 165 ∧ (k - 57) % 27 = 2) → S k i = 0 := fun k i h1 h2 h3 h4 h5 => by
    rw [h k i h1 h2]
    unfold iv0 iv55
    rw [if_neg h3, if_neg h4, if_neg h5]
  refine ⟨⟨⟨fun i hi => ?_, rfl, Nat.zero_le _, fun k hk => absurd hk (Nat.not_lt_zero k)⟩, fun i hi => ?_, fun i hi => ?_, fun k hk => absurd hk (Nat.not_lt_zero k)⟩, ⟨fun i => 57 + 27 * i, ⟨?_, fun i j hi hj e => ?_, ?_, Nat.zero_le _, fun i hi => absurd hi (Nat.not_lt_zero i)⟩⟩, ⟨?_, Or.inl rfl, fun q => absurd q (by decide)⟩, fun B hB a ha i hi => Or.inl ?_, ?_, Nat.zero_le _, fun i hi => absurd hi (Nat.not_lt_zero i)⟩
  · rcases (show i = 0 ∨ i = 1 ∨ i = 2 ∨ i = 3 ∨ i = 4 ∨ i = 5 by omega) with rfl | rfl | rfl | rfl | rfl | rfl <;> decide
  · exact (h 3 i (by decide) hi).trans (if_pos (Or.inl rfl))
  · rw [show aZ A00 (6 + i) = firstS (6 + i) from rfl, firstS_ge (by omega)]
    exact z 1 (2 + i) (by decide) (show 2 + i < 5 by omega) (by decide) (by decide) (by decide)
  · intro i hi
    refine ⟨(h 56 i (by decide) hi).trans ?_, i, hi, rfl⟩
    unfold iv0 iv55
    rw [if_neg (by decide), if_pos rfl]
  · have e2 : 57 + 27 * i = 57 + 27 * j := e
    omega
  · exact z 55 1 (by decide) (by decide) (by decide) (by decide) (by decide)
  · exact z 0 6 (by decide) (by decide) (by decide) (by decide) (by decide)
  · rcases hB with rfl | rfl | ⟨j, hj, rfl⟩
    · exact z _ i (by omega) (by rw [(st_1.cart ha).l3]; exact hi) (by omega) (by omega) (by omega)
    · exact z _ i (by omega) (by rw [(st_28.cart ha).l3]; exact hi) (by omega) (by omega) (by omega)
    · exact z _ i (by omega) (by rw [((st_57 j hj).cart ha).l3]; exact hi) (by omega) (by omega) (by omega)
  · exact z 165 3 (by decide) (by decide) (by decide) (by decide) (by decide)
theorem g_conv {p : Program} {l : Launch} {e : Env} {R : Room} {s : State} {m : MethodId} {args : Array Value} {below : List Frame} {meth : Method} {c : Code} {Q : State → Prop} {b : Nat} {D : va_G} {cA : Nat → ClassId} {nL n : Nat} {ad : Nat → Nat} {Z : Nat → Nat → Bool} {cells slots pc : Nat} {ls : List (Option Value)} {st : List Value} {S : ST} (hn : n ≤ NN) (h : ∀ k i, k < n → i < ln k → rp k i = true → Z k i = true) (kk : G p l e R s m args below meth c Q b D cA nL n ad zT cells slots pc ls st S) : G p l e R s m args below meth c Q b D cA nL n ad Z cells slots pc ls st S := by
  intro H locs lsA hP hD hS hl
  refine kk H locs lsA (P_gen hn (fun _ _ => rfl) (fun k i hk hi => ?_) hP) (D_same hD) hS hl
  unfold vA
  by_cases hr : rp k i = true
  · rw [if_pos hr, if_pos hr, if_pos (h k i hk hi hr), if_pos rfl]
  · rw [if_neg hr, if_neg hr]
set_option maxHeartbeats 4000000 in
set_option maxRecDepth 100000 in
/-- from the entry, for every script of at most 260 ints, the law comes to its end with true -/
theorem whole_start {p : Program} {e : Env} {s : State} {m : MethodId} {below : List Frame} {meth : Method} {c : Code} (l : Launch) (hflags : l.flags = flags0) {b L : Nat} {xs : Nat → Int32} (hL : L ≤ 260) (C0 : lw_At p s m meth c b L xs) : W p l e room_1 s m #[Value.ref b] below meth c s.heap [] 0 0 (lw_Z below #[Value.ref b] s) (entryFrame m ([Value.ref b] : List Value).toArray 16) := by
  obtain ⟨hx, hb, hr, hml, hown, hts, hX, hbl, hlocks, hgv⟩ := C0
  obtain ⟨D, cA, hKK⟩ := law_K hts
  have hAO := law_AO hts
  have K : CX p s m #[.ref b] meth c s.heap.size D cA cL_law RL 16 (some .boolean) := ⟨hx, hb, hml, hown, fun w hw => hts w (big_tbl hw), hKK, Nat.le_refl _, hr, hlocks, law_ST hts hgv, law_NW hts⟩
  have main : ∀ (ad : Nat → Nat) (S : ST), G p l e room_1 s m #[.ref b] below meth c (lw_Z below #[.ref b] s) s.heap.size D cA 16 0 ad zT 0 0 0 [some (.ref b), none, none, none, none, none, none, none, none, none, none, none, none, none, none, none] [] S := by
    intro ad S
    have CL0 : CL 0 zT S := fun k i hk => absurd hk (Nat.not_lt_zero k)
    refine g_newobj (ci := 6) (N := 7) (n2 := 1) K tyX6 rfl nw_L_15 tyX6_ok df_X6 dL_law_0 rfl (by decide) CL0 rfl (by decide) (by decide) (fun ad1 had1 hCL1 => ?_)
    refine g_dup K dL_law_3 rfl ?_
    refine g_init (n1 := 181) K (c_X6_init hCL1 (fun i => congrFun str_s i)) mi_X6_init ml_L_94 rfl (by decide +kernel) dL_law_4 (by simp [Value.category]) ⟨by decide, by decide⟩ ⟨by decide, by decide⟩ hAO (fun ad2 Z2 S2 h2 => ?_)
    rw [← h2.1 0 (by decide)]
    refine g_astore_n (ls2 := [_, some (.ref _), _, _, _, _, _, _, _, _, _, _, _, _, _, _]) K dL_law_7 (by decide) rfl ?_
    obtain ⟨-, -, -, hz2, hs2, -⟩ := h2
    have hZ : ∀ k i, k < 181 → i < ln k → rp k i = true → Z2 k i = true := fun k i hk hi hrp => hz2 k i (Nat.zero_le _) hk hi hrp (fun z => z)
    have hA := law_A0 (S := S2) (fun k i hk hi => hs2 k i (Nat.zero_le _) hk hi (fun z => z))
    refine g_conv (Nat.le_refl _) hZ (g_widen (k2 := 1000) (n2 := 10000) ⟨by decide, by decide⟩ (G.ofL ?_))
    exact law_body K hX hbl hL hA
  have hc : ∀ x ∈ ([Value.ref b] : List Value), x.category = 1 := fun x hx => by
    rw [List.mem_singleton.mp hx]
    rfl
  rw [lg_entry_eq]
  exact main (fun _ => 0) (fun _ _ => 0) s.heap [] _ (fun k q h => by simp [wl] at h) ⟨fun i j p q h => by simp [wl] at h, fun k q h => by simp [wl] at h⟩ va_S.rf (LC.entry (j := 15) hc rfl (lv_entry ([.ref b]) (n := 16) (Nat.le_of_ble_eq_true rfl)))
set_option maxHeartbeats 4000000 in
theorem lw_walk (l : Launch) (hflags : l.flags = flags0) (b : Addr) (xs : List Int32) : MetFree l x (headSpec (Jvm.Cond.code x code maxLocals ret :: tables_1) room_1) (lw_P b xs) (fun _ _ _ _ _ => True) lw_Q := by
  refine MetFree.of_bodyS (code := code) (maxLocals := maxLocals) (ret := ret) (by decide) ?_ ?_
  · intro args s m h hn
    obtain ⟨meth, c, h1, h2, h3, h4, h5, h6, -, -⟩ := Cond.code_spec hn (atoms_spec (ws := Jvm.Cond.code x code maxLocals ret :: tables_1) h _ List.mem_cons_self)
    exact ⟨meth, c, h1, h2, h3, h4, h5, h6⟩
  · intro p e s m args below meth c s₁ B hml0 hP _
    obtain ⟨rfl, hx, hbd, hgv⟩ := hP
    obtain ⟨scr, harrAt, hlist, hof, hsmall⟩ := hx
    obtain ⟨hcb, hkn, -, -⟩ := State.arrayAt?_spec harrAt
    have hown : s.vm.findClass R_law = some m.cls := findClass_of_methodNamed B.named
    have hts0 : ∀ c ∈ (Jvm.Cond.code x code maxLocals ret :: tables_1), c.before #[Value.ref b] s = true := atoms_spec (ws := Jvm.Cond.code x code maxLocals ret :: tables_1) B.pre
    have hts : ∀ w ∈ lw_tbl, w.before #[Value.ref b] s = true := k2_hts_sels lw_privs (fun w hw => hts0 w (List.mem_cons_of_mem _ hw)) lw_privs_ok
    have hml : c.maxLocals = 16 := B.maxLocals_eq (hts0 _ List.mem_cons_self)
    have X₀ : Stand p l e room_1 s m #[Value.ref b] below meth c s₁ [] 0 0 := Stand.of_body B
    have hh0 : s₁.heap = s.heap := by rw [B.state]; rfl
    have hsz : scr.slots.size = xs.length := by rw [← Array.length_toList, hlist, List.length_map]
    have hval : ∀ j : Nat, j < xs.length → scr.slots[j]? = some (.int (xs.getD j 0)) := fun j hj => by
      rw [← Array.getElem?_toList, hlist]
      simp [hj]
    have hbl : b < s.heap.size := (Array.getElem?_eq_some_iff.mp hcb).1
    have hX : va_X b xs.length (fun j => xs.getD j 0) s s.heap := ⟨scr, hcb, hof, hkn, hsz, hval⟩
    have K : W p l e room_1 s m #[Value.ref b] below meth c s₁.heap [] 0 0 (lw_Z below #[Value.ref b] s) (entryFrame m ([Value.ref b] : List Value).toArray 16) := by
      rw [hh0]
      exact whole_start l hflags hbd ⟨B.exec, B.bytes, B.returns, hml, hown, hts, hX, hbl, B.notSynchronized, hgv⟩
    obtain ⟨t, a1, o, b1, b2, b3⟩ := K s₁ rfl X₀
    exact ⟨t, o, a1, b1, b2, b3⟩
theorem lw_pre_spec {args : Array Value} {s : State} (h : (Jvm.Cond.and given_1 narrow_1).before args s = true) (hr : rest_1_c.before args s = true) : ∃ (b : Addr) (xs : List Int32), lw_P b xs args s := by
  have hs := flat_of_before _ h
  have hq := flat_of_before _ hr
  have hc : (Cond.count 1).before args s = true := hs _ (by decide +kernel)
  have harr : (Cond.arrayOf (.arg 0) .int).before args s = true := hs _ (by decide +kernel)
  have hle : (Cond.le (.length (.arg 0)) (.int 260)).before args s = true := hs _ (by decide +kernel)
  have hlen : (Cond.isInt (.length (.arg 0))).before args s = true := hq _ (by decide +kernel)
  have hall : (Cond.all (.arg 0) (.isInt (.elem (.arg 0) (.index 0)))).before args s = true := hq _ (by decide +kernel)
  obtain ⟨b, xs, hb, hx⟩ := State.ints_of_pre rfl harr hlen hall
  have hsm : xs.length < 2 ^ 31 := hx.choose_spec.2.2.2
  have hev : (Term.length (.arg 0)).eval args s none [] s = some (.int xs.length.toInt32) := hx.length_eval hb
  have hv := Cond.le_ints hev (show (Term.int 260).eval args s none [] s = some (.int 260) from rfl)
  have hd : xs.length.toInt32 ≤ 260 := by
    simpa [Cond.before, Cond.holds, hv] using hle
  have hN : xs.length ≤ 260 := (Int32.ofNat_le_ofNat hsm (by decide)).mp (show Int32.ofNat xs.length ≤ Int32.ofNat 260 from hd)
  exact ⟨b, xs, Cond.one_arg hc (show args[0]? = some (.ref b) from hb), hx, hN, h⟩
theorem lw_comes (l : Launch) (hflags : l.flags = flags0) : Comes l x (Jvm.Cond.code x code maxLocals ret :: tables_1) room_1 (fun tb e args s => Calls_1 tb e args s ∧ rest_1 tb e args s ∧ Pre_1 tb e args s)
    (fun _ _ args s o t => lw_Q args s o t) := by
  intro p e ha hc hk s m args below hf hfit hheap happ hpre
  obtain ⟨b, xs, hP⟩ := lw_pre_spec hpre.2.2 hpre.2.1
  obtain ⟨k, o, h1, h2, h3, hQ⟩ := lw_walk l hflags b xs p e ha hc hk s m args below hf ((Spec.applies_iff_loose hf).mp happ).1 hP trivial
  exact ⟨k, o, h1, h2, h3, hQ⟩
theorem lw_frame {s t : State} {o : Outcome} {args : Array Value} (h : State.butDraws s t lw_cs (fun t1 => Framed s o t1 [] 600000 7302250)) :
    State.butDraws s t [Jvm.Choice.named "NaN.bits"] (fun t1 => Framed s o t1 (fieldLocs frame_1_writes args s ++ arrayLocs frame_1_arrays args s ++ staticLocs frame_1_statics s) 600000 7302250) := h
theorem lw_limb (L : Cond) (hL : ∀ (args : Array Value) (s t : State), L.after args s (.returned (some (.int 1))) t = true) :
    ArmFor flags0 classFile x code maxLocals ret World_1 tables_1 room_1 Calls_1 rest_1 Pre_1
      (fun tb e a s o t => postC L tb e a s o t ∧ State.butDraws s t [Jvm.Choice.named "NaN.bits"] (fun t1 => Framed s o t1 (fieldLocs frame_1_writes a s ++ arrayLocs frame_1_arrays a s ++ staticLocs frame_1_statics s) 600000 7302250)) := by
  intro l hflags _ _ p e ha hc hk s m args below hf hfit hheap happ hpre
  obtain ⟨k, o, h1, h2, h3, rfl, hF⟩ := lw_comes l hflags p e ha hc hk s m args below hf hfit hheap happ hpre
  exact ⟨k, _, h1, h2, h3, hL args s _, lw_frame hF⟩
theorem i_vc : Claimed_1_1 ∧ Claimed_1_2 := ⟨lw_limb limb_1_1 (fun args s t => by simp [limb_1_1, Cond.after, Cond.holds, Cond.value]), lw_limb limb_1_2 (fun args s t => Cond.after_iff.mpr (by
  first | (rw [show limb_1_2 = Cond.eq .result (.int 1) from rfl, Cond.eq_ints (x := 1) (y := 1) rfl rfl]; simp; done) | (simp [limb_1_2, Cond.value, Term.eval]; done)))⟩
