/-! THE CLAIM OUT OF ONE WALK OF THE LAW'S BODY. Your part is whole_start (and what it stands on); all else here is the same for every law, but numbers. -/
def R_law : String := "RollScalesLaw"
def lw_P (b : Addr) (xs : List Int32) (args : Array Value) (s : State) : Prop := args = #[.ref b] ∧ s.IntsAt b xs ∧ xs.length ≤ 2560 ∧ (Jvm.Cond.and given_1 narrow_1).before args s = true
/-- what a walk over the start with the record d0 says of its end, said of the start itself -/
theorem lw_closed {s t : State} {o : Outcome} {d0 : Drawn} {L : List Loc} {k n : Nat} (hd0 : s.drawn.sameBut d0 lw_cs) (hv : ∃ v, o = .returned v) (hW : (s.setDrawn d0).WarmedH t.vm) (hs : (s.setDrawn d0).sameButNew ({ t with vm := s.vm } : State) L k n) : State.butDraws s t lw_cs (fun t1 => Framed s o t1 L k n) := by
  have h2 : t.drawn = d0 := congrArg State.drawn hs.1
  refine ⟨⟨hv, hW, State.sameButNew.setDrawn hs s.drawn⟩, ?_, by decide⟩
  rw [h2]
  exact hd0
def lw_Q (_ : Array Value) (s : State) (o : Outcome) (t : State) : Prop := o = .returned (some (.int 1)) ∧ State.butDraws s t lw_cs (fun t1 => Framed s o t1 [] 600000 7302250)
def lw_Z (below : List Frame) (a : Array Value) (s : State) : State → Prop := fun t => ∃ o, t.status = .running ∧ Ended t below o ∧ lw_Q a s o t
/-- the law's own end, with 1 on the stack, nothing written that was there before, its room as the claim has it; d0: the record of draws at this point (at the entry s.drawn: begin with 'refine W.base ?_' and 'have hd0 := Drawn.sameBut.refl s.drawn lw_cs') -/
theorem lw_ret {p : Program} {l : Launch} {e : Env} {s : State} {m : MethodId} {below : List Frame} {meth : Method} {c : Code} {b : Nat} {d0 : Drawn} (hd0 : s.drawn.sameBut d0 lw_cs) (hx : p.tables.exec = Jvm.exec) (hb : c.code = code) (hr : meth.sig.returnType = ret) (hlocks : meth.locks = false) {pc : Nat} {H : Heap} {ls : Array Slot} (hdg : decode code pc = .ok (.ireturn, 1)) : W p l e room_1 (s.setDrawn d0) m #[Value.ref b] below meth c H [] 600000 7302250 (lw_Z below #[Value.ref b] s) (F0 m pc ls [.int 1]) := by
  intro T hT X
  obtain ⟨fs, hret, hrun, hended, hW, hframe⟩ := X.leave (v := some (.int 1)) (hlocks := hlocks) (fun h => by rw [hr] at h; cases h)
  have hmeth' : T.vm.method? m = some meth := X.method'
  refine ⟨T.setFrames fs, ?_, .returned (some (.int 1)), hrun, hended, rfl, lw_closed hd0 ⟨_, rfl⟩ hW hframe⟩
  jvm_step X.here [X.here.top, hx, hb, hdg, hmeth', hr, ret, narrow_b1]
  (try refine ⟨rfl, ?_⟩); (try refine ⟨rfl, ?_⟩)
  first | (intro acts; rw [hret _ acts rfl rfl rfl]) | rw [hret _ _ rfl rfl rfl]
  exact Steps.refl _
/-- what holds at the law's entry: the machine, the code, the tables' words (any of lw_tbl by 'hts w (by decide +kernel)'), the script of L ints xs at the cell b, what the Statement gives of the start (any of its parts by flat_of_before) -/
def lw_At (p : Program) (s : State) (m : MethodId) (meth : Method) (c : Code) (b L : Nat) (xs : Nat → Int32) : Prop :=
  p.tables.exec = Jvm.exec ∧ c.code = code ∧ meth.sig.returnType = ret ∧ c.maxLocals = 8 ∧ s.vm.findClass R_law = some m.cls ∧ (∀ w ∈ lw_tbl, w.before #[Value.ref b] s = true) ∧ va_X b L xs s s.heap ∧ b < s.heap.size ∧ meth.locks = false ∧ (Jvm.Cond.and given_1 narrow_1).before #[Value.ref b] s = true
theorem CRel.low {S S' : ST} {A : AS} {n : Nat} (h : CRel S A n) (e : ∀ k, k < 181 → S' k = S k) : CRel S' A n := by
  obtain ⟨h1, ⟨hb, g1, g2, g3, g4, g5⟩, h3, hb4, h5⟩ := h
  refine ⟨h1.to (fun j hj => e _ (by omega)), ⟨hb, ?_, g2, ?_, g4, ?_⟩, ?_, ?_, ?_⟩
  · intro i hi
    rw [e 56 (by omega)]
    exact g1 i hi
  · rw [e 55 (by omega)]
    exact g3
  · intro i hi
    obtain ⟨n2, q⟩ := g5 i hi
    have hl := g1.lo (Nat.lt_of_lt_of_le hi g4)
    exact ⟨n2, q.to (fun j hj => e _ (by omega))⟩
  · rw [e 0 (by omega)]
    refine ⟨h3.1, h3.2.1, fun q => ?_⟩
    obtain ⟨n2, hr⟩ := h3.2.2 q
    exact ⟨n2, hr.to (fun j hj => e _ (by omega))⟩
  · intro B hB a ha i hi
    rw [e _ (by rcases hB with rfl | rfl | ⟨j, hj, rfl⟩ <;> omega)]
    exact hb4 B hB a ha i hi
  · rw [e 165 (by omega), e 166 (by omega)]
    exact h5
theorem MRel.high {S S' : ST} {A : AS} (h : MRel S A) (e : ∀ k, 181 ≤ k → S' k = S k) : MRel S' A :=
  h.keep ⟨congrFun (e 181 (by decide)) 2, congrFun (e 181 (by decide)) 4, congrFun (e 181 (by decide)) 6⟩ (fun k hk => e k (by omega))
theorem o_off_ok {A : AS} {n : Nat} {x y : Int32} (hs : StOk (aZ A) n) : FOk (o_off A x y) := by
  unfold o_off
  by_cases h : (0 ≤ x ∧ x < aZ A 6) ∧ 1 ≤ y ∧ y ≤ 9
  · rw [if_pos h]
    by_cases h2 : rsQ (aZ A) (qA A x) y = 0
    · rw [if_pos h2]
      obtain ⟨i, hi, hxi, hki⟩ := c_in (z := aZ A) hs.2.2.1 (by rw [← hs.2.1]; exact h.1)
      obtain ⟨N, hq⟩ := hs.2.2.2 i hi
      obtain ⟨wj, w1, w2, w3⟩ := wh_pos hq
      have e : whQ (qA A x) = nI wj := by
        unfold qA
        rw [hki]
        exact w3
      rw [e]
      exact fp_quo w1 w2
    · rw [if_neg h2]
      exact fok_2
  · rw [if_neg h]
    exact fok_2
section
variable {p : Program} {l : Launch} {e : Env} {R : Room} {s : State} {m : MethodId} {args : Array Value} {below : List Frame} {meth : Method} {c : Code} {Q : State → Prop} {b : Nat} {D : va_G} {cA : Nat → ClassId} {nL n : Nat} {ad : Nat → Nat} {Z : Nat → Nat → Bool} {cells slots : Nat} {pc : Nat} {ls : List (Option Value)} {st : List Value} {S : ST} {cc : ByteArray} {own : String} {ret : Option FieldType}
theorem g_sld (K : CX p s m args meth c b D cA cc own nL ret) {sb L j : Nat} {xs : Nat → Int32} {i : Int32} (hX : va_X sb L xs s s.heap) (hbl : sb < s.heap.size) (hbb : sb < b) (d : decode cc pc = .ok (.iaload, 1)) (hj : i = nI j) (hlt : j < L) (hL : L < 2 ^ 31) (kk : G p l e R s m args below meth c Q b D cA nL n ad Z cells slots (pc + 1) ls (.int (xs j) :: st) S) : G p l e R s m args below meth c Q b D cA nL n ad Z cells slots pc ls (.int i :: .ref sb :: st) S := by
  intro H locs lsA hP hD hS hl
  obtain ⟨h1, h2⟩ := vin hj hlt hL
  exact va_sld K.1 K.2.1 hX hbl (Nat.not_le.mpr hbb) hS h1 d (by rw [h2]; exact kk H locs lsA hP hD hS hl)
theorem g_slen (K : CX p s m args meth c b D cA cc own nL ret) {sb L : Nat} {xs : Nat → Int32} (hX : va_X sb L xs s s.heap) (hbl : sb < s.heap.size) (hbb : sb < b) (d : decode cc pc = .ok (.arraylength, 1)) (kk : G p l e R s m args below meth c Q b D cA nL n ad Z cells slots (pc + 1) ls (.int (nI L) :: st) S) : G p l e R s m args below meth c Q b D cA nL n ad Z cells slots pc ls (.ref sb :: st) S := by
  intro H locs lsA hP hD hS hl
  exact va_slen K.1 K.2.1 hX hbl (Nat.not_le.mpr hbb) hS d (kk H locs lsA hP hD hS hl)
theorem w_run {y : MethodName} {ret2 : Option FieldType} {Qf : Option Value → ST → Prop} {a : Array Value} {rest st0 : List Value} {H : Heap} {locs : List Loc} {lsA : Array Slot} (K : CX p s m args meth c b D cA cc own nL ret)
    (hr : va_Run p l e R s m args below meth c H locs cells slots 0 0 (F0 m pc lsA st0) rest (QQ b D cA n ad Z Qf a) (aF b)) (hS : va_S (aF b) s.heap H locs)
    (kk : ∀ v S' H1 locs1, Qf v S' → va_P D vwCl (wl cA n ad Z S') H1 → va_D (aF b) (wl cA n ad Z S') → va_S (aF b) s.heap H1 locs1 → W p l e R s m args below meth c H1 locs1 cells slots Q (F0 m (pc + 3) lsA (v.toList ++ rest))) : W p l e R s m args below meth c H locs cells slots Q (F0 m pc lsA st0) := by
  intro T hT X
  obtain ⟨v, st₀, t, T', L, h0, X', hL, e1, e2, ⟨v2, S', hv, hq, hpre, hz, hkeep⟩, stp⟩ := hr T hT X
  cases hv
  rw [h0] at hz hkeep
  obtain ⟨q0, q1, q2, -, -⟩ := hpre
  obtain ⟨t2, a1, b1⟩ := kk v S' T'.heap (locs ++ L) hq (by rw [e1]; exact q1) q2
    ⟨Nat.le_trans hS.1 (by rw [e1]; exact hz), fun q h1 h2 => by rw [e1, hkeep q (Nat.lt_of_lt_of_le h1 hS.1) h2]; exact hS.2.1 q h1 h2, fun q hq => by
      rcases List.mem_append.mp hq with h | h
      · exact hS.2.2 q h
      · exact hL q h⟩ T' rfl X'
  exact ⟨t2, stp t2 a1, b1⟩
set_option maxHeartbeats 2000000 in
theorem w_callV {y : MethodName} {code : ByteArray} {maxL d2 k np index : Nat} {ret2 : Option FieldType} {P : UInt32 → ST → Prop} {av rest : List Value} {st0 : List Value} {H : Heap} {locs : List Loc} {lsA : Array Slot} (K : CX p s m args meth c b D cA cc own nL ret) (hM : MT l b D cA n ad Z y code maxL ret2 d2 (.ref (ad k) :: av) S (RF P)) (hw : MW y code maxL ret2 np) (hl1 : Cond.methodLink own index y ∈ BIG) (d : decode cc pc = .ok (.invokevirtual index, 3)) (hst : st0 = av.reverse ++ .ref (ad k) :: rest) (hnp : av.length = np) (hcl : (vwCl[kd k]?).map (fun r => r.1) = some y.cls) (hn : k < n) (hrest : (rest.map fun v => v.category).sum ≤ 8) (hR : d2 + 1 ≤ R.frames ∧ 8 + (maxL + 11) + 32 * d2 ≤ R.locals) (hc : cells ≤ R.cells ∧ slots ≤ R.slots)
    (hP : va_P D vwCl (wl cA n ad Z S) H) (hD : va_D (aF b) (wl cA n ad Z S)) (hS : va_S (aF b) s.heap H locs) (hsz : lsA.size = nL)
    (kk : ∀ r S' H1 locs1, P r S' → va_P D vwCl (wl cA n ad Z S') H1 → va_D (aF b) (wl cA n ad Z S') → va_S (aF b) s.heap H1 locs1 → W p l e R s m args below meth c H1 locs1 cells slots Q (F0 m (pc + 3) lsA (.float r :: rest))) : W p l e R s m args below meth c H locs cells slots Q (F0 m pc lsA st0) := by
  obtain ⟨r0, h1, h2⟩ := Option.map_eq_some_iff.mp hcl
  have hk := (List.getElem?_eq_some_iff.mp h1).1
  have hts := K.2.2.2.2.1
  have hrecv : ∃ cell : Cell, H[ad k]? = some cell ∧ cell.vm.isStatics = false ∧ s.vm.findClass y.cls = some cell.cls := by
    have := va_recv (q0 := k) (a := ad k) K.2.2.2.2.2.1 hP h1 (by rw [wl_get hn, ce_obj rfl hk])
    rw [h2] at this
    exact this
  have hpre : PreV s H y.cls (ad k) (va_Pc (.ref (ad k) :: av) (PRE b D cA n ad Z S)) av := ⟨PRE.blind, hrecv, fun U hU hW => ⟨rfl, PRE.of K hU hW hP hD hS⟩⟩
  refine w_run (y := y) (ret2 := ret2) K (va_runV (As := av) (rest := rest) ⟨K.1, K.2.1, K.2.2.1, K.2.2.2.1, hts⟩ hM (C := y.cls) (n := np) ⟨callB_of np hts (big_self hw.1) rfl rfl rfl (hts _ hw.2.2.2.1) (hts _ hl1) hw.2.2.2.2 ⟨hR.1, hR.2⟩, hts _ hw.2.1, hts _ hw.2.2.1⟩ hpre rfl hnp hsz hst (lv_room hrest) d ⟨hc.1, hc.2⟩) hS (fun v S' H1 locs1 h g1 g2 g3 => ?_)
  obtain ⟨r, rfl, hq⟩ := h
  exact kk r S' H1 locs1 hq g1 g2 g3
end
/-- what the tables give of classes and rows -/
theorem law_K {s : State} {args : Array Value} (hts : ∀ w ∈ lw_tbl, w.before args s = true) : ∃ (D : va_G) (cA : Nat → ClassId), va_K D vwCl (tysA cA) s := by
  have hB : ∀ w ∈ BIG, w.before args s = true := fun w h => hts w (big_tbl h)
  have hc : ∀ c : Nat, ∃ y : ClassId × (Nat → Nat), ∀ q, vwCl[c]? = some q → u_Kn s q.1 q.2.1 q.2.2 y.1 y.2 := by
    intro c
    match c with
    | 0 => obtain ⟨cC, iS, h⟩ := u_known (C := RX0) (T := TX0) (N := 8) (n := 8) hB bigX0 (hB _ nw_X5_9.2.1); exact ⟨(cC, iS), fun q hq => by cases hq; exact h⟩
    | 1 => obtain ⟨cC, iS, h⟩ := u_known (C := RX1) (T := TX1) (N := 11) (n := 11) hB bigX1 (hB _ nw_X6_26.2.1); exact ⟨(cC, iS), fun q hq => by cases hq; exact h⟩
    | 2 => obtain ⟨cC, iS, h⟩ := u_known (C := RX2) (T := TX2) (N := 2) (n := 2) hB bigX2 (hB _ nw_X6_19.2.1); exact ⟨(cC, iS), fun q hq => by cases hq; exact h⟩
    | 3 => obtain ⟨cC, iS, h⟩ := u_known (C := RX3) (T := TX3) (N := 6) (n := 6) hB bigX3 (hB _ nw_X4_28.2.1); exact ⟨(cC, iS), fun q hq => by cases hq; exact h⟩
    | 4 => obtain ⟨cC, iS, h⟩ := u_known (C := RX4) (T := TX4) (N := 13) (n := 13) hB bigX4 (hB _ nw_X6_33.2.1); exact ⟨(cC, iS), fun q hq => by cases hq; exact h⟩
    | 5 => obtain ⟨cC, iS, h⟩ := u_known (C := RX5) (T := TX5) (N := 5) (n := 5) hB bigX5 (hB _ nw_X6_7.2.1); exact ⟨(cC, iS), fun q hq => by cases hq; exact h⟩
    | 6 => obtain ⟨cC, iS, h⟩ := u_known (C := RX6) (T := TX6) (N := 7) (n := 7) hB bigX6 (hB _ nw_L_7.2.1); exact ⟨(cC, iS), fun q hq => by cases hq; exact h⟩
    | 7 => obtain ⟨cC, iS, h⟩ := u_known (C := RX7) (T := TX7) (N := 23) (n := 23) hB bigX7 (hB _ nw_L_10.2.1); exact ⟨(cC, iS), fun q hq => by cases hq; exact h⟩
    | c + 8 => exact ⟨((0 : Nat), fun _ => 0), fun q hq => by simp [vwCl] at hq⟩
  obtain ⟨f, hf⟩ := Classical.axiomOfChoice hc
  obtain ⟨c8, k8, m8, f8, g8, e8⟩ := Cond.arrayClass_spec (hB _ wa_int)
  obtain ⟨c9, k9, m9, f9, g9, e9⟩ := Cond.arrayClass_spec (hB _ wa_boolean)
  obtain ⟨c10, k10, m10, f10, g10, e10⟩ := Cond.arrayClass_spec (hB _ wa_char)
  have t26 : Cond.arrayOver (.object "RollScales$Cart") ∈ lw_tbl := List.mem_append_right _ (List.mem_of_getElem? (i := 26) (by decide +kernel))
  have t103 : Cond.arrayOver (.object "RollScales$State") ∈ lw_tbl := List.mem_append_right _ (List.mem_of_getElem? (i := 103) (by decide +kernel))
  obtain ⟨m11, c11, k11, f11, -, g11, e11, n11⟩ := Cond.arrayOver_spec (hts _ t26)
  obtain ⟨m12, c12, k12, f12, -, g12, e12, n12⟩ := Cond.arrayOver_spec (hts _ t103)
  refine ⟨(fun c => (f c).1, fun c => (f c).2), fun k => if k = 8 then c8 else if k = 9 then c9 else if k = 10 then c10 else if k = 11 then c11 else c12, fun c q hq => hf c q hq, fun k q hq => ?_⟩
  match k, hq with
  | 0, hq => cases hq; exact ⟨fun n z => ⟨fun k h => (by cases h), k8, g8, m8, e8⟩, f8⟩
  | 1, hq => cases hq; exact ⟨fun n z => ⟨fun k h => (by cases h), k9, g9, m9, e9⟩, f9⟩
  | 2, hq => cases hq; exact ⟨fun n z => ⟨fun k h => (by cases h), k10, g10, m10, e10⟩, f10⟩
  | 3, hq => cases hq; exact ⟨fun n z => ⟨fun k h => (by cases h), k11, g11, m11, e11⟩, k11, m11, g11, e11, f11, n11⟩
  | 4, hq => cases hq; exact ⟨fun n z => ⟨fun k h => (by cases h), k12, g12, m12, e12⟩, k12, m12, g12, e12, f12, n12⟩
  | k + 5, hq => simp [tysA] at hq
theorem law_AO {s : State} {args : Array Value} (hts : ∀ w ∈ lw_tbl, w.before args s = true) : AOS s :=
  ⟨va_AO.of (hts (.arrayOver (.object "RollScales$Cart")) (List.mem_append_right _ (List.mem_of_getElem? (i := 26) (by decide +kernel)))), va_AO.of (hts (.arrayOver (.object "RollScales$State")) (List.mem_append_right _ (List.mem_of_getElem? (i := 103) (by decide +kernel))))⟩
theorem law_NW {s : State} {args : Array Value} (hts : ∀ w ∈ lw_tbl, w.before args s = true) : NWS s := fun w hw => va_Nw.of (NWS.onT hw) (hts w (List.mem_append_right _ (List.mem_filter.mp hw).1))
/-- a written-out row of exact length -/
theorem va_Xof {args : Array Value} {s : State} {tm : Term} {N : Nat} {f : Nat → Int32} (hN : N < 2 ^ 31) (harr : (Cond.arrayOf tm .int).before args s = true) (hlen : (Term.length tm).eval args s none [] s = some (.int (Int32.ofNat N))) (hel : ∀ j : Nat, j < N → (Term.elem tm (.int (Int32.ofNat j))).eval args s none [] s = some (.int (f j))) : ∃ t : Nat, tm.eval args s none [] s = some (.ref t) ∧ va_X t N f s s.heap ∧ t < s.heap.size := by
  obtain ⟨t, cell, ht, hat, hv⟩ := Term.length_spec hlen
  obtain ⟨hcell, hkn, -, -⟩ := State.arrayAt?_spec hat
  obtain ⟨hof, -⟩ := Cond.arrayOf_spec harr ht hcell
  have hsz : cell.slots.size < 2 ^ 31 := by
    have hlen2 := hlen
    simp only [Term.eval, ht, hat, Option.bind_eq_bind, Option.bind_some] at hlen2
    by_cases hlt : cell.slots.size < 2147483648
    · exact hlt
    · simp [hlt] at hlen2
  have hsN : cell.slots.size = N := by
    have h1 : Int32.ofNat N = cell.slots.size.toInt32 := Value.int.inj hv
    have h2 : nI N = nI cell.slots.size := h1
    have h3 := congrArg Int32.toNatClampNeg h2
    rw [nI_clamp hN, nI_clamp hsz] at h3
    exact h3.symm
  refine ⟨t, ht, ⟨cell, hcell, hof, hkn, hsN, fun j hj => ?_⟩, (Array.getElem?_eq_some_iff.mp hcell).1⟩
  obtain ⟨a, i, cell2, h1, h2, h3, h4, h5⟩ := Term.elem_spec (hel j hj)
  cases ht.symm.trans h1
  cases hat.symm.trans h3
  have hi : i = Int32.ofNat j := by
    have e : (Term.int (Int32.ofNat j)).eval args s none [] s = some (.int (Int32.ofNat j)) := rfl
    cases h2.symm.trans e
    rfl
  have hc : i.toNatClampNeg = j := by rw [hi]; exact Int32.toNatClampNeg_ofNat_of_lt (Nat.lt_trans hj hN)
  rw [hc] at h5
  exact h5
set_option maxRecDepth 20000 in
theorem law_ST {s : State} {args : Array Value} (hts : ∀ w ∈ lw_tbl, w.before args s = true) (hgv : (Jvm.Cond.and given_1 narrow_1).before args s = true) : STT s.heap.size s s.heap := by
  have hs := flat_of_before _ hgv
  have hA : ∀ a : Nat, a < s.heap.size → ¬ aF s.heap.size a := fun a h q => absurd h (Nat.not_lt.mpr q)
  have hini := hts (.initialized "RollScales") (List.mem_append_right _ (List.mem_of_getElem? (i := 1) (by decide +kernel)))
  have el : ∀ (N : String) (j v : Int32), (Cond.eq (.elem (.static "RollScales" N "[I") (.int j)) (.int v)).before args s = true → (Term.elem (.static "RollScales" N "[I") (.int j)).eval args s none [] s = some (.int v) := fun _ _ _ h => va_eqt h
  have l0 := hts (.laysStatic "RollScales" "LEAST_SETTING" "[I") (List.mem_append_right _ (List.mem_of_getElem? (i := 492) (by decide +kernel)))
  obtain ⟨t0, z0, x0⟩ := va_Tof (tm := .static "RollScales" "LEAST_SETTING" "[I") (ty := .int) (N := 6) (f := fun j => .int (leastS j)) (A := aF s.heap.size) (by decide) (hs _ (by decide +kernel)) (va_eqt (hs _ (by decide +kernel))) (fun j hj => by
    rcases (show j = 0 ∨ j = 1 ∨ j = 2 ∨ j = 3 ∨ j = 4 ∨ j = 5 by omega) with rfl | rfl | rfl | rfl | rfl | rfl
    · exact el "LEAST_SETTING" 0 10 (hs _ (by decide +kernel))
    · exact el "LEAST_SETTING" 1 0 (hs _ (by decide +kernel))
    · exact el "LEAST_SETTING" 2 0 (hs _ (by decide +kernel))
    · exact el "LEAST_SETTING" 3 1 (hs _ (by decide +kernel))
    · exact el "LEAST_SETTING" 4 0 (hs _ (by decide +kernel))
    · exact el "LEAST_SETTING" 5 4 (hs _ (by decide +kernel))) hA
  have l1 := hts (.laysStatic "RollScales" "MOST_SETTING" "[I") (List.mem_append_right _ (List.mem_of_getElem? (i := 494) (by decide +kernel)))
  obtain ⟨t1, z1, x1⟩ := va_Tof (tm := .static "RollScales" "MOST_SETTING" "[I") (ty := .int) (N := 6) (f := fun j => .int (mostS j)) (A := aF s.heap.size) (by decide) (hs _ (by decide +kernel)) (va_eqt (hs _ (by decide +kernel))) (fun j hj => by
    rcases (show j = 0 ∨ j = 1 ∨ j = 2 ∨ j = 3 ∨ j = 4 ∨ j = 5 by omega) with rfl | rfl | rfl | rfl | rfl | rfl
    · exact el "MOST_SETTING" 0 90 (hs _ (by decide +kernel))
    · exact el "MOST_SETTING" 1 100 (hs _ (by decide +kernel))
    · exact el "MOST_SETTING" 2 95 (hs _ (by decide +kernel))
    · exact el "MOST_SETTING" 3 9 (hs _ (by decide +kernel))
    · exact el "MOST_SETTING" 4 20 (hs _ (by decide +kernel))
    · exact el "MOST_SETTING" 5 40 (hs _ (by decide +kernel))) hA
  have l2 := hts (.laysStatic "RollScales" "FIRST_SETTING" "[I") (List.mem_append_right _ (List.mem_of_getElem? (i := 72) (by decide +kernel)))
  obtain ⟨t2, z2, x2, b2⟩ := va_Xof (tm := .static "RollScales" "FIRST_SETTING" "[I") (N := 6) (f := firstS) (by decide) (hs _ (by decide +kernel)) (va_eqt (hs _ (by decide +kernel))) (fun j hj => by
    rcases (show j = 0 ∨ j = 1 ∨ j = 2 ∨ j = 3 ∨ j = 4 ∨ j = 5 by omega) with rfl | rfl | rfl | rfl | rfl | rfl
    · exact el "FIRST_SETTING" 0 40 (hs _ (by decide +kernel))
    · exact el "FIRST_SETTING" 1 40 (hs _ (by decide +kernel))
    · exact el "FIRST_SETTING" 2 60 (hs _ (by decide +kernel))
    · exact el "FIRST_SETTING" 3 4 (hs _ (by decide +kernel))
    · exact el "FIRST_SETTING" 4 3 (hs _ (by decide +kernel))
    · exact el "FIRST_SETTING" 5 12 (hs _ (by decide +kernel)))
  exact ⟨t0, t1, t2, va_Zref l0 hini z0 hA, va_Zref l1 hini z1 hA, va_Zref l2 hini z2 hA, x0, x1, x2, b2, b2⟩
