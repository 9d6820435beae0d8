/-! THE CLAIM OUT OF ONE WALK OF THE LAW'S BODY. Your part is whole_start (and what it stands on); all else here is the same for every law, but numbers. -/
def R_law : String := "RollScalesLaw"
def lw_P (b : Addr) (xs : List Int32) (args : Array Value) (s : State) : Prop := args = #[.ref b] ∧ s.IntsAt b xs ∧ xs.length ≤ 260 ∧ (Jvm.Cond.and given_1 narrow_1).before args s = true
/-- what a walk over the start with the record d0 says of its end, said of the start itself -/
theorem lw_closed {s t : State} {o : Outcome} {d0 : Drawn} {L : List Loc} {k n : Nat} (hd0 : s.drawn.sameBut d0 lw_cs) (hv : ∃ v, o = .returned v) (hW : (s.setDrawn d0).WarmedH t.vm) (hs : (s.setDrawn d0).sameButNew ({ t with vm := s.vm } : State) L k n) : State.butDraws s t lw_cs (fun t1 => Framed s o t1 L k n) := by
  have h2 : t.drawn = d0 := congrArg State.drawn hs.1
  refine ⟨⟨hv, hW, State.sameButNew.setDrawn hs s.drawn⟩, ?_, by decide⟩
  rw [h2]
  exact hd0
def lw_Q (_ : Array Value) (s : State) (o : Outcome) (t : State) : Prop := o = .returned (some (.int 1)) ∧ State.butDraws s t lw_cs (fun t1 => Framed s o t1 [] 600000 7302250)
def lw_Z (below : List Frame) (a : Array Value) (s : State) : State → Prop := fun t => ∃ o, t.status = .running ∧ Ended t below o ∧ lw_Q a s o t
/-- the law's own end, with 1 on the stack, nothing written that was there before, its room as the claim has it; d0: the record of draws at this point (at the entry s.drawn: begin with 'refine W.base ?_' and 'have hd0 := Drawn.sameBut.refl s.drawn lw_cs') -/
theorem lw_ret {p : Program} {l : Launch} {e : Env} {s : State} {m : MethodId} {below : List Frame} {meth : Method} {c : Code} {b : Nat} {d0 : Drawn} (hd0 : s.drawn.sameBut d0 lw_cs) (hx : p.tables.exec = Jvm.exec) (hb : c.code = code) (hr : meth.sig.returnType = ret) (hlocks : meth.locks = false) {pc : Nat} {H : Heap} {ls : Array Slot} (hdg : decode code pc = .ok (.ireturn, 1)) : W p l e room_1 (s.setDrawn d0) m #[Value.ref b] below meth c H [] 600000 7302250 (lw_Z below #[Value.ref b] s) (F0 m pc ls [.int 1]) := by
  intro T hT X
  obtain ⟨fs, hret, hrun, hended, hW, hframe⟩ := X.leave (v := some (.int 1)) (hlocks := hlocks) (fun h => by rw [hr] at h; cases h)
  have hmeth' : T.vm.method? m = some meth := X.method'
  refine ⟨T.setFrames fs, ?_, .returned (some (.int 1)), hrun, hended, rfl, lw_closed hd0 ⟨_, rfl⟩ hW hframe⟩
  jvm_step X.here [X.here.top, hx, hb, hdg, hmeth', hr, ret, narrow_b1]
  (try refine ⟨rfl, ?_⟩); (try refine ⟨rfl, ?_⟩)
  first | (intro acts; rw [hret _ acts rfl rfl rfl]) | rw [hret _ _ rfl rfl rfl]
  exact Steps.refl _
/-- what holds at the law's entry: the machine, the code, the tables' words (any of lw_tbl by 'hts w (by decide +kernel)'), the script of L ints xs at the cell b, what the Statement gives of the start (any of its parts by flat_of_before) -/
def lw_At (p : Program) (s : State) (m : MethodId) (meth : Method) (c : Code) (b L : Nat) (xs : Nat → Int32) : Prop :=
  p.tables.exec = Jvm.exec ∧ c.code = code ∧ meth.sig.returnType = ret ∧ c.maxLocals = 16 ∧ s.vm.findClass R_law = some m.cls ∧ (∀ w ∈ lw_tbl, w.before #[Value.ref b] s = true) ∧ va_X b L xs s s.heap ∧ b < s.heap.size ∧ meth.locks = false ∧ (Jvm.Cond.and given_1 narrow_1).before #[Value.ref b] s = true
/-- what the tables give of classes and rows -/
theorem law_K {s : State} {args : Array Value} (hts : ∀ w ∈ lw_tbl, w.before args s = true) : ∃ (D : va_G) (cA : Nat → ClassId), va_K D vwCl (tysA cA) s := by
  have hB : ∀ w ∈ BIG, w.before args s = true := fun w h => hts w (big_tbl h)
  have hc : ∀ c : Nat, ∃ y : ClassId × (Nat → Nat), ∀ q, vwCl[c]? = some q → u_Kn s q.1 q.2.1 q.2.2 y.1 y.2 := by
    intro c
    match c with
    | 0 => obtain ⟨cC, iS, h⟩ := u_known (C := RX0) (T := TX0) (N := 8) (n := 8) hB bigX0 (hB _ nw_X5_9.2.1); exact ⟨(cC, iS), fun q hq => by cases hq; exact h⟩
    | 1 => obtain ⟨cC, iS, h⟩ := u_known (C := RX1) (T := TX1) (N := 11) (n := 11) hB bigX1 (hB _ nw_X6_26.2.1); exact ⟨(cC, iS), fun q hq => by cases hq; exact h⟩
    | 2 => obtain ⟨cC, iS, h⟩ := u_known (C := RX2) (T := TX2) (N := 2) (n := 2) hB bigX2 (hB _ nw_X6_19.2.1); exact ⟨(cC, iS), fun q hq => by cases hq; exact h⟩
    | 3 => obtain ⟨cC, iS, h⟩ := u_known (C := RX3) (T := TX3) (N := 6) (n := 6) hB bigX3 (hB _ nw_X4_28.2.1); exact ⟨(cC, iS), fun q hq => by cases hq; exact h⟩
    | 4 => obtain ⟨cC, iS, h⟩ := u_known (C := RX4) (T := TX4) (N := 13) (n := 13) hB bigX4 (hB _ nw_X6_33.2.1); exact ⟨(cC, iS), fun q hq => by cases hq; exact h⟩
    | 5 => obtain ⟨cC, iS, h⟩ := u_known (C := RX5) (T := TX5) (N := 5) (n := 5) hB bigX5 (hB _ nw_X6_7.2.1); exact ⟨(cC, iS), fun q hq => by cases hq; exact h⟩
    | 6 => obtain ⟨cC, iS, h⟩ := u_known (C := RX6) (T := TX6) (N := 7) (n := 7) hB bigX6 (hB _ nw_L_15.2.1); exact ⟨(cC, iS), fun q hq => by cases hq; exact h⟩
    | c + 7 => exact ⟨((0 : Nat), fun _ => 0), fun q hq => by simp [vwCl] at hq⟩
  obtain ⟨f, hf⟩ := Classical.axiomOfChoice hc
  obtain ⟨c8, k8, m8, f8, g8, e8⟩ := Cond.arrayClass_spec (hB _ wa_int)
  obtain ⟨c9, k9, m9, f9, g9, e9⟩ := Cond.arrayClass_spec (hB _ wa_boolean)
  obtain ⟨c10, k10, m10, f10, g10, e10⟩ := Cond.arrayClass_spec (hB _ wa_char)
  have t26 : Cond.arrayOver (.object "RollScales$Cart") ∈ lw_tbl := List.mem_append_right _ (List.mem_of_getElem? (i := 25) (by decide +kernel))
  have t103 : Cond.arrayOver (.object "RollScales$State") ∈ lw_tbl := List.mem_append_right _ (List.mem_of_getElem? (i := 102) (by decide +kernel))
  obtain ⟨m11, c11, k11, f11, -, g11, e11, n11⟩ := Cond.arrayOver_spec (hts _ t26)
  obtain ⟨m12, c12, k12, f12, -, g12, e12, n12⟩ := Cond.arrayOver_spec (hts _ t103)
  refine ⟨(fun c => (f c).1, fun c => (f c).2), fun k => if k = 8 then c8 else if k = 9 then c9 else if k = 10 then c10 else if k = 11 then c11 else c12, fun c q hq => hf c q hq, fun k q hq => ?_⟩
  match k, hq with
  | 0, hq => cases hq; exact ⟨fun n z => ⟨fun k h => (by cases h), k8, g8, m8, e8⟩, f8⟩
  | 1, hq => cases hq; exact ⟨fun n z => ⟨fun k h => (by cases h), k9, g9, m9, e9⟩, f9⟩
  | 2, hq => cases hq; exact ⟨fun n z => ⟨fun k h => (by cases h), k10, g10, m10, e10⟩, f10⟩
  | 3, hq => cases hq; exact ⟨fun n z => ⟨fun k h => (by cases h), k11, g11, m11, e11⟩, k11, m11, g11, e11, f11, n11⟩
  | 4, hq => cases hq; exact ⟨fun n z => ⟨fun k h => (by cases h), k12, g12, m12, e12⟩, k12, m12, g12, e12, f12, n12⟩
  | k + 5, hq => simp [tysA] at hq
theorem law_AO {s : State} {args : Array Value} (hts : ∀ w ∈ lw_tbl, w.before args s = true) : AOS s :=
  ⟨va_AO.of (hts (.arrayOver (.object "RollScales$Cart")) (List.mem_append_right _ (List.mem_of_getElem? (i := 25) (by decide +kernel)))), va_AO.of (hts (.arrayOver (.object "RollScales$State")) (List.mem_append_right _ (List.mem_of_getElem? (i := 102) (by decide +kernel))))⟩
theorem law_NW {s : State} {args : Array Value} (hts : ∀ w ∈ lw_tbl, w.before args s = true) : NWS s := fun w hw => va_Nw.of (NWS.onT hw) (hts w (List.mem_append_right _ (List.mem_filter.mp hw).1))
/-- a written-out row of exact length -/
theorem va_Xof {args : Array Value} {s : State} {tm : Term} {N : Nat} {f : Nat → Int32} (hN : N < 2 ^ 31) (harr : (Cond.arrayOf tm .int).before args s = true) (hlen : (Term.length tm).eval args s none [] s = some (.int (Int32.ofNat N))) (hel : ∀ j : Nat, j < N → (Term.elem tm (.int (Int32.ofNat j))).eval args s none [] s = some (.int (f j))) : ∃ t : Nat, tm.eval args s none [] s = some (.ref t) ∧ va_X t N f s s.heap ∧ t < s.heap.size := by
  obtain ⟨t, cell, ht, hat, hv⟩ := Term.length_spec hlen
  obtain ⟨hcell, hkn, -, -⟩ := State.arrayAt?_spec hat
  obtain ⟨hof, -⟩ := Cond.arrayOf_spec harr ht hcell
  have hsz : cell.slots.size < 2 ^ 31 := by
    have hlen2 := hlen
    simp only [Term.eval, ht, hat, Option.bind_eq_bind, Option.bind_some] at hlen2
    by_cases hlt : cell.slots.size < 2147483648
    · exact hlt
    · simp [hlt] at hlen2
  have hsN : cell.slots.size = N := by
    have h1 : Int32.ofNat N = cell.slots.size.toInt32 := Value.int.inj hv
    have h2 : nI N = nI cell.slots.size := h1
    have h3 := congrArg Int32.toNatClampNeg h2
    rw [nI_clamp hN, nI_clamp hsz] at h3
    exact h3.symm
  refine ⟨t, ht, ⟨cell, hcell, hof, hkn, hsN, fun j hj => ?_⟩, (Array.getElem?_eq_some_iff.mp hcell).1⟩
  obtain ⟨a, i, cell2, h1, h2, h3, h4, h5⟩ := Term.elem_spec (hel j hj)
  cases ht.symm.trans h1
  cases hat.symm.trans h3
  have hi : i = Int32.ofNat j := by
    have e : (Term.int (Int32.ofNat j)).eval args s none [] s = some (.int (Int32.ofNat j)) := rfl
    cases h2.symm.trans e
    rfl
  have hc : i.toNatClampNeg = j := by rw [hi]; exact Int32.toNatClampNeg_ofNat_of_lt (Nat.lt_trans hj hN)
  rw [hc] at h5
  exact h5
set_option maxRecDepth 20000 in
theorem law_ST {s : State} {args : Array Value} (hts : ∀ w ∈ lw_tbl, w.before args s = true) (hgv : (Jvm.Cond.and given_1 narrow_1).before args s = true) : STT s.heap.size s s.heap := by
  have hs := flat_of_before _ hgv
  have hA : ∀ a : Nat, a < s.heap.size → ¬ aF s.heap.size a := fun a h q => absurd h (Nat.not_lt.mpr q)
  have hini := hts (.initialized "RollScales") (List.mem_append_right _ (List.mem_of_getElem? (i := 1) (by decide +kernel)))
  have el : ∀ (N : String) (j v : Int32), (Cond.eq (.elem (.static "RollScales" N "[I") (.int j)) (.int v)).before args s = true → (Term.elem (.static "RollScales" N "[I") (.int j)).eval args s none [] s = some (.int v) := fun _ _ _ h => va_eqt h
  have l0 := hts (.laysStatic "RollScales" "LEAST_SETTING" "[I") (List.mem_append_right _ (List.mem_of_getElem? (i := 537) (by decide +kernel)))
  obtain ⟨t0, z0, x0⟩ := va_Tof (tm := .static "RollScales" "LEAST_SETTING" "[I") (ty := .int) (N := 6) (f := fun j => .int (leastS j)) (A := aF s.heap.size) (by decide) (hs _ (by decide +kernel)) (va_eqt (hs _ (by decide +kernel))) (fun j hj => by
    rcases (show j = 0 ∨ j = 1 ∨ j = 2 ∨ j = 3 ∨ j = 4 ∨ j = 5 by omega) with rfl | rfl | rfl | rfl | rfl | rfl
    · exact el "LEAST_SETTING" 0 10 (hs _ (by decide +kernel))
    · exact el "LEAST_SETTING" 1 0 (hs _ (by decide +kernel))
    · exact el "LEAST_SETTING" 2 0 (hs _ (by decide +kernel))
    · exact el "LEAST_SETTING" 3 1 (hs _ (by decide +kernel))
    · exact el "LEAST_SETTING" 4 0 (hs _ (by decide +kernel))
    · exact el "LEAST_SETTING" 5 4 (hs _ (by decide +kernel))) hA
  have l1 := hts (.laysStatic "RollScales" "MOST_SETTING" "[I") (List.mem_append_right _ (List.mem_of_getElem? (i := 539) (by decide +kernel)))
  obtain ⟨t1, z1, x1⟩ := va_Tof (tm := .static "RollScales" "MOST_SETTING" "[I") (ty := .int) (N := 6) (f := fun j => .int (mostS j)) (A := aF s.heap.size) (by decide) (hs _ (by decide +kernel)) (va_eqt (hs _ (by decide +kernel))) (fun j hj => by
    rcases (show j = 0 ∨ j = 1 ∨ j = 2 ∨ j = 3 ∨ j = 4 ∨ j = 5 by omega) with rfl | rfl | rfl | rfl | rfl | rfl
    · exact el "MOST_SETTING" 0 90 (hs _ (by decide +kernel))
    · exact el "MOST_SETTING" 1 100 (hs _ (by decide +kernel))
    · exact el "MOST_SETTING" 2 95 (hs _ (by decide +kernel))
    · exact el "MOST_SETTING" 3 9 (hs _ (by decide +kernel))
    · exact el "MOST_SETTING" 4 20 (hs _ (by decide +kernel))
    · exact el "MOST_SETTING" 5 40 (hs _ (by decide +kernel))) hA
  have l2 := hts (.laysStatic "RollScales" "FIRST_SETTING" "[I") (List.mem_append_right _ (List.mem_of_getElem? (i := 71) (by decide +kernel)))
  obtain ⟨t2, z2, x2, b2⟩ := va_Xof (tm := .static "RollScales" "FIRST_SETTING" "[I") (N := 6) (f := firstS) (by decide) (hs _ (by decide +kernel)) (va_eqt (hs _ (by decide +kernel))) (fun j hj => by
    rcases (show j = 0 ∨ j = 1 ∨ j = 2 ∨ j = 3 ∨ j = 4 ∨ j = 5 by omega) with rfl | rfl | rfl | rfl | rfl | rfl
    · exact el "FIRST_SETTING" 0 40 (hs _ (by decide +kernel))
    · exact el "FIRST_SETTING" 1 40 (hs _ (by decide +kernel))
    · exact el "FIRST_SETTING" 2 60 (hs _ (by decide +kernel))
    · exact el "FIRST_SETTING" 3 4 (hs _ (by decide +kernel))
    · exact el "FIRST_SETTING" 4 3 (hs _ (by decide +kernel))
    · exact el "FIRST_SETTING" 5 12 (hs _ (by decide +kernel)))
  exact ⟨t0, t1, t2, va_Zref l0 hini z0 hA, va_Zref l1 hini z1 hA, va_Zref l2 hini z2 hA, x0, x1, x2, b2, b2⟩
theorem mb_cell : Cond.methodLink RL 107 yL_cell ∈ BIG := big_at 310 (by decide +kernel) (by decide +kernel)
theorem l_drop {p : Program} {l : Launch} {e : Env} {R : Room} {s : State} {m : MethodId} {args : Array Value} {below : List Frame} {meth : Method} {c : Code} {Q : State → Prop} {b : Nat} {D : va_G} {cA : Nat → ClassId} {nL n : Nat} {ad : Nat → Nat} {Z : Nat → Nat → Bool} {cells slots : Nat} {pc : Nat} {ls ls2 : List (Option Value)} {st : List Value} {S : ST} (i : Nat) (h : ls.set i none = ls2) (k : GL p l e R s m args below meth c Q b D cA nL n ad Z cells slots pc ls2 st S) : GL p l e R s m args below meth c Q b D cA nL n ad Z cells slots pc ls st S := by
  intro H locs lsA hP hD hS hl
  refine k H locs lsA hP hD hS ⟨hl.1, hl.2.1, by rw [← h, List.length_set]; exact hl.2.2.1, fun j v hj => hl.2.2.2 j v ?_⟩
  rw [← h, List.getElem?_set] at hj
  split at hj
  · split at hj <;> simp at hj
  · exact hj
theorem l_lawend {p : Program} {l : Launch} {e : Env} {s : State} {m : MethodId} {below : List Frame} {meth : Method} {c : Code} {D : va_G} {cA : Nat → ClassId} {ad : Nat → Nat} {Z : Nat → Nat → Bool} {S : ST} {sb n cells slots pc : Nat} {ls : List (Option Value)} (K : CX p s m #[.ref sb] meth c s.heap.size D cA cL_law RL 16 (some .boolean)) (hc : cells ≤ 600000 ∧ slots ≤ 7302250) (d : decode cL_law pc = .ok (.ireturn, 1)) : GL p l e room_1 s m #[.ref sb] below meth c (lw_Z below #[.ref sb] s) s.heap.size D cA 16 n ad Z cells slots pc ls [.int 1] S := by
  intro H locs lsA hP hD hS hl
  refine va_forget (fun q hq => hS.2.2 q hq) (W.widen hc.1 hc.2 (W.base ?_))
  exact lw_ret (Drawn.sameBut.refl s.drawn lw_cs) K.1 K.2.1 K.2.2.2.2.2.2.2.1 K.2.2.2.2.2.2.2.2.1 d
theorem g_widen {p : Program} {l : Launch} {e : Env} {R : Room} {s : State} {m : MethodId} {args : Array Value} {below : List Frame} {meth : Method} {c : Code} {Q : State → Prop} {b : Nat} {D : va_G} {cA : Nat → ClassId} {nL n : Nat} {ad : Nat → Nat} {Z : Nat → Nat → Bool} {cells slots k2 n2 pc : Nat} {ls : List (Option Value)} {st : List Value} {S : ST} (h : cells ≤ k2 ∧ slots ≤ n2) (kk : G p l e R s m args below meth c Q b D cA nL n ad Z k2 n2 pc ls st S) : G p l e R s m args below meth c Q b D cA nL n ad Z cells slots pc ls st S :=
  fun H locs lsA hP hD hS hl => W.widen h.1 h.2 (kk H locs lsA hP hD hS hl)
def A00 : AS := (firstS, 0, fun _ _ => 0, 0, fun _ => 0, 0, fun _ => 0)
def AK0 : AS := (firstS, 0, fun _ _ => 0, 1, firstS, 0, fun _ => 0)
theorem ez_0 : EZ firstS 0 := ⟨fun k hk => absurd hk (Nat.not_lt_zero k), by decide, by decide, by decide⟩
theorem ea_0 : EA A00 0 := ⟨ez_0, fun i hi => absurd hi (Nat.not_lt_zero i), fun q => absurd q (by decide), rfl⟩
theorem ea_k : EA AK0 0 := ⟨ez_0, fun i hi => absurd hi (Nat.not_lt_zero i), fun _ => ez_0, rfl⟩
theorem EA.act2 {A : AS} {z : Nat → Int32} {B : Nat} (h : EA A B) (hm : aM A ≤ 4) (hz : EZ z B) : EA (setZ (recA A) z) B := by
  obtain ⟨h1, h2, h3, h4⟩ := h
  refine ⟨hz, fun i hi => ?_, h3, h4⟩
  have hi2 : i < aM (recA A) := hi
  rw [aM_rec] at hi2
  show EZ (aP (recA A) i) B
  rw [aP_rec]
  by_cases e4 : aM A = 4
  · rw [if_pos e4] at hi2 ⊢
    by_cases e3 : i = 3
    · rw [if_pos e3]
      exact h1
    · rw [if_neg e3]
      exact h2 (i + 1) (by omega)
  · rw [if_neg e4] at hi2 ⊢
    by_cases e3 : i = aM A
    · rw [if_pos e3]
      exact h1
    · rw [if_neg e3]
      exact h2 i (by omega)
theorem un_ok {A : AS} {z : Nat → Int32} (hm : aM A ≤ 4) : ∃ m, (m = if aM A = 4 then 3 else aM A) ∧ aM (setZ (recA A) z) = m + 1 ∧ o_undo (setZ (recA A) z) = (nI m, (aZ A, m, (setZ (recA A) z).2.2)) := by
  have e : aM (setZ (recA A) z) = (if aM A = 4 then 3 else aM A) + 1 := by
    show aM (recA A) = _
    rw [aM_rec]
    split <;> rfl
  refine ⟨_, rfl, e, ?_⟩
  have hl := rec_last A z hm e
  unfold o_undo
  rw [if_neg (by rw [e]; omega), e, Nat.add_sub_cancel, hl]
theorem EA.un {A : AS} {z : Nat → Int32} {m B : Nat} (hm : aM A ≤ 4) (h : EA (setZ (recA A) z) B) (e : aM (setZ (recA A) z) = m + 1) : EA (aZ A, m, (setZ (recA A) z).2.2) B := by
  have h2 := h.undo e
  rw [rec_last A z hm e] at h2
  exact h2
theorem i_nle9 {x : Int32} (h : -9 < x) : ¬ x ≤ -9 := by grind
theorem i_nle90 {x : Int32} (h : 0 ≤ x) : ¬ x ≤ -9 := by grind
theorem i_nge {x : Int32} (h : x < 0) : ¬ 0 ≤ x := by grind
theorem i_nlt0 {x : Int32} (h : 0 ≤ x) : ¬ x < 0 := by grind
set_option maxHeartbeats 40000000 in
set_option maxRecDepth 100000 in
theorem law_body {pr : Program} {l : Launch} {en : Env} {s0 : State} {mi : MethodId} {below : List Frame} {meth : Method} {c' : Code} {D : va_G} {cA : Nat → ClassId} {ad : Nat → Nat} {sb L : Nat} {xs : Nat → Int32} (K : CX pr s0 mi #[.ref sb] meth c' s0.heap.size D cA cL_law RL 16 (some .boolean)) (hX : va_X sb L xs s0 s0.heap) (hbl : sb < s0.heap.size) (hL : L ≤ 260) {S : ST} (hC : CRel S A00 0) : GL pr l en room_1 s0 mi #[.ref sb] below meth c' (lw_Z below #[.ref sb] s0) s0.heap.size D cA 16 NN ad zT 1000 10000 8 [some (.ref sb), some (.ref (ad 0)), none, none, none, none, none, none, none, none, none, none, none, none, none, none] [] S := by
  have lp : ∀ (fuel : Nat) (i n : Nat) (A : AS) (S1 : ST), (61 ≤ i + fuel) → (i ≤ 60) → (CRel S1 A n) → (EA A i) → (aK A = 1) → (1 ≤ i → 1 ≤ n) → GL pr l en room_1 s0 mi #[.ref sb] below meth c' (lw_Z below #[.ref sb] s0) s0.heap.size D cA 16 NN ad zT 1000 10000 130 [some (.ref sb), some (.ref (ad 0)), some (.int 1), some (.long (seenZ (aKZ A))), none, some (.int (aKZ A 6)), some (.int (nI i)), none, none, none, none, none, none, none, none, none] [] S1 := by
    intro fuel
    induction fuel with
    | zero =>
      intro i n  A  S1  hif hi hC hE hK1 hin
      omega
    | succ fuel ih =>
      intro i n  A  S1  hif hi hC hE hK1 hin
      have hsA := hC.st
      have hm4 := hC.m4
      refine l_iload K dL_law_130 rfl ?_
      refine l_bipush K dL_law_132 kb_60 ?_
      refine l_icmp_ge (tgt := 447) K dL_law_134 (by decide) (fun u134 => ?_) (fun u134 => ?_)
      · skip
        refine l_iload_n K dL_law_447 rfl ?_
        exact l_lawend K ⟨by decide, by decide⟩ dL_law_448
      · have hi60 : i < 60 := by
          rw [show (60 : Int32) = nI 60 from rfl, nI_leI (by omega) (by omega)] at u134
          omega
        refine l_iload_n K dL_law_137 rfl ?_
        refine l_if_eq (tgt := 447) K dL_law_138 (by decide) (fun u138 => absurd u138 (by decide)) (fun u138 => ?_)
        refine l_aload_n K dL_law_141 rfl ?_
        refine l_iload K dL_law_142 rfl ?_
        refine l_callX (sb := sb) (L := L) (xs := xs) K hX hbl hbl (c_L_cell (xs := xs) (L := L) (i := i) hbl (by omega) (by omega)) mw_L_cell mb_cell dL_law_144 rfl (by rfl) (by simp [Value.category]) ⟨by decide, by decide⟩ ⟨by decide, by decide⟩ (fun r144 S144 h144 => ?_)
        obtain ⟨⟨xn, hxn, rfl⟩, rfl⟩ := h144
        refine l_istore (ls2 := [_, _, _, _, _, _, some (.int _), some (.int _), none, _, _, _, _, _, _, _]) K dL_law_147 (by decide) rfl ?_
        refine l_aload_n K dL_law_149 rfl ?_
        refine l_rdlS K (c_L_seen hC) mw_L_seen ml_L_86 dL_law_150 (by rfl) rfl (by simp [Value.category]) ⟨by decide, by decide⟩ ⟨by decide, by decide⟩ ?_
        clear hC
        intro S150 hC
        refine l_lstore (ls2 := [_, _, _, _, _, _, _, some (.int _), some (.long _), none, _, _, _, _, _, _]) K dL_law_153 (by decide) rfl ?_
        refine l_aload_n K dL_law_155 rfl ?_
        refine l_iconst K dL_law_156 kc_4 ?_
        refine l_rdV K (rd hC (c_X6_count hC) (cn_4 A)) mw_X6_count ml_L_14 dL_law_157 (by rfl) rfl rfl (by decide) (by simp [Value.category]) ⟨by decide, by decide⟩ ⟨by decide, by decide⟩ ?_
        clear hC
        intro S157 hC
        refine l_istore (ls2 := [_, _, _, _, _, _, _, _, _, none, some (.int _), none, _, _, _, _]) K dL_law_160 (by decide) rfl ?_
        refine l_aload_n K dL_law_162 rfl ?_
        refine l_iload K dL_law_163 rfl ?_
        refine l_callSpi K (c_L_act hC hE (by omega) hxn) mw_L_act ml_L_111 dL_law_165 (by rfl) rfl (by simp [Value.category]) ⟨by decide, by decide⟩ ⟨by decide, by decide⟩ (fun r165 S165 h165 => ?_)
        have k228 : ∀ (A2 : AS) (n2 : Nat) (S2 : ST), (CRel S2 A2 n2) → (EA A2 (i + 1)) → (1 ≤ n2) → (aK A2 = 1 ∧ aKZ A2 = aKZ A) → ((r165 < 0 ∧ A2 = A) ∨ (0 ≤ r165 ∧ ∃ z, A2 = setZ (recA A) z)) → GL pr l en room_1 s0 mi #[.ref sb] below meth c' (lw_Z below #[.ref sb] s0) s0.heap.size D cA 16 NN ad zT 1000 10000 228 [some (.ref sb), some (.ref (ad 0)), some (.int 1), some (.long (seenZ (aKZ A))), none, some (.int (aKZ A 6)), some (.int (nI i)), some (.int (nI xn)), some (.long (seenZ (aZ A))), none, some (.int (nI (aM A))), some (.int r165), none, none, none, none] [] S2 := by
          intro A2  n2  S2  hC hE2 hn2 hK2 hrel
          refine l_aload_n K dL_law_228 rfl ?_
          refine l_rdS K (c_L_areCarts hC hE2.1) mw_L_areCarts ml_L_115 dL_law_229 (by rfl) rfl (by simp [Value.category]) ⟨by decide, by decide⟩ ⟨by decide, by decide⟩ ?_
          clear hC
          intro S229 hC
          refine l_if_eq (tgt := 296) K dL_law_232 (by decide) (fun u232 => absurd u232 (by decide)) (fun u232 => ?_)
          have hs2 := hC.st
          have n26 := hs2.2.2.1
          obtain ⟨k, ek⟩ : ∃ k, xn / 5 % n2 = k := ⟨_, rfl⟩
          have hk : k < n2 := by rw [← ek]; exact Nat.mod_lt _ hn2
          have k297 : ∀ (S3 : ST), (CRel S3 A2 n2) → GL pr l en room_1 s0 mi #[.ref sb] below meth c' (lw_Z below #[.ref sb] s0) s0.heap.size D cA 16 NN ad zT 1000 10000 297 [some (.ref sb), some (.ref (ad 0)), some (.int 1), some (.long (seenZ (aKZ A))), none, some (.int (aKZ A 6)), some (.int (nI i)), some (.int (nI xn)), some (.long (seenZ (aZ A))), none, some (.int (nI (aM A))), some (.int r165), none, none, none, none] [.int 1] S3 := by
            intro S3  hC
            refine l_istore_n (ls2 := [_, some (.ref _), some (.int _), some (.long _), _, _, _, _, _, _, _, _, _, _, _, _]) K dL_law_297 (by decide) rfl ?_
            have k357 : ∀ (A4 : AS) (n4 : Nat) (S4 : ST), (CRel S4 A4 n4) → (EA A4 (i + 1)) → (1 ≤ n4) → (aK A4 = 1 ∧ aKZ A4 = aKZ A) → GL pr l en room_1 s0 mi #[.ref sb] below meth c' (lw_Z below #[.ref sb] s0) s0.heap.size D cA 16 NN ad zT 1000 10000 357 [some (.ref sb), some (.ref (ad 0)), some (.int 1), some (.long (seenZ (aKZ A))), none, some (.int (aKZ A 6)), some (.int (nI i)), none, none, none, none, none, none, none, none, none] [] S4 := by
              intro A4  n4  S4  hC hE4 hn4 hK4
              refine l_iload_n K dL_law_357 rfl ?_
              refine l_if_eq (tgt := 441) K dL_law_358 (by decide) (fun u358 => absurd u358 (by decide)) (fun u358 => ?_)
              rcases Classical.em (i % 15 = 14) with h15 | h15
              · have hs4 := hC.st
                have hm44 := hC.m4
                obtain ⟨m, em, hm1, hun⟩ := un_ok (z := aKZ A4) hm44
                have hE5 := hE4.act2 (z := aKZ A4) hm44 (hE4.2.2.1 hK4.1)
                have hE6 := EA.un hm44 hE5 hm1
                have hm31 : m ≤ 4 := by
                  rw [em]
                  split <;> omega
                refine l_iload K dL_law_361 rfl ?_
                refine l_bipush K dL_law_363 kb_15 ?_
                refine l_irem K dL_law_365 (by first | assumption | decide) ?_
                refine l_nm (y := (nI (i % 15))) (pk_rem (d := 15) (by omega) (by decide) (by decide)) ?_
                refine l_bipush K dL_law_366 kb_14 ?_
                refine l_icmp_ne (tgt := 441) K dL_law_368 (by decide) (fun u368 => absurd u368 (fun h => h (by rw [h15]; rfl))) (fun u368 => ?_)
                refine l_aload_n K dL_law_371 rfl ?_
                refine l_rdlS K (c_L_seen hC) mw_L_seen ml_L_86 dL_law_372 (by rfl) rfl (by simp [Value.category]) ⟨by decide, by decide⟩ ⟨by decide, by decide⟩ ?_
                clear hC
                intro S372 hC
                refine l_lstore (ls2 := [_, _, _, _, _, _, _, _, _, _, _, _, none, some (.long _), none, _]) K dL_law_375 (by decide) rfl ?_
                refine l_aload_n K dL_law_377 rfl ?_
                refine l_iconst K dL_law_378 kc_0 ?_
                refine l_rdV K (rd hC (c_X6_count hC) (cn_0 hs4)) mw_X6_count ml_L_14 dL_law_379 (by rfl) rfl rfl (by decide) (by simp [Value.category]) ⟨by decide, by decide⟩ ⟨by decide, by decide⟩ ?_
                clear hC
                intro S379 hC
                refine l_istore (ls2 := [_, _, _, _, _, _, _, _, _, _, _, _, _, _, none, some (.int _)]) K dL_law_382 (by decide) rfl ?_
                refine l_aload_n K dL_law_384 rfl ?_
                refine l_rdV K (ra (c_X6_restore hC) (show o_restore A4 = (aKZ A4 6, setZ (recA A4) (aKZ A4)) from if_neg (by rw [hK4.1]; decide))) mw_X6_restore ml_L_98 dL_law_385 (by rfl) rfl rfl (by decide) (by simp [Value.category]) ⟨by decide, by decide⟩ ⟨by decide, by decide⟩ ?_
                intro S385 hC
                obtain ⟨n5, hC⟩ := hC
                refine l_iload K dL_law_388 rfl ?_
                refine l_icmp_ne (tgt := 432) K dL_law_390 (by decide) (fun u390 => absurd u390 (fun h => h (by rw [hK4.2]))) (fun u390 => ?_)
                refine l_aload_n K dL_law_393 rfl ?_
                refine l_rdlS K (c_L_seen hC) mw_L_seen ml_L_86 dL_law_394 (by rfl) rfl (by simp [Value.category]) ⟨by decide, by decide⟩ ⟨by decide, by decide⟩ ?_
                clear hC
                intro S394 hC
                refine l_lload_n K dL_law_397 rfl ?_
                refine l_lcmp K dL_law_398 ?_
                refine l_if_ne (tgt := 432) K dL_law_399 (by decide) (fun u399 => absurd u399 (fun h => h (by rw [hK4.2]; exact lg_same))) (fun u399 => ?_)
                refine l_aload_n K dL_law_402 rfl ?_
                refine l_rdV K (ra (c_X6_undo hC) (hun)) mw_X6_undo ml_L_95 dL_law_403 (by rfl) rfl rfl (by decide) (by simp [Value.category]) ⟨by decide, by decide⟩ ⟨by decide, by decide⟩ ?_
                intro S403 hC
                obtain ⟨n6, hC⟩ := hC
                refine l_if_lt (tgt := 432) K dL_law_406 (by decide) (fun u406 => absurd u406 (nI_pos (by omega))) (fun u406 => ?_)
                refine l_aload_n K dL_law_409 rfl ?_
                refine l_rdlS K (c_L_seen hC) mw_L_seen ml_L_86 dL_law_410 (by rfl) rfl (by simp [Value.category]) ⟨by decide, by decide⟩ ⟨by decide, by decide⟩ ?_
                clear hC
                intro S410 hC
                refine l_lload K dL_law_413 rfl ?_
                refine l_lcmp K dL_law_415 ?_
                refine l_if_ne (tgt := 432) K dL_law_416 (by decide) (fun u416 => absurd u416 (fun h => h lg_same)) (fun u416 => ?_)
                refine l_aload_n K dL_law_419 rfl ?_
                refine l_rdV K (ra (c_X6_keep hC) (show o_keep (aZ A4, m, (setZ (recA A4) (aKZ A4)).2.2) = (nI n4, _) from congrArg (fun x => (x, _)) hs4.2.1)) mw_X6_keep ml_L_104 dL_law_420 (by rfl) rfl rfl (by decide) (by simp [Value.category]) ⟨by decide, by decide⟩ ⟨by decide, by decide⟩ ?_
                intro S420 hC
                obtain ⟨n7, hC⟩ := hC
                have e7 : n7 = n4 := n_same hs4 hC.st rfl
                obtain ⟨A7, e7Z, e7K, hE7, hC7⟩ : ∃ A7 : AS, aKZ A7 = aZ A4 ∧ aK A7 = 1 ∧ EA A7 (i + 1) ∧ CRel S420 A7 n7 := ⟨_, rfl, rfl, hE6.keep, hC⟩
                refine l_iload K dL_law_423 rfl ?_
                refine l_icmp_ne (tgt := 432) K dL_law_425 (by decide) (fun u425 => absurd u425 (fun h => h rfl)) (fun u425 => ?_)
                refine l_iconst K dL_law_428 kc_1 ?_
                refine l_goto (tgt := 433) K dL_law_429 (by decide) ?_
                refine l_istore_n (ls2 := [_, some (.ref _), some (.int _), some (.long _), _, _, _, _, _, _, _, _, _, _, _, _]) K dL_law_433 (by decide) rfl ?_
                refine l_lload K dL_law_434 rfl ?_
                refine l_lstore_n (ls2 := [_, _, some (.int _), some (.long _), none, _, _, _, _, _, _, _, _, _, _, _]) K dL_law_436 (by decide) rfl ?_
                refine l_iload K dL_law_437 rfl ?_
                refine l_nm (y := (aZ A4 6)) hs4.2.1.symm ?_
                refine l_istore (ls2 := [_, _, _, _, none, some (.int _), some (.int _), _, _, _, _, _, _, _, _, _]) K dL_law_439 (by decide) rfl ?_
                refine l_iinc (ls2 := [_, _, _, _, _, _, some (.int _), _, _, _, _, _, _, _, _, _]) K dL_law_441 rfl kc_1 rfl ?_
                refine l_goto (tgt := 130) K dL_law_444 (by decide) ?_
                refine l_drop (ls2 := [_, _, _, _, _, _, _, _, _, _, _, _, _, none, _, _]) 13 rfl ?_
                refine l_drop (ls2 := [_, _, _, _, _, _, _, _, _, _, _, _, _, _, _, none]) 15 rfl ?_
                rw [nI_1, ← e7Z]
                exact ih (i + 1) n7 A7 _ (by omega) (by omega) hC7 hE7 e7K (fun _ => by omega)
              · skip
                refine l_iload K dL_law_361 rfl ?_
                refine l_bipush K dL_law_363 kb_15 ?_
                refine l_irem K dL_law_365 (by first | assumption | decide) ?_
                refine l_nm (y := (nI (i % 15))) (pk_rem (d := 15) (by omega) (by decide) (by decide)) ?_
                refine l_bipush K dL_law_366 kb_14 ?_
                refine l_icmp_ne (tgt := 441) K dL_law_368 (by decide) (fun u368 => ?_) (fun u368 => absurd u368 (fun h => h15 ((nI_eq (b := 14) (by omega) (by decide)).mp h)))
                refine l_iinc (ls2 := [_, _, _, _, _, _, some (.int _), _, _, _, _, _, _, _, _, _]) K dL_law_441 rfl kc_1 rfl ?_
                refine l_goto (tgt := 130) K dL_law_444 (by decide) ?_
                rw [nI_1, ← hK4.2]
                exact ih (i + 1) n4 A4 _ (by omega) (by omega) hC hE4 hK4.1 (fun _ => hn4)
            refine l_iload_n K dL_law_298 rfl ?_
            refine l_if_eq (tgt := 357) K dL_law_299 (by decide) (fun u299 => absurd u299 (by decide)) (fun u299 => ?_)
            refine l_iload K dL_law_302 rfl ?_
            refine l_if_lt (tgt := 357) K dL_law_304 (by decide) (fun u304 => ?_) (fun u304 => ?_)
            · refine l_drop (ls2 := [_, _, _, _, _, _, _, none, _, _, _, _, _, _, _, _]) 7 rfl ?_
              refine l_drop (ls2 := [_, _, _, _, _, _, _, _, none, _, _, _, _, _, _, _]) 8 rfl ?_
              refine l_drop (ls2 := [_, _, _, _, _, _, _, _, _, _, none, _, _, _, _, _]) 10 rfl ?_
              refine l_drop (ls2 := [_, _, _, _, _, _, _, _, _, _, _, none, _, _, _, _]) 11 rfl ?_
              exact k357 _ n2 _ hC hE2 hn2 hK2
            · obtain ⟨z, rfl⟩ : ∃ z, A2 = setZ (recA A) z := by
                rcases hrel with ⟨h, -⟩ | ⟨-, h⟩
                · exact absurd h u304
                · exact h
              refine l_iload K dL_law_307 rfl ?_
              refine l_if_le (tgt := 357) K dL_law_309 (by decide) (fun u309 => ?_) (fun u309 => ?_)
              · refine l_drop (ls2 := [_, _, _, _, _, _, _, none, _, _, _, _, _, _, _, _]) 7 rfl ?_
                refine l_drop (ls2 := [_, _, _, _, _, _, _, _, none, _, _, _, _, _, _, _]) 8 rfl ?_
                refine l_drop (ls2 := [_, _, _, _, _, _, _, _, _, _, none, _, _, _, _, _]) 10 rfl ?_
                refine l_drop (ls2 := [_, _, _, _, _, _, _, _, _, _, _, none, _, _, _, _]) 11 rfl ?_
                exact k357 _ n2 _ hC hE2 hn2 hK2
              · have hi1 : 1 ≤ i := by
                  rcases Nat.eq_zero_or_pos i with h | h
                  · exact absurd (by rw [h]; decide) u309
                  · exact h
                refine l_iload K dL_law_312 rfl ?_
                refine l_bipush K dL_law_314 kb_17 ?_
                refine l_idiv K dL_law_316 (by first | assumption | decide) ?_
                refine l_nm (y := (nI (xn / 17))) (pk_div (d := 17) (by omega) (by decide) (by decide)) ?_
                refine l_iconst K dL_law_317 kc_4 ?_
                refine l_irem K dL_law_318 (by first | assumption | decide) ?_
                refine l_nm (y := (nI (xn / 17 % 4))) (pk_rem (d := 4) (by omega) (by decide) (by decide)) ?_
                refine l_if_ne (tgt := 357) K dL_law_319 (by decide) (fun u319 => ?_) (fun u319 => ?_)
                · refine l_drop (ls2 := [_, _, _, _, _, _, _, none, _, _, _, _, _, _, _, _]) 7 rfl ?_
                  refine l_drop (ls2 := [_, _, _, _, _, _, _, _, none, _, _, _, _, _, _, _]) 8 rfl ?_
                  refine l_drop (ls2 := [_, _, _, _, _, _, _, _, _, _, none, _, _, _, _, _]) 10 rfl ?_
                  refine l_drop (ls2 := [_, _, _, _, _, _, _, _, _, _, _, none, _, _, _, _]) 11 rfl ?_
                  exact k357 _ n2 _ hC hE2 hn2 hK2
                · obtain ⟨m, em, hm1, hun⟩ := un_ok (z := z) hm4
                  rcases (show aM A = 4 ∨ aM A < 4 by omega) with h4 | h4
                  · rw [if_pos h4] at em
                    subst em
                    refine l_aload_n K dL_law_322 rfl ?_
                    refine l_rdV K (ra (c_X6_undo hC) (hun)) mw_X6_undo ml_L_95 dL_law_323 (by rfl) rfl rfl (by decide) (by simp [Value.category]) ⟨by decide, by decide⟩ ⟨by decide, by decide⟩ ?_
                    intro S323 hC
                    obtain ⟨n3, hC⟩ := hC
                    have e3 : n3 = n := n_same hsA hC.st rfl
                    refine l_iload K dL_law_326 rfl ?_
                    refine l_iconst K dL_law_328 kc_4 ?_
                    refine l_icmp_ge (tgt := 337) K dL_law_329 (by decide) (fun u329 => ?_) (fun u329 => absurd (by rw [h4]; decide) u329)
                    refine l_iconst K dL_law_337 kc_3 ?_
                    refine l_icmp_ne (tgt := 355) K dL_law_338 (by decide) (fun u338 => absurd u338 (fun h => h rfl)) (fun u338 => ?_)
                    refine l_aload_n K dL_law_341 rfl ?_
                    refine l_rdlS K (c_L_seen hC) mw_L_seen ml_L_86 dL_law_342 (by rfl) rfl (by simp [Value.category]) ⟨by decide, by decide⟩ ⟨by decide, by decide⟩ ?_
                    clear hC
                    intro S342 hC
                    refine l_lload K dL_law_345 rfl ?_
                    refine l_lcmp K dL_law_347 ?_
                    refine l_if_ne (tgt := 355) K dL_law_348 (by decide) (fun u348 => absurd u348 (fun h => h lg_same)) (fun u348 => ?_)
                    refine l_iconst K dL_law_351 kc_1 ?_
                    refine l_goto (tgt := 356) K dL_law_352 (by decide) ?_
                    refine l_istore_n (ls2 := [_, some (.ref _), some (.int _), some (.long _), _, _, _, _, _, _, _, _, _, _, _, _]) K dL_law_356 (by decide) rfl ?_
                    refine l_drop (ls2 := [_, _, _, _, _, _, _, none, _, _, _, _, _, _, _, _]) 7 rfl ?_
                    refine l_drop (ls2 := [_, _, _, _, _, _, _, _, none, _, _, _, _, _, _, _]) 8 rfl ?_
                    refine l_drop (ls2 := [_, _, _, _, _, _, _, _, _, _, none, _, _, _, _, _]) 10 rfl ?_
                    refine l_drop (ls2 := [_, _, _, _, _, _, _, _, _, _, _, none, _, _, _, _]) 11 rfl ?_
                    exact k357 _ n3 _ hC (EA.un hm4 hE2 hm1) (by have := hin hi1; omega) ⟨hK2.1, hK2.2⟩
                  · rw [if_neg (by omega)] at em
                    subst em
                    refine l_aload_n K dL_law_322 rfl ?_
                    refine l_rdV K (ra (c_X6_undo hC) (hun)) mw_X6_undo ml_L_95 dL_law_323 (by rfl) rfl rfl (by decide) (by simp [Value.category]) ⟨by decide, by decide⟩ ⟨by decide, by decide⟩ ?_
                    intro S323 hC
                    obtain ⟨n3, hC⟩ := hC
                    have e3 : n3 = n := n_same hsA hC.st rfl
                    refine l_iload K dL_law_326 rfl ?_
                    refine l_iconst K dL_law_328 kc_4 ?_
                    refine l_icmp_ge (tgt := 337) K dL_law_329 (by decide) (fun u329 => absurd u329 (nI_ge (b := 4) h4 (by decide))) (fun u329 => ?_)
                    refine l_iload K dL_law_332 rfl ?_
                    refine l_goto (tgt := 338) K dL_law_334 (by decide) ?_
                    refine l_icmp_ne (tgt := 355) K dL_law_338 (by decide) (fun u338 => absurd u338 (fun h => h rfl)) (fun u338 => ?_)
                    refine l_aload_n K dL_law_341 rfl ?_
                    refine l_rdlS K (c_L_seen hC) mw_L_seen ml_L_86 dL_law_342 (by rfl) rfl (by simp [Value.category]) ⟨by decide, by decide⟩ ⟨by decide, by decide⟩ ?_
                    clear hC
                    intro S342 hC
                    refine l_lload K dL_law_345 rfl ?_
                    refine l_lcmp K dL_law_347 ?_
                    refine l_if_ne (tgt := 355) K dL_law_348 (by decide) (fun u348 => absurd u348 (fun h => h lg_same)) (fun u348 => ?_)
                    refine l_iconst K dL_law_351 kc_1 ?_
                    refine l_goto (tgt := 356) K dL_law_352 (by decide) ?_
                    refine l_istore_n (ls2 := [_, some (.ref _), some (.int _), some (.long _), _, _, _, _, _, _, _, _, _, _, _, _]) K dL_law_356 (by decide) rfl ?_
                    refine l_drop (ls2 := [_, _, _, _, _, _, _, none, _, _, _, _, _, _, _, _]) 7 rfl ?_
                    refine l_drop (ls2 := [_, _, _, _, _, _, _, _, none, _, _, _, _, _, _, _]) 8 rfl ?_
                    refine l_drop (ls2 := [_, _, _, _, _, _, _, _, _, _, none, _, _, _, _, _]) 10 rfl ?_
                    refine l_drop (ls2 := [_, _, _, _, _, _, _, _, _, _, _, none, _, _, _, _]) 11 rfl ?_
                    exact k357 _ n3 _ hC (EA.un hm4 hE2 hm1) (by have := hin hi1; omega) ⟨hK2.1, hK2.2⟩
          have hs2 := hC.st
          have n26 := hs2.2.2.1
          obtain ⟨k, ek⟩ : ∃ k, xn / 5 % n2 = k := ⟨_, rfl⟩
          have hk : k < n2 := by rw [← ek]; exact Nat.mod_lt _ hn2
          refine l_aload_n K dL_law_235 rfl ?_
          refine l_iload K dL_law_236 rfl ?_
          refine l_iconst K dL_law_238 kc_5 ?_
          refine l_idiv K dL_law_239 (by first | assumption | decide) ?_
          refine l_nm (y := (nI (xn / 5))) (pk_div (d := 5) (by omega) (by decide) (by decide)) ?_
          refine l_aload_n K dL_law_240 rfl ?_
          refine l_iconst K dL_law_241 kc_0 ?_
          refine l_rdV K (rd hC (c_X6_count hC) (cn_0 hs2)) mw_X6_count ml_L_14 dL_law_242 (by rfl) rfl rfl (by decide) (by simp [Value.category]) ⟨by decide, by decide⟩ ⟨by decide, by decide⟩ ?_
          clear hC
          intro S242 hC
          refine l_irem K dL_law_245 (nI_ne0 hn2 (by omega)) ?_
          refine l_nm (y := (nI k)) ((pk_rem (by omega) hn2 (by omega)).trans (by rw [ek])) ?_
          refine l_iconst K dL_law_246 kc_1 ?_
          refine l_iload K dL_law_247 rfl ?_
          refine l_bipush K dL_law_249 kb_30 ?_
          refine l_idiv K dL_law_251 (by first | assumption | decide) ?_
          refine l_nm (y := (nI (xn / 30))) (pk_div (d := 30) (by omega) (by decide) (by decide)) ?_
          refine l_bipush K dL_law_252 kb_9 ?_
          refine l_irem K dL_law_254 (by first | assumption | decide) ?_
          refine l_nm (y := (nI (xn / 30 % 9))) (pk_rem (d := 9) (by omega) (by decide) (by decide)) ?_
          refine l_iadd K dL_law_255 ?_
          refine l_nm (y := (nI (1 + xn / 30 % 9))) (nI_add 1 _) ?_
          refine l_iload K dL_law_256 rfl ?_
          refine l_bipush K dL_law_258 kb_7 ?_
          refine l_idiv K dL_law_260 (by first | assumption | decide) ?_
          refine l_nm (y := (nI (xn / 7))) (pk_div (d := 7) (by omega) (by decide) (by decide)) ?_
          refine l_bipush K dL_law_261 kb_120 ?_
          refine l_irem K dL_law_263 (by first | assumption | decide) ?_
          refine l_nm (y := (nI (xn / 7 % 120))) (pk_rem (d := 120) (by omega) (by decide) (by decide)) ?_
          refine l_rdS K (c_L_isRun (v := 1 + xn / 30 % 9) (tt := xn / 7 % 120) hC hk (by omega) (by omega) (Nat.mod_lt _ (by decide))) mw_L_isRun ml_L_119 dL_law_264 (by rfl) rfl (by simp [Value.category]) ⟨by decide, by decide⟩ ⟨by decide, by decide⟩ ?_
          clear hC
          intro S264 hC
          refine l_if_eq (tgt := 296) K dL_law_267 (by decide) (fun u267 => absurd u267 (by decide)) (fun u267 => ?_)
          refine l_iload K dL_law_270 rfl ?_
          refine l_bipush K dL_law_272 kb_8 ?_
          refine l_irem K dL_law_274 (by first | assumption | decide) ?_
          refine l_nm (y := (nI (i % 8))) (pk_rem (d := 8) (by omega) (by decide) (by decide)) ?_
          refine l_bipush K dL_law_275 kb_7 ?_
          refine l_icmp_ne (tgt := 292) K dL_law_277 (by decide) (fun u277 => ?_) (fun u277 => ?_)
          · refine l_iconst K dL_law_292 kc_1 ?_
            refine l_goto (tgt := 297) K dL_law_293 (by decide) ?_
            exact k297 _ hC
          · refine l_aload_n K dL_law_280 rfl ?_
            refine l_iload K dL_law_281 rfl ?_
            refine l_bipush K dL_law_283 kb_7 ?_
            refine l_idiv K dL_law_285 (by first | assumption | decide) ?_
            refine l_nm (y := (nI (xn / 7))) (pk_div (d := 7) (by omega) (by decide) (by decide)) ?_
            refine l_rdS K (c_L_refuses (xn := xn / 7) hC hE2.2.2.2 (by omega)) mw_L_refuses ml_L_101 dL_law_286 (by rfl) rfl (by simp [Value.category]) ⟨by decide, by decide⟩ ⟨by decide, by decide⟩ ?_
            clear hC
            intro S286 hC
            refine l_if_eq (tgt := 296) K dL_law_289 (by decide) (fun u289 => absurd u289 (by decide)) (fun u289 => ?_)
            refine l_iconst K dL_law_292 kc_1 ?_
            refine l_goto (tgt := 297) K dL_law_293 (by decide) ?_
            exact k297 _ hC
        rcases h165 with ⟨hr0, hr9, hn1, hC2⟩ | ⟨hr0, z, n2, hn2, hz, hC2⟩
        · clear hC
          have hC := hC2
          refine l_istore (ls2 := [_, _, _, _, _, _, _, _, _, _, some (.int _), some (.int _), none, _, _, _]) K dL_law_168 (by decide) rfl ?_
          refine l_aload_n K dL_law_170 rfl ?_
          refine l_iconst K dL_law_171 kc_4 ?_
          refine l_rdV K (rd hC (c_X6_count hC) (cn_4 A)) mw_X6_count ml_L_14 dL_law_172 (by rfl) rfl rfl (by decide) (by simp [Value.category]) ⟨by decide, by decide⟩ ⟨by decide, by decide⟩ ?_
          clear hC
          intro S172 hC
          refine l_istore (ls2 := [_, _, _, _, _, _, _, _, _, _, _, some (.int _), some (.int _), none, _, _]) K dL_law_175 (by decide) rfl ?_
          refine l_iload K dL_law_177 rfl ?_
          refine l_bipush K dL_law_179 kb_m9 ?_
          refine l_icmp_le (tgt := 296) K dL_law_181 (by decide) (fun u181 => absurd u181 (i_nle9 hr9)) (fun u181 => ?_)
          refine l_iload K dL_law_184 rfl ?_
          refine l_if_ge (tgt := 209) K dL_law_186 (by decide) (fun u186 => absurd u186 (i_nge hr0)) (fun u186 => ?_)
          refine l_iload K dL_law_189 rfl ?_
          refine l_iload K dL_law_191 rfl ?_
          refine l_icmp_ne (tgt := 296) K dL_law_193 (by decide) (fun u193 => absurd u193 (fun h => h rfl)) (fun u193 => ?_)
          refine l_aload_n K dL_law_196 rfl ?_
          refine l_rdlS K (c_L_seen hC) mw_L_seen ml_L_86 dL_law_197 (by rfl) rfl (by simp [Value.category]) ⟨by decide, by decide⟩ ⟨by decide, by decide⟩ ?_
          clear hC
          intro S197 hC
          refine l_lload K dL_law_200 rfl ?_
          refine l_lcmp K dL_law_202 ?_
          refine l_if_ne (tgt := 296) K dL_law_203 (by decide) (fun u203 => absurd u203 (fun h => h lg_same)) (fun u203 => ?_)
          refine l_goto (tgt := 228) K dL_law_206 (by decide) ?_
          refine l_drop (ls2 := [_, _, _, _, _, _, _, _, _, _, _, _, none, _, _, _]) 12 rfl ?_
          exact k228 A n _ hC (hE.more (by omega) (by omega)) hn1 ⟨hK1, rfl⟩ (Or.inl ⟨hr0, rfl⟩)
        · clear hC
          have hC := hC2
          refine l_istore (ls2 := [_, _, _, _, _, _, _, _, _, _, some (.int _), some (.int _), none, _, _, _]) K dL_law_168 (by decide) rfl ?_
          refine l_aload_n K dL_law_170 rfl ?_
          refine l_iconst K dL_law_171 kc_4 ?_
          rcases (show aM A = 4 ∨ aM A < 4 by omega) with h4 | h4
          · skip
            refine l_rdV K (rd hC (c_X6_count hC) ((cn_4 _).trans (congrArg nI ((aM_rec A).trans (if_pos h4))))) mw_X6_count ml_L_14 dL_law_172 (by rfl) rfl rfl (by decide) (by simp [Value.category]) ⟨by decide, by decide⟩ ⟨by decide, by decide⟩ ?_
            clear hC
            intro S172 hC
            refine l_istore (ls2 := [_, _, _, _, _, _, _, _, _, _, _, some (.int _), some (.int _), none, _, _]) K dL_law_175 (by decide) rfl ?_
            refine l_iload K dL_law_177 rfl ?_
            refine l_bipush K dL_law_179 kb_m9 ?_
            refine l_icmp_le (tgt := 296) K dL_law_181 (by decide) (fun u181 => absurd u181 (i_nle90 hr0)) (fun u181 => ?_)
            refine l_iload K dL_law_184 rfl ?_
            refine l_if_ge (tgt := 209) K dL_law_186 (by decide) (fun u186 => ?_) (fun u186 => absurd hr0 u186)
            refine l_iload K dL_law_209 rfl ?_
            refine l_iload K dL_law_211 rfl ?_
            refine l_iconst K dL_law_213 kc_4 ?_
            refine l_icmp_ge (tgt := 224) K dL_law_214 (by decide) (fun u214 => ?_) (fun u214 => absurd (by rw [h4]; decide) u214)
            refine l_iconst K dL_law_224 kc_4 ?_
            refine l_icmp_ne (tgt := 296) K dL_law_225 (by decide) (fun u225 => absurd u225 (fun h => h rfl)) (fun u225 => ?_)
            refine l_drop (ls2 := [_, _, _, _, _, _, _, _, _, _, _, _, none, _, _, _]) 12 rfl ?_
            exact k228 (setZ (recA A) z) n2 _ hC (hE.act hm4 (by omega) hz) hn2 ⟨hK1, rfl⟩ (Or.inr ⟨hr0, z, rfl⟩)
          · skip
            refine l_rdV K (rd hC (c_X6_count hC) ((cn_4 _).trans (congrArg nI ((aM_rec A).trans (if_neg (by omega)))))) mw_X6_count ml_L_14 dL_law_172 (by rfl) rfl rfl (by decide) (by simp [Value.category]) ⟨by decide, by decide⟩ ⟨by decide, by decide⟩ ?_
            clear hC
            intro S172 hC
            refine l_istore (ls2 := [_, _, _, _, _, _, _, _, _, _, _, some (.int _), some (.int _), none, _, _]) K dL_law_175 (by decide) rfl ?_
            refine l_iload K dL_law_177 rfl ?_
            refine l_bipush K dL_law_179 kb_m9 ?_
            refine l_icmp_le (tgt := 296) K dL_law_181 (by decide) (fun u181 => absurd u181 (i_nle90 hr0)) (fun u181 => ?_)
            refine l_iload K dL_law_184 rfl ?_
            refine l_if_ge (tgt := 209) K dL_law_186 (by decide) (fun u186 => ?_) (fun u186 => absurd hr0 u186)
            refine l_iload K dL_law_209 rfl ?_
            refine l_iload K dL_law_211 rfl ?_
            refine l_iconst K dL_law_213 kc_4 ?_
            refine l_icmp_ge (tgt := 224) K dL_law_214 (by decide) (fun u214 => absurd u214 (nI_ge (b := 4) h4 (by decide))) (fun u214 => ?_)
            refine l_iload K dL_law_217 rfl ?_
            refine l_iconst K dL_law_219 kc_1 ?_
            refine l_iadd K dL_law_220 ?_
            refine l_nm (y := (nI (aM A + 1))) (nI_1 _) ?_
            refine l_goto (tgt := 225) K dL_law_221 (by decide) ?_
            refine l_icmp_ne (tgt := 296) K dL_law_225 (by decide) (fun u225 => absurd u225 (fun h => h rfl)) (fun u225 => ?_)
            refine l_drop (ls2 := [_, _, _, _, _, _, _, _, _, _, _, _, none, _, _, _]) 12 rfl ?_
            exact k228 (setZ (recA A) z) n2 _ hC (hE.act hm4 (by omega) hz) hn2 ⟨hK1, rfl⟩ (Or.inr ⟨hr0, z, rfl⟩)
  refine l_aload_n K dL_law_8 rfl ?_
  refine l_rdV K (rq hC (c_X6_undo hC) (show o_undo A00 = (-5, A00) from if_pos rfl)) mw_X6_undo ml_L_95 dL_law_9 (by rfl) rfl rfl (by decide) (by simp [Value.category]) ⟨by decide, by decide⟩ ⟨by decide, by decide⟩ ?_
  clear hC
  intro S9 hC
  refine l_bipush K dL_law_12 kb_m5 ?_
  refine l_icmp_ne (tgt := 117) K dL_law_14 (by decide) (fun u14 => absurd u14 (by decide)) (fun u14 => ?_)
  refine l_aload_n K dL_law_17 rfl ?_
  refine l_rdV K (rq hC (c_X6_restore hC) (show o_restore A00 = (-5, A00) from if_pos rfl)) mw_X6_restore ml_L_98 dL_law_18 (by rfl) rfl rfl (by decide) (by simp [Value.category]) ⟨by decide, by decide⟩ ⟨by decide, by decide⟩ ?_
  clear hC
  intro S18 hC
  refine l_bipush K dL_law_21 kb_m5 ?_
  refine l_icmp_ne (tgt := 117) K dL_law_23 (by decide) (fun u23 => absurd u23 (by decide)) (fun u23 => ?_)
  refine l_aload_n K dL_law_26 rfl ?_
  refine l_bipush K dL_law_27 kb_6 ?_
  refine l_rdV K (rd hC (c_X6_count hC) ((cn_s A00 0 (by decide)).trans (show aZ A00 0 = 40 from rfl))) mw_X6_count ml_L_14 dL_law_29 (by rfl) rfl rfl (by decide) (by simp [Value.category]) ⟨by decide, by decide⟩ ⟨by decide, by decide⟩ ?_
  clear hC
  intro S29 hC
  refine l_bipush K dL_law_32 kb_40 ?_
  refine l_icmp_ne (tgt := 117) K dL_law_34 (by decide) (fun u34 => absurd u34 (by decide)) (fun u34 => ?_)
  refine l_aload_n K dL_law_37 rfl ?_
  refine l_bipush K dL_law_38 kb_7 ?_
  refine l_rdV K (rd hC (c_X6_count hC) ((cn_s A00 1 (by decide)).trans (show aZ A00 1 = 40 from rfl))) mw_X6_count ml_L_14 dL_law_40 (by rfl) rfl rfl (by decide) (by simp [Value.category]) ⟨by decide, by decide⟩ ⟨by decide, by decide⟩ ?_
  clear hC
  intro S40 hC
  refine l_bipush K dL_law_43 kb_40 ?_
  refine l_icmp_ne (tgt := 117) K dL_law_45 (by decide) (fun u45 => absurd u45 (by decide)) (fun u45 => ?_)
  refine l_aload_n K dL_law_48 rfl ?_
  refine l_bipush K dL_law_49 kb_8 ?_
  refine l_rdV K (rd hC (c_X6_count hC) ((cn_s A00 2 (by decide)).trans (show aZ A00 2 = 60 from rfl))) mw_X6_count ml_L_14 dL_law_51 (by rfl) rfl rfl (by decide) (by simp [Value.category]) ⟨by decide, by decide⟩ ⟨by decide, by decide⟩ ?_
  clear hC
  intro S51 hC
  refine l_bipush K dL_law_54 kb_60 ?_
  refine l_icmp_ne (tgt := 117) K dL_law_56 (by decide) (fun u56 => absurd u56 (by decide)) (fun u56 => ?_)
  refine l_aload_n K dL_law_59 rfl ?_
  refine l_bipush K dL_law_60 kb_9 ?_
  refine l_rdV K (rd hC (c_X6_count hC) ((cn_s A00 3 (by decide)).trans (show aZ A00 3 = 4 from rfl))) mw_X6_count ml_L_14 dL_law_62 (by rfl) rfl rfl (by decide) (by simp [Value.category]) ⟨by decide, by decide⟩ ⟨by decide, by decide⟩ ?_
  clear hC
  intro S62 hC
  refine l_iconst K dL_law_65 kc_4 ?_
  refine l_icmp_ne (tgt := 117) K dL_law_66 (by decide) (fun u66 => absurd u66 (by decide)) (fun u66 => ?_)
  refine l_aload_n K dL_law_69 rfl ?_
  refine l_bipush K dL_law_70 kb_10 ?_
  refine l_rdV K (rd hC (c_X6_count hC) ((cn_s A00 4 (by decide)).trans (show aZ A00 4 = 3 from rfl))) mw_X6_count ml_L_14 dL_law_72 (by rfl) rfl rfl (by decide) (by simp [Value.category]) ⟨by decide, by decide⟩ ⟨by decide, by decide⟩ ?_
  clear hC
  intro S72 hC
  refine l_iconst K dL_law_75 kc_3 ?_
  refine l_icmp_ne (tgt := 117) K dL_law_76 (by decide) (fun u76 => absurd u76 (by decide)) (fun u76 => ?_)
  refine l_aload_n K dL_law_79 rfl ?_
  refine l_bipush K dL_law_80 kb_11 ?_
  refine l_rdV K (rd hC (c_X6_count hC) ((cn_s A00 5 (by decide)).trans (show aZ A00 5 = 12 from rfl))) mw_X6_count ml_L_14 dL_law_82 (by rfl) rfl rfl (by decide) (by simp [Value.category]) ⟨by decide, by decide⟩ ⟨by decide, by decide⟩ ?_
  clear hC
  intro S82 hC
  refine l_bipush K dL_law_85 kb_12 ?_
  refine l_icmp_ne (tgt := 117) K dL_law_87 (by decide) (fun u87 => absurd u87 (by decide)) (fun u87 => ?_)
  refine l_aload_n K dL_law_90 rfl ?_
  refine l_iconst K dL_law_91 kc_0 ?_
  refine l_rdS K (c_L_refuses (xn := 0) hC rfl (by decide)) mw_L_refuses ml_L_101 dL_law_92 (by rfl) rfl (by simp [Value.category]) ⟨by decide, by decide⟩ ⟨by decide, by decide⟩ ?_
  clear hC
  intro S92 hC
  refine l_if_eq (tgt := 117) K dL_law_95 (by decide) (fun u95 => absurd u95 (by decide)) (fun u95 => ?_)
  refine l_aload_n K dL_law_98 rfl ?_
  refine l_iconst K dL_law_99 kc_1 ?_
  refine l_rdS K (c_L_refuses (xn := 1) hC rfl (by decide)) mw_L_refuses ml_L_101 dL_law_100 (by rfl) rfl (by simp [Value.category]) ⟨by decide, by decide⟩ ⟨by decide, by decide⟩ ?_
  clear hC
  intro S100 hC
  refine l_if_eq (tgt := 117) K dL_law_103 (by decide) (fun u103 => absurd u103 (by decide)) (fun u103 => ?_)
  refine l_aload_n K dL_law_106 rfl ?_
  refine l_rdV K (ra (c_X6_keep hC) (show o_keep A00 = (0, AK0) from rfl)) mw_X6_keep ml_L_104 dL_law_107 (by rfl) rfl rfl (by decide) (by simp [Value.category]) ⟨by decide, by decide⟩ ⟨by decide, by decide⟩ ?_
  intro S107 hC
  obtain ⟨n0, hC⟩ := hC
  have e0 : n0 = 0 := n_same (z := firstS) ⟨fun i hi => ⟨by revert i; decide, by revert i; decide⟩, rfl, by decide, fun k hk => absurd hk (Nat.not_lt_zero k)⟩ hC.st rfl
  subst e0
  refine l_if_ne (tgt := 117) K dL_law_110 (by decide) (fun u110 => absurd u110 (by decide)) (fun u110 => ?_)
  refine l_iconst K dL_law_113 kc_1 ?_
  refine l_goto (tgt := 118) K dL_law_114 (by decide) ?_
  refine l_istore_n (ls2 := [_, some (.ref _), some (.int _), none, _, _, _, _, _, _, _, _, _, _, _, _]) K dL_law_118 (by decide) rfl ?_
  refine l_aload_n K dL_law_119 rfl ?_
  refine l_rdlS K (c_L_seen hC) mw_L_seen ml_L_86 dL_law_120 (by rfl) rfl (by simp [Value.category]) ⟨by decide, by decide⟩ ⟨by decide, by decide⟩ ?_
  clear hC
  intro S120 hC
  refine l_lstore_n (ls2 := [_, _, some (.int _), some (.long _), none, _, _, _, _, _, _, _, _, _, _, _]) K dL_law_123 (by decide) rfl ?_
  refine l_iconst K dL_law_124 kc_0 ?_
  refine l_istore (ls2 := [_, _, _, _, none, some (.int _), none, _, _, _, _, _, _, _, _, _]) K dL_law_125 (by decide) rfl ?_
  refine l_iconst K dL_law_127 kc_0 ?_
  refine l_istore (ls2 := [_, _, _, _, _, some (.int _), some (.int _), none, _, _, _, _, _, _, _, _]) K dL_law_128 (by decide) rfl ?_
  exact lp 61 0 0 AK0 _ (by omega) (by omega) hC ea_k rfl (fun h => absurd h (by decide))
