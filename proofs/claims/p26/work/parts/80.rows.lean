theorem ld_L_7 : Cond.constant RL 7 666307206 ∈ BIG := big_at 313 (by decide +kernel) (by decide +kernel)
theorem ld_L_8 : Cond.constant RL 8 62003 ∈ BIG := big_at 314 (by decide +kernel) (by decide +kernel)
theorem ld_L_9 : Cond.constant RL 9 2147483647 ∈ BIG := big_at 315 (by decide +kernel) (by decide +kernel)
theorem ld_L_10 : Cond.constantLong RL 10 167 ∈ BIG := big_at 319 (by decide +kernel) (by decide +kernel)
theorem ld_L_12 : Cond.constantLong RL 12 31 ∈ BIG := big_at 320 (by decide +kernel) (by decide +kernel)
/-- a long is answered -/
def RL0 (P : Int64 → ST → Prop) : Option Value → ST → Prop := fun v S' => ∃ r, v = some (.long r) ∧ P r S'
section
variable {p : Program} {l : Launch} {e : Env} {R : Room} {s : State} {m : MethodId} {args : Array Value} {below : List Frame} {meth : Method} {c : Code} {Q : State → Prop} {b : Nat} {D : va_G} {cA : Nat → ClassId} {nL n : Nat} {ad : Nat → Nat} {Z : Nat → Nat → Bool} {cells slots : Nat} {pc : Nat} {ls : List (Option Value)} {st : List Value} {S : ST} {cc : ByteArray} {own : String} {ret : Option FieldType}
theorem g_fmul (K : CX p s m args meth c b D cA cc own nL ret) {x y : UInt32} (d : decode cc pc = .ok (.fmul, 1)) (hne : vf_n32 (FP.fmul x y)) (k : G p l e R s m args below meth c Q b D cA nL n ad Z cells slots (pc + 1) ls (.float (FP.fmul x y) :: st) S) : G p l e R s m args below meth c Q b D cA nL n ad Z cells slots pc ls (.float y :: .float x :: st) S := fun H locs lsA hP hD hS hl => lv_fmul K.1 K.2.1 d hne (k H locs lsA hP hD hS hl)
theorem g_fsub (K : CX p s m args meth c b D cA cc own nL ret) {x y : UInt32} (d : decode cc pc = .ok (.fsub, 1)) (hne : vf_n32 (FP.fsub x y)) (k : G p l e R s m args below meth c Q b D cA nL n ad Z cells slots (pc + 1) ls (.float (FP.fsub x y) :: st) S) : G p l e R s m args below meth c Q b D cA nL n ad Z cells slots pc ls (.float y :: .float x :: st) S := fun H locs lsA hP hD hS hl => lv_fsub K.1 K.2.1 d hne (k H locs lsA hP hD hS hl)
theorem g_fadd (K : CX p s m args meth c b D cA cc own nL ret) {x y : UInt32} (d : decode cc pc = .ok (.fadd, 1)) (hne : vf_n32 (FP.fadd x y)) (k : G p l e R s m args below meth c Q b D cA nL n ad Z cells slots (pc + 1) ls (.float (FP.fadd x y) :: st) S) : G p l e R s m args below meth c Q b D cA nL n ad Z cells slots pc ls (.float y :: .float x :: st) S := fun H locs lsA hP hD hS hl => lv_fadd K.1 K.2.1 d hne (k H locs lsA hP hD hS hl)
theorem g_fneg (K : CX p s m args meth c b D cA cc own nL ret) {x : UInt32} (d : decode cc pc = .ok (.fneg, 1))  (k : G p l e R s m args below meth c Q b D cA nL n ad Z cells slots (pc + 1) ls (.float (FP.fneg x) :: st) S) : G p l e R s m args below meth c Q b D cA nL n ad Z cells slots pc ls (.float x :: st) S := fun H locs lsA hP hD hS hl => lv_fneg K.1 K.2.1 d (k H locs lsA hP hD hS hl)
theorem g_fcmp (K : CX p s m args meth c b D cA cc own nL ret) {x y : UInt32} {op : CmpOp} (d : decode cc pc = .ok (.fcmp op, 1))  (k : G p l e R s m args below meth c Q b D cA nL n ad Z cells slots (pc + 1) ls (.int (Op.cmpValue (FP.fcmp x y) op) :: st) S) : G p l e R s m args below meth c Q b D cA nL n ad Z cells slots pc ls (.float y :: .float x :: st) S := fun H locs lsA hP hD hS hl => lv_fcmp K.1 K.2.1 d (k H locs lsA hP hD hS hl)
theorem g_fconst0 (K : CX p s m args meth c b D cA cc own nL ret)  (d : decode cc pc = .ok (.fconst 0, 1))  (k : G p l e R s m args below meth c Q b D cA nL n ad Z cells slots (pc + 1) ls (.float 0x00000000 :: st) S) : G p l e R s m args below meth c Q b D cA nL n ad Z cells slots pc ls st S := fun H locs lsA hP hD hS hl => lv_fconst0 K.1 K.2.1 d (k H locs lsA hP hD hS hl)
theorem g_fconst1 (K : CX p s m args meth c b D cA cc own nL ret)  (d : decode cc pc = .ok (.fconst 1, 1))  (k : G p l e R s m args below meth c Q b D cA nL n ad Z cells slots (pc + 1) ls (.float 0x3f800000 :: st) S) : G p l e R s m args below meth c Q b D cA nL n ad Z cells slots pc ls st S := fun H locs lsA hP hD hS hl => lv_fconst1 K.1 K.2.1 d (k H locs lsA hP hD hS hl)
theorem g_ldc (K : CX p s m args meth c b D cA cc own nL ret) {index : Nat} {v : Int32} (hc : Cond.constant own index v ∈ BIG) (d : decode cc pc = .ok (.ldc index, 2))  (k : G p l e R s m args below meth c Q b D cA nL n ad Z cells slots (pc + 2) ls (.int v :: st) S) : G p l e R s m args below meth c Q b D cA nL n ad Z cells slots pc ls st S := fun H locs lsA hP hD hS hl => lv_ldc K.1 K.2.1 K.2.2.2.1 (K.2.2.2.2.1 _ hc) d (k H locs lsA hP hD hS hl)
/-- a call whose answer is known, and what holds behind it -/
theorem g_rdV {y : MethodName} {code : ByteArray} {maxL d2 k np index : Nat} {ret2 : Option FieldType} {v : Int32} {P : ST → Prop} {av rest : List Value} {st0 : List Value} (K : CX p s m args meth c b D cA cc own nL ret) (hM : MT l b D cA n ad Z y code maxL ret2 d2 (.ref (ad k) :: av) S (RI (fun r S2 => r = v ∧ P S2))) (hw : MW y code maxL ret2 np) (hl1 : ML own index y) (d : decode cc pc = .ok (.invokevirtual index, 3)) (hst : st0 = av.reverse ++ .ref (ad k) :: rest) (hnp : av.length = np) (hcl : (vwCl[kd k]?).map (fun r => r.1) = some y.cls) (hn : k < n) (hrest : (rest.map fun v => v.category).sum ≤ 8) (hR : d2 + 1 ≤ R.frames ∧ 8 + (maxL + 11) + 32 * d2 ≤ R.locals) (hc : cells ≤ R.cells ∧ slots ≤ R.slots)
    (kk : ∀ S2, P S2 → G p l e R s m args below meth c Q b D cA nL n ad Z cells slots (pc + 3) ls (.int v :: rest) S2) : G p l e R s m args below meth c Q b D cA nL n ad Z cells slots pc ls st0 S := by
  obtain ⟨r0, h1, h2⟩ := Option.map_eq_some_iff.mp hcl
  exact g_callV K hM hw hl1 d hnp (vw_lt h1) ⟨r0, h1, h2⟩ hn hst hrest hR hc (fun v2 S2 h => by obtain ⟨r, rfl, rfl, h⟩ := h; exact kk S2 h)
theorem g_rdfV {y : MethodName} {code : ByteArray} {maxL d2 k np index : Nat} {ret2 : Option FieldType} {v : UInt32} {P : ST → Prop} {av rest : List Value} {st0 : List Value} (K : CX p s m args meth c b D cA cc own nL ret) (hM : MT l b D cA n ad Z y code maxL ret2 d2 (.ref (ad k) :: av) S (RF (fun r S2 => r = v ∧ P S2))) (hw : MW y code maxL ret2 np) (hl1 : ML own index y) (d : decode cc pc = .ok (.invokevirtual index, 3)) (hst : st0 = av.reverse ++ .ref (ad k) :: rest) (hnp : av.length = np) (hcl : (vwCl[kd k]?).map (fun r => r.1) = some y.cls) (hn : k < n) (hrest : (rest.map fun v => v.category).sum ≤ 8) (hR : d2 + 1 ≤ R.frames ∧ 8 + (maxL + 11) + 32 * d2 ≤ R.locals) (hc : cells ≤ R.cells ∧ slots ≤ R.slots)
    (kk : ∀ S2, P S2 → G p l e R s m args below meth c Q b D cA nL n ad Z cells slots (pc + 3) ls (.float v :: rest) S2) : G p l e R s m args below meth c Q b D cA nL n ad Z cells slots pc ls st0 S := by
  obtain ⟨r0, h1, h2⟩ := Option.map_eq_some_iff.mp hcl
  exact g_callV K hM hw hl1 d hnp (vw_lt h1) ⟨r0, h1, h2⟩ hn hst hrest hR hc (fun v2 S2 h => by obtain ⟨r, rfl, rfl, h⟩ := h; exact kk S2 h)
theorem g_rdlV {y : MethodName} {code : ByteArray} {maxL d2 k np index : Nat} {ret2 : Option FieldType} {v : Int64} {P : ST → Prop} {av rest : List Value} {st0 : List Value} (K : CX p s m args meth c b D cA cc own nL ret) (hM : MT l b D cA n ad Z y code maxL ret2 d2 (.ref (ad k) :: av) S (RL0 (fun r S2 => r = v ∧ P S2))) (hw : MW y code maxL ret2 np) (hl1 : ML own index y) (d : decode cc pc = .ok (.invokevirtual index, 3)) (hst : st0 = av.reverse ++ .ref (ad k) :: rest) (hnp : av.length = np) (hcl : (vwCl[kd k]?).map (fun r => r.1) = some y.cls) (hn : k < n) (hrest : (rest.map fun v => v.category).sum ≤ 8) (hR : d2 + 1 ≤ R.frames ∧ 8 + (maxL + 11) + 32 * d2 ≤ R.locals) (hc : cells ≤ R.cells ∧ slots ≤ R.slots)
    (kk : ∀ S2, P S2 → G p l e R s m args below meth c Q b D cA nL n ad Z cells slots (pc + 3) ls (.long v :: rest) S2) : G p l e R s m args below meth c Q b D cA nL n ad Z cells slots pc ls st0 S := by
  obtain ⟨r0, h1, h2⟩ := Option.map_eq_some_iff.mp hcl
  exact g_callV K hM hw hl1 d hnp (vw_lt h1) ⟨r0, h1, h2⟩ hn hst hrest hR hc (fun v2 S2 h => by obtain ⟨r, rfl, rfl, h⟩ := h; exact kk S2 h)
theorem g_rdS {y : MethodName} {code : ByteArray} {maxL d2 np index : Nat} {ret2 : Option FieldType} {v : Int32} {P : ST → Prop} {av rest : List Value} {st0 : List Value} (K : CX p s m args meth c b D cA cc own nL ret) (hM : MT l b D cA n ad Z y code maxL ret2 d2 av S (RI (fun r S2 => r = v ∧ P S2))) (hw : MS y code maxL ret2 np) (hl1 : ML own index y) (d : decode cc pc = .ok (.invokestatic index, 3)) (hst : st0 = av.reverse ++ rest) (hnp : av.length = np) (hrest : (rest.map fun v => v.category).sum ≤ 8) (hR : d2 + 1 ≤ R.frames ∧ 8 + (maxL + 11) + 32 * d2 ≤ R.locals) (hc : cells ≤ R.cells ∧ slots ≤ R.slots)
    (kk : ∀ S2, P S2 → G p l e R s m args below meth c Q b D cA nL n ad Z cells slots (pc + 3) ls (.int v :: rest) S2) : G p l e R s m args below meth c Q b D cA nL n ad Z cells slots pc ls st0 S := g_callS K hM hw hl1 d hnp hst hrest hR hc (fun v2 S2 h => by obtain ⟨r, rfl, rfl, h⟩ := h; exact kk S2 h)
theorem g_rdfS {y : MethodName} {code : ByteArray} {maxL d2 np index : Nat} {ret2 : Option FieldType} {v : UInt32} {P : ST → Prop} {av rest : List Value} {st0 : List Value} (K : CX p s m args meth c b D cA cc own nL ret) (hM : MT l b D cA n ad Z y code maxL ret2 d2 av S (RF (fun r S2 => r = v ∧ P S2))) (hw : MS y code maxL ret2 np) (hl1 : ML own index y) (d : decode cc pc = .ok (.invokestatic index, 3)) (hst : st0 = av.reverse ++ rest) (hnp : av.length = np) (hrest : (rest.map fun v => v.category).sum ≤ 8) (hR : d2 + 1 ≤ R.frames ∧ 8 + (maxL + 11) + 32 * d2 ≤ R.locals) (hc : cells ≤ R.cells ∧ slots ≤ R.slots)
    (kk : ∀ S2, P S2 → G p l e R s m args below meth c Q b D cA nL n ad Z cells slots (pc + 3) ls (.float v :: rest) S2) : G p l e R s m args below meth c Q b D cA nL n ad Z cells slots pc ls st0 S := g_callS K hM hw hl1 d hnp hst hrest hR hc (fun v2 S2 h => by obtain ⟨r, rfl, rfl, h⟩ := h; exact kk S2 h)
theorem g_rdlS {y : MethodName} {code : ByteArray} {maxL d2 np index : Nat} {ret2 : Option FieldType} {v : Int64} {P : ST → Prop} {av rest : List Value} {st0 : List Value} (K : CX p s m args meth c b D cA cc own nL ret) (hM : MT l b D cA n ad Z y code maxL ret2 d2 av S (RL0 (fun r S2 => r = v ∧ P S2))) (hw : MS y code maxL ret2 np) (hl1 : ML own index y) (d : decode cc pc = .ok (.invokestatic index, 3)) (hst : st0 = av.reverse ++ rest) (hnp : av.length = np) (hrest : (rest.map fun v => v.category).sum ≤ 8) (hR : d2 + 1 ≤ R.frames ∧ 8 + (maxL + 11) + 32 * d2 ≤ R.locals) (hc : cells ≤ R.cells ∧ slots ≤ R.slots)
    (kk : ∀ S2, P S2 → G p l e R s m args below meth c Q b D cA nL n ad Z cells slots (pc + 3) ls (.long v :: rest) S2) : G p l e R s m args below meth c Q b D cA nL n ad Z cells slots pc ls st0 S := g_callS K hM hw hl1 d hnp hst hrest hR hc (fun v2 S2 h => by obtain ⟨r, rfl, rfl, h⟩ := h; exact kk S2 h)
end
/-! locals of two places: longs. What a store leaves of the others -/
def killA (a : Option Value) : Option Value := match a with
  | some (.long _) => none
  | some (.double _) => none
  | a => a
def killB (v : Value) (t : List (Option Value)) : List (Option Value) := match v, t with
  | .long _, _ :: t => none :: t
  | .double _, _ :: t => none :: t
  | _, t => t
def putL : List (Option Value) → Nat → Value → List (Option Value)
  | [], _, _ => []
  | _ :: t, 0, v => some v :: killB v t
  | a :: t, 1, v => killA a :: putL t 0 v
  | a :: t, i + 2, v => a :: putL t (i + 1) v
theorem killA_get {a : Option Value} {w : Value} (h : killA a = some w) : a = some w ∧ w.category ≠ 2 := by
  unfold killA at h
  split at h
  · cases h
  · cases h
  · next h1 h2 =>
    refine ⟨h, ?_⟩
    subst h
    cases w <;> first | (exact absurd rfl (h1 _)) | (exact absurd rfl (h2 _)) | (exact (by decide : (1 : Nat) ≠ 2))
theorem killB_len (v : Value) (t : List (Option Value)) : (killB v t).length = t.length := by
  unfold killB
  split <;> rfl
theorem killB_get {v w : Value} {t : List (Option Value)} {j : Nat} (h : (killB v t)[j]? = some (some w)) : t[j]? = some (some w) ∧ (v.category = 2 → j ≠ 0) := by
  unfold killB at h
  split at h
  · cases j with
    | zero => cases h
    | succ j => exact ⟨h, fun _ => by omega⟩
  · cases j with
    | zero => cases h
    | succ j => exact ⟨h, fun _ => by omega⟩
  · next h1 h2 =>
    refine ⟨h, fun hv hj => ?_⟩
    subst hj
    cases t with
    | nil => simp at h
    | cons a t =>
      cases v <;> first | (exact absurd rfl (h1 _ _ _ rfl)) | (exact absurd rfl (h2 _ _ _ rfl)) | (exact absurd (show (1 : Nat) = 2 from hv) (by decide)) | (exact absurd (h1 _ _ _ rfl rfl) id) | (exact absurd (h2 _ _ _ rfl rfl) id)
theorem putL_len : ∀ (ls : List (Option Value)) (i : Nat) (v : Value), (putL ls i v).length = ls.length := by
  intro ls
  induction ls with
  | nil => intro i v; unfold putL; rfl
  | cons a t ih =>
    intro i v
    match i with
    | 0 => simp [putL, killB_len]
    | 1 => simp [putL, ih]
    | i + 2 => simp [putL, ih]
theorem putL_get : ∀ (ls : List (Option Value)) (i j : Nat) (v w : Value), (putL ls i v)[j]? = some (some w) → (j = i ∧ w = v) ∨ (j ≠ i ∧ ls[j]? = some (some w) ∧ ¬ (j + 1 = i ∧ w.category = 2) ∧ ¬ (v.category = 2 ∧ j = i + 1)) := by
  intro ls
  induction ls with
  | nil => intro i j v w h; simp [putL] at h
  | cons a t ih =>
    intro i j v w h
    match i, j with
    | 0, 0 =>
      simp [putL] at h
      exact Or.inl ⟨rfl, h.symm⟩
    | 0, j + 1 =>
      have h2 : (killB v t)[j]? = some (some w) := by simpa [putL] using h
      obtain ⟨g1, g2⟩ := killB_get h2
      exact Or.inr ⟨by omega, by simpa using g1, by omega, fun q => g2 q.1 (by omega)⟩
    | 1, 0 =>
      have h2 : killA a = some w := by simpa [putL] using h
      obtain ⟨g1, g2⟩ := killA_get h2
      exact Or.inr ⟨by omega, by simpa using g1, fun q => g2 q.2, by omega⟩
    | 1, j + 1 =>
      have h2 : (putL t 0 v)[j]? = some (some w) := by simpa [putL] using h
      rcases ih 0 j v w h2 with ⟨g1, g2⟩ | ⟨g1, g2, g3, g4⟩
      · exact Or.inl ⟨by omega, g2⟩
      · exact Or.inr ⟨by omega, by simpa using g2, by omega, fun q => g4 ⟨q.1, by omega⟩⟩
    | i + 2, 0 =>
      have h2 : a = some w := by simpa [putL] using h
      exact Or.inr ⟨by omega, by simpa using h2, by omega, by omega⟩
    | i + 2, j + 1 =>
      have h2 : (putL t (i + 1) v)[j]? = some (some w) := by simpa [putL] using h
      rcases ih (i + 1) j v w h2 with ⟨g1, g2⟩ | ⟨g1, g2, g3, g4⟩
      · exact Or.inl ⟨by omega, g2⟩
      · exact Or.inr ⟨by omega, by simpa using g2, fun q => g3 ⟨by omega, q.2⟩, fun q => g4 ⟨q.1, by omega⟩⟩
/-- what is known of the locals, longs among them -/
def LL (lsA : Array Slot) (nL : Nat) (ls : List (Option Value)) : Prop := lsA.size = nL ∧ lv_wf lsA ∧ ls.length = nL ∧ ∀ (i : Nat) (v : Value), ls[i]? = some (some v) → lsA[i]? = some (.val v)
theorem LC.ll {lsA : Array Slot} {nL : Nat} {ls : List (Option Value)} (h : LC lsA nL ls) : LL lsA nL ls := ⟨h.1, h.2.1, h.2.2.1, fun i v hv => (h.2.2.2 i v hv).1⟩
theorem LL.has {lsA : Array Slot} {nL : Nat} {ls : List (Option Value)} (h : LL lsA nL ls) : lv_has lsA nL (prs nL ls) := ⟨h.1, h.2.1, fun q hq => h.2.2.2 q.1 q.2 (prs_mem.mp hq).2⟩
theorem LL.at {lsA : Array Slot} {nL : Nat} {ls : List (Option Value)} (h : LL lsA nL ls) {i : Nat} {v : Value} (hv : ls[i]? = some (some v)) : lsA[i]? = some (.val v) := h.2.2.2 i v hv
theorem LL.mem {lsA : Array Slot} {nL : Nat} {ls : List (Option Value)} (h : LL lsA nL ls) {j : Nat} {w : Value} (hj : ls[j]? = some (some w)) : (j, w) ∈ prs nL ls := by
  refine prs_mem.mpr ⟨?_, hj⟩
  have := (List.getElem?_eq_some_iff.mp hj).1
  rw [h.2.2.1] at this
  exact this
theorem LL.put {lsA lsB : Array Slot} {nL i : Nat} {ls : List (Option Value)} {x : Value} (h : LL lsA nL ls) (hx : x.category = 1) (h1 : lv_has lsB nL ((i, x) :: (prs nL ls).filter (fun q => !(q.1 == i) && !(q.1 + 1 == i && q.2.category == 2)))) : LL lsB nL (putL ls i x) := by
  refine ⟨h1.1, h1.2.1, by rw [putL_len]; exact h.2.2.1, fun j w hj => ?_⟩
  rcases putL_get _ _ _ _ _ hj with ⟨rfl, rfl⟩ | ⟨g1, g2, g3, -⟩
  · exact h1.2.2 _ List.mem_cons_self
  · refine h1.2.2 (j, w) (List.mem_cons_of_mem _ (List.mem_filter.mpr ⟨h.mem g2, ?_⟩))
    have e1 : (j == i) = false := by simpa using g1
    rw [e1, Bool.not_false, Bool.true_and]
    cases hb : (j + 1 == i && w.category == 2) with
    | false => rfl
    | true =>
      rw [Bool.and_eq_true, beq_iff_eq, beq_iff_eq] at hb
      exact absurd hb g3
theorem LL.put2 {lsA lsB : Array Slot} {nL i : Nat} {ls : List (Option Value)} {x : Int64} (h : LL lsA nL ls) (h1 : lv_has lsB nL ((i, Value.long x) :: (prs nL ls).filter (fun q => !(q.1 == i) && (!(q.1 == i + 1) && !(q.1 + 1 == i && q.2.category == 2))))) : LL lsB nL (putL ls i (.long x)) := by
  refine ⟨h1.1, h1.2.1, by rw [putL_len]; exact h.2.2.1, fun j w hj => ?_⟩
  rcases putL_get _ _ _ _ _ hj with ⟨rfl, rfl⟩ | ⟨g1, g2, g3, g4⟩
  · exact h1.2.2 _ List.mem_cons_self
  · refine h1.2.2 (j, w) (List.mem_cons_of_mem _ (List.mem_filter.mpr ⟨h.mem g2, ?_⟩))
    have e1 : (j == i) = false := by simpa using g1
    have e2 : (j == i + 1) = false := by simpa using fun q : j = i + 1 => g4 ⟨rfl, q⟩
    rw [e1, e2, Bool.not_false, Bool.true_and, Bool.true_and]
    cases hb : (j + 1 == i && w.category == 2) with
    | false => rfl
    | true =>
      rw [Bool.and_eq_true, beq_iff_eq, beq_iff_eq] at hb
      exact absurd hb g3
/-- as G, with longs among the locals -/
def GL (p : Program) (l : Launch) (e : Env) (R : Room) (s : State) (m : MethodId) (args : Array Value) (below : List Frame) (meth : Method) (c : Code) (Q : State → Prop) (b : Nat) (D : va_G) (cA : Nat → ClassId) (nL n : Nat) (ad : Nat → Nat) (Z : Nat → Nat → Bool) (cells slots : Nat) (pc : Nat) (ls : List (Option Value)) (st : List Value) (S : ST) : Prop :=
  ∀ (H : Heap) (locs : List Loc) (lsA : Array Slot), va_P D vwCl (wl cA n ad Z S) H → va_D (aF b) (wl cA n ad Z S) → va_S (aF b) s.heap H locs → LL lsA nL ls → W p l e R s m args below meth c H locs cells slots Q (F0 m pc lsA st)
theorem G.ofL {p : Program} {l : Launch} {e : Env} {R : Room} {s : State} {m : MethodId} {args : Array Value} {below : List Frame} {meth : Method} {c : Code} {Q : State → Prop} {b : Nat} {D : va_G} {cA : Nat → ClassId} {nL n : Nat} {ad : Nat → Nat} {Z : Nat → Nat → Bool} {cells slots : Nat} {pc : Nat} {ls : List (Option Value)} {st : List Value} {S : ST} (k : GL p l e R s m args below meth c Q b D cA nL n ad Z cells slots pc ls st S) : G p l e R s m args below meth c Q b D cA nL n ad Z cells slots pc ls st S := fun H locs lsA hP hD hS hl => k H locs lsA hP hD hS hl.ll
theorem MT.introL {l : Launch} {b : Nat} {D : va_G} {cA : Nat → ClassId} {n : Nat} {ad : Nat → Nat} {Z : Nat → Nat → Bool} {y : MethodName} {code : ByteArray} {maxL : Nat} {ret : Option FieldType} {d : Nat} {av : List Value} {S : ST} {Qf : Option Value → ST → Prop} {ls : List (Option Value)} {j : Nat}
    (hy : plainName y.cls = true) (hc0 : av.all (fun v => v.category == 1) = true) (hl : av.length + j = maxL) (hls : av.map some ++ List.replicate j none = ls)
    (h : ∀ (p : Program) (e : Env) (s : State) (m : MethodId) (below : List Frame) (meth : Method) (c : Code), CX p s m av.toArray meth c b D cA code y.cls maxL ret → (y.name = "<init>" → meth.name = "<init>") → GL p l e (rmd d) s m av.toArray below meth c (MQ below (QQ b D cA n ad Z Qf) av.toArray s 0 0 (aF b)) b D cA maxL n ad Z 0 0 0 ls [] S) : MT l b D cA n ad Z y code maxL ret d av S Qf :=
  MT.intro hy hc0 hl hls (fun p e s m below meth c K hn => G.ofL (h p e s m below meth c K hn))
section
variable {p : Program} {l : Launch} {e : Env} {R : Room} {s : State} {m : MethodId} {args : Array Value} {below : List Frame} {meth : Method} {c : Code} {Q : State → Prop} {b : Nat} {D : va_G} {cA : Nat → ClassId} {nL n : Nat} {ad : Nat → Nat} {Z : Nat → Nat → Bool} {cells slots : Nat} {pc : Nat} {ls : List (Option Value)} {st : List Value} {S : ST} {cc : ByteArray} {own : String} {ret : Option FieldType}
theorem l_iconst (K : CX p s m args meth c b D cA cc own nL ret) {j : Int} {v : Int32} (d : decode cc pc = .ok (.iconst j, 1)) (hv : Int32.ofInt j = v) (k : GL p l e R s m args below meth c Q b D cA nL n ad Z cells slots (pc + 1) ls (.int v :: st) S) : GL p l e R s m args below meth c Q b D cA nL n ad Z cells slots pc ls st S := fun H locs lsA hP hD hS hl => lv_iconst K.1 K.2.1 d hv (k H locs lsA hP hD hS hl)
theorem l_bipush (K : CX p s m args meth c b D cA cc own nL ret) {j : Int} {v : Int32} (d : decode cc pc = .ok (.bipush j, 2)) (hv : (Int8.ofInt j).toInt32 = v) (k : GL p l e R s m args below meth c Q b D cA nL n ad Z cells slots (pc + 2) ls (.int v :: st) S) : GL p l e R s m args below meth c Q b D cA nL n ad Z cells slots pc ls st S := fun H locs lsA hP hD hS hl => lv_bipush K.1 K.2.1 d hv (k H locs lsA hP hD hS hl)
theorem l_sipush (K : CX p s m args meth c b D cA cc own nL ret) {j : Int} {v : Int32} (d : decode cc pc = .ok (.sipush j, 3)) (hv : (Int16.ofInt j).toInt32 = v) (k : GL p l e R s m args below meth c Q b D cA nL n ad Z cells slots (pc + 3) ls (.int v :: st) S) : GL p l e R s m args below meth c Q b D cA nL n ad Z cells slots pc ls st S := fun H locs lsA hP hD hS hl => lv_sipush K.1 K.2.1 d hv (k H locs lsA hP hD hS hl)
theorem l_iload_n (K : CX p s m args meth c b D cA cc own nL ret) {j : Fin 4} {x : Int32} (d : decode cc pc = .ok (.iload_n j, 1)) (hv : ls[(j : Nat)]? = some (some (.int x))) (k : GL p l e R s m args below meth c Q b D cA nL n ad Z cells slots (pc + 1) ls (.int x :: st) S) : GL p l e R s m args below meth c Q b D cA nL n ad Z cells slots pc ls st S := fun H locs lsA hP hD hS hl => lv_iload_n K.1 K.2.1 d rfl (hl.at hv) (k H locs lsA hP hD hS hl)
theorem l_iload (K : CX p s m args meth c b D cA cc own nL ret) {j : Nat} {x : Int32} (d : decode cc pc = .ok (.iload j, 2)) (hv : ls[j]? = some (some (.int x))) (k : GL p l e R s m args below meth c Q b D cA nL n ad Z cells slots (pc + 2) ls (.int x :: st) S) : GL p l e R s m args below meth c Q b D cA nL n ad Z cells slots pc ls st S := fun H locs lsA hP hD hS hl => lv_iload K.1 K.2.1 d (hl.at hv) (k H locs lsA hP hD hS hl)
theorem l_istore_n (K : CX p s m args meth c b D cA cc own nL ret) {j : Fin 4} {x : Int32} {ls2 : List (Option Value)} (d : decode cc pc = .ok (.istore_n j, 1)) (hj : (j : Nat) < nL) (h2 : putL ls (j : Nat) (.int x) = ls2) (k : GL p l e R s m args below meth c Q b D cA nL n ad Z cells slots (pc + 1) ls2 st S) : GL p l e R s m args below meth c Q b D cA nL n ad Z cells slots pc ls (.int x :: st) S := fun H locs lsA hP hD hS hl => lv_istore_n K.1 K.2.1 d rfl hl.has hj rfl (fun lsB h => k H locs lsB hP hD hS (h2 ▸ hl.put rfl h))
theorem l_istore (K : CX p s m args meth c b D cA cc own nL ret) {j : Nat} {x : Int32} {ls2 : List (Option Value)} (d : decode cc pc = .ok (.istore j, 2)) (hj : j < nL) (h2 : putL ls j (.int x) = ls2) (k : GL p l e R s m args below meth c Q b D cA nL n ad Z cells slots (pc + 2) ls2 st S) : GL p l e R s m args below meth c Q b D cA nL n ad Z cells slots pc ls (.int x :: st) S := fun H locs lsA hP hD hS hl => lv_istore K.1 K.2.1 d hl.has hj rfl (fun lsB h => k H locs lsB hP hD hS (h2 ▸ hl.put rfl h))
theorem l_aload_n (K : CX p s m args meth c b D cA cc own nL ret) {j : Fin 4} {x : Nat} (d : decode cc pc = .ok (.aload_n j, 1)) (hv : ls[(j : Nat)]? = some (some (.ref x))) (k : GL p l e R s m args below meth c Q b D cA nL n ad Z cells slots (pc + 1) ls (.ref x :: st) S) : GL p l e R s m args below meth c Q b D cA nL n ad Z cells slots pc ls st S := fun H locs lsA hP hD hS hl => lv_aload_n K.1 K.2.1 d rfl (hl.at hv) (k H locs lsA hP hD hS hl)
theorem l_aload (K : CX p s m args meth c b D cA cc own nL ret) {j : Nat} {x : Nat} (d : decode cc pc = .ok (.aload j, 2)) (hv : ls[j]? = some (some (.ref x))) (k : GL p l e R s m args below meth c Q b D cA nL n ad Z cells slots (pc + 2) ls (.ref x :: st) S) : GL p l e R s m args below meth c Q b D cA nL n ad Z cells slots pc ls st S := fun H locs lsA hP hD hS hl => lv_aload K.1 K.2.1 d (hl.at hv) (k H locs lsA hP hD hS hl)
theorem l_astore_n (K : CX p s m args meth c b D cA cc own nL ret) {j : Fin 4} {x : Nat} {ls2 : List (Option Value)} (d : decode cc pc = .ok (.astore_n j, 1)) (hj : (j : Nat) < nL) (h2 : putL ls (j : Nat) (.ref x) = ls2) (k : GL p l e R s m args below meth c Q b D cA nL n ad Z cells slots (pc + 1) ls2 st S) : GL p l e R s m args below meth c Q b D cA nL n ad Z cells slots pc ls (.ref x :: st) S := fun H locs lsA hP hD hS hl => lv_astore_n K.1 K.2.1 d rfl hl.has hj rfl (fun lsB h => k H locs lsB hP hD hS (h2 ▸ hl.put rfl h))
theorem l_astore (K : CX p s m args meth c b D cA cc own nL ret) {j : Nat} {x : Nat} {ls2 : List (Option Value)} (d : decode cc pc = .ok (.astore j, 2)) (hj : j < nL) (h2 : putL ls j (.ref x) = ls2) (k : GL p l e R s m args below meth c Q b D cA nL n ad Z cells slots (pc + 2) ls2 st S) : GL p l e R s m args below meth c Q b D cA nL n ad Z cells slots pc ls (.ref x :: st) S := fun H locs lsA hP hD hS hl => lv_astore K.1 K.2.1 d hl.has hj rfl (fun lsB h => k H locs lsB hP hD hS (h2 ▸ hl.put rfl h))
theorem l_iinc (K : CX p s m args meth c b D cA cc own nL ret) {j : Nat} {v : Int} {x : Int32} {ls2 : List (Option Value)} (d : decode cc pc = .ok (.iinc j v, 3)) (hv : ls[j]? = some (some (.int x))) {w : Int32} (hw : Int32.ofInt v = w) (h2 : putL ls j (.int (x + w)) = ls2) (k : GL p l e R s m args below meth c Q b D cA nL n ad Z cells slots (pc + 3) ls2 st S) : GL p l e R s m args below meth c Q b D cA nL n ad Z cells slots pc ls st S := by
  intro H locs lsA hP hD hS hl
  have hj : j < nL := by
    have := (List.getElem?_eq_some_iff.mp hv).1
    rw [hl.2.2.1] at this
    exact this
  obtain ⟨i, hi⟩ := List.getElem?_of_mem (prs_mem.mpr ⟨hj, hv⟩ : (j, Value.int x) ∈ prs nL ls)
  exact lv_iinc K.1 K.2.1 d hl.has hi (congrArg (x + ·) hw) hj rfl (fun lsB h => k H locs lsB hP hD hS (h2 ▸ hl.put rfl h))
theorem l_iadd (K : CX p s m args meth c b D cA cc own nL ret) {x y : Int32} (d : decode cc pc = .ok (.iadd, 1))  (k : GL p l e R s m args below meth c Q b D cA nL n ad Z cells slots (pc + 1) ls (.int (x + y) :: st) S) : GL p l e R s m args below meth c Q b D cA nL n ad Z cells slots pc ls (.int y :: .int x :: st) S := fun H locs lsA hP hD hS hl => lv_iadd K.1 K.2.1 d (k H locs lsA hP hD hS hl)
theorem l_isub (K : CX p s m args meth c b D cA cc own nL ret) {x y : Int32} (d : decode cc pc = .ok (.isub, 1))  (k : GL p l e R s m args below meth c Q b D cA nL n ad Z cells slots (pc + 1) ls (.int (x - y) :: st) S) : GL p l e R s m args below meth c Q b D cA nL n ad Z cells slots pc ls (.int y :: .int x :: st) S := fun H locs lsA hP hD hS hl => lv_isub K.1 K.2.1 d (k H locs lsA hP hD hS hl)
theorem l_imul (K : CX p s m args meth c b D cA cc own nL ret) {x y : Int32} (d : decode cc pc = .ok (.imul, 1))  (k : GL p l e R s m args below meth c Q b D cA nL n ad Z cells slots (pc + 1) ls (.int (x * y) :: st) S) : GL p l e R s m args below meth c Q b D cA nL n ad Z cells slots pc ls (.int y :: .int x :: st) S := fun H locs lsA hP hD hS hl => lv_imul K.1 K.2.1 d (k H locs lsA hP hD hS hl)
theorem l_idiv (K : CX p s m args meth c b D cA cc own nL ret) {x y : Int32} (d : decode cc pc = .ok (.idiv, 1)) (hne : ¬ y = 0) (k : GL p l e R s m args below meth c Q b D cA nL n ad Z cells slots (pc + 1) ls (.int (x / y) :: st) S) : GL p l e R s m args below meth c Q b D cA nL n ad Z cells slots pc ls (.int y :: .int x :: st) S := fun H locs lsA hP hD hS hl => lv_idiv K.1 K.2.1 d hne (k H locs lsA hP hD hS hl)
theorem l_irem (K : CX p s m args meth c b D cA cc own nL ret) {x y : Int32} (d : decode cc pc = .ok (.irem, 1)) (hne : ¬ y = 0) (k : GL p l e R s m args below meth c Q b D cA nL n ad Z cells slots (pc + 1) ls (.int (x - x / y * y) :: st) S) : GL p l e R s m args below meth c Q b D cA nL n ad Z cells slots pc ls (.int y :: .int x :: st) S := fun H locs lsA hP hD hS hl => lv_irem K.1 K.2.1 d hne (k H locs lsA hP hD hS hl)
theorem l_pop (K : CX p s m args meth c b D cA cc own nL ret) {v : Value} (d : decode cc pc = .ok (.pop, 1)) (hv : v.category = 1) (k : GL p l e R s m args below meth c Q b D cA nL n ad Z cells slots (pc + 1) ls st S) : GL p l e R s m args below meth c Q b D cA nL n ad Z cells slots pc ls (v :: st) S := fun H locs lsA hP hD hS hl => lv_pop K.1 K.2.1 d hv (k H locs lsA hP hD hS hl)
theorem l_if_eq (K : CX p s m args meth c b D cA cc own nL ret) {x : Int32} {off : Int} {tgt : Nat} (d : decode cc pc = .ok (.ifCond .eq off, 3)) (ht : (pc : Int) + off = (tgt : Int)) (kt : x = 0 → GL p l e R s m args below meth c Q b D cA nL n ad Z cells slots tgt ls st S) (kf : ¬ x = 0 → GL p l e R s m args below meth c Q b D cA nL n ad Z cells slots (pc + 3) ls st S) : GL p l e R s m args below meth c Q b D cA nL n ad Z cells slots pc ls (.int x :: st) S := fun H locs lsA hP hD hS hl => lv_if_eq K.1 K.2.1 d ht (fun q => kt q H locs lsA hP hD hS hl) (fun q => kf q H locs lsA hP hD hS hl)
theorem l_icmp_eq (K : CX p s m args meth c b D cA cc own nL ret) {x y : Int32} {off : Int} {tgt : Nat} (d : decode cc pc = .ok (.if_icmp .eq off, 3)) (ht : (pc : Int) + off = (tgt : Int)) (kt : x = y → GL p l e R s m args below meth c Q b D cA nL n ad Z cells slots tgt ls st S) (kf : ¬ x = y → GL p l e R s m args below meth c Q b D cA nL n ad Z cells slots (pc + 3) ls st S) : GL p l e R s m args below meth c Q b D cA nL n ad Z cells slots pc ls (.int y :: .int x :: st) S := fun H locs lsA hP hD hS hl => lv_icmp_eq K.1 K.2.1 d ht (fun q => kt q H locs lsA hP hD hS hl) (fun q => kf q H locs lsA hP hD hS hl)
theorem l_if_ne (K : CX p s m args meth c b D cA cc own nL ret) {x : Int32} {off : Int} {tgt : Nat} (d : decode cc pc = .ok (.ifCond .ne off, 3)) (ht : (pc : Int) + off = (tgt : Int)) (kt : ¬ x = 0 → GL p l e R s m args below meth c Q b D cA nL n ad Z cells slots tgt ls st S) (kf : x = 0 → GL p l e R s m args below meth c Q b D cA nL n ad Z cells slots (pc + 3) ls st S) : GL p l e R s m args below meth c Q b D cA nL n ad Z cells slots pc ls (.int x :: st) S := fun H locs lsA hP hD hS hl => lv_if_ne K.1 K.2.1 d ht (fun q => kt q H locs lsA hP hD hS hl) (fun q => kf q H locs lsA hP hD hS hl)
theorem l_icmp_ne (K : CX p s m args meth c b D cA cc own nL ret) {x y : Int32} {off : Int} {tgt : Nat} (d : decode cc pc = .ok (.if_icmp .ne off, 3)) (ht : (pc : Int) + off = (tgt : Int)) (kt : ¬ x = y → GL p l e R s m args below meth c Q b D cA nL n ad Z cells slots tgt ls st S) (kf : x = y → GL p l e R s m args below meth c Q b D cA nL n ad Z cells slots (pc + 3) ls st S) : GL p l e R s m args below meth c Q b D cA nL n ad Z cells slots pc ls (.int y :: .int x :: st) S := fun H locs lsA hP hD hS hl => lv_icmp_ne K.1 K.2.1 d ht (fun q => kt q H locs lsA hP hD hS hl) (fun q => kf q H locs lsA hP hD hS hl)
theorem l_if_lt (K : CX p s m args meth c b D cA cc own nL ret) {x : Int32} {off : Int} {tgt : Nat} (d : decode cc pc = .ok (.ifCond .lt off, 3)) (ht : (pc : Int) + off = (tgt : Int)) (kt : x < 0 → GL p l e R s m args below meth c Q b D cA nL n ad Z cells slots tgt ls st S) (kf : ¬ x < 0 → GL p l e R s m args below meth c Q b D cA nL n ad Z cells slots (pc + 3) ls st S) : GL p l e R s m args below meth c Q b D cA nL n ad Z cells slots pc ls (.int x :: st) S := fun H locs lsA hP hD hS hl => lv_if_lt K.1 K.2.1 d ht (fun q => kt q H locs lsA hP hD hS hl) (fun q => kf q H locs lsA hP hD hS hl)
theorem l_icmp_lt (K : CX p s m args meth c b D cA cc own nL ret) {x y : Int32} {off : Int} {tgt : Nat} (d : decode cc pc = .ok (.if_icmp .lt off, 3)) (ht : (pc : Int) + off = (tgt : Int)) (kt : x < y → GL p l e R s m args below meth c Q b D cA nL n ad Z cells slots tgt ls st S) (kf : ¬ x < y → GL p l e R s m args below meth c Q b D cA nL n ad Z cells slots (pc + 3) ls st S) : GL p l e R s m args below meth c Q b D cA nL n ad Z cells slots pc ls (.int y :: .int x :: st) S := fun H locs lsA hP hD hS hl => lv_icmp_lt K.1 K.2.1 d ht (fun q => kt q H locs lsA hP hD hS hl) (fun q => kf q H locs lsA hP hD hS hl)
theorem l_if_ge (K : CX p s m args meth c b D cA cc own nL ret) {x : Int32} {off : Int} {tgt : Nat} (d : decode cc pc = .ok (.ifCond .ge off, 3)) (ht : (pc : Int) + off = (tgt : Int)) (kt : 0 ≤ x → GL p l e R s m args below meth c Q b D cA nL n ad Z cells slots tgt ls st S) (kf : ¬ 0 ≤ x → GL p l e R s m args below meth c Q b D cA nL n ad Z cells slots (pc + 3) ls st S) : GL p l e R s m args below meth c Q b D cA nL n ad Z cells slots pc ls (.int x :: st) S := fun H locs lsA hP hD hS hl => lv_if_ge K.1 K.2.1 d ht (fun q => kt q H locs lsA hP hD hS hl) (fun q => kf q H locs lsA hP hD hS hl)
theorem l_icmp_ge (K : CX p s m args meth c b D cA cc own nL ret) {x y : Int32} {off : Int} {tgt : Nat} (d : decode cc pc = .ok (.if_icmp .ge off, 3)) (ht : (pc : Int) + off = (tgt : Int)) (kt : y ≤ x → GL p l e R s m args below meth c Q b D cA nL n ad Z cells slots tgt ls st S) (kf : ¬ y ≤ x → GL p l e R s m args below meth c Q b D cA nL n ad Z cells slots (pc + 3) ls st S) : GL p l e R s m args below meth c Q b D cA nL n ad Z cells slots pc ls (.int y :: .int x :: st) S := fun H locs lsA hP hD hS hl => lv_icmp_ge K.1 K.2.1 d ht (fun q => kt q H locs lsA hP hD hS hl) (fun q => kf q H locs lsA hP hD hS hl)
theorem l_if_gt (K : CX p s m args meth c b D cA cc own nL ret) {x : Int32} {off : Int} {tgt : Nat} (d : decode cc pc = .ok (.ifCond .gt off, 3)) (ht : (pc : Int) + off = (tgt : Int)) (kt : 0 < x → GL p l e R s m args below meth c Q b D cA nL n ad Z cells slots tgt ls st S) (kf : ¬ 0 < x → GL p l e R s m args below meth c Q b D cA nL n ad Z cells slots (pc + 3) ls st S) : GL p l e R s m args below meth c Q b D cA nL n ad Z cells slots pc ls (.int x :: st) S := fun H locs lsA hP hD hS hl => lv_if_gt K.1 K.2.1 d ht (fun q => kt q H locs lsA hP hD hS hl) (fun q => kf q H locs lsA hP hD hS hl)
theorem l_icmp_gt (K : CX p s m args meth c b D cA cc own nL ret) {x y : Int32} {off : Int} {tgt : Nat} (d : decode cc pc = .ok (.if_icmp .gt off, 3)) (ht : (pc : Int) + off = (tgt : Int)) (kt : y < x → GL p l e R s m args below meth c Q b D cA nL n ad Z cells slots tgt ls st S) (kf : ¬ y < x → GL p l e R s m args below meth c Q b D cA nL n ad Z cells slots (pc + 3) ls st S) : GL p l e R s m args below meth c Q b D cA nL n ad Z cells slots pc ls (.int y :: .int x :: st) S := fun H locs lsA hP hD hS hl => lv_icmp_gt K.1 K.2.1 d ht (fun q => kt q H locs lsA hP hD hS hl) (fun q => kf q H locs lsA hP hD hS hl)
theorem l_if_le (K : CX p s m args meth c b D cA cc own nL ret) {x : Int32} {off : Int} {tgt : Nat} (d : decode cc pc = .ok (.ifCond .le off, 3)) (ht : (pc : Int) + off = (tgt : Int)) (kt : x ≤ 0 → GL p l e R s m args below meth c Q b D cA nL n ad Z cells slots tgt ls st S) (kf : ¬ x ≤ 0 → GL p l e R s m args below meth c Q b D cA nL n ad Z cells slots (pc + 3) ls st S) : GL p l e R s m args below meth c Q b D cA nL n ad Z cells slots pc ls (.int x :: st) S := fun H locs lsA hP hD hS hl => lv_if_le K.1 K.2.1 d ht (fun q => kt q H locs lsA hP hD hS hl) (fun q => kf q H locs lsA hP hD hS hl)
theorem l_icmp_le (K : CX p s m args meth c b D cA cc own nL ret) {x y : Int32} {off : Int} {tgt : Nat} (d : decode cc pc = .ok (.if_icmp .le off, 3)) (ht : (pc : Int) + off = (tgt : Int)) (kt : x ≤ y → GL p l e R s m args below meth c Q b D cA nL n ad Z cells slots tgt ls st S) (kf : ¬ x ≤ y → GL p l e R s m args below meth c Q b D cA nL n ad Z cells slots (pc + 3) ls st S) : GL p l e R s m args below meth c Q b D cA nL n ad Z cells slots pc ls (.int y :: .int x :: st) S := fun H locs lsA hP hD hS hl => lv_icmp_le K.1 K.2.1 d ht (fun q => kt q H locs lsA hP hD hS hl) (fun q => kf q H locs lsA hP hD hS hl)
theorem l_goto (K : CX p s m args meth c b D cA cc own nL ret) {off : Int} {tgt : Nat} (d : decode cc pc = .ok (.goto off, 3)) (ht : (pc : Int) + off = (tgt : Int)) (k : GL p l e R s m args below meth c Q b D cA nL n ad Z cells slots tgt ls st S) : GL p l e R s m args below meth c Q b D cA nL n ad Z cells slots pc ls st S := fun H locs lsA hP hD hS hl => lv_goto K.1 K.2.1 d ht (k H locs lsA hP hD hS hl)
set_option maxHeartbeats 2000000 in
theorem l_run {y : MethodName} {ret2 : Option FieldType} {Qf : Option Value → ST → Prop} {a : Array Value} {rest st0 : List Value} (K : CX p s m args meth c b D cA cc own nL ret)
    (hr : ∀ (H : Heap) (locs : List Loc) (lsA : Array Slot), va_P D vwCl (wl cA n ad Z S) H → va_D (aF b) (wl cA n ad Z S) → va_S (aF b) s.heap H locs → lsA.size = nL → va_Run p l e R s m args below meth c H locs cells slots 0 0 (F0 m pc lsA st0) rest (QQ b D cA n ad Z Qf a) (aF b))
    (kk : ∀ v S', Qf v S' → GL p l e R s m args below meth c Q b D cA nL n ad Z cells slots (pc + 3) ls (v.toList ++ rest) S') : GL p l e R s m args below meth c Q b D cA nL n ad Z cells slots pc ls st0 S := by
  intro H locs lsA hP hD hS hl T hT X
  obtain ⟨v, st₀, t, T', L, h0, X', hL, e1, e2, ⟨v2, S', hv, hq, hpre, hz, hkeep⟩, stp⟩ := hr H locs lsA hP hD hS hl.1 T hT X
  cases hv
  rw [h0] at hz hkeep
  obtain ⟨q0, q1, q2, -, -⟩ := hpre
  obtain ⟨t2, a1, b1⟩ := kk v S' hq T'.heap (locs ++ L) lsA (by rw [e1]; exact q1) q2
    ⟨Nat.le_trans hS.1 (by rw [e1]; exact hz), fun q h1 h2 => by rw [e1, hkeep q (Nat.lt_of_lt_of_le h1 hS.1) h2]; exact hS.2.1 q h1 h2, fun q hq => by
      rcases List.mem_append.mp hq with h | h
      · exact hS.2.2 q h
      · exact hL q h⟩ hl T' rfl X'
  exact ⟨t2, stp t2 a1, b1⟩
set_option maxHeartbeats 2000000 in
/-- invokevirtual -/
theorem l_callV {y : MethodName} {code : ByteArray} {maxL d2 k np index : Nat} {ret2 : Option FieldType} {Qf : Option Value → ST → Prop} {av rest : List Value} {st0 : List Value} (K : CX p s m args meth c b D cA cc own nL ret) (hM : MT l b D cA n ad Z y code maxL ret2 d2 (.ref (ad k) :: av) S Qf) (hw : MW y code maxL ret2 np) (hl1 : ML own index y) (d : decode cc pc = .ok (.invokevirtual index, 3)) (hnp : av.length = np) (hk : kd k < 8) (hcl : ∃ r, vwCl[kd k]? = some r ∧ r.1 = y.cls) (hn : k < n) (hst : st0 = av.reverse ++ .ref (ad k) :: rest) (hrest : (rest.map fun v => v.category).sum ≤ 8) (hR : d2 + 1 ≤ R.frames ∧ 8 + (maxL + 11) + 32 * d2 ≤ R.locals) (hc : cells ≤ R.cells ∧ slots ≤ R.slots)
    (kk : ∀ v S', Qf v S' → GL p l e R s m args below meth c Q b D cA nL n ad Z cells slots (pc + 3) ls (v.toList ++ rest) S') : GL p l e R s m args below meth c Q b D cA nL n ad Z cells slots pc ls st0 S := by
  refine l_run (a := (Value.ref (ad k) :: av).toArray) (ret2 := ret2) (y := y) K (fun H locs lsA hP hD hS hsz => ?_) kk
  have hts := K.2.2.2.2.1
  have hrecv : ∃ cell : Cell, H[ad k]? = some cell ∧ cell.vm.isStatics = false ∧ s.vm.findClass y.cls = some cell.cls := by
    obtain ⟨r, h1, h2⟩ := hcl
    have := va_recv (q0 := k) (a := ad k) K.2.2.2.2.2.1 hP h1 (by rw [wl_get hn, ce_obj rfl hk])
    rw [h2] at this
    exact this
  have hpre : PreV s H y.cls (ad k) (va_Pc (.ref (ad k) :: av) (PRE b D cA n ad Z S)) av := ⟨PRE.blind, hrecv, fun U hU hW => ⟨rfl, PRE.of K hU hW hP hD hS⟩⟩
  rcases hl1 with h1 | ⟨host, h1⟩
  · refine va_runV (As := av) (rest := rest) ⟨K.1, K.2.1, K.2.2.1, K.2.2.2.1, hts⟩ hM (C := y.cls) (n := np) ⟨callB_of np hts (big_self hw.1) rfl rfl rfl (hts _ hw.2.2.2.1) (hts _ h1) hw.2.2.2.2 ⟨hR.1, hR.2⟩, hts _ hw.2.1, hts _ hw.2.2.1⟩ hpre rfl hnp hsz hst (lv_room hrest) d ⟨hc.1, hc.2⟩
  · refine va_runVN (As := av) (rest := rest) ⟨K.1, K.2.1, K.2.2.1, K.2.2.2.1, hts⟩ hM (C := y.cls) (n := np) (host := host) ⟨va_cnB np hts (big_self hw.1) rfl rfl rfl (K.2.2.2.2.2.2.2.2.2.2 _ h1) (hts _ hw.2.2.2.1) hw.2.2.2.2 ⟨hR.1, hR.2⟩, hts _ hw.2.1, hts _ hw.2.2.1⟩ hpre rfl hnp hsz hst (lv_room hrest) d ⟨hc.1, hc.2⟩
set_option maxHeartbeats 2000000 in
/-- invokestatic -/
theorem l_callS {y : MethodName} {code : ByteArray} {maxL d2 np index : Nat} {ret2 : Option FieldType} {Qf : Option Value → ST → Prop} {av rest : List Value} {st0 : List Value} (K : CX p s m args meth c b D cA cc own nL ret) (hM : MT l b D cA n ad Z y code maxL ret2 d2 av S Qf) (hw : MS y code maxL ret2 np) (hl1 : ML own index y) (d : decode cc pc = .ok (.invokestatic index, 3)) (hnp : av.length = np) (hst : st0 = av.reverse ++ rest) (hrest : (rest.map fun v => v.category).sum ≤ 8) (hR : d2 + 1 ≤ R.frames ∧ 8 + (maxL + 11) + 32 * d2 ≤ R.locals) (hc : cells ≤ R.cells ∧ slots ≤ R.slots)
    (kk : ∀ v S', Qf v S' → GL p l e R s m args below meth c Q b D cA nL n ad Z cells slots (pc + 3) ls (v.toList ++ rest) S') : GL p l e R s m args below meth c Q b D cA nL n ad Z cells slots pc ls st0 S := by
  refine l_run (a := av.toArray) (ret2 := ret2) (y := y) K (fun H locs lsA hP hD hS hsz => ?_) kk
  have hts := K.2.2.2.2.1
  have hpre : PreS s H (va_Pc av (PRE b D cA n ad Z S)) av := ⟨PRE.blind, fun U hU hW => ⟨rfl, PRE.of K hU hW hP hD hS⟩⟩
  rcases hl1 with h1 | ⟨host, h1⟩
  · exact va_runS (As := av) (rest := rest) ⟨K.1, K.2.1, K.2.2.1, K.2.2.2.1, hts⟩ hM (n := np) ⟨callB_of np hts (big_self hw.1) rfl rfl rfl (hts _ hw.2.2.1) (hts _ h1) hw.2.2.2 ⟨hR.1, hR.2⟩, hts _ hw.2.1⟩ hpre rfl hnp hsz hst (lv_room hrest) d ⟨hc.1, hc.2⟩
  · exact va_runSN (As := av) (rest := rest) ⟨K.1, K.2.1, K.2.2.1, K.2.2.2.1, hts⟩ hM (n := np) (host := host) ⟨va_cnB np hts (big_self hw.1) rfl rfl rfl (K.2.2.2.2.2.2.2.2.2.2 _ h1) (hts _ hw.2.2.1) hw.2.2.2 ⟨hR.1, hR.2⟩, hts _ hw.2.1, trivial⟩ hpre rfl hnp hsz hst (lv_room hrest) d ⟨hc.1, hc.2⟩
theorem l_callVpi {y : MethodName} {code : ByteArray} {maxL d2 k np index : Nat} {ret2 : Option FieldType} {P : Int32 → ST → Prop} {av rest : List Value} {st0 : List Value} (K : CX p s m args meth c b D cA cc own nL ret) (hM : MT l b D cA n ad Z y code maxL ret2 d2 (.ref (ad k) :: av) S (RI P)) (hw : MW y code maxL ret2 np) (hl1 : ML own index y) (d : decode cc pc = .ok (.invokevirtual index, 3)) (hst : st0 = av.reverse ++ .ref (ad k) :: rest) (hnp : av.length = np) (hcl : (vwCl[kd k]?).map (fun r => r.1) = some y.cls) (hn : k < n) (hrest : (rest.map fun v => v.category).sum ≤ 8) (hR : d2 + 1 ≤ R.frames ∧ 8 + (maxL + 11) + 32 * d2 ≤ R.locals) (hc : cells ≤ R.cells ∧ slots ≤ R.slots)
    (kk : ∀ r S2, P r S2 → GL p l e R s m args below meth c Q b D cA nL n ad Z cells slots (pc + 3) ls (.int r :: rest) S2) : GL p l e R s m args below meth c Q b D cA nL n ad Z cells slots pc ls st0 S := by
  obtain ⟨r0, h1, h2⟩ := Option.map_eq_some_iff.mp hcl
  exact l_callV K hM hw hl1 d hnp (vw_lt h1) ⟨r0, h1, h2⟩ hn hst hrest hR hc (fun v S2 h => by obtain ⟨r, rfl, h⟩ := h; exact kk r S2 h)
theorem l_callSpi {y : MethodName} {code : ByteArray} {maxL d2 np index : Nat} {ret2 : Option FieldType} {P : Int32 → ST → Prop} {av rest : List Value} {st0 : List Value} (K : CX p s m args meth c b D cA cc own nL ret) (hM : MT l b D cA n ad Z y code maxL ret2 d2 av S (RI P)) (hw : MS y code maxL ret2 np) (hl1 : ML own index y) (d : decode cc pc = .ok (.invokestatic index, 3)) (hst : st0 = av.reverse ++ rest) (hnp : av.length = np) (hrest : (rest.map fun v => v.category).sum ≤ 8) (hR : d2 + 1 ≤ R.frames ∧ 8 + (maxL + 11) + 32 * d2 ≤ R.locals) (hc : cells ≤ R.cells ∧ slots ≤ R.slots)
    (kk : ∀ r S2, P r S2 → GL p l e R s m args below meth c Q b D cA nL n ad Z cells slots (pc + 3) ls (.int r :: rest) S2) : GL p l e R s m args below meth c Q b D cA nL n ad Z cells slots pc ls st0 S :=
  l_callS K hM hw hl1 d hnp hst hrest hR hc (fun v S2 h => by obtain ⟨r, rfl, h⟩ := h; exact kk r S2 h)
theorem l_i2l (K : CX p s m args meth c b D cA cc own nL ret) {x : Int32} (d : decode cc pc = .ok (.i2l, 1))  (k : GL p l e R s m args below meth c Q b D cA nL n ad Z cells slots (pc + 1) ls (.long x.toInt64 :: st) S) : GL p l e R s m args below meth c Q b D cA nL n ad Z cells slots pc ls (.int x :: st) S := fun H locs lsA hP hD hS hl => lv_i2l K.1 K.2.1 d rfl (k H locs lsA hP hD hS hl)
theorem l_ladd (K : CX p s m args meth c b D cA cc own nL ret) {x y : Int64} (d : decode cc pc = .ok (.ladd, 1))  (k : GL p l e R s m args below meth c Q b D cA nL n ad Z cells slots (pc + 1) ls (.long (x + y) :: st) S) : GL p l e R s m args below meth c Q b D cA nL n ad Z cells slots pc ls (.long y :: .long x :: st) S := fun H locs lsA hP hD hS hl => lv_ladd K.1 K.2.1 d (k H locs lsA hP hD hS hl)
theorem l_lmul (K : CX p s m args meth c b D cA cc own nL ret) {x y : Int64} (d : decode cc pc = .ok (.lmul, 1))  (k : GL p l e R s m args below meth c Q b D cA nL n ad Z cells slots (pc + 1) ls (.long (x * y) :: st) S) : GL p l e R s m args below meth c Q b D cA nL n ad Z cells slots pc ls (.long y :: .long x :: st) S := fun H locs lsA hP hD hS hl => lv_lmul K.1 K.2.1 d (k H locs lsA hP hD hS hl)
theorem l_lcmp (K : CX p s m args meth c b D cA cc own nL ret) {x y : Int64} (d : decode cc pc = .ok (.lcmp, 1))  (k : GL p l e R s m args below meth c Q b D cA nL n ad Z cells slots (pc + 1) ls (.int (lg_cmp x y) :: st) S) : GL p l e R s m args below meth c Q b D cA nL n ad Z cells slots pc ls (.long y :: .long x :: st) S := fun H locs lsA hP hD hS hl => W.lcmp K.1 K.2.1 d (k H locs lsA hP hD hS hl)
theorem l_lload_n (K : CX p s m args meth c b D cA cc own nL ret) {j : Fin 4} {x : Int64} (d : decode cc pc = .ok (.lload_n j, 1)) (hv : ls[(j : Nat)]? = some (some (.long x))) (k : GL p l e R s m args below meth c Q b D cA nL n ad Z cells slots (pc + 1) ls (.long x :: st) S) : GL p l e R s m args below meth c Q b D cA nL n ad Z cells slots pc ls st S := fun H locs lsA hP hD hS hl => lv_lload_n K.1 K.2.1 d rfl (hl.at hv) (k H locs lsA hP hD hS hl)
theorem l_lload (K : CX p s m args meth c b D cA cc own nL ret) {j : Nat} {x : Int64} (d : decode cc pc = .ok (.lload j, 2)) (hv : ls[j]? = some (some (.long x))) (k : GL p l e R s m args below meth c Q b D cA nL n ad Z cells slots (pc + 2) ls (.long x :: st) S) : GL p l e R s m args below meth c Q b D cA nL n ad Z cells slots pc ls st S := fun H locs lsA hP hD hS hl => lv_lload K.1 K.2.1 d (hl.at hv) (k H locs lsA hP hD hS hl)
theorem l_ldc2 (K : CX p s m args meth c b D cA cc own nL ret) {index : Nat} {v : Int64} (hc : Cond.constantLong own index v ∈ BIG) (d : decode cc pc = .ok (.ldc2_w index, 3))  (k : GL p l e R s m args below meth c Q b D cA nL n ad Z cells slots (pc + 3) ls (.long v :: st) S) : GL p l e R s m args below meth c Q b D cA nL n ad Z cells slots pc ls st S := fun H locs lsA hP hD hS hl => lv_ldc2 K.1 K.2.1 K.2.2.2.1 (K.2.2.2.2.1 _ hc) d (k H locs lsA hP hD hS hl)
theorem l_lstore_n (K : CX p s m args meth c b D cA cc own nL ret) {j : Fin 4} {x : Int64} {ls2 : List (Option Value)} (d : decode cc pc = .ok (.lstore_n j, 1)) (hj : (j : Nat) + 1 < nL) (h2 : putL ls (j : Nat) (.long x) = ls2) (k : GL p l e R s m args below meth c Q b D cA nL n ad Z cells slots (pc + 1) ls2 st S) : GL p l e R s m args below meth c Q b D cA nL n ad Z cells slots pc ls (.long x :: st) S := fun H locs lsA hP hD hS hl => lv_lstore_n K.1 K.2.1 d rfl hl.has hj rfl (fun lsB h => k H locs lsB hP hD hS (h2 ▸ hl.put2 h))
theorem l_lstore (K : CX p s m args meth c b D cA cc own nL ret) {j : Nat} {x : Int64} {ls2 : List (Option Value)} (d : decode cc pc = .ok (.lstore j, 2)) (hj : j + 1 < nL) (h2 : putL ls j (.long x) = ls2) (k : GL p l e R s m args below meth c Q b D cA nL n ad Z cells slots (pc + 2) ls2 st S) : GL p l e R s m args below meth c Q b D cA nL n ad Z cells slots pc ls (.long x :: st) S := fun H locs lsA hP hD hS hl => lv_lstore K.1 K.2.1 d hl.has hj rfl (fun lsB h => k H locs lsB hP hD hS (h2 ▸ hl.put2 h))
theorem l_rdV {y : MethodName} {code : ByteArray} {maxL d2 k np index : Nat} {ret2 : Option FieldType} {v : Int32} {P : ST → Prop} {av rest : List Value} {st0 : List Value} (K : CX p s m args meth c b D cA cc own nL ret) (hM : MT l b D cA n ad Z y code maxL ret2 d2 (.ref (ad k) :: av) S (RI (fun r S2 => r = v ∧ P S2))) (hw : MW y code maxL ret2 np) (hl1 : ML own index y) (d : decode cc pc = .ok (.invokevirtual index, 3)) (hst : st0 = av.reverse ++ .ref (ad k) :: rest) (hnp : av.length = np) (hcl : (vwCl[kd k]?).map (fun r => r.1) = some y.cls) (hn : k < n) (hrest : (rest.map fun v => v.category).sum ≤ 8) (hR : d2 + 1 ≤ R.frames ∧ 8 + (maxL + 11) + 32 * d2 ≤ R.locals) (hc : cells ≤ R.cells ∧ slots ≤ R.slots)
    (kk : ∀ S2, P S2 → GL p l e R s m args below meth c Q b D cA nL n ad Z cells slots (pc + 3) ls (.int v :: rest) S2) : GL p l e R s m args below meth c Q b D cA nL n ad Z cells slots pc ls st0 S := by
  obtain ⟨r0, h1, h2⟩ := Option.map_eq_some_iff.mp hcl
  exact l_callV K hM hw hl1 d hnp (vw_lt h1) ⟨r0, h1, h2⟩ hn hst hrest hR hc (fun v2 S2 h => by obtain ⟨r, rfl, rfl, h⟩ := h; exact kk S2 h)
theorem l_rdfV {y : MethodName} {code : ByteArray} {maxL d2 k np index : Nat} {ret2 : Option FieldType} {v : UInt32} {P : ST → Prop} {av rest : List Value} {st0 : List Value} (K : CX p s m args meth c b D cA cc own nL ret) (hM : MT l b D cA n ad Z y code maxL ret2 d2 (.ref (ad k) :: av) S (RF (fun r S2 => r = v ∧ P S2))) (hw : MW y code maxL ret2 np) (hl1 : ML own index y) (d : decode cc pc = .ok (.invokevirtual index, 3)) (hst : st0 = av.reverse ++ .ref (ad k) :: rest) (hnp : av.length = np) (hcl : (vwCl[kd k]?).map (fun r => r.1) = some y.cls) (hn : k < n) (hrest : (rest.map fun v => v.category).sum ≤ 8) (hR : d2 + 1 ≤ R.frames ∧ 8 + (maxL + 11) + 32 * d2 ≤ R.locals) (hc : cells ≤ R.cells ∧ slots ≤ R.slots)
    (kk : ∀ S2, P S2 → GL p l e R s m args below meth c Q b D cA nL n ad Z cells slots (pc + 3) ls (.float v :: rest) S2) : GL p l e R s m args below meth c Q b D cA nL n ad Z cells slots pc ls st0 S := by
  obtain ⟨r0, h1, h2⟩ := Option.map_eq_some_iff.mp hcl
  exact l_callV K hM hw hl1 d hnp (vw_lt h1) ⟨r0, h1, h2⟩ hn hst hrest hR hc (fun v2 S2 h => by obtain ⟨r, rfl, rfl, h⟩ := h; exact kk S2 h)
theorem l_rdlV {y : MethodName} {code : ByteArray} {maxL d2 k np index : Nat} {ret2 : Option FieldType} {v : Int64} {P : ST → Prop} {av rest : List Value} {st0 : List Value} (K : CX p s m args meth c b D cA cc own nL ret) (hM : MT l b D cA n ad Z y code maxL ret2 d2 (.ref (ad k) :: av) S (RL0 (fun r S2 => r = v ∧ P S2))) (hw : MW y code maxL ret2 np) (hl1 : ML own index y) (d : decode cc pc = .ok (.invokevirtual index, 3)) (hst : st0 = av.reverse ++ .ref (ad k) :: rest) (hnp : av.length = np) (hcl : (vwCl[kd k]?).map (fun r => r.1) = some y.cls) (hn : k < n) (hrest : (rest.map fun v => v.category).sum ≤ 8) (hR : d2 + 1 ≤ R.frames ∧ 8 + (maxL + 11) + 32 * d2 ≤ R.locals) (hc : cells ≤ R.cells ∧ slots ≤ R.slots)
    (kk : ∀ S2, P S2 → GL p l e R s m args below meth c Q b D cA nL n ad Z cells slots (pc + 3) ls (.long v :: rest) S2) : GL p l e R s m args below meth c Q b D cA nL n ad Z cells slots pc ls st0 S := by
  obtain ⟨r0, h1, h2⟩ := Option.map_eq_some_iff.mp hcl
  exact l_callV K hM hw hl1 d hnp (vw_lt h1) ⟨r0, h1, h2⟩ hn hst hrest hR hc (fun v2 S2 h => by obtain ⟨r, rfl, rfl, h⟩ := h; exact kk S2 h)
theorem l_rdS {y : MethodName} {code : ByteArray} {maxL d2 np index : Nat} {ret2 : Option FieldType} {v : Int32} {P : ST → Prop} {av rest : List Value} {st0 : List Value} (K : CX p s m args meth c b D cA cc own nL ret) (hM : MT l b D cA n ad Z y code maxL ret2 d2 av S (RI (fun r S2 => r = v ∧ P S2))) (hw : MS y code maxL ret2 np) (hl1 : ML own index y) (d : decode cc pc = .ok (.invokestatic index, 3)) (hst : st0 = av.reverse ++ rest) (hnp : av.length = np) (hrest : (rest.map fun v => v.category).sum ≤ 8) (hR : d2 + 1 ≤ R.frames ∧ 8 + (maxL + 11) + 32 * d2 ≤ R.locals) (hc : cells ≤ R.cells ∧ slots ≤ R.slots)
    (kk : ∀ S2, P S2 → GL p l e R s m args below meth c Q b D cA nL n ad Z cells slots (pc + 3) ls (.int v :: rest) S2) : GL p l e R s m args below meth c Q b D cA nL n ad Z cells slots pc ls st0 S := l_callS K hM hw hl1 d hnp hst hrest hR hc (fun v2 S2 h => by obtain ⟨r, rfl, rfl, h⟩ := h; exact kk S2 h)
theorem l_rdfS {y : MethodName} {code : ByteArray} {maxL d2 np index : Nat} {ret2 : Option FieldType} {v : UInt32} {P : ST → Prop} {av rest : List Value} {st0 : List Value} (K : CX p s m args meth c b D cA cc own nL ret) (hM : MT l b D cA n ad Z y code maxL ret2 d2 av S (RF (fun r S2 => r = v ∧ P S2))) (hw : MS y code maxL ret2 np) (hl1 : ML own index y) (d : decode cc pc = .ok (.invokestatic index, 3)) (hst : st0 = av.reverse ++ rest) (hnp : av.length = np) (hrest : (rest.map fun v => v.category).sum ≤ 8) (hR : d2 + 1 ≤ R.frames ∧ 8 + (maxL + 11) + 32 * d2 ≤ R.locals) (hc : cells ≤ R.cells ∧ slots ≤ R.slots)
    (kk : ∀ S2, P S2 → GL p l e R s m args below meth c Q b D cA nL n ad Z cells slots (pc + 3) ls (.float v :: rest) S2) : GL p l e R s m args below meth c Q b D cA nL n ad Z cells slots pc ls st0 S := l_callS K hM hw hl1 d hnp hst hrest hR hc (fun v2 S2 h => by obtain ⟨r, rfl, rfl, h⟩ := h; exact kk S2 h)
theorem l_rdlS {y : MethodName} {code : ByteArray} {maxL d2 np index : Nat} {ret2 : Option FieldType} {v : Int64} {P : ST → Prop} {av rest : List Value} {st0 : List Value} (K : CX p s m args meth c b D cA cc own nL ret) (hM : MT l b D cA n ad Z y code maxL ret2 d2 av S (RL0 (fun r S2 => r = v ∧ P S2))) (hw : MS y code maxL ret2 np) (hl1 : ML own index y) (d : decode cc pc = .ok (.invokestatic index, 3)) (hst : st0 = av.reverse ++ rest) (hnp : av.length = np) (hrest : (rest.map fun v => v.category).sum ≤ 8) (hR : d2 + 1 ≤ R.frames ∧ 8 + (maxL + 11) + 32 * d2 ≤ R.locals) (hc : cells ≤ R.cells ∧ slots ≤ R.slots)
    (kk : ∀ S2, P S2 → GL p l e R s m args below meth c Q b D cA nL n ad Z cells slots (pc + 3) ls (.long v :: rest) S2) : GL p l e R s m args below meth c Q b D cA nL n ad Z cells slots pc ls st0 S := l_callS K hM hw hl1 d hnp hst hrest hR hc (fun v2 S2 h => by obtain ⟨r, rfl, rfl, h⟩ := h; exact kk S2 h)
theorem l_nm {x y : Int32} (h : x = y) (k : GL p l e R s m args below meth c Q b D cA nL n ad Z cells slots pc ls (.int y :: st) S) : GL p l e R s m args below meth c Q b D cA nL n ad Z cells slots pc ls (.int x :: st) S := by
  rw [h]
  exact k
theorem l_zret {Qf : Option Value → ST → Prop} {x : Int32} (K : CX p s m args meth c b D cA cc own nL (some .boolean)) (d : decode cc pc = .ok (.ireturn, 1)) (hx : x = 0 ∨ x = 1) (h : Qf (some (.int x)) S) : GL p l e R s m args below meth c (MQ below (QQ b D cA n ad Z Qf) args s cells slots (aF b)) b D cA nL n ad Z cells slots pc ls [.int x] S :=
  fun H locs lsA hP hD hS hl => W.zret K.1 K.2.1 K.2.2.2.2.2.2.2.1 (put_z hx).1 (fun t ht hW => ⟨_, S, rfl, h, PRE.of K ht hW hP hD hS, hS.F ht⟩) hS.2.2 d K.2.2.2.2.2.2.2.2.1
theorem l_lret {Qf : Option Value → ST → Prop} {x : Int64} (K : CX p s m args meth c b D cA cc own nL (some .long)) (d : decode cc pc = .ok (.lreturn, 1)) (h : Qf (some (.long x)) S) : GL p l e R s m args below meth c (MQ below (QQ b D cA n ad Z Qf) args s cells slots (aF b)) b D cA nL n ad Z cells slots pc ls [.long x] S :=
  fun H locs lsA hP hD hS hl => W.lret K.1 K.2.1 K.2.2.2.2.2.2.2.1 (fun t ht hW => ⟨_, S, rfl, h, PRE.of K ht hW hP hD hS, hS.F ht⟩) hS.2.2 d K.2.2.2.2.2.2.2.2.1
end
