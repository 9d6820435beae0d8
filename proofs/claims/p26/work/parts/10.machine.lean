/-! THE CELLS: numbered in the order in which they are made; what each one is; the rows S k i of ints -/
abbrev ST : Type := Nat → Nat → Int32
/-- kinds: 0 to 7 an object of that place in vwCl, 8 ints, 9 booleans, 10 chars, 11 rows of carts, 12 rows of states -/
def kdL : List Nat := [6, 5, 11, 8, 0, 8, 8, 9, 0, 8, 8, 9, 0, 8, 8, 9, 0, 8, 8, 9, 0, 8, 8, 9, 0, 8, 8, 9, 5, 11, 8, 0, 8, 8, 9, 0, 8, 8, 9, 0, 8, 8, 9, 0, 8, 8, 9, 0, 8, 8, 9, 0, 8, 8, 9, 2, 12, 5, 11, 8, 0, 8, 8, 9, 0, 8, 8, 9, 0, 8, 8, 9, 0, 8, 8, 9, 0, 8, 8, 9, 0, 8, 8, 9, 5, 11, 8, 0, 8, 8, 9, 0, 8, 8, 9, 0, 8, 8, 9, 0, 8, 8, 9, 0, 8, 8, 9, 0, 8, 8, 9, 5, 11, 8, 0, 8, 8, 9, 0, 8, 8, 9, 0, 8, 8, 9, 0, 8, 8, 9, 0, 8, 8, 9, 0, 8, 8, 9, 5, 11, 8, 0, 8, 8, 9, 0, 8, 8, 9, 0, 8, 8, 9, 0, 8, 8, 9, 0, 8, 8, 9, 0, 8, 8, 9, 1, 10, 8, 8, 4, 8, 8, 8, 9, 8, 3, 8, 8, 8, 9, 8]
def lnL : List Nat := [7, 5, 6, 6, 8, 5, 5, 5, 8, 5, 5, 5, 8, 5, 5, 5, 8, 5, 5, 5, 8, 5, 5, 5, 8, 5, 5, 5, 5, 6, 6, 8, 5, 5, 5, 8, 5, 5, 5, 8, 5, 5, 5, 8, 5, 5, 5, 8, 5, 5, 5, 8, 5, 5, 5, 2, 4, 5, 6, 6, 8, 5, 5, 5, 8, 5, 5, 5, 8, 5, 5, 5, 8, 5, 5, 5, 8, 5, 5, 5, 8, 5, 5, 5, 5, 6, 6, 8, 5, 5, 5, 8, 5, 5, 5, 8, 5, 5, 5, 8, 5, 5, 5, 8, 5, 5, 5, 8, 5, 5, 5, 5, 6, 6, 8, 5, 5, 5, 8, 5, 5, 5, 8, 5, 5, 5, 8, 5, 5, 5, 8, 5, 5, 5, 8, 5, 5, 5, 5, 6, 6, 8, 5, 5, 5, 8, 5, 5, 5, 8, 5, 5, 5, 8, 5, 5, 5, 8, 5, 5, 5, 8, 5, 5, 5, 11, 60, 60, 60, 13, 120, 120, 120, 120, 120, 6, 6, 5, 5, 5, 6]
def kd (k : Nat) : Nat := kdL.getD k 99
/-- how many fields or elements -/
def ln (k : Nat) : Nat := lnL.getD k 0
abbrev NN : Nat := 181
def isR (ci i : Nat) : Bool := (([[0,1,2],[0,1,2],[0],[],[0,1,2,3,4,5,6,7,8,9],[0,1],[0,1,2,3,4,5],[0,1,3,5,7,8,9,10,11,12,13,21]] : List (List Nat)).getD ci []).contains i
/-- the cell that a field or an element speaks of, where it never changes -/
def rs (k i : Nat) : Nat := if kd k = 11 then k + 2 + 4 * i else if kd k = 6 then ([1,28,55,165,169,180] : List Nat).getD i 0 else if kd k = 7 then ([182,183,0,184,0,185,0,186,187,188,189,190,191,192,0,0,0,0,0,0,0,193] : List Nat).getD i 0 else k + 1 + i
def rf (S : ST) (k i : Nat) : Nat := if kd k = 12 then (S k i).toNatClampNeg else rs k i
def stw (S : ST) (k i : Nat) (x : Int32) : ST := fun a => if a = k then upd (S k) i x else S a
def str (S : ST) (k : Nat) (f : Nat → Int32) : ST := fun a => if a = k then f else S a
theorem stw_s {S : ST} {k i : Nat} {x : Int32} : stw S k i x k = upd (S k) i x := if_pos rfl
theorem stw_n {S : ST} {k i a : Nat} {x : Int32} (h : a ≠ k) : stw S k i x a = S a := if_neg h
theorem str_s {S : ST} {k : Nat} {f : Nat → Int32} : str S k f k = f := if_pos rfl
theorem str_n {S : ST} {k a : Nat} {f : Nat → Int32} (h : a ≠ k) : str S k f a = S a := if_neg h
def fv (ad : Nat → Nat) (Z : Nat → Nat → Bool) (S : ST) (k i : Nat) : Value := if isR (kd k) i = true then (if Z k i = true then .ref (ad (rf S k i)) else .null) else .int (S k i)
def ce (cA : Nat → ClassId) (ad : Nat → Nat) (Z : Nat → Nat → Bool) (S : ST) (k : Nat) : va_E :=
  if kd k < 8 then .inr (kd k, (List.range (ln k)).map (fv ad Z S k))
  else if kd k < 11 then .inl (cA (kd k), ln k, .inl (S k))
  else .inl (cA (kd k), ln k, .inr (.inr (.inr (.inr (fun i => if Z k i = true then some (ad (rf S k i)) else none)))))
def wl (cA : Nat → ClassId) (n : Nat) (ad : Nat → Nat) (Z : Nat → Nat → Bool) (S : ST) : va_W := (List.range n).map (fun k => (ad k, ce cA ad Z S k))
theorem wl_get {cA : Nat → ClassId} {n : Nat} {ad : Nat → Nat} {Z : Nat → Nat → Bool} {S : ST} {k : Nat} (h : k < n) : (wl cA n ad Z S)[k]? = some (ad k, ce cA ad Z S k) := by
  simp [wl, h]
theorem ce_obj {cA : Nat → ClassId} {ad : Nat → Nat} {Z : Nat → Nat → Bool} {S : ST} {k ci : Nat} (h : kd k = ci) (hc : ci < 8) : ce cA ad Z S k = .inr (ci, (List.range (ln k)).map (fv ad Z S k)) := by
  subst h
  exact if_pos hc
theorem ce_num {cA : Nat → ClassId} {ad : Nat → Nat} {Z : Nat → Nat → Bool} {S : ST} {k ki : Nat} (h : kd k = ki) (h8 : 8 ≤ ki) (h11 : ki < 11) : ce cA ad Z S k = .inl (cA ki, ln k, .inl (S k)) := by
  subst h
  unfold ce
  rw [if_neg (by omega), if_pos h11]
theorem ce_ref {cA : Nat → ClassId} {ad : Nat → Nat} {Z : Nat → Nat → Bool} {S : ST} {k ki : Nat} (h : kd k = ki) (h11 : 11 ≤ ki) : ce cA ad Z S k = .inl (cA ki, ln k, .inr (.inr (.inr (.inr (fun i => if Z k i = true then some (ad (rf S k i)) else none))))) := by
  subst h
  unfold ce
  rw [if_neg (by omega), if_neg (by omega)]
theorem rf_congr {S S' : ST} {k : Nat} (h : S' k = S k) (i : Nat) : rf S' k i = rf S k i := by
  unfold rf
  rw [h]
theorem fv_congr {ad : Nat → Nat} {Z : Nat → Nat → Bool} {S S' : ST} {k : Nat} (h : S' k = S k) (i : Nat) : fv ad Z S' k i = fv ad Z S k i := by
  unfold fv
  rw [rf_congr h, h]
theorem ce_congr {cA : Nat → ClassId} {ad : Nat → Nat} {Z : Nat → Nat → Bool} {S S' : ST} {k : Nat} (h : S' k = S k) : ce cA ad Z S' k = ce cA ad Z S k := by
  unfold ce
  rw [h, show fv ad Z S' k = fv ad Z S k from funext (fv_congr h), show (fun i => if Z k i = true then some (ad (rf S' k i)) else none) = (fun i => if Z k i = true then some (ad (rf S k i)) else none) from funext fun i => by rw [rf_congr h]]
theorem wl_set {cA : Nat → ClassId} {n : Nat} {ad : Nat → Nat} {Z Z' : Nat → Nat → Bool} {S S' : ST} {k : Nat} {e : va_E} (hk : k < n) (he : e = ce cA ad Z' S' k) (ho : ∀ j, j < n → j ≠ k → ce cA ad Z' S' j = ce cA ad Z S j) : (wl cA n ad Z S).set k (ad k, e) = wl cA n ad Z' S' := by
  apply List.ext_getElem?
  intro j
  rw [List.getElem?_set]
  by_cases hj : k = j
  · subst hj
    rw [if_pos rfl, wl_get hk, he]
    simp [wl, hk]
  · rw [if_neg hj]
    by_cases h : j < n
    · rw [wl_get h, wl_get h, ho j h (fun q => hj q.symm)]
    · simp [wl, h]
/-- what a cell shows: its ints, not the places that hold references -/
def relv (k i : Nat) : Prop := i < ln k ∧ (kd k < 8 → isR (kd k) i = false) ∧ kd k ≠ 11
theorem arrV_same {cI : ClassId} {n : Nat} {f g : Nat → Value} (h : ∀ j, j < n → f j = g j) : arrV cI n f = arrV cI n g := by
  have e : (Array.ofFn (n := n) fun j => f j.val) = Array.ofFn (n := n) fun j => g j.val := congrArg _ (funext fun j => h j.val j.isLt)
  unfold arrV
  rw [e]
theorem P_same {D : va_G} {cA : Nat → ClassId} {n : Nat} {ad : Nat → Nat} {Z : Nat → Nat → Bool} {S S' : ST} {H : Heap} (hn : n ≤ NN) (h : ∀ k i, k < n → relv k i → S k i = S' k i) (hP : va_P D vwCl (wl cA n ad Z S) H) (hL : ∀ k, k < NN → ∀ r, vwCl[kd k]? = some r → ln k = r.2.2) : va_P D vwCl (wl cA n ad Z S') H := by
  intro k q hq
  have hk : k < n := by
    have := (List.getElem?_eq_some_iff.mp hq).1
    simpa [wl] using this
  rw [wl_get hk] at hq
  cases hq
  have h0 := hP k _ (wl_get hk)
  by_cases h8 : kd k < 8
  · rw [ce_obj rfl h8] at h0 ⊢
    obtain ⟨r, hr, ho⟩ := h0
    refine ⟨r, hr, ho.to (fun i hi => ?_)⟩
    have hl := hL k (Nat.lt_of_lt_of_le hk hn) r hr
    have hi2 : i < ln k := by rw [hl]; exact hi
    simp only [vp_V, List.getD_eq_getElem?_getD, List.getElem?_map, List.getElem?_range hi2, Option.map_some, Option.getD_some]
    unfold fv rf
    have h12 : ¬ kd k = 12 := by omega
    rw [if_neg h12, if_neg h12]
    by_cases hR : isR (kd k) i = true
    · rw [if_pos hR, if_pos hR]
    · rw [if_neg hR, if_neg hR, h k i hk ⟨hi2, fun _ => by simpa using hR, by omega⟩]
  · by_cases h11 : kd k < 11
    · rw [ce_num rfl (by omega) h11] at h0 ⊢
      refine Eq.trans h0 (show some (arrV (cA (kd k)) (ln k) (fun j => .int (S k j))) = some (arrV (cA (kd k)) (ln k) (fun j => .int (S' k j))) from congrArg some (arrV_same fun j hj => ?_))
      show Value.int _ = Value.int _
      rw [h k j hk ⟨hj, fun q => absurd q h8, by omega⟩]
    · rw [ce_ref rfl (by omega)] at h0 ⊢
      refine Eq.trans h0 (show some (arrV (cA (kd k)) (ln k) (fun i => va_rf (if Z k i = true then some (ad (rf S k i)) else none))) = some (arrV (cA (kd k)) (ln k) (fun i => va_rf (if Z k i = true then some (ad (rf S' k i)) else none))) from congrArg some (arrV_same fun j hj => ?_))
      have e : rf S k j = rf S' k j := by
        unfold rf
        by_cases h12 : kd k = 12
        · rw [h k j hk ⟨hj, fun q => absurd q h8, by omega⟩]
        · rw [if_neg h12, if_neg h12]
      simp only [e]
theorem D_same {A : Nat → Prop} {cA : Nat → ClassId} {n : Nat} {ad : Nat → Nat} {Z Z' : Nat → Nat → Bool} {S S' : ST} (hD : va_D A (wl cA n ad Z S)) : va_D A (wl cA n ad Z' S') := by
  have key : ∀ (k : Nat) (q : Nat × va_E), (wl cA n ad Z' S')[k]? = some q → ∃ q', (wl cA n ad Z S)[k]? = some q' ∧ q'.1 = q.1 := by
    intro k q hq
    have hk : k < n := by
      have := (List.getElem?_eq_some_iff.mp hq).1
      simpa [wl] using this
    rw [wl_get hk] at hq
    cases hq
    exact ⟨_, wl_get hk, rfl⟩
  refine ⟨fun i j p q hp hq e => ?_, fun k q hq => ?_⟩
  · obtain ⟨p', hp', ep⟩ := key i p hp
    obtain ⟨q', hq', eq⟩ := key j q hq
    exact hD.1 i j p' q' hp' hq' (by rw [ep, eq, e])
  · obtain ⟨q', hq', eq⟩ := key k q hq
    rw [← eq]
    exact hD.2 k q' hq'
theorem vw_len : vwCl.length = 7 := rfl
theorem vw_lt {i : Nat} {r : vw_C} (h : vwCl[i]? = some r) : i < 8 := by
  have h2 := (List.getElem?_eq_some_iff.mp h).1
  rw [vw_len] at h2
  omega
theorem bigX : ∀ (ci : Nat) (r : vw_C), vwCl[ci]? = some r → (∀ w ∈ u_ws r.1 r.2.1 r.2.2, w ∈ BIG) ∧ (∃ ty0 : Nat → FieldType, ∀ k, k < r.2.2 → parseFieldDescriptor (r.2.1 k).2.2.1 = some (ty0 k)) ∧ ∀ a, a < r.2.2 → ∀ b, b < r.2.2 → a ≠ b → (r.2.1 a).2.1 ≠ (r.2.1 b).2.1 := by
  intro ci r h
  match ci, h with
  | 0, h => cases h; exact ⟨bigX0, ⟨_, tyX0_ok⟩, nmX0⟩
  | 1, h => cases h; exact ⟨bigX1, ⟨_, tyX1_ok⟩, nmX1⟩
  | 2, h => cases h; exact ⟨bigX2, ⟨_, tyX2_ok⟩, nmX2⟩
  | 3, h => cases h; exact ⟨bigX3, ⟨_, tyX3_ok⟩, nmX3⟩
  | 4, h => cases h; exact ⟨bigX4, ⟨_, tyX4_ok⟩, nmX4⟩
  | 5, h => cases h; exact ⟨bigX5, ⟨_, tyX5_ok⟩, nmX5⟩
  | 6, h => cases h; exact ⟨bigX6, ⟨_, tyX6_ok⟩, nmX6⟩
  | _ + 7, h => simp [vwCl] at h
/-- the kinds' lengths are those of their fields -/
theorem ln_obj : ∀ k, k < NN → ∀ r, vwCl[kd k]? = some r → ln k = r.2.2 := by
  have h : (List.range NN).all (fun k => decide (8 ≤ kd k) || decide (some (ln k) = (vwCl[kd k]?).map (fun r => r.2.2))) = true := by decide +kernel
  intro k hk r hr
  have h1 := List.all_eq_true.mp h k (List.mem_range.mpr hk)
  rw [hr] at h1
  have h2 : kd k < 8 := vw_lt hr
  rcases (Bool.or_eq_true _ _).mp h1 with h3 | h3
  · exact absurd (of_decide_eq_true h3) (by omega)
  · exact Option.some.inj (of_decide_eq_true h3)
def leastS (j : Nat) : Int32 := ([10, 0, 0, 1, 0, 4] : List Int32).getD j 0
def mostS (j : Nat) : Int32 := ([90, 100, 95, 9, 20, 40] : List Int32).getD j 0
def firstS (j : Nat) : Int32 := ([40, 40, 60, 4, 3, 12] : List Int32).getD j 0
abbrev aF (b : Nat) : Nat → Prop := fun q => b ≤ q
/-- the class's three written-out rows, laid before the run -/
def STT (b : Nat) (U : State) (H : Heap) : Prop := ∃ t0 t1 t2 : Nat, va_Z "RollScales" "LEAST_SETTING" "[I" (.ref t0) (aF b) U H ∧ va_Z "RollScales" "MOST_SETTING" "[I" (.ref t1) (aF b) U H ∧ va_Z "RollScales" "FIRST_SETTING" "[I" (.ref t2) (aF b) U H ∧ va_T .int t0 6 (fun j => .int (leastS j)) (aF b) U H ∧ va_T .int t1 6 (fun j => .int (mostS j)) (aF b) U H ∧ va_X t2 6 firstS U H ∧ t2 < b ∧ t2 < H.size
theorem STT.moved {b : Nat} {u U : State} {H : Heap} (hvm : u.vm.Alike U.vm) (h : STT b u H) : STT b U H := by
  obtain ⟨t0, t1, t2, a, b1, c, d, e, f, g, i⟩ := h
  exact ⟨t0, t1, t2, a.moved hvm, b1.moved hvm, c.moved hvm, d.moved hvm, e.moved hvm, f.moved hvm, g, i⟩
theorem STT.kept {b : Nat} {U : State} {H H1 : Heap} (h : STT b U H) (hs : H.size ≤ H1.size) (hq : ∀ a : Nat, a < H.size → ¬ aF b a → H1[a]? = H[a]?) : STT b U H1 := by
  obtain ⟨t0, t1, t2, a, b1, c, d, e, f, g, i⟩ := h
  exact ⟨t0, t1, t2, a.kept hq, b1.kept hq, c.kept hq, d.kept hq, e.kept hq, f.kept (hq _ i (fun q => absurd g (Nat.not_lt.mpr q))), g, Nat.lt_of_lt_of_le i hs⟩
/-- the words of the nest: they stay, but not as the others do -/
def isNest : Cond → Bool
  | .fieldLinkNest _ _ _ _ _ _ => true
  | .methodLinkNest _ _ _ _ => true
  | _ => false
def NST : List Cond := tables_1.filter isNest
theorem nst_at (i : Nat) {w : Cond} (h : tables_1[i]? = some w) (hg : isNest w = true) : w ∈ NST := List.mem_filter.mpr ⟨List.mem_of_getElem? h, hg⟩
def NWS (U : State) : Prop := ∀ w ∈ NST, va_Nw w U
theorem NWS.warm {s U : State} (hW : s.WarmedH U.vm) (h : NWS s) : NWS U := by
  intro w hw
  have h0 := h w hw
  have h1 := (List.mem_filter.mp hw).2
  clear hw
  cases w <;> first | exact va_Nw.warmF hW h0 | exact va_Nw.warmM hW h0 | (simp [isNest] at h1)
theorem NWS.onT {w : Cond} (h : w ∈ NST) : w.onTables = true := by
  have h1 := (List.mem_filter.mp h).2
  cases w <;> first | (simp [isNest] at h1; done) | rfl
theorem NWS.same {u U : State} (hv : u.vm = U.vm) (h : NWS u) : NWS U := fun w hw => va_Nw.same (NWS.onT hw) hv (h w hw)
def tysA (cA : Nat → ClassId) : List (ClassId × FieldType) := [(cA 8, .int), (cA 9, .boolean), (cA 10, .char), (cA 11, .object "RollScales$Cart"), (cA 12, .object "RollScales$State")]
/-- a world of n cells at the addresses ad -/
def PRE (b : Nat) (D : va_G) (cA : Nat → ClassId) (n : Nat) (ad : Nat → Nat) (Z : Nat → Nat → Bool) (S : ST) (U : State) : Prop :=
  b ≤ U.heap.size ∧ va_P D vwCl (wl cA n ad Z S) U.heap ∧ va_D (aF b) (wl cA n ad Z S) ∧ va_K D vwCl (tysA cA) U ∧ STT b U U.heap ∧ NWS U
abbrev zT : Nat → Nat → Bool := fun _ _ => true
def rmd (d : Nat) : Room := { frames := d, cells := 0, slots := 0, locals := 32 * d }
def QQ (b : Nat) (D : va_G) (cA : Nat → ClassId) (n : Nat) (ad : Nat → Nat) (Z : Nat → Nat → Bool) (Qf : Option Value → ST → Prop) : Array Value → State → Outcome → State → Prop := fun _ st o t =>
  ∃ v S', o = .returned v ∧ Qf v S' ∧ PRE b D cA n ad Z S' t ∧ va_F (aF b) st t
/-- a method's contract over the whole world: called at S with av, it returns v and leaves S' with Qf v S' -/
def MT (l : Launch) (b : Nat) (D : va_G) (cA : Nat → ClassId) (n : Nat) (ad : Nat → Nat) (Z : Nat → Nat → Bool) (y : MethodName) (code : ByteArray) (maxL : Nat) (ret : Option FieldType) (d : Nat) (av : List Value) (S : ST) (Qf : Option Value → ST → Prop) : Prop :=
  Met l y (.code y code maxL ret :: BIG) (rmd d) (va_Pc av (PRE b D cA n ad Z S)) (QQ b D cA n ad Z Qf) 0 0 (aF b)
def LC (lsA : Array Slot) (nL : Nat) (ls : List (Option Value)) : Prop := lsA.size = nL ∧ lv_wf lsA ∧ ls.length = nL ∧ ∀ (i : Nat) (v : Value), ls[i]? = some (some v) → lsA[i]? = some (.val v) ∧ v.category = 1
def prs (nL : Nat) (ls : List (Option Value)) : List (Nat × Value) := (List.range nL).filterMap (fun i => match ls[i]? with | some (some v) => some (i, v) | _ => none)
theorem prs_mem {nL : Nat} {ls : List (Option Value)} {q : Nat × Value} : q ∈ prs nL ls ↔ q.1 < nL ∧ ls[q.1]? = some (some q.2) := by
  unfold prs
  rw [List.mem_filterMap]
  constructor
  · rintro ⟨i, hi, h⟩
    split at h
    · next v hv =>
      cases h
      exact ⟨List.mem_range.mp hi, hv⟩
    · cases h
  · rintro ⟨h1, h2⟩
    exact ⟨q.1, List.mem_range.mpr h1, by rw [h2]⟩
theorem LC.has {lsA : Array Slot} {nL : Nat} {ls : List (Option Value)} (h : LC lsA nL ls) : lv_has lsA nL (prs nL ls) := ⟨h.1, h.2.1, fun q hq => (h.2.2.2 q.1 q.2 (prs_mem.mp hq).2).1⟩
theorem LC.at {lsA : Array Slot} {nL : Nat} {ls : List (Option Value)} (h : LC lsA nL ls) {i : Nat} {v : Value} (hv : ls[i]? = some (some v)) : lsA[i]? = some (.val v) := (h.2.2.2 i v hv).1
theorem LC.put {lsA lsB : Array Slot} {nL i : Nat} {ls : List (Option Value)} {x : Value} (h : LC lsA nL ls) (hx : x.category = 1) (h1 : lv_has lsB nL ((i, x) :: (prs nL ls).filter (fun q => !(q.1 == i) && !(q.1 + 1 == i && q.2.category == 2)))) : LC lsB nL (ls.set i (some x)) := by
  refine ⟨h1.1, h1.2.1, by rw [List.length_set]; exact h.2.2.1, fun j v hj => ?_⟩
  rw [List.getElem?_set] at hj
  by_cases e : i = j
  · subst e
    rw [if_pos rfl] at hj
    split at hj
    · cases hj
      exact ⟨h1.2.2 _ List.mem_cons_self, hx⟩
    · cases hj
  · rw [if_neg e] at hj
    have hc := (h.2.2.2 j v hj).2
    refine ⟨h1.2.2 (j, v) (List.mem_cons_of_mem _ (List.mem_filter.mpr ⟨prs_mem.mpr ⟨?_, hj⟩, ?_⟩)), hc⟩
    · have := (List.getElem?_eq_some_iff.mp hj).1
      rw [h.2.2.1] at this
      exact this
    · have e2 : (j == i) = false := by simpa using fun q : j = i => e q.symm
      simp [e2, hc]
theorem lv_args_mem : ∀ (vs : List Value) (k i : Nat) (v : Value), (∀ x ∈ vs, x.category = 1) → vs[i]? = some v → (k + i, v) ∈ lv_args k vs := by
  intro vs
  induction vs with
  | nil => intro k i v _ h; simp at h
  | cons a vs ih =>
    intro k i v hc h
    have ha : a.category = 1 := hc a List.mem_cons_self
    unfold lv_args
    rw [if_neg (by rw [ha]; decide)]
    cases i with
    | zero =>
      simp at h
      subst h
      exact List.mem_cons_self
    | succ i =>
      have := ih (k + 1) i v (fun x hx => hc x (List.mem_cons_of_mem _ hx)) (by simpa using h)
      rw [show k + 1 + i = k + (i + 1) by omega] at this
      exact List.mem_cons_of_mem _ this
theorem LC.entry {lsA : Array Slot} {nL : Nat} {vs : List Value} {j : Nat} (hc : ∀ x ∈ vs, x.category = 1) (hl : vs.length + j = nL) (h : lv_has lsA nL (lv_args 0 vs)) : LC lsA nL (vs.map some ++ List.replicate j none) := by
  refine ⟨h.1, h.2.1, by simp [hl], fun i v hi => ?_⟩
  by_cases e : i < vs.length
  · rw [List.getElem?_append_left (by simpa using e), List.getElem?_map] at hi
    have h2 : vs[i]? = some v := by
      cases hv : vs[i]? with
      | none => rw [hv] at hi; simp at hi
      | some w => rw [hv] at hi; simpa using hi
    have h3 := lv_args_mem vs 0 i v hc h2
    rw [Nat.zero_add] at h3
    exact ⟨h.2.2 _ h3, hc v (List.mem_of_getElem? h2)⟩
  · rw [List.getElem?_append_right (by simpa using e)] at hi
    rw [List.getElem?_replicate] at hi
    split at hi <;> simp at hi
/-- what a walk stands on -/
def CX (p : Program) (s : State) (m : MethodId) (args : Array Value) (meth : Method) (c : Code) (b : Nat) (D : va_G) (cA : Nat → ClassId) (cc : ByteArray) (own : String) (nL : Nat) (ret : Option FieldType) : Prop :=
  p.tables.exec = Jvm.exec ∧ c.code = cc ∧ c.maxLocals = nL ∧ s.vm.findClass own = some m.cls ∧ (∀ w ∈ BIG, w.before args s = true) ∧ va_K D vwCl (tysA cA) s ∧ b ≤ s.heap.size ∧ meth.sig.returnType = ret ∧ meth.locks = false ∧ STT b s s.heap ∧ NWS s
/-- the walk stands at pc with the locals ls, the stack st and the world S, and comes to an end with Q -/
def G (p : Program) (l : Launch) (e : Env) (R : Room) (s : State) (m : MethodId) (args : Array Value) (below : List Frame) (meth : Method) (c : Code) (Q : State → Prop) (b : Nat) (D : va_G) (cA : Nat → ClassId) (nL n : Nat) (ad : Nat → Nat) (Z : Nat → Nat → Bool) (cells slots : Nat) (pc : Nat) (ls : List (Option Value)) (st : List Value) (S : ST) : Prop :=
  ∀ (H : Heap) (locs : List Loc) (lsA : Array Slot), va_P D vwCl (wl cA n ad Z S) H → va_D (aF b) (wl cA n ad Z S) → va_S (aF b) s.heap H locs → LC lsA nL ls → W p l e R s m args below meth c H locs cells slots Q (F0 m pc lsA st)
theorem PRE.blind {b : Nat} {D : va_G} {cA : Nat → ClassId} {n : Nat} {ad : Nat → Nat} {Z : Nat → Nat → Bool} {S : ST} {av : List Value} : FrameBlind (va_Pc av (PRE b D cA n ad Z S)) := fun a U g mk q => by
  obtain ⟨q0, q1, q2, q3, q4, q5, q6⟩ := q
  exact ⟨q0, q1, q2, q3, va_K.moved (u := U) (U := U.calling g mk a) (Vm.Alike.refl U.vm) q4, STT.moved (u := U) (U := U.calling g mk a) (Vm.Alike.refl U.vm) q5, NWS.same (u := U) (U := U.calling g mk a) rfl q6⟩
set_option maxHeartbeats 1000000 in
theorem MT.intro {l : Launch} {b : Nat} {D : va_G} {cA : Nat → ClassId} {n : Nat} {ad : Nat → Nat} {Z : Nat → Nat → Bool} {y : MethodName} {code : ByteArray} {maxL : Nat} {ret : Option FieldType} {d : Nat} {av : List Value} {S : ST} {Qf : Option Value → ST → Prop} {ls : List (Option Value)} {j : Nat}
    (hy : plainName y.cls = true) (hc0 : av.all (fun v => v.category == 1) = true) (hl : av.length + j = maxL) (hls : av.map some ++ List.replicate j none = ls)
    (h : ∀ (p : Program) (e : Env) (s : State) (m : MethodId) (below : List Frame) (meth : Method) (c : Code), CX p s m av.toArray meth c b D cA code y.cls maxL ret → (y.name = "<init>" → meth.name = "<init>") → G p l e (rmd d) s m av.toArray below meth c (MQ below (QQ b D cA n ad Z Qf) av.toArray s 0 0 (aF b)) b D cA maxL n ad Z 0 0 0 ls [] S) : MT l b D cA n ad Z y code maxL ret d av S Qf := by
  have hc : ∀ x ∈ av, x.category = 1 := fun x hx => by simpa using List.all_eq_true.mp hc0 x hx
  refine Met.ofW (cc := code) (maxL := maxL) (ret := ret) hy rfl ?_
  intro p e s m args below meth c s₁ B hml hv
  obtain ⟨rfl, hb0, hP, hD, hK, hT, hNW⟩ := hv
  have hts := atoms_spec (ws := .code y code maxL ret :: BIG) B.pre
  have hown : s.vm.findClass y.cls = some m.cls := findClass_of_methodNamed B.named
  have hnm : y.name = "<init>" → meth.name = "<init>" := fun q => ((name_of_methodNamed B.named B.method).1).trans q
  rw [lg_entry_eq]
  have hsl : (lg_sl av).length = av.length := by
    clear hc0 hls hts h hP hD hK hT hNW hml hl B
    induction av with
    | nil => rfl
    | cons a t ih =>
      have ha : a.category = 1 := hc a List.mem_cons_self
      have := ih (fun x hx => hc x (List.mem_cons_of_mem _ hx))
      unfold lg_sl at this ⊢
      rw [List.flatMap_cons, List.length_append, this, if_neg (by rw [ha]; decide)]
      simp
      omega
  have hl0 := lv_entry av (n := maxL) (by rw [hsl]; omega)
  subst hls
  exact h p e s m below meth c ⟨B.exec, B.bytes, hml, hown, fun w hw => hts w (List.mem_cons_of_mem _ hw), hK, hb0, B.returns, B.notSynchronized, hT, hNW⟩ hnm s.heap [] _ hP hD va_S.rf (LC.entry hc hl hl0)
