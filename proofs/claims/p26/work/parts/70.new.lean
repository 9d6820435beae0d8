/-! CONSTRUCTORS: the world grows, cell by cell -/
def rp (k i : Nat) : Bool := if kd k < 8 then isR (kd k) i else decide (11 ≤ kd k)
def AG (n : Nat) (ad ad2 : Nat → Nat) : Prop := ∀ k, k < n → ad2 k = ad k
def CL (n : Nat) (Z : Nat → Nat → Bool) (S : ST) : Prop := ∀ k i, k < n → i < ln k → rp k i = true → Z k i = true → rf S k i < n
def zN (Z : Nat → Nat → Bool) (n : Nat) : Nat → Nat → Bool := fun a i => if a = n then false else Z a i
def zS (Z : Nat → Nat → Bool) (k i : Nat) : Nat → Nat → Bool := fun a j => if a = k ∧ j = i then true else Z a j
def sN (S : ST) (n : Nat) : ST := str S n (fun _ => 0)
def vA (ad : Nat → Nat) (Z : Nat → Nat → Bool) (S : ST) (k i : Nat) : Value := if rp k i = true then (if Z k i = true then .ref (ad (rf S k i)) else .null) else .int (S k i)
theorem at_gen {D : va_G} {cA : Nat → ClassId} {ad ad2 : Nat → Nat} {Z Z2 : Nat → Nat → Bool} {S S2 : ST} {k : Nat} {H : Heap} (hk : k < NN) (ha : ad2 k = ad k) (h : ∀ i, i < ln k → vA ad2 Z2 S2 k i = vA ad Z S k i) (h0 : va_at D vwCl (ad k, ce cA ad Z S k) H) : va_at D vwCl (ad2 k, ce cA ad2 Z2 S2 k) H := by
  rw [ha]
  by_cases h8 : kd k < 8
  · rw [ce_obj rfl h8] at h0 ⊢
    obtain ⟨r, hr, ho⟩ := h0
    refine ⟨r, hr, ho.to (fun i hi => ?_)⟩
    have hl := ln_obj k hk r hr
    have hi2 : i < ln k := by rw [hl]; exact hi
    simp only [vp_V, List.getD_eq_getElem?_getD, List.getElem?_map, List.getElem?_range hi2, Option.map_some, Option.getD_some]
    have e := h i hi2
    unfold vA rp at e
    rw [if_pos h8] at e
    unfold fv
    first | exact e | exact e.symm
  · by_cases h11 : kd k < 11
    · rw [ce_num rfl (by omega) h11] at h0 ⊢
      refine Eq.trans h0 (show some (arrV (cA (kd k)) (ln k) (fun j => .int (S k j))) = some (arrV (cA (kd k)) (ln k) (fun j => .int (S2 k j))) from congrArg some (arrV_same fun j hj => ?_))
      have e := h j hj
      unfold vA rp at e
      simp only [if_neg h8, show decide (11 ≤ kd k) = false from decide_eq_false (by omega), Bool.false_eq_true, if_false] at e
      exact e.symm
    · rw [ce_ref rfl (by omega)] at h0 ⊢
      refine Eq.trans h0 (show some (arrV (cA (kd k)) (ln k) (fun i => va_rf (if Z k i = true then some (ad (rf S k i)) else none))) = some (arrV (cA (kd k)) (ln k) (fun i => va_rf (if Z2 k i = true then some (ad2 (rf S2 k i)) else none))) from congrArg some (arrV_same fun j hj => ?_))
      have e := h j hj
      unfold vA rp at e
      simp only [if_neg h8, show decide (11 ≤ kd k) = true from decide_eq_true (by omega), if_true] at e
      by_cases z1 : Z k j = true <;> by_cases z2 : Z2 k j = true
      · rw [if_pos z1, if_pos z2] at e
        rw [if_pos z1, if_pos z2]
        exact e.symm
      · rw [if_pos z1, if_neg z2] at e
        rw [if_pos z1, if_neg z2]
        exact e.symm
      · rw [if_neg z1, if_pos z2] at e
        rw [if_neg z1, if_pos z2]
        exact e.symm
      · rw [if_neg z1, if_neg z2]
theorem P_gen {D : va_G} {cA : Nat → ClassId} {n : Nat} {ad ad2 : Nat → Nat} {Z Z2 : Nat → Nat → Bool} {S S2 : ST} {H : Heap} (hn : n ≤ NN) (ha : AG n ad ad2) (h : ∀ k i, k < n → i < ln k → vA ad2 Z2 S2 k i = vA ad Z S k i) (hP : va_P D vwCl (wl cA n ad Z S) H) : va_P D vwCl (wl cA n ad2 Z2 S2) H := by
  intro k x hx
  have hk : k < n := by
    have := (List.getElem?_eq_some_iff.mp hx).1
    simpa [wl] using this
  rw [wl_get hk] at hx
  cases hx
  exact at_gen (Nat.lt_of_lt_of_le hk hn) (ha k hk) (fun i hi => h k i hk hi) (hP k _ (wl_get hk))
theorem P_new {D : va_G} {cA : Nat → ClassId} {n q : Nat} {e : va_E} {ad ad2 : Nat → Nat} {Z Z2 : Nat → Nat → Bool} {S S2 : ST} {H : Heap} (hn : n < NN) (ha : AG n ad ad2) (hq : ad2 n = q) (he : e = ce cA ad2 Z2 S2 n) (h : ∀ k i, k < n → i < ln k → vA ad2 Z2 S2 k i = vA ad Z S k i) (hP : va_P D vwCl (wl cA n ad Z S ++ [(q, e)]) H) : va_P D vwCl (wl cA (n + 1) ad2 Z2 S2) H := by
  intro k x hx
  have hk : k < n + 1 := by
    have := (List.getElem?_eq_some_iff.mp hx).1
    simpa [wl] using this
  rw [wl_get hk] at hx
  cases hx
  have hlen : (wl cA n ad Z S).length = n := by simp [wl]
  rcases Nat.lt_or_ge k n with g | g
  · have h0 := hP k (ad k, ce cA ad Z S k) (by rw [List.getElem?_append_left (by rw [hlen]; exact g)]; exact wl_get g)
    exact at_gen (Nat.lt_trans g hn) (ha k g) (fun i hi => h k i g hi) h0
  · have e2 : k = n := by omega
    subst e2
    have h0 := hP k (q, e) (by rw [List.getElem?_append_right (by omega), hlen, Nat.sub_self]; rfl)
    rw [hq, ← he]
    exact h0
theorem D_new {A : Nat → Prop} {cA : Nat → ClassId} {n q : Nat} {e : va_E} {ad ad2 : Nat → Nat} {Z Z2 : Nat → Nat → Bool} {S S2 : ST} (ha : AG n ad ad2) (hq : ad2 n = q) (hD : va_D A (wl cA n ad Z S ++ [(q, e)])) : va_D A (wl cA (n + 1) ad2 Z2 S2) := by
  have hlen : (wl cA n ad Z S).length = n := by simp [wl]
  have key : ∀ (k : Nat) (x : Nat × va_E), (wl cA (n + 1) ad2 Z2 S2)[k]? = some x → ∃ y, (wl cA n ad Z S ++ [(q, e)])[k]? = some y ∧ y.1 = x.1 := by
    intro k x hx
    have hk : k < n + 1 := by
      have := (List.getElem?_eq_some_iff.mp hx).1
      simpa [wl] using this
    rw [wl_get hk] at hx
    cases hx
    rcases Nat.lt_or_ge k n with g | g
    · exact ⟨(ad k, ce cA ad Z S k), by rw [List.getElem?_append_left (by rw [hlen]; exact g)]; exact wl_get g, (ha k g).symm⟩
    · have e2 : k = n := by omega
      subst e2
      exact ⟨(q, e), by rw [List.getElem?_append_right (by omega), hlen, Nat.sub_self]; rfl, hq.symm⟩
  refine ⟨fun i j x y hx hy e3 => ?_, fun k x hx => ?_⟩
  · obtain ⟨x', hx', ex⟩ := key i x hx
    obtain ⟨y', hy', ey⟩ := key j y hy
    exact hD.1 i j x' y' hx' hy' (by rw [ex, ey, e3])
  · obtain ⟨x', hx', ex⟩ := key k x hx
    rw [← ex]
    exact hD.2 k x' hx'
theorem AG_up {n q : Nat} {ad : Nat → Nat} : AG n ad (va_up ad n q) := fun k hk => if_neg (Nat.ne_of_lt hk)
theorem up_at {n q : Nat} {ad : Nat → Nat} : va_up ad n q n = q := if_pos rfl
theorem vA_keep {n q k i : Nat} {ad : Nat → Nat} {Z : Nat → Nat → Bool} {S : ST} (hCL : CL n Z S) (hk : k < n) (hi : i < ln k) : vA (va_up ad n q) (zN Z n) (sN S n) k i = vA ad Z S k i := by
  have e1 : sN S n k = S k := str_n (Nat.ne_of_lt hk)
  have ez : zN Z n k i = Z k i := if_neg (Nat.ne_of_lt hk)
  unfold vA
  rw [ez, rf_congr e1, e1]
  by_cases hr : rp k i = true
  · rw [if_pos hr, if_pos hr]
    by_cases hz : Z k i = true
    · rw [if_pos hz, if_pos hz]
      have h1 := hCL k i hk hi hr hz
      rw [show va_up ad n q (rf S k i) = ad (rf S k i) from if_neg (by omega)]
    · rw [if_neg hz, if_neg hz]
  · rw [if_neg hr, if_neg hr]
theorem CL_new {n : Nat} {Z : Nat → Nat → Bool} {S : ST} (hCL : CL n Z S) : CL (n + 1) (zN Z n) (sN S n) := by
  intro k i hk hi hr hz
  by_cases e : k = n
  · rw [show zN Z n k i = false from if_pos e] at hz
    cases hz
  · rw [show zN Z n k i = Z k i from if_neg e] at hz
    rw [rf_congr (show sN S n k = S k from str_n e)]
    have := hCL k i (by omega) hi hr hz
    omega
theorem CL_set {n k j : Nat} {Z : Nat → Nat → Bool} {S S2 : ST} (hCL : CL n Z S) (ht : rf S2 k j < n) (h : ∀ a i, ¬ (a = k ∧ i = j) → rf S2 a i = rf S a i) : CL n (zS Z k j) S2 := by
  intro a i ha hi hr hz
  by_cases e : a = k ∧ i = j
  · rw [e.1, e.2]
    exact ht
  · rw [show zS Z k j a i = Z a i from if_neg e] at hz
    rw [h a i e]
    exact hCL a i ha hi hr hz
theorem ce_congrZ {cA : Nat → ClassId} {ad : Nat → Nat} {Z Z' : Nat → Nat → Bool} {S S' : ST} {k : Nat} (hz : Z' k = Z k) (h : S' k = S k) : ce cA ad Z' S' k = ce cA ad Z S k := by
  have e : ∀ i, fv ad Z' S' k i = fv ad Z S k i := fun i => by
    unfold fv
    rw [rf_congr h, h, hz]
  unfold ce
  rw [h, hz, show fv ad Z' S' k = fv ad Z S k from funext e, show (fun i => if Z k i = true then some (ad (rf S' k i)) else none) = (fun i => if Z k i = true then some (ad (rf S k i)) else none) from funext fun i => by rw [rf_congr h]]
theorem zS_o {Z : Nat → Nat → Bool} {k j a : Nat} (h : a ≠ k) : zS Z k j a = Z a := funext fun i => if_neg (fun q => h q.1)
theorem ra_inj {s : State} {c1 c2 : ClassId} {ty : FieldType} (h1 : va_RA s c1 ty) (h2 : va_RA s c2 ty) : c1 = c2 := by
  cases ty with
  | object C =>
    obtain ⟨_, _, _, _, _, g1⟩ := h1
    obtain ⟨_, _, _, _, _, g2⟩ := h2
    exact Option.some.inj (g1.symm.trans g2)
  | _ => exact Option.some.inj (h1.symm.trans h2)
/-- the pool entry 'index' of own is its own final field i of kind ci, for references -/
def LF (own : String) (index ci i : Nat) (ty : FieldType) : Prop := ∃ r : vw_C, vwCl[ci]? = some r ∧ i < r.2.2 ∧ Cond.fieldLink own index (r.2.1 i).1 (r.2.1 i).2.1 (r.2.1 i).2.2.1 ∈ BIG ∧ (r.2.1 i).2.2.2 = true ∧ (r.2.1 i).1 = own ∧ parseFieldDescriptor (r.2.1 i).2.2.1 = some ty ∧ ∀ a : Nat, narrow ty (.ref a) = .ref a ∧ fits ty (.ref a) = true
def rmn (d cn sl : Nat) : Room := { frames := d, cells := cn, slots := sl, locals := 32 * d }
def QN (b : Nat) (D : va_G) (cA : Nat → ClassId) (n1 : Nat) (P : (Nat → Nat) → (Nat → Nat → Bool) → ST → Prop) : Array Value → State → Outcome → State → Prop := fun _ st o t =>
  ∃ ad2 Z2 S2, o = .returned none ∧ P ad2 Z2 S2 ∧ PRE b D cA n1 ad2 Z2 S2 t ∧ va_F (aF b) st t
/-- the classes of rows of carts and of states -/
def AOS (U : State) : Prop := va_AO RX0 U ∧ va_AO RX5 U
theorem AOS.moved {u U : State} (hvm : u.vm.Alike U.vm) (h : AOS u) : AOS U := ⟨h.1.moved hvm, h.2.moved hvm⟩
theorem PRE.blindA {b : Nat} {D : va_G} {cA : Nat → ClassId} {n : Nat} {ad : Nat → Nat} {Z : Nat → Nat → Bool} {S : ST} {av : List Value} : FrameBlind (va_Pc av (fun U => PRE b D cA n ad Z S U ∧ AOS U)) := fun a U g mk q => by
  obtain ⟨q0, q1, q2⟩ := q
  exact ⟨q0, (PRE.blind (av := av) a U g mk ⟨q0, q1⟩).2, AOS.moved (u := U) (U := U.calling g mk a) (Vm.Alike.refl U.vm) q2⟩
/-- a constructor's contract: n cells before, n1 cells behind -/
def MN (l : Launch) (b : Nat) (D : va_G) (cA : Nat → ClassId) (y : MethodName) (code : ByteArray) (maxL d cn sl : Nat) (av : List Value) (n n1 : Nat) (ad : Nat → Nat) (Z : Nat → Nat → Bool) (S : ST) (P : (Nat → Nat) → (Nat → Nat → Bool) → ST → Prop) : Prop :=
  Met l y (.code y code maxL none :: BIG) (rmn d cn sl) (va_Pc av (fun U => PRE b D cA n ad Z S U ∧ AOS U)) (QN b D cA n1 P) cn sl (aF b)
set_option maxHeartbeats 1000000 in
theorem MN.intro {l : Launch} {b : Nat} {D : va_G} {cA : Nat → ClassId} {n n1 : Nat} {ad : Nat → Nat} {Z : Nat → Nat → Bool} {y : MethodName} {code : ByteArray} {maxL d cn sl : Nat} {av : List Value} {S : ST} {P : (Nat → Nat) → (Nat → Nat → Bool) → ST → Prop} {ls : List (Option Value)} {j : Nat}
    (hy : plainName y.cls = true) (hi : y.name = "<init>") (hc0 : av.all (fun v => v.category == 1) = true) (hl : av.length + j = maxL) (hls : av.map some ++ List.replicate j none = ls)
    (h : ∀ (p : Program) (e : Env) (s : State) (m : MethodId) (args : Array Value) (below : List Frame) (meth : Method) (c : Code), CX p s m args meth c b D cA code y.cls maxL none → meth.name = "<init>" → AOS s → G p l e (rmn d cn sl) s m args below meth c (MQ below (QN b D cA n1 P) args s cn sl (aF b)) b D cA maxL n ad Z 0 0 0 ls [] S) : MN l b D cA y code maxL d cn sl av n n1 ad Z S P := by
  have hc : ∀ x ∈ av, x.category = 1 := fun x hx => by simpa using List.all_eq_true.mp hc0 x hx
  refine Met.ofW (cc := code) (maxL := maxL) (ret := none) hy rfl ?_
  intro p e s m args below meth c s₁ B hml hv
  obtain ⟨rfl, ⟨hb0, hP, hD, hK, hT, hNW⟩, hAO⟩ := hv
  have hts := atoms_spec (ws := .code y code maxL none :: BIG) B.pre
  have hown : s.vm.findClass y.cls = some m.cls := findClass_of_methodNamed B.named
  have hnm : meth.name = "<init>" := ((name_of_methodNamed B.named B.method).1).trans hi
  rw [lg_entry_eq]
  have hsl : (lg_sl av).length = av.length := by
    clear hc0 hls hts h hAO hP hD hK hT hNW hml hl B
    induction av with
    | nil => rfl
    | cons a t ih =>
      have ha : a.category = 1 := hc a List.mem_cons_self
      have := ih (fun x hx => hc x (List.mem_cons_of_mem _ hx))
      unfold lg_sl at this ⊢
      rw [List.flatMap_cons, List.length_append, this, if_neg (by rw [ha]; decide)]
      simp
      omega
  have hl0 := lv_entry av (n := maxL) (by rw [hsl]; omega)
  subst hls
  exact h p e s m av.toArray below meth c ⟨B.exec, B.bytes, hml, hown, fun w hw => hts w (List.mem_cons_of_mem _ hw), hK, hb0, B.returns, B.notSynchronized, hT, hNW⟩ hnm hAO s.heap [] _ hP hD va_S.rf (LC.entry hc hl hl0)
theorem wo_c : Cond.code objectInit ⟨#[0xb1]⟩ 1 none ∈ BIG := big_at 17 (by decide +kernel) (by decide +kernel)
theorem wo_i : Cond.instanceMethod objectInit ∈ BIG := big_at 16 (by decide +kernel) (by decide +kernel)
section
variable {p : Program} {l : Launch} {e : Env} {R : Room} {s : State} {m : MethodId} {args : Array Value} {below : List Frame} {meth : Method} {c : Code} {Q : State → Prop} {b : Nat} {D : va_G} {cA : Nat → ClassId} {nL n : Nat} {ad : Nat → Nat} {Z : Nat → Nat → Bool} {cells slots : Nat} {pc : Nat} {ls : List (Option Value)} {st : List Value} {S : ST} {cc : ByteArray} {own : String} {ret : Option FieldType}
theorem g_objInit (K : CX p s m args meth c b D cA cc own nL ret) {a index : Nat} (hlk : Cond.methodLink own index objectInit ∈ BIG) (d : decode cc pc = .ok (.invokespecial index, 3)) (hR : 1 ≤ R.frames ∧ (st.map fun v => v.category).sum + 12 ≤ R.locals) (kk : G p l e R s m args below meth c Q b D cA nL n ad Z cells slots (pc + 3) ls st S) : G p l e R s m args below meth c Q b D cA nL n ad Z cells slots pc ls (.ref a :: st) S := by
  intro H locs lsA hP hD hS hl
  refine W.objInit K.1 K.2.1 K.2.2.2.1 (K.2.2.2.2.1 _ hlk) (K.2.2.2.2.1 _ wo_i) (K.2.2.2.2.1 _ wo_c) rfl (hl.1.trans K.2.2.1.symm) rfl d hR.1 (by have h0 := hR.2; show 2 * 0 + _ + 12 ≤ _; omega) (kk H locs lsA hP hD hS hl)
set_option maxHeartbeats 1000000 in
theorem g_newobj (K : CX p s m args meth c b D cA cc own nL ret) {index ci N : Nat} {C : String} {T : u_T} (ty : Nat → FieldType) (hr : vwCl[ci]? = some (C, T, N)) (hw : Cond.classLink own index C ∈ BIG ∧ Cond.instantiable C N ∈ BIG ∧ Cond.initialized C ∈ BIG) (hty : ∀ k, k < N → parseFieldDescriptor (T k).2.2.1 = some (ty k)) (hdf : ∀ j, j < N → defaultValue (ty j) = if isR ci j = true then Value.null else .int 0) (d : decode cc pc = .ok (.new index, 3)) (hk : kd n = ci) (hn : n < NN) (hCL : CL n Z S) {n2 : Nat} (hn2 : n + 1 = n2) (hc : cells + 1 ≤ R.cells) (hs : slots + N ≤ R.slots)
    (kk : ∀ ad2, AG n ad ad2 → CL n2 (zN Z n) (sN S n) → G p l e R s m args below meth c Q b D cA nL n2 ad2 (zN Z n) (cells + 1) (slots + N) (pc + 3) ls (.ref (ad2 n) :: st) (sN S n)) : G p l e R s m args below meth c Q b D cA nL n ad Z cells slots pc ls st S := by
  subst hn2
  intro H locs lsA hP hD hS hl
  subst hk
  have h8 : kd n < 8 := (vw_lt hr)
  have hln : ln n = N := ln_obj n hn _ hr
  have ez : ∀ j, zN Z n n j = false := fun j => if_pos rfl
  refine va_new (ci := kd n) (fs := (List.range (ln n)).map (fv ad (zN Z n) (sN S n) n)) (C := C) (T := T) (N := N) K.1 K.2.1 K.2.2.2.2.1 (bigX _ _ hr).1 ty hty K.2.2.2.1 (K.2.2.2.2.1 _ hw.1) (K.2.2.2.2.1 _ hw.2.1) (K.2.2.2.2.1 _ hw.2.2) K.2.2.2.2.2.1 hP hD hS (fun q h => Nat.le_trans K.2.2.2.2.2.2.1 h) hr (fun j hj => ?_) hc hs d (fun q H1 hP1 hD1 hS1 => ?_)
  · rw [hdf j hj]
    have hj2 : j < ln n := by rw [hln]; exact hj
    simp only [vp_V, List.getD_eq_getElem?_getD, List.getElem?_map, List.getElem?_range hj2, Option.map_some, Option.getD_some]
    unfold fv
    rw [ez, show sN S n n j = 0 from congrFun str_s j]
    rfl
  · have h1 := kk (va_up ad n q) AG_up (CL_new hCL) H1 locs lsA
    rw [show va_up ad n q n = q from up_at] at h1
    refine h1 (P_new hn AG_up up_at ?_ (fun k i hk hi => vA_keep hCL hk hi) hP1) (D_new AG_up up_at hD1) hS1 hl
    rw [ce_obj rfl h8]
    congr 2
    refine List.map_congr_left (fun j _ => ?_)
    unfold fv
    rw [ez]
    rfl
set_option maxHeartbeats 1000000 in
theorem g_newarr (K : CX p s m args meth c b D cA cc own nL ret) {t N : Nat} {x : Int32} {atype : ArrayType} {ty : FieldType} (harr : Cond.arrayClass (newarray.typeOf atype) ∈ BIG) (hty : newarray.typeOf atype = ty) (ht : (tysA cA)[t]? = some (cA (8 + t), ty)) (ht3 : t < 3) (hdv : defaultValue ty = .int 0) (hby : N * componentBytes ty ≤ 536870912) (d : decode cc pc = .ok (.newarray atype, 2)) (hx : x = nI N) (hk : kd n = 8 + t) (hln : ln n = N) (hn : n < NN) (hCL : CL n Z S) {n2 : Nat} (hn2 : n + 1 = n2) (hc : cells + 1 ≤ R.cells) (hs : slots + N ≤ R.slots)
    (kk : ∀ ad2, AG n ad ad2 → CL n2 (zN Z n) (sN S n) → G p l e R s m args below meth c Q b D cA nL n2 ad2 (zN Z n) (cells + 1) (slots + N) (pc + 2) ls (.ref (ad2 n) :: st) (sN S n)) : G p l e R s m args below meth c Q b D cA nL n ad Z cells slots pc ls (.int x :: st) S := by
  subst hn2
  intro H locs lsA hP hD hS hl
  have hN : N < 2 ^ 31 := by rw [← hln]; exact ln_big n
  refine va_newa (a0 := (N, .inl (fun _ => 0))) K.1 K.2.1 (K.2.2.2.2.1 _ harr) hty K.2.2.2.2.2.1 hP hD hS (fun q h => Nat.le_trans K.2.2.2.2.2.2.1 h) (fun cB => by rw [hdv]; rfl) (by rw [hx]; exact nI_pos hN) (by rw [hx]; exact nI_clamp hN) hby hc hs d (fun q cB H1 hK1 hP1 hD1 hS1 => ?_)
  have e5 : (tysA cA ++ [(cB, ty)])[5]? = some (cB, ty) := rfl
  have ecB : cB = cA (8 + t) := ra_inj (hK1.2 5 _ e5).2 (K.2.2.2.2.2.1.2 t _ ht).2
  have h1 := kk (va_up ad n q) AG_up (CL_new hCL) H1 locs lsA
  rw [show va_up ad n q n = q from up_at] at h1
  refine h1 (P_new hn AG_up up_at ?_ (fun k i hk hi => vA_keep hCL hk hi) hP1) (D_new AG_up up_at hD1) hS1 hl
  rw [ce_num hk (by omega) (by omega), ecB, hln, show sN S n n = fun _ => 0 from str_s]
set_option maxHeartbeats 1000000 in
theorem g_newrow (K : CX p s m args meth c b D cA cc own nL ret) {t N index : Nat} {x : Int32} {C : String} (hcl : Cond.classLink own index C ∈ BIG) (hov : va_AO C s) (ht : (tysA cA)[t]? = some (cA (8 + t), .object C)) (ht3 : 3 ≤ t) (hby : N * 4 ≤ 536870912) (d : decode cc pc = .ok (.anewarray index, 3)) (hx : x = nI N) (hk : kd n = 8 + t) (hln : ln n = N) (hn : n < NN) (hCL : CL n Z S) {n2 : Nat} (hn2 : n + 1 = n2) (hc : cells + 1 ≤ R.cells) (hs : slots + N ≤ R.slots)
    (kk : ∀ ad2, AG n ad ad2 → CL n2 (zN Z n) (sN S n) → G p l e R s m args below meth c Q b D cA nL n2 ad2 (zN Z n) (cells + 1) (slots + N) (pc + 3) ls (.ref (ad2 n) :: st) (sN S n)) : G p l e R s m args below meth c Q b D cA nL n ad Z cells slots pc ls (.int x :: st) S := by
  subst hn2
  intro H locs lsA hP hD hS hl
  have hN : N < 2 ^ 31 := by rw [← hln]; exact ln_big n
  have ez : ∀ j, zN Z n n j = false := fun j => if_pos rfl
  refine va_newq K.1 K.2.1 K.2.2.2.1 (K.2.2.2.2.1 _ hcl) hov K.2.2.2.2.2.1 hP hD hS (fun q h => Nat.le_trans K.2.2.2.2.2.2.1 h) (by rw [hx]; exact nI_pos hN) (N' := N) (by rw [hx]; exact nI_clamp hN) hby hc hs d (fun q cB H1 hK1 hP1 hD1 hS1 => ?_)
  have e5 : (tysA cA ++ [(cB, .object C)])[5]? = some (cB, .object C) := rfl
  have ecB : cB = cA (8 + t) := ra_inj (hK1.2 5 _ e5).2 (K.2.2.2.2.2.1.2 t _ ht).2
  have h1 := kk (va_up ad n q) AG_up (CL_new hCL) H1 locs lsA
  rw [show va_up ad n q n = q from up_at] at h1
  refine h1 (P_new hn AG_up up_at ?_ (fun k i hk hi => vA_keep hCL hk hi) hP1) (D_new AG_up up_at hD1) hS1 hl
  rw [ce_ref hk (by omega), ecB, hln]
  congr 7
  funext j
  rw [ez]
  rfl
set_option maxHeartbeats 1000000 in
theorem g_putf (K : CX p s m args meth c b D cA cc own nL ret) {k ci i t index : Nat} {ty : FieldType} (hL : LF own index ci i ty) (hin2 : meth.name = "<init>") (d : decode cc pc = .ok (.putfield index, 3)) (hR : isR ci i = true) (hk : kd k = ci) (hn : k < n) (hnN : n ≤ NN) (ht : rs k i = t) (kk : G p l e R s m args below meth c Q b D cA nL n ad (zS Z k i) cells slots (pc + 3) ls st S) : G p l e R s m args below meth c Q b D cA nL n ad Z cells slots pc ls (.ref (ad t) :: .ref (ad k) :: st) S := by
  intro H locs lsA hP hD hS hl
  obtain ⟨⟨C, T, N⟩, hr, hi, hlk, hfin, hown2, hty, hnf⟩ := hL
  have h8 : ci < 8 := (vw_lt hr)
  obtain ⟨hin, ⟨ty0, hty0⟩, hnm⟩ := bigX ci _ hr
  subst hk
  have hln : ln k = N := ln_obj k (Nat.lt_of_lt_of_le hn hnN) _ hr
  have hset : (wl cA n ad Z S).set k (ad k, .inr (kd k, ((List.range (ln k)).map (fv ad Z S k)).set i (.ref (ad t)))) = wl cA n ad (zS Z k i) S := by
    refine wl_set hn ?_ (fun j _ hj => ce_congrZ (zS_o hj) rfl)
    rw [ce_obj rfl h8, fv_map_set (Z' := zS Z k i) (S' := S)]
    · unfold fv rf
      rw [if_pos hR, if_pos (show zS Z k i k i = true from if_pos ⟨rfl, rfl⟩), if_neg (by omega), ht]
    · intro j hj
      unfold fv
      rw [show zS Z k i k j = Z k j from if_neg (fun q => hj q.2)]
  have hlen : i < ((List.range (ln k)).map (fv ad Z S k)).length := by simp [hln, hi]
  refine va_putF (ref := (T i).1) K.1 K.2.1 K.2.2.2.2.1 hin ty0 hty0 hnm K.2.2.2.1 K.2.2.2.2.2.1 hP hD hS k (by rw [wl_get hn, ce_obj rfl h8]) hr i hi (K.2.2.2.2.1 _ hlk) (fun _ h => h) hfin hin2 hown2 hty (hnf _).1 (hnf _).2 hlen d (fun H1 locs1 h1 h2 h3 => ?_)
  rw [hset] at h1 h2
  exact kk H1 locs1 lsA h1 h2 h3 hl
set_option maxHeartbeats 1000000 in
/-- a new object is put into a row -/
theorem g_aastN (K : CX p s m args meth c b D cA cc own nL ret) {k ki j t ct t0 : Nat} {r : vw_C} {i : Int32} {S2 : ST} (d : decode cc pc = .ok (.aastore, 1)) (hj : i = nI j) {L : Nat} (hL : ln k = L) (hlt : j < L) (hk : kd k = ki) (h11 : 11 ≤ ki) (hty : (tysA cA)[t0]? = some (cA ki, .object r.1)) (hr : vwCl[ct]? = some r) (hn : k < n) (ht : kd t = ct) (htn : t < n) (h1 : rf S2 k j = t) (h2 : ∀ a, a ≠ j → rf S2 k a = rf S k a) (h3 : ∀ a, a ≠ k → S2 a = S a) (kk : G p l e R s m args below meth c Q b D cA nL n ad (zS Z k j) cells slots (pc + 1) ls st S2) : G p l e R s m args below meth c Q b D cA nL n ad Z cells slots pc ls (.ref (ad t) :: .int i :: .ref (ad k) :: st) S := by
  intro H locs lsA hP hD hS hl
  obtain ⟨q1, q2⟩ := vin hj (hL ▸ hlt : j < ln k) (ln_big k)
  have h8 : kd t < 8 := by rw [ht]; exact (vw_lt hr)
  have hset : (wl cA n ad Z S).set k (ad k, .inl (cA ki, ln k, .inr (.inr (.inr (.inr (va_up (fun i => if Z k i = true then some (ad (rf S k i)) else none) i.toNatClampNeg (some (ad t)))))))) = wl cA n ad (zS Z k j) S2 := by
    refine wl_set hn ?_ (fun a _ ha => ce_congrZ (zS_o ha) (h3 a ha))
    rw [ce_ref hk h11, q2]
    congr 7
    funext a
    show (if a = j then some (ad t) else if Z k a = true then some (ad (rf S k a)) else none) = if zS Z k j k a = true then some (ad (rf S2 k a)) else none
    by_cases e : a = j
    · subst e
      rw [if_pos rfl, if_pos (show zS Z k a k a = true from if_pos ⟨rfl, rfl⟩), h1]
    · rw [if_neg e, show zS Z k j k a = Z k a from if_neg (fun q => e q.2), h2 a e]
  exact va_astq (r := r) K.1 K.2.1 K.2.2.2.2.2.1 hP hD hS k t0 t (kd t) (by rw [wl_get hn, ce_ref hk h11]) hty (by rw [wl_get htn, ce_obj rfl h8]) (by rw [ht]; exact hr) q1 d (fun H1 locs1 a1 a2 a3 => kk H1 locs1 lsA (by rw [← hset]; exact a1) (by rw [← hset]; exact a2) a3 hl)
theorem g_getsF (K : CX p s m args meth c b D cA cc own nL ret) {index : Nat} (d : decode cc pc = .ok (.getstatic index, 3)) (hlk : Cond.fieldLinkNest own index "RollScales" "FIRST_SETTING" "[I" "RollScales" ∈ NST) (kk : ∀ t2 : Nat, va_X t2 6 firstS s s.heap → t2 < b → t2 < s.heap.size → G p l e R s m args below meth c Q b D cA nL n ad Z cells slots (pc + 3) ls (.ref t2 :: st) S) : G p l e R s m args below meth c Q b D cA nL n ad Z cells slots pc ls st S := by
  intro H locs lsA hP hD hS hl
  obtain ⟨t0, t1, t2, z0, z1, z2, x0, x1, x2, x3, x4⟩ := K.2.2.2.2.2.2.2.2.2.1
  exact va_getsN K.1 K.2.1 z2 hS K.2.2.2.1 (va_Nw.use rfl (K.2.2.2.2.2.2.2.2.2.2 _ hlk)) (fun _ h => h) d (kk t2 x2 x3 x4 H locs lsA hP hD hS hl)
set_option maxHeartbeats 1000000 in
theorem g_copyF (K : CX p s m args meth c b D cA cc own nL ret) {k2 t2 index : Nat} (hX : va_X t2 6 firstS s s.heap) (hb2 : t2 < b) (hs2 : t2 < s.heap.size) (d : decode cc pc = .ok (.invokestatic index, 3)) (hm : Cond.methodLink own index arraycopyName ∈ BIG) (hk2 : kd k2 = 8) (h2 : ln k2 = 6) (hn2 : k2 < n) (hnN : n ≤ NN) (hw : 1 ≤ R.frames ∧ (st.map fun v => v.category).sum + (nativeFrameWords "java/lang/System" "arraycopy" 5 + 11) ≤ R.locals)
    (kk : G p l e R s m args below meth c Q b D cA nL n ad Z cells slots (pc + 3) ls st (str S k2 firstS)) : G p l e R s m args below meth c Q b D cA nL n ad Z cells slots pc ls (.int 6 :: .int 0 :: .ref (ad k2) :: .int 0 :: .ref t2 :: st) S := by
  intro H locs lsA hP hD hS hl
  have e0 : (0 : Int32).toNatClampNeg = 0 := by decide
  have eN : (6 : Int32).toNatClampNeg = 6 := by decide
  have hset : (wl cA n ad Z S).set k2 (ad k2, .inl (cA 8, ln k2, .inl (va_cpy firstS (S k2) (0 : Int32).toNatClampNeg (0 : Int32).toNatClampNeg (6 : Int32).toNatClampNeg))) = wl cA n ad Z (str S k2 (va_cpy firstS (S k2) 0 0 6)) := by
    refine wl_set hn2 ?_ (fun a _ ha => ce_congr (str_n ha))
    rw [ce_num hk2 (by decide) (by decide), str_s, e0, eN]
  refine va_copyx K.1 K.2.1 (K.2.2.1.trans hl.1.symm) K.2.2.2.1 (K.2.2.2.2.1 _ hm) (K.2.2.2.2.1 _ wm_ac_n) (K.2.2.2.2.1 _ wm_ac_s) (K.2.2.2.2.1 _ wm_ac_i) K.2.2.2.2.2.1 hP hD hS hX hs2 (Nat.not_le.mpr hb2) k2 0 (by rw [wl_get hn2, ce_num hk2 (by decide) (by decide)]) rfl (by decide) (by decide) (by decide) (by rw [e0, eN]; decide) (by rw [e0, eN, h2]; decide) hw.1 hw.2 d (fun H1 locs1 a1 a2 a3 => ?_)
  rw [hset] at a1 a2
  refine kk H1 locs1 lsA (P_same hnN (fun a i ha hr => ?_) a1 ln_obj) (D_same a2) a3 hl
  unfold str
  by_cases e : a = k2
  · subst e
    rw [if_pos rfl, if_pos rfl]
    have hi : i < 6 := by rw [← h2]; exact hr.1
    unfold va_cpy
    rw [if_pos ⟨Nat.zero_le _, by omega⟩]
    congr 1
    omega
  · rw [if_neg e, if_neg e]
set_option maxHeartbeats 1000000 in
/-- a constructor is called -/
theorem g_init {y : MethodName} {code : ByteArray} {maxL d2 cn2 sl2 index a n1 : Nat} {P : (Nat → Nat) → (Nat → Nat → Bool) → ST → Prop} {rest : List Value} (K : CX p s m args meth c b D cA cc own nL ret) (hM : MN l b D cA y code maxL d2 cn2 sl2 [.ref a] n n1 ad Z S P) (hw : Cond.code y code maxL none ∈ BIG ∧ Cond.instanceMethod y ∈ BIG ∧ Cond.initialized y.cls ∈ BIG) (hl1 : ML own index y) (hy1 : y.name = "<init>") (hy2 : y.cls ≠ "java/lang/invoke/MethodHandle" ∧ y.cls ≠ "java/lang/invoke/VarHandle" ∧ (parseMethodDescriptor y.desc).map (fun d => d.parameters.length) = some 0) (d : decode cc pc = .ok (.invokespecial index, 3)) (hrest : (rest.map fun v => v.category).sum ≤ 8) (hR : d2 + 1 ≤ R.frames ∧ 8 + (maxL + 11) + 32 * d2 ≤ R.locals) (hc : cells + cn2 ≤ R.cells ∧ slots + sl2 ≤ R.slots)
    (hAO : AOS s) (kk : ∀ ad2 Z2 S2, P ad2 Z2 S2 → G p l e R s m args below meth c Q b D cA nL n1 ad2 Z2 (cells + cn2) (slots + sl2) (pc + 3) ls rest S2) : G p l e R s m args below meth c Q b D cA nL n ad Z cells slots pc ls (.ref a :: rest) S := by
  intro H locs lsA hP hD hS hl
  have hts := K.2.2.2.2.1
  have hpre : PreS s H (va_Pc [.ref a] (fun U => PRE b D cA n ad Z S U ∧ AOS U)) [.ref a] := ⟨PRE.blindA, fun U hU hW => ⟨rfl, PRE.of K hU hW hP hD hS, hAO.moved hW.alike⟩⟩
  have hrun : va_Run p l e R s m args below meth c H locs cells slots cn2 sl2 (F0 m pc lsA (.ref a :: rest)) rest (QN b D cA n1 P (Value.ref a :: []).toArray) (aF b) := by
    rcases hl1 with h1 | ⟨host, h1⟩
    · exact va_runI (As := []) (rest := rest) ⟨K.1, K.2.1, K.2.2.1, K.2.2.2.1, hts⟩ hM (cwI 0 hts (big_self hw.1) rfl rfl rfl (hts _ hw.2.2) (hts _ h1) (hts _ hw.2.1) hy1 hy2 ⟨hR.1, hR.2⟩) hpre rfl rfl hl.1 rfl (lv_room hrest) d ⟨hc.1, hc.2⟩
    · exact va_runIN (As := []) (rest := rest) ⟨K.1, K.2.1, K.2.2.1, K.2.2.2.1, hts⟩ hM (host := host) ⟨va_cnB 0 hts (big_self hw.1) rfl rfl rfl (K.2.2.2.2.2.2.2.2.2.2 _ h1) (hts _ hw.2.2) hy2 ⟨hR.1, hR.2⟩, hy1, hts _ hw.2.1⟩ hpre rfl rfl hl.1 rfl (lv_room hrest) d ⟨hc.1, hc.2⟩
  intro T hT X
  obtain ⟨v, st₀, t, T', L, h0, X', hL, e1, e2, ⟨ad2, Z2, S2, hv, hq, hpo, hz, hkeep⟩, stp⟩ := hrun T hT X
  cases hv
  rw [h0] at hz hkeep
  obtain ⟨q0, q1, q2, -, -⟩ := hpo
  obtain ⟨t2, a1, b1⟩ := kk ad2 Z2 S2 hq T'.heap (locs ++ L) lsA (by rw [e1]; exact q1) q2
    ⟨Nat.le_trans hS.1 (by rw [e1]; exact hz), fun q h1 h2 => by rw [e1, hkeep q (Nat.lt_of_lt_of_le h1 hS.1) h2]; exact hS.2.1 q h1 h2, fun q hq => by
      rcases List.mem_append.mp hq with h | h
      · exact hS.2.2 q h
      · exact hL q h⟩ hl T' rfl X'
  exact ⟨t2, stp t2 a1, b1⟩
theorem g_vretN {cn sl n1 : Nat} {P : (Nat → Nat) → (Nat → Nat → Bool) → ST → Prop} (K : CX p s m args meth c b D cA cc own nL none) (d : decode cc pc = .ok (.return_, 1)) (hn : n = n1) (hc : cells ≤ cn ∧ slots ≤ sl) (h : P ad Z S) : G p l e R s m args below meth c (MQ below (QN b D cA n1 P) args s cn sl (aF b)) b D cA nL n ad Z cells slots pc ls [] S := by
  intro H locs lsA hP hD hS hl
  subst hn
  exact W.widen hc.1 hc.2 (W.vret K.1 K.2.1 K.2.2.2.2.2.2.2.1 (fun t ht hW => ⟨ad, Z, S, rfl, h, PRE.of K ht hW hP hD hS, hS.F ht⟩) hS.2.2 d K.2.2.2.2.2.2.2.2.1)
end
/-! what holds while a constructor goes on: td the references that are still to be set, sd the rows of ints that are still to be filled -/
def RD (td : Nat → Nat → Prop) (t n : Nat) (Z : Nat → Nat → Bool) : Prop := ∀ k j, t ≤ k → k < n → j < ln k → rp k j = true → ¬ td k j → Z k j = true
def SI (iv : ST) (sd : Nat → Prop) (t n : Nat) (S : ST) : Prop := ∀ k i, t ≤ k → k < n → i < ln k → ¬ sd k → S k i = iv k i
def IV (iv : ST) (td : Nat → Nat → Prop) (sd : Nat → Prop) (n0 t n : Nat) (ad0 : Nat → Nat) (Z0 : Nat → Nat → Bool) (S0 : ST) (ad : Nat → Nat) (Z : Nat → Nat → Bool) (S : ST) : Prop :=
  AG n0 ad0 ad ∧ n0 ≤ n ∧ CL n Z S ∧ RD td t n Z ∧ SI iv sd t n S ∧ ∀ k, k < t → (∀ j, Z k j = Z0 k j) ∧ S k = S0 k
def PN (iv : ST) (t n1 : Nat) (ad0 : Nat → Nat) (Z0 : Nat → Nat → Bool) (S0 : ST) : (Nat → Nat) → (Nat → Nat → Bool) → ST → Prop := fun ad Z S => IV iv (fun _ _ => False) (fun _ => False) (t + 1) t n1 ad0 Z0 S0 ad Z S
theorem IV_start {iv : ST} {td : Nat → Nat → Prop} {sd : Nat → Prop} {t : Nat} {ad : Nat → Nat} {Z : Nat → Nat → Bool} {S : ST} (hCL : CL (t + 1) Z S) (h : ∀ i, i < ln t → S t i = iv t i) (htd : ∀ j, td t j) : IV iv td sd (t + 1) t (t + 1) ad Z S ad Z S :=
  ⟨fun _ _ => rfl, Nat.le_refl _, hCL, fun k j h1 h2 _ _ h5 => absurd (show td k j by
    have e : k = t := by omega
    rw [e]
    exact htd j) h5, fun k i h1 h2 h3 _ => by
    have e : k = t := by omega
    subst e
    exact h i h3, fun _ _ => ⟨fun _ => rfl, rfl⟩⟩
theorem IV_arr {iv : ST} {td td2 : Nat → Nat → Prop} {sd : Nat → Prop} {n0 t n : Nat} {ad0 ad ad2 : Nat → Nat} {Z0 Z : Nat → Nat → Bool} {S0 S : ST} {n2 : Nat} (h : IV iv td sd n0 t n ad0 Z0 S0 ad Z S) (hn2 : n + 1 = n2) (ht : t < n) (hAG : AG n ad ad2) (h1 : ∀ a j, td a j → td2 a j) (h2 : ∀ j, j < ln n → rp n j = true → td2 n j) (h3 : sd n ∨ ∀ i, i < ln n → iv n i = 0) : IV iv td2 sd n0 t n2 ad0 Z0 S0 ad2 (zN Z n) (sN S n) := by
  subst hn2
  obtain ⟨g1, g2, g3, g4, g5, g6⟩ := h
  refine ⟨fun k hk => (hAG k (by omega)).trans (g1 k hk), by omega, CL_new g3, fun k j a1 a2 a3 a4 a5 => ?_, fun k i a1 a2 a3 a4 => ?_, fun k hk => ⟨fun j => ?_, ?_⟩⟩
  · by_cases e : k = n
    · subst e
      exact absurd (h2 j a3 a4) a5
    · rw [show zN Z n k j = Z k j from if_neg e]
      exact g4 k j a1 (by omega) a3 a4 (fun q => a5 (h1 k j q))
  · by_cases e : k = n
    · subst e
      rw [show sN S k k i = 0 from congrFun str_s i]
      rcases h3 with q | q
      · exact absurd q a4
      · exact (q i a3).symm
    · rw [show sN S n k = S k from str_n e]
      exact g5 k i a1 (by omega) a3 a4
  · rw [show zN Z n k j = Z k j from if_neg (by omega)]
    exact (g6 k hk).1 j
  · rw [show sN S n k = S k from str_n (by omega)]
    exact (g6 k hk).2
theorem IV_put {iv : ST} {td td2 : Nat → Nat → Prop} {sd : Nat → Prop} {n0 t n k j : Nat} {ad0 ad : Nat → Nat} {Z0 Z : Nat → Nat → Bool} {S0 S : ST} (h : IV iv td sd n0 t n ad0 Z0 S0 ad Z S) (hk : t ≤ k) (hr : rf S k j < n) (h1 : ∀ a i, i < ln a → rp a i = true → td a i → td2 a i ∨ (a = k ∧ i = j)) : IV iv td2 sd n0 t n ad0 Z0 S0 ad (zS Z k j) S := by
  obtain ⟨g1, g2, g3, g4, g5, g6⟩ := h
  refine ⟨g1, g2, CL_set g3 hr (fun _ _ _ => rfl), fun a i a1 a2 a3 a4 a5 => ?_, g5, fun a ha => ⟨fun i => ?_, (g6 a ha).2⟩⟩
  · by_cases e : a = k ∧ i = j
    · exact if_pos e
    · rw [show zS Z k j a i = Z a i from if_neg e]
      exact g4 a i a1 a2 a3 a4 (fun q => (h1 a i a3 a4 q).elim a5 e)
  · rw [show zS Z k j a i = Z a i from if_neg (by omega)]
    exact (g6 a ha).1 i
/-- a place of a row of states is set -/
theorem IV_put2 {iv : ST} {td td2 : Nat → Nat → Prop} {sd : Nat → Prop} {n0 t n k j x : Nat} {ad0 ad : Nat → Nat} {Z0 Z : Nat → Nat → Bool} {S0 S : ST} (h : IV iv td sd n0 t n ad0 Z0 S0 ad Z S) (hk : t ≤ k) (hsd : sd k) (hk12 : kd k = 12) (hx : x < n) (hxb : x < 2 ^ 31) (h1 : ∀ a i, i < ln a → rp a i = true → td a i → td2 a i ∨ (a = k ∧ i = j)) : IV iv td2 sd n0 t n ad0 Z0 S0 ad (zS Z k j) (stw S k j (nI x)) := by
  obtain ⟨g1, g2, g3, g4, g5, g6⟩ := h
  have e1 : ∀ (S2 : ST) (i : Nat), rf S2 k i = (S2 k i).toNatClampNeg := fun S2 i => if_pos hk12
  refine ⟨g1, g2, CL_set g3 ?_ (fun a i q => ?_), fun a i a1 a2 a3 a4 a5 => ?_, fun a i a1 a2 a3 a4 => ?_, fun a ha => ⟨fun i => ?_, ?_⟩⟩
  · rw [e1, stw_app, if_pos ⟨rfl, rfl⟩, nI_clamp hxb]
    exact hx
  · by_cases e : a = k
    · subst e
      rw [e1, e1, stw_app, if_neg (fun z => q z)]
    · exact rf_congr (stw_n e) i
  · by_cases e : a = k ∧ i = j
    · exact if_pos e
    · rw [show zS Z k j a i = Z a i from if_neg e]
      exact g4 a i a1 a2 a3 a4 (fun q => (h1 a i a3 a4 q).elim a5 e)
  · rw [stw_n (fun q => a4 (by rw [q]; exact hsd))]
    exact g5 a i a1 a2 a3 a4
  · rw [show zS Z k j a i = Z a i from if_neg (by omega)]
    exact (g6 a ha).1 i
  · rw [stw_n (by omega)]
    exact (g6 a ha).2
/-- a row of ints is written -/
theorem IV_row {iv : ST} {td : Nat → Nat → Prop} {sd sd2 : Nat → Prop} {n0 t n k : Nat} {ad0 ad : Nat → Nat} {Z0 Z : Nat → Nat → Bool} {S0 S S2 : ST} (h : IV iv td sd n0 t n ad0 Z0 S0 ad Z S) (hk : t ≤ k) (hk12 : ¬ kd k = 12) (hS : ∀ a, a ≠ k → S2 a = S a) (h1 : ∀ a, sd a → sd2 a ∨ a = k) (h2 : sd2 k ∨ ∀ i, i < ln k → S2 k i = iv k i) : IV iv td sd2 n0 t n ad0 Z0 S0 ad Z S2 := by
  obtain ⟨g1, g2, g3, g4, g5, g6⟩ := h
  have e1 : ∀ (a i : Nat), rf S2 a i = rf S a i := fun a i => by
    by_cases e : a = k
    · subst e
      unfold rf
      rw [if_neg hk12, if_neg hk12]
    · exact rf_congr (hS a e) i
  refine ⟨g1, g2, fun a i a1 a2 a3 a4 => by rw [e1]; exact g3 a i a1 a2 a3 a4, g4, fun a i a1 a2 a3 a4 => ?_, fun a ha => ⟨(g6 a ha).1, by rw [hS a (by omega)]; exact (g6 a ha).2⟩⟩
  by_cases e : a = k
  · subst e
    rcases h2 with q | q
    · exact absurd q a4
    · exact q i a3
  · rw [hS a e]
    exact g5 a i a1 a2 a3 (fun q => (h1 a q).elim a4 e)
/-- an object was made by its constructor -/
theorem IV_call {iv ivc : ST} {td : Nat → Nat → Prop} {sd : Nat → Prop} {n0 t u n1 : Nat} {ad0 ad ad1 ad2 : Nat → Nat} {Z0 Z Z2 : Nat → Nat → Bool} {S0 S S2 : ST} (h : IV iv td sd n0 t u ad0 Z0 S0 ad Z S) (ht : t < u) (hAG : AG u ad ad1) (hc : PN ivc u n1 ad1 (zN Z u) (sN S u) ad2 Z2 S2) (hiv : ∀ k i, u ≤ k → k < n1 → i < ln k → ¬ sd k → ivc k i = iv k i) : IV iv td sd n0 t n1 ad0 Z0 S0 ad2 Z2 S2 := by
  obtain ⟨g1, g2, g3, g4, g5, g6⟩ := h
  obtain ⟨c1, c2, c3, c4, c5, c6⟩ := hc
  refine ⟨fun k hk => (c1 k (by omega)).trans ((hAG k (by omega)).trans (g1 k hk)), by omega, c3, fun k j a1 a2 a3 a4 a5 => ?_, fun k i a1 a2 a3 a4 => ?_, fun k hk => ⟨fun j => ?_, ?_⟩⟩
  · by_cases e : k < u
    · rw [(c6 k e).1 j, show zN Z u k j = Z k j from if_neg (by omega)]
      exact g4 k j a1 e a3 a4 a5
    · exact c4 k j (by omega) a2 a3 a4 (fun q => q)
  · by_cases e : k < u
    · rw [(c6 k e).2, show sN S u k = S k from str_n (by omega)]
      exact g5 k i a1 e a3 a4
    · rw [c5 k i (by omega) a2 a3 (fun q => q)]
      exact hiv k i (by omega) a2 a3 a4
  · rw [(c6 k (by omega)).1 j, show zN Z u k j = Z k j from if_neg (by omega)]
    exact (g6 k hk).1 j
  · rw [(c6 k (by omega)).2, show sN S u k = S k from str_n (by omega)]
    exact (g6 k hk).2
theorem rp_obj {k ci j : Nat} (h : kd k = ci) (hc : ci < 8) : rp k j = isR ci j := by
  unfold rp
  rw [if_pos (by omega), h]
theorem rp_no {n j : Nat} {P : Prop} (h8 : 8 ≤ kd n) (h11 : kd n < 11) (hr : rp n j = true) : P := by
  unfold rp at hr
  rw [if_neg (by omega)] at hr
  have := of_decide_eq_true hr
  omega
theorem rf_obj {S : ST} {k j : Nat} (h : kd k < 12) : rf S k j = rs k j := if_neg (by omega)
theorem IV.fin {iv : ST} {td : Nat → Nat → Prop} {sd : Nat → Prop} {t n : Nat} {ad0 ad : Nat → Nat} {Z0 Z : Nat → Nat → Bool} {S0 S : ST} (h : IV iv td sd (t + 1) t n ad0 Z0 S0 ad Z S) (h1 : ∀ a j, j < ln a → rp a j = true → ¬ td a j) (h2 : ∀ a, ¬ sd a) : PN iv t n ad0 Z0 S0 ad Z S :=
  ⟨h.1, h.2.1, h.2.2.1, fun k j a1 a2 a3 a4 _ => h.2.2.2.1 k j a1 a2 a3 a4 (h1 k j a3 a4), fun k i a1 a2 a3 _ => h.2.2.2.2.1 k i a1 a2 a3 (h2 k), h.2.2.2.2.2⟩
