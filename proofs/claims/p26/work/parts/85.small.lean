set_option maxHeartbeats 4000000 in
set_option maxRecDepth 100000 in
theorem c_L_size {l : Launch} {b : Nat} {D : va_G} {cA : Nat → ClassId} {ad : Nat → Nat} {S : ST} {x : UInt32}  : MT l b D cA NN ad zT yL_size cL_size 1 (some .float) 0 [.float x] S (RF (fun r S2 => (r = x ∨ r = FP.fneg x) ∧ S2 = S)) := by
  refine MT.intro (j := 0) (ls := [some (.float x)]) pn_L rfl rfl rfl (fun pr en s0 mi below meth c' K _ => ?_)
  refine g_fload_n K dL_size_0 rfl ?_
  refine g_fconst0 K dL_size_1 ?_
  refine g_fcmp K dL_size_2 ?_
  refine g_if_ge (tgt := 11) K dL_size_3 (by decide) (fun u3 => ?_) (fun u3 => ?_)
  · refine g_fload_n K dL_size_11 rfl ?_
    refine g_fret K dL_size_12 ⟨_, rfl, ?_⟩
    first
      | exact ⟨Or.inl rfl, rfl⟩
      | exact ⟨Or.inr rfl, rfl⟩
  · refine g_fload_n K dL_size_6 rfl ?_
    refine g_fneg K dL_size_7 ?_
    refine g_goto (tgt := 12) K dL_size_8 (by decide) ?_
    refine g_fret K dL_size_12 ⟨_, rfl, ?_⟩
    first
      | exact ⟨Or.inl rfl, rfl⟩
      | exact ⟨Or.inr rfl, rfl⟩
/-- contracts that know more of the state -/
theorem MT.introX {l : Launch} {b : Nat} {D : va_G} {cA : Nat → ClassId} {n : Nat} {ad : Nat → Nat} {Z : Nat → Nat → Bool} {y : MethodName} {code : ByteArray} {maxL : Nat} {ret : Option FieldType} {d : Nat} {av : List Value} {S : ST} {Qf : Option Value → ST → Prop} {X : State → Prop} {ls : List (Option Value)} {j : Nat}
    (hy : plainName y.cls = true) (hc0 : av.all (fun v => v.category == 1) = true) (hl : av.length + j = maxL) (hls : av.map some ++ List.replicate j none = ls)
    (h : ∀ (p : Program) (e : Env) (s : State) (m : MethodId) (below : List Frame) (meth : Method) (c : Code), CX p s m av.toArray meth c b D cA code y.cls maxL ret → X s → G p l e (rmd d) s m av.toArray below meth c (MQ below (QQ b D cA n ad Z Qf) av.toArray s 0 0 (aF b)) b D cA maxL n ad Z 0 0 0 ls [] S) : Met l y (.code y code maxL ret :: BIG) (rmd d) (va_Pc av (fun U => PRE b D cA n ad Z S U ∧ X U)) (QQ b D cA n ad Z Qf) 0 0 (aF b) := by
  have hc : ∀ x ∈ av, x.category = 1 := fun x hx => by simpa using List.all_eq_true.mp hc0 x hx
  refine Met.ofW (cc := code) (maxL := maxL) (ret := ret) hy rfl ?_
  intro p e s m args below meth c s₁ B hml hv
  obtain ⟨rfl, ⟨hb0, hP, hD, hK, hT, hNW⟩, hXs⟩ := hv
  have hts := atoms_spec (ws := .code y code maxL ret :: BIG) B.pre
  have hown : s.vm.findClass y.cls = some m.cls := findClass_of_methodNamed B.named
  rw [lg_entry_eq]
  have hsl : (lg_sl av).length = av.length := by
    clear hc0 hls hts h hP hD hK hT hNW hml hl B
    induction av with
    | nil => rfl
    | cons a t ih =>
      have ha : a.category = 1 := hc a List.mem_cons_self
      have := ih (fun x hx => hc x (List.mem_cons_of_mem _ hx))
      unfold lg_sl at this ⊢
      rw [List.flatMap_cons, List.length_append, this, if_neg (by rw [ha]; decide)]
      simp
      omega
  have hl0 := lv_entry av (n := maxL) (by rw [hsl]; omega)
  subst hls
  exact h p e s m below meth c ⟨B.exec, B.bytes, hml, hown, fun w hw => hts w (List.mem_cons_of_mem _ hw), hK, hb0, B.returns, B.notSynchronized, hT, hNW⟩ hXs s.heap [] _ hP hD va_S.rf (LC.entry hc hl hl0)
/-- the script lies there -/
def XS (sb L : Nat) (xs : Nat → Int32) (U : State) : Prop := va_X sb L xs U U.heap ∧ sb < U.heap.size
section
variable {p : Program} {l : Launch} {e : Env} {R : Room} {s : State} {m : MethodId} {args : Array Value} {below : List Frame} {meth : Method} {c : Code} {Q : State → Prop} {b : Nat} {D : va_G} {cA : Nat → ClassId} {nL n : Nat} {ad : Nat → Nat} {Z : Nat → Nat → Bool} {cells slots : Nat} {pc : Nat} {ls : List (Option Value)} {st : List Value} {S : ST} {cc : ByteArray} {own : String} {ret : Option FieldType}
theorem g_sld (K : CX p s m args meth c b D cA cc own nL ret) {sb L j : Nat} {xs : Nat → Int32} {i : Int32} (hX : va_X sb L xs s s.heap) (hbl : sb < s.heap.size) (hbb : sb < b) (d : decode cc pc = .ok (.iaload, 1)) (hj : i = nI j) (hlt : j < L) (hL : L < 2 ^ 31) (kk : G p l e R s m args below meth c Q b D cA nL n ad Z cells slots (pc + 1) ls (.int (xs j) :: st) S) : G p l e R s m args below meth c Q b D cA nL n ad Z cells slots pc ls (.int i :: .ref sb :: st) S := by
  intro H locs lsA hP hD hS hl
  obtain ⟨h1, h2⟩ := vin hj hlt hL
  exact va_sld K.1 K.2.1 hX hbl (Nat.not_le.mpr hbb) hS h1 d (by rw [h2]; exact kk H locs lsA hP hD hS hl)
theorem g_slen (K : CX p s m args meth c b D cA cc own nL ret) {sb L : Nat} {xs : Nat → Int32} (hX : va_X sb L xs s s.heap) (hbl : sb < s.heap.size) (hbb : sb < b) (d : decode cc pc = .ok (.arraylength, 1)) (kk : G p l e R s m args below meth c Q b D cA nL n ad Z cells slots (pc + 1) ls (.int (nI L) :: st) S) : G p l e R s m args below meth c Q b D cA nL n ad Z cells slots pc ls (.ref sb :: st) S := by
  intro H locs lsA hP hD hS hl
  exact va_slen K.1 K.2.1 hX hbl (Nat.not_le.mpr hbb) hS d (kk H locs lsA hP hD hS hl)
/-- the law's number of a place of the script is not below 0 -/
theorem c_L_cell {sb L i : Nat} {xs : Nat → Int32} (hbb : sb < b) (hL : L < 2 ^ 31) (hi : i < 2 ^ 31) : Met l yL_cell (.code yL_cell cL_cell 2 (some .int) :: BIG) (rmd 0) (va_Pc [.ref sb, .int (nI i)] (fun U => PRE b D cA n ad Z S U ∧ XS sb L xs U)) (QQ b D cA n ad Z (RI (fun r S2 => (∃ j, j < 2 ^ 31 ∧ r = nI j) ∧ S2 = S))) 0 0 (aF b) := by
  refine MT.introX (j := 0) (ls := [some (.ref sb), some (.int (nI i))]) pn_L rfl rfl rfl (fun pr en s0 mi below meth c' K hXs => ?_)
  have hfin : ∀ x : Int32, (∃ j, j < 2 ^ 31 ∧ (x &&& 2147483647 : Int32) = nI j) := fun x => pk_andE x 31 (by decide)
  refine g_iload_n K dL_cell_0 rfl ?_
  refine g_aload_n K dL_cell_1 rfl ?_
  refine g_slen K hXs.1 hXs.2 hbb dL_cell_2 ?_
  refine g_icmp_ge (tgt := 12) K dL_cell_3 (by decide) (fun u3 => ?_) (fun u3 => ?_)
  · refine g_ldc K ld_L_7 dL_cell_12 ?_
    refine g_iload_n K dL_cell_14 rfl ?_
    refine g_sipush K dL_cell_15 kp_331 ?_
    refine g_iadd K dL_cell_18 ?_
    refine g_imul K dL_cell_19 ?_
    refine g_ldc K ld_L_8 dL_cell_20 ?_
    refine g_iadd K dL_cell_22 ?_
    refine g_ldc K ld_L_9 dL_cell_23 ?_
    refine g_iand K dL_cell_25 ?_
    exact g_iret K dL_cell_26 ⟨_, rfl, hfin _, rfl⟩
  · have hlt : i < L := by
      rcases Nat.lt_or_ge i L with q | q
      · exact q
      · exact absurd (nI_le q hi) u3
    refine g_aload_n K dL_cell_6 rfl ?_
    refine g_iload_n K dL_cell_7 rfl ?_
    refine g_sld (j := i) K hXs.1 hXs.2 hbb dL_cell_8 rfl hlt hL ?_
    refine g_goto (tgt := 23) K dL_cell_9 (by decide) ?_
    refine g_ldc K ld_L_9 dL_cell_23 ?_
    refine g_iand K dL_cell_25 ?_
    exact g_iret K dL_cell_26 ⟨_, rfl, hfin _, rfl⟩
theorem PX.blind {sb L : Nat} {xs : Nat → Int32} {av : List Value} : FrameBlind (va_Pc av (fun U => PRE b D cA n ad Z S U ∧ XS sb L xs U)) := fun a U g mk q => by
  obtain ⟨q0, ⟨q1, q2, q3, q4, q5, q6⟩, q7, q8⟩ := q
  exact ⟨q0, ⟨q1, q2, q3, va_K.moved (u := U) (U := U.calling g mk a) (Vm.Alike.refl U.vm) q4, STT.moved (u := U) (U := U.calling g mk a) (Vm.Alike.refl U.vm) q5, NWS.same (u := U) (U := U.calling g mk a) rfl q6⟩, va_X.moved (u := U) (U := U.calling g mk a) (Vm.Alike.refl U.vm) q7, q8⟩
set_option maxHeartbeats 2000000 in
/-- a static call that reads the script -/
theorem l_callX {y : MethodName} {code : ByteArray} {maxL d2 np index sb L : Nat} {xs : Nat → Int32} {ret2 : Option FieldType} {P : Int32 → ST → Prop} {av rest : List Value} {st0 : List Value} (K : CX p s m args meth c b D cA cc own nL ret) (hX : va_X sb L xs s s.heap) (hbl : sb < s.heap.size) (hbb : sb < b) (hM : Met l y (.code y code maxL ret2 :: BIG) (rmd d2) (va_Pc av (fun U => PRE b D cA n ad Z S U ∧ XS sb L xs U)) (QQ b D cA n ad Z (RI P)) 0 0 (aF b)) (hw : MS y code maxL ret2 np) (h1 : Cond.methodLink own index y ∈ BIG) (d : decode cc pc = .ok (.invokestatic index, 3)) (hnp : av.length = np) (hst : st0 = av.reverse ++ rest) (hrest : (rest.map fun v => v.category).sum ≤ 8) (hR : d2 + 1 ≤ R.frames ∧ 8 + (maxL + 11) + 32 * d2 ≤ R.locals) (hc : cells ≤ R.cells ∧ slots ≤ R.slots)
    (kk : ∀ r S', P r S' → GL p l e R s m args below meth c Q b D cA nL n ad Z cells slots (pc + 3) ls (.int r :: rest) S') : GL p l e R s m args below meth c Q b D cA nL n ad Z cells slots pc ls st0 S := by
  refine l_run (a := av.toArray) (ret2 := ret2) (y := y) (Qf := RI P) K (fun H locs lsA hP hD hS hsz => ?_) (fun v S' h => by obtain ⟨r, rfl, h2⟩ := h; exact kk r S' h2)
  have hts := K.2.2.2.2.1
  have hpre : PreS s H (va_Pc av (fun U => PRE b D cA n ad Z S U ∧ XS sb L xs U)) av := ⟨PX.blind, fun U hU hW => ⟨rfl, PRE.of K hU hW hP hD hS, by
    subst hU
    exact ⟨(hX.moved hW.alike).kept (hS.2.1 sb hbl (Nat.not_le.mpr hbb)), Nat.lt_of_lt_of_le hbl hS.1⟩⟩⟩
  exact va_runS (As := av) (rest := rest) ⟨K.1, K.2.1, K.2.2.1, K.2.2.2.1, hts⟩ hM (n := np) ⟨callB_of np hts (big_self hw.1) rfl rfl rfl (hts _ hw.2.2.1) (hts _ h1) hw.2.2.2 ⟨hR.1, hR.2⟩, hts _ hw.2.1⟩ hpre rfl hnp hsz hst (lv_room hrest) d ⟨hc.1, hc.2⟩
end
set_option maxHeartbeats 4000000 in
set_option maxRecDepth 100000 in
theorem c_L_seen {l : Launch} {b : Nat} {D : va_G} {cA : Nat → ClassId} {ad : Nat → Nat} {S : ST} {A : AS} {n : Nat} (hC : CRel S A n) : MT l b D cA NN ad zT yL_seen cL_seen 4 (some .long) 3 [.ref (ad 0)] S (RL0 (fun r S2 => r = seenZ (aZ A) ∧ CRel S2 A n)) := by
  have hC0 := hC
  clear hC0
  refine MT.introL (j := 3) (ls := [some (.ref (ad 0)), none, none, none]) pn_L rfl rfl rfl (fun pr en s0 mi below meth c' K _ => ?_)
  have ll : ∀ (fuel : Nat) (k : Nat) (S1 : ST), (31 ≤ k + fuel) → (k ≤ 30) → (CRel S1 A n) → GL pr l en (rmd 3) s0 mi (List.toArray [.ref (ad 0)]) below meth c' (MQ below (QQ b D cA NN ad zT (RL0 (fun r S2 => r = seenZ (aZ A) ∧ CRel S2 A n))) (List.toArray [.ref (ad 0)]) s0 0 0 (aF b)) b D cA 4 NN ad zT 0 0 81 [some (.ref (ad 0)), some (.long (sn3 A k)), none, some (.int (nI k))] [] S1 := by
    intro fuel
    induction fuel with
    | zero =>
      intro k  S1  hi hi2 hC
      omega
    | succ fuel ih =>
      intro k  S1  hi hi2 hC
      refine l_iload_n K dL_seen_81 rfl ?_
      refine l_bipush K dL_seen_82 kb_30 ?_
      refine l_icmp_ge (tgt := 146) K dL_seen_84 (by decide) (fun u84 => ?_) (fun u84 => ?_)
      · have hk : k = 30 := by
          rw [show (30 : Int32) = nI 30 from rfl, nI_leI (by omega) (by omega)] at u84
          omega
        subst hk
        refine l_lload_n K dL_seen_146 rfl ?_
        refine l_lret K dL_seen_147 ⟨_, rfl, ?_⟩
        exact ⟨seen_ok A, hC⟩
      · have hk : k < 30 := by
          rw [show (30 : Int32) = nI 30 from rfl, nI_leI (by omega) (by omega)] at u84
          omega
        refine l_ldc2 K ld_L_12 dL_seen_87 ?_
        refine l_ldc2 K ld_L_12 dL_seen_90 ?_
        refine l_ldc2 K ld_L_12 dL_seen_93 ?_
        refine l_lload_n K dL_seen_96 rfl ?_
        refine l_lmul K dL_seen_97 ?_
        refine l_aload_n K dL_seen_98 rfl ?_
        refine l_iload_n K dL_seen_99 rfl ?_
        refine l_iconst K dL_seen_100 kc_5 ?_
        refine l_idiv K dL_seen_101 (by first | assumption | decide) ?_
        refine l_iload_n K dL_seen_102 rfl ?_
        refine l_iconst K dL_seen_103 kc_5 ?_
        refine l_irem K dL_seen_104 (by first | assumption | decide) ?_
        refine l_iconst K dL_seen_105 kc_0 ?_
        refine l_rdV K (rd hC (c_X6_axleOf hC) rfl) mw_X6_axleOf ml_L_24 dL_seen_106 (by rfl) rfl rfl (by decide) (by simp [Value.category]) ⟨by decide, by decide⟩ ⟨by decide, by decide⟩ ?_
        clear hC
        intro S106 hC
        refine l_i2l K dL_seen_109 ?_
        refine l_ladd K dL_seen_110 ?_
        refine l_lmul K dL_seen_111 ?_
        refine l_aload_n K dL_seen_112 rfl ?_
        refine l_iload_n K dL_seen_113 rfl ?_
        refine l_iconst K dL_seen_114 kc_5 ?_
        refine l_idiv K dL_seen_115 (by first | assumption | decide) ?_
        refine l_iload_n K dL_seen_116 rfl ?_
        refine l_iconst K dL_seen_117 kc_5 ?_
        refine l_irem K dL_seen_118 (by first | assumption | decide) ?_
        refine l_iconst K dL_seen_119 kc_1 ?_
        refine l_rdV K (rd hC (c_X6_axleOf hC) rfl) mw_X6_axleOf ml_L_24 dL_seen_120 (by rfl) rfl rfl (by decide) (by simp [Value.category]) ⟨by decide, by decide⟩ ⟨by decide, by decide⟩ ?_
        clear hC
        intro S120 hC
        refine l_i2l K dL_seen_123 ?_
        refine l_ladd K dL_seen_124 ?_
        refine l_lmul K dL_seen_125 ?_
        refine l_aload_n K dL_seen_126 rfl ?_
        refine l_iload_n K dL_seen_127 rfl ?_
        refine l_iconst K dL_seen_128 kc_5 ?_
        refine l_idiv K dL_seen_129 (by first | assumption | decide) ?_
        refine l_iload_n K dL_seen_130 rfl ?_
        refine l_iconst K dL_seen_131 kc_5 ?_
        refine l_irem K dL_seen_132 (by first | assumption | decide) ?_
        refine l_iconst K dL_seen_133 kc_2 ?_
        refine l_rdV K (rd hC (c_X6_axleOf hC) rfl) mw_X6_axleOf ml_L_24 dL_seen_134 (by rfl) rfl rfl (by decide) (by simp [Value.category]) ⟨by decide, by decide⟩ ⟨by decide, by decide⟩ ?_
        clear hC
        intro S134 hC
        refine l_i2l K dL_seen_137 ?_
        refine l_ladd K dL_seen_138 ?_
        refine l_lstore_n (ls2 := [some (.ref _), some (.long _), none, _]) K dL_seen_139 (by decide) rfl ?_
        refine l_iinc (ls2 := [_, _, _, some (.int _)]) K dL_seen_140 rfl kc_1 rfl ?_
        refine l_goto (tgt := 81) K dL_seen_143 (by decide) ?_
        rw [nI_1]
        exact ih (k + 1) _ (by omega) (by omega) hC
  have lk : ∀ (fuel : Nat) (k : Nat) (S1 : ST), (55 ≤ k + fuel) → (k ≤ 54) → (CRel S1 A n) → GL pr l en (rmd 3) s0 mi (List.toArray [.ref (ad 0)]) below meth c' (MQ below (QQ b D cA NN ad zT (RL0 (fun r S2 => r = seenZ (aZ A) ∧ CRel S2 A n))) (List.toArray [.ref (ad 0)]) s0 0 0 (aF b)) b D cA 4 NN ad zT 0 0 47 [some (.ref (ad 0)), some (.long (sn2 A k)), none, some (.int (nI k))] [] S1 := by
    intro fuel
    induction fuel with
    | zero =>
      intro k  S1  hi hi2 hC
      omega
    | succ fuel ih =>
      intro k  S1  hi hi2 hC
      refine l_iload_n K dL_seen_47 rfl ?_
      refine l_bipush K dL_seen_48 kb_54 ?_
      refine l_icmp_ge (tgt := 79) K dL_seen_50 (by decide) (fun u50 => ?_) (fun u50 => ?_)
      · have hk : k = 54 := by
          rw [show (54 : Int32) = nI 54 from rfl, nI_leI (by omega) (by omega)] at u50
          omega
        subst hk
        refine l_iconst K dL_seen_79 kc_0 ?_
        refine l_istore_n (ls2 := [_, _, none, some (.int _)]) K dL_seen_80 (by decide) rfl ?_
        exact ll 31 0 _ (by omega) (by omega) hC
      · have hk : k < 54 := by
          rw [show (54 : Int32) = nI 54 from rfl, nI_leI (by omega) (by omega)] at u50
          omega
        refine l_ldc2 K ld_L_12 dL_seen_53 ?_
        refine l_lload_n K dL_seen_56 rfl ?_
        refine l_lmul K dL_seen_57 ?_
        refine l_aload_n K dL_seen_58 rfl ?_
        refine l_iload_n K dL_seen_59 rfl ?_
        refine l_bipush K dL_seen_60 kb_9 ?_
        refine l_idiv K dL_seen_62 (by first | assumption | decide) ?_
        refine l_iload_n K dL_seen_63 rfl ?_
        refine l_bipush K dL_seen_64 kb_9 ?_
        refine l_irem K dL_seen_66 (by first | assumption | decide) ?_
        refine l_rdV K (rd hC (c_X6_cartOf hC) rfl) mw_X6_cartOf ml_L_20 dL_seen_67 (by rfl) rfl rfl (by decide) (by simp [Value.category]) ⟨by decide, by decide⟩ ⟨by decide, by decide⟩ ?_
        clear hC
        intro S67 hC
        refine l_i2l K dL_seen_70 ?_
        refine l_ladd K dL_seen_71 ?_
        refine l_lstore_n (ls2 := [some (.ref _), some (.long _), none, _]) K dL_seen_72 (by decide) rfl ?_
        refine l_iinc (ls2 := [_, _, _, some (.int _)]) K dL_seen_73 rfl kc_1 rfl ?_
        refine l_goto (tgt := 47) K dL_seen_76 (by decide) ?_
        rw [nI_1]
        exact ih (k + 1) _ (by omega) (by omega) hC
  have lj : ∀ (fuel : Nat) (k : Nat) (S1 : ST), (13 ≤ k + fuel) → (k ≤ 12) → (CRel S1 A n) → GL pr l en (rmd 3) s0 mi (List.toArray [.ref (ad 0)]) below meth c' (MQ below (QQ b D cA NN ad zT (RL0 (fun r S2 => r = seenZ (aZ A) ∧ CRel S2 A n))) (List.toArray [.ref (ad 0)]) s0 0 0 (aF b)) b D cA 4 NN ad zT 0 0 6 [some (.ref (ad 0)), some (.long (sn1 A k)), none, some (.int (nI k))] [] S1 := by
    intro fuel
    induction fuel with
    | zero =>
      intro k  S1  hi hi2 hC
      omega
    | succ fuel ih =>
      intro k  S1  hi hi2 hC
      refine l_iload_n K dL_seen_6 rfl ?_
      refine l_bipush K dL_seen_7 kb_12 ?_
      refine l_icmp_ge (tgt := 45) K dL_seen_9 (by decide) (fun u9 => ?_) (fun u9 => ?_)
      · have hk : k = 12 := by
          rw [show (12 : Int32) = nI 12 from rfl, nI_leI (by omega) (by omega)] at u9
          omega
        subst hk
        refine l_iconst K dL_seen_45 kc_0 ?_
        refine l_istore_n (ls2 := [_, _, none, some (.int _)]) K dL_seen_46 (by decide) rfl ?_
        exact lk 55 0 _ (by omega) (by omega) hC
      · have hk : k < 12 := by
          rw [show (12 : Int32) = nI 12 from rfl, nI_leI (by omega) (by omega)] at u9
          omega
        refine l_iload_n K dL_seen_12 rfl ?_
        refine l_iconst K dL_seen_13 kc_4 ?_
        refine l_icmp_eq (tgt := 22) K dL_seen_14 (by decide) (fun u14 => ?_) (fun u14 => ?_)
        · have hk4 : k = 4 := (nI_eq (b := 4) (by omega) (by decide)).mp u14
          refine l_lload_n K dL_seen_22 rfl ?_
          refine l_goto (tgt := 38) K dL_seen_23 (by decide) ?_
          refine l_lstore_n (ls2 := [some (.ref _), some (.long _), none, _]) K dL_seen_38 (by decide) rfl ?_
          refine l_iinc (ls2 := [_, _, _, some (.int _)]) K dL_seen_39 rfl kc_1 rfl ?_
          refine l_goto (tgt := 6) K dL_seen_42 (by decide) ?_
          rw [nI_1]
          first
            | (rw [show 31 * sn1 A k + (o_count A (nI k)).toInt64 = sn1 A (k + 1) from (if_neg (by omega)).symm])
            | (rw [show sn1 A k = sn1 A (k + 1) from (if_pos (by omega)).symm])
          exact ih (k + 1) _ (by omega) (by omega) hC
        · have hk4 : k ≠ 4 := fun q => u14 (by rw [q]; rfl)
          refine l_iload_n K dL_seen_17 rfl ?_
          refine l_iconst K dL_seen_18 kc_5 ?_
          refine l_icmp_ne (tgt := 26) K dL_seen_19 (by decide) (fun u19 => ?_) (fun u19 => ?_)
          · have hk5 : k ≠ 5 := fun q => u19 (by rw [q]; rfl)
            refine l_ldc2 K ld_L_12 dL_seen_26 ?_
            refine l_lload_n K dL_seen_29 rfl ?_
            refine l_lmul K dL_seen_30 ?_
            refine l_aload_n K dL_seen_31 rfl ?_
            refine l_iload_n K dL_seen_32 rfl ?_
            refine l_rdV K (rd hC (c_X6_count hC) rfl) mw_X6_count ml_L_14 dL_seen_33 (by rfl) rfl rfl (by decide) (by simp [Value.category]) ⟨by decide, by decide⟩ ⟨by decide, by decide⟩ ?_
            clear hC
            intro S33 hC
            refine l_i2l K dL_seen_36 ?_
            refine l_ladd K dL_seen_37 ?_
            refine l_lstore_n (ls2 := [some (.ref _), some (.long _), none, _]) K dL_seen_38 (by decide) rfl ?_
            refine l_iinc (ls2 := [_, _, _, some (.int _)]) K dL_seen_39 rfl kc_1 rfl ?_
            refine l_goto (tgt := 6) K dL_seen_42 (by decide) ?_
            rw [nI_1]
            first
              | (rw [show 31 * sn1 A k + (o_count A (nI k)).toInt64 = sn1 A (k + 1) from (if_neg (by omega)).symm])
              | (rw [show sn1 A k = sn1 A (k + 1) from (if_pos (by omega)).symm])
            exact ih (k + 1) _ (by omega) (by omega) hC
          · have hk5 : k = 5 := (nI_eq (b := 5) (by omega) (by decide)).mp u19
            refine l_lload_n K dL_seen_22 rfl ?_
            refine l_goto (tgt := 38) K dL_seen_23 (by decide) ?_
            refine l_lstore_n (ls2 := [some (.ref _), some (.long _), none, _]) K dL_seen_38 (by decide) rfl ?_
            refine l_iinc (ls2 := [_, _, _, some (.int _)]) K dL_seen_39 rfl kc_1 rfl ?_
            refine l_goto (tgt := 6) K dL_seen_42 (by decide) ?_
            rw [nI_1]
            first
              | (rw [show 31 * sn1 A k + (o_count A (nI k)).toInt64 = sn1 A (k + 1) from (if_neg (by omega)).symm])
              | (rw [show sn1 A k = sn1 A (k + 1) from (if_pos (by omega)).symm])
            exact ih (k + 1) _ (by omega) (by omega) hC
  refine l_ldc2 K ld_L_10 dL_seen_0 ?_
  refine l_lstore_n (ls2 := [some (.ref _), some (.long _), none, _]) K dL_seen_3 (by decide) rfl ?_
  refine l_iconst K dL_seen_4 kc_0 ?_
  refine l_istore_n (ls2 := [_, _, none, some (.int _)]) K dL_seen_5 (by decide) rfl ?_
  exact lj 13 0 _ (by omega) (by omega) hC
