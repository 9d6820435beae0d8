theorem wm_i : Cond.initialized "java/lang/Math" ∈ BIG := big_at 9 (by decide +kernel) (by decide +kernel)
theorem wm_min_s : Cond.static Lib.Math.min.name ∈ BIG := big_at 400 (by decide +kernel) (by decide +kernel)
theorem wm_min_c : Cond.code Lib.Math.min.name Lib.Math.min.code 2 (some .int) ∈ BIG := big_at 401 (by decide +kernel) (by decide +kernel)
theorem wm_abs_s : Cond.static Lib.Math.abs.name ∈ BIG := big_at 415 (by decide +kernel) (by decide +kernel)
theorem wm_abs_c : Cond.code Lib.Math.abs.name Lib.Math.abs.code 1 (some .int) ∈ BIG := big_at 416 (by decide +kernel) (by decide +kernel)
theorem wm_max_s : Cond.static Lib.Math.max.name ∈ BIG := big_at 421 (by decide +kernel) (by decide +kernel)
theorem wm_max_c : Cond.code Lib.Math.max.name Lib.Math.max.code 2 (some .int) ∈ BIG := big_at 422 (by decide +kernel) (by decide +kernel)
theorem wm_ac_s : Cond.static arraycopyName ∈ BIG := big_at 73 (by decide +kernel) (by decide +kernel)
theorem wm_ac_n : Cond.native arraycopyName ∈ BIG := big_at 74 (by decide +kernel) (by decide +kernel)
theorem wm_ac_i : Cond.initialized "java/lang/System" ∈ BIG := big_at 4 (by decide +kernel) (by decide +kernel)
section
variable {p : Program} {l : Launch} {e : Env} {R : Room} {s : State} {m : MethodId} {args : Array Value} {below : List Frame} {meth : Method} {c : Code} {Q : State → Prop} {b : Nat} {D : va_G} {cA : Nat → ClassId} {nL n : Nat} {ad : Nat → Nat} {Z : Nat → Nat → Bool} {cells slots : Nat} {pc : Nat} {ls : List (Option Value)} {st : List Value} {S : ST} {cc : ByteArray} {own : String} {ret : Option FieldType}
theorem g_iconst (K : CX p s m args meth c b D cA cc own nL ret) {j : Int} {v : Int32} (d : decode cc pc = .ok (.iconst j, 1)) (hv : Int32.ofInt j = v) (k : G p l e R s m args below meth c Q b D cA nL n ad Z cells slots (pc + 1) ls (.int v :: st) S) : G p l e R s m args below meth c Q b D cA nL n ad Z cells slots pc ls st S := fun H locs lsA hP hD hS hl => lv_iconst K.1 K.2.1 d hv (k H locs lsA hP hD hS hl)
theorem g_bipush (K : CX p s m args meth c b D cA cc own nL ret) {j : Int} {v : Int32} (d : decode cc pc = .ok (.bipush j, 2)) (hv : (Int8.ofInt j).toInt32 = v) (k : G p l e R s m args below meth c Q b D cA nL n ad Z cells slots (pc + 2) ls (.int v :: st) S) : G p l e R s m args below meth c Q b D cA nL n ad Z cells slots pc ls st S := fun H locs lsA hP hD hS hl => lv_bipush K.1 K.2.1 d hv (k H locs lsA hP hD hS hl)
theorem g_sipush (K : CX p s m args meth c b D cA cc own nL ret) {j : Int} {v : Int32} (d : decode cc pc = .ok (.sipush j, 3)) (hv : (Int16.ofInt j).toInt32 = v) (k : G p l e R s m args below meth c Q b D cA nL n ad Z cells slots (pc + 3) ls (.int v :: st) S) : G p l e R s m args below meth c Q b D cA nL n ad Z cells slots pc ls st S := fun H locs lsA hP hD hS hl => lv_sipush K.1 K.2.1 d hv (k H locs lsA hP hD hS hl)
theorem g_iload_n (K : CX p s m args meth c b D cA cc own nL ret) {j : Fin 4} {x : Int32} (d : decode cc pc = .ok (.iload_n j, 1)) (hv : ls[(j : Nat)]? = some (some (.int x))) (k : G p l e R s m args below meth c Q b D cA nL n ad Z cells slots (pc + 1) ls (.int x :: st) S) : G p l e R s m args below meth c Q b D cA nL n ad Z cells slots pc ls st S := fun H locs lsA hP hD hS hl => lv_iload_n K.1 K.2.1 d rfl (hl.at hv) (k H locs lsA hP hD hS hl)
theorem g_iload (K : CX p s m args meth c b D cA cc own nL ret) {j : Nat} {x : Int32} (d : decode cc pc = .ok (.iload j, 2)) (hv : ls[j]? = some (some (.int x))) (k : G p l e R s m args below meth c Q b D cA nL n ad Z cells slots (pc + 2) ls (.int x :: st) S) : G p l e R s m args below meth c Q b D cA nL n ad Z cells slots pc ls st S := fun H locs lsA hP hD hS hl => lv_iload K.1 K.2.1 d (hl.at hv) (k H locs lsA hP hD hS hl)
theorem g_istore_n (K : CX p s m args meth c b D cA cc own nL ret) {j : Fin 4} {x : Int32} {ls2 : List (Option Value)} (d : decode cc pc = .ok (.istore_n j, 1)) (hj : (j : Nat) < nL) (h2 : ls.set (j : Nat) (some (.int x)) = ls2) (k : G p l e R s m args below meth c Q b D cA nL n ad Z cells slots (pc + 1) ls2 st S) : G p l e R s m args below meth c Q b D cA nL n ad Z cells slots pc ls (.int x :: st) S := fun H locs lsA hP hD hS hl => lv_istore_n K.1 K.2.1 d rfl hl.has hj rfl (fun lsB h => k H locs lsB hP hD hS (h2 ▸ hl.put rfl h))
theorem g_istore (K : CX p s m args meth c b D cA cc own nL ret) {j : Nat} {x : Int32} {ls2 : List (Option Value)} (d : decode cc pc = .ok (.istore j, 2)) (hj : j < nL) (h2 : ls.set j (some (.int x)) = ls2) (k : G p l e R s m args below meth c Q b D cA nL n ad Z cells slots (pc + 2) ls2 st S) : G p l e R s m args below meth c Q b D cA nL n ad Z cells slots pc ls (.int x :: st) S := fun H locs lsA hP hD hS hl => lv_istore K.1 K.2.1 d hl.has hj rfl (fun lsB h => k H locs lsB hP hD hS (h2 ▸ hl.put rfl h))
theorem g_aload_n (K : CX p s m args meth c b D cA cc own nL ret) {j : Fin 4} {x : Nat} (d : decode cc pc = .ok (.aload_n j, 1)) (hv : ls[(j : Nat)]? = some (some (.ref x))) (k : G p l e R s m args below meth c Q b D cA nL n ad Z cells slots (pc + 1) ls (.ref x :: st) S) : G p l e R s m args below meth c Q b D cA nL n ad Z cells slots pc ls st S := fun H locs lsA hP hD hS hl => lv_aload_n K.1 K.2.1 d rfl (hl.at hv) (k H locs lsA hP hD hS hl)
theorem g_aload (K : CX p s m args meth c b D cA cc own nL ret) {j : Nat} {x : Nat} (d : decode cc pc = .ok (.aload j, 2)) (hv : ls[j]? = some (some (.ref x))) (k : G p l e R s m args below meth c Q b D cA nL n ad Z cells slots (pc + 2) ls (.ref x :: st) S) : G p l e R s m args below meth c Q b D cA nL n ad Z cells slots pc ls st S := fun H locs lsA hP hD hS hl => lv_aload K.1 K.2.1 d (hl.at hv) (k H locs lsA hP hD hS hl)
theorem g_astore_n (K : CX p s m args meth c b D cA cc own nL ret) {j : Fin 4} {x : Nat} {ls2 : List (Option Value)} (d : decode cc pc = .ok (.astore_n j, 1)) (hj : (j : Nat) < nL) (h2 : ls.set (j : Nat) (some (.ref x)) = ls2) (k : G p l e R s m args below meth c Q b D cA nL n ad Z cells slots (pc + 1) ls2 st S) : G p l e R s m args below meth c Q b D cA nL n ad Z cells slots pc ls (.ref x :: st) S := fun H locs lsA hP hD hS hl => lv_astore_n K.1 K.2.1 d rfl hl.has hj rfl (fun lsB h => k H locs lsB hP hD hS (h2 ▸ hl.put rfl h))
theorem g_astore (K : CX p s m args meth c b D cA cc own nL ret) {j : Nat} {x : Nat} {ls2 : List (Option Value)} (d : decode cc pc = .ok (.astore j, 2)) (hj : j < nL) (h2 : ls.set j (some (.ref x)) = ls2) (k : G p l e R s m args below meth c Q b D cA nL n ad Z cells slots (pc + 2) ls2 st S) : G p l e R s m args below meth c Q b D cA nL n ad Z cells slots pc ls (.ref x :: st) S := fun H locs lsA hP hD hS hl => lv_astore K.1 K.2.1 d hl.has hj rfl (fun lsB h => k H locs lsB hP hD hS (h2 ▸ hl.put rfl h))
theorem g_fload_n (K : CX p s m args meth c b D cA cc own nL ret) {j : Fin 4} {x : UInt32} (d : decode cc pc = .ok (.fload_n j, 1)) (hv : ls[(j : Nat)]? = some (some (.float x))) (k : G p l e R s m args below meth c Q b D cA nL n ad Z cells slots (pc + 1) ls (.float x :: st) S) : G p l e R s m args below meth c Q b D cA nL n ad Z cells slots pc ls st S := fun H locs lsA hP hD hS hl => lv_fload_n K.1 K.2.1 d rfl (hl.at hv) (k H locs lsA hP hD hS hl)
theorem g_fload (K : CX p s m args meth c b D cA cc own nL ret) {j : Nat} {x : UInt32} (d : decode cc pc = .ok (.fload j, 2)) (hv : ls[j]? = some (some (.float x))) (k : G p l e R s m args below meth c Q b D cA nL n ad Z cells slots (pc + 2) ls (.float x :: st) S) : G p l e R s m args below meth c Q b D cA nL n ad Z cells slots pc ls st S := fun H locs lsA hP hD hS hl => lv_fload K.1 K.2.1 d (hl.at hv) (k H locs lsA hP hD hS hl)
theorem g_fstore_n (K : CX p s m args meth c b D cA cc own nL ret) {j : Fin 4} {x : UInt32} {ls2 : List (Option Value)} (d : decode cc pc = .ok (.fstore_n j, 1)) (hj : (j : Nat) < nL) (h2 : ls.set (j : Nat) (some (.float x)) = ls2) (k : G p l e R s m args below meth c Q b D cA nL n ad Z cells slots (pc + 1) ls2 st S) : G p l e R s m args below meth c Q b D cA nL n ad Z cells slots pc ls (.float x :: st) S := fun H locs lsA hP hD hS hl => lv_fstore_n K.1 K.2.1 d rfl hl.has hj rfl (fun lsB h => k H locs lsB hP hD hS (h2 ▸ hl.put rfl h))
theorem g_fstore (K : CX p s m args meth c b D cA cc own nL ret) {j : Nat} {x : UInt32} {ls2 : List (Option Value)} (d : decode cc pc = .ok (.fstore j, 2)) (hj : j < nL) (h2 : ls.set j (some (.float x)) = ls2) (k : G p l e R s m args below meth c Q b D cA nL n ad Z cells slots (pc + 2) ls2 st S) : G p l e R s m args below meth c Q b D cA nL n ad Z cells slots pc ls (.float x :: st) S := fun H locs lsA hP hD hS hl => lv_fstore K.1 K.2.1 d hl.has hj rfl (fun lsB h => k H locs lsB hP hD hS (h2 ▸ hl.put rfl h))
theorem g_aload_nN (K : CX p s m args meth c b D cA cc own nL ret) {j : Fin 4} (d : decode cc pc = .ok (.aload_n j, 1)) (hv : ls[(j : Nat)]? = some (some .null)) (k : G p l e R s m args below meth c Q b D cA nL n ad Z cells slots (pc + 1) ls (.null :: st) S) : G p l e R s m args below meth c Q b D cA nL n ad Z cells slots pc ls st S := fun H locs lsA hP hD hS hl => lv_aload_nN K.1 K.2.1 d rfl (hl.at hv) (k H locs lsA hP hD hS hl)
theorem g_aloadN (K : CX p s m args meth c b D cA cc own nL ret) {j : Nat} (d : decode cc pc = .ok (.aload j, 2)) (hv : ls[j]? = some (some .null)) (k : G p l e R s m args below meth c Q b D cA nL n ad Z cells slots (pc + 2) ls (.null :: st) S) : G p l e R s m args below meth c Q b D cA nL n ad Z cells slots pc ls st S := fun H locs lsA hP hD hS hl => lv_aloadN K.1 K.2.1 d (hl.at hv) (k H locs lsA hP hD hS hl)
theorem g_astore_nN (K : CX p s m args meth c b D cA cc own nL ret) {j : Fin 4} {ls2 : List (Option Value)} (d : decode cc pc = .ok (.astore_n j, 1)) (hj : (j : Nat) < nL) (h2 : ls.set (j : Nat) (some .null) = ls2) (k : G p l e R s m args below meth c Q b D cA nL n ad Z cells slots (pc + 1) ls2 st S) : G p l e R s m args below meth c Q b D cA nL n ad Z cells slots pc ls (.null :: st) S := fun H locs lsA hP hD hS hl => lv_astore_nN K.1 K.2.1 d rfl hl.has hj rfl (fun lsB h => k H locs lsB hP hD hS (h2 ▸ hl.put rfl h))
theorem g_astoreN (K : CX p s m args meth c b D cA cc own nL ret) {j : Nat} {ls2 : List (Option Value)} (d : decode cc pc = .ok (.astore j, 2)) (hj : j < nL) (h2 : ls.set j (some .null) = ls2) (k : G p l e R s m args below meth c Q b D cA nL n ad Z cells slots (pc + 2) ls2 st S) : G p l e R s m args below meth c Q b D cA nL n ad Z cells slots pc ls (.null :: st) S := fun H locs lsA hP hD hS hl => lv_astoreN K.1 K.2.1 d hl.has hj rfl (fun lsB h => k H locs lsB hP hD hS (h2 ▸ hl.put rfl h))
theorem g_null (K : CX p s m args meth c b D cA cc own nL ret)  (d : decode cc pc = .ok (.aconst_null, 1))  (k : G p l e R s m args below meth c Q b D cA nL n ad Z cells slots (pc + 1) ls (.null :: st) S) : G p l e R s m args below meth c Q b D cA nL n ad Z cells slots pc ls st S := fun H locs lsA hP hD hS hl => lv_null K.1 K.2.1 d (k H locs lsA hP hD hS hl)
theorem g_iinc (K : CX p s m args meth c b D cA cc own nL ret) {j : Nat} {v : Int} {x : Int32} {ls2 : List (Option Value)} (d : decode cc pc = .ok (.iinc j v, 3)) (hv : ls[j]? = some (some (.int x))) {w : Int32} (hw : Int32.ofInt v = w) (h2 : ls.set j (some (.int (x + w))) = ls2) (k : G p l e R s m args below meth c Q b D cA nL n ad Z cells slots (pc + 3) ls2 st S) : G p l e R s m args below meth c Q b D cA nL n ad Z cells slots pc ls st S := by
  intro H locs lsA hP hD hS hl
  have hj : j < nL := by
    have := (List.getElem?_eq_some_iff.mp hv).1
    rw [hl.2.2.1] at this
    exact this
  obtain ⟨i, hi⟩ := List.getElem?_of_mem (prs_mem.mpr ⟨hj, hv⟩ : (j, Value.int x) ∈ prs nL ls)
  exact lv_iinc K.1 K.2.1 d hl.has hi (congrArg (x + ·) hw) hj rfl (fun lsB h => k H locs lsB hP hD hS (h2 ▸ hl.put rfl h))
theorem g_iadd (K : CX p s m args meth c b D cA cc own nL ret) {x y : Int32} (d : decode cc pc = .ok (.iadd, 1))  (k : G p l e R s m args below meth c Q b D cA nL n ad Z cells slots (pc + 1) ls (.int (x + y) :: st) S) : G p l e R s m args below meth c Q b D cA nL n ad Z cells slots pc ls (.int y :: .int x :: st) S := fun H locs lsA hP hD hS hl => lv_iadd K.1 K.2.1 d (k H locs lsA hP hD hS hl)
theorem g_isub (K : CX p s m args meth c b D cA cc own nL ret) {x y : Int32} (d : decode cc pc = .ok (.isub, 1))  (k : G p l e R s m args below meth c Q b D cA nL n ad Z cells slots (pc + 1) ls (.int (x - y) :: st) S) : G p l e R s m args below meth c Q b D cA nL n ad Z cells slots pc ls (.int y :: .int x :: st) S := fun H locs lsA hP hD hS hl => lv_isub K.1 K.2.1 d (k H locs lsA hP hD hS hl)
theorem g_imul (K : CX p s m args meth c b D cA cc own nL ret) {x y : Int32} (d : decode cc pc = .ok (.imul, 1))  (k : G p l e R s m args below meth c Q b D cA nL n ad Z cells slots (pc + 1) ls (.int (x * y) :: st) S) : G p l e R s m args below meth c Q b D cA nL n ad Z cells slots pc ls (.int y :: .int x :: st) S := fun H locs lsA hP hD hS hl => lv_imul K.1 K.2.1 d (k H locs lsA hP hD hS hl)
theorem g_iand (K : CX p s m args meth c b D cA cc own nL ret) {x y : Int32} (d : decode cc pc = .ok (.iand, 1))  (k : G p l e R s m args below meth c Q b D cA nL n ad Z cells slots (pc + 1) ls (.int (x &&& y) :: st) S) : G p l e R s m args below meth c Q b D cA nL n ad Z cells slots pc ls (.int y :: .int x :: st) S := fun H locs lsA hP hD hS hl => lv_iand K.1 K.2.1 d (k H locs lsA hP hD hS hl)
theorem g_ineg (K : CX p s m args meth c b D cA cc own nL ret) {x : Int32} (d : decode cc pc = .ok (.ineg, 1))  (k : G p l e R s m args below meth c Q b D cA nL n ad Z cells slots (pc + 1) ls (.int (-x) :: st) S) : G p l e R s m args below meth c Q b D cA nL n ad Z cells slots pc ls (.int x :: st) S := fun H locs lsA hP hD hS hl => lv_ineg K.1 K.2.1 d (k H locs lsA hP hD hS hl)
theorem g_idiv (K : CX p s m args meth c b D cA cc own nL ret) {x y : Int32} (d : decode cc pc = .ok (.idiv, 1)) (hne : ¬ y = 0) (k : G p l e R s m args below meth c Q b D cA nL n ad Z cells slots (pc + 1) ls (.int (x / y) :: st) S) : G p l e R s m args below meth c Q b D cA nL n ad Z cells slots pc ls (.int y :: .int x :: st) S := fun H locs lsA hP hD hS hl => lv_idiv K.1 K.2.1 d hne (k H locs lsA hP hD hS hl)
theorem g_irem (K : CX p s m args meth c b D cA cc own nL ret) {x y : Int32} (d : decode cc pc = .ok (.irem, 1)) (hne : ¬ y = 0) (k : G p l e R s m args below meth c Q b D cA nL n ad Z cells slots (pc + 1) ls (.int (x - x / y * y) :: st) S) : G p l e R s m args below meth c Q b D cA nL n ad Z cells slots pc ls (.int y :: .int x :: st) S := fun H locs lsA hP hD hS hl => lv_irem K.1 K.2.1 d hne (k H locs lsA hP hD hS hl)
theorem g_i2c (K : CX p s m args meth c b D cA cc own nL ret) {x : Int32} (d : decode cc pc = .ok (.i2c, 1))  (k : G p l e R s m args below meth c Q b D cA nL n ad Z cells slots (pc + 1) ls (.int (x.toUInt32 % 65536).toInt32 :: st) S) : G p l e R s m args below meth c Q b D cA nL n ad Z cells slots pc ls (.int x :: st) S := fun H locs lsA hP hD hS hl => lv_i2c K.1 K.2.1 d rfl (k H locs lsA hP hD hS hl)
theorem g_i2f (K : CX p s m args meth c b D cA cc own nL ret) {x : Int32} (d : decode cc pc = .ok (.i2f, 1))  (k : G p l e R s m args below meth c Q b D cA nL n ad Z cells slots (pc + 1) ls (.float (FP.i2f x) :: st) S) : G p l e R s m args below meth c Q b D cA nL n ad Z cells slots pc ls (.int x :: st) S := fun H locs lsA hP hD hS hl => lv_i2f K.1 K.2.1 d (k H locs lsA hP hD hS hl)
theorem g_fconst2 (K : CX p s m args meth c b D cA cc own nL ret)  (d : decode cc pc = .ok (.fconst 2, 1))  (k : G p l e R s m args below meth c Q b D cA nL n ad Z cells slots (pc + 1) ls (.float 0x40000000 :: st) S) : G p l e R s m args below meth c Q b D cA nL n ad Z cells slots pc ls st S := fun H locs lsA hP hD hS hl => lv_fconst2 K.1 K.2.1 d (k H locs lsA hP hD hS hl)
theorem g_fdiv (K : CX p s m args meth c b D cA cc own nL ret) {x y : UInt32} (d : decode cc pc = .ok (.fdiv, 1)) (hne : vf_n32 (FP.fdiv x y)) (k : G p l e R s m args below meth c Q b D cA nL n ad Z cells slots (pc + 1) ls (.float (FP.fdiv x y) :: st) S) : G p l e R s m args below meth c Q b D cA nL n ad Z cells slots pc ls (.float y :: .float x :: st) S := fun H locs lsA hP hD hS hl => lv_fdiv K.1 K.2.1 d hne (k H locs lsA hP hD hS hl)
theorem g_dup (K : CX p s m args meth c b D cA cc own nL ret) {v : Value} (d : decode cc pc = .ok (.dup, 1)) (hv : v.category = 1) (k : G p l e R s m args below meth c Q b D cA nL n ad Z cells slots (pc + 1) ls (v :: v :: st) S) : G p l e R s m args below meth c Q b D cA nL n ad Z cells slots pc ls (v :: st) S := fun H locs lsA hP hD hS hl => lv_dup K.1 K.2.1 d hv (k H locs lsA hP hD hS hl)
theorem g_dup2 (K : CX p s m args meth c b D cA cc own nL ret) {v w : Value} (d : decode cc pc = .ok (.dup2, 1)) (hv : v.category = 1) (hw : w.category = 1) (k : G p l e R s m args below meth c Q b D cA nL n ad Z cells slots (pc + 1) ls (v :: w :: v :: w :: st) S) : G p l e R s m args below meth c Q b D cA nL n ad Z cells slots pc ls (v :: w :: st) S := fun H locs lsA hP hD hS hl => lv_dup2_11 K.1 K.2.1 d hv hw (k H locs lsA hP hD hS hl)
theorem g_pop (K : CX p s m args meth c b D cA cc own nL ret) {v : Value} (d : decode cc pc = .ok (.pop, 1)) (hv : v.category = 1) (k : G p l e R s m args below meth c Q b D cA nL n ad Z cells slots (pc + 1) ls st S) : G p l e R s m args below meth c Q b D cA nL n ad Z cells slots pc ls (v :: st) S := fun H locs lsA hP hD hS hl => lv_pop K.1 K.2.1 d hv (k H locs lsA hP hD hS hl)
theorem g_if_eq (K : CX p s m args meth c b D cA cc own nL ret) {x : Int32} {off : Int} {tgt : Nat} (d : decode cc pc = .ok (.ifCond .eq off, 3)) (ht : (pc : Int) + off = (tgt : Int)) (kt : x = 0 → G p l e R s m args below meth c Q b D cA nL n ad Z cells slots tgt ls st S) (kf : ¬ x = 0 → G p l e R s m args below meth c Q b D cA nL n ad Z cells slots (pc + 3) ls st S) : G p l e R s m args below meth c Q b D cA nL n ad Z cells slots pc ls (.int x :: st) S := fun H locs lsA hP hD hS hl => lv_if_eq K.1 K.2.1 d ht (fun q => kt q H locs lsA hP hD hS hl) (fun q => kf q H locs lsA hP hD hS hl)
theorem g_icmp_eq (K : CX p s m args meth c b D cA cc own nL ret) {x y : Int32} {off : Int} {tgt : Nat} (d : decode cc pc = .ok (.if_icmp .eq off, 3)) (ht : (pc : Int) + off = (tgt : Int)) (kt : x = y → G p l e R s m args below meth c Q b D cA nL n ad Z cells slots tgt ls st S) (kf : ¬ x = y → G p l e R s m args below meth c Q b D cA nL n ad Z cells slots (pc + 3) ls st S) : G p l e R s m args below meth c Q b D cA nL n ad Z cells slots pc ls (.int y :: .int x :: st) S := fun H locs lsA hP hD hS hl => lv_icmp_eq K.1 K.2.1 d ht (fun q => kt q H locs lsA hP hD hS hl) (fun q => kf q H locs lsA hP hD hS hl)
theorem g_if_ne (K : CX p s m args meth c b D cA cc own nL ret) {x : Int32} {off : Int} {tgt : Nat} (d : decode cc pc = .ok (.ifCond .ne off, 3)) (ht : (pc : Int) + off = (tgt : Int)) (kt : ¬ x = 0 → G p l e R s m args below meth c Q b D cA nL n ad Z cells slots tgt ls st S) (kf : x = 0 → G p l e R s m args below meth c Q b D cA nL n ad Z cells slots (pc + 3) ls st S) : G p l e R s m args below meth c Q b D cA nL n ad Z cells slots pc ls (.int x :: st) S := fun H locs lsA hP hD hS hl => lv_if_ne K.1 K.2.1 d ht (fun q => kt q H locs lsA hP hD hS hl) (fun q => kf q H locs lsA hP hD hS hl)
theorem g_icmp_ne (K : CX p s m args meth c b D cA cc own nL ret) {x y : Int32} {off : Int} {tgt : Nat} (d : decode cc pc = .ok (.if_icmp .ne off, 3)) (ht : (pc : Int) + off = (tgt : Int)) (kt : ¬ x = y → G p l e R s m args below meth c Q b D cA nL n ad Z cells slots tgt ls st S) (kf : x = y → G p l e R s m args below meth c Q b D cA nL n ad Z cells slots (pc + 3) ls st S) : G p l e R s m args below meth c Q b D cA nL n ad Z cells slots pc ls (.int y :: .int x :: st) S := fun H locs lsA hP hD hS hl => lv_icmp_ne K.1 K.2.1 d ht (fun q => kt q H locs lsA hP hD hS hl) (fun q => kf q H locs lsA hP hD hS hl)
theorem g_if_lt (K : CX p s m args meth c b D cA cc own nL ret) {x : Int32} {off : Int} {tgt : Nat} (d : decode cc pc = .ok (.ifCond .lt off, 3)) (ht : (pc : Int) + off = (tgt : Int)) (kt : x < 0 → G p l e R s m args below meth c Q b D cA nL n ad Z cells slots tgt ls st S) (kf : ¬ x < 0 → G p l e R s m args below meth c Q b D cA nL n ad Z cells slots (pc + 3) ls st S) : G p l e R s m args below meth c Q b D cA nL n ad Z cells slots pc ls (.int x :: st) S := fun H locs lsA hP hD hS hl => lv_if_lt K.1 K.2.1 d ht (fun q => kt q H locs lsA hP hD hS hl) (fun q => kf q H locs lsA hP hD hS hl)
theorem g_icmp_lt (K : CX p s m args meth c b D cA cc own nL ret) {x y : Int32} {off : Int} {tgt : Nat} (d : decode cc pc = .ok (.if_icmp .lt off, 3)) (ht : (pc : Int) + off = (tgt : Int)) (kt : x < y → G p l e R s m args below meth c Q b D cA nL n ad Z cells slots tgt ls st S) (kf : ¬ x < y → G p l e R s m args below meth c Q b D cA nL n ad Z cells slots (pc + 3) ls st S) : G p l e R s m args below meth c Q b D cA nL n ad Z cells slots pc ls (.int y :: .int x :: st) S := fun H locs lsA hP hD hS hl => lv_icmp_lt K.1 K.2.1 d ht (fun q => kt q H locs lsA hP hD hS hl) (fun q => kf q H locs lsA hP hD hS hl)
theorem g_if_ge (K : CX p s m args meth c b D cA cc own nL ret) {x : Int32} {off : Int} {tgt : Nat} (d : decode cc pc = .ok (.ifCond .ge off, 3)) (ht : (pc : Int) + off = (tgt : Int)) (kt : 0 ≤ x → G p l e R s m args below meth c Q b D cA nL n ad Z cells slots tgt ls st S) (kf : ¬ 0 ≤ x → G p l e R s m args below meth c Q b D cA nL n ad Z cells slots (pc + 3) ls st S) : G p l e R s m args below meth c Q b D cA nL n ad Z cells slots pc ls (.int x :: st) S := fun H locs lsA hP hD hS hl => lv_if_ge K.1 K.2.1 d ht (fun q => kt q H locs lsA hP hD hS hl) (fun q => kf q H locs lsA hP hD hS hl)
theorem g_icmp_ge (K : CX p s m args meth c b D cA cc own nL ret) {x y : Int32} {off : Int} {tgt : Nat} (d : decode cc pc = .ok (.if_icmp .ge off, 3)) (ht : (pc : Int) + off = (tgt : Int)) (kt : y ≤ x → G p l e R s m args below meth c Q b D cA nL n ad Z cells slots tgt ls st S) (kf : ¬ y ≤ x → G p l e R s m args below meth c Q b D cA nL n ad Z cells slots (pc + 3) ls st S) : G p l e R s m args below meth c Q b D cA nL n ad Z cells slots pc ls (.int y :: .int x :: st) S := fun H locs lsA hP hD hS hl => lv_icmp_ge K.1 K.2.1 d ht (fun q => kt q H locs lsA hP hD hS hl) (fun q => kf q H locs lsA hP hD hS hl)
theorem g_if_gt (K : CX p s m args meth c b D cA cc own nL ret) {x : Int32} {off : Int} {tgt : Nat} (d : decode cc pc = .ok (.ifCond .gt off, 3)) (ht : (pc : Int) + off = (tgt : Int)) (kt : 0 < x → G p l e R s m args below meth c Q b D cA nL n ad Z cells slots tgt ls st S) (kf : ¬ 0 < x → G p l e R s m args below meth c Q b D cA nL n ad Z cells slots (pc + 3) ls st S) : G p l e R s m args below meth c Q b D cA nL n ad Z cells slots pc ls (.int x :: st) S := fun H locs lsA hP hD hS hl => lv_if_gt K.1 K.2.1 d ht (fun q => kt q H locs lsA hP hD hS hl) (fun q => kf q H locs lsA hP hD hS hl)
theorem g_icmp_gt (K : CX p s m args meth c b D cA cc own nL ret) {x y : Int32} {off : Int} {tgt : Nat} (d : decode cc pc = .ok (.if_icmp .gt off, 3)) (ht : (pc : Int) + off = (tgt : Int)) (kt : y < x → G p l e R s m args below meth c Q b D cA nL n ad Z cells slots tgt ls st S) (kf : ¬ y < x → G p l e R s m args below meth c Q b D cA nL n ad Z cells slots (pc + 3) ls st S) : G p l e R s m args below meth c Q b D cA nL n ad Z cells slots pc ls (.int y :: .int x :: st) S := fun H locs lsA hP hD hS hl => lv_icmp_gt K.1 K.2.1 d ht (fun q => kt q H locs lsA hP hD hS hl) (fun q => kf q H locs lsA hP hD hS hl)
theorem g_if_le (K : CX p s m args meth c b D cA cc own nL ret) {x : Int32} {off : Int} {tgt : Nat} (d : decode cc pc = .ok (.ifCond .le off, 3)) (ht : (pc : Int) + off = (tgt : Int)) (kt : x ≤ 0 → G p l e R s m args below meth c Q b D cA nL n ad Z cells slots tgt ls st S) (kf : ¬ x ≤ 0 → G p l e R s m args below meth c Q b D cA nL n ad Z cells slots (pc + 3) ls st S) : G p l e R s m args below meth c Q b D cA nL n ad Z cells slots pc ls (.int x :: st) S := fun H locs lsA hP hD hS hl => lv_if_le K.1 K.2.1 d ht (fun q => kt q H locs lsA hP hD hS hl) (fun q => kf q H locs lsA hP hD hS hl)
theorem g_icmp_le (K : CX p s m args meth c b D cA cc own nL ret) {x y : Int32} {off : Int} {tgt : Nat} (d : decode cc pc = .ok (.if_icmp .le off, 3)) (ht : (pc : Int) + off = (tgt : Int)) (kt : x ≤ y → G p l e R s m args below meth c Q b D cA nL n ad Z cells slots tgt ls st S) (kf : ¬ x ≤ y → G p l e R s m args below meth c Q b D cA nL n ad Z cells slots (pc + 3) ls st S) : G p l e R s m args below meth c Q b D cA nL n ad Z cells slots pc ls (.int y :: .int x :: st) S := fun H locs lsA hP hD hS hl => lv_icmp_le K.1 K.2.1 d ht (fun q => kt q H locs lsA hP hD hS hl) (fun q => kf q H locs lsA hP hD hS hl)
theorem g_goto (K : CX p s m args meth c b D cA cc own nL ret) {off : Int} {tgt : Nat} (d : decode cc pc = .ok (.goto off, 3)) (ht : (pc : Int) + off = (tgt : Int)) (k : G p l e R s m args below meth c Q b D cA nL n ad Z cells slots tgt ls st S) : G p l e R s m args below meth c Q b D cA nL n ad Z cells slots pc ls st S := fun H locs lsA hP hD hS hl => lv_goto K.1 K.2.1 d ht (k H locs lsA hP hD hS hl)
theorem g_ifnonnull (K : CX p s m args meth c b D cA cc own nL ret) {x : Nat} {off : Int} {tgt : Nat} (d : decode cc pc = .ok (.ifnonnull off, 3)) (ht : (pc : Int) + off = (tgt : Int)) (k : G p l e R s m args below meth c Q b D cA nL n ad Z cells slots tgt ls st S) : G p l e R s m args below meth c Q b D cA nL n ad Z cells slots pc ls (.ref x :: st) S := fun H locs lsA hP hD hS hl => lv_ifnonnull K.1 K.2.1 d ht (k H locs lsA hP hD hS hl)
theorem g_ifnonnullN (K : CX p s m args meth c b D cA cc own nL ret) {off : Int} (d : decode cc pc = .ok (.ifnonnull off, 3)) (k : G p l e R s m args below meth c Q b D cA nL n ad Z cells slots (pc + 3) ls st S) : G p l e R s m args below meth c Q b D cA nL n ad Z cells slots pc ls (.null :: st) S := fun H locs lsA hP hD hS hl => lv_ifnonnullN K.1 K.2.1 d (k H locs lsA hP hD hS hl)
theorem g_ifnull (K : CX p s m args meth c b D cA cc own nL ret) {x : Nat} {off : Int} (d : decode cc pc = .ok (.ifnull off, 3)) (k : G p l e R s m args below meth c Q b D cA nL n ad Z cells slots (pc + 3) ls st S) : G p l e R s m args below meth c Q b D cA nL n ad Z cells slots pc ls (.ref x :: st) S := fun H locs lsA hP hD hS hl => lv_ifnull K.1 K.2.1 d (k H locs lsA hP hD hS hl)
theorem g_ifnullN (K : CX p s m args meth c b D cA cc own nL ret) {off : Int} {tgt : Nat} (d : decode cc pc = .ok (.ifnull off, 3)) (ht : (pc : Int) + off = (tgt : Int)) (k : G p l e R s m args below meth c Q b D cA nL n ad Z cells slots tgt ls st S) : G p l e R s m args below meth c Q b D cA nL n ad Z cells slots pc ls (.null :: st) S := fun H locs lsA hP hD hS hl => lv_ifnullN K.1 K.2.1 d ht (k H locs lsA hP hD hS hl)
theorem g_tin (K : CX p s m args meth c b D cA cc own nL ret) {df lo hi off : Int} {offs : Array Int} {len tgt : Nat} {x : Int32} (d : decode cc pc = .ok (.tableswitch df lo hi offs, len)) (h1 : ¬ x.toInt < lo) (h2 : ¬ hi < x.toInt) (ho : offs[(x.toInt - lo).toNat]? = some off) (ht : (pc : Int) + off = (tgt : Int)) (k : G p l e R s m args below meth c Q b D cA nL n ad Z cells slots tgt ls st S) : G p l e R s m args below meth c Q b D cA nL n ad Z cells slots pc ls (.int x :: st) S := fun H locs lsA hP hD hS hl => lv_tableIn K.1 K.2.1 d h1 h2 ho ht (k H locs lsA hP hD hS hl)
theorem g_tout (K : CX p s m args meth c b D cA cc own nL ret) {df lo hi : Int} {offs : Array Int} {len tgt : Nat} {x : Int32} (d : decode cc pc = .ok (.tableswitch df lo hi offs, len)) (h : x.toInt < lo ∨ hi < x.toInt) (ht : (pc : Int) + df = (tgt : Int)) (k : G p l e R s m args below meth c Q b D cA nL n ad Z cells slots tgt ls st S) : G p l e R s m args below meth c Q b D cA nL n ad Z cells slots pc ls (.int x :: st) S := fun H locs lsA hP hD hS hl => lv_tableOut K.1 K.2.1 d h ht (k H locs lsA hP hD hS hl)
theorem g_lookup (K : CX p s m args meth c b D cA cc own nL ret) {df off : Int} {ps : Array (Int × Int)} {len tgt : Nat} {x : Int32} (d : decode cc pc = .ok (.lookupswitch df ps, len)) (hp : (ps.toList.zip (ps.toList.drop 1)).all (fun (a, next) => a.1 < next.1) = true) (ho : Op.lookupswitch.offset ps.toList df x.toInt = off) (ht : (pc : Int) + off = (tgt : Int)) (k : G p l e R s m args below meth c Q b D cA nL n ad Z cells slots tgt ls st S) : G p l e R s m args below meth c Q b D cA nL n ad Z cells slots pc ls (.int x :: st) S := fun H locs lsA hP hD hS hl => lv_lookup K.1 K.2.1 d hp ho ht (k H locs lsA hP hD hS hl)
theorem g_mmax (K : CX p s m args meth c b D cA cc own nL ret) {i : Nat} {x y : Int32} (d : decode cc pc = .ok (.invokestatic i, 3)) (hm : Cond.methodLink own i Lib.Math.max.name ∈ BIG) (hw : 1 ≤ R.frames ∧ (st.map fun v => v.category).sum + 13 ≤ R.locals ∧ cells ≤ R.cells ∧ slots ≤ R.slots) (k : G p l e R s m args below meth c Q b D cA nL n ad Z cells slots (pc + 3) ls (.int (if x < y then y else x) :: st) S) : G p l e R s m args below meth c Q b D cA nL n ad Z cells slots pc ls (.int y :: .int x :: st) S := fun H locs lsA hP hD hS hl => va_mmax K.1 K.2.1 (K.2.2.1.trans hl.1.symm) K.2.2.2.1 (K.2.2.2.2.1 _ hm) (K.2.2.2.2.1 _ wm_max_s) (K.2.2.2.2.1 _ wm_i) (K.2.2.2.2.1 _ wm_max_c) hw.1 hw.2.1 hw.2.2.1 hw.2.2.2 d (k H locs lsA hP hD hS hl)
theorem g_mmin (K : CX p s m args meth c b D cA cc own nL ret) {i : Nat} {x y : Int32} (d : decode cc pc = .ok (.invokestatic i, 3)) (hm : Cond.methodLink own i Lib.Math.min.name ∈ BIG) (hw : 1 ≤ R.frames ∧ (st.map fun v => v.category).sum + 13 ≤ R.locals ∧ cells ≤ R.cells ∧ slots ≤ R.slots) (k : G p l e R s m args below meth c Q b D cA nL n ad Z cells slots (pc + 3) ls (.int (if y < x then y else x) :: st) S) : G p l e R s m args below meth c Q b D cA nL n ad Z cells slots pc ls (.int y :: .int x :: st) S := fun H locs lsA hP hD hS hl => va_mmin K.1 K.2.1 (K.2.2.1.trans hl.1.symm) K.2.2.2.1 (K.2.2.2.2.1 _ hm) (K.2.2.2.2.1 _ wm_min_s) (K.2.2.2.2.1 _ wm_i) (K.2.2.2.2.1 _ wm_min_c) hw.1 hw.2.1 hw.2.2.1 hw.2.2.2 d (k H locs lsA hP hD hS hl)
theorem g_mabs (K : CX p s m args meth c b D cA cc own nL ret) {i : Nat} {x : Int32} (d : decode cc pc = .ok (.invokestatic i, 3)) (hm : Cond.methodLink own i Lib.Math.abs.name ∈ BIG) (hw : 1 ≤ R.frames ∧ (st.map fun v => v.category).sum + 13 ≤ R.locals ∧ cells ≤ R.cells ∧ slots ≤ R.slots) (k : G p l e R s m args below meth c Q b D cA nL n ad Z cells slots (pc + 3) ls (.int (if 0 ≤ x then x else 0 - x) :: st) S) : G p l e R s m args below meth c Q b D cA nL n ad Z cells slots pc ls (.int x :: st) S := fun H locs lsA hP hD hS hl => va_mabs K.1 K.2.1 (K.2.2.1.trans hl.1.symm) K.2.2.2.1 (K.2.2.2.2.1 _ hm) (K.2.2.2.2.1 _ wm_abs_s) (K.2.2.2.2.1 _ wm_i) (K.2.2.2.2.1 _ wm_abs_c) hw.1 hw.2.1 hw.2.2.1 hw.2.2.2 d (k H locs lsA hP hD hS hl)
theorem bx_at {b : Nat} {D : va_G} {cA : Nat → ClassId} {s : State} {t0 : Nat} {q : ClassId × FieldType} (hK : va_K D vwCl (tysA cA) s) (h : (tysA cA)[t0]? = some q) : (tysA cA)[t0]? = some q := h
set_option maxHeartbeats 1000000 in
theorem g_getv (K : CX p s m args meth c b D cA cc own nL ret) {k ci i index : Nat} {v : Value} (hL : LK own index ci i) (d : decode cc pc = .ok (.getfield index, 3)) (hk : kd k = ci) (hn : k < n) (hnN : n ≤ NN) (hv : fv ad Z S k i = v) (kk : G p l e R s m args below meth c Q b D cA nL n ad Z cells slots (pc + 3) ls (v :: st) S) : G p l e R s m args below meth c Q b D cA nL n ad Z cells slots pc ls (.ref (ad k) :: st) S := by
  intro H locs lsA hP hD hS hl
  obtain ⟨⟨C, T, N⟩, hr, hi, hlk⟩ := hL
  have h8 : ci < 8 := (vw_lt hr)
  have hin := (bigX ci _ hr).1
  subst hk
  have hln : ln k = N := ln_obj k (Nat.lt_of_lt_of_le hn hnN) _ hr
  have hfs : ((List.range (ln k)).map (fv ad Z S k))[i]? = some v := by
    rw [List.getElem?_map, List.getElem?_range (by rw [hln]; exact hi), Option.map_some, hv]
  rcases hlk with hlk | ⟨host, hlk⟩
  · exact va_get (ref := (T i).1) K.1 K.2.1 K.2.2.2.2.1 hin K.2.2.2.1 K.2.2.2.2.2.1 hP k (by rw [wl_get hn, ce_obj rfl h8]) hr i hi (K.2.2.2.2.1 _ hlk) (fun _ h => h) hfs d (kk H locs lsA hP hD hS hl)
  · exact va_getN (ref := (T i).1) K.1 K.2.1 K.2.2.2.2.1 hin K.2.2.2.1 K.2.2.2.2.2.1 hP k (by rw [wl_get hn, ce_obj rfl h8]) hr i hi (va_Nw.use rfl (K.2.2.2.2.2.2.2.2.2.2 _ hlk)) (fun _ h => h) hfs d (kk H locs lsA hP hD hS hl)
/-- an int or boolean field is read -/
theorem g_geti (K : CX p s m args meth c b D cA cc own nL ret) {k ci i index : Nat} (hL : LK own index ci i) (d : decode cc pc = .ok (.getfield index, 3)) (hR : isR ci i = false) (hk : kd k = ci) (hn : k < n) (hnN : n ≤ NN) {v : Int32} (hv : S k i = v) (kk : G p l e R s m args below meth c Q b D cA nL n ad Z cells slots (pc + 3) ls (.int v :: st) S) : G p l e R s m args below meth c Q b D cA nL n ad Z cells slots pc ls (.ref (ad k) :: st) S :=
  g_getv K hL d hk hn hnN (by unfold fv; rw [hk, if_neg (by rw [hR]; decide), hv]) kk
/-- a reference field is read -/
theorem g_getr (K : CX p s m args meth c b D cA cc own nL ret) {k ci i index j : Nat} (hL : LK own index ci i) (d : decode cc pc = .ok (.getfield index, 3)) (hR : isR ci i = true) (hc : ci < 8) (hk : kd k = ci) (hn : k < n) (hnN : n ≤ NN) (hz : Z k i = true) (hj : rs k i = j) (kk : G p l e R s m args below meth c Q b D cA nL n ad Z cells slots (pc + 3) ls (.ref (ad j) :: st) S) : G p l e R s m args below meth c Q b D cA nL n ad Z cells slots pc ls (.ref (ad k) :: st) S :=
  g_getv K hL d hk hn hnN (by unfold fv rf; rw [hk, if_pos hR, if_pos hz, if_neg (by omega), hj]) kk
theorem fv_map_set {k i : Nat} {v : Value} {Z' : Nat → Nat → Bool} {S' : ST} (hv : v = fv ad Z' S' k i) (ho : ∀ j, j ≠ i → fv ad Z' S' k j = fv ad Z S k j) : ((List.range (ln k)).map (fv ad Z S k)).set i v = (List.range (ln k)).map (fv ad Z' S' k) := by
  apply List.ext_getElem?
  intro j
  rw [List.getElem?_set, List.length_map, List.length_range]
  by_cases e : i = j
  · subst e
    rw [if_pos rfl]
    split
    · next h => rw [List.getElem?_map, List.getElem?_range h, Option.map_some, hv]
    · next h => simp [h]
  · rw [if_neg e, List.getElem?_map, List.getElem?_map]
    by_cases h : j < ln k
    · rw [List.getElem?_range h, Option.map_some, Option.map_some, ho j (fun q => e q.symm)]
    · simp [h]
set_option maxHeartbeats 1000000 in
/-- an int or boolean field is written -/
theorem g_puti (K : CX p s m args meth c b D cA cc own nL ret) {k ci i index : Nat} {x : Int32} {ty : FieldType} (hL : LK own index ci i) (hQ : LQ ci i ty) (d : decode cc pc = .ok (.putfield index, 3)) (hx : narrow ty (.int x) = .int x ∧ fits ty (.int x) = true) (hR : isR ci i = false) (hk : kd k = ci) (hn : k < n) (hnN : n ≤ NN) (kk : G p l e R s m args below meth c Q b D cA nL n ad Z cells slots (pc + 3) ls st (stw S k i x)) : G p l e R s m args below meth c Q b D cA nL n ad Z cells slots pc ls (.int x :: .ref (ad k) :: st) S := by
  intro H locs lsA hP hD hS hl
  obtain ⟨⟨C, T, N⟩, hr, hi, hlk⟩ := hL
  obtain ⟨r2, hr2, hfin, hty⟩ := hQ
  rw [hr] at hr2
  cases hr2
  have h8 : ci < 8 := (vw_lt hr)
  obtain ⟨hin, ⟨ty0, hty0⟩, hnm⟩ := bigX ci _ hr
  subst hk
  have hln : ln k = N := ln_obj k (Nat.lt_of_lt_of_le hn hnN) _ hr
  have hset : (wl cA n ad Z S).set k (ad k, .inr (kd k, ((List.range (ln k)).map (fv ad Z S k)).set i (.int x))) = wl cA n ad Z (stw S k i x) := by
    refine wl_set hn ?_ (fun j _ hj => ce_congr (stw_n hj))
    rw [ce_obj rfl h8, fv_map_set (Z' := Z) (S' := stw S k i x)]
    · unfold fv
      rw [if_neg (by rw [hR]; decide), stw_s]
      simp [upd]
    · intro j hj
      unfold fv rf
      rw [stw_s]
      rw [show upd (S k) i x j = S k j from if_neg hj]
  have hlen : i < ((List.range (ln k)).map (fv ad Z S k)).length := by simp [hln, hi]
  have hgo : ∀ (H1 : Heap) (locs1 : List Loc), va_P D vwCl ((wl cA n ad Z S).set k (ad k, .inr (kd k, ((List.range (ln k)).map (fv ad Z S k)).set i (.int x)))) H1 → va_D (aF b) ((wl cA n ad Z S).set k (ad k, .inr (kd k, ((List.range (ln k)).map (fv ad Z S k)).set i (.int x)))) → va_S (aF b) s.heap H1 locs1 → W p l e R s m args below meth c H1 locs1 cells slots Q (F0 m (pc + 3) lsA st) := by
    intro H1 locs1 h1 h2 h3
    rw [hset] at h1 h2
    exact kk H1 locs1 lsA h1 h2 h3 hl
  rcases hlk with hlk | ⟨host, hlk⟩
  · exact va_put (ref := (T i).1) K.1 K.2.1 K.2.2.2.2.1 hin ty0 hty0 hnm K.2.2.2.1 K.2.2.2.2.2.1 hP hD hS k (by rw [wl_get hn, ce_obj rfl h8]) hr i hi (K.2.2.2.2.1 _ hlk) (fun _ h => h) hfin hty hx.1 hx.2 hlen d hgo
  · exact va_putN (ref := (T i).1) K.1 K.2.1 K.2.2.2.2.1 hin ty0 hty0 hnm K.2.2.2.1 K.2.2.2.2.2.1 hP hD hS k (by rw [wl_get hn, ce_obj rfl h8]) hr i hi (va_Nw.use rfl (K.2.2.2.2.2.2.2.2.2.2 _ hlk)) (fun _ h => h) hfin hty hx.1 hx.2 hlen d hgo
theorem put_i (x : Int32) : narrow .int (.int x) = .int x ∧ fits .int (.int x) = true := ⟨rfl, rfl⟩
theorem put_z {x : Int32} (h : x = 0 ∨ x = 1) : narrow .boolean (.int x) = .int x ∧ fits .boolean (.int x) = true := by
  rcases h with rfl | rfl <;> decide
theorem vin {i : Int32} {j N : Nat} (hj : i = nI j) (h : j < N) (hN : N < 2 ^ 31) : vp_in i N ∧ i.toNatClampNeg = j := by
  subst hj
  exact ⟨vp_in_nI h hN, nI_clamp (Nat.lt_trans h hN)⟩
theorem ln_big : ∀ k, ln k < 2 ^ 31 := by
  intro k
  unfold ln
  by_cases h : k < lnL.length
  · have : ∀ x ∈ lnL, x < 2 ^ 31 := by decide +kernel
    rw [List.getD_eq_getElem?_getD, List.getElem?_eq_getElem h]
    exact this _ (List.getElem_mem h)
  · rw [List.getD_eq_getElem?_getD, List.getElem?_eq_none (by omega)]
    decide
theorem g_iald (K : CX p s m args meth c b D cA cc own nL ret) {k j : Nat} {i : Int32} (d : decode cc pc = .ok (.iaload, 1)) (hj : i = nI j) {L : Nat} (hL : ln k = L) (hlt : j < L) (hk : kd k = 8) (hn : k < n) {v : Int32} (hv : S k j = v) (kk : G p l e R s m args below meth c Q b D cA nL n ad Z cells slots (pc + 1) ls (.int v :: st) S) : G p l e R s m args below meth c Q b D cA nL n ad Z cells slots pc ls (.int i :: .ref (ad k) :: st) S := by
  intro H locs lsA hP hD hS hl
  obtain ⟨h1, h2⟩ := vin hj (hL ▸ hlt : j < ln k) (ln_big k)
  exact va_iald K.1 K.2.1 K.2.2.2.2.2.1 hP k 0 (by rw [wl_get hn, ce_num hk (by decide) (by decide)]) rfl h1 d (by rw [h2, hv]; exact kk H locs lsA hP hD hS hl)
theorem g_zald (K : CX p s m args meth c b D cA cc own nL ret) {k j : Nat} {i : Int32} (d : decode cc pc = .ok (.baload, 1)) (hj : i = nI j) {L : Nat} (hL : ln k = L) (hlt : j < L) (hk : kd k = 9) (hn : k < n) {v : Int32} (hv : S k j = v) (kk : G p l e R s m args below meth c Q b D cA nL n ad Z cells slots (pc + 1) ls (.int v :: st) S) : G p l e R s m args below meth c Q b D cA nL n ad Z cells slots pc ls (.int i :: .ref (ad k) :: st) S := by
  intro H locs lsA hP hD hS hl
  obtain ⟨h1, h2⟩ := vin hj (hL ▸ hlt : j < ln k) (ln_big k)
  exact va_zald K.1 K.2.1 K.2.2.2.2.2.1 hP k 1 (by rw [wl_get hn, ce_num hk (by decide) (by decide)]) rfl h1 d (by rw [h2, hv]; exact kk H locs lsA hP hD hS hl)
theorem g_cald (K : CX p s m args meth c b D cA cc own nL ret) {k j : Nat} {i : Int32} (d : decode cc pc = .ok (.caload, 1)) (hj : i = nI j) {L : Nat} (hL : ln k = L) (hlt : j < L) (hk : kd k = 10) (hn : k < n) {v : Int32} (hv : S k j = v) (kk : G p l e R s m args below meth c Q b D cA nL n ad Z cells slots (pc + 1) ls (.int v :: st) S) : G p l e R s m args below meth c Q b D cA nL n ad Z cells slots pc ls (.int i :: .ref (ad k) :: st) S := by
  intro H locs lsA hP hD hS hl
  obtain ⟨h1, h2⟩ := vin hj (hL ▸ hlt : j < ln k) (ln_big k)
  exact va_cald K.1 K.2.1 K.2.2.2.2.2.1 hP k 2 (by rw [wl_get hn, ce_num hk (by decide) (by decide)]) rfl h1 d (by rw [h2, hv]; exact kk H locs lsA hP hD hS hl)
theorem g_iast (K : CX p s m args meth c b D cA cc own nL ret) {k j : Nat} {i x x2 : Int32} (d : decode cc pc = .ok (.iastore, 1)) (hj : i = nI j) {L : Nat} (hL : ln k = L) (hlt : j < L) (hk : kd k = 8) (hn : k < n) (hx : x = x2) (kk : G p l e R s m args below meth c Q b D cA nL n ad Z cells slots (pc + 1) ls st (stw S k j x2)) : G p l e R s m args below meth c Q b D cA nL n ad Z cells slots pc ls (.int x :: .int i :: .ref (ad k) :: st) S := by
  intro H locs lsA hP hD hS hl
  obtain ⟨h1, h2⟩ := vin hj (hL ▸ hlt : j < ln k) (ln_big k)
  have hset : (wl cA n ad Z S).set k (ad k, .inl (cA 8, ln k, .inl (upd (S k) i.toNatClampNeg (x)))) = wl cA n ad Z (stw S k j x2) := by
    refine wl_set hn ?_ (fun a _ ha => ce_congr (stw_n ha))
    rw [ce_num hk (by decide) (by decide), stw_s, h2, hx]
  exact va_iast K.1 K.2.1 K.2.2.2.2.2.1 hP hD hS k 0 (by rw [wl_get hn, ce_num hk (by decide) (by decide)]) rfl h1 d (fun H1 locs1 a1 a2 a3 => kk H1 locs1 lsA (by rw [← hset]; exact a1) (by rw [← hset]; exact a2) a3 hl)
theorem g_zast (K : CX p s m args meth c b D cA cc own nL ret) {k j : Nat} {i x x2 : Int32} (d : decode cc pc = .ok (.bastore, 1)) (hj : i = nI j) {L : Nat} (hL : ln k = L) (hlt : j < L) (hk : kd k = 9) (hn : k < n) (hx : vp_nar .boolean x = x2) (kk : G p l e R s m args below meth c Q b D cA nL n ad Z cells slots (pc + 1) ls st (stw S k j x2)) : G p l e R s m args below meth c Q b D cA nL n ad Z cells slots pc ls (.int x :: .int i :: .ref (ad k) :: st) S := by
  intro H locs lsA hP hD hS hl
  obtain ⟨h1, h2⟩ := vin hj (hL ▸ hlt : j < ln k) (ln_big k)
  have hset : (wl cA n ad Z S).set k (ad k, .inl (cA 9, ln k, .inl (upd (S k) i.toNatClampNeg (vp_nar .boolean x)))) = wl cA n ad Z (stw S k j x2) := by
    refine wl_set hn ?_ (fun a _ ha => ce_congr (stw_n ha))
    rw [ce_num hk (by decide) (by decide), stw_s, h2, hx]
  exact va_zast K.1 K.2.1 K.2.2.2.2.2.1 hP hD hS k 1 (by rw [wl_get hn, ce_num hk (by decide) (by decide)]) rfl h1 d (fun H1 locs1 a1 a2 a3 => kk H1 locs1 lsA (by rw [← hset]; exact a1) (by rw [← hset]; exact a2) a3 hl)
theorem g_cast (K : CX p s m args meth c b D cA cc own nL ret) {k j : Nat} {i x x2 : Int32} (d : decode cc pc = .ok (.castore, 1)) (hj : i = nI j) {L : Nat} (hL : ln k = L) (hlt : j < L) (hk : kd k = 10) (hn : k < n) (hx : vp_nar .char x = x2) (kk : G p l e R s m args below meth c Q b D cA nL n ad Z cells slots (pc + 1) ls st (stw S k j x2)) : G p l e R s m args below meth c Q b D cA nL n ad Z cells slots pc ls (.int x :: .int i :: .ref (ad k) :: st) S := by
  intro H locs lsA hP hD hS hl
  obtain ⟨h1, h2⟩ := vin hj (hL ▸ hlt : j < ln k) (ln_big k)
  have hset : (wl cA n ad Z S).set k (ad k, .inl (cA 10, ln k, .inl (upd (S k) i.toNatClampNeg (vp_nar .char x)))) = wl cA n ad Z (stw S k j x2) := by
    refine wl_set hn ?_ (fun a _ ha => ce_congr (stw_n ha))
    rw [ce_num hk (by decide) (by decide), stw_s, h2, hx]
  exact va_cast K.1 K.2.1 K.2.2.2.2.2.1 hP hD hS k 2 (by rw [wl_get hn, ce_num hk (by decide) (by decide)]) rfl h1 d (fun H1 locs1 a1 a2 a3 => kk H1 locs1 lsA (by rw [← hset]; exact a1) (by rw [← hset]; exact a2) a3 hl)
theorem g_alen (K : CX p s m args meth c b D cA cc own nL ret) {k : Nat} {v : Int32} (d : decode cc pc = .ok (.arraylength, 1)) (hk : kd k = 8) (hn : k < n) (hv : nI (ln k) = v) (kk : G p l e R s m args below meth c Q b D cA nL n ad Z cells slots (pc + 1) ls (.int v :: st) S) : G p l e R s m args below meth c Q b D cA nL n ad Z cells slots pc ls (.ref (ad k) :: st) S := by
  intro H locs lsA hP hD hS hl
  exact va_alen (x := (ln k, .inl (S k))) K.1 K.2.1 K.2.2.2.2.2.1 hP k 0 (by rw [wl_get hn, ce_num hk (by decide) (by decide)]) rfl hv d (kk H locs lsA hP hD hS hl)
theorem g_aald (K : CX p s m args meth c b D cA cc own nL ret) {k ki j t : Nat} {i : Int32} (d : decode cc pc = .ok (.aaload, 1)) (hj : i = nI j) {L : Nat} (hL : ln k = L) (hlt : j < L) (hk : kd k = ki) (hki : ki = 11 ∨ ki = 12) (hn : k < n) (hz : Z k j = true) (ht : rf S k j = t) (kk : G p l e R s m args below meth c Q b D cA nL n ad Z cells slots (pc + 1) ls (.ref (ad t) :: st) S) : G p l e R s m args below meth c Q b D cA nL n ad Z cells slots pc ls (.int i :: .ref (ad k) :: st) S := by
  intro H locs lsA hP hD hS hl
  obtain ⟨h1, h2⟩ := vin hj (hL ▸ hlt : j < ln k) (ln_big k)
  have he : (va_rf ((fun i => if Z k i = true then some (ad (rf S k i)) else none) i.toNatClampNeg) : Value) = .ref (ad t) := by
    rw [h2]
    simp only [hz, if_true, ht, va_rf]
  have hgo : W p l e R s m args below meth c H locs cells slots Q (F0 m (pc + 1) lsA (va_rf ((fun i => if Z k i = true then some (ad (rf S k i)) else none) i.toNatClampNeg) :: st)) := by
    rw [he]
    exact kk H locs lsA hP hD hS hl
  rcases hki with rfl | rfl
  · exact va_aldq K.1 K.2.1 K.2.2.2.2.2.1 hP k 3 (by rw [wl_get hn, ce_ref hk (by decide)]) rfl h1 d hgo
  · exact va_aldq K.1 K.2.1 K.2.2.2.2.2.1 hP k 4 (by rw [wl_get hn, ce_ref hk (by decide)]) rfl h1 d hgo
set_option maxHeartbeats 1000000 in
/-- a state is put into a row of states -/
theorem g_aast (K : CX p s m args meth c b D cA cc own nL ret) {k j t : Nat} {i x : Int32} (d : decode cc pc = .ok (.aastore, 1)) (hj : i = nI j) {L : Nat} (hL : ln k = L) (hlt : j < L) (hk : kd k = 12) (hn : k < n) (ht : kd t = 5) (hx : x = nI t) (htn : t < n) (hnN : n ≤ NN) (kk : G p l e R s m args below meth c Q b D cA nL n ad Z cells slots (pc + 1) ls st (stw S k j x)) (hz : ∀ i, Z k i = true) : G p l e R s m args below meth c Q b D cA nL n ad Z cells slots pc ls (.ref (ad t) :: .int i :: .ref (ad k) :: st) S := by
  intro H locs lsA hP hD hS hl
  obtain ⟨h1, h2⟩ := vin hj (hL ▸ hlt : j < ln k) (ln_big k)
  have hset : (wl cA n ad Z S).set k (ad k, .inl (cA 12, ln k, .inr (.inr (.inr (.inr (va_up (fun i => if Z k i = true then some (ad (rf S k i)) else none) i.toNatClampNeg (some (ad t)))))))) = wl cA n ad Z (stw S k j x) := by
    refine wl_set hn ?_ (fun a _ ha => ce_congr (stw_n ha))
    rw [ce_ref hk (by decide), h2]
    congr 7
    funext a
    have e1 : ∀ S2 : ST, rf S2 k a = (S2 k a).toNatClampNeg := fun S2 => if_pos hk
    show (if a = j then some (ad t) else if Z k a = true then some (ad (rf S k a)) else none) = if Z k a = true then some (ad (rf (stw S k j x) k a)) else none
    rw [e1, e1, stw_s, if_pos (hz a), if_pos (hz a)]
    by_cases e : a = j
    · subst e
      have htb : t < 2 ^ 31 := Nat.lt_trans (Nat.lt_of_lt_of_le htn hnN) (by decide)
      rw [if_pos rfl, show upd (S k) a x a = x from if_pos rfl, hx, nI_clamp htb]
    · rw [if_neg e, show upd (S k) j x a = S k a from if_neg e]
  exact va_astq (r := (RX5, TX5, 5)) K.1 K.2.1 K.2.2.2.2.2.1 hP hD hS k 4 t 5 (by rw [wl_get hn, ce_ref hk (by decide)]) rfl (by rw [wl_get htn, ce_obj ht (by decide)]) rfl h1 d (fun H1 locs1 a1 a2 a3 => kk H1 locs1 lsA (by rw [← hset]; exact a1) (by rw [← hset]; exact a2) a3 hl)
/-- System.arraycopy of whole rows from 0 on -/
theorem g_copy (K : CX p s m args meth c b D cA cc own nL ret) {k k2 ki t N index : Nat} {x : Int32} (d : decode cc pc = .ok (.invokestatic index, 3)) (hm : Cond.methodLink own index arraycopyName ∈ BIG) (hk : kd k = ki) (hk2 : kd k2 = ki) (h8 : 8 ≤ ki) (h11 : ki < 11) (ht : ki = 8 + t) {ty : FieldType} (hty : (tysA cA)[t]? = some (cA ki, ty)) (hprim : refKind ty = false) (hx : x = nI N) (h1 : N ≤ ln k) (h2 : N ≤ ln k2) (hn : k < n) (hn2 : k2 < n) (hf : ∀ i, i < N → fits ty (.int (S k i)) = true) (hw : 1 ≤ R.frames ∧ (st.map fun v => v.category).sum + (nativeFrameWords "java/lang/System" "arraycopy" 5 + 11) ≤ R.locals)
    (kk : G p l e R s m args below meth c Q b D cA nL n ad Z cells slots (pc + 3) ls st (str S k2 (va_cpy (S k) (S k2) 0 0 N))) : G p l e R s m args below meth c Q b D cA nL n ad Z cells slots pc ls (.int x :: .int 0 :: .ref (ad k2) :: .int 0 :: .ref (ad k) :: st) S := by
  intro H locs lsA hP hD hS hl
  have hN : N < 2 ^ 31 := Nat.lt_of_le_of_lt h1 (ln_big k)
  have e0 : (0 : Int32).toNatClampNeg = 0 := by decide
  have eN : x.toNatClampNeg = N := by rw [hx]; exact nI_clamp hN
  have hset : (wl cA n ad Z S).set k2 (ad k2, .inl (cA ki, ln k2, .inl (va_cpy (S k) (S k2) (0 : Int32).toNatClampNeg (0 : Int32).toNatClampNeg x.toNatClampNeg))) = wl cA n ad Z (str S k2 (va_cpy (S k) (S k2) 0 0 N)) := by
    refine wl_set hn2 ?_ (fun a _ ha => ce_congr (str_n ha))
    rw [ce_num hk2 h8 h11, str_s, e0, eN]
  refine va_copyi K.1 K.2.1 (K.2.2.1.trans hl.1.symm) K.2.2.2.1 (K.2.2.2.2.1 _ hm) (K.2.2.2.2.1 _ wm_ac_n) (K.2.2.2.2.1 _ wm_ac_s) (K.2.2.2.2.1 _ wm_ac_i) K.2.2.2.2.2.1 hP hD hS k k2 t t (by rw [wl_get hn, ce_num hk h8 h11]) (by rw [wl_get hn2, ce_num hk2 h8 h11]) hty hty hprim (by decide) (by decide) (by rw [hx]; exact nI_pos hN) (by rw [e0, eN]; omega) (by rw [e0, eN]; omega) ?_ hw.1 hw.2 d (fun H1 locs1 a1 a2 a3 => kk H1 locs1 lsA (by rw [← hset]; exact a1) (by rw [← hset]; exact a2) a3 hl)
  rw [e0, eN]
  intro i hi
  rw [Nat.zero_add]
  exact hf i hi
/-- the world may be said in other words -/
theorem g_same {S' : ST} (hn : n ≤ NN) (h : ∀ k i, k < n → relv k i → S k i = S' k i) (kk : G p l e R s m args below meth c Q b D cA nL n ad Z cells slots pc ls st S') : G p l e R s m args below meth c Q b D cA nL n ad Z cells slots pc ls st S :=
  fun H locs lsA hP hD hS hl => kk H locs lsA (P_same hn h hP ln_obj) (D_same hD) hS hl
theorem g_copyW (K : CX p s m args meth c b D cA cc own nL ret) {k k2 ki t N index : Nat} {x : Int32} (d : decode cc pc = .ok (.invokestatic index, 3)) (hm : Cond.methodLink own index arraycopyName ∈ BIG) (hk : kd k = ki) (hk2 : kd k2 = ki) (h8 : 8 ≤ ki) (h11 : ki < 11) (ht : ki = 8 + t) {ty : FieldType} (hty : (tysA cA)[t]? = some (cA ki, ty)) (hprim : refKind ty = false) (hx : x = nI N) (h1 : N ≤ ln k) (h2 : ln k2 = N) (hn : k < n) (hn2 : k2 < n) (hnN : n ≤ NN) (hf : ∀ i, i < N → fits ty (.int (S k i)) = true) (hw : 1 ≤ R.frames ∧ (st.map fun v => v.category).sum + (nativeFrameWords "java/lang/System" "arraycopy" 5 + 11) ≤ R.locals)
    {f : Nat → Int32} (hv : S k = f) (kk : G p l e R s m args below meth c Q b D cA nL n ad Z cells slots (pc + 3) ls st (str S k2 f)) : G p l e R s m args below meth c Q b D cA nL n ad Z cells slots pc ls (.int x :: .int 0 :: .ref (ad k2) :: .int 0 :: .ref (ad k) :: st) S := by
  refine g_copy K d hm hk hk2 h8 h11 ht hty hprim hx h1 (Nat.le_of_eq h2.symm) hn hn2 hf hw (g_same (S' := str S k2 f) hnN (fun a i ha hr => ?_) kk)
  unfold str
  by_cases e : a = k2
  · subst e
    rw [if_pos rfl, if_pos rfl, ← hv]
    have hi : i < N := by rw [← h2]; exact hr.1
    unfold va_cpy
    rw [if_pos ⟨Nat.zero_le _, by omega⟩]
    congr 1
    omega
  · rw [if_neg e, if_neg e]
/-- ends -/
theorem PRE.of {s t : State} {H : Heap} {locs : List Loc} (K : CX p s m args meth c b D cA cc own nL ret) (ht : t.heap = H) (hW : s.WarmedH t.vm) (hP : va_P D vwCl (wl cA n ad Z S) H) (hD : va_D (aF b) (wl cA n ad Z S)) (hS : va_S (aF b) s.heap H locs) : PRE b D cA n ad Z S t := by
  subst ht
  exact ⟨Nat.le_trans K.2.2.2.2.2.2.1 hS.1, hP, hD, va_K.moved hW.alike K.2.2.2.2.2.1, (K.2.2.2.2.2.2.2.2.2.1.moved hW.alike).kept hS.1 (fun a h1 h2 => hS.2.1 a h1 h2), K.2.2.2.2.2.2.2.2.2.2.warm hW⟩
theorem g_iret {Qf : Option Value → ST → Prop} {x : Int32} (K : CX p s m args meth c b D cA cc own nL (some .int)) (d : decode cc pc = .ok (.ireturn, 1)) (h : Qf (some (.int x)) S) : G p l e R s m args below meth c (MQ below (QQ b D cA n ad Z Qf) args s cells slots (aF b)) b D cA nL n ad Z cells slots pc ls [.int x] S :=
  fun H locs lsA hP hD hS hl => W.iret K.1 K.2.1 K.2.2.2.2.2.2.2.1 (fun t ht hW => ⟨_, S, rfl, h, PRE.of K ht hW hP hD hS, hS.F ht⟩) hS.2.2 d K.2.2.2.2.2.2.2.2.1
theorem g_zret {Qf : Option Value → ST → Prop} {x : Int32} (K : CX p s m args meth c b D cA cc own nL (some .boolean)) (d : decode cc pc = .ok (.ireturn, 1)) (hx : x = 0 ∨ x = 1) (h : Qf (some (.int x)) S) : G p l e R s m args below meth c (MQ below (QQ b D cA n ad Z Qf) args s cells slots (aF b)) b D cA nL n ad Z cells slots pc ls [.int x] S :=
  fun H locs lsA hP hD hS hl => W.zret K.1 K.2.1 K.2.2.2.2.2.2.2.1 (put_z hx).1 (fun t ht hW => ⟨_, S, rfl, h, PRE.of K ht hW hP hD hS, hS.F ht⟩) hS.2.2 d K.2.2.2.2.2.2.2.2.1
theorem g_vret {Qf : Option Value → ST → Prop} (K : CX p s m args meth c b D cA cc own nL none) (d : decode cc pc = .ok (.return_, 1)) (h : Qf none S) : G p l e R s m args below meth c (MQ below (QQ b D cA n ad Z Qf) args s cells slots (aF b)) b D cA nL n ad Z cells slots pc ls [] S :=
  fun H locs lsA hP hD hS hl => W.vret K.1 K.2.1 K.2.2.2.2.2.2.2.1 (fun t ht hW => ⟨_, S, rfl, h, PRE.of K ht hW hP hD hS, hS.F ht⟩) hS.2.2 d K.2.2.2.2.2.2.2.2.1
theorem g_aret {Qf : Option Value → ST → Prop} {v : Value} {C : String} (K : CX p s m args meth c b D cA cc own nL (some (.object C))) (d : decode cc pc = .ok (.areturn, 1)) (hv : v = .null ∨ ∃ a, v = .ref a) (h : Qf (some v) S) : G p l e R s m args below meth c (MQ below (QQ b D cA n ad Z Qf) args s cells slots (aF b)) b D cA nL n ad Z cells slots pc ls [v] S :=
  fun H locs lsA hP hD hS hl => W.aret K.1 K.2.1 K.2.2.2.2.2.2.2.1 (Or.inl ⟨_, rfl⟩) hv (fun t ht hW => ⟨_, S, rfl, h, PRE.of K ht hW hP hD hS, hS.F ht⟩) hS.2.2 d K.2.2.2.2.2.2.2.2.1
theorem g_fret {Qf : Option Value → ST → Prop} {x : UInt32} (K : CX p s m args meth c b D cA cc own nL (some .float)) (d : decode cc pc = .ok (.freturn, 1)) (h : Qf (some (.float x)) S) : G p l e R s m args below meth c (MQ below (QQ b D cA n ad Z Qf) args s cells slots (aF b)) b D cA nL n ad Z cells slots pc ls [.float x] S :=
  fun H locs lsA hP hD hS hl => W.fret K.1 K.2.1 K.2.2.2.2.2.2.2.1 (fun t ht hW => ⟨_, S, rfl, h, PRE.of K ht hW hP hD hS, hS.F ht⟩) hS.2.2 d K.2.2.2.2.2.2.2.2.1
set_option maxHeartbeats 2000000 in
theorem g_run {y : MethodName} {ret2 : Option FieldType} {Qf : Option Value → ST → Prop} {a : Array Value} {rest st0 : List Value} (K : CX p s m args meth c b D cA cc own nL ret)
    (hr : ∀ (H : Heap) (locs : List Loc) (lsA : Array Slot), va_P D vwCl (wl cA n ad Z S) H → va_D (aF b) (wl cA n ad Z S) → va_S (aF b) s.heap H locs → lsA.size = nL → va_Run p l e R s m args below meth c H locs cells slots 0 0 (F0 m pc lsA st0) rest (QQ b D cA n ad Z Qf a) (aF b))
    (kk : ∀ v S', Qf v S' → G p l e R s m args below meth c Q b D cA nL n ad Z cells slots (pc + 3) ls (v.toList ++ rest) S') : G p l e R s m args below meth c Q b D cA nL n ad Z cells slots pc ls st0 S := by
  intro H locs lsA hP hD hS hl T hT X
  obtain ⟨v, st₀, t, T', L, h0, X', hL, e1, e2, ⟨v2, S', hv, hq, hpre, hz, hkeep⟩, stp⟩ := hr H locs lsA hP hD hS hl.1 T hT X
  cases hv
  rw [h0] at hz hkeep
  obtain ⟨q0, q1, q2, -, -⟩ := hpre
  obtain ⟨t2, a1, b1⟩ := kk v S' hq T'.heap (locs ++ L) lsA (by rw [e1]; exact q1) q2
    ⟨Nat.le_trans hS.1 (by rw [e1]; exact hz), fun q h1 h2 => by rw [e1, hkeep q (Nat.lt_of_lt_of_le h1 hS.1) h2]; exact hS.2.1 q h1 h2, fun q hq => by
      rcases List.mem_append.mp hq with h | h
      · exact hS.2.2 q h
      · exact hL q h⟩ hl T' rfl X'
  exact ⟨t2, stp t2 a1, b1⟩
theorem PRE.at {U : State} {H : Heap} {locs : List Loc} (K : CX p s m args meth c b D cA cc own nL ret) (hU : U.heap = H) (hW : s.WarmedH U.vm) (hP : va_P D vwCl (wl cA n ad Z S) H) (hD : va_D (aF b) (wl cA n ad Z S)) (hS : va_S (aF b) s.heap H locs) : PRE b D cA n ad Z S U := PRE.of K hU hW hP hD hS
set_option maxHeartbeats 2000000 in
/-- invokevirtual -/
theorem g_callV {y : MethodName} {code : ByteArray} {maxL d2 k np index : Nat} {ret2 : Option FieldType} {Qf : Option Value → ST → Prop} {av rest : List Value} {st0 : List Value} (K : CX p s m args meth c b D cA cc own nL ret) (hM : MT l b D cA n ad Z y code maxL ret2 d2 (.ref (ad k) :: av) S Qf) (hw : MW y code maxL ret2 np) (hl1 : ML own index y) (d : decode cc pc = .ok (.invokevirtual index, 3)) (hnp : av.length = np) (hk : kd k < 8) (hcl : ∃ r, vwCl[kd k]? = some r ∧ r.1 = y.cls) (hn : k < n) (hst : st0 = av.reverse ++ .ref (ad k) :: rest) (hrest : (rest.map fun v => v.category).sum ≤ 8) (hR : d2 + 1 ≤ R.frames ∧ 8 + (maxL + 11) + 32 * d2 ≤ R.locals) (hc : cells ≤ R.cells ∧ slots ≤ R.slots)
    (kk : ∀ v S', Qf v S' → G p l e R s m args below meth c Q b D cA nL n ad Z cells slots (pc + 3) ls (v.toList ++ rest) S') : G p l e R s m args below meth c Q b D cA nL n ad Z cells slots pc ls st0 S := by
  refine g_run (a := (Value.ref (ad k) :: av).toArray) (ret2 := ret2) (y := y) K (fun H locs lsA hP hD hS hsz => ?_) kk
  have hts := K.2.2.2.2.1
  have hrecv : ∃ cell : Cell, H[ad k]? = some cell ∧ cell.vm.isStatics = false ∧ s.vm.findClass y.cls = some cell.cls := by
    obtain ⟨r, h1, h2⟩ := hcl
    have := va_recv (q0 := k) (a := ad k) K.2.2.2.2.2.1 hP h1 (by rw [wl_get hn, ce_obj rfl hk])
    rw [h2] at this
    exact this
  have hpre : PreV s H y.cls (ad k) (va_Pc (.ref (ad k) :: av) (PRE b D cA n ad Z S)) av := ⟨PRE.blind, hrecv, fun U hU hW => ⟨rfl, PRE.of K hU hW hP hD hS⟩⟩
  rcases hl1 with h1 | ⟨host, h1⟩
  · refine va_runV (As := av) (rest := rest) ⟨K.1, K.2.1, K.2.2.1, K.2.2.2.1, hts⟩ hM (C := y.cls) (n := np) ⟨callB_of np hts (big_self hw.1) rfl rfl rfl (hts _ hw.2.2.2.1) (hts _ h1) hw.2.2.2.2 ⟨hR.1, hR.2⟩, hts _ hw.2.1, hts _ hw.2.2.1⟩ hpre rfl hnp hsz hst (lv_room hrest) d ⟨hc.1, hc.2⟩
  · refine va_runVN (As := av) (rest := rest) ⟨K.1, K.2.1, K.2.2.1, K.2.2.2.1, hts⟩ hM (C := y.cls) (n := np) (host := host) ⟨va_cnB np hts (big_self hw.1) rfl rfl rfl (K.2.2.2.2.2.2.2.2.2.2 _ h1) (hts _ hw.2.2.2.1) hw.2.2.2.2 ⟨hR.1, hR.2⟩, hts _ hw.2.1, hts _ hw.2.2.1⟩ hpre rfl hnp hsz hst (lv_room hrest) d ⟨hc.1, hc.2⟩
set_option maxHeartbeats 2000000 in
/-- invokestatic -/
theorem g_callS {y : MethodName} {code : ByteArray} {maxL d2 np index : Nat} {ret2 : Option FieldType} {Qf : Option Value → ST → Prop} {av rest : List Value} {st0 : List Value} (K : CX p s m args meth c b D cA cc own nL ret) (hM : MT l b D cA n ad Z y code maxL ret2 d2 av S Qf) (hw : MS y code maxL ret2 np) (hl1 : ML own index y) (d : decode cc pc = .ok (.invokestatic index, 3)) (hnp : av.length = np) (hst : st0 = av.reverse ++ rest) (hrest : (rest.map fun v => v.category).sum ≤ 8) (hR : d2 + 1 ≤ R.frames ∧ 8 + (maxL + 11) + 32 * d2 ≤ R.locals) (hc : cells ≤ R.cells ∧ slots ≤ R.slots)
    (kk : ∀ v S', Qf v S' → G p l e R s m args below meth c Q b D cA nL n ad Z cells slots (pc + 3) ls (v.toList ++ rest) S') : G p l e R s m args below meth c Q b D cA nL n ad Z cells slots pc ls st0 S := by
  refine g_run (a := av.toArray) (ret2 := ret2) (y := y) K (fun H locs lsA hP hD hS hsz => ?_) kk
  have hts := K.2.2.2.2.1
  have hpre : PreS s H (va_Pc av (PRE b D cA n ad Z S)) av := ⟨PRE.blind, fun U hU hW => ⟨rfl, PRE.of K hU hW hP hD hS⟩⟩
  rcases hl1 with h1 | ⟨host, h1⟩
  · exact va_runS (As := av) (rest := rest) ⟨K.1, K.2.1, K.2.2.1, K.2.2.2.1, hts⟩ hM (n := np) ⟨callB_of np hts (big_self hw.1) rfl rfl rfl (hts _ hw.2.2.1) (hts _ h1) hw.2.2.2 ⟨hR.1, hR.2⟩, hts _ hw.2.1⟩ hpre rfl hnp hsz hst (lv_room hrest) d ⟨hc.1, hc.2⟩
  · exact va_runSN (As := av) (rest := rest) ⟨K.1, K.2.1, K.2.2.1, K.2.2.2.1, hts⟩ hM (n := np) (host := host) ⟨va_cnB np hts (big_self hw.1) rfl rfl rfl (K.2.2.2.2.2.2.2.2.2.2 _ h1) (hts _ hw.2.2.1) hw.2.2.2 ⟨hR.1, hR.2⟩, hts _ hw.2.1, trivial⟩ hpre rfl hnp hsz hst (lv_room hrest) d ⟨hc.1, hc.2⟩
/-- shapes of ends -/
def RI (P : Int32 → ST → Prop) : Option Value → ST → Prop := fun v S' => ∃ r, v = some (.int r) ∧ P r S'
def RV (P : ST → Prop) : Option Value → ST → Prop := fun v S' => v = none ∧ P S'
def RF (P : UInt32 → ST → Prop) : Option Value → ST → Prop := fun v S' => ∃ r, v = some (.float r) ∧ P r S'
/-- an int is answered, the world is S1 -/
abbrev EI (f : Int32) (S1 : ST) : Option Value → ST → Prop := RI (fun r S' => r = f ∧ S' = S1)
abbrev EV (S1 : ST) : Option Value → ST → Prop := RV (fun S' => S' = S1)
theorem MT.weak {n : Nat} {ad : Nat → Nat} {Z : Nat → Nat → Bool} {y : MethodName} {code : ByteArray} {maxL : Nat} {ret2 : Option FieldType} {d : Nat} {av : List Value} {Q1 Q2 : Option Value → ST → Prop} (h : MT l b D cA n ad Z y code maxL ret2 d av S Q1) (hq : ∀ v S', Q1 v S' → Q2 v S') : MT l b D cA n ad Z y code maxL ret2 d av S Q2 := by
  intro p e ha hc hk s m args below hf h1 hP hK
  obtain ⟨k, o, g1, g2, g3, ⟨v, S', q1, q2, q3⟩, q4⟩ := h p e ha hc hk s m args below hf h1 hP hK
  exact ⟨k, o, g1, g2, g3, ⟨v, S', q1, hq v S' q2, q3⟩, q4⟩
theorem g_callVi {y : MethodName} {code : ByteArray} {maxL d2 k np index : Nat} {ret2 : Option FieldType} {f : Int32} {S1 : ST} {av rest : List Value} {st0 : List Value} (K : CX p s m args meth c b D cA cc own nL ret) (hM : MT l b D cA n ad Z y code maxL ret2 d2 (.ref (ad k) :: av) S (EI f S1)) (hw : MW y code maxL ret2 np) (hl1 : ML own index y) (d : decode cc pc = .ok (.invokevirtual index, 3)) (hst : st0 = av.reverse ++ .ref (ad k) :: rest) (hnp : av.length = np) (hcl : (vwCl[kd k]?).map (fun r => r.1) = some y.cls) (hn : k < n) (hrest : (rest.map fun v => v.category).sum ≤ 8) (hR : d2 + 1 ≤ R.frames ∧ 8 + (maxL + 11) + 32 * d2 ≤ R.locals) (hc : cells ≤ R.cells ∧ slots ≤ R.slots)
    (kk : G p l e R s m args below meth c Q b D cA nL n ad Z cells slots (pc + 3) ls (.int f :: rest) S1) : G p l e R s m args below meth c Q b D cA nL n ad Z cells slots pc ls st0 S := by
  obtain ⟨r0, h1, h2⟩ := Option.map_eq_some_iff.mp hcl
  exact g_callV K hM hw hl1 d hnp (vw_lt h1) ⟨r0, h1, h2⟩ hn hst hrest hR hc (fun v S2 h => by obtain ⟨r, rfl, rfl, rfl⟩ := h; exact kk)
theorem g_callVv {y : MethodName} {code : ByteArray} {maxL d2 k np index : Nat} {ret2 : Option FieldType} {S1 : ST} {av rest : List Value} {st0 : List Value} (K : CX p s m args meth c b D cA cc own nL ret) (hM : MT l b D cA n ad Z y code maxL ret2 d2 (.ref (ad k) :: av) S (EV S1)) (hw : MW y code maxL ret2 np) (hl1 : ML own index y) (d : decode cc pc = .ok (.invokevirtual index, 3)) (hst : st0 = av.reverse ++ .ref (ad k) :: rest) (hnp : av.length = np) (hcl : (vwCl[kd k]?).map (fun r => r.1) = some y.cls) (hn : k < n) (hrest : (rest.map fun v => v.category).sum ≤ 8) (hR : d2 + 1 ≤ R.frames ∧ 8 + (maxL + 11) + 32 * d2 ≤ R.locals) (hc : cells ≤ R.cells ∧ slots ≤ R.slots)
    (kk : G p l e R s m args below meth c Q b D cA nL n ad Z cells slots (pc + 3) ls rest S1) : G p l e R s m args below meth c Q b D cA nL n ad Z cells slots pc ls st0 S := by
  obtain ⟨r0, h1, h2⟩ := Option.map_eq_some_iff.mp hcl
  exact g_callV K hM hw hl1 d hnp (vw_lt h1) ⟨r0, h1, h2⟩ hn hst hrest hR hc (fun v S2 h => by obtain ⟨rfl, rfl⟩ := h; exact kk)
theorem g_callVpi {y : MethodName} {code : ByteArray} {maxL d2 k np index : Nat} {ret2 : Option FieldType} {P : Int32 → ST → Prop} {av rest : List Value} {st0 : List Value} (K : CX p s m args meth c b D cA cc own nL ret) (hM : MT l b D cA n ad Z y code maxL ret2 d2 (.ref (ad k) :: av) S (RI P)) (hw : MW y code maxL ret2 np) (hl1 : ML own index y) (d : decode cc pc = .ok (.invokevirtual index, 3)) (hst : st0 = av.reverse ++ .ref (ad k) :: rest) (hnp : av.length = np) (hcl : (vwCl[kd k]?).map (fun r => r.1) = some y.cls) (hn : k < n) (hrest : (rest.map fun v => v.category).sum ≤ 8) (hR : d2 + 1 ≤ R.frames ∧ 8 + (maxL + 11) + 32 * d2 ≤ R.locals) (hc : cells ≤ R.cells ∧ slots ≤ R.slots)
    (kk : ∀ r S2, P r S2 → G p l e R s m args below meth c Q b D cA nL n ad Z cells slots (pc + 3) ls (.int r :: rest) S2) : G p l e R s m args below meth c Q b D cA nL n ad Z cells slots pc ls st0 S := by
  obtain ⟨r0, h1, h2⟩ := Option.map_eq_some_iff.mp hcl
  exact g_callV K hM hw hl1 d hnp (vw_lt h1) ⟨r0, h1, h2⟩ hn hst hrest hR hc (fun v S2 h => by obtain ⟨r, rfl, h⟩ := h; exact kk r S2 h)
theorem g_callVpv {y : MethodName} {code : ByteArray} {maxL d2 k np index : Nat} {ret2 : Option FieldType} {P : ST → Prop} {av rest : List Value} {st0 : List Value} (K : CX p s m args meth c b D cA cc own nL ret) (hM : MT l b D cA n ad Z y code maxL ret2 d2 (.ref (ad k) :: av) S (RV P)) (hw : MW y code maxL ret2 np) (hl1 : ML own index y) (d : decode cc pc = .ok (.invokevirtual index, 3)) (hst : st0 = av.reverse ++ .ref (ad k) :: rest) (hnp : av.length = np) (hcl : (vwCl[kd k]?).map (fun r => r.1) = some y.cls) (hn : k < n) (hrest : (rest.map fun v => v.category).sum ≤ 8) (hR : d2 + 1 ≤ R.frames ∧ 8 + (maxL + 11) + 32 * d2 ≤ R.locals) (hc : cells ≤ R.cells ∧ slots ≤ R.slots)
    (kk : ∀ S2, P S2 → G p l e R s m args below meth c Q b D cA nL n ad Z cells slots (pc + 3) ls rest S2) : G p l e R s m args below meth c Q b D cA nL n ad Z cells slots pc ls st0 S := by
  obtain ⟨r0, h1, h2⟩ := Option.map_eq_some_iff.mp hcl
  exact g_callV K hM hw hl1 d hnp (vw_lt h1) ⟨r0, h1, h2⟩ hn hst hrest hR hc (fun v S2 h => by obtain ⟨rfl, h⟩ := h; exact kk S2 h)
theorem g_callVpf {y : MethodName} {code : ByteArray} {maxL d2 k np index : Nat} {ret2 : Option FieldType} {P : UInt32 → ST → Prop} {av rest : List Value} {st0 : List Value} (K : CX p s m args meth c b D cA cc own nL ret) (hM : MT l b D cA n ad Z y code maxL ret2 d2 (.ref (ad k) :: av) S (RF P)) (hw : MW y code maxL ret2 np) (hl1 : ML own index y) (d : decode cc pc = .ok (.invokevirtual index, 3)) (hst : st0 = av.reverse ++ .ref (ad k) :: rest) (hnp : av.length = np) (hcl : (vwCl[kd k]?).map (fun r => r.1) = some y.cls) (hn : k < n) (hrest : (rest.map fun v => v.category).sum ≤ 8) (hR : d2 + 1 ≤ R.frames ∧ 8 + (maxL + 11) + 32 * d2 ≤ R.locals) (hc : cells ≤ R.cells ∧ slots ≤ R.slots)
    (kk : ∀ r S2, P r S2 → G p l e R s m args below meth c Q b D cA nL n ad Z cells slots (pc + 3) ls (.float r :: rest) S2) : G p l e R s m args below meth c Q b D cA nL n ad Z cells slots pc ls st0 S := by
  obtain ⟨r0, h1, h2⟩ := Option.map_eq_some_iff.mp hcl
  exact g_callV K hM hw hl1 d hnp (vw_lt h1) ⟨r0, h1, h2⟩ hn hst hrest hR hc (fun v S2 h => by obtain ⟨r, rfl, h⟩ := h; exact kk r S2 h)
theorem g_callSi {y : MethodName} {code : ByteArray} {maxL d2 np index : Nat} {ret2 : Option FieldType} {f : Int32} {S1 : ST} {av rest : List Value} {st0 : List Value} (K : CX p s m args meth c b D cA cc own nL ret) (hM : MT l b D cA n ad Z y code maxL ret2 d2 av S (EI f S1)) (hw : MS y code maxL ret2 np) (hl1 : ML own index y) (d : decode cc pc = .ok (.invokestatic index, 3)) (hst : st0 = av.reverse ++ rest) (hnp : av.length = np) (hrest : (rest.map fun v => v.category).sum ≤ 8) (hR : d2 + 1 ≤ R.frames ∧ 8 + (maxL + 11) + 32 * d2 ≤ R.locals) (hc : cells ≤ R.cells ∧ slots ≤ R.slots)
    (kk : G p l e R s m args below meth c Q b D cA nL n ad Z cells slots (pc + 3) ls (.int f :: rest) S1) : G p l e R s m args below meth c Q b D cA nL n ad Z cells slots pc ls st0 S :=
  g_callS K hM hw hl1 d hnp hst hrest hR hc (fun v S2 h => by obtain ⟨r, rfl, rfl, rfl⟩ := h; exact kk)
theorem g_callSv {y : MethodName} {code : ByteArray} {maxL d2 np index : Nat} {ret2 : Option FieldType} {S1 : ST} {av rest : List Value} {st0 : List Value} (K : CX p s m args meth c b D cA cc own nL ret) (hM : MT l b D cA n ad Z y code maxL ret2 d2 av S (EV S1)) (hw : MS y code maxL ret2 np) (hl1 : ML own index y) (d : decode cc pc = .ok (.invokestatic index, 3)) (hst : st0 = av.reverse ++ rest) (hnp : av.length = np) (hrest : (rest.map fun v => v.category).sum ≤ 8) (hR : d2 + 1 ≤ R.frames ∧ 8 + (maxL + 11) + 32 * d2 ≤ R.locals) (hc : cells ≤ R.cells ∧ slots ≤ R.slots)
    (kk : G p l e R s m args below meth c Q b D cA nL n ad Z cells slots (pc + 3) ls rest S1) : G p l e R s m args below meth c Q b D cA nL n ad Z cells slots pc ls st0 S :=
  g_callS K hM hw hl1 d hnp hst hrest hR hc (fun v S2 h => by obtain ⟨rfl, rfl⟩ := h; exact kk)
theorem g_callSpi {y : MethodName} {code : ByteArray} {maxL d2 np index : Nat} {ret2 : Option FieldType} {P : Int32 → ST → Prop} {av rest : List Value} {st0 : List Value} (K : CX p s m args meth c b D cA cc own nL ret) (hM : MT l b D cA n ad Z y code maxL ret2 d2 av S (RI P)) (hw : MS y code maxL ret2 np) (hl1 : ML own index y) (d : decode cc pc = .ok (.invokestatic index, 3)) (hst : st0 = av.reverse ++ rest) (hnp : av.length = np) (hrest : (rest.map fun v => v.category).sum ≤ 8) (hR : d2 + 1 ≤ R.frames ∧ 8 + (maxL + 11) + 32 * d2 ≤ R.locals) (hc : cells ≤ R.cells ∧ slots ≤ R.slots)
    (kk : ∀ r S2, P r S2 → G p l e R s m args below meth c Q b D cA nL n ad Z cells slots (pc + 3) ls (.int r :: rest) S2) : G p l e R s m args below meth c Q b D cA nL n ad Z cells slots pc ls st0 S :=
  g_callS K hM hw hl1 d hnp hst hrest hR hc (fun v S2 h => by obtain ⟨r, rfl, h⟩ := h; exact kk r S2 h)
theorem g_callSpv {y : MethodName} {code : ByteArray} {maxL d2 np index : Nat} {ret2 : Option FieldType} {P : ST → Prop} {av rest : List Value} {st0 : List Value} (K : CX p s m args meth c b D cA cc own nL ret) (hM : MT l b D cA n ad Z y code maxL ret2 d2 av S (RV P)) (hw : MS y code maxL ret2 np) (hl1 : ML own index y) (d : decode cc pc = .ok (.invokestatic index, 3)) (hst : st0 = av.reverse ++ rest) (hnp : av.length = np) (hrest : (rest.map fun v => v.category).sum ≤ 8) (hR : d2 + 1 ≤ R.frames ∧ 8 + (maxL + 11) + 32 * d2 ≤ R.locals) (hc : cells ≤ R.cells ∧ slots ≤ R.slots)
    (kk : ∀ S2, P S2 → G p l e R s m args below meth c Q b D cA nL n ad Z cells slots (pc + 3) ls rest S2) : G p l e R s m args below meth c Q b D cA nL n ad Z cells slots pc ls st0 S :=
  g_callS K hM hw hl1 d hnp hst hrest hR hc (fun v S2 h => by obtain ⟨rfl, h⟩ := h; exact kk S2 h)
theorem g_callSpf {y : MethodName} {code : ByteArray} {maxL d2 np index : Nat} {ret2 : Option FieldType} {P : UInt32 → ST → Prop} {av rest : List Value} {st0 : List Value} (K : CX p s m args meth c b D cA cc own nL ret) (hM : MT l b D cA n ad Z y code maxL ret2 d2 av S (RF P)) (hw : MS y code maxL ret2 np) (hl1 : ML own index y) (d : decode cc pc = .ok (.invokestatic index, 3)) (hst : st0 = av.reverse ++ rest) (hnp : av.length = np) (hrest : (rest.map fun v => v.category).sum ≤ 8) (hR : d2 + 1 ≤ R.frames ∧ 8 + (maxL + 11) + 32 * d2 ≤ R.locals) (hc : cells ≤ R.cells ∧ slots ≤ R.slots)
    (kk : ∀ r S2, P r S2 → G p l e R s m args below meth c Q b D cA nL n ad Z cells slots (pc + 3) ls (.float r :: rest) S2) : G p l e R s m args below meth c Q b D cA nL n ad Z cells slots pc ls st0 S :=
  g_callS K hM hw hl1 d hnp hst hrest hR hc (fun v S2 h => by obtain ⟨r, rfl, h⟩ := h; exact kk r S2 h)
/-- a written-out row of settings is fetched, and read -/
theorem g_getsL (K : CX p s m args meth c b D cA cc own nL ret) {index : Nat} {N : String} (f : Nat → Int32) (hN : (N = "LEAST_SETTING" ∧ f = leastS) ∨ (N = "MOST_SETTING" ∧ f = mostS)) (d : decode cc pc = .ok (.getstatic index, 3)) (hlk : Cond.fieldLink own index "RollScales" N "[I" ∈ BIG) (kk : ∀ t0, va_T .int t0 6 (fun j => .int (f j)) (aF b) s s.heap → G p l e R s m args below meth c Q b D cA nL n ad Z cells slots (pc + 3) ls (.ref t0 :: st) S) : G p l e R s m args below meth c Q b D cA nL n ad Z cells slots pc ls st S := by
  intro H locs lsA hP hD hS hl
  obtain ⟨t0, t1, t2, z0, z1, z2, x0, x1, x2, -, -⟩ := K.2.2.2.2.2.2.2.2.2.1
  rcases hN with ⟨rfl, rfl⟩ | ⟨rfl, rfl⟩
  · exact va_gets K.1 K.2.1 z0 hS K.2.2.2.1 (K.2.2.2.2.1 _ hlk) (fun _ h => h) d (kk t0 x0 H locs lsA hP hD hS hl)
  · exact va_gets K.1 K.2.1 z1 hS K.2.2.2.1 (K.2.2.2.2.1 _ hlk) (fun _ h => h) d (kk t1 x1 H locs lsA hP hD hS hl)
theorem g_sald (K : CX p s m args meth c b D cA cc own nL ret) {t0 j : Nat} {i : Int32} {f : Nat → Int32} (hT : va_T .int t0 6 (fun j => .int (f j)) (aF b) s s.heap) (d : decode cc pc = .ok (.iaload, 1)) (hj : i = nI j) (hlt : j < 6) (kk : G p l e R s m args below meth c Q b D cA nL n ad Z cells slots (pc + 1) ls (.int (f j) :: st) S) : G p l e R s m args below meth c Q b D cA nL n ad Z cells slots pc ls (.int i :: .ref t0 :: st) S := by
  intro H locs lsA hP hD hS hl
  obtain ⟨h1, h2⟩ := vin hj hlt (by decide)
  exact va_ti K.1 K.2.1 hT hS h1 (by rw [h2]) d (kk H locs lsA hP hD hS hl)
end
