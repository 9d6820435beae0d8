theorem MRel_rt {S S2 : ST} {A : AS} (h : MRel S A) (hf : RtF S S2) : MRel S2 A := h.keep ⟨hf.2 2 (by decide) (by decide), hf.2 4 (by decide) (by decide), hf.2 6 (by decide) (by decide)⟩ (fun k hk => hf.1 k (by omega) (by omega))
theorem mp_rt {o : Int32 × AS} {S S2 : ST} {A : AS} {r : Int32} (h : o = (r, A)) (hA : MRel S A) (hf : RtF S S2) : MPost o S r S2 := mp_ok h (MRel_rt hA hf) (fun k hk => hf.1 k (by omega) (by omega))
set_option maxHeartbeats 4000000 in
set_option maxRecDepth 100000 in
theorem c_X7_fault {l : Launch} {b : Nat} {D : va_G} {cA : Nat → ClassId} {ad : Nat → Nat} {S : ST} {A : AS} {n : Nat} (hA : MRel S A) (hs : StOk (aZ A) n) : MT l b D cA NN ad zT yX7_fault cX7_fault 1 (some .int) 5 [.ref (ad 181)] S (RI (MPost (o_fault A, A) S)) := by
  refine MT.intro (j := 0) (ls := [some (.ref (ad 181))]) pn_X7 rfl rfl rfl (fun pr en s0 mi below meth c' K _ => ?_)
  refine g_aload_n K dX7_fault_0 rfl ?_
  refine g_callVpi K (c_X7_readText (f := aT A) (n := aL A) hA.2.2.2.1 hA.2.2.2.2.1 hA.2.2.2.2.2) mw_X7_readText ml_X7_179 dX7_fault_1 (by rfl) rfl rfl (by decide) (by simp [Value.category]) ⟨by decide, by decide⟩ ⟨by decide, by decide⟩ (fun r1 S1 h1 => ?_)
  obtain ⟨p, m, hX, hF, hm, hR⟩ := h1
  refine g_if_eq (tgt := 12) K dX7_fault_4 (by decide) (fun u4 => ?_) (fun u4 => ?_)
  · obtain ⟨_, hp⟩ := hR.resolve_right (fun q => by rw [u4] at q; exact absurd q.1 (by decide))
    have ho : o_fault A = nI p := by
      unfold o_fault
      rw [hp]
    refine g_aload_n K dX7_fault_12 rfl ?_
    refine g_geti K lk_X7_160 dX7_fault_13 rfl (rfl : kd 181 = 7) (by decide) (by decide) hX.1 ?_
    refine g_iret K dX7_fault_16 ⟨_, rfl, ?_⟩
    exact mp_rt (by rw [ho]) hA hF
  · obtain ⟨_, L, _, _, hp⟩ := hR.resolve_left (fun q => u4 q.1)
    have ho : o_fault A = -5 := by
      unfold o_fault
      rw [hp]
    refine g_bipush K dX7_fault_7 kb_m5 ?_
    refine g_goto (tgt := 16) K dX7_fault_9 (by decide) ?_
    refine g_iret K dX7_fault_16 ⟨_, rfl, ?_⟩
    exact mp_rt (by rw [ho]) hA hF
