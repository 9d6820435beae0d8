/-! A RUN, as numbers: settings se, places behind bh, what is borne br, lifted lf, speed sp, N axles -/
def abF (x : Int32) : Int32 := if 0 ≤ x then x else 0 - x
def ldF (se bh br : Nat → Int32) (sp : Int32) (N : Nat) (t : Int32) : Int32 := sumF (fun a => if 0 ≤ sp * t - bh a ∧ sp * t - bh a < se 0 then br a else 0) N
def ldR (se bh br : Nat → Int32) (sp : Int32) (N t : Nat) : Int32 := ldF se bh br sp N (nI t)
def swR (se bh br : Nat → Int32) (sp : Int32) (N : Nat) : Nat → Int32
  | 0 => 0 * se 2 / 100 + abF (ldR se bh br sp N 0 - 0) * se 1 / 100
  | t + 1 => swR se bh br sp N t * se 2 / 100 + abF (ldR se bh br sp N (t + 1) - ldR se bh br sp N t) * se 1 / 100
def rdF (ld sw : Int32) (t : Nat) : Int32 := if t % 4 = 0 then ld + sw else if t % 4 = 2 then (if ld - sw < 0 then 0 else ld - sw) else ld
def rdR (se bh br : Nat → Int32) (sp : Int32) (N t : Nat) : Int32 := rdF (ldR se bh br sp N t) (swR se bh br sp N t) t
def mnF (f : Nat → Int32) (a : Nat) (x : Int32) : Nat → Int32
  | 0 => x
  | k + 1 => if f (a + k) < mnF f a x k then f (a + k) else mnF f a x k
def mxF (f : Nat → Int32) (a : Nat) (x : Int32) : Nat → Int32
  | 0 => x
  | k + 1 => if mxF f a x k < f (a + k) then f (a + k) else mxF f a x k
/-- whether the readings f have settled at t, with the window w and the bound bo -/
def stF (f : Nat → Int32) (w : Nat) (bo : Int32) (t : Nat) : Int32 := if w ≤ t + 1 ∧ mxF f (t + 1 - w) (f t) (w - 1) - mnF f (t + 1 - w) (f t) (w - 1) ≤ bo then 1 else 0
def suF (f : Nat → Int32) (a : Nat) : Nat → Int32
  | 0 => 0
  | k + 1 => suF f a k + f (a + k)
def meF (f : Nat → Int32) (w t : Nat) : Int32 := suF f (t + 1 - w) w / nI w
/-- the levels: how many, the latest, the greatest, its tick, rises, their sum -/
def lv0 (i : Nat) : Int32 := if i = 0 then 0 else if i = 1 then -5 else if i = 2 then -5 else if i = 3 then -5 else 0
def offF (L : Nat → Int32) (mean tick bo : Int32) (i : Nat) : Int32 :=
  if 0 < L 0 ∧ abF (mean - L 1) ≤ bo then L i
  else if i = 0 then L 0 + 1 else if i = 1 then mean
  else if i = 2 then (if L 0 = 0 ∨ L 2 < mean then mean else L 2)
  else if i = 3 then (if L 0 = 0 ∨ L 2 < mean then tick else L 3)
  else if i = 4 then (if (if 0 < L 0 then L 1 else 0) < mean then L 4 + 1 else L 4)
  else if i = 5 then (if (if 0 < L 0 then L 1 else 0) < mean then L 5 + (mean - (if 0 < L 0 then L 1 else 0)) else L 5)
  else L i
def lvR (f : Nat → Int32) (w : Nat) (bo : Int32) : Nat → Nat → Int32
  | 0 => lv0
  | t + 1 => if stF f w bo t = 1 then offF (lvR f w bo t) (meF f w t) (nI t) bo else lvR f w bo t

set_option maxHeartbeats 4000000 in
set_option maxRecDepth 100000 in
theorem c_X3_forget {l : Launch} {b : Nat} {D : va_G} {cA : Nat → ClassId} {ad : Nat → Nat} {S : ST}  : MT l b D cA NN ad zT yX3_forget cX3_forget 1 none 0 [.ref (ad 175)] S (EV (str S 175 lv0)) := by
  refine MT.intro (j := 0) (ls := [some (.ref (ad 175))]) pn_X3 rfl rfl rfl (fun pr en s0 mi below meth c' K _ => ?_)
  refine g_aload_n K dX3_forget_0 rfl ?_
  refine g_iconst K dX3_forget_1 kc_0 ?_
  refine g_puti K lk_X3_9 lq_X3_0 dX3_forget_2 (put_i _) rfl (rfl : kd 175 = 3) (by decide) (by decide) ?_
  refine g_aload_n K dX3_forget_5 rfl ?_
  refine g_bipush K dX3_forget_6 kb_m5 ?_
  refine g_puti K lk_X3_15 lq_X3_1 dX3_forget_8 (put_i _) rfl (rfl : kd 175 = 3) (by decide) (by decide) ?_
  refine g_aload_n K dX3_forget_11 rfl ?_
  refine g_bipush K dX3_forget_12 kb_m5 ?_
  refine g_puti K lk_X3_18 lq_X3_2 dX3_forget_14 (put_i _) rfl (rfl : kd 175 = 3) (by decide) (by decide) ?_
  refine g_aload_n K dX3_forget_17 rfl ?_
  refine g_bipush K dX3_forget_18 kb_m5 ?_
  refine g_puti K lk_X3_21 lq_X3_3 dX3_forget_20 (put_i _) rfl (rfl : kd 175 = 3) (by decide) (by decide) ?_
  refine g_aload_n K dX3_forget_23 rfl ?_
  refine g_iconst K dX3_forget_24 kc_0 ?_
  refine g_puti K lk_X3_24 lq_X3_4 dX3_forget_25 (put_i _) rfl (rfl : kd 175 = 3) (by decide) (by decide) ?_
  refine g_aload_n K dX3_forget_28 rfl ?_
  refine g_iconst K dX3_forget_29 kc_0 ?_
  refine g_puti K lk_X3_27 lq_X3_5 dX3_forget_30 (put_i _) rfl (rfl : kd 175 = 3) (by decide) (by decide) ?_
  refine g_same (S' := str S 175 lv0) (Nat.le_refl _) (fun k i _ hr => ?_) (g_vret K dX3_forget_33 ⟨rfl, rfl⟩)
  by_cases hk : k = 175
  · subst hk
    have h6 : i < 6 := hr.1
    rcases (show i = 0 ∨ i = 1 ∨ i = 2 ∨ i = 3 ∨ i = 4 ∨ i = 5 by omega) with rfl | rfl | rfl | rfl | rfl | rfl <;> rfl
  · simp [stw_app, str_app, hk]
set_option maxHeartbeats 4000000 in
set_option maxRecDepth 100000 in
theorem c_X3_offer {l : Launch} {b : Nat} {D : va_G} {cA : Nat → ClassId} {ad : Nat → Nat} {S : ST} {x y z : Int32} (h0 : 0 ≤ S 175 0) : MT l b D cA NN ad zT yX3_offer cX3_offer 5 none 1 [.ref (ad 175), .int x, .int y, .int z] S (EV (str S 175 (offF (S 175) x y z))) := by
  refine MT.intro (j := 1) (ls := [some (.ref (ad 175)), some (.int x), some (.int y), some (.int z), none]) pn_X3 rfl rfl rfl (fun pr en s0 mi below meth c' K _ => ?_)
  refine g_aload_n K dX3_offer_0 rfl ?_
  refine g_geti K lk_X3_9 dX3_offer_1 rfl (rfl : kd 175 = 3) (by decide) (by decide) rfl ?_
  refine g_if_le (tgt := 21) K dX3_offer_4 (by decide) (fun u4 => ?_) (fun u4 => ?_)
  · refine g_aload_n K dX3_offer_21 rfl ?_
    refine g_geti K lk_X3_9 dX3_offer_22 rfl (rfl : kd 175 = 3) (by decide) (by decide) rfl ?_
    refine g_if_le (tgt := 35) K dX3_offer_25 (by decide) (fun u25 => ?_) (fun u25 => ?_)
    · refine g_iconst K dX3_offer_35 kc_0 ?_
      refine g_istore (ls2 := [_, _, _, _, some (.int _)]) K dX3_offer_36 (by decide) rfl ?_
      refine g_iload_n K dX3_offer_38 rfl ?_
      refine g_iload K dX3_offer_39 rfl ?_
      refine g_icmp_le (tgt := 67) K dX3_offer_41 (by decide) (fun u41 => ?_) (fun u41 => ?_)
      · refine g_aload_n K dX3_offer_67 rfl ?_
        refine g_geti K lk_X3_9 dX3_offer_68 rfl (rfl : kd 175 = 3) (by decide) (by decide) rfl ?_
        refine g_if_eq (tgt := 82) K dX3_offer_71 (by decide) (fun u71 => ?_) (fun u71 => ?_)
        · refine g_aload_n K dX3_offer_82 rfl ?_
          refine g_iload_n K dX3_offer_83 rfl ?_
          refine g_puti K lk_X3_18 lq_X3_2 dX3_offer_84 (put_i _) rfl (rfl : kd 175 = 3) (by decide) (by decide) ?_
          refine g_aload_n K dX3_offer_87 rfl ?_
          refine g_iload_n K dX3_offer_88 rfl ?_
          refine g_puti K lk_X3_21 lq_X3_3 dX3_offer_89 (put_i _) rfl (rfl : kd 175 = 3) (by decide) (by decide) ?_
          refine g_aload_n K dX3_offer_92 rfl ?_
          refine g_iload_n K dX3_offer_93 rfl ?_
          refine g_puti K lk_X3_15 lq_X3_1 dX3_offer_94 (put_i _) rfl (rfl : kd 175 = 3) (by decide) (by decide) ?_
          refine g_aload_n K dX3_offer_97 rfl ?_
          refine g_dup K dX3_offer_98 rfl ?_
          refine g_geti K lk_X3_9 dX3_offer_99 rfl (rfl : kd 175 = 3) (by decide) (by decide) rfl ?_
          refine g_iconst K dX3_offer_102 kc_1 ?_
          refine g_iadd K dX3_offer_103 ?_
          refine g_puti K lk_X3_9 lq_X3_0 dX3_offer_104 (put_i _) rfl (rfl : kd 175 = 3) (by decide) (by decide) ?_
          refine g_vret K dX3_offer_107 ⟨rfl, ?_⟩
          funext a i
          by_cases ha : a = 175
          · subst ha
            rw [str_s]
            unfold offF abF
            clear K
            simp only [stw_app, true_and] at *
            grind
          · simp [stw_app, str_app, ha]
        · refine g_iload_n K dX3_offer_74 rfl ?_
          refine g_aload_n K dX3_offer_75 rfl ?_
          refine g_geti K lk_X3_18 dX3_offer_76 rfl (rfl : kd 175 = 3) (by decide) (by decide) rfl ?_
          refine g_icmp_le (tgt := 92) K dX3_offer_79 (by decide) (fun u79 => ?_) (fun u79 => ?_)
          · refine g_aload_n K dX3_offer_92 rfl ?_
            refine g_iload_n K dX3_offer_93 rfl ?_
            refine g_puti K lk_X3_15 lq_X3_1 dX3_offer_94 (put_i _) rfl (rfl : kd 175 = 3) (by decide) (by decide) ?_
            refine g_aload_n K dX3_offer_97 rfl ?_
            refine g_dup K dX3_offer_98 rfl ?_
            refine g_geti K lk_X3_9 dX3_offer_99 rfl (rfl : kd 175 = 3) (by decide) (by decide) rfl ?_
            refine g_iconst K dX3_offer_102 kc_1 ?_
            refine g_iadd K dX3_offer_103 ?_
            refine g_puti K lk_X3_9 lq_X3_0 dX3_offer_104 (put_i _) rfl (rfl : kd 175 = 3) (by decide) (by decide) ?_
            refine g_vret K dX3_offer_107 ⟨rfl, ?_⟩
            funext a i
            by_cases ha : a = 175
            · subst ha
              rw [str_s]
              unfold offF abF
              clear K
              simp only [stw_app, true_and] at *
              grind
            · simp [stw_app, str_app, ha]
          · refine g_aload_n K dX3_offer_82 rfl ?_
            refine g_iload_n K dX3_offer_83 rfl ?_
            refine g_puti K lk_X3_18 lq_X3_2 dX3_offer_84 (put_i _) rfl (rfl : kd 175 = 3) (by decide) (by decide) ?_
            refine g_aload_n K dX3_offer_87 rfl ?_
            refine g_iload_n K dX3_offer_88 rfl ?_
            refine g_puti K lk_X3_21 lq_X3_3 dX3_offer_89 (put_i _) rfl (rfl : kd 175 = 3) (by decide) (by decide) ?_
            refine g_aload_n K dX3_offer_92 rfl ?_
            refine g_iload_n K dX3_offer_93 rfl ?_
            refine g_puti K lk_X3_15 lq_X3_1 dX3_offer_94 (put_i _) rfl (rfl : kd 175 = 3) (by decide) (by decide) ?_
            refine g_aload_n K dX3_offer_97 rfl ?_
            refine g_dup K dX3_offer_98 rfl ?_
            refine g_geti K lk_X3_9 dX3_offer_99 rfl (rfl : kd 175 = 3) (by decide) (by decide) rfl ?_
            refine g_iconst K dX3_offer_102 kc_1 ?_
            refine g_iadd K dX3_offer_103 ?_
            refine g_puti K lk_X3_9 lq_X3_0 dX3_offer_104 (put_i _) rfl (rfl : kd 175 = 3) (by decide) (by decide) ?_
            refine g_vret K dX3_offer_107 ⟨rfl, ?_⟩
            funext a i
            by_cases ha : a = 175
            · subst ha
              rw [str_s]
              unfold offF abF
              clear K
              simp only [stw_app, true_and] at *
              grind
            · simp [stw_app, str_app, ha]
      · refine g_aload_n K dX3_offer_44 rfl ?_
        refine g_dup K dX3_offer_45 rfl ?_
        refine g_geti K lk_X3_24 dX3_offer_46 rfl (rfl : kd 175 = 3) (by decide) (by decide) rfl ?_
        refine g_iconst K dX3_offer_49 kc_1 ?_
        refine g_iadd K dX3_offer_50 ?_
        refine g_puti K lk_X3_24 lq_X3_4 dX3_offer_51 (put_i _) rfl (rfl : kd 175 = 3) (by decide) (by decide) ?_
        refine g_aload_n K dX3_offer_54 rfl ?_
        refine g_dup K dX3_offer_55 rfl ?_
        refine g_geti K lk_X3_27 dX3_offer_56 rfl (rfl : kd 175 = 3) (by decide) (by decide) rfl ?_
        refine g_iload_n K dX3_offer_59 rfl ?_
        refine g_iload K dX3_offer_60 rfl ?_
        refine g_isub K dX3_offer_62 ?_
        refine g_iadd K dX3_offer_63 ?_
        refine g_puti K lk_X3_27 lq_X3_5 dX3_offer_64 (put_i _) rfl (rfl : kd 175 = 3) (by decide) (by decide) ?_
        refine g_aload_n K dX3_offer_67 rfl ?_
        refine g_geti K lk_X3_9 dX3_offer_68 rfl (rfl : kd 175 = 3) (by decide) (by decide) rfl ?_
        refine g_if_eq (tgt := 82) K dX3_offer_71 (by decide) (fun u71 => ?_) (fun u71 => ?_)
        · refine g_aload_n K dX3_offer_82 rfl ?_
          refine g_iload_n K dX3_offer_83 rfl ?_
          refine g_puti K lk_X3_18 lq_X3_2 dX3_offer_84 (put_i _) rfl (rfl : kd 175 = 3) (by decide) (by decide) ?_
          refine g_aload_n K dX3_offer_87 rfl ?_
          refine g_iload_n K dX3_offer_88 rfl ?_
          refine g_puti K lk_X3_21 lq_X3_3 dX3_offer_89 (put_i _) rfl (rfl : kd 175 = 3) (by decide) (by decide) ?_
          refine g_aload_n K dX3_offer_92 rfl ?_
          refine g_iload_n K dX3_offer_93 rfl ?_
          refine g_puti K lk_X3_15 lq_X3_1 dX3_offer_94 (put_i _) rfl (rfl : kd 175 = 3) (by decide) (by decide) ?_
          refine g_aload_n K dX3_offer_97 rfl ?_
          refine g_dup K dX3_offer_98 rfl ?_
          refine g_geti K lk_X3_9 dX3_offer_99 rfl (rfl : kd 175 = 3) (by decide) (by decide) rfl ?_
          refine g_iconst K dX3_offer_102 kc_1 ?_
          refine g_iadd K dX3_offer_103 ?_
          refine g_puti K lk_X3_9 lq_X3_0 dX3_offer_104 (put_i _) rfl (rfl : kd 175 = 3) (by decide) (by decide) ?_
          refine g_vret K dX3_offer_107 ⟨rfl, ?_⟩
          funext a i
          by_cases ha : a = 175
          · subst ha
            rw [str_s]
            unfold offF abF
            clear K
            simp only [stw_app, true_and] at *
            grind
          · simp [stw_app, str_app, ha]
        · refine g_iload_n K dX3_offer_74 rfl ?_
          refine g_aload_n K dX3_offer_75 rfl ?_
          refine g_geti K lk_X3_18 dX3_offer_76 rfl (rfl : kd 175 = 3) (by decide) (by decide) rfl ?_
          refine g_icmp_le (tgt := 92) K dX3_offer_79 (by decide) (fun u79 => ?_) (fun u79 => ?_)
          · refine g_aload_n K dX3_offer_92 rfl ?_
            refine g_iload_n K dX3_offer_93 rfl ?_
            refine g_puti K lk_X3_15 lq_X3_1 dX3_offer_94 (put_i _) rfl (rfl : kd 175 = 3) (by decide) (by decide) ?_
            refine g_aload_n K dX3_offer_97 rfl ?_
            refine g_dup K dX3_offer_98 rfl ?_
            refine g_geti K lk_X3_9 dX3_offer_99 rfl (rfl : kd 175 = 3) (by decide) (by decide) rfl ?_
            refine g_iconst K dX3_offer_102 kc_1 ?_
            refine g_iadd K dX3_offer_103 ?_
            refine g_puti K lk_X3_9 lq_X3_0 dX3_offer_104 (put_i _) rfl (rfl : kd 175 = 3) (by decide) (by decide) ?_
            refine g_vret K dX3_offer_107 ⟨rfl, ?_⟩
            funext a i
            by_cases ha : a = 175
            · subst ha
              rw [str_s]
              unfold offF abF
              clear K
              simp only [stw_app, true_and] at *
              grind
            · simp [stw_app, str_app, ha]
          · refine g_aload_n K dX3_offer_82 rfl ?_
            refine g_iload_n K dX3_offer_83 rfl ?_
            refine g_puti K lk_X3_18 lq_X3_2 dX3_offer_84 (put_i _) rfl (rfl : kd 175 = 3) (by decide) (by decide) ?_
            refine g_aload_n K dX3_offer_87 rfl ?_
            refine g_iload_n K dX3_offer_88 rfl ?_
            refine g_puti K lk_X3_21 lq_X3_3 dX3_offer_89 (put_i _) rfl (rfl : kd 175 = 3) (by decide) (by decide) ?_
            refine g_aload_n K dX3_offer_92 rfl ?_
            refine g_iload_n K dX3_offer_93 rfl ?_
            refine g_puti K lk_X3_15 lq_X3_1 dX3_offer_94 (put_i _) rfl (rfl : kd 175 = 3) (by decide) (by decide) ?_
            refine g_aload_n K dX3_offer_97 rfl ?_
            refine g_dup K dX3_offer_98 rfl ?_
            refine g_geti K lk_X3_9 dX3_offer_99 rfl (rfl : kd 175 = 3) (by decide) (by decide) rfl ?_
            refine g_iconst K dX3_offer_102 kc_1 ?_
            refine g_iadd K dX3_offer_103 ?_
            refine g_puti K lk_X3_9 lq_X3_0 dX3_offer_104 (put_i _) rfl (rfl : kd 175 = 3) (by decide) (by decide) ?_
            refine g_vret K dX3_offer_107 ⟨rfl, ?_⟩
            funext a i
            by_cases ha : a = 175
            · subst ha
              rw [str_s]
              unfold offF abF
              clear K
              simp only [stw_app, true_and] at *
              grind
            · simp [stw_app, str_app, ha]
    · refine g_aload_n K dX3_offer_28 rfl ?_
      refine g_geti K lk_X3_15 dX3_offer_29 rfl (rfl : kd 175 = 3) (by decide) (by decide) rfl ?_
      refine g_goto (tgt := 36) K dX3_offer_32 (by decide) ?_
      refine g_istore (ls2 := [_, _, _, _, some (.int _)]) K dX3_offer_36 (by decide) rfl ?_
      refine g_iload_n K dX3_offer_38 rfl ?_
      refine g_iload K dX3_offer_39 rfl ?_
      refine g_icmp_le (tgt := 67) K dX3_offer_41 (by decide) (fun u41 => ?_) (fun u41 => ?_)
      · refine g_aload_n K dX3_offer_67 rfl ?_
        refine g_geti K lk_X3_9 dX3_offer_68 rfl (rfl : kd 175 = 3) (by decide) (by decide) rfl ?_
        refine g_if_eq (tgt := 82) K dX3_offer_71 (by decide) (fun u71 => ?_) (fun u71 => ?_)
        · refine g_aload_n K dX3_offer_82 rfl ?_
          refine g_iload_n K dX3_offer_83 rfl ?_
          refine g_puti K lk_X3_18 lq_X3_2 dX3_offer_84 (put_i _) rfl (rfl : kd 175 = 3) (by decide) (by decide) ?_
          refine g_aload_n K dX3_offer_87 rfl ?_
          refine g_iload_n K dX3_offer_88 rfl ?_
          refine g_puti K lk_X3_21 lq_X3_3 dX3_offer_89 (put_i _) rfl (rfl : kd 175 = 3) (by decide) (by decide) ?_
          refine g_aload_n K dX3_offer_92 rfl ?_
          refine g_iload_n K dX3_offer_93 rfl ?_
          refine g_puti K lk_X3_15 lq_X3_1 dX3_offer_94 (put_i _) rfl (rfl : kd 175 = 3) (by decide) (by decide) ?_
          refine g_aload_n K dX3_offer_97 rfl ?_
          refine g_dup K dX3_offer_98 rfl ?_
          refine g_geti K lk_X3_9 dX3_offer_99 rfl (rfl : kd 175 = 3) (by decide) (by decide) rfl ?_
          refine g_iconst K dX3_offer_102 kc_1 ?_
          refine g_iadd K dX3_offer_103 ?_
          refine g_puti K lk_X3_9 lq_X3_0 dX3_offer_104 (put_i _) rfl (rfl : kd 175 = 3) (by decide) (by decide) ?_
          refine g_vret K dX3_offer_107 ⟨rfl, ?_⟩
          funext a i
          by_cases ha : a = 175
          · subst ha
            rw [str_s]
            unfold offF abF
            clear K
            simp only [stw_app, true_and] at *
            grind
          · simp [stw_app, str_app, ha]
        · refine g_iload_n K dX3_offer_74 rfl ?_
          refine g_aload_n K dX3_offer_75 rfl ?_
          refine g_geti K lk_X3_18 dX3_offer_76 rfl (rfl : kd 175 = 3) (by decide) (by decide) rfl ?_
          refine g_icmp_le (tgt := 92) K dX3_offer_79 (by decide) (fun u79 => ?_) (fun u79 => ?_)
          · refine g_aload_n K dX3_offer_92 rfl ?_
            refine g_iload_n K dX3_offer_93 rfl ?_
            refine g_puti K lk_X3_15 lq_X3_1 dX3_offer_94 (put_i _) rfl (rfl : kd 175 = 3) (by decide) (by decide) ?_
            refine g_aload_n K dX3_offer_97 rfl ?_
            refine g_dup K dX3_offer_98 rfl ?_
            refine g_geti K lk_X3_9 dX3_offer_99 rfl (rfl : kd 175 = 3) (by decide) (by decide) rfl ?_
            refine g_iconst K dX3_offer_102 kc_1 ?_
            refine g_iadd K dX3_offer_103 ?_
            refine g_puti K lk_X3_9 lq_X3_0 dX3_offer_104 (put_i _) rfl (rfl : kd 175 = 3) (by decide) (by decide) ?_
            refine g_vret K dX3_offer_107 ⟨rfl, ?_⟩
            funext a i
            by_cases ha : a = 175
            · subst ha
              rw [str_s]
              unfold offF abF
              clear K
              simp only [stw_app, true_and] at *
              grind
            · simp [stw_app, str_app, ha]
          · refine g_aload_n K dX3_offer_82 rfl ?_
            refine g_iload_n K dX3_offer_83 rfl ?_
            refine g_puti K lk_X3_18 lq_X3_2 dX3_offer_84 (put_i _) rfl (rfl : kd 175 = 3) (by decide) (by decide) ?_
            refine g_aload_n K dX3_offer_87 rfl ?_
            refine g_iload_n K dX3_offer_88 rfl ?_
            refine g_puti K lk_X3_21 lq_X3_3 dX3_offer_89 (put_i _) rfl (rfl : kd 175 = 3) (by decide) (by decide) ?_
            refine g_aload_n K dX3_offer_92 rfl ?_
            refine g_iload_n K dX3_offer_93 rfl ?_
            refine g_puti K lk_X3_15 lq_X3_1 dX3_offer_94 (put_i _) rfl (rfl : kd 175 = 3) (by decide) (by decide) ?_
            refine g_aload_n K dX3_offer_97 rfl ?_
            refine g_dup K dX3_offer_98 rfl ?_
            refine g_geti K lk_X3_9 dX3_offer_99 rfl (rfl : kd 175 = 3) (by decide) (by decide) rfl ?_
            refine g_iconst K dX3_offer_102 kc_1 ?_
            refine g_iadd K dX3_offer_103 ?_
            refine g_puti K lk_X3_9 lq_X3_0 dX3_offer_104 (put_i _) rfl (rfl : kd 175 = 3) (by decide) (by decide) ?_
            refine g_vret K dX3_offer_107 ⟨rfl, ?_⟩
            funext a i
            by_cases ha : a = 175
            · subst ha
              rw [str_s]
              unfold offF abF
              clear K
              simp only [stw_app, true_and] at *
              grind
            · simp [stw_app, str_app, ha]
      · refine g_aload_n K dX3_offer_44 rfl ?_
        refine g_dup K dX3_offer_45 rfl ?_
        refine g_geti K lk_X3_24 dX3_offer_46 rfl (rfl : kd 175 = 3) (by decide) (by decide) rfl ?_
        refine g_iconst K dX3_offer_49 kc_1 ?_
        refine g_iadd K dX3_offer_50 ?_
        refine g_puti K lk_X3_24 lq_X3_4 dX3_offer_51 (put_i _) rfl (rfl : kd 175 = 3) (by decide) (by decide) ?_
        refine g_aload_n K dX3_offer_54 rfl ?_
        refine g_dup K dX3_offer_55 rfl ?_
        refine g_geti K lk_X3_27 dX3_offer_56 rfl (rfl : kd 175 = 3) (by decide) (by decide) rfl ?_
        refine g_iload_n K dX3_offer_59 rfl ?_
        refine g_iload K dX3_offer_60 rfl ?_
        refine g_isub K dX3_offer_62 ?_
        refine g_iadd K dX3_offer_63 ?_
        refine g_puti K lk_X3_27 lq_X3_5 dX3_offer_64 (put_i _) rfl (rfl : kd 175 = 3) (by decide) (by decide) ?_
        refine g_aload_n K dX3_offer_67 rfl ?_
        refine g_geti K lk_X3_9 dX3_offer_68 rfl (rfl : kd 175 = 3) (by decide) (by decide) rfl ?_
        refine g_if_eq (tgt := 82) K dX3_offer_71 (by decide) (fun u71 => ?_) (fun u71 => ?_)
        · refine g_aload_n K dX3_offer_82 rfl ?_
          refine g_iload_n K dX3_offer_83 rfl ?_
          refine g_puti K lk_X3_18 lq_X3_2 dX3_offer_84 (put_i _) rfl (rfl : kd 175 = 3) (by decide) (by decide) ?_
          refine g_aload_n K dX3_offer_87 rfl ?_
          refine g_iload_n K dX3_offer_88 rfl ?_
          refine g_puti K lk_X3_21 lq_X3_3 dX3_offer_89 (put_i _) rfl (rfl : kd 175 = 3) (by decide) (by decide) ?_
          refine g_aload_n K dX3_offer_92 rfl ?_
          refine g_iload_n K dX3_offer_93 rfl ?_
          refine g_puti K lk_X3_15 lq_X3_1 dX3_offer_94 (put_i _) rfl (rfl : kd 175 = 3) (by decide) (by decide) ?_
          refine g_aload_n K dX3_offer_97 rfl ?_
          refine g_dup K dX3_offer_98 rfl ?_
          refine g_geti K lk_X3_9 dX3_offer_99 rfl (rfl : kd 175 = 3) (by decide) (by decide) rfl ?_
          refine g_iconst K dX3_offer_102 kc_1 ?_
          refine g_iadd K dX3_offer_103 ?_
          refine g_puti K lk_X3_9 lq_X3_0 dX3_offer_104 (put_i _) rfl (rfl : kd 175 = 3) (by decide) (by decide) ?_
          refine g_vret K dX3_offer_107 ⟨rfl, ?_⟩
          funext a i
          by_cases ha : a = 175
          · subst ha
            rw [str_s]
            unfold offF abF
            clear K
            simp only [stw_app, true_and] at *
            grind
          · simp [stw_app, str_app, ha]
        · refine g_iload_n K dX3_offer_74 rfl ?_
          refine g_aload_n K dX3_offer_75 rfl ?_
          refine g_geti K lk_X3_18 dX3_offer_76 rfl (rfl : kd 175 = 3) (by decide) (by decide) rfl ?_
          refine g_icmp_le (tgt := 92) K dX3_offer_79 (by decide) (fun u79 => ?_) (fun u79 => ?_)
          · refine g_aload_n K dX3_offer_92 rfl ?_
            refine g_iload_n K dX3_offer_93 rfl ?_
            refine g_puti K lk_X3_15 lq_X3_1 dX3_offer_94 (put_i _) rfl (rfl : kd 175 = 3) (by decide) (by decide) ?_
            refine g_aload_n K dX3_offer_97 rfl ?_
            refine g_dup K dX3_offer_98 rfl ?_
            refine g_geti K lk_X3_9 dX3_offer_99 rfl (rfl : kd 175 = 3) (by decide) (by decide) rfl ?_
            refine g_iconst K dX3_offer_102 kc_1 ?_
            refine g_iadd K dX3_offer_103 ?_
            refine g_puti K lk_X3_9 lq_X3_0 dX3_offer_104 (put_i _) rfl (rfl : kd 175 = 3) (by decide) (by decide) ?_
            refine g_vret K dX3_offer_107 ⟨rfl, ?_⟩
            funext a i
            by_cases ha : a = 175
            · subst ha
              rw [str_s]
              unfold offF abF
              clear K
              simp only [stw_app, true_and] at *
              grind
            · simp [stw_app, str_app, ha]
          · refine g_aload_n K dX3_offer_82 rfl ?_
            refine g_iload_n K dX3_offer_83 rfl ?_
            refine g_puti K lk_X3_18 lq_X3_2 dX3_offer_84 (put_i _) rfl (rfl : kd 175 = 3) (by decide) (by decide) ?_
            refine g_aload_n K dX3_offer_87 rfl ?_
            refine g_iload_n K dX3_offer_88 rfl ?_
            refine g_puti K lk_X3_21 lq_X3_3 dX3_offer_89 (put_i _) rfl (rfl : kd 175 = 3) (by decide) (by decide) ?_
            refine g_aload_n K dX3_offer_92 rfl ?_
            refine g_iload_n K dX3_offer_93 rfl ?_
            refine g_puti K lk_X3_15 lq_X3_1 dX3_offer_94 (put_i _) rfl (rfl : kd 175 = 3) (by decide) (by decide) ?_
            refine g_aload_n K dX3_offer_97 rfl ?_
            refine g_dup K dX3_offer_98 rfl ?_
            refine g_geti K lk_X3_9 dX3_offer_99 rfl (rfl : kd 175 = 3) (by decide) (by decide) rfl ?_
            refine g_iconst K dX3_offer_102 kc_1 ?_
            refine g_iadd K dX3_offer_103 ?_
            refine g_puti K lk_X3_9 lq_X3_0 dX3_offer_104 (put_i _) rfl (rfl : kd 175 = 3) (by decide) (by decide) ?_
            refine g_vret K dX3_offer_107 ⟨rfl, ?_⟩
            funext a i
            by_cases ha : a = 175
            · subst ha
              rw [str_s]
              unfold offF abF
              clear K
              simp only [stw_app, true_and] at *
              grind
            · simp [stw_app, str_app, ha]
  · refine g_iload_n K dX3_offer_7 rfl ?_
    refine g_aload_n K dX3_offer_8 rfl ?_
    refine g_geti K lk_X3_15 dX3_offer_9 rfl (rfl : kd 175 = 3) (by decide) (by decide) rfl ?_
    refine g_isub K dX3_offer_12 ?_
    refine g_mabs K dX3_offer_13 mj_X3_30 ⟨by decide, by simp [Value.category, rmd], by simp, by simp⟩ ?_
    refine g_iload_n K dX3_offer_16 rfl ?_
    refine g_icmp_gt (tgt := 21) K dX3_offer_17 (by decide) (fun u17 => ?_) (fun u17 => ?_)
    · refine g_aload_n K dX3_offer_21 rfl ?_
      refine g_geti K lk_X3_9 dX3_offer_22 rfl (rfl : kd 175 = 3) (by decide) (by decide) rfl ?_
      refine g_if_le (tgt := 35) K dX3_offer_25 (by decide) (fun u25 => ?_) (fun u25 => ?_)
      · refine g_iconst K dX3_offer_35 kc_0 ?_
        refine g_istore (ls2 := [_, _, _, _, some (.int _)]) K dX3_offer_36 (by decide) rfl ?_
        refine g_iload_n K dX3_offer_38 rfl ?_
        refine g_iload K dX3_offer_39 rfl ?_
        refine g_icmp_le (tgt := 67) K dX3_offer_41 (by decide) (fun u41 => ?_) (fun u41 => ?_)
        · refine g_aload_n K dX3_offer_67 rfl ?_
          refine g_geti K lk_X3_9 dX3_offer_68 rfl (rfl : kd 175 = 3) (by decide) (by decide) rfl ?_
          refine g_if_eq (tgt := 82) K dX3_offer_71 (by decide) (fun u71 => ?_) (fun u71 => ?_)
          · refine g_aload_n K dX3_offer_82 rfl ?_
            refine g_iload_n K dX3_offer_83 rfl ?_
            refine g_puti K lk_X3_18 lq_X3_2 dX3_offer_84 (put_i _) rfl (rfl : kd 175 = 3) (by decide) (by decide) ?_
            refine g_aload_n K dX3_offer_87 rfl ?_
            refine g_iload_n K dX3_offer_88 rfl ?_
            refine g_puti K lk_X3_21 lq_X3_3 dX3_offer_89 (put_i _) rfl (rfl : kd 175 = 3) (by decide) (by decide) ?_
            refine g_aload_n K dX3_offer_92 rfl ?_
            refine g_iload_n K dX3_offer_93 rfl ?_
            refine g_puti K lk_X3_15 lq_X3_1 dX3_offer_94 (put_i _) rfl (rfl : kd 175 = 3) (by decide) (by decide) ?_
            refine g_aload_n K dX3_offer_97 rfl ?_
            refine g_dup K dX3_offer_98 rfl ?_
            refine g_geti K lk_X3_9 dX3_offer_99 rfl (rfl : kd 175 = 3) (by decide) (by decide) rfl ?_
            refine g_iconst K dX3_offer_102 kc_1 ?_
            refine g_iadd K dX3_offer_103 ?_
            refine g_puti K lk_X3_9 lq_X3_0 dX3_offer_104 (put_i _) rfl (rfl : kd 175 = 3) (by decide) (by decide) ?_
            refine g_vret K dX3_offer_107 ⟨rfl, ?_⟩
            funext a i
            by_cases ha : a = 175
            · subst ha
              rw [str_s]
              unfold offF abF
              clear K
              simp only [stw_app, true_and] at *
              grind
            · simp [stw_app, str_app, ha]
          · refine g_iload_n K dX3_offer_74 rfl ?_
            refine g_aload_n K dX3_offer_75 rfl ?_
            refine g_geti K lk_X3_18 dX3_offer_76 rfl (rfl : kd 175 = 3) (by decide) (by decide) rfl ?_
            refine g_icmp_le (tgt := 92) K dX3_offer_79 (by decide) (fun u79 => ?_) (fun u79 => ?_)
            · refine g_aload_n K dX3_offer_92 rfl ?_
              refine g_iload_n K dX3_offer_93 rfl ?_
              refine g_puti K lk_X3_15 lq_X3_1 dX3_offer_94 (put_i _) rfl (rfl : kd 175 = 3) (by decide) (by decide) ?_
              refine g_aload_n K dX3_offer_97 rfl ?_
              refine g_dup K dX3_offer_98 rfl ?_
              refine g_geti K lk_X3_9 dX3_offer_99 rfl (rfl : kd 175 = 3) (by decide) (by decide) rfl ?_
              refine g_iconst K dX3_offer_102 kc_1 ?_
              refine g_iadd K dX3_offer_103 ?_
              refine g_puti K lk_X3_9 lq_X3_0 dX3_offer_104 (put_i _) rfl (rfl : kd 175 = 3) (by decide) (by decide) ?_
              refine g_vret K dX3_offer_107 ⟨rfl, ?_⟩
              funext a i
              by_cases ha : a = 175
              · subst ha
                rw [str_s]
                unfold offF abF
                clear K
                simp only [stw_app, true_and] at *
                grind
              · simp [stw_app, str_app, ha]
            · refine g_aload_n K dX3_offer_82 rfl ?_
              refine g_iload_n K dX3_offer_83 rfl ?_
              refine g_puti K lk_X3_18 lq_X3_2 dX3_offer_84 (put_i _) rfl (rfl : kd 175 = 3) (by decide) (by decide) ?_
              refine g_aload_n K dX3_offer_87 rfl ?_
              refine g_iload_n K dX3_offer_88 rfl ?_
              refine g_puti K lk_X3_21 lq_X3_3 dX3_offer_89 (put_i _) rfl (rfl : kd 175 = 3) (by decide) (by decide) ?_
              refine g_aload_n K dX3_offer_92 rfl ?_
              refine g_iload_n K dX3_offer_93 rfl ?_
              refine g_puti K lk_X3_15 lq_X3_1 dX3_offer_94 (put_i _) rfl (rfl : kd 175 = 3) (by decide) (by decide) ?_
              refine g_aload_n K dX3_offer_97 rfl ?_
              refine g_dup K dX3_offer_98 rfl ?_
              refine g_geti K lk_X3_9 dX3_offer_99 rfl (rfl : kd 175 = 3) (by decide) (by decide) rfl ?_
              refine g_iconst K dX3_offer_102 kc_1 ?_
              refine g_iadd K dX3_offer_103 ?_
              refine g_puti K lk_X3_9 lq_X3_0 dX3_offer_104 (put_i _) rfl (rfl : kd 175 = 3) (by decide) (by decide) ?_
              refine g_vret K dX3_offer_107 ⟨rfl, ?_⟩
              funext a i
              by_cases ha : a = 175
              · subst ha
                rw [str_s]
                unfold offF abF
                clear K
                simp only [stw_app, true_and] at *
                grind
              · simp [stw_app, str_app, ha]
        · refine g_aload_n K dX3_offer_44 rfl ?_
          refine g_dup K dX3_offer_45 rfl ?_
          refine g_geti K lk_X3_24 dX3_offer_46 rfl (rfl : kd 175 = 3) (by decide) (by decide) rfl ?_
          refine g_iconst K dX3_offer_49 kc_1 ?_
          refine g_iadd K dX3_offer_50 ?_
          refine g_puti K lk_X3_24 lq_X3_4 dX3_offer_51 (put_i _) rfl (rfl : kd 175 = 3) (by decide) (by decide) ?_
          refine g_aload_n K dX3_offer_54 rfl ?_
          refine g_dup K dX3_offer_55 rfl ?_
          refine g_geti K lk_X3_27 dX3_offer_56 rfl (rfl : kd 175 = 3) (by decide) (by decide) rfl ?_
          refine g_iload_n K dX3_offer_59 rfl ?_
          refine g_iload K dX3_offer_60 rfl ?_
          refine g_isub K dX3_offer_62 ?_
          refine g_iadd K dX3_offer_63 ?_
          refine g_puti K lk_X3_27 lq_X3_5 dX3_offer_64 (put_i _) rfl (rfl : kd 175 = 3) (by decide) (by decide) ?_
          refine g_aload_n K dX3_offer_67 rfl ?_
          refine g_geti K lk_X3_9 dX3_offer_68 rfl (rfl : kd 175 = 3) (by decide) (by decide) rfl ?_
          refine g_if_eq (tgt := 82) K dX3_offer_71 (by decide) (fun u71 => ?_) (fun u71 => ?_)
          · refine g_aload_n K dX3_offer_82 rfl ?_
            refine g_iload_n K dX3_offer_83 rfl ?_
            refine g_puti K lk_X3_18 lq_X3_2 dX3_offer_84 (put_i _) rfl (rfl : kd 175 = 3) (by decide) (by decide) ?_
            refine g_aload_n K dX3_offer_87 rfl ?_
            refine g_iload_n K dX3_offer_88 rfl ?_
            refine g_puti K lk_X3_21 lq_X3_3 dX3_offer_89 (put_i _) rfl (rfl : kd 175 = 3) (by decide) (by decide) ?_
            refine g_aload_n K dX3_offer_92 rfl ?_
            refine g_iload_n K dX3_offer_93 rfl ?_
            refine g_puti K lk_X3_15 lq_X3_1 dX3_offer_94 (put_i _) rfl (rfl : kd 175 = 3) (by decide) (by decide) ?_
            refine g_aload_n K dX3_offer_97 rfl ?_
            refine g_dup K dX3_offer_98 rfl ?_
            refine g_geti K lk_X3_9 dX3_offer_99 rfl (rfl : kd 175 = 3) (by decide) (by decide) rfl ?_
            refine g_iconst K dX3_offer_102 kc_1 ?_
            refine g_iadd K dX3_offer_103 ?_
            refine g_puti K lk_X3_9 lq_X3_0 dX3_offer_104 (put_i _) rfl (rfl : kd 175 = 3) (by decide) (by decide) ?_
            refine g_vret K dX3_offer_107 ⟨rfl, ?_⟩
            funext a i
            by_cases ha : a = 175
            · subst ha
              rw [str_s]
              unfold offF abF
              clear K
              simp only [stw_app, true_and] at *
              grind
            · simp [stw_app, str_app, ha]
          · refine g_iload_n K dX3_offer_74 rfl ?_
            refine g_aload_n K dX3_offer_75 rfl ?_
            refine g_geti K lk_X3_18 dX3_offer_76 rfl (rfl : kd 175 = 3) (by decide) (by decide) rfl ?_
            refine g_icmp_le (tgt := 92) K dX3_offer_79 (by decide) (fun u79 => ?_) (fun u79 => ?_)
            · refine g_aload_n K dX3_offer_92 rfl ?_
              refine g_iload_n K dX3_offer_93 rfl ?_
              refine g_puti K lk_X3_15 lq_X3_1 dX3_offer_94 (put_i _) rfl (rfl : kd 175 = 3) (by decide) (by decide) ?_
              refine g_aload_n K dX3_offer_97 rfl ?_
              refine g_dup K dX3_offer_98 rfl ?_
              refine g_geti K lk_X3_9 dX3_offer_99 rfl (rfl : kd 175 = 3) (by decide) (by decide) rfl ?_
              refine g_iconst K dX3_offer_102 kc_1 ?_
              refine g_iadd K dX3_offer_103 ?_
              refine g_puti K lk_X3_9 lq_X3_0 dX3_offer_104 (put_i _) rfl (rfl : kd 175 = 3) (by decide) (by decide) ?_
              refine g_vret K dX3_offer_107 ⟨rfl, ?_⟩
              funext a i
              by_cases ha : a = 175
              · subst ha
                rw [str_s]
                unfold offF abF
                clear K
                simp only [stw_app, true_and] at *
                grind
              · simp [stw_app, str_app, ha]
            · refine g_aload_n K dX3_offer_82 rfl ?_
              refine g_iload_n K dX3_offer_83 rfl ?_
              refine g_puti K lk_X3_18 lq_X3_2 dX3_offer_84 (put_i _) rfl (rfl : kd 175 = 3) (by decide) (by decide) ?_
              refine g_aload_n K dX3_offer_87 rfl ?_
              refine g_iload_n K dX3_offer_88 rfl ?_
              refine g_puti K lk_X3_21 lq_X3_3 dX3_offer_89 (put_i _) rfl (rfl : kd 175 = 3) (by decide) (by decide) ?_
              refine g_aload_n K dX3_offer_92 rfl ?_
              refine g_iload_n K dX3_offer_93 rfl ?_
              refine g_puti K lk_X3_15 lq_X3_1 dX3_offer_94 (put_i _) rfl (rfl : kd 175 = 3) (by decide) (by decide) ?_
              refine g_aload_n K dX3_offer_97 rfl ?_
              refine g_dup K dX3_offer_98 rfl ?_
              refine g_geti K lk_X3_9 dX3_offer_99 rfl (rfl : kd 175 = 3) (by decide) (by decide) rfl ?_
              refine g_iconst K dX3_offer_102 kc_1 ?_
              refine g_iadd K dX3_offer_103 ?_
              refine g_puti K lk_X3_9 lq_X3_0 dX3_offer_104 (put_i _) rfl (rfl : kd 175 = 3) (by decide) (by decide) ?_
              refine g_vret K dX3_offer_107 ⟨rfl, ?_⟩
              funext a i
              by_cases ha : a = 175
              · subst ha
                rw [str_s]
                unfold offF abF
                clear K
                simp only [stw_app, true_and] at *
                grind
              · simp [stw_app, str_app, ha]
      · refine g_aload_n K dX3_offer_28 rfl ?_
        refine g_geti K lk_X3_15 dX3_offer_29 rfl (rfl : kd 175 = 3) (by decide) (by decide) rfl ?_
        refine g_goto (tgt := 36) K dX3_offer_32 (by decide) ?_
        refine g_istore (ls2 := [_, _, _, _, some (.int _)]) K dX3_offer_36 (by decide) rfl ?_
        refine g_iload_n K dX3_offer_38 rfl ?_
        refine g_iload K dX3_offer_39 rfl ?_
        refine g_icmp_le (tgt := 67) K dX3_offer_41 (by decide) (fun u41 => ?_) (fun u41 => ?_)
        · refine g_aload_n K dX3_offer_67 rfl ?_
          refine g_geti K lk_X3_9 dX3_offer_68 rfl (rfl : kd 175 = 3) (by decide) (by decide) rfl ?_
          refine g_if_eq (tgt := 82) K dX3_offer_71 (by decide) (fun u71 => ?_) (fun u71 => ?_)
          · refine g_aload_n K dX3_offer_82 rfl ?_
            refine g_iload_n K dX3_offer_83 rfl ?_
            refine g_puti K lk_X3_18 lq_X3_2 dX3_offer_84 (put_i _) rfl (rfl : kd 175 = 3) (by decide) (by decide) ?_
            refine g_aload_n K dX3_offer_87 rfl ?_
            refine g_iload_n K dX3_offer_88 rfl ?_
            refine g_puti K lk_X3_21 lq_X3_3 dX3_offer_89 (put_i _) rfl (rfl : kd 175 = 3) (by decide) (by decide) ?_
            refine g_aload_n K dX3_offer_92 rfl ?_
            refine g_iload_n K dX3_offer_93 rfl ?_
            refine g_puti K lk_X3_15 lq_X3_1 dX3_offer_94 (put_i _) rfl (rfl : kd 175 = 3) (by decide) (by decide) ?_
            refine g_aload_n K dX3_offer_97 rfl ?_
            refine g_dup K dX3_offer_98 rfl ?_
            refine g_geti K lk_X3_9 dX3_offer_99 rfl (rfl : kd 175 = 3) (by decide) (by decide) rfl ?_
            refine g_iconst K dX3_offer_102 kc_1 ?_
            refine g_iadd K dX3_offer_103 ?_
            refine g_puti K lk_X3_9 lq_X3_0 dX3_offer_104 (put_i _) rfl (rfl : kd 175 = 3) (by decide) (by decide) ?_
            refine g_vret K dX3_offer_107 ⟨rfl, ?_⟩
            funext a i
            by_cases ha : a = 175
            · subst ha
              rw [str_s]
              unfold offF abF
              clear K
              simp only [stw_app, true_and] at *
              grind
            · simp [stw_app, str_app, ha]
          · refine g_iload_n K dX3_offer_74 rfl ?_
            refine g_aload_n K dX3_offer_75 rfl ?_
            refine g_geti K lk_X3_18 dX3_offer_76 rfl (rfl : kd 175 = 3) (by decide) (by decide) rfl ?_
            refine g_icmp_le (tgt := 92) K dX3_offer_79 (by decide) (fun u79 => ?_) (fun u79 => ?_)
            · refine g_aload_n K dX3_offer_92 rfl ?_
              refine g_iload_n K dX3_offer_93 rfl ?_
              refine g_puti K lk_X3_15 lq_X3_1 dX3_offer_94 (put_i _) rfl (rfl : kd 175 = 3) (by decide) (by decide) ?_
              refine g_aload_n K dX3_offer_97 rfl ?_
              refine g_dup K dX3_offer_98 rfl ?_
              refine g_geti K lk_X3_9 dX3_offer_99 rfl (rfl : kd 175 = 3) (by decide) (by decide) rfl ?_
              refine g_iconst K dX3_offer_102 kc_1 ?_
              refine g_iadd K dX3_offer_103 ?_
              refine g_puti K lk_X3_9 lq_X3_0 dX3_offer_104 (put_i _) rfl (rfl : kd 175 = 3) (by decide) (by decide) ?_
              refine g_vret K dX3_offer_107 ⟨rfl, ?_⟩
              funext a i
              by_cases ha : a = 175
              · subst ha
                rw [str_s]
                unfold offF abF
                clear K
                simp only [stw_app, true_and] at *
                grind
              · simp [stw_app, str_app, ha]
            · refine g_aload_n K dX3_offer_82 rfl ?_
              refine g_iload_n K dX3_offer_83 rfl ?_
              refine g_puti K lk_X3_18 lq_X3_2 dX3_offer_84 (put_i _) rfl (rfl : kd 175 = 3) (by decide) (by decide) ?_
              refine g_aload_n K dX3_offer_87 rfl ?_
              refine g_iload_n K dX3_offer_88 rfl ?_
              refine g_puti K lk_X3_21 lq_X3_3 dX3_offer_89 (put_i _) rfl (rfl : kd 175 = 3) (by decide) (by decide) ?_
              refine g_aload_n K dX3_offer_92 rfl ?_
              refine g_iload_n K dX3_offer_93 rfl ?_
              refine g_puti K lk_X3_15 lq_X3_1 dX3_offer_94 (put_i _) rfl (rfl : kd 175 = 3) (by decide) (by decide) ?_
              refine g_aload_n K dX3_offer_97 rfl ?_
              refine g_dup K dX3_offer_98 rfl ?_
              refine g_geti K lk_X3_9 dX3_offer_99 rfl (rfl : kd 175 = 3) (by decide) (by decide) rfl ?_
              refine g_iconst K dX3_offer_102 kc_1 ?_
              refine g_iadd K dX3_offer_103 ?_
              refine g_puti K lk_X3_9 lq_X3_0 dX3_offer_104 (put_i _) rfl (rfl : kd 175 = 3) (by decide) (by decide) ?_
              refine g_vret K dX3_offer_107 ⟨rfl, ?_⟩
              funext a i
              by_cases ha : a = 175
              · subst ha
                rw [str_s]
                unfold offF abF
                clear K
                simp only [stw_app, true_and] at *
                grind
              · simp [stw_app, str_app, ha]
        · refine g_aload_n K dX3_offer_44 rfl ?_
          refine g_dup K dX3_offer_45 rfl ?_
          refine g_geti K lk_X3_24 dX3_offer_46 rfl (rfl : kd 175 = 3) (by decide) (by decide) rfl ?_
          refine g_iconst K dX3_offer_49 kc_1 ?_
          refine g_iadd K dX3_offer_50 ?_
          refine g_puti K lk_X3_24 lq_X3_4 dX3_offer_51 (put_i _) rfl (rfl : kd 175 = 3) (by decide) (by decide) ?_
          refine g_aload_n K dX3_offer_54 rfl ?_
          refine g_dup K dX3_offer_55 rfl ?_
          refine g_geti K lk_X3_27 dX3_offer_56 rfl (rfl : kd 175 = 3) (by decide) (by decide) rfl ?_
          refine g_iload_n K dX3_offer_59 rfl ?_
          refine g_iload K dX3_offer_60 rfl ?_
          refine g_isub K dX3_offer_62 ?_
          refine g_iadd K dX3_offer_63 ?_
          refine g_puti K lk_X3_27 lq_X3_5 dX3_offer_64 (put_i _) rfl (rfl : kd 175 = 3) (by decide) (by decide) ?_
          refine g_aload_n K dX3_offer_67 rfl ?_
          refine g_geti K lk_X3_9 dX3_offer_68 rfl (rfl : kd 175 = 3) (by decide) (by decide) rfl ?_
          refine g_if_eq (tgt := 82) K dX3_offer_71 (by decide) (fun u71 => ?_) (fun u71 => ?_)
          · refine g_aload_n K dX3_offer_82 rfl ?_
            refine g_iload_n K dX3_offer_83 rfl ?_
            refine g_puti K lk_X3_18 lq_X3_2 dX3_offer_84 (put_i _) rfl (rfl : kd 175 = 3) (by decide) (by decide) ?_
            refine g_aload_n K dX3_offer_87 rfl ?_
            refine g_iload_n K dX3_offer_88 rfl ?_
            refine g_puti K lk_X3_21 lq_X3_3 dX3_offer_89 (put_i _) rfl (rfl : kd 175 = 3) (by decide) (by decide) ?_
            refine g_aload_n K dX3_offer_92 rfl ?_
            refine g_iload_n K dX3_offer_93 rfl ?_
            refine g_puti K lk_X3_15 lq_X3_1 dX3_offer_94 (put_i _) rfl (rfl : kd 175 = 3) (by decide) (by decide) ?_
            refine g_aload_n K dX3_offer_97 rfl ?_
            refine g_dup K dX3_offer_98 rfl ?_
            refine g_geti K lk_X3_9 dX3_offer_99 rfl (rfl : kd 175 = 3) (by decide) (by decide) rfl ?_
            refine g_iconst K dX3_offer_102 kc_1 ?_
            refine g_iadd K dX3_offer_103 ?_
            refine g_puti K lk_X3_9 lq_X3_0 dX3_offer_104 (put_i _) rfl (rfl : kd 175 = 3) (by decide) (by decide) ?_
            refine g_vret K dX3_offer_107 ⟨rfl, ?_⟩
            funext a i
            by_cases ha : a = 175
            · subst ha
              rw [str_s]
              unfold offF abF
              clear K
              simp only [stw_app, true_and] at *
              grind
            · simp [stw_app, str_app, ha]
          · refine g_iload_n K dX3_offer_74 rfl ?_
            refine g_aload_n K dX3_offer_75 rfl ?_
            refine g_geti K lk_X3_18 dX3_offer_76 rfl (rfl : kd 175 = 3) (by decide) (by decide) rfl ?_
            refine g_icmp_le (tgt := 92) K dX3_offer_79 (by decide) (fun u79 => ?_) (fun u79 => ?_)
            · refine g_aload_n K dX3_offer_92 rfl ?_
              refine g_iload_n K dX3_offer_93 rfl ?_
              refine g_puti K lk_X3_15 lq_X3_1 dX3_offer_94 (put_i _) rfl (rfl : kd 175 = 3) (by decide) (by decide) ?_
              refine g_aload_n K dX3_offer_97 rfl ?_
              refine g_dup K dX3_offer_98 rfl ?_
              refine g_geti K lk_X3_9 dX3_offer_99 rfl (rfl : kd 175 = 3) (by decide) (by decide) rfl ?_
              refine g_iconst K dX3_offer_102 kc_1 ?_
              refine g_iadd K dX3_offer_103 ?_
              refine g_puti K lk_X3_9 lq_X3_0 dX3_offer_104 (put_i _) rfl (rfl : kd 175 = 3) (by decide) (by decide) ?_
              refine g_vret K dX3_offer_107 ⟨rfl, ?_⟩
              funext a i
              by_cases ha : a = 175
              · subst ha
                rw [str_s]
                unfold offF abF
                clear K
                simp only [stw_app, true_and] at *
                grind
              · simp [stw_app, str_app, ha]
            · refine g_aload_n K dX3_offer_82 rfl ?_
              refine g_iload_n K dX3_offer_83 rfl ?_
              refine g_puti K lk_X3_18 lq_X3_2 dX3_offer_84 (put_i _) rfl (rfl : kd 175 = 3) (by decide) (by decide) ?_
              refine g_aload_n K dX3_offer_87 rfl ?_
              refine g_iload_n K dX3_offer_88 rfl ?_
              refine g_puti K lk_X3_21 lq_X3_3 dX3_offer_89 (put_i _) rfl (rfl : kd 175 = 3) (by decide) (by decide) ?_
              refine g_aload_n K dX3_offer_92 rfl ?_
              refine g_iload_n K dX3_offer_93 rfl ?_
              refine g_puti K lk_X3_15 lq_X3_1 dX3_offer_94 (put_i _) rfl (rfl : kd 175 = 3) (by decide) (by decide) ?_
              refine g_aload_n K dX3_offer_97 rfl ?_
              refine g_dup K dX3_offer_98 rfl ?_
              refine g_geti K lk_X3_9 dX3_offer_99 rfl (rfl : kd 175 = 3) (by decide) (by decide) rfl ?_
              refine g_iconst K dX3_offer_102 kc_1 ?_
              refine g_iadd K dX3_offer_103 ?_
              refine g_puti K lk_X3_9 lq_X3_0 dX3_offer_104 (put_i _) rfl (rfl : kd 175 = 3) (by decide) (by decide) ?_
              refine g_vret K dX3_offer_107 ⟨rfl, ?_⟩
              funext a i
              by_cases ha : a = 175
              · subst ha
                rw [str_s]
                unfold offF abF
                clear K
                simp only [stw_app, true_and] at *
                grind
              · simp [stw_app, str_app, ha]
    · refine g_vret K dX3_offer_20 ⟨rfl, ?_⟩
      rw [show offF (S 175) x y z = S 175 from funext fun i => by unfold offF abF; rw [if_pos (by grind)], str_self]
