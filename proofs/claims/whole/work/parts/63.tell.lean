/-! THE CLASS: the entries are told to the school. -/
def s_do (A : Ab) (L : List Nat) (p : Nat) : Ab :=
  if s_ch L p = 116 then s_putT A (s_tTa L (p + 1)).1 (s_tTv L (p + 1)).1 else if s_ch L p = 108 then s_putL A (s_tN L (p + 1)).1 (s_l1 L (p + 1)).1 (s_l2 L (p + 1)).1 (s_l3 L (p + 1)).1 (s_l4 L (p + 1)).1 else s_turn A (s_tD L (p + 1) 0 7).1.toNat (s_tN L ((s_tD L (p + 1) 0 7).2 + 1)).1
def s_tell (L : List Nat) : Nat → Ab → Nat → Nat → Option (Ab × Nat)
  | 0, A, _, k => some (A, k)
  | n + 1, A, p, k => if p < L.length then (if (s_tE L p).1 = true ∧ ¬ s_ref A L p = true then s_tell L n (s_do A L p) (s_tE L p).2 (k + 1) else none) else some (A, k)
theorem s_tell_n {L : List Nat} (n : Nat) {A : Ab} {p k : Nat} (h : ¬ p < L.length) : s_tell L n A p k = some (A, k) := by
  cases n with
  | zero => rfl
  | succ n => exact if_neg h
theorem s_tell_f {L : List Nat} {n : Nat} {A : Ab} {p k : Nat} (h : p < L.length) (q : ¬ ((s_tE L p).1 = true ∧ ¬ s_ref A L p = true)) : s_tell L (n + 1) A p k = none := by
  show (if p < L.length then _ else _) = _
  rw [if_pos h, if_neg q]
theorem s_tell_s {L : List Nat} {n : Nat} {A : Ab} {p k : Nat} (h : p < L.length) (q : (s_tE L p).1 = true) (q2 : ¬ s_ref A L p = true) : s_tell L (n + 1) A p k = s_tell L n (s_do A L p) (s_tE L p).2 (k + 1) := by
  show (if p < L.length then _ else _) = _
  rw [if_pos h, if_pos ⟨q, q2⟩]
theorem s_ref_a {A : Ab} {L : List Nat} {p : Nat} (c : s_ch L p = 97) (h : ¬ s_ref A L p = true) : (s_tD L (p + 1) 0 7).1 < A.1 ∧ (s_tN L ((s_tD L (p + 1) 0 7).2 + 1)).1 < 30 ∧ s_away A (s_tD L (p + 1) 0 7).1.toNat (s_tN L ((s_tD L (p + 1) 0 7).2 + 1)).1 = false := by
  unfold s_ref at h
  rw [if_neg (by omega), if_neg (by omega)] at h
  simp only [Bool.or_eq_true, decide_eq_true_eq, not_or] at h
  exact ⟨by omega, by omega, Bool.eq_false_iff.mpr h.2⟩
theorem s_ref_l {A : Ab} {L : List Nat} {p : Nat} (c : s_ch L p = 108) (h : ¬ s_ref A L p = true) : s_fault A (s_tN L (p + 1)).1 (s_l1 L (p + 1)).1 (s_l2 L (p + 1)).1 (s_l3 L (p + 1)).1 (s_l4 L (p + 1)).1 = 0 := by
  unfold s_ref at h
  rw [if_neg (by omega), if_pos c] at h
  simpa using h
theorem s_ref_t {A : Ab} {L : List Nat} {p : Nat} (c : s_ch L p = 116) (h : ¬ s_ref A L p = true) : A.1 < 8 := by
  unfold s_ref at h
  rw [if_pos c] at h
  simpa using h
theorem do_ok {P : Nat} {A : Ab} {L : List Nat} {p : Nat} (hI : Inv P A) (hJ : InvF A) (hP : P + 172 ≤ 10000000) (hp : p < L.length) (hk : (s_tE L p).1 = true) (hr : ¬ s_ref A L p = true) : Inv (P + 172) (s_do A L p) ∧ InvF (s_do A L p) := by
  unfold s_do
  by_cases c1 : s_ch L p = 116
  · rw [if_pos c1]
    have r := s_tE_t hp hk c1
    have q := putT_ok hI hJ (s_ref_t c1 hr) (su := (s_tTa L (p + 1)).1) (w := (s_tTv L (p + 1)).1) (by omega) r.2
    exact ⟨Inv_mono q.1 (by omega) hP, q.2⟩
  · rw [if_neg c1]
    by_cases c2 : s_ch L p = 108
    · rw [if_pos c2]
      have q := putL_ok hI hJ (s_ref_l c2 hr)
      exact ⟨Inv_mono q.1 (by omega) hP, q.2⟩
    · rw [if_neg c2]
      have c3 : s_ch L p = 97 := by have := s_tE_k hk; omega
      obtain ⟨r1, r2, -⟩ := s_ref_a c3 hr
      obtain ⟨r3, r4⟩ := s_tE_a hk c3
      obtain ⟨n, hn⟩ : ∃ n : Nat, (s_tN L ((s_tD L (p + 1) 0 7).2 + 1)).1 = n := ⟨(s_tN L ((s_tD L (p + 1) 0 7).2 + 1)).1.toNat, by omega⟩
      rw [hn]
      have q := turn_ok (t := (s_tD L (p + 1) 0 7).1.toNat) (s := n) hI hJ hP (by omega) (by omega)
      exact ⟨q.1, q.2.1⟩
theorem x_fr_g {h h' : ux_H} (hF : x_fr h h') {k j : Nat} (hk : 16 ≤ k) : xgi h' k j = xgi h k j := by unfold xgi; rw [hF k hk j]
theorem rI_fr {L : List Nat} {h h' : ux_H} (hL : rI L h) (hF : x_fr h h') : rI L h' :=
  ⟨(x_fr_g hF (by decide)).trans hL.1, hL.2.1, hL.2.2.1, fun j v q => (x_fr_g hF (by decide)).trans (hL.2.2.2 j v q)⟩
theorem rC_frN {A : Ab} {h h' : ux_H} (hC : rC 0 A h) (hF : x_frN h h') : rC 0 A h' := rC_ne hC fun a _ h2 b => hF a b (by omega)
/-- the school and what the reading sets: nothing else has changed -/
def x_frT (h h' : ux_H) : Prop := ∀ k j, 16 ≤ k → ¬ (k = 188 ∧ 2 ≤ j) → h' k j = h k j
theorem x_frT_rf (h : ux_H) : x_frT h h := fun _ _ _ _ => rfl
theorem x_frT_tr {h h1 h2 : ux_H} (a : x_frT h h1) (b : x_frT h1 h2) : x_frT h h2 := fun k j h1 hk => (b k j h1 hk).trans (a k j h1 hk)
theorem x_frT_N {h h' : ux_H} (a : x_frN h h') : x_frT h h' := fun k j _ hk => a k j hk
theorem x_frT_S {h h' : ux_H} (a : x_fr h h') : x_frT h h' := fun k j h1 _ => a k h1 j
def s_telQ (A : Ab) (L : List Nat) (P : Nat) (h : ux_H) (v : Option Value) (h' : ux_H) : Prop :=
  rI L h' ∧ x_frT h h' ∧ ((∃ A' n, s_tell L 70 A 0 0 = some (A', n) ∧ v = some (.int (nI n)) ∧ n ≤ 70 ∧ rC 0 A' h' ∧ Inv (P + 12040) A' ∧ InvF A') ∨ (s_tell L 70 A 0 0 = none ∧ v = some (.int (-1))))
set_option maxRecDepth 100000 in
theorem wX1_tellTo {l : Launch} {G : ux_G} {h0 : ux_H} {L : List Nat} {A0 : Ab} {P : Nat} (hP : P + 12040 ≤ 10000000) : ∀ (n : Nat) (j : Nat) (A : Ab) (p k : Nat) (h : ux_H), rI L h → xgi h 188 2 = nI p → x_frT h0 h → rC 0 A h → Inv (P + 172 * j) A → InvF A → p ≤ L.length → j ≤ 70 → k ≤ j → s_tell L (70 - j) A p k = s_tell L 70 A0 0 0 → 70 - j < n → ux_W l G iX1_tellTo (ux_rm 8 0) (ux_Z G 0 (s_telQ A0 L P h0) (fun _ _ => False)) 9 [some (.ref 188), some (.ref 0), some (.int (nI k)), some (.int (nI j))] [] (h) 0 := by
  intro n
  induction n with
  | zero => intro j A p k h hL hp hE hC hI hJ hpl hj hkj hK hn; exact absurd hn (Nat.not_lt_zero _)
  | succ n ih =>
    intro j A p k h hL hp hE hC hI hJ hpl hj hkj hK hn
    have h70 := hL.2.1
    obtain ⟨i1, i2, i3, i4, i5, i6⟩ := id hI
    refine g_iload_n dX1_tellTo_9 rfl ?_
    refine g_bipush (v := 70) dX1_tellTo_10 (by decide) ?_
    refine g_icmp_ge (tgt := 127) dX1_tellTo_12 (by decide) (fun c12 => ?_) (fun c12 => ?_)
    · have qj : j = 70 := by have := xlt_i (a := 70) c12 (by omega) (by omega); omega
      have kf : s_tell L 70 A0 0 0 = some (A, k) := by rw [← hK, qj]; rfl
      refine g_iload_n dX1_tellTo_127 rfl ?_
      refine g_ireturn dX1_tellTo_128 rfl rfl (by decide) ?_
      exact ⟨hL, hE, Or.inl ⟨A, k, kf, rfl, by omega, hC, Inv_mono hI (by omega) hP, hJ⟩⟩
    · have qj : j < 70 := xnl_i (a := 70) c12 (by omega) (by omega)
      have en : 70 - j = (70 - (j + 1)) + 1 := by omega
      refine g_aload_n dX1_tellTo_15 rfl ?_
      refine g_geti fX1_19 dX1_tellTo_16 rfl rfl ?_
      refine g_top hp ?_
      refine g_aload_n dX1_tellTo_19 rfl ?_
      refine g_geti fX1_15 dX1_tellTo_20 rfl rfl ?_
      refine g_top hL.1 ?_
      refine g_icmp_ge (tgt := 127) dX1_tellTo_23 (by decide) (fun c23 => ?_) (fun c23 => ?_)
      · have qx23q : ¬ p < L.length := by have := xlt_i c23 (by omega) (by omega); omega
        have kf : s_tell L 70 A0 0 0 = some (A, k) := by rw [← hK, s_tell_n _ qx23q]
        refine g_iload_n dX1_tellTo_127 rfl ?_
        refine g_ireturn dX1_tellTo_128 rfl rfl (by decide) ?_
        exact ⟨hL, hE, Or.inl ⟨A, k, kf, rfl, by omega, hC, Inv_mono hI (by omega) hP, hJ⟩⟩
      · have q21 : p < L.length := xnl_i c23 (by omega) (by omega)
        have ch := rI_ch hL q21
        refine g_aload_n dX1_tellTo_26 rfl ?_
        refine q_V (u' := 0) lX1_47 kX1_takeEntry (mX1_takeEntry hL hp q21) dX1_tellTo_27 rfl rfl rfl rfl rfl rfl rfl rfl (fun v h27 hq => ?_) (fun _ _ q => q.elim)
        obtain ⟨rfl, hL, hp, hF8, hV⟩ := hq
        have hE := x_frT_tr hE (x_frT_N hF8)
        have hC := rC_frN hC hF8
        dsimp only [Option.toList, List.cons_append, List.nil_append]
        refine g_if_eq (tgt := 41) dX1_tellTo_30 (by decide) (fun c30 => ?_) (fun c30 => ?_)
        · have qx30q : ¬ (s_tE L p).1 = true := xb_0.mp c30
          have kf : s_tell L 70 A0 0 0 = none := by rw [← hK, en, s_tell_f q21 (fun y => qx30q y.1)]
          refine g_iconst (v := (-1)) dX1_tellTo_41 (by decide) ?_
          refine g_ireturn dX1_tellTo_42 rfl rfl (by decide) ?_
          exact ⟨hL, hE, Or.inr ⟨kf, rfl⟩⟩
        · have q30 : (s_tE L p).1 = true := xb_n0 c30
          obtain ⟨hE3, hEt, hEl, hEa⟩ := hV q30
          refine g_aload_n dX1_tellTo_33 rfl ?_
          refine g_aload_n dX1_tellTo_34 rfl ?_
          refine f1_V (u' := 0) lX1_51 kX1_isRefusedBy (mX1_isRefusedBy hC hI (hV q30) q30 (by omega)) dX1_tellTo_35 rfl rfl rfl rfl rfl rfl rfl rfl ?_
          refine g_if_eq (tgt := 43) dX1_tellTo_38 (by decide) (fun c38 => ?_) (fun c38 => ?_)
          · have q38 : ¬ s_ref A L p = true := xb_0.mp c38
            refine g_aload_n dX1_tellTo_43 rfl ?_
            refine g_geti fX1_22 dX1_tellTo_44 rfl rfl ?_
            refine g_top hE3 ?_
            refine g_bipush (v := 116) dX1_tellTo_47 (by decide) ?_
            refine g_icmp_ne (tgt := 68) dX1_tellTo_49 (by decide) (fun c49 => ?_) (fun c49 => ?_)
            · have qx49q : ¬ s_ch L p = 116 := by rw [nI_iI, show (116 : Int32) = iI 116 by decide, iI_eq (by omega) (by omega) (by omega) (by omega)] at c49; omega
              refine g_aload_n dX1_tellTo_68 rfl ?_
              refine g_geti fX1_22 dX1_tellTo_69 rfl rfl ?_
              refine g_top hE3 ?_
              refine g_bipush (v := 108) dX1_tellTo_72 (by decide) ?_
              refine g_icmp_ne (tgt := 105) dX1_tellTo_74 (by decide) (fun c74 => ?_) (fun c74 => ?_)
              · have qx74q : ¬ s_ch L p = 108 := by rw [nI_iI, show (108 : Int32) = iI 108 by decide, iI_eq (by omega) (by omega) (by omega) (by omega)] at c74; omega
                have q97 : s_ch L p = 97 := by have := s_tE_k q30; omega
                obtain ⟨za, zb⟩ := s_tE_a q30 q97
                obtain ⟨zc, zd, -⟩ := s_ref_a q97 q38
                refine g_aload_n dX1_tellTo_105 rfl ?_
                refine g_aload_n dX1_tellTo_106 rfl ?_
                refine g_geti fX1_41 dX1_tellTo_107 rfl rfl ?_
                refine g_top (hEa q97).1 ?_
                refine g_top (iI_get (by omega) (by omega)) ?_
                refine g_aload_n dX1_tellTo_110 rfl ?_
                refine g_geti fX1_32 dX1_tellTo_111 rfl rfl ?_
                refine g_top (hEa q97).2 ?_
                refine q_VN (u' := 0) lX1_65 kX4_turnAbsence (mX4_turnAbsence hC hI (HO_of hJ) (by omega) (show (s_tD L (p + 1) 0 7).1.toNat < A.1 by omega) (by omega)) dX1_tellTo_114 rfl rfl rfl rfl rfl rfl rfl rfl (fun v h114 hq => ?_)
                obtain ⟨rfl, hCt, hFx⟩ := hq
                dsimp only [Option.toList, List.cons_append, List.nil_append]
                have hX : rC 0 (s_do A L p) h114 := by unfold s_do; rw [if_neg qx49q, if_neg qx74q]; exact hCt
                refine g_pop dX1_tellTo_117 rfl ?_
                refine s_inc (v := nI (k + 1)) dX1_tellTo_118 rfl nI_s rfl rfl rfl ?_
                dsimp only [List.set]
                refine s_inc (v := nI (j + 1)) dX1_tellTo_121 rfl nI_s rfl rfl rfl ?_
                dsimp only [List.set]
                refine g_goto (tgt := 9) dX1_tellTo_124 (by decide) ?_
                have hdo := do_ok hI hJ (by omega) q21 q30 q38
                have tl := s_tE_le (L := L) (p := p) (by omega)
                rw [en, s_tell_s q21 q30 q38] at hK
                exact ih (j + 1) (s_do A L p) (s_tE L p).2 (k + 1) _ (rI_fr hL hFx) ((x_fr_g hFx (by decide)).trans hp) (x_frT_tr hE (x_frT_S hFx)) hX (by rw [show P + 172 * (j + 1) = P + 172 * j + 172 by omega]; exact hdo.1) hdo.2 tl.2.1 (by omega) (by omega) hK (by omega)
              · have q74 : s_ch L p = 108 := by rw [nI_iI, show (108 : Int32) = iI 108 by decide, iI_eq (by omega) (by omega) (by omega) (by omega)] at c74; omega
                refine g_aload_n dX1_tellTo_77 rfl ?_
                refine g_aload_n dX1_tellTo_78 rfl ?_
                refine g_geti fX1_32 dX1_tellTo_79 rfl rfl ?_
                refine g_top (hEl q74).1 ?_
                refine g_aload_n dX1_tellTo_82 rfl ?_
                refine g_geti fX1_35 dX1_tellTo_83 rfl rfl ?_
                refine g_top (hEl q74).2.1 ?_
                refine g_aload_n dX1_tellTo_86 rfl ?_
                refine g_geti fX1_38 dX1_tellTo_87 rfl rfl ?_
                refine g_top (hEl q74).2.2.1 ?_
                refine g_aload_n dX1_tellTo_90 rfl ?_
                refine g_geti fX1_41 dX1_tellTo_91 rfl rfl ?_
                refine g_top (hEl q74).2.2.2.1 ?_
                refine g_aload_n dX1_tellTo_94 rfl ?_
                refine g_geti fX1_44 dX1_tellTo_95 rfl rfl ?_
                refine g_top (hEl q74).2.2.2.2 ?_
                refine f1_VN (u' := 0) lX1_61 kX4_putLesson (mX4_putLesson hC (s_fault_0 (s_ref_l q74 q38)).2.2) dX1_tellTo_98 rfl rfl rfl rfl rfl rfl rfl rfl ?_
                have hX : rC 0 (s_do A L p) (x_putL h27 A.2.1 (s_tN L (p + 1)).1 (s_l1 L (p + 1)).1 (s_l2 L (p + 1)).1 (s_l3 L (p + 1)).1 (s_l4 L (p + 1)).1) := by unfold s_do; rw [if_neg qx49q, if_pos q74]; exact rC_putL hC _ _ _ _ _
                have hFx := x_fr_putL h27 A.2.1 (s_tN L (p + 1)).1 (s_l1 L (p + 1)).1 (s_l2 L (p + 1)).1 (s_l3 L (p + 1)).1 (s_l4 L (p + 1)).1
                refine g_pop dX1_tellTo_101 rfl ?_
                refine g_goto (tgt := 118) dX1_tellTo_102 (by decide) ?_
                refine s_inc (v := nI (k + 1)) dX1_tellTo_118 rfl nI_s rfl rfl rfl ?_
                dsimp only [List.set]
                refine s_inc (v := nI (j + 1)) dX1_tellTo_121 rfl nI_s rfl rfl rfl ?_
                dsimp only [List.set]
                refine g_goto (tgt := 9) dX1_tellTo_124 (by decide) ?_
                have hdo := do_ok hI hJ (by omega) q21 q30 q38
                have tl := s_tE_le (L := L) (p := p) (by omega)
                rw [en, s_tell_s q21 q30 q38] at hK
                exact ih (j + 1) (s_do A L p) (s_tE L p).2 (k + 1) _ (rI_fr hL hFx) ((x_fr_g hFx (by decide)).trans hp) (x_frT_tr hE (x_frT_S hFx)) hX (by rw [show P + 172 * (j + 1) = P + 172 * j + 172 by omega]; exact hdo.1) hdo.2 tl.2.1 (by omega) (by omega) hK (by omega)
            · have q49 : s_ch L p = 116 := by rw [nI_iI, show (116 : Int32) = iI 116 by decide, iI_eq (by omega) (by omega) (by omega) (by omega)] at c49; omega
              refine g_aload_n dX1_tellTo_52 rfl ?_
              refine g_aload_n dX1_tellTo_53 rfl ?_
              refine g_geti fX1_26 dX1_tellTo_54 rfl rfl ?_
              refine g_top (hEt q49).1 ?_
              refine g_top (nI_iI _) ?_
              refine g_aload_n dX1_tellTo_57 rfl ?_
              refine g_geti fX1_29 dX1_tellTo_58 rfl rfl ?_
              refine g_top (hEt q49).2 ?_
              refine f1_VN (u' := 0) lX1_55 kX4_putTeacher (mX4_putTeacher hC (s_ref_t q49 q38)) dX1_tellTo_61 rfl rfl rfl rfl rfl rfl rfl rfl ?_
              have hX : rC 0 (s_do A L p) (x_putT h27 A.1 (s_tTa L (p + 1)).1 (s_tTv L (p + 1)).1) := by unfold s_do; rw [if_pos q49]; exact rC_putT hC _ _
              have hFx := x_fr_putT h27 A.1 (s_tTa L (p + 1)).1 (s_tTv L (p + 1)).1
              refine g_pop dX1_tellTo_64 rfl ?_
              refine g_goto (tgt := 118) dX1_tellTo_65 (by decide) ?_
              refine s_inc (v := nI (k + 1)) dX1_tellTo_118 rfl nI_s rfl rfl rfl ?_
              dsimp only [List.set]
              refine s_inc (v := nI (j + 1)) dX1_tellTo_121 rfl nI_s rfl rfl rfl ?_
              dsimp only [List.set]
              refine g_goto (tgt := 9) dX1_tellTo_124 (by decide) ?_
              have hdo := do_ok hI hJ (by omega) q21 q30 q38
              have tl := s_tE_le (L := L) (p := p) (by omega)
              rw [en, s_tell_s q21 q30 q38] at hK
              exact ih (j + 1) (s_do A L p) (s_tE L p).2 (k + 1) _ (rI_fr hL hFx) ((x_fr_g hFx (by decide)).trans hp) (x_frT_tr hE (x_frT_S hFx)) hX (by rw [show P + 172 * (j + 1) = P + 172 * j + 172 by omega]; exact hdo.1) hdo.2 tl.2.1 (by omega) (by omega) hK (by omega)
          · have qx38q : s_ref A L p = true := xb_n0 c38
            have kf : s_tell L 70 A0 0 0 = none := by rw [← hK, en, s_tell_f q21 (fun y => y.2 qx38q)]
            refine g_iconst (v := (-1)) dX1_tellTo_41 (by decide) ?_
            refine g_ireturn dX1_tellTo_42 rfl rfl (by decide) ?_
            exact ⟨hL, hE, Or.inr ⟨kf, rfl⟩⟩
set_option maxRecDepth 100000 in
theorem mX1_tellTo {l : Launch} {G : ux_G} {h : ux_H} {L : List Nat} (hL : rI L h) {A : Ab} {P : Nat} (hC : rC 0 A h) (hI : Inv P A) (hJ : InvF A) (hP : P + 12040 ≤ 10000000) : ux_M l G yX1_tellTo iX1_tellTo 8 0 [.ref 188, .ref 0] h (s_telQ A L P h) (fun _ _ => False) := by
  refine ux_ent (L' := [some (.ref 188), some (.ref 0), none, none]) kX1_tellTo rfl rfl rfl rfl ?_
  refine g_iconst (v := 0) dX1_tellTo_0 (by decide) ?_
  refine s_i (i := 2) dX1_tellTo_1 rfl rfl rfl rfl ?_
  dsimp only [List.set]
  refine g_aload_n dX1_tellTo_2 rfl ?_
  refine g_iconst (v := 0) dX1_tellTo_3 (by decide) ?_
  refine g_puti pX1_19 dX1_tellTo_4 rfl rfl ?_
  have hL := rI_frN hL (x_frN_si h (j := 2) 0 (by decide))
  have hp : xgi (xsi h 188 2 0) 188 2 = nI 0 := xgi_si h 188 2 0
  have hE := x_frT_N (x_frN_si h (j := 2) 0 (by decide))
  have hC := rC_frN hC (x_frN_si h (j := 2) 0 (by decide))
  refine g_iconst (v := 0) dX1_tellTo_7 (by decide) ?_
  refine s_i (i := 3) dX1_tellTo_8 rfl rfl rfl rfl ?_
  dsimp only [List.set]
  exact wX1_tellTo hP 71 0 A 0 0 _ hL hp hE hC hI hJ (Nat.zero_le _) (by decide) (Nat.le_refl _) rfl (by omega)
