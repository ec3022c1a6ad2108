/-! THE CLASS: a day's covers: the walk. -/
set_option maxRecDepth 100000 in
theorem vX4_cover {l : Launch} {G : ux_G} {h0 : ux_H} {A : Ab} {P : Nat} {d : Nat} (hI : Inv P A) (hJ : InvF A) (hP : P + 1440 ≤ 10000000) (hd : d < 5) {p : Nat} (hp : p < 6) (K : ∀ h, rC 0 (s_cvs A (s_opl A d (p + 1))).1 h → x_fr h0 h → ux_W l G iX4_coverOpenLessons (ux_rm 7 0) (ux_Z G 0 (fun v h' => v = some (.int (nI (s_cvs A (s_opl A d 6)).2)) ∧ rC 0 (s_cvs A (s_opl A d 6)).1 h' ∧ x_fr h0 h') (fun _ _ => False)) 72 [some (.ref 0), some (.int (nI d)), some (.int (nI (s_cvs A (s_opl A d (p + 1))).2)), some (.int (nI p)), none, none] [] h 0) : ∀ (n : Nat) (j : Nat) (h : ux_H), j ≤ A.2.1 → rC 0 (s_cvs A (s_opa A d p j)).1 h → x_fr h0 h → A.2.1 - j < n → ux_W l G iX4_coverOpenLessons (ux_rm 7 0) (ux_Z G 0 (fun v h' => v = some (.int (nI (s_cvs A (s_opl A d 6)).2)) ∧ rC 0 (s_cvs A (s_opl A d 6)).1 h' ∧ x_fr h0 h') (fun _ _ => False)) 13 [some (.ref 0), some (.int (nI d)), some (.int (nI (s_cvs A (s_opa A d p j)).2)), some (.int (nI p)), some (.int (nI j)), none] [] (h) 0 := by
  intro n
  induction n with
  | zero => intro j h hj hC hF hn; exact absurd hn (Nat.not_lt_zero _)
  | succ n ih =>
    intro j h hj hC hF hn
    obtain ⟨i1, i2, i3, i4, i5, i6⟩ := id hI
    have ln := s_opa_len (A := A) (d := d) (p := p) (j := j) i2 (by omega) hj
    obtain ⟨k1, k2, k3, k4, k5, k6⟩ := s_cvs_ok (s_opa A d p j) hI hJ (fun m hm => s_opa_mem hj hm) (s_opa_nd p j) (by omega)
    have k10 := k1.1
    refine g_iload dX4_coverOpenLessons_13 rfl ?_
    refine g_aload_n dX4_coverOpenLessons_15 rfl ?_
    refine g_geti fX4_15 dX4_coverOpenLessons_16 rfl rfl ?_
    refine g_top (y := nI A.2.1) (by rw [hC.2.1, k4]) ?_
    refine g_icmp_ge (tgt := 72) dX4_coverOpenLessons_19 (by decide) (fun c19 => ?_) (fun c19 => ?_)
    · have e : j = A.2.1 := by have := xlt_i c19 (by omega) (by omega); omega
      subst e
      refine g_fg 4 rfl ?_
      dsimp only [List.set]
      exact K h hC hF
    · have hlt : j < A.2.1 := xnl_i c19 (by omega) (by omega)
      have hltB : j < (s_cvs A (s_opa A d p j)).1.2.1 := by rw [k4]; exact hlt
      refine g_aload_n dX4_coverOpenLessons_22 rfl ?_
      refine g_iload dX4_coverOpenLessons_23 rfl ?_
      refine g_iload_n dX4_coverOpenLessons_25 rfl ?_
      refine g_bipush (v := 6) dX4_coverOpenLessons_26 (by decide) ?_
      refine g_imul dX4_coverOpenLessons_28 ?_
      refine g_iload_n dX4_coverOpenLessons_29 rfl ?_
      refine g_iadd dX4_coverOpenLessons_30 ?_
      refine g_top (y := iI ((6 * d + p : Nat) : Int)) (by rw [show (6 : Int32) = nI 6 by decide, pk_mul, nI_add, iI_n, Nat.mul_comm]) ?_
      refine f1_V (u' := 0) lX4_139 kX4_isOpenIn (mX4_isOpenIn hC k1 k2 (by omega) hltB) dX4_coverOpenLessons_31 rfl rfl rfl rfl rfl rfl rfl rfl ?_
      refine g_if_eq (tgt := 46) dX4_coverOpenLessons_34 (by decide) (fun c34 => ?_) (fun c34 => ?_)
      · have q34 := xb_0.mp c34
        refine g_iconst (v := (-1)) dX4_coverOpenLessons_46 (by decide) ?_
        refine s_iw dX4_coverOpenLessons_47 rfl rfl rfl ?_
        dsimp only [List.set]
        refine g_iload dX4_coverOpenLessons_49 rfl ?_
        refine g_iconst (v := (-1)) dX4_coverOpenLessons_51 (by decide) ?_
        refine g_icmp_eq (tgt := 66) dX4_coverOpenLessons_52 (by decide) (fun c52 => ?_) (fun c52 => absurd rfl c52)
        refine s_inc (v := nI (j + 1)) dX4_coverOpenLessons_66 rfl nI_s rfl rfl rfl ?_
        dsimp only [List.set]
        refine g_goto (tgt := 13) dX4_coverOpenLessons_69 (by decide) ?_
        refine g_fg 5 rfl ?_
        dsimp only [List.set]
        have e1 : s_opa A d p (j + 1) = s_opa A d p j := by
          rw [s_opa_s, if_neg, List.append_nil]
          rintro ⟨qa, qb⟩
          apply q34
          have hno := s_opa_no qa
          rw [k5 8 j (by decide) (by omega), s_st_of (fun t => k5 5 t (by decide) (by omega)) (k5 8 j (by decide) (by omega)) (k5 11 j (by decide) (by omega)) (k5 13 j (by decide) (fun y => hno y.2)) (k5 14 j (by decide) (by omega))]
          exact ⟨qa, qb⟩
        have ih9 := ih (j + 1) h (by omega) (by rw [e1]; exact hC) hF (by omega)
        rw [e1] at ih9
        exact ih9
      · have q34 := Decidable.not_not.mp ((not_congr xb_0).mp c34)
        have q34 : aF A 8 j = (6 * d + p : Nat) ∧ s_st A j = 3 := by
          obtain ⟨qa, qb⟩ := q34
          rw [k5 8 j (by decide) (by omega)] at qa
          have hno := s_opa_no qa
          rw [s_st_of (fun t => k5 5 t (by decide) (by omega)) (k5 8 j (by decide) (by omega)) (k5 11 j (by decide) (by omega)) (k5 13 j (by decide) (fun y => hno y.2)) (k5 14 j (by decide) (by omega))] at qb
          exact ⟨qa, qb⟩
        have e0 : s_opa A d p (j + 1) = s_opa A d p j ++ [j] := by rw [s_opa_s, if_pos q34]
        refine g_aload_n dX4_coverOpenLessons_37 rfl ?_
        refine g_iload dX4_coverOpenLessons_38 rfl ?_
        refine f1_V (u' := 0) lX4_173 kX4_bestFor (mX4_bestFor hC k1 hltB) dX4_coverOpenLessons_40 rfl rfl rfl rfl rfl rfl rfl rfl ?_
        refine g_goto (tgt := 47) dX4_coverOpenLessons_43 (by decide) ?_
        refine s_iw dX4_coverOpenLessons_47 rfl rfl rfl ?_
        dsimp only [List.set]
        refine g_iload dX4_coverOpenLessons_49 rfl ?_
        refine g_iconst (v := (-1)) dX4_coverOpenLessons_51 (by decide) ?_
        refine g_icmp_eq (tgt := 66) dX4_coverOpenLessons_52 (by decide) (fun c52 => ?_) (fun c52 => ?_)
        · refine s_inc (v := nI (j + 1)) dX4_coverOpenLessons_66 rfl nI_s rfl rfl rfl ?_
          dsimp only [List.set]
          refine g_goto (tgt := 13) dX4_coverOpenLessons_69 (by decide) ?_
          refine g_fg 5 rfl ?_
          dsimp only [List.set]
          have q52c := s_best_r (s_cvs A (s_opa A d p j)).1 j (s_cvs A (s_opa A d p j)).1.1
          have q52 : s_best (s_cvs A (s_opa A d p j)).1 j (s_cvs A (s_opa A d p j)).1.1 = -1 := (xqm (by omega) (by omega)).mp c52
          have e1 : s_cvs A (s_opa A d p (j + 1)) = s_cvs A (s_opa A d p j) := by rw [e0, s_cvs_app]; unfold s_cv s_cvn; rw [if_pos q52, if_pos q52]; rfl
          have ih9 := ih (j + 1) h (by omega) (by rw [e1]; exact hC) hF (by omega)
          rw [e1] at ih9
          exact ih9
        · refine g_aload_n dX4_coverOpenLessons_55 rfl ?_
          refine g_iload dX4_coverOpenLessons_56 rfl ?_
          refine g_iload dX4_coverOpenLessons_58 rfl ?_
          have q52 : s_best (s_cvs A (s_opa A d p j)).1 j (s_cvs A (s_opa A d p j)).1.1 ≠ -1 := fun y => c52 (by rw [y]; rfl)
          obtain ⟨q52a, q52b⟩ := s_best_bar q52
          have q52c := s_best_r (s_cvs A (s_opa A d p j)).1 j (s_cvs A (s_opa A d p j)).1.1
          refine g_top (y := nI (s_best (s_cvs A (s_opa A d p j)).1 j (s_cvs A (s_opa A d p j)).1.1).toNat) (iI_get (by omega) (by omega)) ?_
          refine q_V (u' := 0) lX4_176 kX4_beginCover (mX4_beginCover hC k1 hltB q52b) dX4_coverOpenLessons_60 rfl rfl rfl rfl rfl rfl rfl rfl (fun v h60 hq => ?_) (fun _ _ q => q.elim)
          obtain ⟨rfl, hC60, hF60⟩ := hq
          dsimp only [Option.toList, List.cons_append, List.nil_append]
          refine s_inc (v := nI ((s_cvs A (s_opa A d p j)).2 + 1)) dX4_coverOpenLessons_63 rfl nI_s rfl rfl rfl ?_
          dsimp only [List.set]
          refine s_inc (v := nI (j + 1)) dX4_coverOpenLessons_66 rfl nI_s rfl rfl rfl ?_
          dsimp only [List.set]
          refine g_goto (tgt := 13) dX4_coverOpenLessons_69 (by decide) ?_
          refine g_fg 5 rfl ?_
          dsimp only [List.set]
          have e1 : s_cvs A (s_opa A d p (j + 1)) = (s_begin (s_cvs A (s_opa A d p j)).1 j (s_best (s_cvs A (s_opa A d p j)).1 j (s_cvs A (s_opa A d p j)).1.1).toNat, (s_cvs A (s_opa A d p j)).2 + 1) := by rw [e0, s_cvs_app]; unfold s_cv s_cvn; rw [if_neg q52, if_neg q52]
          have ih9 := ih (j + 1) h60 (by omega) (by rw [e1]; exact hC60) (x_fr_tr hF hF60) (by omega)
          rw [e1] at ih9
          exact ih9
set_option maxRecDepth 100000 in
theorem wX4_cover {l : Launch} {G : ux_G} {h0 : ux_H} {A : Ab} {P : Nat} {d : Nat} (hI : Inv P A) (hJ : InvF A) (hP : P + 1440 ≤ 10000000) (hd : d < 5) : ∀ (n : Nat) (p : Nat) (h : ux_H), p ≤ 6 → rC 0 (s_cvs A (s_opl A d p)).1 h → x_fr h0 h → 6 - p < n → ux_W l G iX4_coverOpenLessons (ux_rm 7 0) (ux_Z G 0 (fun v h' => v = some (.int (nI (s_cvs A (s_opl A d 6)).2)) ∧ rC 0 (s_cvs A (s_opl A d 6)).1 h' ∧ x_fr h0 h') (fun _ _ => False)) 4 [some (.ref 0), some (.int (nI d)), some (.int (nI (s_cvs A (s_opl A d p)).2)), some (.int (nI p)), none, none] [] (h) 0 := by
  intro n
  induction n with
  | zero => intro p h hp hC hF hn; exact absurd hn (Nat.not_lt_zero _)
  | succ n ih =>
    intro p h hp hC hF hn
    obtain ⟨i1, i2, i3, i4, i5, i6⟩ := id hI
    refine g_iload_n dX4_coverOpenLessons_4 rfl ?_
    refine g_bipush (v := 6) dX4_coverOpenLessons_5 (by decide) ?_
    refine g_icmp_ge (tgt := 78) dX4_coverOpenLessons_7 (by decide) (fun c7 => ?_) (fun c7 => ?_)
    · have e : p = 6 := by have := xlt_i (a := 6) c7 (by omega) (by omega); omega
      subst e
      refine g_iload_n dX4_coverOpenLessons_78 rfl ?_
      refine g_ireturn dX4_coverOpenLessons_79 rfl rfl (by decide) ?_
      exact ⟨rfl, hC, hF⟩
    · have hlt : p < 6 := xnl_i (a := 6) c7 (by omega) (by omega)
      refine g_iconst (v := 0) dX4_coverOpenLessons_10 (by decide) ?_
      refine s_iw dX4_coverOpenLessons_11 rfl rfl rfl ?_
      dsimp only [List.set]
      have el : s_opa A d p 0 = s_opl A d p := by unfold s_opa; show _ ++ [] = _; rw [List.append_nil]
      have v0 := vX4_cover (l := l) (G := G) (h0 := h0) hI hJ hP hd hlt ?_ (A.2.1 + 1) 0 h (Nat.zero_le _) (by rw [el]; exact hC) hF (by omega)
      · rw [el] at v0
        exact v0
      · intro h2 hC2 hF2
        refine s_inc (v := nI (p + 1)) dX4_coverOpenLessons_72 rfl nI_s rfl rfl rfl ?_
        dsimp only [List.set]
        refine g_goto (tgt := 4) dX4_coverOpenLessons_75 (by decide) ?_
        exact ih (p + 1) h2 (by omega) hC2 hF2 (by omega)
set_option maxRecDepth 100000 in
theorem mX4_coverOpenLessons {l : Launch} {G : ux_G} {h : ux_H} {A : Ab} {P : Nat} {d : Nat} (hC : rC 0 A h) (hI : Inv P A) (hJ : InvF A) (hP : P + 1440 ≤ 10000000) (hd : d < 5) : ux_M l G yX4_coverOpenLessons iX4_coverOpenLessons 7 0 [.ref 0, .int (nI d)] h (fun v h' => v = some (.int (nI (s_cvs A (s_opl A d 6)).2)) ∧ rC 0 (s_cvs A (s_opl A d 6)).1 h' ∧ x_fr h h') (fun _ _ => False) := by
  refine ux_ent (L' := [some (.ref 0), some (.int (nI d)), none, none, none, none]) kX4_coverOpenLessons rfl rfl rfl rfl ?_
  refine g_iconst (v := 0) dX4_coverOpenLessons_0 (by decide) ?_
  refine s_i (i := 2) dX4_coverOpenLessons_1 rfl rfl rfl rfl ?_
  dsimp only [List.set]
  refine g_iconst (v := 0) dX4_coverOpenLessons_2 (by decide) ?_
  refine s_i (i := 3) dX4_coverOpenLessons_3 rfl rfl rfl rfl ?_
  dsimp only [List.set]
  exact wX4_cover (l := l) (G := G) (h0 := h) hI hJ hP hd 7 0 h (Nat.zero_le _) hC (x_fr_rf h) (by omega)
