/-! THE CLASS: the best, the extreme, sums, open lessons in order. -/
theorem xadd1 (a : Int) : iI a + 1 = iI (a + 1) := by rw [iI_1, iI_add]
theorem xadd0 (a : Int) : iI a + 0 = iI a := by rw [iI_0, iI_add, Int.add_zero]
theorem s_st1 {A : Ab} (hJ : InvF A) {j : Nat} (hj : j < A.2.1) : s_st A j = 1 ↔ aF A 13 j ≠ -1 := by
  unfold s_st
  constructor
  · intro q
    split at q
    · split at q
      · assumption
      · split at q <;> omega
    · omega
  · intro q
    rw [if_pos (hJ.2.1 j hj q).1, if_pos q]
theorem s_st2 {A : Ab} (hJ : InvF A) {j : Nat} (hj : j < A.2.1) : s_st A j = 2 ↔ aF A 14 j ≠ -1 := by
  unfold s_st
  constructor
  · intro q
    split at q
    · split at q
      · omega
      · split at q
        · assumption
        · omega
    · omega
  · intro q
    have h1 := (hJ.2.2.2.1 j hj q).1
    have h2 : ¬ aF A 13 j ≠ -1 := fun z => q (hJ.2.1 j hj z).2.2.2.1
    rw [if_pos h1, if_neg h2, if_pos q]
set_option maxRecDepth 100000 in
theorem wX4_bestFor {l : Launch} {G : ux_G} {h : ux_H} {i : Nat} {A : Ab} {P : Nat} (hC : rC 0 A h) (hI : Inv P A) (hi : i < A.2.1) : ∀ (n : Nat) (j : Nat), j ≤ A.1 → A.1 - j < n → ux_W l G iX4_bestFor (ux_rm 6 0) (ux_Z G 0 (fun vv h' => vv = some (.int (iI (s_best A i A.1))) ∧ h' = h) (fun _ _ => False)) 4 [some (.ref 0), some (.int (nI i)), some (.int (iI (s_best A i j))), some (.int (nI j))] [] (h) 0 := by
  intro n
  induction n with
  | zero => intro j hj hn; exact absurd hn (Nat.not_lt_zero _)
  | succ n ih =>
    intro j hj hn
    obtain ⟨i1, i2, i3, i4, i5, i6⟩ := id hI
    refine g_iload_n dX4_bestFor_4 rfl ?_
    refine g_aload_n dX4_bestFor_5 rfl ?_
    refine g_geti fX4_9 dX4_bestFor_6 rfl rfl ?_
    refine g_top hC.1 ?_
    refine g_icmp_ge (tgt := 44) dX4_bestFor_9 (by decide) (fun c9 => ?_) (fun c9 => ?_)
    · have e : j = A.1 := by have := xlt_i c9 (by omega) (by omega); omega
      subst e
      refine g_iload_n dX4_bestFor_44 rfl ?_
      refine g_ireturn dX4_bestFor_45 rfl rfl (by decide) ?_
      exact ⟨rfl, rfl⟩
    · have hlt : j < A.1 := xnl_i c9 (by omega) (by omega)
      refine g_aload_n dX4_bestFor_12 rfl ?_
      refine g_iload_n dX4_bestFor_13 rfl ?_
      refine g_iload_n dX4_bestFor_14 rfl ?_
      have br := s_bar_r A i j
      have sr := s_best_r A i j
      refine f1_V (u' := 0) lX4_160 kX4_reasonAgainst (mX4_reasonAgainst hC hI (by assumption) (by assumption)) dX4_bestFor_15 rfl rfl rfl rfl rfl rfl rfl rfl ?_
      refine g_if_ne (tgt := 38) dX4_bestFor_18 (by decide) (fun c18 => ?_) (fun c18 => ?_)
      · rw [xq0 (by omega) (by omega)] at c18
        refine s_inc (v := nI (j + 1)) dX4_bestFor_38 rfl nI_s rfl rfl rfl ?_
        dsimp only [List.set]
        refine g_goto (tgt := 4) dX4_bestFor_41 (by decide) ?_
        have e0 : s_best A i (j + 1) = s_best A i j := by simp [s_best, c18]
        have ih9 := ih (j + 1) (by omega) (by omega)
        rw [e0] at ih9
        exact ih9
      · rw [xq0 (by omega) (by omega)] at c18
        refine g_iload_n dX4_bestFor_21 rfl ?_
        refine g_iconst (v := (-1)) dX4_bestFor_22 (by decide) ?_
        refine g_icmp_eq (tgt := 36) dX4_bestFor_23 (by decide) (fun c23 => ?_) (fun c23 => ?_)
        · rw [xqm (by omega) (by omega)] at c23
          refine g_iload_n dX4_bestFor_36 rfl ?_
          refine s_i (i := 2) dX4_bestFor_37 rfl rfl rfl rfl ?_
          dsimp only [List.set]
          refine s_inc (v := nI (j + 1)) dX4_bestFor_38 rfl nI_s rfl rfl rfl ?_
          dsimp only [List.set]
          refine g_goto (tgt := 4) dX4_bestFor_41 (by decide) ?_
          have e0 : s_best A i (j + 1) = (j : Int) := by simp [s_best, c18, c23]
          have ih9 := ih (j + 1) (by omega) (by omega)
          rw [e0, ← nI_iI j] at ih9
          exact ih9
        · rw [xqm (by omega) (by omega)] at c23
          refine g_aload_n dX4_bestFor_26 rfl ?_
          refine g_iload_n dX4_bestFor_27 rfl ?_
          refine g_iload_n dX4_bestFor_28 rfl ?_
          refine g_iload_n dX4_bestFor_29 rfl ?_
          have ho : (s_best A i j).toNat < A.1 := by omega
          refine g_top (y := nI (s_best A i j).toNat) (iI_get (by omega) (by omega)) ?_
          refine f1_V (u' := 0) lX4_163 kX4_isBetterFor (mX4_isBetterFor hC hI (by assumption) (by assumption) (by assumption)) dX4_bestFor_30 rfl rfl rfl rfl rfl rfl rfl rfl ?_
          refine g_if_eq (tgt := 38) dX4_bestFor_33 (by decide) (fun c33 => ?_) (fun c33 => ?_)
          · have q33 := xb_0.mp c33
            refine s_inc (v := nI (j + 1)) dX4_bestFor_38 rfl nI_s rfl rfl rfl ?_
            dsimp only [List.set]
            refine g_goto (tgt := 4) dX4_bestFor_41 (by decide) ?_
            have e0 : s_best A i (j + 1) = s_best A i j := by simp [s_best, c18, c23, q33]
            have ih9 := ih (j + 1) (by omega) (by omega)
            rw [e0] at ih9
            exact ih9
          · have q33 := Decidable.not_not.mp ((not_congr xb_0).mp c33)
            refine g_iload_n dX4_bestFor_36 rfl ?_
            refine s_i (i := 2) dX4_bestFor_37 rfl rfl rfl rfl ?_
            dsimp only [List.set]
            refine s_inc (v := nI (j + 1)) dX4_bestFor_38 rfl nI_s rfl rfl rfl ?_
            dsimp only [List.set]
            refine g_goto (tgt := 4) dX4_bestFor_41 (by decide) ?_
            have e0 : s_best A i (j + 1) = (j : Int) := by simp [s_best, c18, c23, q33]
            have ih9 := ih (j + 1) (by omega) (by omega)
            rw [e0, ← nI_iI j] at ih9
            exact ih9
set_option maxRecDepth 100000 in
theorem mX4_bestFor {l : Launch} {G : ux_G} {h : ux_H} {i : Nat} {A : Ab} {P : Nat} (hC : rC 0 A h) (hI : Inv P A) (hi : i < A.2.1) : ux_F l G yX4_bestFor iX4_bestFor 6 0 [.ref 0, .int (nI i)] h (some (.int (iI (s_best A i A.1)))) (h) := by
  unfold ux_F
  refine ux_ent (L' := [some (.ref 0), some (.int (nI i)), none, none]) kX4_bestFor rfl rfl rfl rfl ?_
  refine g_iconst (v := (-1)) dX4_bestFor_0 (by decide) ?_
  refine s_i (i := 2) dX4_bestFor_1 rfl rfl rfl rfl ?_
  dsimp only [List.set]
  refine g_iconst (v := 0) dX4_bestFor_2 (by decide) ?_
  refine s_i (i := 3) dX4_bestFor_3 rfl rfl rfl rfl ?_
  dsimp only [List.set]
  exact wX4_bestFor (l := l) (G := G) hC hI hi (A.1 + 1) 0 (Nat.zero_le _) (by omega)
set_option maxRecDepth 100000 in
theorem wX4_extremeTeacher {l : Launch} {G : ux_G} {h : ux_H} {b : Bool} {A : Ab} {P : Nat} (hC : rC 0 A h) (hI : Inv P A) (h0 : 0 < A.1) : ∀ (n : Nat) (j : Nat), 1 ≤ j → j ≤ A.1 → A.1 - j < n → ux_W l G iX4_extremeTeacher (ux_rm 4 0) (ux_Z G 0 (fun vv h' => vv = some (.int (nI (s_ext A b A.1))) ∧ h' = h) (fun _ _ => False)) 4 [some (.ref 0), some (.int (if b then 1 else 0)), some (.int (nI (s_ext A b j))), some (.int (nI j)), none] [] (h) 0 := by
  intro n
  induction n with
  | zero => intro j hj0 hj hn; exact absurd hn (Nat.not_lt_zero _)
  | succ n ih =>
    intro j hj0 hj hn
    obtain ⟨i1, i2, i3, i4, i5, i6⟩ := id hI
    refine g_iload_n dX4_extremeTeacher_4 rfl ?_
    refine g_aload_n dX4_extremeTeacher_5 rfl ?_
    refine g_geti fX4_9 dX4_extremeTeacher_6 rfl rfl ?_
    refine g_top hC.1 ?_
    refine g_icmp_ge (tgt := 50) dX4_extremeTeacher_9 (by decide) (fun c9 => ?_) (fun c9 => ?_)
    · have e : j = A.1 := by have := xlt_i c9 (by omega) (by omega); omega
      subst e
      refine g_iload_n dX4_extremeTeacher_50 rfl ?_
      refine g_ireturn dX4_extremeTeacher_51 rfl rfl (by decide) ?_
      exact ⟨rfl, rfl⟩
    · have hlt : j < A.1 := xnl_i c9 (by omega) (by omega)
      refine g_aload_n dX4_extremeTeacher_12 rfl ?_
      refine g_iload_n dX4_extremeTeacher_13 rfl ?_
      have ho : s_ext A b j < A.1 := by have := s_ext_r A b j; omega
      have t1 := i4 j hlt
      have t2 := i4 _ ho
      have s1 := s_share_r hI hlt (p := aF A 4 j) (B := 10000000) (by omega) (by omega)
      have s2 := s_share_r hI ho (p := aF A 4 (s_ext A b j)) (B := 10000000) (by omega) (by omega)
      refine f1_V (u' := 0) lX4_114 kX4_shareOf (mX4_shareOf hC hI hlt) dX4_extremeTeacher_14 rfl rfl rfl rfl rfl rfl rfl rfl ?_
      refine g_aload_n dX4_extremeTeacher_17 rfl ?_
      refine g_iload_n dX4_extremeTeacher_18 rfl ?_
      refine f1_V (u' := 0) lX4_114 kX4_shareOf (mX4_shareOf hC hI ho) dX4_extremeTeacher_19 rfl rfl rfl rfl rfl rfl rfl rfl ?_
      refine g_isub dX4_extremeTeacher_22 ?_
      refine g_top (iI_sub _ _) ?_
      refine s_iw dX4_extremeTeacher_23 rfl rfl rfl ?_
      dsimp only [List.set]
      refine g_iload_n dX4_extremeTeacher_25 rfl ?_
      refine g_if_eq (tgt := 37) dX4_extremeTeacher_26 (by decide) (fun c26 => ?_) (fun c26 => ?_)
      · have q26 : b = false := by cases b; rfl; exact absurd c26 (by decide)
        refine g_iload dX4_extremeTeacher_37 rfl ?_
        refine g_if_ge (tgt := 44) dX4_extremeTeacher_39 (by decide) (fun c39 => ?_) (fun c39 => ?_)
        · rw [iI_0, iI_le (by omega) (by omega) (by omega) (by omega)] at c39
          refine s_inc (v := nI (j + 1)) dX4_extremeTeacher_44 rfl nI_s rfl rfl rfl ?_
          dsimp only [List.set]
          refine g_goto (tgt := 4) dX4_extremeTeacher_47 (by decide) ?_
          refine g_fg 4 rfl ?_
          dsimp only [List.set]
          have eb : b = false := q26
          subst eb
          have e0 : s_ext A false (j + 1) = s_ext A false j := by rw [show s_ext A false (j + 1) = if j = 0 then 0 else if s_exc A false j (s_ext A false j) = true then j else s_ext A false j from rfl, if_neg (by omega), if_neg (by simp [s_exc]; omega)]
          have ih9 := ih (j + 1) (by omega) (by omega) (by omega)
          rw [e0] at ih9
          exact ih9
        · rw [iI_0, iI_le (by omega) (by omega) (by omega) (by omega)] at c39
          refine g_iload_n dX4_extremeTeacher_42 rfl ?_
          refine s_i (i := 2) dX4_extremeTeacher_43 rfl rfl rfl rfl ?_
          dsimp only [List.set]
          refine s_inc (v := nI (j + 1)) dX4_extremeTeacher_44 rfl nI_s rfl rfl rfl ?_
          dsimp only [List.set]
          refine g_goto (tgt := 4) dX4_extremeTeacher_47 (by decide) ?_
          refine g_fg 4 rfl ?_
          dsimp only [List.set]
          have eb : b = false := q26
          subst eb
          have e0 : s_ext A false (j + 1) = j := by unfold s_ext; rw [if_neg (by omega), if_pos (by simp [s_exc]; omega)]
          have ih9 := ih (j + 1) (by omega) (by omega) (by omega)
          rw [e0] at ih9
          exact ih9
      · have q26 : b = true := by cases b; exact absurd rfl c26; rfl
        refine g_iload dX4_extremeTeacher_29 rfl ?_
        refine g_if_le (tgt := 44) dX4_extremeTeacher_31 (by decide) (fun c31 => ?_) (fun c31 => ?_)
        · rw [iI_0, iI_le (by omega) (by omega) (by omega) (by omega)] at c31
          refine s_inc (v := nI (j + 1)) dX4_extremeTeacher_44 rfl nI_s rfl rfl rfl ?_
          dsimp only [List.set]
          refine g_goto (tgt := 4) dX4_extremeTeacher_47 (by decide) ?_
          refine g_fg 4 rfl ?_
          dsimp only [List.set]
          have eb : b = true := q26
          subst eb
          have e0 : s_ext A true (j + 1) = s_ext A true j := by rw [show s_ext A true (j + 1) = if j = 0 then 0 else if s_exc A true j (s_ext A true j) = true then j else s_ext A true j from rfl, if_neg (by omega), if_neg (by simp [s_exc]; omega)]
          have ih9 := ih (j + 1) (by omega) (by omega) (by omega)
          rw [e0] at ih9
          exact ih9
        · rw [iI_0, iI_le (by omega) (by omega) (by omega) (by omega)] at c31
          refine g_goto (tgt := 42) dX4_extremeTeacher_34 (by decide) ?_
          refine g_iload_n dX4_extremeTeacher_42 rfl ?_
          refine s_i (i := 2) dX4_extremeTeacher_43 rfl rfl rfl rfl ?_
          dsimp only [List.set]
          refine s_inc (v := nI (j + 1)) dX4_extremeTeacher_44 rfl nI_s rfl rfl rfl ?_
          dsimp only [List.set]
          refine g_goto (tgt := 4) dX4_extremeTeacher_47 (by decide) ?_
          refine g_fg 4 rfl ?_
          dsimp only [List.set]
          have eb : b = true := q26
          subst eb
          have e0 : s_ext A true (j + 1) = j := by unfold s_ext; rw [if_neg (by omega), if_pos (by simp [s_exc]; omega)]
          have ih9 := ih (j + 1) (by omega) (by omega) (by omega)
          rw [e0] at ih9
          exact ih9
set_option maxRecDepth 100000 in
theorem mX4_extremeTeacher {l : Launch} {G : ux_G} {h : ux_H} {b : Bool} {A : Ab} {P : Nat} (hC : rC 0 A h) (hI : Inv P A) (h0 : 0 < A.1) : ux_F l G yX4_extremeTeacher iX4_extremeTeacher 4 0 [.ref 0, .int (if b then 1 else 0)] h (some (.int (nI (s_ext A b A.1)))) (h) := by
  unfold ux_F
  refine ux_ent (L' := [some (.ref 0), some (.int (if b then 1 else 0)), none, none, none]) kX4_extremeTeacher rfl rfl rfl rfl ?_
  refine g_iconst (v := 0) dX4_extremeTeacher_0 (by decide) ?_
  refine s_i (i := 2) dX4_extremeTeacher_1 rfl rfl rfl rfl ?_
  dsimp only [List.set]
  refine g_iconst (v := 1) dX4_extremeTeacher_2 (by decide) ?_
  refine s_i (i := 3) dX4_extremeTeacher_3 rfl rfl rfl rfl ?_
  dsimp only [List.set]
  have e1 : s_ext A b 1 = 0 := rfl
  have := wX4_extremeTeacher (l := l) (G := G) (b := b) hC hI h0 (A.1 + 1) 1 (Nat.le_refl _) h0 (by omega)
  rw [e1] at this
  exact this
set_option maxRecDepth 100000 in
theorem wX4_pointsOfAll {l : Launch} {G : ux_G} {h : ux_H} {set : Int32} {A : Ab} {P : Nat} (hC : rC 0 A h) (hI : Inv P A) : ∀ (n : Nat) (j : Nat), j ≤ A.1 → A.1 - j < n → ux_W l G iX4_pointsOfAll (ux_rm 2 0) (ux_Z G 0 (fun vv h' => vv = some (.int (iI (s_psum A set A.1))) ∧ h' = h) (fun _ _ => False)) 4 [some (.ref 0), some (.int set), some (.int (iI (s_psum A set j))), some (.int (nI j))] [] (h) 0 := by
  intro n
  induction n with
  | zero => intro j hj hn; exact absurd hn (Nat.not_lt_zero _)
  | succ n ih =>
    intro j hj hn
    obtain ⟨i1, i2, i3, i4, i5, i6⟩ := id hI
    refine g_iload_n dX4_pointsOfAll_4 rfl ?_
    refine g_aload_n dX4_pointsOfAll_5 rfl ?_
    refine g_geti fX4_9 dX4_pointsOfAll_6 rfl rfl ?_
    refine g_top hC.1 ?_
    refine g_icmp_ge (tgt := 37) dX4_pointsOfAll_9 (by decide) (fun c9 => ?_) (fun c9 => ?_)
    · have e : j = A.1 := by have := xlt_i c9 (by omega) (by omega); omega
      subst e
      refine g_iload_n dX4_pointsOfAll_37 rfl ?_
      refine g_ireturn dX4_pointsOfAll_38 rfl rfl (by decide) ?_
      exact ⟨rfl, rfl⟩
    · have hlt : j < A.1 := xnl_i c9 (by omega) (by omega)
      refine g_iload_n dX4_pointsOfAll_12 rfl ?_
      refine g_iload_n dX4_pointsOfAll_13 rfl ?_
      refine g_ishr dX4_pointsOfAll_14 ?_
      refine g_iconst (v := 1) dX4_pointsOfAll_15 (by decide) ?_
      refine g_iand dX4_pointsOfAll_16 ?_
      refine g_if_eq (tgt := 31) dX4_pointsOfAll_17 (by decide) (fun c17 => ?_) (fun c17 => ?_)
      · refine s_inc (v := nI (j + 1)) dX4_pointsOfAll_31 rfl nI_s rfl rfl rfl ?_
        dsimp only [List.set]
        refine g_goto (tgt := 4) dX4_pointsOfAll_34 (by decide) ?_
        have e0 : s_psum A set (j + 1) = s_psum A set j + (if set >>> (nI j &&& 31) &&& 1 = 0 then 0 else aF A 4 j) := rfl
        rw [if_pos c17, Int.add_zero] at e0
        have ih9 := ih (j + 1) (by omega) (by omega)
        rw [e0] at ih9
        exact ih9
      · refine g_iload_n dX4_pointsOfAll_20 rfl ?_
        refine g_aload_n dX4_pointsOfAll_21 rfl ?_
        refine g_getr (q := 4) fX4_34 dX4_pointsOfAll_22 rfl rfl rfl ?_
        refine g_iload_n dX4_pointsOfAll_25 rfl ?_
        refine f1_SN (u' := 0) lX4_85 kX5_at (mA_t (f := 4) hC i1 (by assumption) rfl) dX4_pointsOfAll_26 rfl rfl rfl rfl rfl rfl ?_
        refine g_iadd dX4_pointsOfAll_29 ?_
        refine g_top (iI_add _ _) ?_
        refine s_i (i := 2) dX4_pointsOfAll_30 rfl rfl rfl rfl ?_
        dsimp only [List.set]
        refine s_inc (v := nI (j + 1)) dX4_pointsOfAll_31 rfl nI_s rfl rfl rfl ?_
        dsimp only [List.set]
        refine g_goto (tgt := 4) dX4_pointsOfAll_34 (by decide) ?_
        have e0 : s_psum A set (j + 1) = s_psum A set j + (if set >>> (nI j &&& 31) &&& 1 = 0 then 0 else aF A 4 j) := rfl
        rw [if_neg c17] at e0
        have ih9 := ih (j + 1) (by omega) (by omega)
        rw [e0] at ih9
        exact ih9
set_option maxRecDepth 100000 in
theorem mX4_pointsOfAll {l : Launch} {G : ux_G} {h : ux_H} {set : Int32} {A : Ab} {P : Nat} (hC : rC 0 A h) (hI : Inv P A) : ux_F l G yX4_pointsOfAll iX4_pointsOfAll 2 0 [.ref 0, .int set] h (some (.int (iI (s_psum A set A.1)))) (h) := by
  unfold ux_F
  refine ux_ent (L' := [some (.ref 0), some (.int set), none, none]) kX4_pointsOfAll rfl rfl rfl rfl ?_
  refine g_iconst (v := 0) dX4_pointsOfAll_0 (by decide) ?_
  refine s_i (i := 2) dX4_pointsOfAll_1 rfl rfl rfl rfl ?_
  dsimp only [List.set]
  refine g_iconst (v := 0) dX4_pointsOfAll_2 (by decide) ?_
  refine s_i (i := 3) dX4_pointsOfAll_3 rfl rfl rfl rfl ?_
  dsimp only [List.set]
  exact wX4_pointsOfAll (l := l) (G := G) hC hI (A.1 + 1) 0 (Nat.zero_le _) (by omega)
set_option maxRecDepth 100000 in
theorem wX4_pointsFoundAnew {l : Launch} {G : ux_G} {h : ux_H} {t : Nat} {A : Ab} {P : Nat} (hC : rC 0 A h) (hI : Inv P A) (hJ : InvF A) (ht : t < A.1) : ∀ (n : Nat) (j : Nat) (x : Int), j ≤ A.2.1 → x = s_anew A t j → A.2.1 - j < n → ux_W l G iX4_pointsFoundAnew (ux_rm 4 0) (ux_Z G 0 (fun vv h' => vv = some (.int (iI (s_anew A t A.2.1))) ∧ h' = h) (fun _ _ => False)) 4 [some (.ref 0), some (.int (nI t)), some (.int (iI x)), some (.int (nI j)), none] [] (h) 0 := by
  intro n
  induction n with
  | zero => intro j x hj hx hn; exact absurd hn (Nat.not_lt_zero _)
  | succ n ih =>
    intro j x hj hx hn
    obtain ⟨i1, i2, i3, i4, i5, i6⟩ := id hI
    refine g_iload_n dX4_pointsFoundAnew_4 rfl ?_
    refine g_aload_n dX4_pointsFoundAnew_5 rfl ?_
    refine g_geti fX4_15 dX4_pointsFoundAnew_6 rfl rfl ?_
    refine g_top hC.2.1 ?_
    refine g_icmp_ge (tgt := 106) dX4_pointsFoundAnew_9 (by decide) (fun c9 => ?_) (fun c9 => ?_)
    · have e : j = A.2.1 := by have := xlt_i c9 (by omega) (by omega); omega
      subst e
      refine g_iload_n dX4_pointsFoundAnew_106 rfl ?_
      refine g_ireturn dX4_pointsFoundAnew_107 rfl rfl (by decide) ?_
      rw [hx]; exact ⟨rfl, rfl⟩
    · have hlt : j < A.2.1 := xnl_i c9 (by omega) (by omega)
      have il := i6 j hlt
      have hr := s_st_r A j
      have e0 : s_anew A t (j + 1) = s_anew A t j + (if aF A 13 j = t then s_worth A j t else 0) + (if aF A 14 j = -1 then 0 else (if s_act A (aF A 14 j).toNat = t then 1 else 0) + (if s_act A (aF A 15 j).toNat = t then 1 else 0)) := rfl
      refine g_aload_n dX4_pointsFoundAnew_12 rfl ?_
      refine g_iload_n dX4_pointsFoundAnew_13 rfl ?_
      refine f1_V (u' := 0) lX4_100 kX4_stateOf (mX4_stateOf hC hI (InvS_of hI hJ) (by assumption)) dX4_pointsFoundAnew_14 rfl rfl rfl rfl rfl rfl rfl rfl ?_
      refine s_iw dX4_pointsFoundAnew_17 rfl rfl rfl ?_
      dsimp only [List.set]
      refine g_iload dX4_pointsFoundAnew_19 rfl ?_
      refine g_iconst (v := 1) dX4_pointsFoundAnew_21 (by decide) ?_
      refine g_icmp_ne (tgt := 46) dX4_pointsFoundAnew_22 (by decide) (fun c22 => ?_) (fun c22 => ?_)
      · rw [show (1 : Int32) = iI 1 by decide, iI_eq (by omega) (by omega) (by omega) (by omega), s_st1 hJ hlt] at c22
        refine g_iload dX4_pointsFoundAnew_46 rfl ?_
        refine g_iconst (v := 2) dX4_pointsFoundAnew_48 (by decide) ?_
        refine g_icmp_ne (tgt := 100) dX4_pointsFoundAnew_49 (by decide) (fun c49 => ?_) (fun c49 => ?_)
        · rw [show (2 : Int32) = iI 2 by decide, iI_eq (by omega) (by omega) (by omega) (by omega), s_st2 hJ hlt] at c49
          refine s_inc (v := nI (j + 1)) dX4_pointsFoundAnew_100 rfl nI_s rfl rfl rfl ?_
          dsimp only [List.set]
          refine g_goto (tgt := 4) dX4_pointsFoundAnew_103 (by decide) ?_
          refine g_fg 4 rfl ?_
          dsimp only [List.set]
          refine ih (j + 1) _ (by omega) ?_ (by omega)
          rw [e0, hx]
          repeat' split
          all_goals omega
        · rw [show (2 : Int32) = iI 2 by decide, iI_eq (by omega) (by omega) (by omega) (by omega), s_st2 hJ hlt] at c49
          have h15 : aF A 15 j ≠ -1 := fun z => c49 ((hJ.2.2.1 j hlt).mpr z)
          have ha : (aF A 14 j).toNat < A.2.1 := by omega
          have hb : (aF A 15 j).toNat < A.2.1 := by omega
          have ra := s_act_r hI ha
          have rb := s_act_r hI hb
          refine g_iload_n dX4_pointsFoundAnew_52 rfl ?_
          refine g_aload_n dX4_pointsFoundAnew_53 rfl ?_
          refine g_aload_n dX4_pointsFoundAnew_54 rfl ?_
          refine g_getr (q := 14) fX4_64 dX4_pointsFoundAnew_55 rfl rfl rfl ?_
          refine g_iload_n dX4_pointsFoundAnew_58 rfl ?_
          refine f1_SN (u' := 0) lX4_85 kX5_at (mA_l (f := 14) hC i2 (by assumption) rfl) dX4_pointsFoundAnew_59 rfl rfl rfl rfl rfl rfl ?_
          refine g_top (y := nI (aF A 14 j).toNat) (iI_get (by omega) (by omega)) ?_
          refine f1_V (u' := 0) lX4_123 kX4_actingOf (mX4_actingOf hC hI ha) dX4_pointsFoundAnew_62 rfl rfl rfl rfl rfl rfl rfl rfl ?_
          refine g_iload_n dX4_pointsFoundAnew_65 rfl ?_
          refine g_icmp_ne (tgt := 73) dX4_pointsFoundAnew_66 (by decide) (fun c66 => ?_) (fun c66 => ?_)
          · rw [xq (by omega) (by omega) (by omega)] at c66
            refine g_iconst (v := 0) dX4_pointsFoundAnew_73 (by decide) ?_
            refine g_iadd dX4_pointsFoundAnew_74 ?_
            first | refine g_top (xadd1 _) ?_ | refine g_top (xadd0 _) ?_ | refine g_top (iI_add _ _) ?_
            refine s_i (i := 2) dX4_pointsFoundAnew_75 rfl rfl rfl rfl ?_
            dsimp only [List.set]
            refine g_iload_n dX4_pointsFoundAnew_76 rfl ?_
            refine g_aload_n dX4_pointsFoundAnew_77 rfl ?_
            refine g_aload_n dX4_pointsFoundAnew_78 rfl ?_
            refine g_getr (q := 15) fX4_67 dX4_pointsFoundAnew_79 rfl rfl rfl ?_
            refine g_iload_n dX4_pointsFoundAnew_82 rfl ?_
            refine f1_SN (u' := 0) lX4_85 kX5_at (mA_l (f := 15) hC i2 (by assumption) rfl) dX4_pointsFoundAnew_83 rfl rfl rfl rfl rfl rfl ?_
            refine g_top (y := nI (aF A 15 j).toNat) (iI_get (by omega) (by omega)) ?_
            refine f1_V (u' := 0) lX4_123 kX4_actingOf (mX4_actingOf hC hI hb) dX4_pointsFoundAnew_86 rfl rfl rfl rfl rfl rfl rfl rfl ?_
            refine g_iload_n dX4_pointsFoundAnew_89 rfl ?_
            refine g_icmp_ne (tgt := 97) dX4_pointsFoundAnew_90 (by decide) (fun c90 => ?_) (fun c90 => ?_)
            · rw [xq (by omega) (by omega) (by omega)] at c90
              refine g_iconst (v := 0) dX4_pointsFoundAnew_97 (by decide) ?_
              refine g_iadd dX4_pointsFoundAnew_98 ?_
              first | refine g_top (xadd1 _) ?_ | refine g_top (xadd0 _) ?_ | refine g_top (iI_add _ _) ?_
              refine s_i (i := 2) dX4_pointsFoundAnew_99 rfl rfl rfl rfl ?_
              dsimp only [List.set]
              refine s_inc (v := nI (j + 1)) dX4_pointsFoundAnew_100 rfl nI_s rfl rfl rfl ?_
              dsimp only [List.set]
              refine g_goto (tgt := 4) dX4_pointsFoundAnew_103 (by decide) ?_
              refine g_fg 4 rfl ?_
              dsimp only [List.set]
              refine ih (j + 1) _ (by omega) ?_ (by omega)
              rw [e0, hx]
              repeat' split
              all_goals omega
            · rw [xq (by omega) (by omega) (by omega)] at c90
              refine g_iconst (v := 1) dX4_pointsFoundAnew_93 (by decide) ?_
              refine g_goto (tgt := 98) dX4_pointsFoundAnew_94 (by decide) ?_
              refine g_iadd dX4_pointsFoundAnew_98 ?_
              first | refine g_top (xadd1 _) ?_ | refine g_top (xadd0 _) ?_ | refine g_top (iI_add _ _) ?_
              refine s_i (i := 2) dX4_pointsFoundAnew_99 rfl rfl rfl rfl ?_
              dsimp only [List.set]
              refine s_inc (v := nI (j + 1)) dX4_pointsFoundAnew_100 rfl nI_s rfl rfl rfl ?_
              dsimp only [List.set]
              refine g_goto (tgt := 4) dX4_pointsFoundAnew_103 (by decide) ?_
              refine g_fg 4 rfl ?_
              dsimp only [List.set]
              refine ih (j + 1) _ (by omega) ?_ (by omega)
              rw [e0, hx]
              repeat' split
              all_goals omega
          · rw [xq (by omega) (by omega) (by omega)] at c66
            refine g_iconst (v := 1) dX4_pointsFoundAnew_69 (by decide) ?_
            refine g_goto (tgt := 74) dX4_pointsFoundAnew_70 (by decide) ?_
            refine g_iadd dX4_pointsFoundAnew_74 ?_
            first | refine g_top (xadd1 _) ?_ | refine g_top (xadd0 _) ?_ | refine g_top (iI_add _ _) ?_
            refine s_i (i := 2) dX4_pointsFoundAnew_75 rfl rfl rfl rfl ?_
            dsimp only [List.set]
            refine g_iload_n dX4_pointsFoundAnew_76 rfl ?_
            refine g_aload_n dX4_pointsFoundAnew_77 rfl ?_
            refine g_aload_n dX4_pointsFoundAnew_78 rfl ?_
            refine g_getr (q := 15) fX4_67 dX4_pointsFoundAnew_79 rfl rfl rfl ?_
            refine g_iload_n dX4_pointsFoundAnew_82 rfl ?_
            refine f1_SN (u' := 0) lX4_85 kX5_at (mA_l (f := 15) hC i2 (by assumption) rfl) dX4_pointsFoundAnew_83 rfl rfl rfl rfl rfl rfl ?_
            refine g_top (y := nI (aF A 15 j).toNat) (iI_get (by omega) (by omega)) ?_
            refine f1_V (u' := 0) lX4_123 kX4_actingOf (mX4_actingOf hC hI hb) dX4_pointsFoundAnew_86 rfl rfl rfl rfl rfl rfl rfl rfl ?_
            refine g_iload_n dX4_pointsFoundAnew_89 rfl ?_
            refine g_icmp_ne (tgt := 97) dX4_pointsFoundAnew_90 (by decide) (fun c90 => ?_) (fun c90 => ?_)
            · rw [xq (by omega) (by omega) (by omega)] at c90
              refine g_iconst (v := 0) dX4_pointsFoundAnew_97 (by decide) ?_
              refine g_iadd dX4_pointsFoundAnew_98 ?_
              first | refine g_top (xadd1 _) ?_ | refine g_top (xadd0 _) ?_ | refine g_top (iI_add _ _) ?_
              refine s_i (i := 2) dX4_pointsFoundAnew_99 rfl rfl rfl rfl ?_
              dsimp only [List.set]
              refine s_inc (v := nI (j + 1)) dX4_pointsFoundAnew_100 rfl nI_s rfl rfl rfl ?_
              dsimp only [List.set]
              refine g_goto (tgt := 4) dX4_pointsFoundAnew_103 (by decide) ?_
              refine g_fg 4 rfl ?_
              dsimp only [List.set]
              refine ih (j + 1) _ (by omega) ?_ (by omega)
              rw [e0, hx]
              repeat' split
              all_goals omega
            · rw [xq (by omega) (by omega) (by omega)] at c90
              refine g_iconst (v := 1) dX4_pointsFoundAnew_93 (by decide) ?_
              refine g_goto (tgt := 98) dX4_pointsFoundAnew_94 (by decide) ?_
              refine g_iadd dX4_pointsFoundAnew_98 ?_
              first | refine g_top (xadd1 _) ?_ | refine g_top (xadd0 _) ?_ | refine g_top (iI_add _ _) ?_
              refine s_i (i := 2) dX4_pointsFoundAnew_99 rfl rfl rfl rfl ?_
              dsimp only [List.set]
              refine s_inc (v := nI (j + 1)) dX4_pointsFoundAnew_100 rfl nI_s rfl rfl rfl ?_
              dsimp only [List.set]
              refine g_goto (tgt := 4) dX4_pointsFoundAnew_103 (by decide) ?_
              refine g_fg 4 rfl ?_
              dsimp only [List.set]
              refine ih (j + 1) _ (by omega) ?_ (by omega)
              rw [e0, hx]
              repeat' split
              all_goals omega
      · rw [show (1 : Int32) = iI 1 by decide, iI_eq (by omega) (by omega) (by omega) (by omega), s_st1 hJ hlt] at c22
        refine g_aload_n dX4_pointsFoundAnew_25 rfl ?_
        refine g_getr (q := 13) fX4_61 dX4_pointsFoundAnew_26 rfl rfl rfl ?_
        refine g_iload_n dX4_pointsFoundAnew_29 rfl ?_
        refine f1_SN (u' := 0) lX4_85 kX5_at (mA_l (f := 13) hC i2 (by assumption) rfl) dX4_pointsFoundAnew_30 rfl rfl rfl rfl rfl rfl ?_
        refine g_iload_n dX4_pointsFoundAnew_33 rfl ?_
        refine g_icmp_ne (tgt := 46) dX4_pointsFoundAnew_34 (by decide) (fun c34 => ?_) (fun c34 => ?_)
        · rw [xq (by omega) (by omega) (by omega)] at c34
          refine g_iload dX4_pointsFoundAnew_46 rfl ?_
          refine g_iconst (v := 2) dX4_pointsFoundAnew_48 (by decide) ?_
          refine g_icmp_ne (tgt := 100) dX4_pointsFoundAnew_49 (by decide) (fun c49 => ?_) (fun c49 => ?_)
          · rw [show (2 : Int32) = iI 2 by decide, iI_eq (by omega) (by omega) (by omega) (by omega), s_st2 hJ hlt] at c49
            refine s_inc (v := nI (j + 1)) dX4_pointsFoundAnew_100 rfl nI_s rfl rfl rfl ?_
            dsimp only [List.set]
            refine g_goto (tgt := 4) dX4_pointsFoundAnew_103 (by decide) ?_
            refine g_fg 4 rfl ?_
            dsimp only [List.set]
            refine ih (j + 1) _ (by omega) ?_ (by omega)
            rw [e0, hx]
            repeat' split
            all_goals omega
          · rw [show (2 : Int32) = iI 2 by decide, iI_eq (by omega) (by omega) (by omega) (by omega), s_st2 hJ hlt] at c49
            have h15 : aF A 15 j ≠ -1 := fun z => c49 ((hJ.2.2.1 j hlt).mpr z)
            have ha : (aF A 14 j).toNat < A.2.1 := by omega
            have hb : (aF A 15 j).toNat < A.2.1 := by omega
            have ra := s_act_r hI ha
            have rb := s_act_r hI hb
            refine g_iload_n dX4_pointsFoundAnew_52 rfl ?_
            refine g_aload_n dX4_pointsFoundAnew_53 rfl ?_
            refine g_aload_n dX4_pointsFoundAnew_54 rfl ?_
            refine g_getr (q := 14) fX4_64 dX4_pointsFoundAnew_55 rfl rfl rfl ?_
            refine g_iload_n dX4_pointsFoundAnew_58 rfl ?_
            refine f1_SN (u' := 0) lX4_85 kX5_at (mA_l (f := 14) hC i2 (by assumption) rfl) dX4_pointsFoundAnew_59 rfl rfl rfl rfl rfl rfl ?_
            refine g_top (y := nI (aF A 14 j).toNat) (iI_get (by omega) (by omega)) ?_
            refine f1_V (u' := 0) lX4_123 kX4_actingOf (mX4_actingOf hC hI ha) dX4_pointsFoundAnew_62 rfl rfl rfl rfl rfl rfl rfl rfl ?_
            refine g_iload_n dX4_pointsFoundAnew_65 rfl ?_
            refine g_icmp_ne (tgt := 73) dX4_pointsFoundAnew_66 (by decide) (fun c66 => ?_) (fun c66 => ?_)
            · rw [xq (by omega) (by omega) (by omega)] at c66
              refine g_iconst (v := 0) dX4_pointsFoundAnew_73 (by decide) ?_
              refine g_iadd dX4_pointsFoundAnew_74 ?_
              first | refine g_top (xadd1 _) ?_ | refine g_top (xadd0 _) ?_ | refine g_top (iI_add _ _) ?_
              refine s_i (i := 2) dX4_pointsFoundAnew_75 rfl rfl rfl rfl ?_
              dsimp only [List.set]
              refine g_iload_n dX4_pointsFoundAnew_76 rfl ?_
              refine g_aload_n dX4_pointsFoundAnew_77 rfl ?_
              refine g_aload_n dX4_pointsFoundAnew_78 rfl ?_
              refine g_getr (q := 15) fX4_67 dX4_pointsFoundAnew_79 rfl rfl rfl ?_
              refine g_iload_n dX4_pointsFoundAnew_82 rfl ?_
              refine f1_SN (u' := 0) lX4_85 kX5_at (mA_l (f := 15) hC i2 (by assumption) rfl) dX4_pointsFoundAnew_83 rfl rfl rfl rfl rfl rfl ?_
              refine g_top (y := nI (aF A 15 j).toNat) (iI_get (by omega) (by omega)) ?_
              refine f1_V (u' := 0) lX4_123 kX4_actingOf (mX4_actingOf hC hI hb) dX4_pointsFoundAnew_86 rfl rfl rfl rfl rfl rfl rfl rfl ?_
              refine g_iload_n dX4_pointsFoundAnew_89 rfl ?_
              refine g_icmp_ne (tgt := 97) dX4_pointsFoundAnew_90 (by decide) (fun c90 => ?_) (fun c90 => ?_)
              · rw [xq (by omega) (by omega) (by omega)] at c90
                refine g_iconst (v := 0) dX4_pointsFoundAnew_97 (by decide) ?_
                refine g_iadd dX4_pointsFoundAnew_98 ?_
                first | refine g_top (xadd1 _) ?_ | refine g_top (xadd0 _) ?_ | refine g_top (iI_add _ _) ?_
                refine s_i (i := 2) dX4_pointsFoundAnew_99 rfl rfl rfl rfl ?_
                dsimp only [List.set]
                refine s_inc (v := nI (j + 1)) dX4_pointsFoundAnew_100 rfl nI_s rfl rfl rfl ?_
                dsimp only [List.set]
                refine g_goto (tgt := 4) dX4_pointsFoundAnew_103 (by decide) ?_
                refine g_fg 4 rfl ?_
                dsimp only [List.set]
                refine ih (j + 1) _ (by omega) ?_ (by omega)
                rw [e0, hx]
                repeat' split
                all_goals omega
              · rw [xq (by omega) (by omega) (by omega)] at c90
                refine g_iconst (v := 1) dX4_pointsFoundAnew_93 (by decide) ?_
                refine g_goto (tgt := 98) dX4_pointsFoundAnew_94 (by decide) ?_
                refine g_iadd dX4_pointsFoundAnew_98 ?_
                first | refine g_top (xadd1 _) ?_ | refine g_top (xadd0 _) ?_ | refine g_top (iI_add _ _) ?_
                refine s_i (i := 2) dX4_pointsFoundAnew_99 rfl rfl rfl rfl ?_
                dsimp only [List.set]
                refine s_inc (v := nI (j + 1)) dX4_pointsFoundAnew_100 rfl nI_s rfl rfl rfl ?_
                dsimp only [List.set]
                refine g_goto (tgt := 4) dX4_pointsFoundAnew_103 (by decide) ?_
                refine g_fg 4 rfl ?_
                dsimp only [List.set]
                refine ih (j + 1) _ (by omega) ?_ (by omega)
                rw [e0, hx]
                repeat' split
                all_goals omega
            · rw [xq (by omega) (by omega) (by omega)] at c66
              refine g_iconst (v := 1) dX4_pointsFoundAnew_69 (by decide) ?_
              refine g_goto (tgt := 74) dX4_pointsFoundAnew_70 (by decide) ?_
              refine g_iadd dX4_pointsFoundAnew_74 ?_
              first | refine g_top (xadd1 _) ?_ | refine g_top (xadd0 _) ?_ | refine g_top (iI_add _ _) ?_
              refine s_i (i := 2) dX4_pointsFoundAnew_75 rfl rfl rfl rfl ?_
              dsimp only [List.set]
              refine g_iload_n dX4_pointsFoundAnew_76 rfl ?_
              refine g_aload_n dX4_pointsFoundAnew_77 rfl ?_
              refine g_aload_n dX4_pointsFoundAnew_78 rfl ?_
              refine g_getr (q := 15) fX4_67 dX4_pointsFoundAnew_79 rfl rfl rfl ?_
              refine g_iload_n dX4_pointsFoundAnew_82 rfl ?_
              refine f1_SN (u' := 0) lX4_85 kX5_at (mA_l (f := 15) hC i2 (by assumption) rfl) dX4_pointsFoundAnew_83 rfl rfl rfl rfl rfl rfl ?_
              refine g_top (y := nI (aF A 15 j).toNat) (iI_get (by omega) (by omega)) ?_
              refine f1_V (u' := 0) lX4_123 kX4_actingOf (mX4_actingOf hC hI hb) dX4_pointsFoundAnew_86 rfl rfl rfl rfl rfl rfl rfl rfl ?_
              refine g_iload_n dX4_pointsFoundAnew_89 rfl ?_
              refine g_icmp_ne (tgt := 97) dX4_pointsFoundAnew_90 (by decide) (fun c90 => ?_) (fun c90 => ?_)
              · rw [xq (by omega) (by omega) (by omega)] at c90
                refine g_iconst (v := 0) dX4_pointsFoundAnew_97 (by decide) ?_
                refine g_iadd dX4_pointsFoundAnew_98 ?_
                first | refine g_top (xadd1 _) ?_ | refine g_top (xadd0 _) ?_ | refine g_top (iI_add _ _) ?_
                refine s_i (i := 2) dX4_pointsFoundAnew_99 rfl rfl rfl rfl ?_
                dsimp only [List.set]
                refine s_inc (v := nI (j + 1)) dX4_pointsFoundAnew_100 rfl nI_s rfl rfl rfl ?_
                dsimp only [List.set]
                refine g_goto (tgt := 4) dX4_pointsFoundAnew_103 (by decide) ?_
                refine g_fg 4 rfl ?_
                dsimp only [List.set]
                refine ih (j + 1) _ (by omega) ?_ (by omega)
                rw [e0, hx]
                repeat' split
                all_goals omega
              · rw [xq (by omega) (by omega) (by omega)] at c90
                refine g_iconst (v := 1) dX4_pointsFoundAnew_93 (by decide) ?_
                refine g_goto (tgt := 98) dX4_pointsFoundAnew_94 (by decide) ?_
                refine g_iadd dX4_pointsFoundAnew_98 ?_
                first | refine g_top (xadd1 _) ?_ | refine g_top (xadd0 _) ?_ | refine g_top (iI_add _ _) ?_
                refine s_i (i := 2) dX4_pointsFoundAnew_99 rfl rfl rfl rfl ?_
                dsimp only [List.set]
                refine s_inc (v := nI (j + 1)) dX4_pointsFoundAnew_100 rfl nI_s rfl rfl rfl ?_
                dsimp only [List.set]
                refine g_goto (tgt := 4) dX4_pointsFoundAnew_103 (by decide) ?_
                refine g_fg 4 rfl ?_
                dsimp only [List.set]
                refine ih (j + 1) _ (by omega) ?_ (by omega)
                rw [e0, hx]
                repeat' split
                all_goals omega
        · rw [xq (by omega) (by omega) (by omega)] at c34
          refine g_iload_n dX4_pointsFoundAnew_37 rfl ?_
          refine g_aload_n dX4_pointsFoundAnew_38 rfl ?_
          refine g_iload_n dX4_pointsFoundAnew_39 rfl ?_
          refine g_iload_n dX4_pointsFoundAnew_40 rfl ?_
          refine f1_V (u' := 0) lX4_120 kX4_pointsFor (mX4_pointsFor hC hI (by assumption) (by assumption)) dX4_pointsFoundAnew_41 rfl rfl rfl rfl rfl rfl rfl rfl ?_
          refine g_iadd dX4_pointsFoundAnew_44 ?_
          first | refine g_top (xadd1 _) ?_ | refine g_top (xadd0 _) ?_ | refine g_top (iI_add _ _) ?_
          refine s_i (i := 2) dX4_pointsFoundAnew_45 rfl rfl rfl rfl ?_
          dsimp only [List.set]
          refine g_iload dX4_pointsFoundAnew_46 rfl ?_
          refine g_iconst (v := 2) dX4_pointsFoundAnew_48 (by decide) ?_
          refine g_icmp_ne (tgt := 100) dX4_pointsFoundAnew_49 (by decide) (fun c49 => ?_) (fun c49 => ?_)
          · rw [show (2 : Int32) = iI 2 by decide, iI_eq (by omega) (by omega) (by omega) (by omega), s_st2 hJ hlt] at c49
            refine s_inc (v := nI (j + 1)) dX4_pointsFoundAnew_100 rfl nI_s rfl rfl rfl ?_
            dsimp only [List.set]
            refine g_goto (tgt := 4) dX4_pointsFoundAnew_103 (by decide) ?_
            refine g_fg 4 rfl ?_
            dsimp only [List.set]
            refine ih (j + 1) _ (by omega) ?_ (by omega)
            rw [e0, hx]
            repeat' split
            all_goals omega
          · rw [show (2 : Int32) = iI 2 by decide, iI_eq (by omega) (by omega) (by omega) (by omega), s_st2 hJ hlt] at c49
            have h15 : aF A 15 j ≠ -1 := fun z => c49 ((hJ.2.2.1 j hlt).mpr z)
            have ha : (aF A 14 j).toNat < A.2.1 := by omega
            have hb : (aF A 15 j).toNat < A.2.1 := by omega
            have ra := s_act_r hI ha
            have rb := s_act_r hI hb
            refine g_iload_n dX4_pointsFoundAnew_52 rfl ?_
            refine g_aload_n dX4_pointsFoundAnew_53 rfl ?_
            refine g_aload_n dX4_pointsFoundAnew_54 rfl ?_
            refine g_getr (q := 14) fX4_64 dX4_pointsFoundAnew_55 rfl rfl rfl ?_
            refine g_iload_n dX4_pointsFoundAnew_58 rfl ?_
            refine f1_SN (u' := 0) lX4_85 kX5_at (mA_l (f := 14) hC i2 (by assumption) rfl) dX4_pointsFoundAnew_59 rfl rfl rfl rfl rfl rfl ?_
            refine g_top (y := nI (aF A 14 j).toNat) (iI_get (by omega) (by omega)) ?_
            refine f1_V (u' := 0) lX4_123 kX4_actingOf (mX4_actingOf hC hI ha) dX4_pointsFoundAnew_62 rfl rfl rfl rfl rfl rfl rfl rfl ?_
            refine g_iload_n dX4_pointsFoundAnew_65 rfl ?_
            refine g_icmp_ne (tgt := 73) dX4_pointsFoundAnew_66 (by decide) (fun c66 => ?_) (fun c66 => ?_)
            · rw [xq (by omega) (by omega) (by omega)] at c66
              refine g_iconst (v := 0) dX4_pointsFoundAnew_73 (by decide) ?_
              refine g_iadd dX4_pointsFoundAnew_74 ?_
              first | refine g_top (xadd1 _) ?_ | refine g_top (xadd0 _) ?_ | refine g_top (iI_add _ _) ?_
              refine s_i (i := 2) dX4_pointsFoundAnew_75 rfl rfl rfl rfl ?_
              dsimp only [List.set]
              refine g_iload_n dX4_pointsFoundAnew_76 rfl ?_
              refine g_aload_n dX4_pointsFoundAnew_77 rfl ?_
              refine g_aload_n dX4_pointsFoundAnew_78 rfl ?_
              refine g_getr (q := 15) fX4_67 dX4_pointsFoundAnew_79 rfl rfl rfl ?_
              refine g_iload_n dX4_pointsFoundAnew_82 rfl ?_
              refine f1_SN (u' := 0) lX4_85 kX5_at (mA_l (f := 15) hC i2 (by assumption) rfl) dX4_pointsFoundAnew_83 rfl rfl rfl rfl rfl rfl ?_
              refine g_top (y := nI (aF A 15 j).toNat) (iI_get (by omega) (by omega)) ?_
              refine f1_V (u' := 0) lX4_123 kX4_actingOf (mX4_actingOf hC hI hb) dX4_pointsFoundAnew_86 rfl rfl rfl rfl rfl rfl rfl rfl ?_
              refine g_iload_n dX4_pointsFoundAnew_89 rfl ?_
              refine g_icmp_ne (tgt := 97) dX4_pointsFoundAnew_90 (by decide) (fun c90 => ?_) (fun c90 => ?_)
              · rw [xq (by omega) (by omega) (by omega)] at c90
                refine g_iconst (v := 0) dX4_pointsFoundAnew_97 (by decide) ?_
                refine g_iadd dX4_pointsFoundAnew_98 ?_
                first | refine g_top (xadd1 _) ?_ | refine g_top (xadd0 _) ?_ | refine g_top (iI_add _ _) ?_
                refine s_i (i := 2) dX4_pointsFoundAnew_99 rfl rfl rfl rfl ?_
                dsimp only [List.set]
                refine s_inc (v := nI (j + 1)) dX4_pointsFoundAnew_100 rfl nI_s rfl rfl rfl ?_
                dsimp only [List.set]
                refine g_goto (tgt := 4) dX4_pointsFoundAnew_103 (by decide) ?_
                refine g_fg 4 rfl ?_
                dsimp only [List.set]
                refine ih (j + 1) _ (by omega) ?_ (by omega)
                rw [e0, hx]
                repeat' split
                all_goals omega
              · rw [xq (by omega) (by omega) (by omega)] at c90
                refine g_iconst (v := 1) dX4_pointsFoundAnew_93 (by decide) ?_
                refine g_goto (tgt := 98) dX4_pointsFoundAnew_94 (by decide) ?_
                refine g_iadd dX4_pointsFoundAnew_98 ?_
                first | refine g_top (xadd1 _) ?_ | refine g_top (xadd0 _) ?_ | refine g_top (iI_add _ _) ?_
                refine s_i (i := 2) dX4_pointsFoundAnew_99 rfl rfl rfl rfl ?_
                dsimp only [List.set]
                refine s_inc (v := nI (j + 1)) dX4_pointsFoundAnew_100 rfl nI_s rfl rfl rfl ?_
                dsimp only [List.set]
                refine g_goto (tgt := 4) dX4_pointsFoundAnew_103 (by decide) ?_
                refine g_fg 4 rfl ?_
                dsimp only [List.set]
                refine ih (j + 1) _ (by omega) ?_ (by omega)
                rw [e0, hx]
                repeat' split
                all_goals omega
            · rw [xq (by omega) (by omega) (by omega)] at c66
              refine g_iconst (v := 1) dX4_pointsFoundAnew_69 (by decide) ?_
              refine g_goto (tgt := 74) dX4_pointsFoundAnew_70 (by decide) ?_
              refine g_iadd dX4_pointsFoundAnew_74 ?_
              first | refine g_top (xadd1 _) ?_ | refine g_top (xadd0 _) ?_ | refine g_top (iI_add _ _) ?_
              refine s_i (i := 2) dX4_pointsFoundAnew_75 rfl rfl rfl rfl ?_
              dsimp only [List.set]
              refine g_iload_n dX4_pointsFoundAnew_76 rfl ?_
              refine g_aload_n dX4_pointsFoundAnew_77 rfl ?_
              refine g_aload_n dX4_pointsFoundAnew_78 rfl ?_
              refine g_getr (q := 15) fX4_67 dX4_pointsFoundAnew_79 rfl rfl rfl ?_
              refine g_iload_n dX4_pointsFoundAnew_82 rfl ?_
              refine f1_SN (u' := 0) lX4_85 kX5_at (mA_l (f := 15) hC i2 (by assumption) rfl) dX4_pointsFoundAnew_83 rfl rfl rfl rfl rfl rfl ?_
              refine g_top (y := nI (aF A 15 j).toNat) (iI_get (by omega) (by omega)) ?_
              refine f1_V (u' := 0) lX4_123 kX4_actingOf (mX4_actingOf hC hI hb) dX4_pointsFoundAnew_86 rfl rfl rfl rfl rfl rfl rfl rfl ?_
              refine g_iload_n dX4_pointsFoundAnew_89 rfl ?_
              refine g_icmp_ne (tgt := 97) dX4_pointsFoundAnew_90 (by decide) (fun c90 => ?_) (fun c90 => ?_)
              · rw [xq (by omega) (by omega) (by omega)] at c90
                refine g_iconst (v := 0) dX4_pointsFoundAnew_97 (by decide) ?_
                refine g_iadd dX4_pointsFoundAnew_98 ?_
                first | refine g_top (xadd1 _) ?_ | refine g_top (xadd0 _) ?_ | refine g_top (iI_add _ _) ?_
                refine s_i (i := 2) dX4_pointsFoundAnew_99 rfl rfl rfl rfl ?_
                dsimp only [List.set]
                refine s_inc (v := nI (j + 1)) dX4_pointsFoundAnew_100 rfl nI_s rfl rfl rfl ?_
                dsimp only [List.set]
                refine g_goto (tgt := 4) dX4_pointsFoundAnew_103 (by decide) ?_
                refine g_fg 4 rfl ?_
                dsimp only [List.set]
                refine ih (j + 1) _ (by omega) ?_ (by omega)
                rw [e0, hx]
                repeat' split
                all_goals omega
              · rw [xq (by omega) (by omega) (by omega)] at c90
                refine g_iconst (v := 1) dX4_pointsFoundAnew_93 (by decide) ?_
                refine g_goto (tgt := 98) dX4_pointsFoundAnew_94 (by decide) ?_
                refine g_iadd dX4_pointsFoundAnew_98 ?_
                first | refine g_top (xadd1 _) ?_ | refine g_top (xadd0 _) ?_ | refine g_top (iI_add _ _) ?_
                refine s_i (i := 2) dX4_pointsFoundAnew_99 rfl rfl rfl rfl ?_
                dsimp only [List.set]
                refine s_inc (v := nI (j + 1)) dX4_pointsFoundAnew_100 rfl nI_s rfl rfl rfl ?_
                dsimp only [List.set]
                refine g_goto (tgt := 4) dX4_pointsFoundAnew_103 (by decide) ?_
                refine g_fg 4 rfl ?_
                dsimp only [List.set]
                refine ih (j + 1) _ (by omega) ?_ (by omega)
                rw [e0, hx]
                repeat' split
                all_goals omega
set_option maxRecDepth 100000 in
theorem mX4_pointsFoundAnew {l : Launch} {G : ux_G} {h : ux_H} {t : Nat} {A : Ab} {P : Nat} (hC : rC 0 A h) (hI : Inv P A) (hJ : InvF A) (ht : t < A.1) : ux_F l G yX4_pointsFoundAnew iX4_pointsFoundAnew 4 0 [.ref 0, .int (nI t)] h (some (.int (iI (s_anew A t A.2.1)))) (h) := by
  unfold ux_F
  refine ux_ent (L' := [some (.ref 0), some (.int (nI t)), none, none, none]) kX4_pointsFoundAnew rfl rfl rfl rfl ?_
  refine g_iconst (v := 0) dX4_pointsFoundAnew_0 (by decide) ?_
  refine s_i (i := 2) dX4_pointsFoundAnew_1 rfl rfl rfl rfl ?_
  dsimp only [List.set]
  refine g_iconst (v := 0) dX4_pointsFoundAnew_2 (by decide) ?_
  refine s_i (i := 3) dX4_pointsFoundAnew_3 rfl rfl rfl rfl ?_
  dsimp only [List.set]
  exact wX4_pointsFoundAnew (l := l) (G := G) hC hI hJ ht (A.2.1 + 1) 0 0 (Nat.zero_le _) rfl (by omega)
def s_csum (A : Ab) (t : Nat) : Nat → Nat
  | 0 => 0
  | d + 1 => s_csum A t d + s_con A t d
theorem s_cnt_split (P : Nat → Bool) (g : Nat → Int) (d : Int) (n : Nat) : s_cnt (fun j => P j && decide (g j < d)) n + s_cnt (fun j => P j && decide (g j = d)) n = s_cnt (fun j => P j && decide (g j < d + 1)) n := by
  induction n with
  | zero => rfl
  | succ n ih =>
    have e : (if (P n && decide (g n < d)) = true then 1 else 0) + (if (P n && decide (g n = d)) = true then 1 else 0) = (if (P n && decide (g n < d + 1)) = true then 1 else (0 : Nat)) := by
      cases P n
      · rfl
      · rcases Int.lt_trichotomy (g n) d with q | q | q
        · rw [decide_eq_true q, decide_eq_false (show ¬ g n = d by omega), decide_eq_true (show g n < d + 1 by omega)]; rfl
        · rw [decide_eq_false (show ¬ g n < d by omega), decide_eq_true q, decide_eq_true (show g n < d + 1 by omega)]; rfl
        · rw [decide_eq_false (show ¬ g n < d by omega), decide_eq_false (show ¬ g n = d by omega), decide_eq_false (show ¬ g n < d + 1 by omega)]; rfl
    unfold s_cnt
    omega
theorem s_csum_5 {P : Nat} {A : Ab} (hI : Inv P A) (t : Nat) : s_csum A t 5 = s_cnt (fun j => decide (aF A 13 j = (t : Int))) A.2.1 := by
  have hd : ∀ d : Nat, s_csum A t d = s_cnt (fun j => decide (aF A 13 j = (t : Int)) && decide (aF A 8 j / 6 < d)) A.2.1 := by
    intro d
    induction d with
    | zero =>
      have e0 : s_cnt (fun j => decide (aF A 13 j = (t : Int)) && decide (aF A 8 j / 6 < ((0 : Nat) : Int))) A.2.1 = s_cnt (fun _ => false) A.2.1 := s_cnt_congr (fun i hi => by
        have q := hI.2.2.2.2.2 i hi
        have h2 : decide (aF A 8 i / 6 < ((0 : Nat) : Int)) = false := decide_eq_false (by omega)
        show (decide _ && decide _) = false
        rw [h2, Bool.and_false])
      have e1 : ∀ n, s_cnt (fun _ => false) n = 0 := by
        intro n
        induction n with
        | zero => rfl
        | succ n ih => simp [s_cnt, ih]
      rw [e0, e1]
      rfl
    | succ d ih =>
      show s_csum A t d + s_con A t d = _
      rw [ih]
      exact s_cnt_split _ (fun j => aF A 8 j / 6) d A.2.1
  rw [hd]
  refine s_cnt_congr (fun i hi => ?_)
  have q := hI.2.2.2.2.2 i hi
  have h2 : decide (aF A 8 i / 6 < ((5 : Nat) : Int)) = true := decide_eq_true (by omega)
  show (decide _ && decide _) = decide _
  rw [h2, Bool.and_true]
set_option maxRecDepth 100000 in
theorem wX4_coversOf {l : Launch} {G : ux_G} {h : ux_H} {t : Nat} {A : Ab} {P : Nat} (hC : rC 0 A h) (hI : Inv P A) (ht : t < A.1) : ∀ (n : Nat) (j : Nat), j ≤ 5 → 5 - j < n → ux_W l G iX4_coversOf (ux_rm 4 0) (ux_Z G 0 (fun vv h' => vv = some (.int (nI (s_csum A t 5))) ∧ h' = h) (fun _ _ => False)) 4 [some (.ref 0), some (.int (nI t)), some (.int (nI (s_csum A t j))), some (.int (nI j))] [] (h) 0 := by
  intro n
  induction n with
  | zero => intro j hj hn; exact absurd hn (Nat.not_lt_zero _)
  | succ n ih =>
    intro j hj hn
    obtain ⟨i1, i2, i3, i4, i5, i6⟩ := id hI
    refine g_iload_n dX4_coversOf_4 rfl ?_
    refine g_iconst (v := 5) dX4_coversOf_5 (by decide) ?_
    refine g_icmp_ge (tgt := 24) dX4_coversOf_6 (by decide) (fun c6 => ?_) (fun c6 => ?_)
    · have e : j = 5 := by have := xlt_i (a := 5) c6 (by omega) (by omega); omega
      subst e
      refine g_iload_n dX4_coversOf_24 rfl ?_
      refine g_ireturn dX4_coversOf_25 rfl rfl (by decide) ?_
      exact ⟨rfl, rfl⟩
    · have hlt : j < 5 := xnl_i (a := 5) c6 (by omega) (by omega)
      refine g_iload_n dX4_coversOf_9 rfl ?_
      refine g_aload_n dX4_coversOf_10 rfl ?_
      refine g_iload_n dX4_coversOf_11 rfl ?_
      refine g_iload_n dX4_coversOf_12 rfl ?_
      refine g_top (nI_iI j) ?_
      refine f1_V (u' := 0) lX4_104 kX4_coversOn (mX4_coversOn hC hI (by assumption) (by omega)) dX4_coversOf_13 rfl rfl rfl rfl rfl rfl rfl rfl ?_
      refine g_iadd dX4_coversOf_16 ?_
      refine g_top (nI_add _ _) ?_
      refine s_i (i := 2) dX4_coversOf_17 rfl rfl rfl rfl ?_
      dsimp only [List.set]
      refine s_inc (v := nI (j + 1)) dX4_coversOf_18 rfl nI_s rfl rfl rfl ?_
      dsimp only [List.set]
      refine g_goto (tgt := 4) dX4_coversOf_21 (by decide) ?_
      exact ih (j + 1) (by omega) (by omega)
set_option maxRecDepth 100000 in
theorem mX4_coversOf {l : Launch} {G : ux_G} {h : ux_H} {t : Nat} {A : Ab} {P : Nat} (hC : rC 0 A h) (hI : Inv P A) (ht : t < A.1) : ux_F l G yX4_coversOf iX4_coversOf 4 0 [.ref 0, .int (nI t)] h (some (.int (nI (s_cnt (fun j => decide (aF A 13 j = (t : Int))) A.2.1)))) (h) := by
  unfold ux_F
  refine ux_ent (L' := [some (.ref 0), some (.int (nI t)), none, none]) kX4_coversOf rfl rfl rfl rfl ?_
  refine g_iconst (v := 0) dX4_coversOf_0 (by decide) ?_
  refine s_i (i := 2) dX4_coversOf_1 rfl rfl rfl rfl ?_
  dsimp only [List.set]
  refine g_iconst (v := 0) dX4_coversOf_2 (by decide) ?_
  refine s_i (i := 3) dX4_coversOf_3 rfl rfl rfl rfl ?_
  dsimp only [List.set]
  have := wX4_coversOf (l := l) (G := G) hC hI ht 6 0 (Nat.zero_le _) (by omega)
  rw [s_csum_5 hI] at this
  exact this
/-- the open lessons of a slot, of those below n; of the periods below p of a day -/
def s_opp (A : Ab) (s : Int) : Nat → List Nat
  | 0 => []
  | n + 1 => s_opp A s n ++ (if aF A 8 n = s ∧ s_st A n = 3 then [n] else [])
def s_opl (A : Ab) (d : Nat) : Nat → List Nat
  | 0 => []
  | p + 1 => s_opl A d p ++ s_opp A (6 * d + p : Nat) A.2.1
theorem s_opp_mem {A : Ab} {s : Int} {n i : Nat} : i ∈ s_opp A s n ↔ i < n ∧ aF A 8 i = s ∧ s_st A i = 3 := by
  induction n with
  | zero => simp [s_opp]
  | succ n ih =>
    unfold s_opp
    rw [List.mem_append, ih]
    constructor
    · rintro (⟨a, b⟩ | q)
      · exact ⟨by omega, b⟩
      · split at q
        · next z =>
          have e : i = n := by simpa using q
          subst e
          exact ⟨by omega, z⟩
        · cases q
    · rintro ⟨a, b⟩
      rcases Nat.lt_or_eq_of_le (Nat.le_of_lt_succ a) with q | q
      · exact Or.inl ⟨q, b⟩
      · subst q
        rw [if_pos b]
        exact Or.inr List.mem_cons_self
theorem s_opl_mem {A : Ab} {d p i : Nat} : i ∈ s_opl A d p ↔ i < A.2.1 ∧ s_st A i = 3 ∧ ∃ q, q < p ∧ aF A 8 i = (6 * d + q : Nat) := by
  induction p with
  | zero => simp [s_opl]
  | succ p ih =>
    unfold s_opl
    rw [List.mem_append, ih, s_opp_mem]
    constructor
    · rintro (⟨a, b, q, c, e⟩ | ⟨a, b, c⟩)
      · exact ⟨a, b, q, by omega, e⟩
      · exact ⟨a, c, p, by omega, b⟩
    · rintro ⟨a, b, q, c, e⟩
      rcases Nat.lt_or_eq_of_le (Nat.le_of_lt_succ c) with z | z
      · exact Or.inl ⟨a, b, q, z, e⟩
      · subst z
        exact Or.inr ⟨a, e, b⟩
theorem s_opp_pre {A : Ab} {s : Int} : ∀ {m n : Nat}, n ≤ m → s_opp A s n <+: s_opp A s m := by
  intro m n h
  induction m with
  | zero => rw [Nat.le_zero.mp h]; exact List.prefix_refl _
  | succ m ih =>
    rcases Nat.lt_or_eq_of_le h with q | q
    · exact (ih (by omega)).trans (List.prefix_append _ _)
    · rw [q]; exact List.prefix_refl _
theorem s_opl_pre {A : Ab} {d : Nat} : ∀ {m n : Nat}, n ≤ m → s_opl A d n <+: s_opl A d m := by
  intro m n h
  induction m with
  | zero => rw [Nat.le_zero.mp h]; exact List.prefix_refl _
  | succ m ih =>
    rcases Nat.lt_or_eq_of_le h with q | q
    · exact (ih (by omega)).trans (List.prefix_append _ _)
    · rw [q]; exact List.prefix_refl _
/-- what stands ahead of lesson j in period p -/
def s_opa (A : Ab) (d p j : Nat) : List Nat := s_opl A d p ++ s_opp A (6 * d + p : Nat) j
theorem s_opa_pre {A : Ab} {d p j : Nat} (hp : p < 6) (hj : j ≤ A.2.1) : s_opa A d p j <+: s_opl A d 6 := by
  have h1 : s_opa A d p j <+: s_opl A d (p + 1) := (List.prefix_append_right_inj _).mpr (s_opp_pre hj)
  exact h1.trans (s_opl_pre hp)
theorem s_opp_len (A : Ab) (s : Int) (n : Nat) : (s_opp A s n).length ≤ n := by
  induction n with
  | zero => exact Nat.le_refl _
  | succ n ih =>
    unfold s_opp
    rw [List.length_append]
    split <;> simp <;> omega
theorem s_opl_len (A : Ab) (d p : Nat) : (s_opl A d p).length ≤ p * A.2.1 := by
  induction p with
  | zero => simp [s_opl]
  | succ p ih =>
    unfold s_opl
    rw [List.length_append]
    have := s_opp_len A (6 * d + p : Nat) A.2.1
    rw [Nat.add_mul p 1, Nat.one_mul]
    omega
def s_opat (L : List Nat) (x : Int) : Int := if 0 ≤ x then s_oi L[x.toNat]? else -1
theorem s_opa_s {A : Ab} {d p j : Nat} : s_opa A d p (j + 1) = s_opa A d p j ++ (if aF A 8 j = (6 * d + p : Nat) ∧ s_st A j = 3 then [j] else []) := by
  unfold s_opa
  rw [List.append_assoc]
  rfl
theorem s_opat_hit {L M : List Nat} {j : Nat} (h : L ++ [j] <+: M) {x : Int} (hx : x = L.length) : s_opat M x = j := by
  unfold s_opat
  rw [if_pos (by omega)]
  obtain ⟨r, hr⟩ := h
  have : M[x.toNat]? = some j := by
    rw [← hr, hx]
    simp
  rw [this]
  rfl
theorem s_opat_miss {M : List Nat} {x : Int} (hx : ¬ (0 ≤ x ∧ x < M.length)) : s_opat M x = -1 := by
  unfold s_opat
  split
  · rw [List.getElem?_eq_none (by omega)]; rfl
  · rfl
set_option maxRecDepth 100000 in
theorem vX4_openAt {l : Launch} {G : ux_G} {h : ux_H} {d : Nat} {x : Int} {A : Ab} {P : Nat} (hC : rC 0 A h) (hI : Inv P A) (hJ : InvF A) (hd : d < 5) (hx : -2147483648 ≤ x ∧ x ≤ 2147483647) {p : Nat} (hp : p < 6) (K : ¬ (0 ≤ x ∧ x < (s_opl A d (p + 1)).length) → ux_W l G iX4_openAt (ux_rm 5 0) (ux_Z G 0 (fun vv h' => vv = some (.int (iI (s_opat (s_opl A d 6) x))) ∧ h' = h) (fun _ _ => False)) 57 [some (.ref 0), some (.int (nI d)), some (.int (iI x)), some (.int (nI (s_opl A d (p + 1)).length)), some (.int (nI p)), none] [] h 0) : ∀ (n : Nat) (j : Nat), j ≤ A.2.1 → ¬ (0 ≤ x ∧ x < (s_opa A d p j).length) → A.2.1 - j < n → ux_W l G iX4_openAt (ux_rm 5 0) (ux_Z G 0 (fun vv h' => vv = some (.int (iI (s_opat (s_opl A d 6) x))) ∧ h' = h) (fun _ _ => False)) 15 [some (.ref 0), some (.int (nI d)), some (.int (iI x)), some (.int (nI (s_opa A d p j).length)), some (.int (nI p)), some (.int (nI j))] [] (h) 0 := by
  intro n
  induction n with
  | zero => intro j hj hm hn; exact absurd hn (Nat.not_lt_zero _)
  | succ n ih =>
    intro j hj hm hn
    obtain ⟨i1, i2, i3, i4, i5, i6⟩ := id hI
    have ln1 := s_opl_len A d p
    have ln2 := s_opp_len A (6 * d + p : Nat) j
    have ln3 : (s_opa A d p j).length = (s_opl A d p).length + (s_opp A (6 * d + p : Nat) j).length := by unfold s_opa; rw [List.length_append]
    have ln4 : p * A.2.1 ≤ 240 := Nat.le_trans (Nat.mul_le_mul (Nat.le_of_lt hp) i2) (by decide)
    refine g_iload dX4_openAt_15 rfl ?_
    refine g_aload_n dX4_openAt_17 rfl ?_
    refine g_geti fX4_15 dX4_openAt_18 rfl rfl ?_
    refine g_top hC.2.1 ?_
    refine g_icmp_ge (tgt := 57) dX4_openAt_21 (by decide) (fun c21 => ?_) (fun c21 => ?_)
    · have e : j = A.2.1 := by have := xlt_i c21 (by omega) (by omega); omega
      subst e
      refine g_fg 5 rfl ?_
      dsimp only [List.set]
      exact K hm
    · have hlt : j < A.2.1 := xnl_i c21 (by omega) (by omega)
      refine g_aload_n dX4_openAt_24 rfl ?_
      refine g_iload dX4_openAt_25 rfl ?_
      refine g_iload_n dX4_openAt_27 rfl ?_
      refine g_bipush (v := 6) dX4_openAt_28 (by decide) ?_
      refine g_imul dX4_openAt_30 ?_
      refine g_iload dX4_openAt_31 rfl ?_
      refine g_iadd dX4_openAt_33 ?_
      refine g_top (y := iI ((6 * d + p : Nat) : Int)) (by rw [show (6 : Int32) = nI 6 by decide, pk_mul, nI_add, iI_n, Nat.mul_comm]) ?_
      refine f1_V (u' := 0) lX4_139 kX4_isOpenIn (mX4_isOpenIn hC hI hJ (by omega) hlt) dX4_openAt_34 rfl rfl rfl rfl rfl rfl rfl rfl ?_
      refine g_if_eq (tgt := 51) dX4_openAt_37 (by decide) (fun c37 => ?_) (fun c37 => ?_)
      · have q37 := xb_0.mp c37
        refine s_inc (v := nI (j + 1)) dX4_openAt_51 rfl nI_s rfl rfl rfl ?_
        dsimp only [List.set]
        refine g_goto (tgt := 15) dX4_openAt_54 (by decide) ?_
        have e0 : (s_opa A d p (j + 1)).length = (s_opa A d p j).length := by rw [s_opa_s, if_neg q37, List.append_nil]
        have ih9 := ih (j + 1) (by omega) (by rw [e0]; omega) (by omega)
        rw [e0] at ih9
        exact ih9
      · have q37 := Decidable.not_not.mp ((not_congr xb_0).mp c37)
        refine g_iload_n dX4_openAt_40 rfl ?_
        refine g_iload_n dX4_openAt_41 rfl ?_
        refine g_icmp_ne (tgt := 48) dX4_openAt_42 (by decide) (fun c42 => ?_) (fun c42 => ?_)
        · rw [nI_iI, iI_eq (by omega) (by omega) (by omega) (by omega)] at c42
          refine s_inc (v := nI ((s_opa A d p j).length + 1)) dX4_openAt_48 rfl nI_s rfl rfl rfl ?_
          dsimp only [List.set]
          refine s_inc (v := nI (j + 1)) dX4_openAt_51 rfl nI_s rfl rfl rfl ?_
          dsimp only [List.set]
          refine g_goto (tgt := 15) dX4_openAt_54 (by decide) ?_
          have e0 : (s_opa A d p (j + 1)).length = (s_opa A d p j).length + 1 := by rw [s_opa_s, if_pos q37, List.length_append]; rfl
          have ih9 := ih (j + 1) (by omega) (by rw [e0]; omega) (by omega)
          rw [e0] at ih9
          exact ih9
        · rw [nI_iI, iI_eq (by omega) (by omega) (by omega) (by omega)] at c42
          refine g_iload dX4_openAt_45 rfl ?_
          refine g_ireturn dX4_openAt_47 rfl rfl (by decide) ?_
          refine ⟨?_, rfl⟩
          rw [s_opat_hit (L := s_opa A d p j) (j := j) (by have q9 := s_opa_pre (A := A) (d := d) hp (show j + 1 ≤ A.2.1 by omega); rw [s_opa_s, if_pos q37] at q9; exact q9) c42.symm, iI_n]
set_option maxRecDepth 100000 in
theorem wX4_openAt {l : Launch} {G : ux_G} {h : ux_H} {d : Nat} {x : Int} {A : Ab} {P : Nat} (hC : rC 0 A h) (hI : Inv P A) (hJ : InvF A) (hd : d < 5) (hx : -2147483648 ≤ x ∧ x ≤ 2147483647) : ∀ (n : Nat) (p : Nat), p ≤ 6 → ¬ (0 ≤ x ∧ x < (s_opl A d p).length) → 6 - p < n → ux_W l G iX4_openAt (ux_rm 5 0) (ux_Z G 0 (fun vv h' => vv = some (.int (iI (s_opat (s_opl A d 6) x))) ∧ h' = h) (fun _ _ => False)) 5 [some (.ref 0), some (.int (nI d)), some (.int (iI x)), some (.int (nI (s_opl A d p).length)), some (.int (nI p)), none] [] (h) 0 := by
  intro n
  induction n with
  | zero => intro p hp hm hn; exact absurd hn (Nat.not_lt_zero _)
  | succ n ih =>
    intro p hp hm hn
    obtain ⟨i1, i2, i3, i4, i5, i6⟩ := id hI
    refine g_iload dX4_openAt_5 rfl ?_
    refine g_bipush (v := 6) dX4_openAt_7 (by decide) ?_
    refine g_icmp_ge (tgt := 63) dX4_openAt_9 (by decide) (fun c9 => ?_) (fun c9 => ?_)
    · have e : p = 6 := by have := xlt_i (a := 6) c9 (by omega) (by omega); omega
      subst e
      refine g_iconst (v := (-1)) dX4_openAt_63 (by decide) ?_
      refine g_ireturn dX4_openAt_64 rfl rfl (by decide) ?_
      refine ⟨?_, rfl⟩
      rw [s_opat_miss hm]; rfl
    · have hlt : p < 6 := xnl_i (a := 6) c9 (by omega) (by omega)
      refine g_iconst (v := 0) dX4_openAt_12 (by decide) ?_
      refine s_iw dX4_openAt_13 rfl rfl rfl ?_
      dsimp only [List.set]
      have el : (s_opa A d p 0).length = (s_opl A d p).length := by unfold s_opa; rw [List.length_append]; rfl
      have v0 := vX4_openAt (l := l) (G := G) (h := h) hC hI hJ hd hx hlt ?_ (A.2.1 + 1) 0 (Nat.zero_le _) (by rw [el]; exact hm) (by omega)
      · rw [el] at v0
        exact v0
      · intro hm2
        refine s_inc (v := nI (p + 1)) dX4_openAt_57 rfl nI_s rfl rfl rfl ?_
        dsimp only [List.set]
        refine g_goto (tgt := 5) dX4_openAt_60 (by decide) ?_
        exact ih (p + 1) (by omega) hm2 (by omega)
set_option maxRecDepth 100000 in
theorem mX4_openAt {l : Launch} {G : ux_G} {h : ux_H} {d : Nat} {x : Int} {A : Ab} {P : Nat} (hC : rC 0 A h) (hI : Inv P A) (hJ : InvF A) (hd : d < 5) (hx : -2147483648 ≤ x ∧ x ≤ 2147483647) : ux_F l G yX4_openAt iX4_openAt 5 0 [.ref 0, .int (nI d), .int (iI x)] h (some (.int (iI (s_opat (s_opl A d 6) x)))) (h) := by
  unfold ux_F
  refine ux_ent (L' := [some (.ref 0), some (.int (nI d)), some (.int (iI x)), none, none, none]) kX4_openAt rfl rfl rfl rfl ?_
  refine g_iconst (v := 0) dX4_openAt_0 (by decide) ?_
  refine s_i (i := 3) dX4_openAt_1 rfl rfl rfl rfl ?_
  dsimp only [List.set]
  refine g_iconst (v := 0) dX4_openAt_2 (by decide) ?_
  refine s_iw dX4_openAt_3 rfl rfl rfl ?_
  dsimp only [List.set]
  exact wX4_openAt (l := l) (G := G) hC hI hJ hd hx 7 0 (Nat.zero_le _) (by simp [s_opl]) (by omega)
