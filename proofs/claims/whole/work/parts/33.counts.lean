/-! THE CLASS: counts over the lessons. -/
theorem InvS_of {P : Nat} {A : Ab} (hI : Inv P A) (hJ : InvF A) : InvS A := by
  intro i hi e
  have q := hI.2.2.2.2.2 i hi
  exact (hJ.2.1 i hi (by omega)).2.1 e
theorem s_st_r (A : Ab) (i : Nat) : 0 ≤ s_st A i ∧ s_st A i ≤ 3 := by
  unfold s_st
  split
  · split
    · omega
    · split <;> omega
  · omega
theorem nI_s {n : Nat} : nI n + Int32.ofInt 1 = nI (n + 1) := nI_1 n
set_option maxRecDepth 100000 in
theorem wX4_ownLessons {l : Launch} {G : ux_G} {h : ux_H} {t : Nat} {A : Ab} {P : Nat} (hC : rC 0 A h) (hI : Inv P A) (ht : t < A.1) : ∀ (n : Nat) (j : Nat), j ≤ A.2.1 → A.2.1 - j < n → ux_W l G iX4_ownLessons (ux_rm 2 0) (ux_Z G 0 (fun vv h' => vv = some (.int (nI (s_cnt (fun j => decide (aF A 11 j = (t : Int))) A.2.1))) ∧ h' = h) (fun _ _ => False)) 4 [some (.ref 0), some (.int (nI t)), some (.int (nI (s_cnt (fun j => decide (aF A 11 j = (t : Int))) j))), some (.int (nI j))] [] (h) 0 := by
  intro n
  induction n with
  | zero => intro j hj hn; exact absurd hn (Nat.not_lt_zero _)
  | succ n ih =>
    intro j hj hn
    obtain ⟨i1, i2, i3, i4, i5, i6⟩ := id hI
    refine g_iload_n dX4_ownLessons_4 rfl ?_
    refine g_aload_n dX4_ownLessons_5 rfl ?_
    refine g_geti fX4_15 dX4_ownLessons_6 rfl rfl ?_
    refine g_top hC.2.1 ?_
    refine g_icmp_ge (tgt := 33) dX4_ownLessons_9 (by decide) (fun c9 => ?_) (fun c9 => ?_)
    · have e : j = A.2.1 := by have := xlt_i c9 (by omega) (by omega); omega
      subst e
      refine g_iload_n dX4_ownLessons_33 rfl ?_
      refine g_ireturn dX4_ownLessons_34 rfl rfl (by decide) ?_
      exact ⟨rfl, rfl⟩
    · have hlt : j < A.2.1 := xnl_i c9 (by omega) (by omega)
      have il := i6 j hlt
      have hr := s_st_r A j
      refine g_aload_n dX4_ownLessons_12 rfl ?_
      refine g_getr (q := 11) fX4_55 dX4_ownLessons_13 rfl rfl rfl ?_
      refine g_iload_n dX4_ownLessons_16 rfl ?_
      refine f1_SN (u' := 0) lX4_85 kX5_at (mA_l (f := 11) hC i2 (by assumption) rfl) dX4_ownLessons_17 rfl rfl rfl rfl rfl rfl ?_
      refine g_iload_n dX4_ownLessons_20 rfl ?_
      refine g_icmp_ne (tgt := 27) dX4_ownLessons_21 (by decide) (fun c21 => ?_) (fun c21 => ?_)
      · rw [xq (by omega) (by omega) (by omega)] at c21
        refine s_inc (v := nI (j + 1)) dX4_ownLessons_27 rfl nI_s rfl rfl rfl ?_
        dsimp only [List.set]
        refine g_goto (tgt := 4) dX4_ownLessons_30 (by decide) ?_
        rw [s_cnt_f (P := fun j => decide (aF A 11 j = (t : Int))) (n := j) (by simp [c21])]
        exact ih (j + 1) (by omega) (by omega)
      · rw [xq (by omega) (by omega) (by omega)] at c21
        refine s_inc (v := nI (s_cnt (fun j => decide (aF A 11 j = (t : Int))) j + 1)) dX4_ownLessons_24 rfl nI_s rfl rfl rfl ?_
        dsimp only [List.set]
        refine s_inc (v := nI (j + 1)) dX4_ownLessons_27 rfl nI_s rfl rfl rfl ?_
        dsimp only [List.set]
        refine g_goto (tgt := 4) dX4_ownLessons_30 (by decide) ?_
        rw [s_cnt_t (P := fun j => decide (aF A 11 j = (t : Int))) (n := j) (by simp [c21])]
        exact ih (j + 1) (by omega) (by omega)
set_option maxRecDepth 100000 in
theorem mX4_ownLessons {l : Launch} {G : ux_G} {h : ux_H} {t : Nat} {A : Ab} {P : Nat} (hC : rC 0 A h) (hI : Inv P A) (ht : t < A.1) : ux_F l G yX4_ownLessons iX4_ownLessons 2 0 [.ref 0, .int (nI t)] h (some (.int (nI (s_cnt (fun j => decide (aF A 11 j = (t : Int))) A.2.1)))) (h) := by
  unfold ux_F
  refine ux_ent (L' := [some (.ref 0), some (.int (nI t)), none, none]) kX4_ownLessons rfl rfl rfl rfl ?_
  obtain ⟨i1, i2, i3, i4, i5, i6⟩ := id hI
  refine g_iconst (v := 0) dX4_ownLessons_0 (by decide) ?_
  refine s_i (i := 2) dX4_ownLessons_1 rfl rfl rfl rfl ?_
  dsimp only [List.set]
  refine g_iconst (v := 0) dX4_ownLessons_2 (by decide) ?_
  refine s_i (i := 3) dX4_ownLessons_3 rfl rfl rfl rfl ?_
  dsimp only [List.set]
  exact wX4_ownLessons (l := l) (G := G) hC hI ht (A.2.1 + 1) 0 (Nat.zero_le _) (by omega)
set_option maxRecDepth 100000 in
theorem wX4_untaughtLessons {l : Launch} {G : ux_G} {h : ux_H} {t : Nat} {A : Ab} {P : Nat} (hC : rC 0 A h) (hI : Inv P A) (hJ : InvF A) (ht : t < A.1) : ∀ (n : Nat) (j : Nat), j ≤ A.2.1 → A.2.1 - j < n → ux_W l G iX4_untaughtLessons (ux_rm 4 0) (ux_Z G 0 (fun vv h' => vv = some (.int (nI (s_cnt (fun j => decide (aF A 11 j = (t : Int)) && decide (s_st A j ≠ 0)) A.2.1))) ∧ h' = h) (fun _ _ => False)) 4 [some (.ref 0), some (.int (nI t)), some (.int (nI (s_cnt (fun j => decide (aF A 11 j = (t : Int)) && decide (s_st A j ≠ 0)) j))), some (.int (nI j))] [] (h) 0 := by
  intro n
  induction n with
  | zero => intro j hj hn; exact absurd hn (Nat.not_lt_zero _)
  | succ n ih =>
    intro j hj hn
    obtain ⟨i1, i2, i3, i4, i5, i6⟩ := id hI
    refine g_iload_n dX4_untaughtLessons_4 rfl ?_
    refine g_aload_n dX4_untaughtLessons_5 rfl ?_
    refine g_geti fX4_15 dX4_untaughtLessons_6 rfl rfl ?_
    refine g_top hC.2.1 ?_
    refine g_icmp_ge (tgt := 41) dX4_untaughtLessons_9 (by decide) (fun c9 => ?_) (fun c9 => ?_)
    · have e : j = A.2.1 := by have := xlt_i c9 (by omega) (by omega); omega
      subst e
      refine g_iload_n dX4_untaughtLessons_41 rfl ?_
      refine g_ireturn dX4_untaughtLessons_42 rfl rfl (by decide) ?_
      exact ⟨rfl, rfl⟩
    · have hlt : j < A.2.1 := xnl_i c9 (by omega) (by omega)
      have il := i6 j hlt
      have hr := s_st_r A j
      refine g_aload_n dX4_untaughtLessons_12 rfl ?_
      refine g_getr (q := 11) fX4_55 dX4_untaughtLessons_13 rfl rfl rfl ?_
      refine g_iload_n dX4_untaughtLessons_16 rfl ?_
      refine f1_SN (u' := 0) lX4_85 kX5_at (mA_l (f := 11) hC i2 (by assumption) rfl) dX4_untaughtLessons_17 rfl rfl rfl rfl rfl rfl ?_
      refine g_iload_n dX4_untaughtLessons_20 rfl ?_
      refine g_icmp_ne (tgt := 35) dX4_untaughtLessons_21 (by decide) (fun c21 => ?_) (fun c21 => ?_)
      · rw [xq (by omega) (by omega) (by omega)] at c21
        refine s_inc (v := nI (j + 1)) dX4_untaughtLessons_35 rfl nI_s rfl rfl rfl ?_
        dsimp only [List.set]
        refine g_goto (tgt := 4) dX4_untaughtLessons_38 (by decide) ?_
        rw [s_cnt_f (P := fun j => decide (aF A 11 j = (t : Int)) && decide (s_st A j ≠ 0)) (n := j) (by simp [c21])]
        exact ih (j + 1) (by omega) (by omega)
      · rw [xq (by omega) (by omega) (by omega)] at c21
        refine g_aload_n dX4_untaughtLessons_24 rfl ?_
        refine g_iload_n dX4_untaughtLessons_25 rfl ?_
        refine f1_V (u' := 0) lX4_100 kX4_stateOf (mX4_stateOf hC hI (InvS_of hI hJ) (by assumption)) dX4_untaughtLessons_26 rfl rfl rfl rfl rfl rfl rfl rfl ?_
        refine g_if_eq (tgt := 35) dX4_untaughtLessons_29 (by decide) (fun c29 => ?_) (fun c29 => ?_)
        · rw [xq0 (by omega) (by omega)] at c29
          refine s_inc (v := nI (j + 1)) dX4_untaughtLessons_35 rfl nI_s rfl rfl rfl ?_
          dsimp only [List.set]
          refine g_goto (tgt := 4) dX4_untaughtLessons_38 (by decide) ?_
          rw [s_cnt_f (P := fun j => decide (aF A 11 j = (t : Int)) && decide (s_st A j ≠ 0)) (n := j) (by simp [c21, c29])]
          exact ih (j + 1) (by omega) (by omega)
        · rw [xq0 (by omega) (by omega)] at c29
          refine s_inc (v := nI (s_cnt (fun j => decide (aF A 11 j = (t : Int)) && decide (s_st A j ≠ 0)) j + 1)) dX4_untaughtLessons_32 rfl nI_s rfl rfl rfl ?_
          dsimp only [List.set]
          refine s_inc (v := nI (j + 1)) dX4_untaughtLessons_35 rfl nI_s rfl rfl rfl ?_
          dsimp only [List.set]
          refine g_goto (tgt := 4) dX4_untaughtLessons_38 (by decide) ?_
          rw [s_cnt_t (P := fun j => decide (aF A 11 j = (t : Int)) && decide (s_st A j ≠ 0)) (n := j) (by simp [c21, c29])]
          exact ih (j + 1) (by omega) (by omega)
set_option maxRecDepth 100000 in
theorem mX4_untaughtLessons {l : Launch} {G : ux_G} {h : ux_H} {t : Nat} {A : Ab} {P : Nat} (hC : rC 0 A h) (hI : Inv P A) (hJ : InvF A) (ht : t < A.1) : ux_F l G yX4_untaughtLessons iX4_untaughtLessons 4 0 [.ref 0, .int (nI t)] h (some (.int (nI (s_cnt (fun j => decide (aF A 11 j = (t : Int)) && decide (s_st A j ≠ 0)) A.2.1)))) (h) := by
  unfold ux_F
  refine ux_ent (L' := [some (.ref 0), some (.int (nI t)), none, none]) kX4_untaughtLessons rfl rfl rfl rfl ?_
  obtain ⟨i1, i2, i3, i4, i5, i6⟩ := id hI
  refine g_iconst (v := 0) dX4_untaughtLessons_0 (by decide) ?_
  refine s_i (i := 2) dX4_untaughtLessons_1 rfl rfl rfl rfl ?_
  dsimp only [List.set]
  refine g_iconst (v := 0) dX4_untaughtLessons_2 (by decide) ?_
  refine s_i (i := 3) dX4_untaughtLessons_3 rfl rfl rfl rfl ?_
  dsimp only [List.set]
  exact wX4_untaughtLessons (l := l) (G := G) hC hI hJ ht (A.2.1 + 1) 0 (Nat.zero_le _) (by omega)
set_option maxRecDepth 100000 in
theorem wX4_coversOn {l : Launch} {G : ux_G} {h : ux_H} {t : Nat} {d : Int} {A : Ab} {P : Nat} (hC : rC 0 A h) (hI : Inv P A) (ht : t < A.1) (hd : 0 ≤ d ∧ d < 5) : ∀ (n : Nat) (j : Nat), j ≤ A.2.1 → A.2.1 - j < n → ux_W l G iX4_coversOn (ux_rm 3 0) (ux_Z G 0 (fun vv h' => vv = some (.int (nI (s_cnt (fun j => decide (aF A 13 j = (t : Int)) && decide (aF A 8 j / 6 = d)) A.2.1))) ∧ h' = h) (fun _ _ => False)) 5 [some (.ref 0), some (.int (nI t)), some (.int (iI d)), some (.int (nI (s_cnt (fun j => decide (aF A 13 j = (t : Int)) && decide (aF A 8 j / 6 = d)) j))), some (.int (nI j))] [] (h) 0 := by
  intro n
  induction n with
  | zero => intro j hj hn; exact absurd hn (Nat.not_lt_zero _)
  | succ n ih =>
    intro j hj hn
    obtain ⟨i1, i2, i3, i4, i5, i6⟩ := id hI
    refine g_iload dX4_coversOn_5 rfl ?_
    refine g_aload_n dX4_coversOn_7 rfl ?_
    refine g_geti fX4_15 dX4_coversOn_8 rfl rfl ?_
    refine g_top hC.2.1 ?_
    refine g_icmp_ge (tgt := 46) dX4_coversOn_11 (by decide) (fun c11 => ?_) (fun c11 => ?_)
    · have e : j = A.2.1 := by have := xlt_i c11 (by omega) (by omega); omega
      subst e
      refine g_iload_n dX4_coversOn_46 rfl ?_
      refine g_ireturn dX4_coversOn_47 rfl rfl (by decide) ?_
      exact ⟨rfl, rfl⟩
    · have hlt : j < A.2.1 := xnl_i c11 (by omega) (by omega)
      have il := i6 j hlt
      have hr := s_st_r A j
      refine g_aload_n dX4_coversOn_14 rfl ?_
      refine g_getr (q := 13) fX4_61 dX4_coversOn_15 rfl rfl rfl ?_
      refine g_iload dX4_coversOn_18 rfl ?_
      refine f1_SN (u' := 0) lX4_85 kX5_at (mA_l (f := 13) hC i2 (by assumption) rfl) dX4_coversOn_20 rfl rfl rfl rfl rfl rfl ?_
      refine g_iload_n dX4_coversOn_23 rfl ?_
      refine g_icmp_ne (tgt := 40) dX4_coversOn_24 (by decide) (fun c24 => ?_) (fun c24 => ?_)
      · rw [xq (by omega) (by omega) (by omega)] at c24
        refine s_inc (v := nI (j + 1)) dX4_coversOn_40 rfl nI_s rfl rfl rfl ?_
        dsimp only [List.set]
        refine g_goto (tgt := 5) dX4_coversOn_43 (by decide) ?_
        rw [s_cnt_f (P := fun j => decide (aF A 13 j = (t : Int)) && decide (aF A 8 j / 6 = d)) (n := j) (by simp [c24])]
        exact ih (j + 1) (by omega) (by omega)
      · rw [xq (by omega) (by omega) (by omega)] at c24
        refine g_aload_n dX4_coversOn_27 rfl ?_
        refine g_iload dX4_coversOn_28 rfl ?_
        refine f1_V (u' := 0) lX4_108 kX4_dayOf (mX4_dayOf hC hI (by assumption)) dX4_coversOn_30 rfl rfl rfl rfl rfl rfl rfl rfl ?_
        refine g_iload_n dX4_coversOn_33 rfl ?_
        refine g_icmp_ne (tgt := 40) dX4_coversOn_34 (by decide) (fun c34 => ?_) (fun c34 => ?_)
        · rw [iI_eq (by omega) (by omega) (by omega) (by omega)] at c34
          refine s_inc (v := nI (j + 1)) dX4_coversOn_40 rfl nI_s rfl rfl rfl ?_
          dsimp only [List.set]
          refine g_goto (tgt := 5) dX4_coversOn_43 (by decide) ?_
          rw [s_cnt_f (P := fun j => decide (aF A 13 j = (t : Int)) && decide (aF A 8 j / 6 = d)) (n := j) (by simp [c24, c34])]
          exact ih (j + 1) (by omega) (by omega)
        · rw [iI_eq (by omega) (by omega) (by omega) (by omega)] at c34
          refine s_inc (v := nI (s_cnt (fun j => decide (aF A 13 j = (t : Int)) && decide (aF A 8 j / 6 = d)) j + 1)) dX4_coversOn_37 rfl nI_s rfl rfl rfl ?_
          dsimp only [List.set]
          refine s_inc (v := nI (j + 1)) dX4_coversOn_40 rfl nI_s rfl rfl rfl ?_
          dsimp only [List.set]
          refine g_goto (tgt := 5) dX4_coversOn_43 (by decide) ?_
          rw [s_cnt_t (P := fun j => decide (aF A 13 j = (t : Int)) && decide (aF A 8 j / 6 = d)) (n := j) (by simp [c24, c34])]
          exact ih (j + 1) (by omega) (by omega)
set_option maxRecDepth 100000 in
theorem mX4_coversOn {l : Launch} {G : ux_G} {h : ux_H} {t : Nat} {d : Int} {A : Ab} {P : Nat} (hC : rC 0 A h) (hI : Inv P A) (ht : t < A.1) (hd : 0 ≤ d ∧ d < 5) : ux_F l G yX4_coversOn iX4_coversOn 3 0 [.ref 0, .int (nI t), .int (iI d)] h (some (.int (nI (s_cnt (fun j => decide (aF A 13 j = (t : Int)) && decide (aF A 8 j / 6 = d)) A.2.1)))) (h) := by
  unfold ux_F
  refine ux_ent (L' := [some (.ref 0), some (.int (nI t)), some (.int (iI d)), none, none]) kX4_coversOn rfl rfl rfl rfl ?_
  obtain ⟨i1, i2, i3, i4, i5, i6⟩ := id hI
  refine g_iconst (v := 0) dX4_coversOn_0 (by decide) ?_
  refine s_i (i := 3) dX4_coversOn_1 rfl rfl rfl rfl ?_
  dsimp only [List.set]
  refine g_iconst (v := 0) dX4_coversOn_2 (by decide) ?_
  refine s_iw dX4_coversOn_3 rfl rfl rfl ?_
  dsimp only [List.set]
  exact wX4_coversOn (l := l) (G := G) hC hI ht hd (A.2.1 + 1) 0 (Nat.zero_le _) (by omega)
set_option maxRecDepth 100000 in
theorem wX4_lessonsIn {l : Launch} {G : ux_G} {h : ux_H} {t : Nat} {A : Ab} {P : Nat} (hC : rC 0 A h) (hI : Inv P A) (hJ : InvF A) (ht : t < 4) : ∀ (n : Nat) (j : Nat), j ≤ A.2.1 → A.2.1 - j < n → ux_W l G iX4_lessonsIn (ux_rm 4 0) (ux_Z G 0 (fun vv h' => vv = some (.int (nI (s_cnt (fun j => decide (s_st A j = (t : Int))) A.2.1))) ∧ h' = h) (fun _ _ => False)) 4 [some (.ref 0), some (.int (nI t)), some (.int (nI (s_cnt (fun j => decide (s_st A j = (t : Int))) j))), some (.int (nI j))] [] (h) 0 := by
  intro n
  induction n with
  | zero => intro j hj hn; exact absurd hn (Nat.not_lt_zero _)
  | succ n ih =>
    intro j hj hn
    obtain ⟨i1, i2, i3, i4, i5, i6⟩ := id hI
    refine g_iload_n dX4_lessonsIn_4 rfl ?_
    refine g_aload_n dX4_lessonsIn_5 rfl ?_
    refine g_geti fX4_15 dX4_lessonsIn_6 rfl rfl ?_
    refine g_top hC.2.1 ?_
    refine g_icmp_ge (tgt := 30) dX4_lessonsIn_9 (by decide) (fun c9 => ?_) (fun c9 => ?_)
    · have e : j = A.2.1 := by have := xlt_i c9 (by omega) (by omega); omega
      subst e
      refine g_iload_n dX4_lessonsIn_30 rfl ?_
      refine g_ireturn dX4_lessonsIn_31 rfl rfl (by decide) ?_
      exact ⟨rfl, rfl⟩
    · have hlt : j < A.2.1 := xnl_i c9 (by omega) (by omega)
      have il := i6 j hlt
      have hr := s_st_r A j
      refine g_aload_n dX4_lessonsIn_12 rfl ?_
      refine g_iload_n dX4_lessonsIn_13 rfl ?_
      refine f1_V (u' := 0) lX4_100 kX4_stateOf (mX4_stateOf hC hI (InvS_of hI hJ) (by assumption)) dX4_lessonsIn_14 rfl rfl rfl rfl rfl rfl rfl rfl ?_
      refine g_iload_n dX4_lessonsIn_17 rfl ?_
      refine g_icmp_ne (tgt := 24) dX4_lessonsIn_18 (by decide) (fun c18 => ?_) (fun c18 => ?_)
      · rw [xq (by omega) (by omega) (by omega)] at c18
        refine s_inc (v := nI (j + 1)) dX4_lessonsIn_24 rfl nI_s rfl rfl rfl ?_
        dsimp only [List.set]
        refine g_goto (tgt := 4) dX4_lessonsIn_27 (by decide) ?_
        rw [s_cnt_f (P := fun j => decide (s_st A j = (t : Int))) (n := j) (by simp [c18])]
        exact ih (j + 1) (by omega) (by omega)
      · rw [xq (by omega) (by omega) (by omega)] at c18
        refine s_inc (v := nI (s_cnt (fun j => decide (s_st A j = (t : Int))) j + 1)) dX4_lessonsIn_21 rfl nI_s rfl rfl rfl ?_
        dsimp only [List.set]
        refine s_inc (v := nI (j + 1)) dX4_lessonsIn_24 rfl nI_s rfl rfl rfl ?_
        dsimp only [List.set]
        refine g_goto (tgt := 4) dX4_lessonsIn_27 (by decide) ?_
        rw [s_cnt_t (P := fun j => decide (s_st A j = (t : Int))) (n := j) (by simp [c18])]
        exact ih (j + 1) (by omega) (by omega)
set_option maxRecDepth 100000 in
theorem mX4_lessonsIn {l : Launch} {G : ux_G} {h : ux_H} {t : Nat} {A : Ab} {P : Nat} (hC : rC 0 A h) (hI : Inv P A) (hJ : InvF A) (ht : t < 4) : ux_F l G yX4_lessonsIn iX4_lessonsIn 4 0 [.ref 0, .int (nI t)] h (some (.int (nI (s_cnt (fun j => decide (s_st A j = (t : Int))) A.2.1)))) (h) := by
  unfold ux_F
  refine ux_ent (L' := [some (.ref 0), some (.int (nI t)), none, none]) kX4_lessonsIn rfl rfl rfl rfl ?_
  obtain ⟨i1, i2, i3, i4, i5, i6⟩ := id hI
  refine g_iconst (v := 0) dX4_lessonsIn_0 (by decide) ?_
  refine s_i (i := 2) dX4_lessonsIn_1 rfl rfl rfl rfl ?_
  dsimp only [List.set]
  refine g_iconst (v := 0) dX4_lessonsIn_2 (by decide) ?_
  refine s_i (i := 3) dX4_lessonsIn_3 rfl rfl rfl rfl ?_
  dsimp only [List.set]
  exact wX4_lessonsIn (l := l) (G := G) hC hI hJ ht (A.2.1 + 1) 0 (Nat.zero_le _) (by omega)
set_option maxRecDepth 100000 in
theorem wX4_lostLessons {l : Launch} {G : ux_G} {h : ux_H} {t : Nat} {A : Ab} {P : Nat} (hC : rC 0 A h) (hI : Inv P A) (hJ : InvF A) (ht : t < 6) : ∀ (n : Nat) (j : Nat), j ≤ A.2.1 → A.2.1 - j < n → ux_W l G iX4_lostLessons (ux_rm 4 0) (ux_Z G 0 (fun vv h' => vv = some (.int (nI (s_cnt (fun j => decide (aF A 9 j = (t : Int)) && (decide (s_st A j = 3) || decide (s_st A j = 2))) A.2.1))) ∧ h' = h) (fun _ _ => False)) 4 [some (.ref 0), some (.int (nI t)), some (.int (nI (s_cnt (fun j => decide (aF A 9 j = (t : Int)) && (decide (s_st A j = 3) || decide (s_st A j = 2))) j))), some (.int (nI j)), none] [] (h) 0 := by
  intro n
  induction n with
  | zero => intro j hj hn; exact absurd hn (Nat.not_lt_zero _)
  | succ n ih =>
    intro j hj hn
    obtain ⟨i1, i2, i3, i4, i5, i6⟩ := id hI
    refine g_iload_n dX4_lostLessons_4 rfl ?_
    refine g_aload_n dX4_lostLessons_5 rfl ?_
    refine g_geti fX4_15 dX4_lostLessons_6 rfl rfl ?_
    refine g_top hC.2.1 ?_
    refine g_icmp_ge (tgt := 52) dX4_lostLessons_9 (by decide) (fun c9 => ?_) (fun c9 => ?_)
    · have e : j = A.2.1 := by have := xlt_i c9 (by omega) (by omega); omega
      subst e
      refine g_iload_n dX4_lostLessons_52 rfl ?_
      refine g_ireturn dX4_lostLessons_53 rfl rfl (by decide) ?_
      exact ⟨rfl, rfl⟩
    · have hlt : j < A.2.1 := xnl_i c9 (by omega) (by omega)
      have il := i6 j hlt
      have hr := s_st_r A j
      refine g_aload_n dX4_lostLessons_12 rfl ?_
      refine g_iload_n dX4_lostLessons_13 rfl ?_
      refine f1_V (u' := 0) lX4_100 kX4_stateOf (mX4_stateOf hC hI (InvS_of hI hJ) (by assumption)) dX4_lostLessons_14 rfl rfl rfl rfl rfl rfl rfl rfl ?_
      refine s_iw dX4_lostLessons_17 rfl rfl rfl ?_
      dsimp only [List.set]
      refine g_aload_n dX4_lostLessons_19 rfl ?_
      refine g_getr (q := 9) fX4_49 dX4_lostLessons_20 rfl rfl rfl ?_
      refine g_iload_n dX4_lostLessons_23 rfl ?_
      refine f1_SN (u' := 0) lX4_85 kX5_at (mA_l (f := 9) hC i2 (by assumption) rfl) dX4_lostLessons_24 rfl rfl rfl rfl rfl rfl ?_
      refine g_iload_n dX4_lostLessons_27 rfl ?_
      refine g_icmp_ne (tgt := 46) dX4_lostLessons_28 (by decide) (fun c28 => ?_) (fun c28 => ?_)
      · rw [xq (by omega) (by omega) (by omega)] at c28
        refine s_inc (v := nI (j + 1)) dX4_lostLessons_46 rfl nI_s rfl rfl rfl ?_
        dsimp only [List.set]
        refine g_goto (tgt := 4) dX4_lostLessons_49 (by decide) ?_
        refine g_fg 4 rfl ?_
        dsimp only [List.set]
        rw [s_cnt_f (P := fun j => decide (aF A 9 j = (t : Int)) && (decide (s_st A j = 3) || decide (s_st A j = 2))) (n := j) (by simp [c28])]
        exact ih (j + 1) (by omega) (by omega)
      · rw [xq (by omega) (by omega) (by omega)] at c28
        refine g_iload dX4_lostLessons_31 rfl ?_
        refine g_iconst (v := 3) dX4_lostLessons_33 (by decide) ?_
        refine g_icmp_eq (tgt := 43) dX4_lostLessons_34 (by decide) (fun c34 => ?_) (fun c34 => ?_)
        · rw [show (3 : Int32) = iI 3 by decide, iI_eq (by omega) (by omega) (by omega) (by omega)] at c34
          refine s_inc (v := nI (s_cnt (fun j => decide (aF A 9 j = (t : Int)) && (decide (s_st A j = 3) || decide (s_st A j = 2))) j + 1)) dX4_lostLessons_43 rfl nI_s rfl rfl rfl ?_
          dsimp only [List.set]
          refine s_inc (v := nI (j + 1)) dX4_lostLessons_46 rfl nI_s rfl rfl rfl ?_
          dsimp only [List.set]
          refine g_goto (tgt := 4) dX4_lostLessons_49 (by decide) ?_
          refine g_fg 4 rfl ?_
          dsimp only [List.set]
          rw [s_cnt_t (P := fun j => decide (aF A 9 j = (t : Int)) && (decide (s_st A j = 3) || decide (s_st A j = 2))) (n := j) (by simp [c28, c34])]
          exact ih (j + 1) (by omega) (by omega)
        · rw [show (3 : Int32) = iI 3 by decide, iI_eq (by omega) (by omega) (by omega) (by omega)] at c34
          refine g_iload dX4_lostLessons_37 rfl ?_
          refine g_iconst (v := 2) dX4_lostLessons_39 (by decide) ?_
          refine g_icmp_ne (tgt := 46) dX4_lostLessons_40 (by decide) (fun c40 => ?_) (fun c40 => ?_)
          · rw [show (2 : Int32) = iI 2 by decide, iI_eq (by omega) (by omega) (by omega) (by omega)] at c40
            refine s_inc (v := nI (j + 1)) dX4_lostLessons_46 rfl nI_s rfl rfl rfl ?_
            dsimp only [List.set]
            refine g_goto (tgt := 4) dX4_lostLessons_49 (by decide) ?_
            refine g_fg 4 rfl ?_
            dsimp only [List.set]
            rw [s_cnt_f (P := fun j => decide (aF A 9 j = (t : Int)) && (decide (s_st A j = 3) || decide (s_st A j = 2))) (n := j) (by simp [c28, c34, c40])]
            exact ih (j + 1) (by omega) (by omega)
          · rw [show (2 : Int32) = iI 2 by decide, iI_eq (by omega) (by omega) (by omega) (by omega)] at c40
            refine s_inc (v := nI (s_cnt (fun j => decide (aF A 9 j = (t : Int)) && (decide (s_st A j = 3) || decide (s_st A j = 2))) j + 1)) dX4_lostLessons_43 rfl nI_s rfl rfl rfl ?_
            dsimp only [List.set]
            refine s_inc (v := nI (j + 1)) dX4_lostLessons_46 rfl nI_s rfl rfl rfl ?_
            dsimp only [List.set]
            refine g_goto (tgt := 4) dX4_lostLessons_49 (by decide) ?_
            refine g_fg 4 rfl ?_
            dsimp only [List.set]
            rw [s_cnt_t (P := fun j => decide (aF A 9 j = (t : Int)) && (decide (s_st A j = 3) || decide (s_st A j = 2))) (n := j) (by simp [c28, c34, c40])]
            exact ih (j + 1) (by omega) (by omega)
set_option maxRecDepth 100000 in
theorem mX4_lostLessons {l : Launch} {G : ux_G} {h : ux_H} {t : Nat} {A : Ab} {P : Nat} (hC : rC 0 A h) (hI : Inv P A) (hJ : InvF A) (ht : t < 6) : ux_F l G yX4_lostLessons iX4_lostLessons 4 0 [.ref 0, .int (nI t)] h (some (.int (nI (s_cnt (fun j => decide (aF A 9 j = (t : Int)) && (decide (s_st A j = 3) || decide (s_st A j = 2))) A.2.1)))) (h) := by
  unfold ux_F
  refine ux_ent (L' := [some (.ref 0), some (.int (nI t)), none, none, none]) kX4_lostLessons rfl rfl rfl rfl ?_
  obtain ⟨i1, i2, i3, i4, i5, i6⟩ := id hI
  refine g_iconst (v := 0) dX4_lostLessons_0 (by decide) ?_
  refine s_i (i := 2) dX4_lostLessons_1 rfl rfl rfl rfl ?_
  dsimp only [List.set]
  refine g_iconst (v := 0) dX4_lostLessons_2 (by decide) ?_
  refine s_i (i := 3) dX4_lostLessons_3 rfl rfl rfl rfl ?_
  dsimp only [List.set]
  exact wX4_lostLessons (l := l) (G := G) hC hI hJ ht (A.2.1 + 1) 0 (Nat.zero_le _) (by omega)
set_option maxRecDepth 100000 in
theorem wX4_openCount {l : Launch} {G : ux_G} {h : ux_H} {t : Nat} {A : Ab} {P : Nat} (hC : rC 0 A h) (hI : Inv P A) (hJ : InvF A) (ht : t < 5) : ∀ (n : Nat) (j : Nat), j ≤ A.2.1 → A.2.1 - j < n → ux_W l G iX4_openCount (ux_rm 4 0) (ux_Z G 0 (fun vv h' => vv = some (.int (nI (s_cnt (fun j => decide (aF A 8 j / 6 = (t : Int)) && decide (s_st A j = 3)) A.2.1))) ∧ h' = h) (fun _ _ => False)) 4 [some (.ref 0), some (.int (nI t)), some (.int (nI (s_cnt (fun j => decide (aF A 8 j / 6 = (t : Int)) && decide (s_st A j = 3)) j))), some (.int (nI j))] [] (h) 0 := by
  intro n
  induction n with
  | zero => intro j hj hn; exact absurd hn (Nat.not_lt_zero _)
  | succ n ih =>
    intro j hj hn
    obtain ⟨i1, i2, i3, i4, i5, i6⟩ := id hI
    refine g_iload_n dX4_openCount_4 rfl ?_
    refine g_aload_n dX4_openCount_5 rfl ?_
    refine g_geti fX4_15 dX4_openCount_6 rfl rfl ?_
    refine g_top hC.2.1 ?_
    refine g_icmp_ge (tgt := 39) dX4_openCount_9 (by decide) (fun c9 => ?_) (fun c9 => ?_)
    · have e : j = A.2.1 := by have := xlt_i c9 (by omega) (by omega); omega
      subst e
      refine g_iload_n dX4_openCount_39 rfl ?_
      refine g_ireturn dX4_openCount_40 rfl rfl (by decide) ?_
      exact ⟨rfl, rfl⟩
    · have hlt : j < A.2.1 := xnl_i c9 (by omega) (by omega)
      have il := i6 j hlt
      have hr := s_st_r A j
      refine g_aload_n dX4_openCount_12 rfl ?_
      refine g_iload_n dX4_openCount_13 rfl ?_
      refine f1_V (u' := 0) lX4_108 kX4_dayOf (mX4_dayOf hC hI (by assumption)) dX4_openCount_14 rfl rfl rfl rfl rfl rfl rfl rfl ?_
      refine g_iload_n dX4_openCount_17 rfl ?_
      refine g_icmp_ne (tgt := 33) dX4_openCount_18 (by decide) (fun c18 => ?_) (fun c18 => ?_)
      · rw [xq (by omega) (by omega) (by omega)] at c18
        refine s_inc (v := nI (j + 1)) dX4_openCount_33 rfl nI_s rfl rfl rfl ?_
        dsimp only [List.set]
        refine g_goto (tgt := 4) dX4_openCount_36 (by decide) ?_
        rw [s_cnt_f (P := fun j => decide (aF A 8 j / 6 = (t : Int)) && decide (s_st A j = 3)) (n := j) (by simp [c18])]
        exact ih (j + 1) (by omega) (by omega)
      · rw [xq (by omega) (by omega) (by omega)] at c18
        refine g_aload_n dX4_openCount_21 rfl ?_
        refine g_iload_n dX4_openCount_22 rfl ?_
        refine f1_V (u' := 0) lX4_100 kX4_stateOf (mX4_stateOf hC hI (InvS_of hI hJ) (by assumption)) dX4_openCount_23 rfl rfl rfl rfl rfl rfl rfl rfl ?_
        refine g_iconst (v := 3) dX4_openCount_26 (by decide) ?_
        refine g_icmp_ne (tgt := 33) dX4_openCount_27 (by decide) (fun c27 => ?_) (fun c27 => ?_)
        · rw [show (3 : Int32) = iI 3 by decide, iI_eq (by omega) (by omega) (by omega) (by omega)] at c27
          refine s_inc (v := nI (j + 1)) dX4_openCount_33 rfl nI_s rfl rfl rfl ?_
          dsimp only [List.set]
          refine g_goto (tgt := 4) dX4_openCount_36 (by decide) ?_
          rw [s_cnt_f (P := fun j => decide (aF A 8 j / 6 = (t : Int)) && decide (s_st A j = 3)) (n := j) (by simp [c18, c27])]
          exact ih (j + 1) (by omega) (by omega)
        · rw [show (3 : Int32) = iI 3 by decide, iI_eq (by omega) (by omega) (by omega) (by omega)] at c27
          refine s_inc (v := nI (s_cnt (fun j => decide (aF A 8 j / 6 = (t : Int)) && decide (s_st A j = 3)) j + 1)) dX4_openCount_30 rfl nI_s rfl rfl rfl ?_
          dsimp only [List.set]
          refine s_inc (v := nI (j + 1)) dX4_openCount_33 rfl nI_s rfl rfl rfl ?_
          dsimp only [List.set]
          refine g_goto (tgt := 4) dX4_openCount_36 (by decide) ?_
          rw [s_cnt_t (P := fun j => decide (aF A 8 j / 6 = (t : Int)) && decide (s_st A j = 3)) (n := j) (by simp [c18, c27])]
          exact ih (j + 1) (by omega) (by omega)
set_option maxRecDepth 100000 in
theorem mX4_openCount {l : Launch} {G : ux_G} {h : ux_H} {t : Nat} {A : Ab} {P : Nat} (hC : rC 0 A h) (hI : Inv P A) (hJ : InvF A) (ht : t < 5) : ux_F l G yX4_openCount iX4_openCount 4 0 [.ref 0, .int (nI t)] h (some (.int (nI (s_cnt (fun j => decide (aF A 8 j / 6 = (t : Int)) && decide (s_st A j = 3)) A.2.1)))) (h) := by
  unfold ux_F
  refine ux_ent (L' := [some (.ref 0), some (.int (nI t)), none, none]) kX4_openCount rfl rfl rfl rfl ?_
  obtain ⟨i1, i2, i3, i4, i5, i6⟩ := id hI
  refine g_iconst (v := 0) dX4_openCount_0 (by decide) ?_
  refine s_i (i := 2) dX4_openCount_1 rfl rfl rfl rfl ?_
  dsimp only [List.set]
  refine g_iconst (v := 0) dX4_openCount_2 (by decide) ?_
  refine s_i (i := 3) dX4_openCount_3 rfl rfl rfl rfl ?_
  dsimp only [List.set]
  exact wX4_openCount (l := l) (G := G) hC hI hJ ht (A.2.1 + 1) 0 (Nat.zero_le _) (by omega)
