/-! THE CLASS: more public calls that change nothing. -/
def k_host (A : Ab) (a : Int) : Nat := if ¬ (0 ≤ a ∧ a < A.2.1) then 1 else if s_st A a.toNat ≠ 2 then 2 else 0
set_option maxRecDepth 100000 in
theorem mX5_host {l : Launch} {G : ux_G} {h : ux_H} {a : Int} {b : Bool} {A : Ab} {P : Nat} (hC : rC 0 A h) (hI : Inv P A) (hJ : InvF A) (ra : -2147483648 ≤ a ∧ a ≤ 2147483647) : ux_M l G yX5_host iX5_host 7 3 [.ref 176, .int (iI a), .int (if b then 1 else 0)] h (fun v h' => v = some (.int (iI (aF A (if b then 15 else 14) a.toNat))) ∧ h' = h ∧ k_host A a = 0) (fun E h' => h' = h ∧ xc (k_host A a) ["java/lang/IndexOutOfBoundsException", "java/lang/IllegalStateException"] E) := by
  refine ux_ent (L' := [some (.ref 176), some (.int (iI a)), some (.int (if b then 1 else 0))]) kX5_host rfl rfl rfl rfl ?_
  obtain ⟨i1, i2, i3, i4, i5, i6⟩ := id hI
  refine g_aload_n dX5_host_0 rfl ?_
  refine g_iload_n dX5_host_1 rfl ?_
  refine q_V (u' := 1) lX5_144 kX5_needLesson (mX5_needLesson hC (by omega) (by omega) (by omega)) dX5_host_2 rfl rfl rfl rfl rfl rfl rfl rfl (fun v h2 hq => ?_) (fun E hx q => g_out rfl (by decide) (by obtain ⟨rfl, rfl, q3⟩ := q; exact ⟨rfl, xc_mk (k := 1) (by unfold k_host; (repeat' split) <;> first | rfl | omega | contradiction) (by decide) rfl⟩))
  obtain ⟨rfl, eh2, hq2⟩ := hq
  rw [eh2]
  have hta : a.toNat < A.2.1 := by omega
  rw [iI_get (a := a) (by omega) (by omega)]
  dsimp only [Option.toList, List.cons_append, List.nil_append]
  refine g_aload_n dX5_host_5 rfl ?_
  refine g_iload_n dX5_host_6 rfl ?_
  refine g_iconst (v := 2) dX5_host_7 (by decide) ?_
  refine q_V (u' := 2) lX5_250 kX5_needState (mX5_needState (s := 2) hC hI hJ (by assumption) (by decide)) dX5_host_8 rfl rfl rfl rfl rfl rfl rfl rfl (fun v h8 hq => ?_) (fun E hx q => g_out rfl (by decide) (by obtain ⟨rfl, rfl, q3⟩ := q; exact ⟨rfl, xc_mk (k := 2) (by unfold k_host; (repeat' split) <;> first | rfl | omega | contradiction) (by decide) rfl⟩))
  obtain ⟨rfl, eh8, hq8⟩ := hq
  rw [eh8]
  dsimp only [Option.toList, List.cons_append, List.nil_append]
  refine g_iload_n dX5_host_11 rfl ?_
  refine g_if_eq (tgt := 25) dX5_host_12 (by decide) (fun c12 => ?_) (fun c12 => ?_)
  · have q12 : b = false := by cases b; rfl; exact absurd c12 (by decide)
    subst q12
    refine g_aload_n dX5_host_25 rfl ?_
    refine g_getr (q := 0) fX5_10 dX5_host_26 rfl rfl rfl ?_
    refine g_getr (q := 14) fX5_303 dX5_host_29 rfl rfl rfl ?_
    refine g_iload_n dX5_host_32 rfl ?_
    refine f1_S (u' := 2) lX5_173 kX5_at (mA_l (f := 14) hC i2 (by assumption) rfl) dX5_host_33 rfl rfl rfl rfl rfl rfl ?_
    refine g_ireturn dX5_host_36 rfl rfl (by decide) ?_
    exact ⟨rfl, rfl, (by unfold k_host; (repeat' split) <;> first | rfl | omega | contradiction)⟩
  · have q12 : b = true := by cases b; exact absurd rfl c12; rfl
    subst q12
    refine g_aload_n dX5_host_15 rfl ?_
    refine g_getr (q := 0) fX5_10 dX5_host_16 rfl rfl rfl ?_
    refine g_getr (q := 15) fX5_300 dX5_host_19 rfl rfl rfl ?_
    refine g_goto (tgt := 32) dX5_host_22 (by decide) ?_
    refine g_iload_n dX5_host_32 rfl ?_
    refine f1_S (u' := 2) lX5_173 kX5_at (mA_l (f := 15) hC i2 (by assumption) rfl) dX5_host_33 rfl rfl rfl rfl rfl rfl ?_
    refine g_ireturn dX5_host_36 rfl rfl (by decide) ?_
    exact ⟨rfl, rfl, (by unfold k_host; (repeat' split) <;> first | rfl | omega | contradiction)⟩
def k_refusal (r : Int) : Nat := if r = -1 then 1 else 0
set_option maxRecDepth 100000 in
theorem mX5_refusal {l : Launch} {G : ux_G} {h : ux_H} {r : Int} (hk : xgi h 176 8 = iI r) (rr : -1 ≤ r ∧ r ≤ 100) : ux_M l G yX5_refusal iX5_refusal 3 1 [.ref 176] h (fun v h' => v = some (.int (iI r)) ∧ h' = h ∧ k_refusal r = 0) (fun E h' => h' = h ∧ xc (k_refusal r) ["java/util/NoSuchElementException"] E) := by
  refine ux_ent (L' := [some (.ref 176)]) kX5_refusal rfl rfl rfl rfl ?_
  refine g_aload_n dX5_refusal_0 rfl ?_
  refine g_geti fX5_54 dX5_refusal_1 rfl rfl ?_
  refine g_top hk ?_
  refine g_iconst (v := (-1)) dX5_refusal_4 (by decide) ?_
  refine g_icmp_ne (tgt := 19) dX5_refusal_5 (by decide) (fun c5 => ?_) (fun c5 => ?_)
  · rw [xqm (by omega) (by omega)] at c5
    refine g_aload_n dX5_refusal_19 rfl ?_
    refine g_geti fX5_54 dX5_refusal_20 rfl rfl ?_
    refine g_top hk ?_
    refine g_ireturn dX5_refusal_23 rfl rfl (by decide) ?_
    exact ⟨rfl, rfl, (by unfold k_refusal; (repeat' split) <;> first | rfl | omega | contradiction)⟩
  · rw [xqm (by omega) (by omega)] at c5
    refine g_throwNW tX5_306_224 dX5_refusal_8 dX5_refusal_11 dX5_refusal_12 dX5_refusal_15 dX5_refusal_18 rfl rfl (by decide) ?_
    exact ⟨rfl, xc_mk (k := 1) (by unfold k_refusal; (repeat' split) <;> first | rfl | omega | contradiction) (by decide) rfl⟩
def k_errorPosition (r : Int) : Nat := if r = -1 then 1 else 0
set_option maxRecDepth 100000 in
theorem mX5_errorPosition {l : Launch} {G : ux_G} {h : ux_H} {r : Int} (hk : xgi h 176 9 = iI r) (rr : -1 ≤ r ∧ r ≤ 100) : ux_M l G yX5_errorPosition iX5_errorPosition 3 1 [.ref 176] h (fun v h' => v = some (.int (iI r)) ∧ h' = h ∧ k_errorPosition r = 0) (fun E h' => h' = h ∧ xc (k_errorPosition r) ["java/util/NoSuchElementException"] E) := by
  refine ux_ent (L' := [some (.ref 176)]) kX5_errorPosition rfl rfl rfl rfl ?_
  refine g_aload_n dX5_errorPosition_0 rfl ?_
  refine g_geti fX5_58 dX5_errorPosition_1 rfl rfl ?_
  refine g_top hk ?_
  refine g_iconst (v := (-1)) dX5_errorPosition_4 (by decide) ?_
  refine g_icmp_ne (tgt := 19) dX5_errorPosition_5 (by decide) (fun c5 => ?_) (fun c5 => ?_)
  · rw [xqm (by omega) (by omega)] at c5
    refine g_aload_n dX5_errorPosition_19 rfl ?_
    refine g_geti fX5_58 dX5_errorPosition_20 rfl rfl ?_
    refine g_top hk ?_
    refine g_ireturn dX5_errorPosition_23 rfl rfl (by decide) ?_
    exact ⟨rfl, rfl, (by unfold k_errorPosition; (repeat' split) <;> first | rfl | omega | contradiction)⟩
  · rw [xqm (by omega) (by omega)] at c5
    refine g_throwNW tX5_386_224 dX5_errorPosition_8 dX5_errorPosition_11 dX5_errorPosition_12 dX5_errorPosition_15 dX5_errorPosition_18 rfl rfl (by decide) ?_
    exact ⟨rfl, xc_mk (k := 1) (by unfold k_errorPosition; (repeat' split) <;> first | rfl | omega | contradiction) (by decide) rfl⟩
def k_spread (A : Ab) : Nat := if A.1 = 0 then 1 else 0
def s_shr (A : Ab) (t : Nat) : Int := s_share A t (aF A 4 t)
theorem s_ext_lt {A : Ab} (b : Bool) (h : 0 < A.1) : s_ext A b A.1 < A.1 := by
  rcases s_ext_r A b A.1 with q | q <;> omega
set_option maxRecDepth 100000 in
theorem mX5_spread {l : Launch} {G : ux_G} {h : ux_H} {A : Ab} {P : Nat} (hC : rC 0 A h) (hI : Inv P A) (hJ : InvF A) : ux_M l G yX5_spread iX5_spread 6 2 [.ref 176] h (fun v h' => v = some (.int (iI (s_shr A (s_ext A true A.1) - s_shr A (s_ext A false A.1)))) ∧ h' = h ∧ k_spread A = 0) (fun E h' => h' = h ∧ xc (k_spread A) ["java/util/NoSuchElementException"] E) := by
  refine ux_ent (L' := [some (.ref 176)]) kX5_spread rfl rfl rfl rfl ?_
  obtain ⟨i1, i2, i3, i4, i5, i6⟩ := id hI
  refine g_aload_n dX5_spread_0 rfl ?_
  refine q_V (u' := 1) lX5_311 kX5_needTeachers (mX5_needTeachers hC (by omega)) dX5_spread_1 rfl rfl rfl rfl rfl rfl rfl rfl (fun v h1 hq => ?_) (fun E hx q => g_out rfl (by decide) (by obtain ⟨rfl, rfl, q3⟩ := q; exact ⟨rfl, xc_mk (k := 1) (by unfold k_spread; (repeat' split) <;> first | rfl | omega | contradiction) (by decide) rfl⟩))
  obtain ⟨rfl, eh1, hq1⟩ := hq
  rw [eh1]
  dsimp only [Option.toList, List.cons_append, List.nil_append]
  refine g_aload_n dX5_spread_4 rfl ?_
  refine g_getr (q := 0) fX5_10 dX5_spread_5 rfl rfl rfl ?_
  refine g_aload_n dX5_spread_8 rfl ?_
  refine g_getr (q := 0) fX5_10 dX5_spread_9 rfl rfl rfl ?_
  refine g_iconst (v := 1) dX5_spread_12 (by decide) ?_
  refine f1_VN (u' := 1) lX5_314 kX4_extremeTeacher (mX4_extremeTeacher (b := true) hC hI (by omega)) dX5_spread_13 rfl rfl rfl rfl rfl rfl rfl rfl ?_
  refine f1_VN (u' := 1) lX5_204 kX4_shareOf (mX4_shareOf hC hI (s_ext_lt true (by omega))) dX5_spread_16 rfl rfl rfl rfl rfl rfl rfl rfl ?_
  refine g_aload_n dX5_spread_19 rfl ?_
  refine g_getr (q := 0) fX5_10 dX5_spread_20 rfl rfl rfl ?_
  refine g_aload_n dX5_spread_23 rfl ?_
  refine g_getr (q := 0) fX5_10 dX5_spread_24 rfl rfl rfl ?_
  refine g_iconst (v := 0) dX5_spread_27 (by decide) ?_
  refine f1_VN (u' := 1) lX5_314 kX4_extremeTeacher (mX4_extremeTeacher (b := false) hC hI (by omega)) dX5_spread_28 rfl rfl rfl rfl rfl rfl rfl rfl ?_
  refine f1_VN (u' := 1) lX5_204 kX4_shareOf (mX4_shareOf hC hI (s_ext_lt false (by omega))) dX5_spread_31 rfl rfl rfl rfl rfl rfl rfl rfl ?_
  refine g_isub dX5_spread_34 ?_
  refine g_top (iI_sub _ _) ?_
  refine g_ireturn dX5_spread_35 rfl rfl (by decide) ?_
  exact ⟨rfl, rfl, (by unfold k_spread; (repeat' split) <;> first | rfl | omega | contradiction)⟩
set_option maxRecDepth 100000 in
theorem mX5_extreme {l : Launch} {G : ux_G} {h : ux_H} {b : Bool} {A : Ab} {P : Nat} (hC : rC 0 A h) (hI : Inv P A) (hJ : InvF A) : ux_M l G yX5_extreme iX5_extreme 5 2 [.ref 176, .int (if b then 1 else 0)] h (fun v h' => v = some (.int (nI (s_ext A b A.1))) ∧ h' = h ∧ k_spread A = 0) (fun E h' => h' = h ∧ xc (k_spread A) ["java/util/NoSuchElementException"] E) := by
  refine ux_ent (L' := [some (.ref 176), some (.int (if b then 1 else 0))]) kX5_extreme rfl rfl rfl rfl ?_
  obtain ⟨i1, i2, i3, i4, i5, i6⟩ := id hI
  refine g_aload_n dX5_extreme_0 rfl ?_
  refine q_V (u' := 1) lX5_311 kX5_needTeachers (mX5_needTeachers hC (by omega)) dX5_extreme_1 rfl rfl rfl rfl rfl rfl rfl rfl (fun v h1 hq => ?_) (fun E hx q => g_out rfl (by decide) (by obtain ⟨rfl, rfl, q3⟩ := q; exact ⟨rfl, xc_mk (k := 1) (by unfold k_spread; (repeat' split) <;> first | rfl | omega | contradiction) (by decide) rfl⟩))
  obtain ⟨rfl, eh1, hq1⟩ := hq
  rw [eh1]
  dsimp only [Option.toList, List.cons_append, List.nil_append]
  refine g_aload_n dX5_extreme_4 rfl ?_
  refine g_getr (q := 0) fX5_10 dX5_extreme_5 rfl rfl rfl ?_
  refine g_iload_n dX5_extreme_8 rfl ?_
  refine f1_VN (u' := 1) lX5_314 kX4_extremeTeacher (mX4_extremeTeacher (b := b) hC hI (by omega)) dX5_extreme_9 rfl rfl rfl rfl rfl rfl rfl rfl ?_
  refine g_ireturn dX5_extreme_12 rfl rfl (by decide) ?_
  exact ⟨rfl, rfl, (by unfold k_spread; (repeat' split) <;> first | rfl | omega | contradiction)⟩
def k_lost (a : Int) : Nat := if ¬ (0 ≤ a ∧ a < 6) then 1 else 0
set_option maxRecDepth 100000 in
theorem mX5_lost {l : Launch} {G : ux_G} {h : ux_H} {a : Int} {A : Ab} {P : Nat} (hC : rC 0 A h) (hI : Inv P A) (hJ : InvF A) (ra : -2147483648 ≤ a ∧ a ≤ 2147483647) : ux_M l G yX5_lost iX5_lost 5 2 [.ref 176, .int (iI a)] h (fun v h' => v = some (.int (nI (s_cnt (fun j => decide (aF A 9 j = (a.toNat : Int)) && (decide (s_st A j = 3) || decide (s_st A j = 2))) A.2.1))) ∧ h' = h ∧ k_lost a = 0) (fun E h' => h' = h ∧ xc (k_lost a) ["java/lang/IndexOutOfBoundsException"] E) := by
  refine ux_ent (L' := [some (.ref 176), some (.int (iI a))]) kX5_lost rfl rfl rfl rfl ?_
  obtain ⟨i1, i2, i3, i4, i5, i6⟩ := id hI
  refine g_iload_n dX5_lost_0 rfl ?_
  refine g_bipush (v := 6) dX5_lost_1 (by decide) ?_
  refine q_S (u' := 1) lX5_104 kX5_needIndex (mX5_needIndex) dX5_lost_3 rfl rfl rfl rfl rfl rfl (fun v h3 hq => ?_) (fun E hx q => g_out rfl (by decide) (by obtain ⟨rfl, rfl, q3⟩ := q; have q3 := (not_congr (x_ix (a := a) (n := 6) (by decide) ra (by decide))).mp q3; exact ⟨rfl, xc_mk (k := 1) (by unfold k_lost; (repeat' split) <;> first | rfl | omega | contradiction) (by decide) rfl⟩))
  obtain ⟨rfl, eh3, hq3⟩ := hq
  rw [eh3]
  have hq3 := (x_ix (a := a) (n := 6) (by decide) ra (by decide)).mp hq3
  have hta : a.toNat < 6 := by omega
  rw [iI_get (a := a) (by omega) (by omega)]
  dsimp only [Option.toList, List.cons_append, List.nil_append]
  refine g_aload_n dX5_lost_6 rfl ?_
  refine g_getr (q := 0) fX5_10 dX5_lost_7 rfl rfl rfl ?_
  refine g_iload_n dX5_lost_10 rfl ?_
  refine f1_VN (u' := 1) lX5_359 kX4_lostLessons (mX4_lostLessons hC hI hJ hta) dX5_lost_11 rfl rfl rfl rfl rfl rfl rfl rfl ?_
  refine g_ireturn dX5_lost_14 rfl rfl (by decide) ?_
  exact ⟨rfl, rfl, (by unfold k_lost; (repeat' split) <;> first | rfl | omega | contradiction)⟩
theorem s_anew_r (A : Ab) (t n : Nat) : 0 ≤ s_anew A t n ∧ s_anew A t n ≤ 8 * n := by
  induction n with
  | zero => exact ⟨Int.le_refl _, Int.le_refl _⟩
  | succ n ih =>
    have w := s_worth_r A n t
    unfold s_anew
    repeat' split
    all_goals omega
set_option maxRecDepth 100000 in
theorem wX5_audit {l : Launch} {G : ux_G} {h : ux_H} {A : Ab} {P : Nat} (hC : rC 0 A h) (hI : Inv P A) (hJ : InvF A) : ∀ (n : Nat) (j : Nat), j ≤ A.1 → A.1 - j < n → ux_W l G iX5_audit (ux_rm 6 0) (ux_Z G 0 (fun vv h' => vv = some (.int (nI (s_cnt (fun t => decide (aF A 4 t ≠ s_anew A t A.2.1)) A.1))) ∧ h' = h) (fun _ _ => False)) 4 [some (.ref 176), some (.int (nI (s_cnt (fun t => decide (aF A 4 t ≠ s_anew A t A.2.1)) j))), some (.int (nI j))] [] (h) 0 := by
  intro n
  induction n with
  | zero => intro j hj hn; exact absurd hn (Nat.not_lt_zero _)
  | succ n ih =>
    intro j hj hn
    obtain ⟨i1, i2, i3, i4, i5, i6⟩ := id hI
    have cl := s_cnt_le (fun t => decide (aF A 4 t ≠ s_anew A t A.2.1)) j
    refine g_iload_n dX5_audit_4 rfl ?_
    refine g_aload_n dX5_audit_5 rfl ?_
    refine g_getr (q := 0) fX5_10 dX5_audit_6 rfl rfl rfl ?_
    refine g_geti fX5_74 dX5_audit_9 rfl rfl ?_
    refine g_top hC.1 ?_
    refine g_icmp_ge (tgt := 46) dX5_audit_12 (by decide) (fun c12 => ?_) (fun c12 => ?_)
    · have e : j = A.1 := by have := xlt_i c12 (by omega) (by omega); omega
      subst e
      refine g_iload_n dX5_audit_46 rfl ?_
      refine g_ireturn dX5_audit_47 rfl rfl (by decide) ?_
      exact ⟨rfl, rfl⟩
    · have hlt : j < A.1 := xnl_i c12 (by omega) (by omega)
      have ar := s_anew_r A j A.2.1
      have tl := i4 j hlt
      refine g_aload_n dX5_audit_15 rfl ?_
      refine g_getr (q := 0) fX5_10 dX5_audit_16 rfl rfl rfl ?_
      refine g_getr (q := 4) fX5_201 dX5_audit_19 rfl rfl rfl ?_
      refine g_iload_n dX5_audit_22 rfl ?_
      refine f1_S (u' := 0) lX5_173 kX5_at (mA_t (f := 4) hC i1 (by assumption) rfl) dX5_audit_23 rfl rfl rfl rfl rfl rfl ?_
      refine g_aload_n dX5_audit_26 rfl ?_
      refine g_getr (q := 0) fX5_10 dX5_audit_27 rfl rfl rfl ?_
      refine g_iload_n dX5_audit_30 rfl ?_
      refine f1_VN (u' := 0) lX5_356 kX4_pointsFoundAnew (mX4_pointsFoundAnew hC hI hJ hlt) dX5_audit_31 rfl rfl rfl rfl rfl rfl rfl rfl ?_
      refine g_icmp_eq (tgt := 40) dX5_audit_34 (by decide) (fun c34 => ?_) (fun c34 => ?_)
      · rw [iI_eq (by omega) (by omega) (by omega) (by omega)] at c34
        refine s_inc (v := nI (j + 1)) dX5_audit_40 rfl nI_s rfl rfl rfl ?_
        dsimp only [List.set]
        refine g_goto (tgt := 4) dX5_audit_43 (by decide) ?_
        rw [s_cnt_f (P := fun t => decide (aF A 4 t ≠ s_anew A t A.2.1)) (n := j) (by simp [c34])]
        exact ih (j + 1) (by omega) (by omega)
      · rw [iI_eq (by omega) (by omega) (by omega) (by omega)] at c34
        refine s_inc (v := nI (s_cnt (fun t => decide (aF A 4 t ≠ s_anew A t A.2.1)) j + 1)) dX5_audit_37 rfl nI_s rfl rfl rfl ?_
        dsimp only [List.set]
        refine s_inc (v := nI (j + 1)) dX5_audit_40 rfl nI_s rfl rfl rfl ?_
        dsimp only [List.set]
        refine g_goto (tgt := 4) dX5_audit_43 (by decide) ?_
        rw [s_cnt_t (P := fun t => decide (aF A 4 t ≠ s_anew A t A.2.1)) (n := j) (by simp [c34])]
        exact ih (j + 1) (by omega) (by omega)
set_option maxRecDepth 100000 in
theorem mX5_audit {l : Launch} {G : ux_G} {h : ux_H} {A : Ab} {P : Nat} (hC : rC 0 A h) (hI : Inv P A) (hJ : InvF A) : ux_F l G yX5_audit iX5_audit 6 0 [.ref 176] h (some (.int (nI (s_cnt (fun t => decide (aF A 4 t ≠ s_anew A t A.2.1)) A.1)))) (h) := by
  unfold ux_F
  refine ux_ent (L' := [some (.ref 176), none, none]) kX5_audit rfl rfl rfl rfl ?_
  refine g_iconst (v := 0) dX5_audit_0 (by decide) ?_
  refine s_i (i := 1) dX5_audit_1 rfl rfl rfl rfl ?_
  dsimp only [List.set]
  refine g_iconst (v := 0) dX5_audit_2 (by decide) ?_
  refine s_i (i := 2) dX5_audit_3 rfl rfl rfl rfl ?_
  dsimp only [List.set]
  exact wX5_audit (l := l) (G := G) hC hI hJ (A.1 + 1) 0 (Nat.zero_le _) (by omega)
