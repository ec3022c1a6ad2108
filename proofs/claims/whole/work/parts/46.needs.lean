/-! THE CLASS: what calls need; calls that change nothing. -/
theorem x_ix {a : Int} {n : Nat} {k : Int32} (hk : k = nI n) (ra : -2147483648 ≤ a ∧ a ≤ 2147483647) (hn : n ≤ 1000) : (0 ≤ iI a ∧ iI a ≤ k - 1) ↔ (0 ≤ a ∧ a < n) := by
  rw [hk, nI_iI, iI_1, iI_sub, iI_0, iI_le (by omega) (by omega) (by omega) (by omega), iI_le (by omega) (by omega) (by omega) (by omega)]
  omega
theorem x_rg {a lo hi : Int} {k1 k2 : Int32} (h1 : k1 = iI lo) (h2 : k2 = iI hi) (ra : -2147483648 ≤ a ∧ a ≤ 2147483647) (hl : 0 ≤ lo ∧ lo ≤ 1000) (hh : 0 ≤ hi ∧ hi ≤ 1000) : (k1 ≤ iI a ∧ iI a ≤ k2) ↔ (lo ≤ a ∧ a ≤ hi) := by
  rw [h1, h2, iI_le (by omega) (by omega) (by omega) (by omega), iI_le (by omega) (by omega) (by omega) (by omega)]
/-- the exception of a code -/
def xc (k : Nat) (L : List String) (E : String) : Prop := 1 ≤ k ∧ L[k - 1]? = some E
theorem xc_mk {K k : Nat} {L : List String} {E : String} (hK : K = k) (h1 : 1 ≤ k) (h : L[k - 1]? = some E) : xc K L E := by subst hK; exact ⟨h1, h⟩
theorem x_sc_0 : x_sc 0 := ⟨by decide, by decide⟩
set_option maxRecDepth 100000 in
theorem mX5_needTeacher {l : Launch} {G : ux_G} {h : ux_H} {a : Int} {A : Ab} (hC : rC 0 A h) (i1 : A.1 ≤ 8) (i2 : A.2.1 ≤ 40) (ra : -2147483648 ≤ a ∧ a ≤ 2147483647) : ux_M l G yX5_needTeacher iX5_needTeacher 3 1 [.ref 176, .int (iI a)] h (fun v h' => v = none ∧ h' = h ∧ (0 ≤ a ∧ a < A.1)) (fun E h' => E = "java/lang/IndexOutOfBoundsException" ∧ h' = h ∧ ¬ (0 ≤ a ∧ a < A.1)) := by
  refine ux_ent (L' := [some (.ref 176), some (.int (iI a))]) kX5_needTeacher rfl rfl rfl rfl ?_
  refine g_iload_n dX5_needTeacher_0 rfl ?_
  refine g_aload_n dX5_needTeacher_1 rfl ?_
  refine g_getr (q := 0) fX5_10 dX5_needTeacher_2 rfl rfl rfl ?_
  refine g_geti fX5_74 dX5_needTeacher_5 rfl rfl ?_
  refine g_top hC.1 ?_
  refine q_S (u' := 1) lX5_104 kX5_needIndex (mX5_needIndex) dX5_needTeacher_8 rfl rfl rfl rfl rfl rfl (fun v h8 hq => ?_) (fun E hx q => g_out rfl (by decide) (by obtain ⟨rfl, rfl, q3⟩ := q; exact ⟨rfl, rfl, fun y => q3 ((x_ix rfl ra (by omega)).mpr y)⟩))
  obtain ⟨rfl, eh8, hq8⟩ := hq
  rw [eh8]
  dsimp only [Option.toList, List.cons_append, List.nil_append]
  refine g_return dX5_needTeacher_11 rfl (by decide) ?_
  exact ⟨rfl, rfl, (x_ix rfl ra (by omega)).mp hq8⟩
set_option maxRecDepth 100000 in
theorem mX5_needLesson {l : Launch} {G : ux_G} {h : ux_H} {a : Int} {A : Ab} (hC : rC 0 A h) (i1 : A.1 ≤ 8) (i2 : A.2.1 ≤ 40) (ra : -2147483648 ≤ a ∧ a ≤ 2147483647) : ux_M l G yX5_needLesson iX5_needLesson 3 1 [.ref 176, .int (iI a)] h (fun v h' => v = none ∧ h' = h ∧ (0 ≤ a ∧ a < A.2.1)) (fun E h' => E = "java/lang/IndexOutOfBoundsException" ∧ h' = h ∧ ¬ (0 ≤ a ∧ a < A.2.1)) := by
  refine ux_ent (L' := [some (.ref 176), some (.int (iI a))]) kX5_needLesson rfl rfl rfl rfl ?_
  refine g_iload_n dX5_needLesson_0 rfl ?_
  refine g_aload_n dX5_needLesson_1 rfl ?_
  refine g_getr (q := 0) fX5_10 dX5_needLesson_2 rfl rfl rfl ?_
  refine g_geti fX5_61 dX5_needLesson_5 rfl rfl ?_
  refine g_top hC.2.1 ?_
  refine q_S (u' := 1) lX5_104 kX5_needIndex (mX5_needIndex) dX5_needLesson_8 rfl rfl rfl rfl rfl rfl (fun v h8 hq => ?_) (fun E hx q => g_out rfl (by decide) (by obtain ⟨rfl, rfl, q3⟩ := q; exact ⟨rfl, rfl, fun y => q3 ((x_ix rfl ra (by omega)).mpr y)⟩))
  obtain ⟨rfl, eh8, hq8⟩ := hq
  rw [eh8]
  dsimp only [Option.toList, List.cons_append, List.nil_append]
  refine g_return dX5_needLesson_11 rfl (by decide) ?_
  exact ⟨rfl, rfl, (x_ix rfl ra (by omega)).mp hq8⟩
set_option maxRecDepth 100000 in
theorem mX5_needTeachers {l : Launch} {G : ux_G} {h : ux_H} {A : Ab} (hC : rC 0 A h) (i1 : A.1 ≤ 8) : ux_M l G yX5_needTeachers iX5_needTeachers 2 1 [.ref 176] h (fun v h' => v = none ∧ h' = h ∧ 0 < A.1) (fun E h' => E = "java/util/NoSuchElementException" ∧ h' = h ∧ A.1 = 0) := by
  refine ux_ent (L' := [some (.ref 176)]) kX5_needTeachers rfl rfl rfl rfl ?_
  refine g_aload_n dX5_needTeachers_0 rfl ?_
  refine g_getr (q := 0) fX5_10 dX5_needTeachers_1 rfl rfl rfl ?_
  refine g_geti fX5_74 dX5_needTeachers_4 rfl rfl ?_
  refine g_top hC.1 ?_
  refine g_if_ne (tgt := 21) dX5_needTeachers_7 (by decide) (fun c7 => ?_) (fun c7 => ?_)
  · have q7 : 0 < A.1 := by rcases Nat.eq_zero_or_pos A.1 with q | q; exact absurd (by rw [q]; rfl) c7; exact q
    refine g_return dX5_needTeachers_21 rfl (by decide) ?_
    exact ⟨rfl, rfl, q7⟩
  · have q7 : A.1 = 0 := by rw [nI_iI, xq0 (by omega) (by omega)] at c7; omega
    refine g_throwNW tX5_420_224 dX5_needTeachers_10 dX5_needTeachers_13 dX5_needTeachers_14 dX5_needTeachers_17 dX5_needTeachers_20 rfl rfl (by decide) ?_
    exact ⟨rfl, rfl, q7⟩
set_option maxRecDepth 100000 in
theorem mX5_needState {l : Launch} {G : ux_G} {h : ux_H} {i s : Nat} {A : Ab} {P : Nat} (hC : rC 0 A h) (hI : Inv P A) (hJ : InvF A) (hi : i < A.2.1) (hs : s < 4) : ux_M l G yX5_needState iX5_needState 4 1 [.ref 176, .int (nI i), .int (nI s)] h (fun v h' => v = none ∧ h' = h ∧ s_st A i = s) (fun E h' => E = "java/lang/IllegalStateException" ∧ h' = h ∧ s_st A i ≠ s) := by
  refine ux_ent (L' := [some (.ref 176), some (.int (nI i)), some (.int (nI s))]) kX5_needState rfl rfl rfl rfl ?_
  have sr := s_st_r A i
  refine g_aload_n dX5_needState_0 rfl ?_
  refine g_getr (q := 0) fX5_10 dX5_needState_1 rfl rfl rfl ?_
  refine g_iload_n dX5_needState_4 rfl ?_
  refine f1_VN (u' := 0) lX5_186 kX4_stateOf (mX4_stateOf hC hI (InvS_of hI hJ) (by assumption)) dX5_needState_5 rfl rfl rfl rfl rfl rfl rfl rfl ?_
  refine g_iload_n dX5_needState_8 rfl ?_
  refine g_icmp_eq (tgt := 23) dX5_needState_9 (by decide) (fun c9 => ?_) (fun c9 => ?_)
  · rw [xq (by omega) (by omega) (by omega)] at c9
    refine g_return dX5_needState_23 rfl (by decide) ?_
    exact ⟨rfl, rfl, c9⟩
  · rw [xq (by omega) (by omega) (by omega)] at c9
    refine g_throwW tX5_418_81 dX5_needState_12 dX5_needState_15 dX5_needState_16 dX5_needState_19 dX5_needState_22 rfl rfl (by decide) ?_
    exact ⟨rfl, rfl, c9⟩
