/-! THE CLASS: public calls that change nothing. -/
def r_count (A : Ab) (w : Int) : Int := if w = 0 then A.1 else if w = 1 then A.2.1 else if w = 6 then aF A 0 2 else if w = 7 then aF A 0 3 else s_cnt (fun j => decide (s_st A j = w - 2)) A.2.1
def k_count (w : Int) : Nat := if 0 ≤ w ∧ w ≤ 7 then 0 else 1
set_option maxRecDepth 100000 in
theorem mX5_count {l : Launch} {G : ux_G} {h : ux_H} {w : Int} {A : Ab} {P : Nat} (hC : rC 0 A h) (hI : Inv P A) (hJ : InvF A) (rw : -2147483648 ≤ w ∧ w ≤ 2147483647) : ux_M l G yX5_count iX5_count 5 1 [.ref 176, .int (iI w)] h (fun v h' => v = some (.int (iI (r_count A w))) ∧ h' = h ∧ k_count w = 0) (fun E h' => h' = h ∧ xc (k_count w) ["java/lang/IllegalArgumentException"] E) := by
  refine ux_ent (L' := [some (.ref 176), some (.int (iI w))]) kX5_count rfl rfl rfl rfl ?_
  obtain ⟨i1, i2, i3, i4, i5, i6⟩ := id hI
  refine g_iload_n dX5_count_0 rfl ?_
  rcases Decidable.em (0 ≤ w ∧ w ≤ 7) with qsw | qsw
  · obtain qv | qv | qv | qv | qv | qv | qv | qv : w = 0 ∨ w = 1 ∨ w = 2 ∨ w = 3 ∨ w = 4 ∨ w = 5 ∨ w = 6 ∨ w = 7 := by omega
    · rw [qv]
      refine g_tableIn (off := 47) (tgt := 48) dX5_count_1 (by decide) (by decide) rfl (by decide) ?_
      refine g_aload_n dX5_count_48 rfl ?_
      refine g_getr (q := 0) fX5_10 dX5_count_49 rfl rfl rfl ?_
      refine g_geti fX5_74 dX5_count_52 rfl rfl ?_
      refine g_top hC.1 ?_
      refine g_ireturn dX5_count_55 rfl rfl (by decide) ?_
      exact ⟨by first | rfl | (rw [nI_iI]; rfl), rfl, by decide⟩
    · rw [qv]
      refine g_tableIn (off := 55) (tgt := 56) dX5_count_1 (by decide) (by decide) rfl (by decide) ?_
      refine g_aload_n dX5_count_56 rfl ?_
      refine g_getr (q := 0) fX5_10 dX5_count_57 rfl rfl rfl ?_
      refine g_geti fX5_61 dX5_count_60 rfl rfl ?_
      refine g_top hC.2.1 ?_
      refine g_ireturn dX5_count_63 rfl rfl (by decide) ?_
      exact ⟨by first | rfl | (rw [nI_iI]; rfl), rfl, by decide⟩
    · rw [qv]
      refine g_tableIn (off := 63) (tgt := 64) dX5_count_1 (by decide) (by decide) rfl (by decide) ?_
      refine g_aload_n dX5_count_64 rfl ?_
      refine g_getr (q := 0) fX5_10 dX5_count_65 rfl rfl rfl ?_
      refine g_iconst (v := 0) dX5_count_68 (by decide) ?_
      refine f1_VN (u' := 0) lX5_158 kX4_lessonsIn (mX4_lessonsIn (t := 0) hC hI hJ (by decide)) dX5_count_69 rfl rfl rfl rfl rfl rfl rfl rfl ?_
      refine g_ireturn dX5_count_72 rfl rfl (by decide) ?_
      exact ⟨by first | rfl | (rw [nI_iI]; rfl), rfl, by decide⟩
    · rw [qv]
      refine g_tableIn (off := 72) (tgt := 73) dX5_count_1 (by decide) (by decide) rfl (by decide) ?_
      refine g_aload_n dX5_count_73 rfl ?_
      refine g_getr (q := 0) fX5_10 dX5_count_74 rfl rfl rfl ?_
      refine g_iconst (v := 1) dX5_count_77 (by decide) ?_
      refine f1_VN (u' := 0) lX5_158 kX4_lessonsIn (mX4_lessonsIn (t := 1) hC hI hJ (by decide)) dX5_count_78 rfl rfl rfl rfl rfl rfl rfl rfl ?_
      refine g_ireturn dX5_count_81 rfl rfl (by decide) ?_
      exact ⟨by first | rfl | (rw [nI_iI]; rfl), rfl, by decide⟩
    · rw [qv]
      refine g_tableIn (off := 81) (tgt := 82) dX5_count_1 (by decide) (by decide) rfl (by decide) ?_
      refine g_aload_n dX5_count_82 rfl ?_
      refine g_getr (q := 0) fX5_10 dX5_count_83 rfl rfl rfl ?_
      refine g_iconst (v := 2) dX5_count_86 (by decide) ?_
      refine f1_VN (u' := 0) lX5_158 kX4_lessonsIn (mX4_lessonsIn (t := 2) hC hI hJ (by decide)) dX5_count_87 rfl rfl rfl rfl rfl rfl rfl rfl ?_
      refine g_ireturn dX5_count_90 rfl rfl (by decide) ?_
      exact ⟨by first | rfl | (rw [nI_iI]; rfl), rfl, by decide⟩
    · rw [qv]
      refine g_tableIn (off := 90) (tgt := 91) dX5_count_1 (by decide) (by decide) rfl (by decide) ?_
      refine g_aload_n dX5_count_91 rfl ?_
      refine g_getr (q := 0) fX5_10 dX5_count_92 rfl rfl rfl ?_
      refine g_iconst (v := 3) dX5_count_95 (by decide) ?_
      refine f1_VN (u' := 0) lX5_158 kX4_lessonsIn (mX4_lessonsIn (t := 3) hC hI hJ (by decide)) dX5_count_96 rfl rfl rfl rfl rfl rfl rfl rfl ?_
      refine g_ireturn dX5_count_99 rfl rfl (by decide) ?_
      exact ⟨by first | rfl | (rw [nI_iI]; rfl), rfl, by decide⟩
    · rw [qv]
      refine g_tableIn (off := 99) (tgt := 100) dX5_count_1 (by decide) (by decide) rfl (by decide) ?_
      refine g_aload_n dX5_count_100 rfl ?_
      refine g_getr (q := 0) fX5_10 dX5_count_101 rfl rfl rfl ?_
      refine g_geti fX5_162 dX5_count_104 rfl rfl ?_
      refine g_top (rC_0 hC (Or.inl rfl)) ?_
      refine g_ireturn dX5_count_107 rfl rfl (by decide) ?_
      exact ⟨by first | rfl | (rw [nI_iI]; rfl), rfl, by decide⟩
    · rw [qv]
      refine g_tableIn (off := 107) (tgt := 108) dX5_count_1 (by decide) (by decide) rfl (by decide) ?_
      refine g_aload_n dX5_count_108 rfl ?_
      refine g_getr (q := 0) fX5_10 dX5_count_109 rfl rfl rfl ?_
      refine g_geti fX5_165 dX5_count_112 rfl rfl ?_
      refine g_top (rC_0 hC (Or.inr rfl)) ?_
      refine g_ireturn dX5_count_115 rfl rfl (by decide) ?_
      exact ⟨by first | rfl | (rw [nI_iI]; rfl), rfl, by decide⟩
  · refine g_tableOut (tgt := 116) dX5_count_1 (by rw [iI_t rw.1 rw.2]; omega) (by decide) ?_
    refine g_throw tX5_168_133 dX5_count_116 dX5_count_119 dX5_count_120 dX5_count_122 dX5_count_125 rfl rfl (by decide) ?_
    exact ⟨rfl, xc_mk (k := 1) (by unfold k_count; (repeat' split) <;> first | rfl | omega | contradiction) (by decide) rfl⟩
def r_lesson (A : Ab) (i : Nat) (w : Int) : Int := if w = 5 then s_st A i else if w = 6 then s_act A i else if w = 7 then s_load A i else aF A (8 + w.toNat) i
def k_lesson (A : Ab) (a w : Int) : Nat := if ¬ (0 ≤ a ∧ a < A.2.1) then 1 else if ¬ (0 ≤ w ∧ w ≤ 7) then 2 else 0
set_option maxRecDepth 100000 in
theorem mX5_lesson {l : Launch} {G : ux_G} {h : ux_H} {a w : Int} {A : Ab} {P : Nat} (hC : rC 0 A h) (hI : Inv P A) (hJ : InvF A) (ra : -2147483648 ≤ a ∧ a ≤ 2147483647) (rw : -2147483648 ≤ w ∧ w ≤ 2147483647) : ux_M l G yX5_lesson iX5_lesson 6 2 [.ref 176, .int (iI a), .int (iI w)] h (fun v h' => v = some (.int (iI (r_lesson A a.toNat w))) ∧ h' = h ∧ k_lesson A a w = 0) (fun E h' => h' = h ∧ xc (k_lesson A a w) ["java/lang/IndexOutOfBoundsException", "java/lang/IllegalArgumentException"] E) := by
  refine ux_ent (L' := [some (.ref 176), some (.int (iI a)), some (.int (iI w))]) kX5_lesson rfl rfl rfl rfl ?_
  obtain ⟨i1, i2, i3, i4, i5, i6⟩ := id hI
  refine g_aload_n dX5_lesson_0 rfl ?_
  refine g_iload_n dX5_lesson_1 rfl ?_
  refine q_V (u' := 1) lX5_144 kX5_needLesson (mX5_needLesson hC (by omega) (by omega) (by omega)) dX5_lesson_2 rfl rfl rfl rfl rfl rfl rfl rfl (fun v h2 hq => ?_) (fun E hx q => g_out rfl (by decide) (by obtain ⟨rfl, rfl, q3⟩ := q; exact ⟨rfl, xc_mk (k := 1) (by unfold k_lesson; (repeat' split) <;> first | rfl | omega | contradiction) (by decide) rfl⟩))
  obtain ⟨rfl, eh2, hq2⟩ := hq
  rw [eh2]
  have hta : a.toNat < A.2.1 := by omega
  rw [iI_get (a := a) (by omega) (by omega)]
  dsimp only [Option.toList, List.cons_append, List.nil_append]
  refine g_iload_n dX5_lesson_5 rfl ?_
  rcases Decidable.em (0 ≤ w ∧ w ≤ 7) with qsw | qsw
  · obtain qv | qv | qv | qv | qv | qv | qv | qv : w = 0 ∨ w = 1 ∨ w = 2 ∨ w = 3 ∨ w = 4 ∨ w = 5 ∨ w = 6 ∨ w = 7 := by omega
    · rw [qv]
      refine g_tableIn (off := 46) (tgt := 52) dX5_lesson_6 (by decide) (by decide) rfl (by decide) ?_
      refine g_aload_n dX5_lesson_52 rfl ?_
      refine g_getr (q := 0) fX5_10 dX5_lesson_53 rfl rfl rfl ?_
      refine g_getr (q := 8) fX5_170 dX5_lesson_56 rfl rfl rfl ?_
      refine g_iload_n dX5_lesson_59 rfl ?_
      refine f1_S (u' := 1) lX5_173 kX5_at (mA_l (f := 8) hC i2 (by assumption) rfl) dX5_lesson_60 rfl rfl rfl rfl rfl rfl ?_
      refine g_ireturn dX5_lesson_63 rfl rfl (by decide) ?_
      exact ⟨rfl, rfl, (by unfold k_lesson; (repeat' split) <;> first | rfl | omega | contradiction)⟩
    · rw [qv]
      refine g_tableIn (off := 58) (tgt := 64) dX5_lesson_6 (by decide) (by decide) rfl (by decide) ?_
      refine g_aload_n dX5_lesson_64 rfl ?_
      refine g_getr (q := 0) fX5_10 dX5_lesson_65 rfl rfl rfl ?_
      refine g_getr (q := 9) fX5_177 dX5_lesson_68 rfl rfl rfl ?_
      refine g_iload_n dX5_lesson_71 rfl ?_
      refine f1_S (u' := 1) lX5_173 kX5_at (mA_l (f := 9) hC i2 (by assumption) rfl) dX5_lesson_72 rfl rfl rfl rfl rfl rfl ?_
      refine g_ireturn dX5_lesson_75 rfl rfl (by decide) ?_
      exact ⟨rfl, rfl, (by unfold k_lesson; (repeat' split) <;> first | rfl | omega | contradiction)⟩
    · rw [qv]
      refine g_tableIn (off := 70) (tgt := 76) dX5_lesson_6 (by decide) (by decide) rfl (by decide) ?_
      refine g_aload_n dX5_lesson_76 rfl ?_
      refine g_getr (q := 0) fX5_10 dX5_lesson_77 rfl rfl rfl ?_
      refine g_getr (q := 10) fX5_180 dX5_lesson_80 rfl rfl rfl ?_
      refine g_iload_n dX5_lesson_83 rfl ?_
      refine f1_S (u' := 1) lX5_173 kX5_at (mA_l (f := 10) hC i2 (by assumption) rfl) dX5_lesson_84 rfl rfl rfl rfl rfl rfl ?_
      refine g_ireturn dX5_lesson_87 rfl rfl (by decide) ?_
      exact ⟨rfl, rfl, (by unfold k_lesson; (repeat' split) <;> first | rfl | omega | contradiction)⟩
    · rw [qv]
      refine g_tableIn (off := 82) (tgt := 88) dX5_lesson_6 (by decide) (by decide) rfl (by decide) ?_
      refine g_aload_n dX5_lesson_88 rfl ?_
      refine g_getr (q := 0) fX5_10 dX5_lesson_89 rfl rfl rfl ?_
      refine g_getr (q := 11) fX5_183 dX5_lesson_92 rfl rfl rfl ?_
      refine g_iload_n dX5_lesson_95 rfl ?_
      refine f1_S (u' := 1) lX5_173 kX5_at (mA_l (f := 11) hC i2 (by assumption) rfl) dX5_lesson_96 rfl rfl rfl rfl rfl rfl ?_
      refine g_ireturn dX5_lesson_99 rfl rfl (by decide) ?_
      exact ⟨rfl, rfl, (by unfold k_lesson; (repeat' split) <;> first | rfl | omega | contradiction)⟩
    · rw [qv]
      refine g_tableIn (off := 94) (tgt := 100) dX5_lesson_6 (by decide) (by decide) rfl (by decide) ?_
      refine g_aload_n dX5_lesson_100 rfl ?_
      refine g_getr (q := 0) fX5_10 dX5_lesson_101 rfl rfl rfl ?_
      refine g_getr (q := 12) fX5_155 dX5_lesson_104 rfl rfl rfl ?_
      refine g_iload_n dX5_lesson_107 rfl ?_
      refine f1_S (u' := 1) lX5_173 kX5_at (mA_l (f := 12) hC i2 (by assumption) rfl) dX5_lesson_108 rfl rfl rfl rfl rfl rfl ?_
      refine g_ireturn dX5_lesson_111 rfl rfl (by decide) ?_
      exact ⟨rfl, rfl, (by unfold k_lesson; (repeat' split) <;> first | rfl | omega | contradiction)⟩
    · rw [qv]
      refine g_tableIn (off := 106) (tgt := 112) dX5_lesson_6 (by decide) (by decide) rfl (by decide) ?_
      refine g_aload_n dX5_lesson_112 rfl ?_
      refine g_getr (q := 0) fX5_10 dX5_lesson_113 rfl rfl rfl ?_
      refine g_iload_n dX5_lesson_116 rfl ?_
      refine f1_VN (u' := 1) lX5_186 kX4_stateOf (mX4_stateOf hC hI (InvS_of hI hJ) (by assumption)) dX5_lesson_117 rfl rfl rfl rfl rfl rfl rfl rfl ?_
      refine g_ireturn dX5_lesson_120 rfl rfl (by decide) ?_
      exact ⟨rfl, rfl, (by unfold k_lesson; (repeat' split) <;> first | rfl | omega | contradiction)⟩
    · rw [qv]
      refine g_tableIn (off := 115) (tgt := 121) dX5_lesson_6 (by decide) (by decide) rfl (by decide) ?_
      refine g_aload_n dX5_lesson_121 rfl ?_
      refine g_getr (q := 0) fX5_10 dX5_lesson_122 rfl rfl rfl ?_
      refine g_iload_n dX5_lesson_125 rfl ?_
      refine f1_VN (u' := 1) lX5_189 kX4_actingOf (mX4_actingOf hC hI (by assumption)) dX5_lesson_126 rfl rfl rfl rfl rfl rfl rfl rfl ?_
      refine g_ireturn dX5_lesson_129 rfl rfl (by decide) ?_
      exact ⟨rfl, rfl, (by unfold k_lesson; (repeat' split) <;> first | rfl | omega | contradiction)⟩
    · rw [qv]
      refine g_tableIn (off := 124) (tgt := 130) dX5_lesson_6 (by decide) (by decide) rfl (by decide) ?_
      refine g_aload_n dX5_lesson_130 rfl ?_
      refine g_getr (q := 0) fX5_10 dX5_lesson_131 rfl rfl rfl ?_
      refine g_iload_n dX5_lesson_134 rfl ?_
      refine f1_VN (u' := 1) lX5_192 kX4_loadOf (mX4_loadOf hC hI (by assumption)) dX5_lesson_135 rfl rfl rfl rfl rfl rfl rfl rfl ?_
      refine g_ireturn dX5_lesson_138 rfl rfl (by decide) ?_
      exact ⟨rfl, rfl, (by unfold k_lesson; (repeat' split) <;> first | rfl | omega | contradiction)⟩
  · refine g_tableOut (tgt := 139) dX5_lesson_6 (by rw [iI_t rw.1 rw.2]; omega) (by decide) ?_
    refine g_throw tX5_168_133 dX5_lesson_139 dX5_lesson_142 dX5_lesson_143 dX5_lesson_145 dX5_lesson_148 rfl rfl (by decide) ?_
    exact ⟨rfl, xc_mk (k := 2) (by unfold k_lesson; (repeat' split) <;> first | rfl | omega | contradiction) (by decide) rfl⟩
def r_teacher (A : Ab) (t : Nat) (w : Int) : Int := if w = 4 then s_share A t (aF A 4 t) else if w = 5 then s_cnt (fun j => decide (aF A 11 j = (t : Int))) A.2.1 else if w = 6 then s_cnt (fun j => decide (aF A 13 j = (t : Int))) A.2.1 else if w = 7 then s_cnt (fun j => decide (aF A 11 j = (t : Int)) && decide (s_st A j ≠ 0)) A.2.1 else aF A (1 + w.toNat) t
def k_teacher (A : Ab) (a w : Int) : Nat := if ¬ (0 ≤ a ∧ a < A.1) then 1 else if ¬ (0 ≤ w ∧ w ≤ 7) then 2 else 0
set_option maxRecDepth 100000 in
theorem mX5_teacher {l : Launch} {G : ux_G} {h : ux_H} {a w : Int} {A : Ab} {P : Nat} (hC : rC 0 A h) (hI : Inv P A) (hJ : InvF A) (ra : -2147483648 ≤ a ∧ a ≤ 2147483647) (rw : -2147483648 ≤ w ∧ w ≤ 2147483647) : ux_M l G yX5_teacher iX5_teacher 6 2 [.ref 176, .int (iI a), .int (iI w)] h (fun v h' => v = some (.int (iI (r_teacher A a.toNat w))) ∧ h' = h ∧ k_teacher A a w = 0) (fun E h' => h' = h ∧ xc (k_teacher A a w) ["java/lang/IndexOutOfBoundsException", "java/lang/IllegalArgumentException"] E) := by
  refine ux_ent (L' := [some (.ref 176), some (.int (iI a)), some (.int (iI w))]) kX5_teacher rfl rfl rfl rfl ?_
  obtain ⟨i1, i2, i3, i4, i5, i6⟩ := id hI
  refine g_aload_n dX5_teacher_0 rfl ?_
  refine g_iload_n dX5_teacher_1 rfl ?_
  refine q_V (u' := 1) lX5_92 kX5_needTeacher (mX5_needTeacher hC (by omega) (by omega) (by omega)) dX5_teacher_2 rfl rfl rfl rfl rfl rfl rfl rfl (fun v h2 hq => ?_) (fun E hx q => g_out rfl (by decide) (by obtain ⟨rfl, rfl, q3⟩ := q; exact ⟨rfl, xc_mk (k := 1) (by unfold k_teacher; (repeat' split) <;> first | rfl | omega | contradiction) (by decide) rfl⟩))
  obtain ⟨rfl, eh2, hq2⟩ := hq
  rw [eh2]
  have hta : a.toNat < A.1 := by omega
  rw [iI_get (a := a) (by omega) (by omega)]
  dsimp only [Option.toList, List.cons_append, List.nil_append]
  refine g_iload_n dX5_teacher_5 rfl ?_
  rcases Decidable.em (0 ≤ w ∧ w ≤ 7) with qsw | qsw
  · obtain qv | qv | qv | qv | qv | qv | qv | qv : w = 0 ∨ w = 1 ∨ w = 2 ∨ w = 3 ∨ w = 4 ∨ w = 5 ∨ w = 6 ∨ w = 7 := by omega
    · rw [qv]
      refine g_tableIn (off := 46) (tgt := 52) dX5_teacher_6 (by decide) (by decide) rfl (by decide) ?_
      refine g_aload_n dX5_teacher_52 rfl ?_
      refine g_getr (q := 0) fX5_10 dX5_teacher_53 rfl rfl rfl ?_
      refine g_getr (q := 1) fX5_195 dX5_teacher_56 rfl rfl rfl ?_
      refine g_iload_n dX5_teacher_59 rfl ?_
      refine f1_S (u' := 1) lX5_173 kX5_at (mA_t (f := 1) hC i1 (by assumption) rfl) dX5_teacher_60 rfl rfl rfl rfl rfl rfl ?_
      refine g_ireturn dX5_teacher_63 rfl rfl (by decide) ?_
      exact ⟨by first | rfl | (rw [nI_iI]; rfl), rfl, (by unfold k_teacher; (repeat' split) <;> first | rfl | omega | contradiction)⟩
    · rw [qv]
      refine g_tableIn (off := 58) (tgt := 64) dX5_teacher_6 (by decide) (by decide) rfl (by decide) ?_
      refine g_aload_n dX5_teacher_64 rfl ?_
      refine g_getr (q := 0) fX5_10 dX5_teacher_65 rfl rfl rfl ?_
      refine g_getr (q := 2) fX5_198 dX5_teacher_68 rfl rfl rfl ?_
      refine g_iload_n dX5_teacher_71 rfl ?_
      refine f1_S (u' := 1) lX5_173 kX5_at (mA_t (f := 2) hC i1 (by assumption) rfl) dX5_teacher_72 rfl rfl rfl rfl rfl rfl ?_
      refine g_ireturn dX5_teacher_75 rfl rfl (by decide) ?_
      exact ⟨by first | rfl | (rw [nI_iI]; rfl), rfl, (by unfold k_teacher; (repeat' split) <;> first | rfl | omega | contradiction)⟩
    · rw [qv]
      refine g_tableIn (off := 70) (tgt := 76) dX5_teacher_6 (by decide) (by decide) rfl (by decide) ?_
      refine g_aload_n dX5_teacher_76 rfl ?_
      refine g_getr (q := 0) fX5_10 dX5_teacher_77 rfl rfl rfl ?_
      refine g_getr (q := 3) fX5_96 dX5_teacher_80 rfl rfl rfl ?_
      refine g_iload_n dX5_teacher_83 rfl ?_
      refine f1_S (u' := 1) lX5_173 kX5_at (mA_t (f := 3) hC i1 (by assumption) rfl) dX5_teacher_84 rfl rfl rfl rfl rfl rfl ?_
      refine g_ireturn dX5_teacher_87 rfl rfl (by decide) ?_
      exact ⟨by first | rfl | (rw [nI_iI]; rfl), rfl, (by unfold k_teacher; (repeat' split) <;> first | rfl | omega | contradiction)⟩
    · rw [qv]
      refine g_tableIn (off := 82) (tgt := 88) dX5_teacher_6 (by decide) (by decide) rfl (by decide) ?_
      refine g_aload_n dX5_teacher_88 rfl ?_
      refine g_getr (q := 0) fX5_10 dX5_teacher_89 rfl rfl rfl ?_
      refine g_getr (q := 4) fX5_201 dX5_teacher_92 rfl rfl rfl ?_
      refine g_iload_n dX5_teacher_95 rfl ?_
      refine f1_S (u' := 1) lX5_173 kX5_at (mA_t (f := 4) hC i1 (by assumption) rfl) dX5_teacher_96 rfl rfl rfl rfl rfl rfl ?_
      refine g_ireturn dX5_teacher_99 rfl rfl (by decide) ?_
      exact ⟨by first | rfl | (rw [nI_iI]; rfl), rfl, (by unfold k_teacher; (repeat' split) <;> first | rfl | omega | contradiction)⟩
    · rw [qv]
      refine g_tableIn (off := 94) (tgt := 100) dX5_teacher_6 (by decide) (by decide) rfl (by decide) ?_
      refine g_aload_n dX5_teacher_100 rfl ?_
      refine g_getr (q := 0) fX5_10 dX5_teacher_101 rfl rfl rfl ?_
      refine g_iload_n dX5_teacher_104 rfl ?_
      refine f1_VN (u' := 1) lX5_204 kX4_shareOf (mX4_shareOf hC hI (by assumption)) dX5_teacher_105 rfl rfl rfl rfl rfl rfl rfl rfl ?_
      refine g_ireturn dX5_teacher_108 rfl rfl (by decide) ?_
      exact ⟨by first | rfl | (rw [nI_iI]; rfl), rfl, (by unfold k_teacher; (repeat' split) <;> first | rfl | omega | contradiction)⟩
    · rw [qv]
      refine g_tableIn (off := 103) (tgt := 109) dX5_teacher_6 (by decide) (by decide) rfl (by decide) ?_
      refine g_aload_n dX5_teacher_109 rfl ?_
      refine g_getr (q := 0) fX5_10 dX5_teacher_110 rfl rfl rfl ?_
      refine g_iload_n dX5_teacher_113 rfl ?_
      refine f1_VN (u' := 1) lX5_207 kX4_ownLessons (mX4_ownLessons hC hI (by assumption)) dX5_teacher_114 rfl rfl rfl rfl rfl rfl rfl rfl ?_
      refine g_ireturn dX5_teacher_117 rfl rfl (by decide) ?_
      exact ⟨by first | rfl | (rw [nI_iI]; rfl), rfl, (by unfold k_teacher; (repeat' split) <;> first | rfl | omega | contradiction)⟩
    · rw [qv]
      refine g_tableIn (off := 112) (tgt := 118) dX5_teacher_6 (by decide) (by decide) rfl (by decide) ?_
      refine g_aload_n dX5_teacher_118 rfl ?_
      refine g_getr (q := 0) fX5_10 dX5_teacher_119 rfl rfl rfl ?_
      refine g_iload_n dX5_teacher_122 rfl ?_
      refine f1_VN (u' := 1) lX5_210 kX4_coversOf (mX4_coversOf hC hI (by assumption)) dX5_teacher_123 rfl rfl rfl rfl rfl rfl rfl rfl ?_
      refine g_ireturn dX5_teacher_126 rfl rfl (by decide) ?_
      exact ⟨by first | rfl | (rw [nI_iI]; rfl), rfl, (by unfold k_teacher; (repeat' split) <;> first | rfl | omega | contradiction)⟩
    · rw [qv]
      refine g_tableIn (off := 121) (tgt := 127) dX5_teacher_6 (by decide) (by decide) rfl (by decide) ?_
      refine g_aload_n dX5_teacher_127 rfl ?_
      refine g_getr (q := 0) fX5_10 dX5_teacher_128 rfl rfl rfl ?_
      refine g_iload_n dX5_teacher_131 rfl ?_
      refine f1_VN (u' := 1) lX5_213 kX4_untaughtLessons (mX4_untaughtLessons hC hI hJ (by assumption)) dX5_teacher_132 rfl rfl rfl rfl rfl rfl rfl rfl ?_
      refine g_ireturn dX5_teacher_135 rfl rfl (by decide) ?_
      exact ⟨by first | rfl | (rw [nI_iI]; rfl), rfl, (by unfold k_teacher; (repeat' split) <;> first | rfl | omega | contradiction)⟩
  · refine g_tableOut (tgt := 136) dX5_teacher_6 (by rw [iI_t rw.1 rw.2]; omega) (by decide) ?_
    refine g_throw tX5_168_133 dX5_teacher_136 dX5_teacher_139 dX5_teacher_140 dX5_teacher_142 dX5_teacher_145 rfl rfl (by decide) ?_
    exact ⟨rfl, xc_mk (k := 2) (by unfold k_teacher; (repeat' split) <;> first | rfl | omega | contradiction) (by decide) rfl⟩
def k_lessonOf (A : Ab) (a b : Int) : Nat := if ¬ (0 ≤ a ∧ a < 30) ∨ ¬ (0 ≤ b ∧ b < 6) then 1 else if s_find A 9 a b = -1 then 2 else 0
set_option maxRecDepth 100000 in
theorem mX5_lessonOf {l : Launch} {G : ux_G} {h : ux_H} {a b : Int} {A : Ab} {P : Nat} (hC : rC 0 A h) (hI : Inv P A) (hJ : InvF A) (ra : -2147483648 ≤ a ∧ a ≤ 2147483647) (rb : -2147483648 ≤ b ∧ b ≤ 2147483647) : ux_M l G yX5_lessonOf iX5_lessonOf 4 3 [.ref 176, .int (iI a), .int (iI b)] h (fun v h' => v = some (.int (iI (s_find A 9 a b))) ∧ h' = h ∧ k_lessonOf A a b = 0) (fun E h' => h' = h ∧ xc (k_lessonOf A a b) ["java/lang/IndexOutOfBoundsException", "java/util/NoSuchElementException"] E) := by
  refine ux_ent (L' := [some (.ref 176), some (.int (iI a)), some (.int (iI b)), none]) kX5_lessonOf rfl rfl rfl rfl ?_
  obtain ⟨i1, i2, i3, i4, i5, i6⟩ := id hI
  refine g_iload_n dX5_lessonOf_0 rfl ?_
  refine g_bipush (v := 30) dX5_lessonOf_1 (by decide) ?_
  refine q_S (u' := 1) lX5_104 kX5_needIndex (mX5_needIndex) dX5_lessonOf_3 rfl rfl rfl rfl rfl rfl (fun v h3 hq => ?_) (fun E hx q => g_out rfl (by decide) (by obtain ⟨rfl, rfl, q3⟩ := q; have q3 := (not_congr (x_ix (a := a) (n := 30) (by decide) ra (by decide))).mp q3; exact ⟨rfl, xc_mk (k := 1) (by unfold k_lessonOf; (repeat' split) <;> first | rfl | omega | contradiction) (by decide) rfl⟩))
  obtain ⟨rfl, eh3, hq3⟩ := hq
  rw [eh3]
  have hq3 := (x_ix (a := a) (n := 30) (by decide) ra (by decide)).mp hq3
  dsimp only [Option.toList, List.cons_append, List.nil_append]
  refine g_iload_n dX5_lessonOf_6 rfl ?_
  refine g_bipush (v := 6) dX5_lessonOf_7 (by decide) ?_
  refine q_S (u' := 2) lX5_104 kX5_needIndex (mX5_needIndex) dX5_lessonOf_9 rfl rfl rfl rfl rfl rfl (fun v h9 hq => ?_) (fun E hx q => g_out rfl (by decide) (by obtain ⟨rfl, rfl, q3⟩ := q; have q3 := (not_congr (x_ix (a := b) (n := 6) (by decide) rb (by decide))).mp q3; exact ⟨rfl, xc_mk (k := 1) (by unfold k_lessonOf; (repeat' split) <;> first | rfl | omega | contradiction) (by decide) rfl⟩))
  obtain ⟨rfl, eh9, hq9⟩ := hq
  rw [eh9]
  have hq9 := (x_ix (a := b) (n := 6) (by decide) rb (by decide)).mp hq9
  dsimp only [Option.toList, List.cons_append, List.nil_append]
  refine g_aload_n dX5_lessonOf_12 rfl ?_
  refine g_getr (q := 0) fX5_10 dX5_lessonOf_13 rfl rfl rfl ?_
  refine g_iload_n dX5_lessonOf_16 rfl ?_
  refine g_aload_n dX5_lessonOf_17 rfl ?_
  refine g_getr (q := 0) fX5_10 dX5_lessonOf_18 rfl rfl rfl ?_
  refine g_getr (q := 9) fX5_177 dX5_lessonOf_21 rfl rfl rfl ?_
  refine g_iload_n dX5_lessonOf_24 rfl ?_
  refine f1_VN (u' := 2) lX5_216 kX4_lessonIn (mX4_lessonIn (f := 9) hC hI rfl (by omega) (by omega) (fun i hi => by have := i6 i hi; omega)) dX5_lessonOf_25 rfl rfl rfl rfl rfl rfl rfl rfl ?_
  refine s_i (i := 3) dX5_lessonOf_28 rfl rfl rfl rfl ?_
  dsimp only [List.set]
  refine g_iload_n dX5_lessonOf_29 rfl ?_
  refine g_iconst (v := (-1)) dX5_lessonOf_30 (by decide) ?_
  refine g_icmp_ne (tgt := 44) dX5_lessonOf_31 (by decide) (fun c31 => ?_) (fun c31 => ?_)
  · have fr := s_find_r hI 9 a b
    rw [xqm (by omega) (by omega)] at c31
    refine g_iload_n dX5_lessonOf_44 rfl ?_
    refine g_ireturn dX5_lessonOf_45 rfl rfl (by decide) ?_
    exact ⟨rfl, rfl, (by unfold k_lessonOf; (repeat' split) <;> first | rfl | omega | contradiction)⟩
  · have fr := s_find_r hI 9 a b
    rw [xqm (by omega) (by omega)] at c31
    refine g_throwN tX5_222_224 dX5_lessonOf_34 dX5_lessonOf_37 dX5_lessonOf_38 dX5_lessonOf_40 dX5_lessonOf_43 rfl rfl (by decide) ?_
    exact ⟨rfl, xc_mk (k := 2) (by unfold k_lessonOf; (repeat' split) <;> first | rfl | omega | contradiction) (by decide) rfl⟩
def k_absent (A : Ab) (a b : Int) : Nat := if ¬ (0 ≤ a ∧ a < A.1) ∨ ¬ (0 ≤ b ∧ b < 5) then 1 else 0
set_option maxRecDepth 100000 in
theorem mX5_absent {l : Launch} {G : ux_G} {h : ux_H} {a b : Int} {A : Ab} {P : Nat} (hC : rC 0 A h) (hI : Inv P A) (hJ : InvF A) (ra : -2147483648 ≤ a ∧ a ≤ 2147483647) (rb : -2147483648 ≤ b ∧ b ≤ 2147483647) : ux_M l G yX5_absent iX5_absent 4 3 [.ref 176, .int (iI a), .int (iI b)] h (fun v h' => v = some (.int (iI (aF A 5 a.toNat) >>> ((iI b * 6) &&& 31) &&& 63)) ∧ h' = h ∧ k_absent A a b = 0) (fun E h' => h' = h ∧ xc (k_absent A a b) ["java/lang/IndexOutOfBoundsException"] E) := by
  refine ux_ent (L' := [some (.ref 176), some (.int (iI a)), some (.int (iI b))]) kX5_absent rfl rfl rfl rfl ?_
  obtain ⟨i1, i2, i3, i4, i5, i6⟩ := id hI
  refine g_aload_n dX5_absent_0 rfl ?_
  refine g_iload_n dX5_absent_1 rfl ?_
  refine q_V (u' := 1) lX5_92 kX5_needTeacher (mX5_needTeacher hC (by omega) (by omega) (by omega)) dX5_absent_2 rfl rfl rfl rfl rfl rfl rfl rfl (fun v h2 hq => ?_) (fun E hx q => g_out rfl (by decide) (by obtain ⟨rfl, rfl, q3⟩ := q; exact ⟨rfl, xc_mk (k := 1) (by unfold k_absent; (repeat' split) <;> first | rfl | omega | contradiction) (by decide) rfl⟩))
  obtain ⟨rfl, eh2, hq2⟩ := hq
  rw [eh2]
  have hta : a.toNat < A.1 := by omega
  rw [iI_get (a := a) (by omega) (by omega)]
  dsimp only [Option.toList, List.cons_append, List.nil_append]
  refine g_iload_n dX5_absent_5 rfl ?_
  refine g_iconst (v := 5) dX5_absent_6 (by decide) ?_
  refine q_S (u' := 2) lX5_104 kX5_needIndex (mX5_needIndex) dX5_absent_7 rfl rfl rfl rfl rfl rfl (fun v h7 hq => ?_) (fun E hx q => g_out rfl (by decide) (by obtain ⟨rfl, rfl, q3⟩ := q; have q3 := (not_congr (x_ix (a := b) (n := 5) (by decide) rb (by decide))).mp q3; exact ⟨rfl, xc_mk (k := 1) (by unfold k_absent; (repeat' split) <;> first | rfl | omega | contradiction) (by decide) rfl⟩))
  obtain ⟨rfl, eh7, hq7⟩ := hq
  rw [eh7]
  have hq7 := (x_ix (a := b) (n := 5) (by decide) rb (by decide)).mp hq7
  dsimp only [Option.toList, List.cons_append, List.nil_append]
  refine g_aload_n dX5_absent_10 rfl ?_
  refine g_getr (q := 0) fX5_10 dX5_absent_11 rfl rfl rfl ?_
  refine g_iload_n dX5_absent_14 rfl ?_
  refine g_iload_n dX5_absent_15 rfl ?_
  refine f1_VN (u' := 2) lX5_233 kX4_absentPeriods (mX4_absentPeriods hC hI hta) dX5_absent_16 rfl rfl rfl rfl rfl rfl rfl rfl ?_
  refine g_ireturn dX5_absent_19 rfl rfl (by decide) ?_
  exact ⟨rfl, rfl, (by unfold k_absent; (repeat' split) <;> first | rfl | omega | contradiction)⟩
def k_free (A : Ab) (a b : Int) : Nat := if ¬ (0 ≤ a ∧ a < A.1) ∨ ¬ (0 ≤ b ∧ b < 5) then 1 else 0
set_option maxRecDepth 100000 in
theorem mX5_free {l : Launch} {G : ux_G} {h : ux_H} {a b : Int} {A : Ab} {P : Nat} (hC : rC 0 A h) (hI : Inv P A) (hJ : InvF A) (ra : -2147483648 ≤ a ∧ a ≤ 2147483647) (rb : -2147483648 ≤ b ∧ b ≤ 2147483647) : ux_M l G yX5_free iX5_free 6 3 [.ref 176, .int (iI a), .int (iI b)] h (fun v h' => v = some (.int (s_mask (fun p => s_free A a.toNat ((6 * b.toNat + p : Nat) : Int)) 6)) ∧ h' = h ∧ k_free A a b = 0) (fun E h' => h' = h ∧ xc (k_free A a b) ["java/lang/IndexOutOfBoundsException"] E) := by
  refine ux_ent (L' := [some (.ref 176), some (.int (iI a)), some (.int (iI b))]) kX5_free rfl rfl rfl rfl ?_
  obtain ⟨i1, i2, i3, i4, i5, i6⟩ := id hI
  refine g_aload_n dX5_free_0 rfl ?_
  refine g_iload_n dX5_free_1 rfl ?_
  refine q_V (u' := 1) lX5_92 kX5_needTeacher (mX5_needTeacher hC (by omega) (by omega) (by omega)) dX5_free_2 rfl rfl rfl rfl rfl rfl rfl rfl (fun v h2 hq => ?_) (fun E hx q => g_out rfl (by decide) (by obtain ⟨rfl, rfl, q3⟩ := q; exact ⟨rfl, xc_mk (k := 1) (by unfold k_free; (repeat' split) <;> first | rfl | omega | contradiction) (by decide) rfl⟩))
  obtain ⟨rfl, eh2, hq2⟩ := hq
  rw [eh2]
  have hta : a.toNat < A.1 := by omega
  rw [iI_get (a := a) (by omega) (by omega)]
  dsimp only [Option.toList, List.cons_append, List.nil_append]
  refine g_iload_n dX5_free_5 rfl ?_
  refine g_iconst (v := 5) dX5_free_6 (by decide) ?_
  refine q_S (u' := 2) lX5_104 kX5_needIndex (mX5_needIndex) dX5_free_7 rfl rfl rfl rfl rfl rfl (fun v h7 hq => ?_) (fun E hx q => g_out rfl (by decide) (by obtain ⟨rfl, rfl, q3⟩ := q; have q3 := (not_congr (x_ix (a := b) (n := 5) (by decide) rb (by decide))).mp q3; exact ⟨rfl, xc_mk (k := 1) (by unfold k_free; (repeat' split) <;> first | rfl | omega | contradiction) (by decide) rfl⟩))
  obtain ⟨rfl, eh7, hq7⟩ := hq
  rw [eh7]
  have hq7 := (x_ix (a := b) (n := 5) (by decide) rb (by decide)).mp hq7
  have htb : b.toNat < 5 := by omega
  rw [iI_get (a := b) (by omega) (by omega)]
  dsimp only [Option.toList, List.cons_append, List.nil_append]
  refine g_aload_n dX5_free_10 rfl ?_
  refine g_getr (q := 0) fX5_10 dX5_free_11 rfl rfl rfl ?_
  refine g_iload_n dX5_free_14 rfl ?_
  refine g_iload_n dX5_free_15 rfl ?_
  refine f1_VN (u' := 2) lX5_236 kX4_freePeriods (mX4_freePeriods hC hI hta htb) dX5_free_16 rfl rfl rfl rfl rfl rfl rfl rfl ?_
  refine g_ireturn dX5_free_19 rfl rfl (by decide) ?_
  exact ⟨rfl, rfl, (by unfold k_free; (repeat' split) <;> first | rfl | omega | contradiction)⟩
def k_freeRooms (a : Int) : Nat := if ¬ (0 ≤ a ∧ a < 30) then 1 else 0
set_option maxRecDepth 100000 in
theorem mX5_freeRooms {l : Launch} {G : ux_G} {h : ux_H} {a : Int} {A : Ab} {P : Nat} (hC : rC 0 A h) (hI : Inv P A) (hJ : InvF A) (ra : -2147483648 ≤ a ∧ a ≤ 2147483647) : ux_M l G yX5_freeRooms iX5_freeRooms 4 2 [.ref 176, .int (iI a)] h (fun v h' => v = some (.int (s_mask (fun c => decide (s_find A 12 a c = -1)) 6)) ∧ h' = h ∧ k_freeRooms a = 0) (fun E h' => h' = h ∧ xc (k_freeRooms a) ["java/lang/IndexOutOfBoundsException"] E) := by
  refine ux_ent (L' := [some (.ref 176), some (.int (iI a))]) kX5_freeRooms rfl rfl rfl rfl ?_
  obtain ⟨i1, i2, i3, i4, i5, i6⟩ := id hI
  refine g_iload_n dX5_freeRooms_0 rfl ?_
  refine g_bipush (v := 30) dX5_freeRooms_1 (by decide) ?_
  refine q_S (u' := 1) lX5_104 kX5_needIndex (mX5_needIndex) dX5_freeRooms_3 rfl rfl rfl rfl rfl rfl (fun v h3 hq => ?_) (fun E hx q => g_out rfl (by decide) (by obtain ⟨rfl, rfl, q3⟩ := q; have q3 := (not_congr (x_ix (a := a) (n := 30) (by decide) ra (by decide))).mp q3; exact ⟨rfl, xc_mk (k := 1) (by unfold k_freeRooms; (repeat' split) <;> first | rfl | omega | contradiction) (by decide) rfl⟩))
  obtain ⟨rfl, eh3, hq3⟩ := hq
  rw [eh3]
  have hq3 := (x_ix (a := a) (n := 30) (by decide) ra (by decide)).mp hq3
  dsimp only [Option.toList, List.cons_append, List.nil_append]
  refine g_aload_n dX5_freeRooms_6 rfl ?_
  refine g_getr (q := 0) fX5_10 dX5_freeRooms_7 rfl rfl rfl ?_
  refine g_iload_n dX5_freeRooms_10 rfl ?_
  refine f1_VN (u' := 1) lX5_239 kX4_roomsFreeIn (mX4_roomsFreeIn hC hI (by omega)) dX5_freeRooms_11 rfl rfl rfl rfl rfl rfl rfl rfl ?_
  refine g_ireturn dX5_freeRooms_14 rfl rfl (by decide) ?_
  exact ⟨rfl, rfl, (by unfold k_freeRooms; (repeat' split) <;> first | rfl | omega | contradiction)⟩
def k_openOn (a : Int) : Nat := if ¬ (0 ≤ a ∧ a < 5) then 1 else 0
set_option maxRecDepth 100000 in
theorem mX5_openOn {l : Launch} {G : ux_G} {h : ux_H} {a : Int} {A : Ab} {P : Nat} (hC : rC 0 A h) (hI : Inv P A) (hJ : InvF A) (ra : -2147483648 ≤ a ∧ a ≤ 2147483647) : ux_M l G yX5_openOn iX5_openOn 5 2 [.ref 176, .int (iI a)] h (fun v h' => v = some (.int (nI (s_cnt (fun j => decide (aF A 8 j / 6 = (a.toNat : Int)) && decide (s_st A j = 3)) A.2.1))) ∧ h' = h ∧ k_openOn a = 0) (fun E h' => h' = h ∧ xc (k_openOn a) ["java/lang/IndexOutOfBoundsException"] E) := by
  refine ux_ent (L' := [some (.ref 176), some (.int (iI a))]) kX5_openOn rfl rfl rfl rfl ?_
  obtain ⟨i1, i2, i3, i4, i5, i6⟩ := id hI
  refine g_iload_n dX5_openOn_0 rfl ?_
  refine g_iconst (v := 5) dX5_openOn_1 (by decide) ?_
  refine q_S (u' := 1) lX5_104 kX5_needIndex (mX5_needIndex) dX5_openOn_2 rfl rfl rfl rfl rfl rfl (fun v h2 hq => ?_) (fun E hx q => g_out rfl (by decide) (by obtain ⟨rfl, rfl, q3⟩ := q; have q3 := (not_congr (x_ix (a := a) (n := 5) (by decide) ra (by decide))).mp q3; exact ⟨rfl, xc_mk (k := 1) (by unfold k_openOn; (repeat' split) <;> first | rfl | omega | contradiction) (by decide) rfl⟩))
  obtain ⟨rfl, eh2, hq2⟩ := hq
  rw [eh2]
  have hq2 := (x_ix (a := a) (n := 5) (by decide) ra (by decide)).mp hq2
  have hta : a.toNat < 5 := by omega
  rw [iI_get (a := a) (by omega) (by omega)]
  dsimp only [Option.toList, List.cons_append, List.nil_append]
  refine g_aload_n dX5_openOn_5 rfl ?_
  refine g_getr (q := 0) fX5_10 dX5_openOn_6 rfl rfl rfl ?_
  refine g_iload_n dX5_openOn_9 rfl ?_
  refine f1_VN (u' := 1) lX5_242 kX4_openCount (mX4_openCount hC hI hJ (by assumption)) dX5_openOn_10 rfl rfl rfl rfl rfl rfl rfl rfl ?_
  refine g_ireturn dX5_openOn_13 rfl rfl (by decide) ?_
  exact ⟨rfl, rfl, (by unfold k_openOn; (repeat' split) <;> first | rfl | omega | contradiction)⟩
theorem s_opat_r {P : Nat} {A : Ab} (hI : Inv P A) (d : Nat) (x : Int) : -1 ≤ s_opat (s_opl A d 6) x ∧ s_opat (s_opl A d 6) x < A.2.1 := by
  unfold s_opat
  split
  · cases e : (s_opl A d 6)[x.toNat]? with
    | none => exact ⟨by decide, by show (-1 : Int) < A.2.1; omega⟩
    | some j =>
      have := (s_opl_mem.mp (List.mem_of_getElem? e)).1
      exact ⟨by show (-1 : Int) ≤ (j : Int); omega, by show (j : Int) < A.2.1; omega⟩
  · exact ⟨by decide, by omega⟩
def k_open (A : Ab) (a b : Int) : Nat := if ¬ (0 ≤ a ∧ a < 5) then 1 else if s_opat (s_opl A a.toNat 6) b = -1 then 2 else 0
set_option maxRecDepth 100000 in
theorem mX5_open {l : Launch} {G : ux_G} {h : ux_H} {a b : Int} {A : Ab} {P : Nat} (hC : rC 0 A h) (hI : Inv P A) (hJ : InvF A) (ra : -2147483648 ≤ a ∧ a ≤ 2147483647) (rb : -2147483648 ≤ b ∧ b ≤ 2147483647) : ux_M l G yX5_open iX5_open 6 3 [.ref 176, .int (iI a), .int (iI b)] h (fun v h' => v = some (.int (iI (s_opat (s_opl A a.toNat 6) b))) ∧ h' = h ∧ k_open A a b = 0) (fun E h' => h' = h ∧ xc (k_open A a b) ["java/lang/IndexOutOfBoundsException", "java/util/NoSuchElementException"] E) := by
  refine ux_ent (L' := [some (.ref 176), some (.int (iI a)), some (.int (iI b)), none]) kX5_open rfl rfl rfl rfl ?_
  obtain ⟨i1, i2, i3, i4, i5, i6⟩ := id hI
  refine g_iload_n dX5_open_0 rfl ?_
  refine g_iconst (v := 5) dX5_open_1 (by decide) ?_
  refine q_S (u' := 1) lX5_104 kX5_needIndex (mX5_needIndex) dX5_open_2 rfl rfl rfl rfl rfl rfl (fun v h2 hq => ?_) (fun E hx q => g_out rfl (by decide) (by obtain ⟨rfl, rfl, q3⟩ := q; have q3 := (not_congr (x_ix (a := a) (n := 5) (by decide) ra (by decide))).mp q3; exact ⟨rfl, xc_mk (k := 1) (by unfold k_open; (repeat' split) <;> first | rfl | omega | contradiction) (by decide) rfl⟩))
  obtain ⟨rfl, eh2, hq2⟩ := hq
  rw [eh2]
  have hq2 := (x_ix (a := a) (n := 5) (by decide) ra (by decide)).mp hq2
  have hta : a.toNat < 5 := by omega
  rw [iI_get (a := a) (by omega) (by omega)]
  dsimp only [Option.toList, List.cons_append, List.nil_append]
  refine g_aload_n dX5_open_5 rfl ?_
  refine g_getr (q := 0) fX5_10 dX5_open_6 rfl rfl rfl ?_
  refine g_iload_n dX5_open_9 rfl ?_
  refine g_iload_n dX5_open_10 rfl ?_
  refine f1_VN (u' := 1) lX5_245 kX4_openAt (mX4_openAt hC hI hJ hta rb) dX5_open_11 rfl rfl rfl rfl rfl rfl rfl rfl ?_
  refine s_i (i := 3) dX5_open_14 rfl rfl rfl rfl ?_
  dsimp only [List.set]
  refine g_iload_n dX5_open_15 rfl ?_
  refine g_iconst (v := (-1)) dX5_open_16 (by decide) ?_
  refine g_icmp_ne (tgt := 30) dX5_open_17 (by decide) (fun c17 => ?_) (fun c17 => ?_)
  · have fr := s_opat_r hI a.toNat b
    rw [xqm (by omega) (by omega)] at c17
    refine g_iload_n dX5_open_30 rfl ?_
    refine g_ireturn dX5_open_31 rfl rfl (by decide) ?_
    exact ⟨rfl, rfl, (by unfold k_open; (repeat' split) <;> first | rfl | omega | contradiction)⟩
  · have fr := s_opat_r hI a.toNat b
    rw [xqm (by omega) (by omega)] at c17
    refine g_throwN tX5_248_224 dX5_open_20 dX5_open_23 dX5_open_24 dX5_open_26 dX5_open_29 rfl rfl (by decide) ?_
    exact ⟨rfl, xc_mk (k := 2) (by unfold k_open; (repeat' split) <;> first | rfl | omega | contradiction) (by decide) rfl⟩
def k_why (A : Ab) (a b : Int) : Nat := if ¬ (0 ≤ a ∧ a < A.2.1) ∨ ¬ (0 ≤ b ∧ b < A.1) then 1 else if s_st A a.toNat ≠ 3 then 2 else 0
set_option maxRecDepth 100000 in
theorem mX5_why {l : Launch} {G : ux_G} {h : ux_H} {a b : Int} {A : Ab} {P : Nat} (hC : rC 0 A h) (hI : Inv P A) (hJ : InvF A) (ra : -2147483648 ≤ a ∧ a ≤ 2147483647) (rb : -2147483648 ≤ b ∧ b ≤ 2147483647) : ux_M l G yX5_why iX5_why 6 4 [.ref 176, .int (iI a), .int (iI b)] h (fun v h' => v = some (.int (iI (s_bar A a.toNat b.toNat))) ∧ h' = h ∧ k_why A a b = 0) (fun E h' => h' = h ∧ xc (k_why A a b) ["java/lang/IndexOutOfBoundsException", "java/lang/IllegalStateException"] E) := by
  refine ux_ent (L' := [some (.ref 176), some (.int (iI a)), some (.int (iI b))]) kX5_why rfl rfl rfl rfl ?_
  obtain ⟨i1, i2, i3, i4, i5, i6⟩ := id hI
  refine g_aload_n dX5_why_0 rfl ?_
  refine g_iload_n dX5_why_1 rfl ?_
  refine q_V (u' := 1) lX5_144 kX5_needLesson (mX5_needLesson hC (by omega) (by omega) (by omega)) dX5_why_2 rfl rfl rfl rfl rfl rfl rfl rfl (fun v h2 hq => ?_) (fun E hx q => g_out rfl (by decide) (by obtain ⟨rfl, rfl, q3⟩ := q; exact ⟨rfl, xc_mk (k := 1) (by unfold k_why; (repeat' split) <;> first | rfl | omega | contradiction) (by decide) rfl⟩))
  obtain ⟨rfl, eh2, hq2⟩ := hq
  rw [eh2]
  have hta : a.toNat < A.2.1 := by omega
  rw [iI_get (a := a) (by omega) (by omega)]
  dsimp only [Option.toList, List.cons_append, List.nil_append]
  refine g_aload_n dX5_why_5 rfl ?_
  refine g_iload_n dX5_why_6 rfl ?_
  refine q_V (u' := 2) lX5_92 kX5_needTeacher (mX5_needTeacher hC (by omega) (by omega) (by omega)) dX5_why_7 rfl rfl rfl rfl rfl rfl rfl rfl (fun v h7 hq => ?_) (fun E hx q => g_out rfl (by decide) (by obtain ⟨rfl, rfl, q3⟩ := q; exact ⟨rfl, xc_mk (k := 1) (by unfold k_why; (repeat' split) <;> first | rfl | omega | contradiction) (by decide) rfl⟩))
  obtain ⟨rfl, eh7, hq7⟩ := hq
  rw [eh7]
  have htb : b.toNat < A.1 := by omega
  rw [iI_get (a := b) (by omega) (by omega)]
  dsimp only [Option.toList, List.cons_append, List.nil_append]
  refine g_aload_n dX5_why_10 rfl ?_
  refine g_iload_n dX5_why_11 rfl ?_
  refine g_iconst (v := 3) dX5_why_12 (by decide) ?_
  refine q_V (u' := 3) lX5_250 kX5_needState (mX5_needState (s := 3) hC hI hJ (by assumption) (by decide)) dX5_why_13 rfl rfl rfl rfl rfl rfl rfl rfl (fun v h13 hq => ?_) (fun E hx q => g_out rfl (by decide) (by obtain ⟨rfl, rfl, q3⟩ := q; exact ⟨rfl, xc_mk (k := 2) (by unfold k_why; (repeat' split) <;> first | rfl | omega | contradiction) (by decide) rfl⟩))
  obtain ⟨rfl, eh13, hq13⟩ := hq
  rw [eh13]
  dsimp only [Option.toList, List.cons_append, List.nil_append]
  refine g_aload_n dX5_why_16 rfl ?_
  refine g_getr (q := 0) fX5_10 dX5_why_17 rfl rfl rfl ?_
  refine g_iload_n dX5_why_20 rfl ?_
  refine g_iload_n dX5_why_21 rfl ?_
  refine f1_VN (u' := 3) lX5_253 kX4_reasonAgainst (mX4_reasonAgainst hC hI (by assumption) (by assumption)) dX5_why_22 rfl rfl rfl rfl rfl rfl rfl rfl ?_
  refine g_ireturn dX5_why_25 rfl rfl (by decide) ?_
  exact ⟨rfl, rfl, (by unfold k_why; (repeat' split) <;> first | rfl | omega | contradiction)⟩
def k_points (A : Ab) (a b : Int) : Nat := if ¬ (0 ≤ a ∧ a < A.2.1) ∨ ¬ (0 ≤ b ∧ b < A.1) then 1 else 0
set_option maxRecDepth 100000 in
theorem mX5_points {l : Launch} {G : ux_G} {h : ux_H} {a b : Int} {A : Ab} {P : Nat} (hC : rC 0 A h) (hI : Inv P A) (hJ : InvF A) (ra : -2147483648 ≤ a ∧ a ≤ 2147483647) (rb : -2147483648 ≤ b ∧ b ≤ 2147483647) : ux_M l G yX5_points iX5_points 5 3 [.ref 176, .int (iI a), .int (iI b)] h (fun v h' => v = some (.int (iI (s_worth A a.toNat b.toNat))) ∧ h' = h ∧ k_points A a b = 0) (fun E h' => h' = h ∧ xc (k_points A a b) ["java/lang/IndexOutOfBoundsException"] E) := by
  refine ux_ent (L' := [some (.ref 176), some (.int (iI a)), some (.int (iI b))]) kX5_points rfl rfl rfl rfl ?_
  obtain ⟨i1, i2, i3, i4, i5, i6⟩ := id hI
  refine g_aload_n dX5_points_0 rfl ?_
  refine g_iload_n dX5_points_1 rfl ?_
  refine q_V (u' := 1) lX5_144 kX5_needLesson (mX5_needLesson hC (by omega) (by omega) (by omega)) dX5_points_2 rfl rfl rfl rfl rfl rfl rfl rfl (fun v h2 hq => ?_) (fun E hx q => g_out rfl (by decide) (by obtain ⟨rfl, rfl, q3⟩ := q; exact ⟨rfl, xc_mk (k := 1) (by unfold k_points; (repeat' split) <;> first | rfl | omega | contradiction) (by decide) rfl⟩))
  obtain ⟨rfl, eh2, hq2⟩ := hq
  rw [eh2]
  have hta : a.toNat < A.2.1 := by omega
  rw [iI_get (a := a) (by omega) (by omega)]
  dsimp only [Option.toList, List.cons_append, List.nil_append]
  refine g_aload_n dX5_points_5 rfl ?_
  refine g_iload_n dX5_points_6 rfl ?_
  refine q_V (u' := 2) lX5_92 kX5_needTeacher (mX5_needTeacher hC (by omega) (by omega) (by omega)) dX5_points_7 rfl rfl rfl rfl rfl rfl rfl rfl (fun v h7 hq => ?_) (fun E hx q => g_out rfl (by decide) (by obtain ⟨rfl, rfl, q3⟩ := q; exact ⟨rfl, xc_mk (k := 1) (by unfold k_points; (repeat' split) <;> first | rfl | omega | contradiction) (by decide) rfl⟩))
  obtain ⟨rfl, eh7, hq7⟩ := hq
  rw [eh7]
  have htb : b.toNat < A.1 := by omega
  rw [iI_get (a := b) (by omega) (by omega)]
  dsimp only [Option.toList, List.cons_append, List.nil_append]
  refine g_aload_n dX5_points_10 rfl ?_
  refine g_getr (q := 0) fX5_10 dX5_points_11 rfl rfl rfl ?_
  refine g_iload_n dX5_points_14 rfl ?_
  refine g_iload_n dX5_points_15 rfl ?_
  refine f1_VN (u' := 2) lX5_256 kX4_pointsFor (mX4_pointsFor hC hI (by assumption) (by assumption)) dX5_points_16 rfl rfl rfl rfl rfl rfl rfl rfl ?_
  refine g_ireturn dX5_points_19 rfl rfl (by decide) ?_
  exact ⟨rfl, rfl, (by unfold k_points; (repeat' split) <;> first | rfl | omega | contradiction)⟩
def k_suggestion (A : Ab) (a : Int) : Nat := if ¬ (0 ≤ a ∧ a < A.2.1) then 1 else if s_st A a.toNat ≠ 3 then 2 else if s_best A a.toNat A.1 = -1 then 3 else 0
set_option maxRecDepth 100000 in
theorem mX5_suggestion {l : Launch} {G : ux_G} {h : ux_H} {a : Int} {A : Ab} {P : Nat} (hC : rC 0 A h) (hI : Inv P A) (hJ : InvF A) (ra : -2147483648 ≤ a ∧ a ≤ 2147483647) : ux_M l G yX5_suggestion iX5_suggestion 8 4 [.ref 176, .int (iI a)] h (fun v h' => v = some (.int (iI (s_best A a.toNat A.1))) ∧ h' = h ∧ k_suggestion A a = 0) (fun E h' => h' = h ∧ xc (k_suggestion A a) ["java/lang/IndexOutOfBoundsException", "java/lang/IllegalStateException", "java/util/NoSuchElementException"] E) := by
  refine ux_ent (L' := [some (.ref 176), some (.int (iI a)), none]) kX5_suggestion rfl rfl rfl rfl ?_
  obtain ⟨i1, i2, i3, i4, i5, i6⟩ := id hI
  refine g_aload_n dX5_suggestion_0 rfl ?_
  refine g_iload_n dX5_suggestion_1 rfl ?_
  refine q_V (u' := 1) lX5_144 kX5_needLesson (mX5_needLesson hC (by omega) (by omega) (by omega)) dX5_suggestion_2 rfl rfl rfl rfl rfl rfl rfl rfl (fun v h2 hq => ?_) (fun E hx q => g_out rfl (by decide) (by obtain ⟨rfl, rfl, q3⟩ := q; exact ⟨rfl, xc_mk (k := 1) (by unfold k_suggestion; (repeat' split) <;> first | rfl | omega | contradiction) (by decide) rfl⟩))
  obtain ⟨rfl, eh2, hq2⟩ := hq
  rw [eh2]
  have hta : a.toNat < A.2.1 := by omega
  rw [iI_get (a := a) (by omega) (by omega)]
  dsimp only [Option.toList, List.cons_append, List.nil_append]
  refine g_aload_n dX5_suggestion_5 rfl ?_
  refine g_iload_n dX5_suggestion_6 rfl ?_
  refine g_iconst (v := 3) dX5_suggestion_7 (by decide) ?_
  refine q_V (u' := 2) lX5_250 kX5_needState (mX5_needState (s := 3) hC hI hJ (by assumption) (by decide)) dX5_suggestion_8 rfl rfl rfl rfl rfl rfl rfl rfl (fun v h8 hq => ?_) (fun E hx q => g_out rfl (by decide) (by obtain ⟨rfl, rfl, q3⟩ := q; exact ⟨rfl, xc_mk (k := 2) (by unfold k_suggestion; (repeat' split) <;> first | rfl | omega | contradiction) (by decide) rfl⟩))
  obtain ⟨rfl, eh8, hq8⟩ := hq
  rw [eh8]
  dsimp only [Option.toList, List.cons_append, List.nil_append]
  refine g_aload_n dX5_suggestion_11 rfl ?_
  refine g_getr (q := 0) fX5_10 dX5_suggestion_12 rfl rfl rfl ?_
  refine g_iload_n dX5_suggestion_15 rfl ?_
  refine f1_VN (u' := 2) lX5_259 kX4_bestFor (mX4_bestFor hC hI (by assumption)) dX5_suggestion_16 rfl rfl rfl rfl rfl rfl rfl rfl ?_
  refine s_i (i := 2) dX5_suggestion_19 rfl rfl rfl rfl ?_
  dsimp only [List.set]
  refine g_iload_n dX5_suggestion_20 rfl ?_
  refine g_iconst (v := (-1)) dX5_suggestion_21 (by decide) ?_
  refine g_icmp_ne (tgt := 36) dX5_suggestion_22 (by decide) (fun c22 => ?_) (fun c22 => ?_)
  · have fr := s_best_r A a.toNat A.1
    rw [xqm (by omega) (by omega)] at c22
    refine g_iload_n dX5_suggestion_36 rfl ?_
    refine g_ireturn dX5_suggestion_37 rfl rfl (by decide) ?_
    exact ⟨rfl, rfl, (by unfold k_suggestion; (repeat' split) <;> first | rfl | omega | contradiction)⟩
  · have fr := s_best_r A a.toNat A.1
    rw [xqm (by omega) (by omega)] at c22
    refine g_throwNW tX5_262_224 dX5_suggestion_25 dX5_suggestion_28 dX5_suggestion_29 dX5_suggestion_32 dX5_suggestion_35 rfl rfl (by decide) ?_
    exact ⟨rfl, xc_mk (k := 3) (by unfold k_suggestion; (repeat' split) <;> first | rfl | omega | contradiction) (by decide) rfl⟩
