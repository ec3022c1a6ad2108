/-! THE REFERENCE: new teachers and lessons; limits, sizes, capacities, rooms: walks. -/
set_option maxRecDepth 100000 in
theorem mX6_newTeacher {l : Launch} {G : ux_G} {h : ux_H} {a b : Int} {A : Ab} {P : Nat} (hM : rM 193 0 A h) (hI : Inv P A) (ra : -2147483648 ≤ a ∧ a ≤ 2147483647) (rb : -2147483648 ≤ b ∧ b ≤ 2147483647) : ux_M l G yX6_newTeacher iX6_newTeacher 2 0 [.ref 192, .int (iI a), .int (iI b)] h (QN (k_addTeacher A a b) (nI A.1) A (s_putT A a b) h) (fun _ _ => False) := by
  refine ux_ent (L' := [some (.ref 192), some (.int (iI a)), some (.int (iI b)), none]) kX6_newTeacher rfl rfl rfl rfl ?_
  obtain ⟨i1, i2, i3, i4, i5, i6⟩ := id hI
  refine g_iload_n dX6_newTeacher_0 rfl ?_
  refine g_iconst (v := 1) dX6_newTeacher_1 (by decide) ?_
  refine g_bipush (v := 63) dX6_newTeacher_2 (by decide) ?_
  refine f1_S (u' := 0) lX6_58 kX6_in (mX6_in) dX6_newTeacher_4 rfl rfl rfl rfl rfl rfl ?_
  refine g_if_eq (tgt := 19) dX6_newTeacher_7 (by decide) (fun c7 => ?_) (fun c7 => ?_)
  · have q7 := (not_congr (x_rg (a := a) (lo := 1) (hi := 63) (by decide) (by decide) ra (by decide) (by decide))).mp (xb_0.mp c7)
    refine g_aload_n dX6_newTeacher_19 rfl ?_
    refine g_iconst (v := 1) dX6_newTeacher_20 (by decide) ?_
    refine f1_V (u' := 0) lX6_107 kX6_raises (mX6_raises) dX6_newTeacher_21 rfl rfl rfl rfl rfl rfl rfl rfl ?_
    refine g_ireturn dX6_newTeacher_24 rfl rfl (by decide) ?_
    exact qn_no (c := 1) (by unfold k_addTeacher; (repeat' split) <;> first | rfl | omega | contradiction) (by decide) hM
  · have q7 := (x_rg (a := a) (lo := 1) (hi := 63) (by decide) (by decide) ra (by decide) (by decide)).mp (xb_n0 c7)
    refine g_iload_n dX6_newTeacher_10 rfl ?_
    refine g_iconst (v := 1) dX6_newTeacher_11 (by decide) ?_
    refine g_iconst (v := 4) dX6_newTeacher_12 (by decide) ?_
    refine f1_S (u' := 0) lX6_58 kX6_in (mX6_in) dX6_newTeacher_13 rfl rfl rfl rfl rfl rfl ?_
    refine g_if_ne (tgt := 25) dX6_newTeacher_16 (by decide) (fun c16 => ?_) (fun c16 => ?_)
    · have q16 := (x_rg (a := b) (lo := 1) (hi := 4) (by decide) (by decide) rb (by decide) (by decide)).mp (xb_n0 c16)
      refine g_aload_n dX6_newTeacher_25 rfl ?_
      refine f1_V (u' := 0) lX6_62 kX6_teachers (mX6_teachers hM) dX6_newTeacher_26 rfl rfl rfl rfl rfl rfl rfl rfl ?_
      refine g_bipush (v := 8) dX6_newTeacher_29 (by decide) ?_
      refine g_icmp_ne (tgt := 40) dX6_newTeacher_31 (by decide) (fun c31 => ?_) (fun c31 => ?_)
      · have q31 : ¬ A.1 = 8 := fun y => c31 (by rw [y]; rfl)
        refine g_aload_n dX6_newTeacher_40 rfl ?_
        refine f1_V (u' := 0) lX6_62 kX6_teachers (mX6_teachers hM) dX6_newTeacher_41 rfl rfl rfl rfl rfl rfl rfl rfl ?_
        refine f1_S (u' := 0) lX6_51 kX6_teacherAt (mX6_teacherAt) dX6_newTeacher_44 rfl rfl rfl rfl rfl rfl ?_
        refine s_i (i := 3) dX6_newTeacher_47 rfl rfl rfl rfl ?_
        dsimp only [List.set]
        refine g_aload_n dX6_newTeacher_48 rfl ?_
        refine g_getr (q := 193) fX6_9 dX6_newTeacher_49 rfl rfl rfl ?_
        refine g_iload_n dX6_newTeacher_52 rfl ?_
        refine g_iload_n dX6_newTeacher_53 rfl ?_
        refine g_iast dX6_newTeacher_54 rfl (show 16 + 5 * A.1 < 376 by omega) rfl ?_
        refine g_aload_n dX6_newTeacher_55 rfl ?_
        refine g_getr (q := 193) fX6_9 dX6_newTeacher_56 rfl rfl rfl ?_
        refine g_iload_n dX6_newTeacher_59 rfl ?_
        refine g_iconst (v := 1) dX6_newTeacher_60 (by decide) ?_
        refine g_iadd dX6_newTeacher_61 ?_
        refine g_top (y := nI ((16 + 5 * A.1) + 1)) (by rw [show (1 : Int32) = nI 1 by decide, nI_add]) ?_
        refine g_iload_n dX6_newTeacher_62 rfl ?_
        refine g_iast dX6_newTeacher_63 rfl (show 16 + 5 * A.1 + 1 < 376 by omega) rfl ?_
        refine g_aload_n dX6_newTeacher_64 rfl ?_
        refine g_getr (q := 193) fX6_9 dX6_newTeacher_65 rfl rfl rfl ?_
        refine g_iload_n dX6_newTeacher_68 rfl ?_
        refine g_iconst (v := 2) dX6_newTeacher_69 (by decide) ?_
        refine g_iadd dX6_newTeacher_70 ?_
        refine g_top (y := nI ((16 + 5 * A.1) + 2)) (by rw [show (2 : Int32) = nI 2 by decide, nI_add]) ?_
        refine g_iconst (v := 2) dX6_newTeacher_71 (by decide) ?_
        refine g_iast dX6_newTeacher_72 rfl (show 16 + 5 * A.1 + 2 < 376 by omega) rfl ?_
        refine g_aload_n dX6_newTeacher_73 rfl ?_
        refine g_getr (q := 193) fX6_9 dX6_newTeacher_74 rfl rfl rfl ?_
        refine g_iload_n dX6_newTeacher_77 rfl ?_
        refine g_iconst (v := 3) dX6_newTeacher_78 (by decide) ?_
        refine g_iadd dX6_newTeacher_79 ?_
        refine g_top (y := nI ((16 + 5 * A.1) + 3)) (by rw [show (3 : Int32) = nI 3 by decide, nI_add]) ?_
        refine g_iconst (v := 0) dX6_newTeacher_80 (by decide) ?_
        refine g_iast dX6_newTeacher_81 rfl (show 16 + 5 * A.1 + 3 < 376 by omega) rfl ?_
        refine g_aload_n dX6_newTeacher_82 rfl ?_
        refine g_getr (q := 193) fX6_9 dX6_newTeacher_83 rfl rfl rfl ?_
        refine g_iload_n dX6_newTeacher_86 rfl ?_
        refine g_iconst (v := 4) dX6_newTeacher_87 (by decide) ?_
        refine g_iadd dX6_newTeacher_88 ?_
        refine g_top (y := nI ((16 + 5 * A.1) + 4)) (by rw [show (4 : Int32) = nI 4 by decide, nI_add]) ?_
        refine g_iconst (v := 0) dX6_newTeacher_89 (by decide) ?_
        refine g_iast dX6_newTeacher_90 rfl (show 16 + 5 * A.1 + 4 < 376 by omega) rfl ?_
        refine g_aload_n dX6_newTeacher_91 rfl ?_
        refine g_getr (q := 193) fX6_9 dX6_newTeacher_92 rfl rfl rfl ?_
        refine g_iconst (v := 0) dX6_newTeacher_95 (by decide) ?_
        refine g_dup2 dX6_newTeacher_96 rfl rfl ?_
        refine g_iald dX6_newTeacher_97 (j := 0) rfl (show 0 < 376 by decide) rfl ?_
        refine g_top (y := nI A.1) (by rw [xgi_ne _ _ _ _ _ _ (by omega), xgi_ne _ _ _ _ _ _ (by omega), xgi_ne _ _ _ _ _ _ (by omega), xgi_ne _ _ _ _ _ _ (by omega), xgi_ne _ _ _ _ _ _ (by omega)]; exact hM.1) ?_
        refine g_dup_x2 dX6_newTeacher_98 rfl rfl rfl ?_
        refine g_iconst (v := 1) dX6_newTeacher_99 (by decide) ?_
        refine g_iadd dX6_newTeacher_100 ?_
        refine g_top (nI_1 _) ?_
        refine g_iast dX6_newTeacher_101 (j := 0) rfl (show 0 < 376 by decide) rfl ?_
        refine g_ireturn dX6_newTeacher_102 rfl rfl (by decide) ?_
        refine qn_ok (by unfold k_addTeacher; (repeat' split) <;> first | rfl | omega | contradiction) ?_ ?_
        · exact rM_putT hM (by omega) i2 a b
        · exact fun k hk j => by unfold xsi xsv; rw [if_neg (by omega), if_neg (by omega), if_neg (by omega), if_neg (by omega), if_neg (by omega), if_neg (by omega)]
      · have q31 : A.1 = 8 := by
          rw [show (8 : Int32) = nI 8 by decide, nI_iI, nI_iI, iI_eq (by omega) (by omega) (by omega) (by omega)] at c31
          omega
        refine g_aload_n dX6_newTeacher_34 rfl ?_
        refine g_iconst (v := 2) dX6_newTeacher_35 (by decide) ?_
        refine f1_V (u' := 0) lX6_107 kX6_raises (mX6_raises) dX6_newTeacher_36 rfl rfl rfl rfl rfl rfl rfl rfl ?_
        refine g_ireturn dX6_newTeacher_39 rfl rfl (by decide) ?_
        exact qn_no (c := 2) (by unfold k_addTeacher; (repeat' split) <;> first | rfl | omega | contradiction) (by decide) hM
    · have q16 := (not_congr (x_rg (a := b) (lo := 1) (hi := 4) (by decide) (by decide) rb (by decide) (by decide))).mp (xb_0.mp c16)
      refine g_aload_n dX6_newTeacher_19 rfl ?_
      refine g_iconst (v := 1) dX6_newTeacher_20 (by decide) ?_
      refine f1_V (u' := 0) lX6_107 kX6_raises (mX6_raises) dX6_newTeacher_21 rfl rfl rfl rfl rfl rfl rfl rfl ?_
      refine g_ireturn dX6_newTeacher_24 rfl rfl (by decide) ?_
      exact qn_no (c := 1) (by unfold k_addTeacher; (repeat' split) <;> first | rfl | omega | contradiction) (by decide) hM
theorem kT {A : Ab} {a b : Int} (h : k_addTeacher A a b = 0) : A.1 < 8 := by
  unfold k_addTeacher at h
  split at h
  · cases h
  · split at h
    · cases h
    · next q => exact Decidable.not_not.mp q
theorem kL {A : Ab} {a b c d e : Int} (h : s_fault A a b c d e = 0) : A.2.1 < 40 := (s_fault_0 h).2.2
set_option maxRecDepth 100000 in
theorem mX6_addTeacher {l : Launch} {G : ux_G} {h : ux_H} {a b : Int} (ra : -2147483648 ≤ a ∧ a ≤ 2147483647) (rb : -2147483648 ≤ b ∧ b ≤ 2147483647) {Hs : List Ab} {A : Ab} {P : Nat} (hM : rM 193 0 A h) (hK : rK Hs h) (hI : Inv P A) (hJ : InvF A) : ux_M l G yX6_addTeacher iX6_addTeacher 6 0 [.ref 192, .int (iI a), .int (iI b)] h (Q6 (k_addTeacher A a b) (nI A.1) A (s_putT A a b) Hs h) (fun _ _ => False) := by
  refine ux_ent (L' := [some (.ref 192), some (.int (iI a)), some (.int (iI b)), none]) kX6_addTeacher rfl rfl rfl rfl ?_
  obtain ⟨i1, i2, i3, i4, i5, i6⟩ := id hI
  refine g_aload_n dX6_addTeacher_0 rfl ?_
  refine g_iconst (v := 0) dX6_addTeacher_1 (by decide) ?_
  refine g_puti pX6_44 dX6_addTeacher_2 rfl rfl ?_
  have hM0 := rM_0t (j := 0) (x := 0) (Or.inl rfl) hM
  have hK0 := rK_0t (j := 0) (x := 0) (by decide) hK
  have hF0 := x_fN_0 h 0
  refine g_aload_n dX6_addTeacher_5 rfl ?_
  refine q_V (u' := 0) lX6_110 kX6_keepsAhead (mX6_keepsAhead) dX6_addTeacher_6 rfl rfl rfl rfl rfl rfl rfl rfl (fun v h6 hq => ?_) (fun _ _ q => q.elim)
  obtain ⟨rfl, hE1, hF1⟩ := hq
  have hM1 := rM_k9 hM0 hF1 (by decide)
  have hA1 := rM_cp0 (c := 193) (c' := 195) hM0 i1 i2 hE1
  have hK1 := rK_k hK0 hF1 (by decide)
  have h01 : xgi h6 192 0 = 0 := (x_fk_g hF1 (by decide) 0).trans (xgi_si _ _ _ _)
  have hN1 := x_fN_tr hF0 (x_fN_T (x_fT_k hF1 (by decide)))
  dsimp only [Option.toList, List.cons_append, List.nil_append]
  refine g_aload_n dX6_addTeacher_9 rfl ?_
  refine g_iload_n dX6_addTeacher_10 rfl ?_
  refine g_iload_n dX6_addTeacher_11 rfl ?_
  refine q_V (u' := 0) lX6_113 kX6_newTeacher (mX6_newTeacher hM1 hI ra rb) dX6_addTeacher_12 rfl rfl rfl rfl rfl rfl rfl rfl (fun v h12 hq => ?_) (fun _ _ q => q.elim)
  have hQ := hq
  obtain ⟨rfl, hM2, ht2, hF2⟩ := hq
  have hz := qn_thr hQ h01 (by unfold k_addTeacher; split; decide; split <;> decide)
  have hK2 := rK_p hK1 hF2
  dsimp only [Option.toList, List.cons_append, List.nil_append]
  refine s_i (i := 3) dX6_addTeacher_15 rfl rfl rfl rfl ?_
  dsimp only [List.set]
  refine g_aload_n dX6_addTeacher_16 rfl ?_
  refine g_geti fX6_44 dX6_addTeacher_17 rfl rfl ?_
  refine g_if_ne (tgt := 27) dX6_addTeacher_20 (by decide) (fun c20 => ?_) (fun c20 => ?_)
  · have qk : ¬ k_addTeacher A a b = 0 := fun y => c20 (hz.mpr y)
    refine g_iload_n dX6_addTeacher_27 rfl ?_
    refine g_ireturn dX6_addTeacher_28 rfl rfl (by decide) ?_
    first | exact q6_nn hQ qk hK1 hN1 | (rw [if_pos qk]; exact ⟨by rw [if_pos qk], (x_fT_g hF3).trans (c20.trans (by rw [qk]; rfl)), by rw [if_pos qk]; exact hM3, by rw [if_pos qk]; exact hK3, x_fN_tr hN1 (x_fN_tr (x_fN_p hF2) (x_fN_T hF3))⟩)
  · have qk : k_addTeacher A a b = 0 := hz.mp c20
    refine g_aload_n dX6_addTeacher_23 rfl ?_
    refine q_V (u' := 0) lX6_116 kX6_keepsBehind (mX6_keepsBehind (A := A) (A2 := s_putT A a b) (by have := hM2; rwa [if_pos (hz.mp c20)] at this) (rM_fr hA1 (fun j => hF2.1 195 (by decide) (by decide) j)) ⟨i1, show A.1 + 1 ≤ 8 by have := kT (hz.mp c20); omega⟩ ⟨i2, i2⟩ hK2) dX6_addTeacher_24 rfl rfl rfl rfl rfl rfl rfl rfl (fun v h24 hq => ?_) (fun _ _ q => q.elim)
    obtain ⟨rfl, hM3, hK3, hF3⟩ := hq
    dsimp only [Option.toList, List.cons_append, List.nil_append]
    refine g_iload_n dX6_addTeacher_27 rfl ?_
    refine g_ireturn dX6_addTeacher_28 rfl rfl (by decide) ?_
    first | exact q6_nn hQ qk hK1 hN1 | (rw [if_pos qk]; exact ⟨by rw [if_pos qk], (x_fT_g hF3).trans (c20.trans (by rw [qk]; rfl)), by rw [if_pos qk]; exact hM3, by rw [if_pos qk]; exact hK3, x_fN_tr hN1 (x_fN_tr (x_fN_p hF2) (x_fN_T hF3))⟩)
set_option maxRecDepth 100000 in
theorem mX6_newLesson {l : Launch} {G : ux_G} {h : ux_H} {a b c d e : Int} {A : Ab} {P : Nat} (hM : rM 193 0 A h) (hI : Inv P A) (ra : -2147483648 ≤ a ∧ a ≤ 2147483647) (rb : -2147483648 ≤ b ∧ b ≤ 2147483647) (rc : -2147483648 ≤ c ∧ c ≤ 2147483647) (rd : -2147483648 ≤ d ∧ d ≤ 2147483647) (re : -2147483648 ≤ e ∧ e ≤ 2147483647) : ux_M l G yX6_newLesson iX6_newLesson 5 0 [.ref 192, .int (iI a), .int (iI b), .int (iI c), .int (iI d), .int (iI e)] h (QN (s_fault A a b c d e) (nI A.2.1) A (s_putL A a b c d e) h) (fun _ _ => False) := by
  refine ux_ent (L' := [some (.ref 192), some (.int (iI a)), some (.int (iI b)), some (.int (iI c)), some (.int (iI d)), some (.int (iI e)), none]) kX6_newLesson rfl rfl rfl rfl ?_
  obtain ⟨i1, i2, i3, i4, i5, i6⟩ := id hI
  refine g_iload_n dX6_newLesson_0 rfl ?_
  refine f1_S (u' := 0) lX6_142 kX6_isSlot (mX6_isSlot (by omega)) dX6_newLesson_1 rfl rfl rfl rfl rfl rfl ?_
  refine g_if_eq (tgt := 38) dX6_newLesson_4 (by decide) (fun c4 => ?_) (fun c4 => ?_)
  · have q4 := xb_0.mp c4
    refine g_aload_n dX6_newLesson_38 rfl ?_
    refine g_iconst (v := 1) dX6_newLesson_39 (by decide) ?_
    refine f1_V (u' := 0) lX6_107 kX6_raises (mX6_raises) dX6_newLesson_40 rfl rfl rfl rfl rfl rfl rfl rfl ?_
    refine g_ireturn dX6_newLesson_43 rfl rfl (by decide) ?_
    exact qn_no (c := 1) (by unfold s_fault; rw [if_pos (by omega)]) (by decide) hM
  · have q4 := xb_n0 c4
    refine g_iload_n dX6_newLesson_7 rfl ?_
    refine f1_S (u' := 0) lX6_129 kX6_isSix (mX6_isSix (by omega)) dX6_newLesson_8 rfl rfl rfl rfl rfl rfl ?_
    refine g_if_eq (tgt := 38) dX6_newLesson_11 (by decide) (fun c11 => ?_) (fun c11 => ?_)
    · have q11 := xb_0.mp c11
      refine g_aload_n dX6_newLesson_38 rfl ?_
      refine g_iconst (v := 1) dX6_newLesson_39 (by decide) ?_
      refine f1_V (u' := 0) lX6_107 kX6_raises (mX6_raises) dX6_newLesson_40 rfl rfl rfl rfl rfl rfl rfl rfl ?_
      refine g_ireturn dX6_newLesson_43 rfl rfl (by decide) ?_
      exact qn_no (c := 1) (by unfold s_fault; rw [if_pos (by omega)]) (by decide) hM
    · have q11 := xb_n0 c11
      refine g_iload_n dX6_newLesson_14 rfl ?_
      refine f1_S (u' := 0) lX6_129 kX6_isSix (mX6_isSix (by omega)) dX6_newLesson_15 rfl rfl rfl rfl rfl rfl ?_
      refine g_if_eq (tgt := 38) dX6_newLesson_18 (by decide) (fun c18 => ?_) (fun c18 => ?_)
      · have q18 := xb_0.mp c18
        refine g_aload_n dX6_newLesson_38 rfl ?_
        refine g_iconst (v := 1) dX6_newLesson_39 (by decide) ?_
        refine f1_V (u' := 0) lX6_107 kX6_raises (mX6_raises) dX6_newLesson_40 rfl rfl rfl rfl rfl rfl rfl rfl ?_
        refine g_ireturn dX6_newLesson_43 rfl rfl (by decide) ?_
        exact qn_no (c := 1) (by unfold s_fault; rw [if_pos (by omega)]) (by decide) hM
      · have q18 := xb_n0 c18
        refine g_aload_n dX6_newLesson_21 rfl ?_
        refine g_iload dX6_newLesson_22 rfl ?_
        refine f1_V (u' := 0) lX6_119 kX6_isTeacher (mX6_isTeacher hM (by omega) (by omega)) dX6_newLesson_24 rfl rfl rfl rfl rfl rfl rfl rfl ?_
        refine g_if_eq (tgt := 38) dX6_newLesson_27 (by decide) (fun c27 => ?_) (fun c27 => ?_)
        · have q27 := xb_0.mp c27
          refine g_aload_n dX6_newLesson_38 rfl ?_
          refine g_iconst (v := 1) dX6_newLesson_39 (by decide) ?_
          refine f1_V (u' := 0) lX6_107 kX6_raises (mX6_raises) dX6_newLesson_40 rfl rfl rfl rfl rfl rfl rfl rfl ?_
          refine g_ireturn dX6_newLesson_43 rfl rfl (by decide) ?_
          exact qn_no (c := 1) (by unfold s_fault; rw [if_pos (by omega)]) (by decide) hM
        · have q27 := xb_n0 c27
          refine g_iload dX6_newLesson_30 rfl ?_
          refine f1_S (u' := 0) lX6_129 kX6_isSix (mX6_isSix (by omega)) dX6_newLesson_32 rfl rfl rfl rfl rfl rfl ?_
          refine g_if_ne (tgt := 44) dX6_newLesson_35 (by decide) (fun c35 => ?_) (fun c35 => ?_)
          · have q35 := xb_n0 c35
            refine g_aload_n dX6_newLesson_44 rfl ?_
            refine g_iload_n dX6_newLesson_45 rfl ?_
            refine g_iload_n dX6_newLesson_46 rfl ?_
            refine g_iload dX6_newLesson_47 rfl ?_
            refine g_iload dX6_newLesson_49 rfl ?_
            refine f1_V (u' := 0) lX6_145 kX6_collides (mX6_collides hM hI (by omega) (by omega) (by omega) (by omega)) dX6_newLesson_51 rfl rfl rfl rfl rfl rfl rfl rfl ?_
            refine g_if_eq (tgt := 63) dX6_newLesson_54 (by decide) (fun c54 => ?_) (fun c54 => ?_)
            · have q54 : ¬ (s_find A 9 a b ≠ -1 ∨ s_find A 11 a d ≠ -1 ∨ s_find A 12 a e ≠ -1 ∨ s_find A 13 a d ≠ -1 ∨ aF A 7 e.toNat < aF A 6 b.toNat) := col_eq.mp (Decidable.byContradiction fun y => by rw [if_neg y] at c54; exact absurd c54 (by decide))
              refine g_aload_n dX6_newLesson_63 rfl ?_
              refine f1_V (u' := 0) lX6_54 kX6_lessons (mX6_lessons hM) dX6_newLesson_64 rfl rfl rfl rfl rfl rfl rfl rfl ?_
              refine g_bipush (v := 40) dX6_newLesson_67 (by decide) ?_
              refine g_icmp_ne (tgt := 78) dX6_newLesson_69 (by decide) (fun c69 => ?_) (fun c69 => ?_)
              · have q69 : ¬ A.2.1 = 40 := fun y => c69 (by rw [y]; rfl)
                refine g_aload_n dX6_newLesson_78 rfl ?_
                refine f1_V (u' := 0) lX6_54 kX6_lessons (mX6_lessons hM) dX6_newLesson_79 rfl rfl rfl rfl rfl rfl rfl rfl ?_
                refine f1_S (u' := 0) lX6_47 kX6_lessonAt (mX6_lessonAt) dX6_newLesson_82 rfl rfl rfl rfl rfl rfl ?_
                refine s_iw dX6_newLesson_85 rfl rfl rfl ?_
                dsimp only [List.set]
                refine g_aload_n dX6_newLesson_87 rfl ?_
                refine g_getr (q := 193) fX6_9 dX6_newLesson_88 rfl rfl rfl ?_
                refine g_iload dX6_newLesson_91 rfl ?_
                refine g_iload_n dX6_newLesson_93 rfl ?_
                refine g_iast dX6_newLesson_94 rfl (show 56 + 8 * A.2.1 < 376 by omega) rfl ?_
                refine g_aload_n dX6_newLesson_95 rfl ?_
                refine g_getr (q := 193) fX6_9 dX6_newLesson_96 rfl rfl rfl ?_
                refine g_iload dX6_newLesson_99 rfl ?_
                refine g_iconst (v := 1) dX6_newLesson_101 (by decide) ?_
                refine g_iadd dX6_newLesson_102 ?_
                refine g_top (y := nI ((56 + 8 * A.2.1) + 1)) (by rw [show (1 : Int32) = nI 1 by decide, nI_add]) ?_
                refine g_iload_n dX6_newLesson_103 rfl ?_
                refine g_iast dX6_newLesson_104 rfl (show 56 + 8 * A.2.1 + 1 < 376 by omega) rfl ?_
                refine g_aload_n dX6_newLesson_105 rfl ?_
                refine g_getr (q := 193) fX6_9 dX6_newLesson_106 rfl rfl rfl ?_
                refine g_iload dX6_newLesson_109 rfl ?_
                refine g_iconst (v := 2) dX6_newLesson_111 (by decide) ?_
                refine g_iadd dX6_newLesson_112 ?_
                refine g_top (y := nI ((56 + 8 * A.2.1) + 2)) (by rw [show (2 : Int32) = nI 2 by decide, nI_add]) ?_
                refine g_iload_n dX6_newLesson_113 rfl ?_
                refine g_iast dX6_newLesson_114 rfl (show 56 + 8 * A.2.1 + 2 < 376 by omega) rfl ?_
                refine g_aload_n dX6_newLesson_115 rfl ?_
                refine g_getr (q := 193) fX6_9 dX6_newLesson_116 rfl rfl rfl ?_
                refine g_iload dX6_newLesson_119 rfl ?_
                refine g_iconst (v := 3) dX6_newLesson_121 (by decide) ?_
                refine g_iadd dX6_newLesson_122 ?_
                refine g_top (y := nI ((56 + 8 * A.2.1) + 3)) (by rw [show (3 : Int32) = nI 3 by decide, nI_add]) ?_
                refine g_iload dX6_newLesson_123 rfl ?_
                refine g_iast dX6_newLesson_125 rfl (show 56 + 8 * A.2.1 + 3 < 376 by omega) rfl ?_
                refine g_aload_n dX6_newLesson_126 rfl ?_
                refine g_getr (q := 193) fX6_9 dX6_newLesson_127 rfl rfl rfl ?_
                refine g_iload dX6_newLesson_130 rfl ?_
                refine g_iconst (v := 4) dX6_newLesson_132 (by decide) ?_
                refine g_iadd dX6_newLesson_133 ?_
                refine g_top (y := nI ((56 + 8 * A.2.1) + 4)) (by rw [show (4 : Int32) = nI 4 by decide, nI_add]) ?_
                refine g_iload dX6_newLesson_134 rfl ?_
                refine g_iast dX6_newLesson_136 rfl (show 56 + 8 * A.2.1 + 4 < 376 by omega) rfl ?_
                refine g_aload_n dX6_newLesson_137 rfl ?_
                refine g_getr (q := 193) fX6_9 dX6_newLesson_138 rfl rfl rfl ?_
                refine g_iload dX6_newLesson_141 rfl ?_
                refine g_iconst (v := 5) dX6_newLesson_143 (by decide) ?_
                refine g_iadd dX6_newLesson_144 ?_
                refine g_top (y := nI ((56 + 8 * A.2.1) + 5)) (by rw [show (5 : Int32) = nI 5 by decide, nI_add]) ?_
                refine g_iconst (v := (-1)) dX6_newLesson_145 (by decide) ?_
                refine g_iast dX6_newLesson_146 rfl (show 56 + 8 * A.2.1 + 5 < 376 by omega) rfl ?_
                refine g_aload_n dX6_newLesson_147 rfl ?_
                refine g_getr (q := 193) fX6_9 dX6_newLesson_148 rfl rfl rfl ?_
                refine g_iload dX6_newLesson_151 rfl ?_
                refine g_bipush (v := 6) dX6_newLesson_153 (by decide) ?_
                refine g_iadd dX6_newLesson_155 ?_
                refine g_top (y := nI ((56 + 8 * A.2.1) + 6)) (by rw [show (6 : Int32) = nI 6 by decide, nI_add]) ?_
                refine g_iconst (v := (-1)) dX6_newLesson_156 (by decide) ?_
                refine g_iast dX6_newLesson_157 rfl (show 56 + 8 * A.2.1 + 6 < 376 by omega) rfl ?_
                refine g_aload_n dX6_newLesson_158 rfl ?_
                refine g_getr (q := 193) fX6_9 dX6_newLesson_159 rfl rfl rfl ?_
                refine g_iload dX6_newLesson_162 rfl ?_
                refine g_bipush (v := 7) dX6_newLesson_164 (by decide) ?_
                refine g_iadd dX6_newLesson_166 ?_
                refine g_top (y := nI ((56 + 8 * A.2.1) + 7)) (by rw [show (7 : Int32) = nI 7 by decide, nI_add]) ?_
                refine g_iconst (v := (-1)) dX6_newLesson_167 (by decide) ?_
                refine g_iast dX6_newLesson_168 rfl (show 56 + 8 * A.2.1 + 7 < 376 by omega) rfl ?_
                refine g_aload_n dX6_newLesson_169 rfl ?_
                refine g_getr (q := 193) fX6_9 dX6_newLesson_170 rfl rfl rfl ?_
                refine g_iconst (v := 1) dX6_newLesson_173 (by decide) ?_
                refine g_dup2 dX6_newLesson_174 rfl rfl ?_
                refine g_iald dX6_newLesson_175 (j := 1) rfl (show 1 < 376 by decide) rfl ?_
                refine g_top (y := nI A.2.1) (by rw [xgi_ne _ _ _ _ _ _ (by omega), xgi_ne _ _ _ _ _ _ (by omega), xgi_ne _ _ _ _ _ _ (by omega), xgi_ne _ _ _ _ _ _ (by omega), xgi_ne _ _ _ _ _ _ (by omega), xgi_ne _ _ _ _ _ _ (by omega), xgi_ne _ _ _ _ _ _ (by omega), xgi_ne _ _ _ _ _ _ (by omega)]; exact hM.2.1) ?_
                refine g_dup_x2 dX6_newLesson_176 rfl rfl rfl ?_
                refine g_iconst (v := 1) dX6_newLesson_177 (by decide) ?_
                refine g_iadd dX6_newLesson_178 ?_
                refine g_top (nI_1 _) ?_
                refine g_iast dX6_newLesson_179 (j := 1) rfl (show 1 < 376 by decide) rfl ?_
                refine g_ireturn dX6_newLesson_180 rfl rfl (by decide) ?_
                refine qn_ok (K := s_fault A a b c d e) (by unfold s_fault; rw [if_neg (by omega), if_neg q54, if_neg (by omega)]) ?_ ?_
                · exact rM_putL hM i1 (by omega) a b c d e
                · exact fun k hk j => by unfold xsi xsv; rw [if_neg (by omega), if_neg (by omega), if_neg (by omega), if_neg (by omega), if_neg (by omega), if_neg (by omega), if_neg (by omega), if_neg (by omega), if_neg (by omega)]
              · have q69 : A.2.1 = 40 := by
                  rw [show (40 : Int32) = nI 40 by decide, nI_iI, nI_iI, iI_eq (by omega) (by omega) (by omega) (by omega)] at c69
                  omega
                refine g_aload_n dX6_newLesson_72 rfl ?_
                refine g_iconst (v := 3) dX6_newLesson_73 (by decide) ?_
                refine f1_V (u' := 0) lX6_107 kX6_raises (mX6_raises) dX6_newLesson_74 rfl rfl rfl rfl rfl rfl rfl rfl ?_
                refine g_ireturn dX6_newLesson_77 rfl rfl (by decide) ?_
                exact qn_no (c := 3) (by unfold s_fault; rw [if_neg (by omega), if_neg q54, if_pos (by omega)]) (by decide) hM
            · have q54 : s_find A 9 a b ≠ -1 ∨ s_find A 11 a d ≠ -1 ∨ s_find A 12 a e ≠ -1 ∨ s_find A 13 a d ≠ -1 ∨ aF A 7 e.toNat < aF A 6 b.toNat := Decidable.byContradiction fun y => c54 (by rw [if_pos (col_eq.mpr y)])
              refine g_aload_n dX6_newLesson_57 rfl ?_
              refine g_iconst (v := 2) dX6_newLesson_58 (by decide) ?_
              refine f1_V (u' := 0) lX6_107 kX6_raises (mX6_raises) dX6_newLesson_59 rfl rfl rfl rfl rfl rfl rfl rfl ?_
              refine g_ireturn dX6_newLesson_62 rfl rfl (by decide) ?_
              exact qn_no (c := 2) (by unfold s_fault; rw [if_neg (by omega), if_pos q54]) (by decide) hM
          · have q35 := xb_0.mp c35
            refine g_aload_n dX6_newLesson_38 rfl ?_
            refine g_iconst (v := 1) dX6_newLesson_39 (by decide) ?_
            refine f1_V (u' := 0) lX6_107 kX6_raises (mX6_raises) dX6_newLesson_40 rfl rfl rfl rfl rfl rfl rfl rfl ?_
            refine g_ireturn dX6_newLesson_43 rfl rfl (by decide) ?_
            exact qn_no (c := 1) (by unfold s_fault; rw [if_pos (by omega)]) (by decide) hM
set_option maxRecDepth 100000 in
theorem mX6_addLesson {l : Launch} {G : ux_G} {h : ux_H} {a b c d e : Int} (ra : -2147483648 ≤ a ∧ a ≤ 2147483647) (rb : -2147483648 ≤ b ∧ b ≤ 2147483647) (rc : -2147483648 ≤ c ∧ c ≤ 2147483647) (rd : -2147483648 ≤ d ∧ d ≤ 2147483647) (re : -2147483648 ≤ e ∧ e ≤ 2147483647) {Hs : List Ab} {A : Ab} {P : Nat} (hM : rM 193 0 A h) (hK : rK Hs h) (hI : Inv P A) (hJ : InvF A) : ux_M l G yX6_addLesson iX6_addLesson 6 0 [.ref 192, .int (iI a), .int (iI b), .int (iI c), .int (iI d), .int (iI e)] h (Q6 (s_fault A a b c d e) (nI A.2.1) A (s_putL A a b c d e) Hs h) (fun _ _ => False) := by
  refine ux_ent (L' := [some (.ref 192), some (.int (iI a)), some (.int (iI b)), some (.int (iI c)), some (.int (iI d)), some (.int (iI e)), none]) kX6_addLesson rfl rfl rfl rfl ?_
  obtain ⟨i1, i2, i3, i4, i5, i6⟩ := id hI
  refine g_aload_n dX6_addLesson_0 rfl ?_
  refine g_iconst (v := 0) dX6_addLesson_1 (by decide) ?_
  refine g_puti pX6_44 dX6_addLesson_2 rfl rfl ?_
  have hM0 := rM_0t (j := 0) (x := 0) (Or.inl rfl) hM
  have hK0 := rK_0t (j := 0) (x := 0) (by decide) hK
  have hF0 := x_fN_0 h 0
  refine g_aload_n dX6_addLesson_5 rfl ?_
  refine q_V (u' := 0) lX6_110 kX6_keepsAhead (mX6_keepsAhead) dX6_addLesson_6 rfl rfl rfl rfl rfl rfl rfl rfl (fun v h6 hq => ?_) (fun _ _ q => q.elim)
  obtain ⟨rfl, hE1, hF1⟩ := hq
  have hM1 := rM_k9 hM0 hF1 (by decide)
  have hA1 := rM_cp0 (c := 193) (c' := 195) hM0 i1 i2 hE1
  have hK1 := rK_k hK0 hF1 (by decide)
  have h01 : xgi h6 192 0 = 0 := (x_fk_g hF1 (by decide) 0).trans (xgi_si _ _ _ _)
  have hN1 := x_fN_tr hF0 (x_fN_T (x_fT_k hF1 (by decide)))
  dsimp only [Option.toList, List.cons_append, List.nil_append]
  refine g_aload_n dX6_addLesson_9 rfl ?_
  refine g_iload_n dX6_addLesson_10 rfl ?_
  refine g_iload_n dX6_addLesson_11 rfl ?_
  refine g_iload_n dX6_addLesson_12 rfl ?_
  refine g_iload dX6_addLesson_13 rfl ?_
  refine g_iload dX6_addLesson_15 rfl ?_
  refine q_V (u' := 0) lX6_149 kX6_newLesson (mX6_newLesson hM1 hI ra rb rc rd re) dX6_addLesson_17 rfl rfl rfl rfl rfl rfl rfl rfl (fun v h17 hq => ?_) (fun _ _ q => q.elim)
  have hQ := hq
  obtain ⟨rfl, hM2, ht2, hF2⟩ := hq
  have hz := qn_thr hQ h01 (by unfold s_fault; split; decide; split; decide; split <;> decide)
  have hK2 := rK_p hK1 hF2
  dsimp only [Option.toList, List.cons_append, List.nil_append]
  refine s_iw dX6_addLesson_20 rfl rfl rfl ?_
  dsimp only [List.set]
  refine g_aload_n dX6_addLesson_22 rfl ?_
  refine g_geti fX6_44 dX6_addLesson_23 rfl rfl ?_
  refine g_if_ne (tgt := 33) dX6_addLesson_26 (by decide) (fun c26 => ?_) (fun c26 => ?_)
  · have qk : ¬ s_fault A a b c d e = 0 := fun y => c26 (hz.mpr y)
    refine g_iload dX6_addLesson_33 rfl ?_
    refine g_ireturn dX6_addLesson_35 rfl rfl (by decide) ?_
    first | exact q6_nn hQ qk hK1 hN1 | (rw [if_pos qk]; exact ⟨by rw [if_pos qk], (x_fT_g hF3).trans (c26.trans (by rw [qk]; rfl)), by rw [if_pos qk]; exact hM3, by rw [if_pos qk]; exact hK3, x_fN_tr hN1 (x_fN_tr (x_fN_p hF2) (x_fN_T hF3))⟩)
  · have qk : s_fault A a b c d e = 0 := hz.mp c26
    refine g_aload_n dX6_addLesson_29 rfl ?_
    refine q_V (u' := 0) lX6_116 kX6_keepsBehind (mX6_keepsBehind (A := A) (A2 := s_putL A a b c d e) (by have := hM2; rwa [if_pos (hz.mp c26)] at this) (rM_fr hA1 (fun j => hF2.1 195 (by decide) (by decide) j)) ⟨i1, i1⟩ ⟨i2, show A.2.1 + 1 ≤ 40 by have := kL (hz.mp c26); omega⟩ hK2) dX6_addLesson_30 rfl rfl rfl rfl rfl rfl rfl rfl (fun v h30 hq => ?_) (fun _ _ q => q.elim)
    obtain ⟨rfl, hM3, hK3, hF3⟩ := hq
    dsimp only [Option.toList, List.cons_append, List.nil_append]
    refine g_iload dX6_addLesson_33 rfl ?_
    refine g_ireturn dX6_addLesson_35 rfl rfl (by decide) ?_
    first | exact q6_nn hQ qk hK1 hN1 | (rw [if_pos qk]; exact ⟨by rw [if_pos qk], (x_fT_g hF3).trans (c26.trans (by rw [qk]; rfl)), by rw [if_pos qk]; exact hM3, by rw [if_pos qk]; exact hK3, x_fN_tr hN1 (x_fN_tr (x_fN_p hF2) (x_fN_T hF3))⟩)
