/-! THE CLASS: more public calls that change the school. -/
theorem s_fault_r (A : Ab) (a b c d e : Int) : s_fault A a b c d e ≤ 3 := by
  unfold s_fault
  split
  · omega
  · split
    · omega
    · split <;> omega
theorem s_fault_0 {A : Ab} {a b c d e : Int} (h : s_fault A a b c d e = 0) : ((0 ≤ a ∧ a ≤ 29) ∧ (0 ≤ b ∧ b ≤ 5) ∧ (0 ≤ c ∧ c ≤ 5) ∧ (0 ≤ d ∧ d ≤ (A.1 : Int) - 1) ∧ (0 ≤ e ∧ e ≤ 5)) ∧ (s_find A 9 a b = -1 ∧ s_find A 11 a d = -1 ∧ s_find A 12 a e = -1 ∧ s_find A 13 a d = -1 ∧ aF A 6 b.toNat ≤ aF A 7 e.toNat) ∧ A.2.1 < 40 := by
  unfold s_fault at h
  split at h
  · omega
  · split at h
    · omega
    · split at h
      · omega
      · refine ⟨by omega, by omega, by omega⟩
theorem x_bb {x y : Bool} (h : (if x then (1 : Int32) else 0) = (if y then 1 else 0)) : x = y := by
  cases x <;> cases y <;> first | rfl | exact absurd h (by decide)
set_option maxRecDepth 100000 in
theorem mX5_clear {l : Launch} {G : ux_G} {h : ux_H} {A : Ab} (hC : rC 0 A h) : ux_F l G yX5_clear iX5_clear 3 0 [.ref 176] h (some (.int (nI A.2.1))) (xsi (x_new h 0) 177 2 0) := by
  unfold ux_F
  refine ux_ent (L' := [some (.ref 176), none]) kX5_clear rfl rfl rfl rfl ?_
  refine g_aload_n dX5_clear_0 rfl ?_
  refine g_getr (q := 0) fX5_10 dX5_clear_1 rfl rfl rfl ?_
  refine g_geti fX5_61 dX5_clear_4 rfl rfl ?_
  refine g_top hC.2.1 ?_
  refine s_i (i := 1) dX5_clear_7 rfl rfl rfl rfl ?_
  dsimp only [List.set]
  refine g_aload_n dX5_clear_8 rfl ?_
  refine g_getr (q := 0) fX5_10 dX5_clear_9 rfl rfl rfl ?_
  refine f0_VN (u' := 0) lX5_64 kX4_reset (mX4_reset) dX5_clear_12 rfl rfl rfl rfl rfl rfl rfl rfl ?_
  refine g_aload_n dX5_clear_15 rfl ?_
  refine g_getr (q := 177) fX5_25 dX5_clear_16 rfl rfl rfl ?_
  refine f0_VN (u' := 0) lX5_67 kX0_forget (mX0_forget) dX5_clear_19 rfl rfl rfl rfl rfl rfl rfl rfl ?_
  refine g_iload_n dX5_clear_22 rfl ?_
  refine g_ireturn dX5_clear_23 rfl rfl (by decide) ?_
  exact ⟨rfl, rfl⟩
set_option maxRecDepth 100000 in
theorem mX5_addLesson {l : Launch} {G : ux_G} {h : ux_H} {a b c d e : Int} {A : Ab} {P : Nat} (hC : rC 0 A h) (hI : Inv P A) (hJ : InvF A) {Hs : List Ab} (hH : rH Hs h) (hP : P + 3000 ≤ 10000000) (ra : -2147483648 ≤ a ∧ a ≤ 2147483647) (rb : -2147483648 ≤ b ∧ b ≤ 2147483647) (rc : -2147483648 ≤ c ∧ c ≤ 2147483647) (rd : -2147483648 ≤ d ∧ d ≤ 2147483647) (re : -2147483648 ≤ e ∧ e ≤ 2147483647) : ux_M l G yX5_addLesson iX5_addLesson 5 2 [.ref 176, .int (iI a), .int (iI b), .int (iI c), .int (iI d), .int (iI e)] h (fun v h' => v = some (.int (nI A.2.1)) ∧ s_fault A a b c d e = 0 ∧ rC 0 (s_putL A a b c d e) h' ∧ rH ((A :: Hs).take 8) h' ∧ x_frD h h') (fun E h' => h' = h ∧ xc (s_fault A a b c d e) ["java/lang/IllegalArgumentException", "java/lang/UnsupportedOperationException", "java/lang/IllegalStateException"] E) := by
  refine ux_ent (L' := [some (.ref 176), some (.int (iI a)), some (.int (iI b)), some (.int (iI c)), some (.int (iI d)), some (.int (iI e))]) kX5_addLesson rfl rfl rfl rfl ?_
  obtain ⟨i1, i2, i3, i4, i5, i6⟩ := id hI
  obtain ⟨w, hw⟩ := hH
  have f3 := s_fault_r A a b c d e
  have rf : -2147483648 ≤ ((s_fault A a b c d e : Nat) : Int) ∧ ((s_fault A a b c d e : Nat) : Int) ≤ 2147483647 := by omega
  refine g_aload_n dX5_addLesson_0 rfl ?_
  refine g_getr (q := 0) fX5_10 dX5_addLesson_1 rfl rfl rfl ?_
  refine g_iload_n dX5_addLesson_4 rfl ?_
  refine g_iload_n dX5_addLesson_5 rfl ?_
  refine g_iload_n dX5_addLesson_6 rfl ?_
  refine g_iload dX5_addLesson_7 rfl ?_
  refine g_iload dX5_addLesson_9 rfl ?_
  refine f1_VN (u' := 0) lX5_125 kX4_faultOfLesson (mX4_faultOfLesson hC hI ra rb rc rd re) dX5_addLesson_11 rfl rfl rfl rfl rfl rfl rfl rfl ?_
  refine g_top (nI_iI _) ?_
  rcases Decidable.em (1 ≤ ((s_fault A a b c d e : Nat) : Int) ∧ ((s_fault A a b c d e : Nat) : Int) ≤ 3) with qsw | qsw
  · obtain qv | qv | qv : ((s_fault A a b c d e : Nat) : Int) = 1 ∨ ((s_fault A a b c d e : Nat) : Int) = 2 ∨ ((s_fault A a b c d e : Nat) : Int) = 3 := by omega
    · rw [qv]
      refine g_tableIn (off := 26) (tgt := 40) dX5_addLesson_14 (by decide) (by decide) rfl (by decide) ?_
      refine g_throw tX5_131_133 dX5_addLesson_40 dX5_addLesson_43 dX5_addLesson_44 dX5_addLesson_46 dX5_addLesson_49 rfl rfl (by decide) ?_
      exact ⟨rfl, xc_mk (k := 1) (by omega) (by decide) rfl⟩
    · rw [qv]
      refine g_tableIn (off := 36) (tgt := 50) dX5_addLesson_14 (by decide) (by decide) rfl (by decide) ?_
      refine g_throw tX5_136_138 dX5_addLesson_50 dX5_addLesson_53 dX5_addLesson_54 dX5_addLesson_56 dX5_addLesson_59 rfl rfl (by decide) ?_
      exact ⟨rfl, xc_mk (k := 2) (by omega) (by decide) rfl⟩
    · rw [qv]
      refine g_tableIn (off := 46) (tgt := 60) dX5_addLesson_14 (by decide) (by decide) rfl (by decide) ?_
      refine g_throw tX5_139_81 dX5_addLesson_60 dX5_addLesson_63 dX5_addLesson_64 dX5_addLesson_66 dX5_addLesson_69 rfl rfl (by decide) ?_
      exact ⟨rfl, xc_mk (k := 3) (by omega) (by decide) rfl⟩
  · refine g_tableOut (tgt := 70) dX5_addLesson_14 (by rw [iI_t rf.1 rf.2]; omega) (by decide) ?_
    refine g_aload_n dX5_addLesson_70 rfl ?_
    refine g_getr (q := 177) fX5_25 dX5_addLesson_71 rfl rfl rfl ?_
    refine g_aload_n dX5_addLesson_74 rfl ?_
    refine g_getr (q := 0) fX5_10 dX5_addLesson_75 rfl rfl rfl ?_
    refine q_VN (u' := 0) lX5_84 kX0_remember (mX0_remember hC (by omega) (by omega) x_sc_0 (by decide) hw) dX5_addLesson_78 rfl rfl rfl rfl rfl rfl rfl rfl (fun v h78 hq => ?_)
    obtain ⟨rfl, hH1, hF1⟩ := hq
    have hC1 := rC_frH hC hF1
    dsimp only [Option.toList, List.cons_append, List.nil_append]
    refine g_aload_n dX5_addLesson_81 rfl ?_
    refine g_getr (q := 0) fX5_10 dX5_addLesson_82 rfl rfl rfl ?_
    refine g_iload_n dX5_addLesson_85 rfl ?_
    refine g_iload_n dX5_addLesson_86 rfl ?_
    refine g_iload_n dX5_addLesson_87 rfl ?_
    refine g_iload dX5_addLesson_88 rfl ?_
    refine g_iload dX5_addLesson_90 rfl ?_
    refine f1_VN (u' := 0) lX5_141 kX4_putLesson (mX4_putLesson hC1 (s_fault_0 (A := A) (a := a) (b := b) (c := c) (d := d) (e := e) (by omega)).2.2) dX5_addLesson_92 rfl rfl rfl rfl rfl rfl rfl rfl ?_
    refine g_ireturn dX5_addLesson_95 rfl rfl (by decide) ?_
    exact ⟨rfl, by omega, rC_putL hC1 a b c d e, x_fin hF1 hH1 (x_fr_putL _ _ _ _ _ _ _)⟩
def k_removeLesson (A : Ab) (a : Int) : Nat := if ¬ (0 ≤ a ∧ a < A.2.1) then 1 else 0
set_option maxRecDepth 100000 in
theorem mX5_removeLesson {l : Launch} {G : ux_G} {h : ux_H} {a : Int} {A : Ab} {P : Nat} (hC : rC 0 A h) (hI : Inv P A) (hJ : InvF A) {Hs : List Ab} (hH : rH Hs h) (hP : P + 3000 ≤ 10000000) (ra : -2147483648 ≤ a ∧ a ≤ 2147483647) : ux_M l G yX5_removeLesson iX5_removeLesson 9 2 [.ref 176, .int (iI a)] h (fun v h' => v = some (.int (nI (A.2.1 - 1))) ∧ k_removeLesson A a = 0 ∧ rC 0 (s_drop A a.toNat) h' ∧ rH ((A :: Hs).take 8) h' ∧ x_frD h h') (fun E h' => h' = h ∧ xc (k_removeLesson A a) ["java/lang/IndexOutOfBoundsException"] E) := by
  refine ux_ent (L' := [some (.ref 176), some (.int (iI a))]) kX5_removeLesson rfl rfl rfl rfl ?_
  obtain ⟨i1, i2, i3, i4, i5, i6⟩ := id hI
  obtain ⟨w, hw⟩ := hH
  refine g_aload_n dX5_removeLesson_0 rfl ?_
  refine g_iload_n dX5_removeLesson_1 rfl ?_
  refine q_V (u' := 1) lX5_144 kX5_needLesson (mX5_needLesson hC (by omega) (by omega) (by omega)) dX5_removeLesson_2 rfl rfl rfl rfl rfl rfl rfl rfl (fun v h2 hq => ?_) (fun E hx q => g_out rfl (by decide) (by obtain ⟨rfl, rfl, q3⟩ := q; exact ⟨rfl, xc_mk (k := 1) (by unfold k_removeLesson; (repeat' split) <;> first | rfl | omega | contradiction) (by decide) rfl⟩))
  obtain ⟨rfl, eh2, hq2⟩ := hq
  rw [eh2]
  have hta : a.toNat < A.2.1 := by omega
  rw [iI_get (a := a) (by omega) (by omega)]
  dsimp only [Option.toList, List.cons_append, List.nil_append]
  refine g_aload_n dX5_removeLesson_5 rfl ?_
  refine g_getr (q := 177) fX5_25 dX5_removeLesson_6 rfl rfl rfl ?_
  refine g_aload_n dX5_removeLesson_9 rfl ?_
  refine g_getr (q := 0) fX5_10 dX5_removeLesson_10 rfl rfl rfl ?_
  refine q_VN (u' := 1) lX5_84 kX0_remember (mX0_remember hC (by omega) (by omega) x_sc_0 (by decide) hw) dX5_removeLesson_13 rfl rfl rfl rfl rfl rfl rfl rfl (fun v h13 hq => ?_)
  obtain ⟨rfl, hH1, hF1⟩ := hq
  have hC1 := rC_frH hC hF1
  dsimp only [Option.toList, List.cons_append, List.nil_append]
  refine g_aload_n dX5_removeLesson_16 rfl ?_
  refine g_getr (q := 0) fX5_10 dX5_removeLesson_17 rfl rfl rfl ?_
  refine g_iload_n dX5_removeLesson_20 rfl ?_
  refine q_VN (u' := 1) lX5_147 kX4_dropLesson (mX4_dropLesson hC1 hI (HO_of hJ) (by omega) hta) dX5_removeLesson_21 rfl rfl rfl rfl rfl rfl rfl rfl (fun v h21 hq => ?_)
  obtain ⟨rfl, hC2, hF2⟩ := hq
  dsimp only [Option.toList, List.cons_append, List.nil_append]
  refine g_aload_n dX5_removeLesson_24 rfl ?_
  refine g_getr (q := 0) fX5_10 dX5_removeLesson_25 rfl rfl rfl ?_
  refine g_geti fX5_61 dX5_removeLesson_28 rfl rfl ?_
  refine g_top (y := nI (A.2.1 - 1)) (by rw [hC2.2.1]; show nI ((s_eaw A a.toNat).2.1 - 1) = _; rw [(s_eaw_I hI (HO_of hJ) (by omega)).2.2]) ?_
  refine g_ireturn dX5_removeLesson_31 rfl rfl (by decide) ?_
  exact ⟨rfl, (by unfold k_removeLesson; (repeat' split) <;> first | rfl | omega | contradiction), hC2, x_fin hF1 hH1 hF2⟩
def k_setAbsent (A : Ab) (a b : Int) (z : Bool) : Nat := if ¬ (0 ≤ a ∧ a < A.1) ∨ ¬ (0 ≤ b ∧ b < 30) then 1 else if s_away A a.toNat b = z then 2 else 0
set_option maxRecDepth 100000 in
theorem mX5_setAbsent {l : Launch} {G : ux_G} {h : ux_H} {a b : Int} {z : Bool} {A : Ab} {P : Nat} (hC : rC 0 A h) (hI : Inv P A) (hJ : InvF A) {Hs : List Ab} (hH : rH Hs h) (hP : P + 3000 ≤ 10000000) (ra : -2147483648 ≤ a ∧ a ≤ 2147483647) (rb : -2147483648 ≤ b ∧ b ≤ 2147483647) : ux_M l G yX5_setAbsent iX5_setAbsent 9 3 [.ref 176, .int (iI a), .int (iI b), .int (if z then 1 else 0)] h (fun v h' => v = some (.int (nI (s_turnn A a.toNat b))) ∧ k_setAbsent A a b z = 0 ∧ rC 0 (s_turn A a.toNat b) h' ∧ rH ((A :: Hs).take 8) h' ∧ x_frD h h') (fun E h' => h' = h ∧ xc (k_setAbsent A a b z) ["java/lang/IndexOutOfBoundsException", "java/lang/IllegalStateException"] E) := by
  refine ux_ent (L' := [some (.ref 176), some (.int (iI a)), some (.int (iI b)), some (.int (if z then 1 else 0))]) kX5_setAbsent rfl rfl rfl rfl ?_
  obtain ⟨i1, i2, i3, i4, i5, i6⟩ := id hI
  obtain ⟨w, hw⟩ := hH
  refine g_aload_n dX5_setAbsent_0 rfl ?_
  refine g_iload_n dX5_setAbsent_1 rfl ?_
  refine q_V (u' := 1) lX5_92 kX5_needTeacher (mX5_needTeacher hC (by omega) (by omega) (by omega)) dX5_setAbsent_2 rfl rfl rfl rfl rfl rfl rfl rfl (fun v h2 hq => ?_) (fun E hx q => g_out rfl (by decide) (by obtain ⟨rfl, rfl, q3⟩ := q; exact ⟨rfl, xc_mk (k := 1) (by unfold k_setAbsent; (repeat' split) <;> first | rfl | omega | contradiction) (by decide) rfl⟩))
  obtain ⟨rfl, eh2, hq2⟩ := hq
  rw [eh2]
  have hta : a.toNat < A.1 := by omega
  rw [iI_get (a := a) (by omega) (by omega)]
  dsimp only [Option.toList, List.cons_append, List.nil_append]
  refine g_iload_n dX5_setAbsent_5 rfl ?_
  refine g_bipush (v := 30) dX5_setAbsent_6 (by decide) ?_
  refine q_S (u' := 2) lX5_104 kX5_needIndex (mX5_needIndex) dX5_setAbsent_8 rfl rfl rfl rfl rfl rfl (fun v h8 hq => ?_) (fun E hx q => g_out rfl (by decide) (by obtain ⟨rfl, rfl, q3⟩ := q; have q3 := (not_congr (x_ix (a := b) (n := 30) (by decide) rb (by decide))).mp q3; exact ⟨rfl, xc_mk (k := 1) (by unfold k_setAbsent; (repeat' split) <;> first | rfl | omega | contradiction) (by decide) rfl⟩))
  obtain ⟨rfl, eh8, hq8⟩ := hq
  rw [eh8]
  have hq8 := (x_ix (a := b) (n := 30) (by decide) rb (by decide)).mp hq8
  dsimp only [Option.toList, List.cons_append, List.nil_append]
  refine g_aload_n dX5_setAbsent_11 rfl ?_
  refine g_getr (q := 0) fX5_10 dX5_setAbsent_12 rfl rfl rfl ?_
  refine g_iload_n dX5_setAbsent_15 rfl ?_
  refine g_iload_n dX5_setAbsent_16 rfl ?_
  refine f1_VN (u' := 2) lX5_225 kX4_isAbsentIn (mX4_isAbsentIn hC hI hta) dX5_setAbsent_17 rfl rfl rfl rfl rfl rfl rfl rfl ?_
  refine g_iload_n dX5_setAbsent_20 rfl ?_
  refine g_icmp_ne (tgt := 34) dX5_setAbsent_21 (by decide) (fun c21 => ?_) (fun c21 => ?_)
  · have q21 : ¬ s_away A a.toNat b = z := fun y => c21 (by rw [y])
    refine g_aload_n dX5_setAbsent_34 rfl ?_
    refine g_getr (q := 177) fX5_25 dX5_setAbsent_35 rfl rfl rfl ?_
    refine g_aload_n dX5_setAbsent_38 rfl ?_
    refine g_getr (q := 0) fX5_10 dX5_setAbsent_39 rfl rfl rfl ?_
    refine q_VN (u' := 2) lX5_84 kX0_remember (mX0_remember hC (by omega) (by omega) x_sc_0 (by decide) hw) dX5_setAbsent_42 rfl rfl rfl rfl rfl rfl rfl rfl (fun v h42 hq => ?_)
    obtain ⟨rfl, hH1, hF1⟩ := hq
    have hC1 := rC_frH hC hF1
    dsimp only [Option.toList, List.cons_append, List.nil_append]
    refine g_aload_n dX5_setAbsent_45 rfl ?_
    refine g_getr (q := 0) fX5_10 dX5_setAbsent_46 rfl rfl rfl ?_
    refine g_iload_n dX5_setAbsent_49 rfl ?_
    refine g_iload_n dX5_setAbsent_50 rfl ?_
    refine q_VN (u' := 2) lX5_230 kX4_turnAbsence (mX4_turnAbsence hC1 hI (HO_of hJ) (by omega) hta (by omega)) dX5_setAbsent_51 rfl rfl rfl rfl rfl rfl rfl rfl (fun v h51 hq => ?_)
    obtain ⟨rfl, hC2, hF2⟩ := hq
    dsimp only [Option.toList, List.cons_append, List.nil_append]
    refine g_ireturn dX5_setAbsent_54 rfl rfl (by decide) ?_
    exact ⟨rfl, (by unfold k_setAbsent; (repeat' split) <;> first | rfl | omega | contradiction), hC2, x_fin hF1 hH1 hF2⟩
  · have q21 : s_away A a.toNat b = z := x_bb c21
    refine g_throw tX5_228_81 dX5_setAbsent_24 dX5_setAbsent_27 dX5_setAbsent_28 dX5_setAbsent_30 dX5_setAbsent_33 rfl rfl (by decide) ?_
    exact ⟨rfl, xc_mk (k := 2) (by unfold k_setAbsent; (repeat' split) <;> first | rfl | omega | contradiction) (by decide) rfl⟩
def s_unc (A : Ab) (i : Nat) : Ab := s_endc (s_e1 A i) i
def k_uncover (A : Ab) (a : Int) : Nat := if ¬ (0 ≤ a ∧ a < A.2.1) then 1 else if s_st A a.toNat ≠ 1 then 2 else 0
set_option maxRecDepth 100000 in
theorem mX5_uncover {l : Launch} {G : ux_G} {h : ux_H} {a : Int} {A : Ab} {P : Nat} (hC : rC 0 A h) (hI : Inv P A) (hJ : InvF A) {Hs : List Ab} (hH : rH Hs h) (hP : P + 3000 ≤ 10000000) (ra : -2147483648 ≤ a ∧ a ≤ 2147483647) : ux_M l G yX5_uncover iX5_uncover 8 3 [.ref 176, .int (iI a)] h (fun v h' => v = some (.int (iI (s_act A a.toNat))) ∧ k_uncover A a = 0 ∧ rC 0 (s_unc A a.toNat) h' ∧ rH ((A :: Hs).take 8) h' ∧ x_frD h h') (fun E h' => h' = h ∧ xc (k_uncover A a) ["java/lang/IndexOutOfBoundsException", "java/lang/IllegalStateException"] E) := by
  refine ux_ent (L' := [some (.ref 176), some (.int (iI a)), none]) kX5_uncover rfl rfl rfl rfl ?_
  obtain ⟨i1, i2, i3, i4, i5, i6⟩ := id hI
  obtain ⟨w, hw⟩ := hH
  refine g_aload_n dX5_uncover_0 rfl ?_
  refine g_iload_n dX5_uncover_1 rfl ?_
  refine q_V (u' := 1) lX5_144 kX5_needLesson (mX5_needLesson hC (by omega) (by omega) (by omega)) dX5_uncover_2 rfl rfl rfl rfl rfl rfl rfl rfl (fun v h2 hq => ?_) (fun E hx q => g_out rfl (by decide) (by obtain ⟨rfl, rfl, q3⟩ := q; exact ⟨rfl, xc_mk (k := 1) (by unfold k_uncover; (repeat' split) <;> first | rfl | omega | contradiction) (by decide) rfl⟩))
  obtain ⟨rfl, eh2, hq2⟩ := hq
  rw [eh2]
  have hta : a.toNat < A.2.1 := by omega
  rw [iI_get (a := a) (by omega) (by omega)]
  dsimp only [Option.toList, List.cons_append, List.nil_append]
  refine g_aload_n dX5_uncover_5 rfl ?_
  refine g_iload_n dX5_uncover_6 rfl ?_
  refine g_iconst (v := 1) dX5_uncover_7 (by decide) ?_
  refine q_V (u' := 2) lX5_250 kX5_needState (mX5_needState (s := 1) hC hI hJ (by assumption) (by decide)) dX5_uncover_8 rfl rfl rfl rfl rfl rfl rfl rfl (fun v h8 hq => ?_) (fun E hx q => g_out rfl (by decide) (by obtain ⟨rfl, rfl, q3⟩ := q; exact ⟨rfl, xc_mk (k := 2) (by unfold k_uncover; (repeat' split) <;> first | rfl | omega | contradiction) (by decide) rfl⟩))
  obtain ⟨rfl, eh8, hq8⟩ := hq
  rw [eh8]
  dsimp only [Option.toList, List.cons_append, List.nil_append]
  refine g_aload_n dX5_uncover_11 rfl ?_
  refine g_getr (q := 177) fX5_25 dX5_uncover_12 rfl rfl rfl ?_
  refine g_aload_n dX5_uncover_15 rfl ?_
  refine g_getr (q := 0) fX5_10 dX5_uncover_16 rfl rfl rfl ?_
  refine q_VN (u' := 2) lX5_84 kX0_remember (mX0_remember hC (by omega) (by omega) x_sc_0 (by decide) hw) dX5_uncover_19 rfl rfl rfl rfl rfl rfl rfl rfl (fun v h19 hq => ?_)
  obtain ⟨rfl, hH1, hF1⟩ := hq
  have hC1 := rC_frH hC hF1
  dsimp only [Option.toList, List.cons_append, List.nil_append]
  refine g_aload_n dX5_uncover_22 rfl ?_
  refine g_getr (q := 0) fX5_10 dX5_uncover_23 rfl rfl rfl ?_
  refine g_iload_n dX5_uncover_26 rfl ?_
  refine f1_VN (u' := 2) lX5_189 kX4_actingOf (mX4_actingOf hC1 hI hta) dX5_uncover_27 rfl rfl rfl rfl rfl rfl rfl rfl ?_
  refine s_i (i := 2) dX5_uncover_30 rfl rfl rfl rfl ?_
  dsimp only [List.set]
  refine g_aload_n dX5_uncover_31 rfl ?_
  refine g_getr (q := 0) fX5_10 dX5_uncover_32 rfl rfl rfl ?_
  refine g_iload_n dX5_uncover_35 rfl ?_
  refine q_VN (u' := 2) lX5_269 kX4_endSplitsWith (mX4_endSplitsWith hC1 hI (HO_of hJ) (by omega) (by omega)) dX5_uncover_36 rfl rfl rfl rfl rfl rfl rfl rfl (fun v h36 hq => ?_)
  obtain ⟨rfl, hC2, hF2⟩ := hq
  have hC2 : rC 0 (s_e1 A a.toNat) h36 := hC2
  obtain ⟨ja, jb, jc⟩ := s_e1_I (i := a.toNat) hI (HO_of hJ) (by omega)
  dsimp only [Option.toList, List.cons_append, List.nil_append]
  refine g_pop dX5_uncover_39 rfl ?_
  refine g_aload_n dX5_uncover_40 rfl ?_
  refine g_getr (q := 0) fX5_10 dX5_uncover_41 rfl rfl rfl ?_
  refine g_iload_n dX5_uncover_44 rfl ?_
  refine q_VN (u' := 2) lX5_272 kX4_endCover (mX4_endCover hC2 ja (by omega)) dX5_uncover_45 rfl rfl rfl rfl rfl rfl rfl rfl (fun v h45 hq => ?_)
  obtain ⟨rfl, hC3, hF3⟩ := hq
  dsimp only [Option.toList, List.cons_append, List.nil_append]
  refine g_pop dX5_uncover_48 rfl ?_
  refine g_iload_n dX5_uncover_49 rfl ?_
  refine g_ireturn dX5_uncover_50 rfl rfl (by decide) ?_
  exact ⟨rfl, (by unfold k_uncover; (repeat' split) <;> first | rfl | omega | contradiction), hC3, x_fin hF1 hH1 (x_fr_tr hF2 hF3)⟩
def k_unsplit (A : Ab) (a : Int) : Nat := if ¬ (0 ≤ a ∧ a < A.2.1) then 1 else if s_st A a.toNat ≠ 2 then 2 else 0
set_option maxRecDepth 100000 in
theorem mX5_unsplit {l : Launch} {G : ux_G} {h : ux_H} {a : Int} {A : Ab} {P : Nat} (hC : rC 0 A h) (hI : Inv P A) (hJ : InvF A) {Hs : List Ab} (hH : rH Hs h) (hP : P + 3000 ≤ 10000000) (ra : -2147483648 ≤ a ∧ a ≤ 2147483647) : ux_M l G yX5_unsplit iX5_unsplit 8 3 [.ref 176, .int (iI a)] h (fun v h' => v = some (.int (iI (s_sz A a.toNat))) ∧ k_unsplit A a = 0 ∧ rC 0 (s_ends A a.toNat) h' ∧ rH ((A :: Hs).take 8) h' ∧ x_frD h h') (fun E h' => h' = h ∧ xc (k_unsplit A a) ["java/lang/IndexOutOfBoundsException", "java/lang/IllegalStateException"] E) := by
  refine ux_ent (L' := [some (.ref 176), some (.int (iI a))]) kX5_unsplit rfl rfl rfl rfl ?_
  obtain ⟨i1, i2, i3, i4, i5, i6⟩ := id hI
  obtain ⟨w, hw⟩ := hH
  refine g_aload_n dX5_unsplit_0 rfl ?_
  refine g_iload_n dX5_unsplit_1 rfl ?_
  refine q_V (u' := 1) lX5_144 kX5_needLesson (mX5_needLesson hC (by omega) (by omega) (by omega)) dX5_unsplit_2 rfl rfl rfl rfl rfl rfl rfl rfl (fun v h2 hq => ?_) (fun E hx q => g_out rfl (by decide) (by obtain ⟨rfl, rfl, q3⟩ := q; exact ⟨rfl, xc_mk (k := 1) (by unfold k_unsplit; (repeat' split) <;> first | rfl | omega | contradiction) (by decide) rfl⟩))
  obtain ⟨rfl, eh2, hq2⟩ := hq
  rw [eh2]
  have hta : a.toNat < A.2.1 := by omega
  rw [iI_get (a := a) (by omega) (by omega)]
  dsimp only [Option.toList, List.cons_append, List.nil_append]
  refine g_aload_n dX5_unsplit_5 rfl ?_
  refine g_iload_n dX5_unsplit_6 rfl ?_
  refine g_iconst (v := 2) dX5_unsplit_7 (by decide) ?_
  refine q_V (u' := 2) lX5_250 kX5_needState (mX5_needState (s := 2) hC hI hJ (by assumption) (by decide)) dX5_unsplit_8 rfl rfl rfl rfl rfl rfl rfl rfl (fun v h8 hq => ?_) (fun E hx q => g_out rfl (by decide) (by obtain ⟨rfl, rfl, q3⟩ := q; exact ⟨rfl, xc_mk (k := 2) (by unfold k_unsplit; (repeat' split) <;> first | rfl | omega | contradiction) (by decide) rfl⟩))
  obtain ⟨rfl, eh8, hq8⟩ := hq
  rw [eh8]
  dsimp only [Option.toList, List.cons_append, List.nil_append]
  refine g_aload_n dX5_unsplit_11 rfl ?_
  refine g_getr (q := 177) fX5_25 dX5_unsplit_12 rfl rfl rfl ?_
  refine g_aload_n dX5_unsplit_15 rfl ?_
  refine g_getr (q := 0) fX5_10 dX5_unsplit_16 rfl rfl rfl ?_
  refine q_VN (u' := 2) lX5_84 kX0_remember (mX0_remember hC (by omega) (by omega) x_sc_0 (by decide) hw) dX5_unsplit_19 rfl rfl rfl rfl rfl rfl rfl rfl (fun v h19 hq => ?_)
  obtain ⟨rfl, hH1, hF1⟩ := hq
  have hC1 := rC_frH hC hF1
  dsimp only [Option.toList, List.cons_append, List.nil_append]
  refine g_aload_n dX5_unsplit_22 rfl ?_
  refine g_getr (q := 0) fX5_10 dX5_unsplit_23 rfl rfl rfl ?_
  refine g_iload_n dX5_unsplit_26 rfl ?_
  refine q_VN (u' := 2) lX5_294 kX4_endSplit (mX4_endSplit hC1 hI hta ((s_st2 hJ hta).mp hq8) (HO_of hJ) (by omega)) dX5_unsplit_27 rfl rfl rfl rfl rfl rfl rfl rfl (fun v h27 hq => ?_)
  obtain ⟨rfl, hC2, hF2⟩ := hq
  dsimp only [Option.toList, List.cons_append, List.nil_append]
  refine g_aload_n dX5_unsplit_30 rfl ?_
  refine g_getr (q := 0) fX5_10 dX5_unsplit_31 rfl rfl rfl ?_
  refine g_iload_n dX5_unsplit_34 rfl ?_
  refine f1_VN (u' := 2) lX5_297 kX4_sizeOf (mX4_sizeOf hC2 (Inv_ends hI (by omega)) hta) dX5_unsplit_35 rfl rfl rfl rfl rfl rfl rfl rfl ?_
  refine g_top (y := iI (s_sz A a.toNat)) (by rw [s_ends_aF _ _ 9 _ (by decide), if_neg (by omega), s_ends_aF _ _ 6 _ (by decide), if_neg (by omega)]; rfl) ?_
  refine g_ireturn dX5_unsplit_38 rfl rfl (by decide) ?_
  exact ⟨rfl, (by unfold k_unsplit; (repeat' split) <;> first | rfl | omega | contradiction), hC2, x_fin hF1 hH1 hF2⟩
def k_coverDay (a : Int) : Nat := if ¬ (0 ≤ a ∧ a < 5) then 1 else 0
set_option maxRecDepth 100000 in
theorem mX5_coverDay {l : Launch} {G : ux_G} {h : ux_H} {a : Int} {A : Ab} {P : Nat} (hC : rC 0 A h) (hI : Inv P A) (hJ : InvF A) {Hs : List Ab} (hH : rH Hs h) (hP : P + 3000 ≤ 10000000) (ra : -2147483648 ≤ a ∧ a ≤ 2147483647) : ux_M l G yX5_coverDay iX5_coverDay 9 2 [.ref 176, .int (iI a)] h (fun v h' => v = some (.int (nI (s_cvs A (s_opl A a.toNat 6)).2)) ∧ k_coverDay a = 0 ∧ rC 0 ((s_cvs A (s_opl A a.toNat 6)).1) h' ∧ rH ((A :: Hs).take 8) h' ∧ x_frD h h') (fun E h' => h' = h ∧ xc (k_coverDay a) ["java/lang/IndexOutOfBoundsException"] E) := by
  refine ux_ent (L' := [some (.ref 176), some (.int (iI a))]) kX5_coverDay rfl rfl rfl rfl ?_
  obtain ⟨i1, i2, i3, i4, i5, i6⟩ := id hI
  obtain ⟨w, hw⟩ := hH
  refine g_iload_n dX5_coverDay_0 rfl ?_
  refine g_iconst (v := 5) dX5_coverDay_1 (by decide) ?_
  refine q_S (u' := 1) lX5_104 kX5_needIndex (mX5_needIndex) dX5_coverDay_2 rfl rfl rfl rfl rfl rfl (fun v h2 hq => ?_) (fun E hx q => g_out rfl (by decide) (by obtain ⟨rfl, rfl, q3⟩ := q; have q3 := (not_congr (x_ix (a := a) (n := 5) (by decide) ra (by decide))).mp q3; exact ⟨rfl, xc_mk (k := 1) (by unfold k_coverDay; (repeat' split) <;> first | rfl | omega | contradiction) (by decide) rfl⟩))
  obtain ⟨rfl, eh2, hq2⟩ := hq
  rw [eh2]
  have hq2 := (x_ix (a := a) (n := 5) (by decide) ra (by decide)).mp hq2
  have hta : a.toNat < 5 := by omega
  rw [iI_get (a := a) (by omega) (by omega)]
  dsimp only [Option.toList, List.cons_append, List.nil_append]
  refine g_aload_n dX5_coverDay_5 rfl ?_
  refine g_getr (q := 177) fX5_25 dX5_coverDay_6 rfl rfl rfl ?_
  refine g_aload_n dX5_coverDay_9 rfl ?_
  refine g_getr (q := 0) fX5_10 dX5_coverDay_10 rfl rfl rfl ?_
  refine q_VN (u' := 1) lX5_84 kX0_remember (mX0_remember hC (by omega) (by omega) x_sc_0 (by decide) hw) dX5_coverDay_13 rfl rfl rfl rfl rfl rfl rfl rfl (fun v h13 hq => ?_)
  obtain ⟨rfl, hH1, hF1⟩ := hq
  have hC1 := rC_frH hC hF1
  dsimp only [Option.toList, List.cons_append, List.nil_append]
  refine g_aload_n dX5_coverDay_16 rfl ?_
  refine g_getr (q := 0) fX5_10 dX5_coverDay_17 rfl rfl rfl ?_
  refine g_iload_n dX5_coverDay_20 rfl ?_
  refine q_VN (u' := 1) lX5_308 kX4_coverOpenLessons (mX4_coverOpenLessons hC1 hI hJ (by omega) hta) dX5_coverDay_21 rfl rfl rfl rfl rfl rfl rfl rfl (fun v h21 hq => ?_)
  obtain ⟨rfl, hC2, hF2⟩ := hq
  dsimp only [Option.toList, List.cons_append, List.nil_append]
  refine g_ireturn dX5_coverDay_24 rfl rfl (by decide) ?_
  exact ⟨rfl, (by unfold k_coverDay; (repeat' split) <;> first | rfl | omega | contradiction), hC2, x_fin hF1 hH1 hF2⟩
def s_host (A : Ab) (i : Nat) (m : Int) : Bool := decide (s_act A i ≠ -1 ∧ s_load A i + m ≤ aF A 7 (aF A 12 i).toNat)
theorem s_host_a {A : Ab} {i : Nat} {m : Int} (h : s_host A i m = true) : s_act A i ≠ -1 := (of_decide_eq_true h).1
def k_split (A : Ab) (a b c : Int) : Nat := if ¬ (0 ≤ a ∧ a < A.2.1) ∨ ¬ (0 ≤ b ∧ b < A.2.1) ∨ ¬ (0 ≤ c ∧ c < A.2.1) then 1 else if s_st A a.toNat ≠ 3 then 2 else if b = c ∨ ¬ aF A 8 a.toNat = aF A 8 b.toNat ∨ ¬ aF A 8 a.toNat = aF A 8 c.toNat then 3 else if ¬ s_host A b.toNat ((s_sz A a.toNat + 1) / 2) = true ∨ ¬ s_host A c.toNat (s_sz A a.toNat / 2) = true then 4 else 0
set_option maxRecDepth 100000 in
theorem mX5_split {l : Launch} {G : ux_G} {h : ux_H} {a b c : Int} {A : Ab} {P : Nat} (hC : rC 0 A h) (hI : Inv P A) (hJ : InvF A) {Hs : List Ab} (hH : rH Hs h) (hP : P + 3000 ≤ 10000000) (ra : -2147483648 ≤ a ∧ a ≤ 2147483647) (rb : -2147483648 ≤ b ∧ b ≤ 2147483647) (rc : -2147483648 ≤ c ∧ c ≤ 2147483647) : ux_M l G yX5_split iX5_split 10 5 [.ref 176, .int (iI a), .int (iI b), .int (iI c)] h (fun v h' => v = some (.int (iI ((s_sz A a.toNat + 1) / 2))) ∧ k_split A a b c = 0 ∧ rC 0 (s_split A a.toNat b.toNat c.toNat) h' ∧ rH ((A :: Hs).take 8) h' ∧ x_frD h h') (fun E h' => h' = h ∧ xc (k_split A a b c) ["java/lang/IndexOutOfBoundsException", "java/lang/IllegalStateException", "java/lang/IllegalArgumentException", "java/lang/UnsupportedOperationException"] E) := by
  refine ux_ent (L' := [some (.ref 176), some (.int (iI a)), some (.int (iI b)), some (.int (iI c)), none]) kX5_split rfl rfl rfl rfl ?_
  obtain ⟨i1, i2, i3, i4, i5, i6⟩ := id hI
  obtain ⟨w, hw⟩ := hH
  refine g_aload_n dX5_split_0 rfl ?_
  refine g_iload_n dX5_split_1 rfl ?_
  refine q_V (u' := 1) lX5_144 kX5_needLesson (mX5_needLesson hC (by omega) (by omega) (by omega)) dX5_split_2 rfl rfl rfl rfl rfl rfl rfl rfl (fun v h2 hq => ?_) (fun E hx q => g_out rfl (by decide) (by obtain ⟨rfl, rfl, q3⟩ := q; exact ⟨rfl, xc_mk (k := 1) (by unfold k_split; (repeat' split) <;> first | rfl | omega | contradiction) (by decide) rfl⟩))
  obtain ⟨rfl, eh2, hq2⟩ := hq
  rw [eh2]
  have hta : a.toNat < A.2.1 := by omega
  rw [iI_get (a := a) (by omega) (by omega)]
  dsimp only [Option.toList, List.cons_append, List.nil_append]
  refine g_aload_n dX5_split_5 rfl ?_
  refine g_iload_n dX5_split_6 rfl ?_
  refine q_V (u' := 2) lX5_144 kX5_needLesson (mX5_needLesson hC (by omega) (by omega) (by omega)) dX5_split_7 rfl rfl rfl rfl rfl rfl rfl rfl (fun v h7 hq => ?_) (fun E hx q => g_out rfl (by decide) (by obtain ⟨rfl, rfl, q3⟩ := q; exact ⟨rfl, xc_mk (k := 1) (by unfold k_split; (repeat' split) <;> first | rfl | omega | contradiction) (by decide) rfl⟩))
  obtain ⟨rfl, eh7, hq7⟩ := hq
  rw [eh7]
  have htb : b.toNat < A.2.1 := by omega
  rw [iI_get (a := b) (by omega) (by omega)]
  dsimp only [Option.toList, List.cons_append, List.nil_append]
  refine g_aload_n dX5_split_10 rfl ?_
  refine g_iload_n dX5_split_11 rfl ?_
  refine q_V (u' := 3) lX5_144 kX5_needLesson (mX5_needLesson hC (by omega) (by omega) (by omega)) dX5_split_12 rfl rfl rfl rfl rfl rfl rfl rfl (fun v h12 hq => ?_) (fun E hx q => g_out rfl (by decide) (by obtain ⟨rfl, rfl, q3⟩ := q; exact ⟨rfl, xc_mk (k := 1) (by unfold k_split; (repeat' split) <;> first | rfl | omega | contradiction) (by decide) rfl⟩))
  obtain ⟨rfl, eh12, hq12⟩ := hq
  rw [eh12]
  have htc : c.toNat < A.2.1 := by omega
  rw [iI_get (a := c) (by omega) (by omega)]
  dsimp only [Option.toList, List.cons_append, List.nil_append]
  refine g_aload_n dX5_split_15 rfl ?_
  refine g_iload_n dX5_split_16 rfl ?_
  refine g_iconst (v := 3) dX5_split_17 (by decide) ?_
  refine q_V (u' := 4) lX5_250 kX5_needState (mX5_needState (s := 3) hC hI hJ (by assumption) (by decide)) dX5_split_18 rfl rfl rfl rfl rfl rfl rfl rfl (fun v h18 hq => ?_) (fun E hx q => g_out rfl (by decide) (by obtain ⟨rfl, rfl, q3⟩ := q; exact ⟨rfl, xc_mk (k := 2) (by unfold k_split; (repeat' split) <;> first | rfl | omega | contradiction) (by decide) rfl⟩))
  obtain ⟨rfl, eh18, hq18⟩ := hq
  rw [eh18]
  dsimp only [Option.toList, List.cons_append, List.nil_append]
  refine g_iload_n dX5_split_21 rfl ?_
  refine g_iload_n dX5_split_22 rfl ?_
  refine g_icmp_eq (tgt := 50) dX5_split_23 (by decide) (fun c23 => ?_) (fun c23 => ?_)
  · rw [nI_iI, nI_iI, iI_eq (by omega) (by omega) (by omega) (by omega)] at c23
    refine g_throwW tX5_278_133 dX5_split_50 dX5_split_53 dX5_split_54 dX5_split_57 dX5_split_60 rfl rfl (by decide) ?_
    exact ⟨rfl, xc_mk (k := 3) (by unfold k_split; rw [if_neg (by omega), if_neg (by omega), if_pos (by omega)]) (by decide) rfl⟩
  · rw [nI_iI, nI_iI, iI_eq (by omega) (by omega) (by omega) (by omega)] at c23
    refine g_aload_n dX5_split_26 rfl ?_
    refine g_getr (q := 0) fX5_10 dX5_split_27 rfl rfl rfl ?_
    refine g_iload_n dX5_split_30 rfl ?_
    refine g_iload_n dX5_split_31 rfl ?_
    refine f1_VN (u' := 4) lX5_275 kX4_areTogether (mX4_areTogether hC hI hta htb) dX5_split_32 rfl rfl rfl rfl rfl rfl rfl rfl ?_
    refine g_if_eq (tgt := 50) dX5_split_35 (by decide) (fun c35 => ?_) (fun c35 => ?_)
    · have q35 : ¬ aF A 8 a.toNat = aF A 8 b.toNat := xb_0.mp c35
      refine g_throwW tX5_278_133 dX5_split_50 dX5_split_53 dX5_split_54 dX5_split_57 dX5_split_60 rfl rfl (by decide) ?_
      exact ⟨rfl, xc_mk (k := 3) (by unfold k_split; rw [if_neg (by omega), if_neg (by omega), if_pos (by omega)]) (by decide) rfl⟩
    · have q35 : aF A 8 a.toNat = aF A 8 b.toNat := xb_n0 c35
      refine g_aload_n dX5_split_38 rfl ?_
      refine g_getr (q := 0) fX5_10 dX5_split_39 rfl rfl rfl ?_
      refine g_iload_n dX5_split_42 rfl ?_
      refine g_iload_n dX5_split_43 rfl ?_
      refine f1_VN (u' := 4) lX5_275 kX4_areTogether (mX4_areTogether hC hI hta htc) dX5_split_44 rfl rfl rfl rfl rfl rfl rfl rfl ?_
      refine g_if_ne (tgt := 61) dX5_split_47 (by decide) (fun c47 => ?_) (fun c47 => ?_)
      · have q47 : aF A 8 a.toNat = aF A 8 c.toNat := xb_n0 c47
        refine g_aload_n dX5_split_61 rfl ?_
        refine g_getr (q := 0) fX5_10 dX5_split_62 rfl rfl rfl ?_
        refine g_iload_n dX5_split_65 rfl ?_
        have i6a := i6 _ hta
        have i5a := i5 (aF A 9 a.toNat).toNat (by omega)
        have sz : 1 ≤ s_sz A a.toNat ∧ s_sz A a.toNat ≤ 30 := ⟨i5a.1, i5a.2.1⟩
        refine f1_VN (u' := 4) lX5_280 kX4_firstPart (mX4_firstPart hC hI hta) dX5_split_66 rfl rfl rfl rfl rfl rfl rfl rfl ?_
        refine s_iw dX5_split_69 rfl rfl rfl ?_
        dsimp only [List.set]
        refine g_aload_n dX5_split_71 rfl ?_
        refine g_getr (q := 0) fX5_10 dX5_split_72 rfl rfl rfl ?_
        refine g_iload_n dX5_split_75 rfl ?_
        refine g_iload dX5_split_76 rfl ?_
        refine f1_VN (u' := 4) lX5_283 kX4_canHost (mX4_canHost hC hI (by omega) htb) dX5_split_78 rfl rfl rfl rfl rfl rfl rfl rfl ?_
        refine g_if_eq (tgt := 103) dX5_split_81 (by decide) (fun c81 => ?_) (fun c81 => ?_)
        · have q81 : ¬ s_host A b.toNat ((s_sz A a.toNat + 1) / 2) = true := fun y => xb_0.mp c81 (of_decide_eq_true y)
          refine g_throwW tX5_289_138 dX5_split_103 dX5_split_106 dX5_split_107 dX5_split_110 dX5_split_113 rfl rfl (by decide) ?_
          exact ⟨rfl, xc_mk (k := 4) (by unfold k_split; rw [if_neg (by omega), if_neg (by omega), if_neg (by omega), if_pos (by first | exact Or.inl q81 | exact Or.inr q100)]) (by decide) rfl⟩
        · have q81 : s_host A b.toNat ((s_sz A a.toNat + 1) / 2) = true := decide_eq_true (xb_n0 c81)
          refine g_aload_n dX5_split_84 rfl ?_
          refine g_getr (q := 0) fX5_10 dX5_split_85 rfl rfl rfl ?_
          refine g_iload_n dX5_split_88 rfl ?_
          refine g_aload_n dX5_split_89 rfl ?_
          refine g_getr (q := 0) fX5_10 dX5_split_90 rfl rfl rfl ?_
          refine g_iload_n dX5_split_93 rfl ?_
          refine f1_VN (u' := 4) lX5_286 kX4_secondPart (mX4_secondPart hC hI hta) dX5_split_94 rfl rfl rfl rfl rfl rfl rfl rfl ?_
          refine f1_VN (u' := 4) lX5_283 kX4_canHost (mX4_canHost hC hI (by omega) htc) dX5_split_97 rfl rfl rfl rfl rfl rfl rfl rfl ?_
          refine g_if_ne (tgt := 114) dX5_split_100 (by decide) (fun c100 => ?_) (fun c100 => ?_)
          · have q100 : s_host A c.toNat (s_sz A a.toNat / 2) = true := decide_eq_true (xb_n0 c100)
            refine g_aload_n dX5_split_114 rfl ?_
            refine g_getr (q := 177) fX5_25 dX5_split_115 rfl rfl rfl ?_
            refine g_aload_n dX5_split_118 rfl ?_
            refine g_getr (q := 0) fX5_10 dX5_split_119 rfl rfl rfl ?_
            refine q_VN (u' := 4) lX5_84 kX0_remember (mX0_remember hC (by omega) (by omega) x_sc_0 (by decide) hw) dX5_split_122 rfl rfl rfl rfl rfl rfl rfl rfl (fun v h122 hq => ?_)
            obtain ⟨rfl, hH1, hF1⟩ := hq
            have hC1 := rC_frH hC hF1
            dsimp only [Option.toList, List.cons_append, List.nil_append]
            refine g_aload_n dX5_split_125 rfl ?_
            refine g_getr (q := 0) fX5_10 dX5_split_126 rfl rfl rfl ?_
            refine g_iload_n dX5_split_129 rfl ?_
            refine g_iload_n dX5_split_130 rfl ?_
            refine g_iload_n dX5_split_131 rfl ?_
            refine q_VN (u' := 4) lX5_291 kX4_beginSplit (mX4_beginSplit hC1 hI hta htb htc (s_host_a q81) (s_host_a q100) (by omega)) dX5_split_132 rfl rfl rfl rfl rfl rfl rfl rfl (fun v h132 hq => ?_)
            obtain ⟨rfl, hC2, hF2⟩ := hq
            dsimp only [Option.toList, List.cons_append, List.nil_append]
            refine g_iload dX5_split_135 rfl ?_
            refine g_ireturn dX5_split_137 rfl rfl (by decide) ?_
            exact ⟨rfl, by unfold k_split; rw [if_neg (by omega), if_neg (by omega), if_neg (by omega), if_neg (by rintro (y | y); exact y q81; exact y q100)], hC2, x_fin hF1 hH1 hF2⟩
          · have q100 : ¬ s_host A c.toNat (s_sz A a.toNat / 2) = true := fun y => xb_0.mp c100 (of_decide_eq_true y)
            refine g_throwW tX5_289_138 dX5_split_103 dX5_split_106 dX5_split_107 dX5_split_110 dX5_split_113 rfl rfl (by decide) ?_
            exact ⟨rfl, xc_mk (k := 4) (by unfold k_split; rw [if_neg (by omega), if_neg (by omega), if_neg (by omega), if_pos (by first | exact Or.inl q81 | exact Or.inr q100)]) (by decide) rfl⟩
      · have q47 : ¬ aF A 8 a.toNat = aF A 8 c.toNat := xb_0.mp c47
        refine g_throwW tX5_278_133 dX5_split_50 dX5_split_53 dX5_split_54 dX5_split_57 dX5_split_60 rfl rfl (by decide) ?_
        exact ⟨rfl, xc_mk (k := 3) (by unfold k_split; rw [if_neg (by omega), if_neg (by omega), if_pos (by omega)]) (by decide) rfl⟩
