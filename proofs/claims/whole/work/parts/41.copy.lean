/-! THE CLASS: faults of a lesson; a school copied. -/
theorem x_wl {a n : Int} {k : Int32} (hk : k = iI n) (h1 : -2147483648 ≤ a) (h2 : a ≤ 2147483647) (h3 : -2147483648 ≤ n) (h4 : n ≤ 2147483647) : (if (0 : Int32) ≤ iI a ∧ iI a ≤ k then (1 : Int32) else 0) = 0 ↔ ¬ (0 ≤ a ∧ a ≤ n) := by
  rw [xb_0, hk, iI_0, iI_le (by omega) (by omega) (by omega) (by omega), iI_le (by omega) (by omega) (by omega) (by omega)]
def s_fault (A : Ab) (a b c d e : Int) : Nat :=
  if ¬ ((0 ≤ a ∧ a ≤ 29) ∧ (0 ≤ b ∧ b ≤ 5) ∧ (0 ≤ c ∧ c ≤ 5) ∧ (0 ≤ d ∧ d ≤ (A.1 : Int) - 1) ∧ (0 ≤ e ∧ e ≤ 5)) then 1
  else if s_find A 9 a b ≠ -1 ∨ s_find A 11 a d ≠ -1 ∨ s_find A 12 a e ≠ -1 ∨ s_find A 13 a d ≠ -1 ∨ aF A 7 e.toNat < aF A 6 b.toNat then 2
  else if 40 ≤ A.2.1 then 3 else 0
set_option maxRecDepth 100000 in
theorem mX4_faultOfLesson {l : Launch} {G : ux_G} {h : ux_H} {a b c d e : Int} {A : Ab} {P : Nat} (hC : rC 0 A h) (hI : Inv P A) (ra : -2147483648 ≤ a ∧ a ≤ 2147483647) (rb : -2147483648 ≤ b ∧ b ≤ 2147483647) (rc : -2147483648 ≤ c ∧ c ≤ 2147483647) (rd : -2147483648 ≤ d ∧ d ≤ 2147483647) (re : -2147483648 ≤ e ∧ e ≤ 2147483647) : ux_F l G yX4_faultOfLesson iX4_faultOfLesson 3 0 [.ref 0, .int (iI a), .int (iI b), .int (iI c), .int (iI d), .int (iI e)] h (some (.int (nI (s_fault A a b c d e)))) (h) := by
  unfold ux_F
  refine ux_ent (L' := [some (.ref 0), some (.int (iI a)), some (.int (iI b)), some (.int (iI c)), some (.int (iI d)), some (.int (iI e))]) kX4_faultOfLesson rfl rfl rfl rfl ?_
  obtain ⟨i1, i2, i3, i4, i5, i6⟩ := id hI
  refine g_iload_n dX4_faultOfLesson_0 rfl ?_
  refine g_iconst (v := 0) dX4_faultOfLesson_1 (by decide) ?_
  refine g_bipush (v := 29) dX4_faultOfLesson_2 (by decide) ?_
  refine f1_SN (u' := 0) lX4_126 kX5_isWithin (mX5_isWithin) dX4_faultOfLesson_4 rfl rfl rfl rfl rfl rfl ?_
  refine g_if_eq (tgt := 53) dX4_faultOfLesson_7 (by decide) (fun c7 => ?_) (fun c7 => ?_)
  · have q7 := (x_wl (a := a) (n := 29) (by decide) (by omega) (by omega) (by omega) (by omega)).mp c7
    refine g_iconst (v := 1) dX4_faultOfLesson_53 (by decide) ?_
    refine g_ireturn dX4_faultOfLesson_54 rfl rfl (by decide) ?_
    exact ⟨by unfold s_fault; rw [if_pos (by omega)]; rfl, rfl⟩
  · have q7 := Decidable.not_not.mp (mt (x_wl (a := a) (n := 29) (by decide) (by omega) (by omega) (by omega) (by omega)).mpr c7)
    refine g_iload_n dX4_faultOfLesson_10 rfl ?_
    refine g_iconst (v := 0) dX4_faultOfLesson_11 (by decide) ?_
    refine g_iconst (v := 5) dX4_faultOfLesson_12 (by decide) ?_
    refine f1_SN (u' := 0) lX4_126 kX5_isWithin (mX5_isWithin) dX4_faultOfLesson_13 rfl rfl rfl rfl rfl rfl ?_
    refine g_if_eq (tgt := 53) dX4_faultOfLesson_16 (by decide) (fun c16 => ?_) (fun c16 => ?_)
    · have q16 := (x_wl (a := b) (n := 5) (by decide) (by omega) (by omega) (by omega) (by omega)).mp c16
      refine g_iconst (v := 1) dX4_faultOfLesson_53 (by decide) ?_
      refine g_ireturn dX4_faultOfLesson_54 rfl rfl (by decide) ?_
      exact ⟨by unfold s_fault; rw [if_pos (by omega)]; rfl, rfl⟩
    · have q16 := Decidable.not_not.mp (mt (x_wl (a := b) (n := 5) (by decide) (by omega) (by omega) (by omega) (by omega)).mpr c16)
      refine g_iload_n dX4_faultOfLesson_19 rfl ?_
      refine g_iconst (v := 0) dX4_faultOfLesson_20 (by decide) ?_
      refine g_iconst (v := 5) dX4_faultOfLesson_21 (by decide) ?_
      refine f1_SN (u' := 0) lX4_126 kX5_isWithin (mX5_isWithin) dX4_faultOfLesson_22 rfl rfl rfl rfl rfl rfl ?_
      refine g_if_eq (tgt := 53) dX4_faultOfLesson_25 (by decide) (fun c25 => ?_) (fun c25 => ?_)
      · have q25 := (x_wl (a := c) (n := 5) (by decide) (by omega) (by omega) (by omega) (by omega)).mp c25
        refine g_iconst (v := 1) dX4_faultOfLesson_53 (by decide) ?_
        refine g_ireturn dX4_faultOfLesson_54 rfl rfl (by decide) ?_
        exact ⟨by unfold s_fault; rw [if_pos (by omega)]; rfl, rfl⟩
      · have q25 := Decidable.not_not.mp (mt (x_wl (a := c) (n := 5) (by decide) (by omega) (by omega) (by omega) (by omega)).mpr c25)
        refine g_iload dX4_faultOfLesson_28 rfl ?_
        refine g_iconst (v := 0) dX4_faultOfLesson_30 (by decide) ?_
        refine g_aload_n dX4_faultOfLesson_31 rfl ?_
        refine g_geti fX4_9 dX4_faultOfLesson_32 rfl rfl ?_
        refine g_top hC.1 ?_
        refine g_iconst (v := 1) dX4_faultOfLesson_35 (by decide) ?_
        refine g_isub dX4_faultOfLesson_36 ?_
        refine g_top (y := iI ((A.1 : Int) - 1)) (by rw [nI_iI, iI_1, iI_sub]) ?_
        refine f1_SN (u' := 0) lX4_126 kX5_isWithin (mX5_isWithin) dX4_faultOfLesson_37 rfl rfl rfl rfl rfl rfl ?_
        refine g_if_eq (tgt := 53) dX4_faultOfLesson_40 (by decide) (fun c40 => ?_) (fun c40 => ?_)
        · have q40 := (x_wl (a := d) (n := (A.1 : Int) - 1) rfl (by omega) (by omega) (by omega) (by omega)).mp c40
          refine g_iconst (v := 1) dX4_faultOfLesson_53 (by decide) ?_
          refine g_ireturn dX4_faultOfLesson_54 rfl rfl (by decide) ?_
          exact ⟨by unfold s_fault; rw [if_pos (by omega)]; rfl, rfl⟩
        · have q40 := Decidable.not_not.mp (mt (x_wl (a := d) (n := (A.1 : Int) - 1) rfl (by omega) (by omega) (by omega) (by omega)).mpr c40)
          refine g_iload dX4_faultOfLesson_43 rfl ?_
          refine g_iconst (v := 0) dX4_faultOfLesson_45 (by decide) ?_
          refine g_iconst (v := 5) dX4_faultOfLesson_46 (by decide) ?_
          refine f1_SN (u' := 0) lX4_126 kX5_isWithin (mX5_isWithin) dX4_faultOfLesson_47 rfl rfl rfl rfl rfl rfl ?_
          refine g_if_ne (tgt := 55) dX4_faultOfLesson_50 (by decide) (fun c50 => ?_) (fun c50 => ?_)
          · have q50 := Decidable.not_not.mp (mt (x_wl (a := e) (n := 5) (by decide) (by omega) (by omega) (by omega) (by omega)).mpr c50)
            refine g_aload_n dX4_faultOfLesson_55 rfl ?_
            refine g_iload_n dX4_faultOfLesson_56 rfl ?_
            refine g_aload_n dX4_faultOfLesson_57 rfl ?_
            refine g_getr (q := 9) fX4_49 dX4_faultOfLesson_58 rfl rfl rfl ?_
            refine g_iload_n dX4_faultOfLesson_61 rfl ?_
            refine f1_V (u' := 0) lX4_93 kX4_lessonIn (mX4_lessonIn (f := 9) hC hI rfl (by omega) (by omega) (fun i hi => by have := i6 i hi; omega)) dX4_faultOfLesson_62 rfl rfl rfl rfl rfl rfl rfl rfl ?_
            refine g_iconst (v := (-1)) dX4_faultOfLesson_65 (by decide) ?_
            refine g_icmp_ne (tgt := 134) dX4_faultOfLesson_66 (by decide) (fun c66 => ?_) (fun c66 => ?_)
            · have r66 := s_find_r hI 9 a b
              rw [xqm (by omega) (by omega)] at c66
              refine g_iconst (v := 2) dX4_faultOfLesson_134 (by decide) ?_
              refine g_ireturn dX4_faultOfLesson_135 rfl rfl (by decide) ?_
              exact ⟨by unfold s_fault; rw [if_neg (by omega), if_pos (by omega)]; rfl, rfl⟩
            · have r66 := s_find_r hI 9 a b
              rw [xqm (by omega) (by omega)] at c66
              refine g_aload_n dX4_faultOfLesson_69 rfl ?_
              refine g_iload_n dX4_faultOfLesson_70 rfl ?_
              refine g_aload_n dX4_faultOfLesson_71 rfl ?_
              refine g_getr (q := 11) fX4_55 dX4_faultOfLesson_72 rfl rfl rfl ?_
              refine g_iload dX4_faultOfLesson_75 rfl ?_
              refine f1_V (u' := 0) lX4_93 kX4_lessonIn (mX4_lessonIn (f := 11) hC hI rfl (by omega) (by omega) (fun i hi => by have := i6 i hi; omega)) dX4_faultOfLesson_77 rfl rfl rfl rfl rfl rfl rfl rfl ?_
              refine g_iconst (v := (-1)) dX4_faultOfLesson_80 (by decide) ?_
              refine g_icmp_ne (tgt := 134) dX4_faultOfLesson_81 (by decide) (fun c81 => ?_) (fun c81 => ?_)
              · have r81 := s_find_r hI 11 a d
                rw [xqm (by omega) (by omega)] at c81
                refine g_iconst (v := 2) dX4_faultOfLesson_134 (by decide) ?_
                refine g_ireturn dX4_faultOfLesson_135 rfl rfl (by decide) ?_
                exact ⟨by unfold s_fault; rw [if_neg (by omega), if_pos (by omega)]; rfl, rfl⟩
              · have r81 := s_find_r hI 11 a d
                rw [xqm (by omega) (by omega)] at c81
                refine g_aload_n dX4_faultOfLesson_84 rfl ?_
                refine g_iload_n dX4_faultOfLesson_85 rfl ?_
                refine g_aload_n dX4_faultOfLesson_86 rfl ?_
                refine g_getr (q := 12) fX4_58 dX4_faultOfLesson_87 rfl rfl rfl ?_
                refine g_iload dX4_faultOfLesson_90 rfl ?_
                refine f1_V (u' := 0) lX4_93 kX4_lessonIn (mX4_lessonIn (f := 12) hC hI rfl (by omega) (by omega) (fun i hi => by have := i6 i hi; omega)) dX4_faultOfLesson_92 rfl rfl rfl rfl rfl rfl rfl rfl ?_
                refine g_iconst (v := (-1)) dX4_faultOfLesson_95 (by decide) ?_
                refine g_icmp_ne (tgt := 134) dX4_faultOfLesson_96 (by decide) (fun c96 => ?_) (fun c96 => ?_)
                · have r96 := s_find_r hI 12 a e
                  rw [xqm (by omega) (by omega)] at c96
                  refine g_iconst (v := 2) dX4_faultOfLesson_134 (by decide) ?_
                  refine g_ireturn dX4_faultOfLesson_135 rfl rfl (by decide) ?_
                  exact ⟨by unfold s_fault; rw [if_neg (by omega), if_pos (by omega)]; rfl, rfl⟩
                · have r96 := s_find_r hI 12 a e
                  rw [xqm (by omega) (by omega)] at c96
                  refine g_aload_n dX4_faultOfLesson_99 rfl ?_
                  refine g_iload_n dX4_faultOfLesson_100 rfl ?_
                  refine g_aload_n dX4_faultOfLesson_101 rfl ?_
                  refine g_getr (q := 13) fX4_61 dX4_faultOfLesson_102 rfl rfl rfl ?_
                  refine g_iload dX4_faultOfLesson_105 rfl ?_
                  refine f1_V (u' := 0) lX4_93 kX4_lessonIn (mX4_lessonIn (f := 13) hC hI rfl (by omega) (by omega) (fun i hi => by have := i6 i hi; omega)) dX4_faultOfLesson_107 rfl rfl rfl rfl rfl rfl rfl rfl ?_
                  refine g_iconst (v := (-1)) dX4_faultOfLesson_110 (by decide) ?_
                  refine g_icmp_ne (tgt := 134) dX4_faultOfLesson_111 (by decide) (fun c111 => ?_) (fun c111 => ?_)
                  · have r111 := s_find_r hI 13 a d
                    rw [xqm (by omega) (by omega)] at c111
                    refine g_iconst (v := 2) dX4_faultOfLesson_134 (by decide) ?_
                    refine g_ireturn dX4_faultOfLesson_135 rfl rfl (by decide) ?_
                    exact ⟨by unfold s_fault; rw [if_neg (by omega), if_pos (by omega)]; rfl, rfl⟩
                  · have r111 := s_find_r hI 13 a d
                    rw [xqm (by omega) (by omega)] at c111
                    refine g_aload_n dX4_faultOfLesson_114 rfl ?_
                    refine g_getr (q := 6) fX4_40 dX4_faultOfLesson_115 rfl rfl rfl ?_
                    refine g_iload_n dX4_faultOfLesson_118 rfl ?_
                    refine g_top (y := nI b.toNat) (iI_get (by omega) (by omega)) ?_
                    have k6 := i5 b.toNat (by omega)
                    refine f1_SN (u' := 0) lX4_85 kX5_at (mA_c (f := 6) hC (by omega) rfl) dX4_faultOfLesson_119 rfl rfl rfl rfl rfl rfl ?_
                    refine g_aload_n dX4_faultOfLesson_122 rfl ?_
                    refine g_getr (q := 7) fX4_43 dX4_faultOfLesson_123 rfl rfl rfl ?_
                    refine g_iload dX4_faultOfLesson_126 rfl ?_
                    refine g_top (y := nI e.toNat) (iI_get (by omega) (by omega)) ?_
                    have k7 := i5 e.toNat (by omega)
                    refine f1_SN (u' := 0) lX4_85 kX5_at (mA_c (f := 7) hC (by omega) rfl) dX4_faultOfLesson_128 rfl rfl rfl rfl rfl rfl ?_
                    refine g_icmp_le (tgt := 136) dX4_faultOfLesson_131 (by decide) (fun c131 => ?_) (fun c131 => ?_)
                    · rw [iI_le (by omega) (by omega) (by omega) (by omega)] at c131
                      refine g_aload_n dX4_faultOfLesson_136 rfl ?_
                      refine g_geti fX4_15 dX4_faultOfLesson_137 rfl rfl ?_
                      refine g_top hC.2.1 ?_
                      refine g_bipush (v := 40) dX4_faultOfLesson_140 (by decide) ?_
                      refine g_icmp_lt (tgt := 149) dX4_faultOfLesson_142 (by decide) (fun c142 => ?_) (fun c142 => ?_)
                      · rw [nI_iI, show (40 : Int32) = iI 40 by decide, iI_lt (by omega) (by omega) (by omega) (by omega)] at c142
                        refine g_iconst (v := 0) dX4_faultOfLesson_149 (by decide) ?_
                        refine g_ireturn dX4_faultOfLesson_150 rfl rfl (by decide) ?_
                        first
                        | exact ⟨by unfold s_fault; rw [if_neg (by omega), if_neg (by omega), if_pos (by omega)]; rfl, rfl⟩
                        | exact ⟨by unfold s_fault; rw [if_neg (by omega), if_neg (by omega), if_neg (by omega)]; rfl, rfl⟩
                      · rw [nI_iI, show (40 : Int32) = iI 40 by decide, iI_lt (by omega) (by omega) (by omega) (by omega)] at c142
                        refine g_iconst (v := 3) dX4_faultOfLesson_145 (by decide) ?_
                        refine g_goto (tgt := 150) dX4_faultOfLesson_146 (by decide) ?_
                        refine g_ireturn dX4_faultOfLesson_150 rfl rfl (by decide) ?_
                        first
                        | exact ⟨by unfold s_fault; rw [if_neg (by omega), if_neg (by omega), if_pos (by omega)]; rfl, rfl⟩
                        | exact ⟨by unfold s_fault; rw [if_neg (by omega), if_neg (by omega), if_neg (by omega)]; rfl, rfl⟩
                    · rw [iI_le (by omega) (by omega) (by omega) (by omega)] at c131
                      refine g_iconst (v := 2) dX4_faultOfLesson_134 (by decide) ?_
                      refine g_ireturn dX4_faultOfLesson_135 rfl rfl (by decide) ?_
                      exact ⟨by unfold s_fault; rw [if_neg (by omega), if_pos (by omega)]; rfl, rfl⟩
          · have q50 := (x_wl (a := e) (n := 5) (by decide) (by omega) (by omega) (by omega) (by omega)).mp c50
            refine g_iconst (v := 1) dX4_faultOfLesson_53 (by decide) ?_
            refine g_ireturn dX4_faultOfLesson_54 rfl rfl (by decide) ?_
            exact ⟨by unfold s_fault; rw [if_pos (by omega)]; rfl, rfl⟩
def x_sc (c : Nat) : Prop := c < 176 ∧ c % 16 = 0
theorem sc_kd0 : ∀ c, c < 176 → c % 16 = 0 → ux_kd c = 4 := by decide +kernel
theorem sc_rn0 : ∀ c, c < 176 → c % 16 = 0 → ∀ j, j < 4 → ux_rf c j = none := by decide +kernel
theorem sc_rf0 : ∀ c, c < 176 → c % 16 = 0 → ∀ j, j < 15 → ux_rf c (j + 4) = some (c + (j + 1)) := by decide +kernel
theorem sc_k0 : ∀ c, c < 176 → c % 16 = 0 → ∀ n, n < 15 → ux_kd (c + (n + 1)) = 10 ∧ ux_ln (c + (n + 1)) = (if n < 5 then 8 else if n < 7 then 6 else 40) := by decide +kernel
theorem sc_kd {c : Nat} (h : x_sc c) : ux_kd c = 4 := sc_kd0 c h.1 h.2
theorem sc_rn {c j : Nat} (h : x_sc c) (hj : Nat.ble j 3 = true) : ux_rf c j = none := sc_rn0 c h.1 h.2 j (Nat.lt_succ_of_le (Nat.le_of_ble_eq_true hj))
theorem sc_rf {c j : Nat} (h : x_sc c) (hj : Nat.ble j 14 = true) : ux_rf c (j + 4) = some (c + (j + 1)) := sc_rf0 c h.1 h.2 j (Nat.lt_succ_of_le (Nat.le_of_ble_eq_true hj))
theorem sc_q {c j : Nat} (h : x_sc c) (hj : Nat.ble j 14 = true) : Nat.ble (c + (j + 1)) 203 = true := by
  have h2 := Nat.le_of_ble_eq_true hj
  exact Nat.ble_eq_true_of_le (by have := h.1; omega)
def x_cpn (h : ux_H) (ca cb : Nat) : Nat → ux_H
  | 0 => xsi (xsi (xsi (xsi h ca 0 (xgi h cb 0)) ca 1 (xgi h cb 1)) ca 2 (xgi h cb 2)) ca 3 (xgi h cb 3)
  | n + 1 => xcopy (x_cpn h ca cb n) (cb + (n + 1)) (ca + (n + 1)) (ux_ln (cb + (n + 1)))
def x_cp (h : ux_H) (ca cb : Nat) : ux_H := x_cpn h ca cb 15
theorem x_cpn_ne (h : ux_H) (ca cb : Nat) : ∀ n k, (k < ca ∨ ca + n < k) → ∀ j, x_cpn h ca cb n k j = h k j := by
  intro n
  induction n with
  | zero =>
    intro k hk j
    unfold x_cpn xsi xsv
    rw [if_neg (by omega), if_neg (by omega), if_neg (by omega), if_neg (by omega)]
  | succ n ih =>
    intro k hk j
    unfold x_cpn xcopy
    rw [if_neg (by omega)]
    exact ih k (by omega) j
theorem x_cp_ne (h : ux_H) (ca cb : Nat) {k : Nat} (hk : k < ca ∨ ca + 15 < k) (j : Nat) : x_cp h ca cb k j = h k j := x_cpn_ne h ca cb 15 k hk j
theorem x_cpn_g {h : ux_H} {ca cb : Nat} (hd : ca + 15 < cb ∨ cb + 15 < ca) : ∀ n, n ≤ 15 → (∀ j, j < 4 → xgi (x_cpn h ca cb n) ca j = xgi h cb j) ∧ ∀ m, m < n → ∀ j, j < ux_ln (cb + (m + 1)) → xgi (x_cpn h ca cb n) (ca + (m + 1)) j = xgi h (cb + (m + 1)) j := by
  intro n
  induction n with
  | zero =>
    intro _
    refine ⟨fun j hj => ?_, fun m hm => absurd hm (Nat.not_lt_zero _)⟩
    unfold x_cpn
    simp only [xgi_sif]
    obtain rfl | rfl | rfl | rfl : j = 0 ∨ j = 1 ∨ j = 2 ∨ j = 3 := by omega
    all_goals simp
  | succ n ih =>
    intro hn
    obtain ⟨ih1, ih2⟩ := ih (by omega)
    refine ⟨fun j hj => ?_, fun m hm j hj => ?_⟩
    · unfold x_cpn
      rw [xcopy_g, if_neg (by omega)]
      exact ih1 j hj
    · unfold x_cpn
      rw [xcopy_g]
      by_cases e : m = n
      · subst e
        rw [if_pos ⟨rfl, hj⟩]
        unfold xgi
        rw [x_cpn_ne h ca cb m _ (by omega) j]
      · rw [if_neg (by omega)]
        exact ih2 m (by omega) j hj
theorem sc_d {ca cb : Nat} (ha : x_sc ca) (hb : x_sc cb) (hne : ca ≠ cb) : ca + 15 < cb ∨ cb + 15 < ca := by
  have := ha.2; have := hb.2; omega
theorem rC_cp {A : Ab} {h : ux_H} {ca cb : Nat} (ha : x_sc ca) (hb : x_sc cb) (hne : ca ≠ cb) (hC : rC cb A h) (i1 : A.1 ≤ 8) (i2 : A.2.1 ≤ 40) : rC ca A (x_cp h ca cb) := by
  obtain ⟨g1, g2⟩ := x_cpn_g (h := h) (sc_d ha hb hne) 15 (Nat.le_refl _)
  obtain ⟨h1, h2, h3⟩ := hC
  refine ⟨(g1 0 (by decide)).trans h1, (g1 1 (by decide)).trans h2, fun f j hf => ?_⟩
  have q := h3 f j hf
  unfold a_in at hf
  rcases Nat.eq_zero_or_pos f with e | e
  · subst e
    exact (g1 j (by omega)).trans q
  · obtain ⟨m, rfl⟩ : ∃ m, f = m + 1 := ⟨f - 1, by omega⟩
    refine (g2 m (by omega) j ?_).trans q
    rw [(sc_k0 cb hb.1 hb.2 m (by omega)).2]
    split
    · omega
    · split <;> omega
theorem rC_ne {A : Ab} {h h' : ux_H} {c : Nat} (hC : rC c A h) (hF : ∀ k, c ≤ k → k < c + 16 → ∀ j, h' k j = h k j) : rC c A h' := by
  have e : ∀ k, c ≤ k → k < c + 16 → ∀ j, xgi h' k j = xgi h k j := fun k a b j => by unfold xgi; rw [hF k a b j]
  refine ⟨(e c (by omega) (by omega) 0).trans hC.1, (e c (by omega) (by omega) 1).trans hC.2.1, fun f j hf => ?_⟩
  have hf' := hf
  unfold a_in at hf
  exact (e (c + f) (by omega) (by omega) j).trans (hC.2.2 f j hf')
set_option maxRecDepth 100000 in
theorem mX4_copyFrom {l : Launch} {G : ux_G} {h : ux_H} {ca cb : Nat} (ha : x_sc ca) (hb : x_sc cb) (hne : ca ≠ cb) : ux_F l G yX4_copyFrom iX4_copyFrom 2 0 [.ref ca, .ref cb] h none (x_cp h ca cb) := by
  unfold ux_F
  refine ux_ent (L' := [some (.ref ca), some (.ref cb)]) kX4_copyFrom rfl rfl rfl rfl ?_
  have hd := sc_d ha hb hne
  refine g_aload_n dX4_copyFrom_0 rfl ?_
  refine g_aload_n dX4_copyFrom_1 rfl ?_
  refine g_geti fX4_9 dX4_copyFrom_2 (sc_kd hb) (sc_rn hb rfl) ?_
  refine g_puti pX4_9 dX4_copyFrom_5 (sc_kd ha) (sc_rn ha rfl) ?_
  refine g_aload_n dX4_copyFrom_8 rfl ?_
  refine g_aload_n dX4_copyFrom_9 rfl ?_
  refine g_geti fX4_15 dX4_copyFrom_10 (sc_kd hb) (sc_rn hb rfl) ?_
  refine g_top (y := xgi h cb 1) (by iterate 1 rw [xgi_ne _ _ _ _ _ _ (by omega)]) ?_
  refine g_puti pX4_15 dX4_copyFrom_13 (sc_kd ha) (sc_rn ha rfl) ?_
  refine g_aload_n dX4_copyFrom_16 rfl ?_
  refine g_aload_n dX4_copyFrom_17 rfl ?_
  refine g_geti fX4_18 dX4_copyFrom_18 (sc_kd hb) (sc_rn hb rfl) ?_
  refine g_top (y := xgi h cb 2) (by iterate 2 rw [xgi_ne _ _ _ _ _ _ (by omega)]) ?_
  refine g_puti pX4_18 dX4_copyFrom_21 (sc_kd ha) (sc_rn ha rfl) ?_
  refine g_aload_n dX4_copyFrom_24 rfl ?_
  refine g_aload_n dX4_copyFrom_25 rfl ?_
  refine g_geti fX4_21 dX4_copyFrom_26 (sc_kd hb) (sc_rn hb rfl) ?_
  refine g_top (y := xgi h cb 3) (by iterate 3 rw [xgi_ne _ _ _ _ _ _ (by omega)]) ?_
  refine g_puti pX4_21 dX4_copyFrom_29 (sc_kd ha) (sc_rn ha rfl) ?_
  refine g_aload_n dX4_copyFrom_32 rfl ?_
  refine g_getr (q := cb + 1) fX4_24 dX4_copyFrom_33 (sc_kd hb) (sc_rf (j := 0) hb rfl) (sc_q (j := 0) hb rfl) ?_
  refine g_aload_n dX4_copyFrom_36 rfl ?_
  refine g_getr (q := ca + 1) fX4_24 dX4_copyFrom_37 (sc_kd ha) (sc_rf (j := 0) ha rfl) (sc_q (j := 0) ha rfl) ?_
  have ka0 := sc_k0 ca ha.1 ha.2 0 (by decide)
  have kb0 := sc_k0 cb hb.1 hb.2 0 (by decide)
  refine f0_SN (u' := 0) lX4_77 kX5_copy (mX5_copy (f := cb + 1) (k := ca + 1) ka0.1 kb0.1 (kb0.2.trans ka0.2.symm) (by omega)) dX4_copyFrom_40 rfl rfl rfl rfl rfl rfl ?_
  refine g_aload_n dX4_copyFrom_43 rfl ?_
  refine g_getr (q := cb + 2) fX4_28 dX4_copyFrom_44 (sc_kd hb) (sc_rf (j := 1) hb rfl) (sc_q (j := 1) hb rfl) ?_
  refine g_aload_n dX4_copyFrom_47 rfl ?_
  refine g_getr (q := ca + 2) fX4_28 dX4_copyFrom_48 (sc_kd ha) (sc_rf (j := 1) ha rfl) (sc_q (j := 1) ha rfl) ?_
  have ka1 := sc_k0 ca ha.1 ha.2 1 (by decide)
  have kb1 := sc_k0 cb hb.1 hb.2 1 (by decide)
  refine f0_SN (u' := 0) lX4_77 kX5_copy (mX5_copy (f := cb + 2) (k := ca + 2) ka1.1 kb1.1 (kb1.2.trans ka1.2.symm) (by omega)) dX4_copyFrom_51 rfl rfl rfl rfl rfl rfl ?_
  refine g_aload_n dX4_copyFrom_54 rfl ?_
  refine g_getr (q := cb + 3) fX4_31 dX4_copyFrom_55 (sc_kd hb) (sc_rf (j := 2) hb rfl) (sc_q (j := 2) hb rfl) ?_
  refine g_aload_n dX4_copyFrom_58 rfl ?_
  refine g_getr (q := ca + 3) fX4_31 dX4_copyFrom_59 (sc_kd ha) (sc_rf (j := 2) ha rfl) (sc_q (j := 2) ha rfl) ?_
  have ka2 := sc_k0 ca ha.1 ha.2 2 (by decide)
  have kb2 := sc_k0 cb hb.1 hb.2 2 (by decide)
  refine f0_SN (u' := 0) lX4_77 kX5_copy (mX5_copy (f := cb + 3) (k := ca + 3) ka2.1 kb2.1 (kb2.2.trans ka2.2.symm) (by omega)) dX4_copyFrom_62 rfl rfl rfl rfl rfl rfl ?_
  refine g_aload_n dX4_copyFrom_65 rfl ?_
  refine g_getr (q := cb + 4) fX4_34 dX4_copyFrom_66 (sc_kd hb) (sc_rf (j := 3) hb rfl) (sc_q (j := 3) hb rfl) ?_
  refine g_aload_n dX4_copyFrom_69 rfl ?_
  refine g_getr (q := ca + 4) fX4_34 dX4_copyFrom_70 (sc_kd ha) (sc_rf (j := 3) ha rfl) (sc_q (j := 3) ha rfl) ?_
  have ka3 := sc_k0 ca ha.1 ha.2 3 (by decide)
  have kb3 := sc_k0 cb hb.1 hb.2 3 (by decide)
  refine f0_SN (u' := 0) lX4_77 kX5_copy (mX5_copy (f := cb + 4) (k := ca + 4) ka3.1 kb3.1 (kb3.2.trans ka3.2.symm) (by omega)) dX4_copyFrom_73 rfl rfl rfl rfl rfl rfl ?_
  refine g_aload_n dX4_copyFrom_76 rfl ?_
  refine g_getr (q := cb + 5) fX4_37 dX4_copyFrom_77 (sc_kd hb) (sc_rf (j := 4) hb rfl) (sc_q (j := 4) hb rfl) ?_
  refine g_aload_n dX4_copyFrom_80 rfl ?_
  refine g_getr (q := ca + 5) fX4_37 dX4_copyFrom_81 (sc_kd ha) (sc_rf (j := 4) ha rfl) (sc_q (j := 4) ha rfl) ?_
  have ka4 := sc_k0 ca ha.1 ha.2 4 (by decide)
  have kb4 := sc_k0 cb hb.1 hb.2 4 (by decide)
  refine f0_SN (u' := 0) lX4_77 kX5_copy (mX5_copy (f := cb + 5) (k := ca + 5) ka4.1 kb4.1 (kb4.2.trans ka4.2.symm) (by omega)) dX4_copyFrom_84 rfl rfl rfl rfl rfl rfl ?_
  refine g_aload_n dX4_copyFrom_87 rfl ?_
  refine g_getr (q := cb + 6) fX4_40 dX4_copyFrom_88 (sc_kd hb) (sc_rf (j := 5) hb rfl) (sc_q (j := 5) hb rfl) ?_
  refine g_aload_n dX4_copyFrom_91 rfl ?_
  refine g_getr (q := ca + 6) fX4_40 dX4_copyFrom_92 (sc_kd ha) (sc_rf (j := 5) ha rfl) (sc_q (j := 5) ha rfl) ?_
  have ka5 := sc_k0 ca ha.1 ha.2 5 (by decide)
  have kb5 := sc_k0 cb hb.1 hb.2 5 (by decide)
  refine f0_SN (u' := 0) lX4_77 kX5_copy (mX5_copy (f := cb + 6) (k := ca + 6) ka5.1 kb5.1 (kb5.2.trans ka5.2.symm) (by omega)) dX4_copyFrom_95 rfl rfl rfl rfl rfl rfl ?_
  refine g_aload_n dX4_copyFrom_98 rfl ?_
  refine g_getr (q := cb + 7) fX4_43 dX4_copyFrom_99 (sc_kd hb) (sc_rf (j := 6) hb rfl) (sc_q (j := 6) hb rfl) ?_
  refine g_aload_n dX4_copyFrom_102 rfl ?_
  refine g_getr (q := ca + 7) fX4_43 dX4_copyFrom_103 (sc_kd ha) (sc_rf (j := 6) ha rfl) (sc_q (j := 6) ha rfl) ?_
  have ka6 := sc_k0 ca ha.1 ha.2 6 (by decide)
  have kb6 := sc_k0 cb hb.1 hb.2 6 (by decide)
  refine f0_SN (u' := 0) lX4_77 kX5_copy (mX5_copy (f := cb + 7) (k := ca + 7) ka6.1 kb6.1 (kb6.2.trans ka6.2.symm) (by omega)) dX4_copyFrom_106 rfl rfl rfl rfl rfl rfl ?_
  refine g_aload_n dX4_copyFrom_109 rfl ?_
  refine g_getr (q := cb + 8) fX4_46 dX4_copyFrom_110 (sc_kd hb) (sc_rf (j := 7) hb rfl) (sc_q (j := 7) hb rfl) ?_
  refine g_aload_n dX4_copyFrom_113 rfl ?_
  refine g_getr (q := ca + 8) fX4_46 dX4_copyFrom_114 (sc_kd ha) (sc_rf (j := 7) ha rfl) (sc_q (j := 7) ha rfl) ?_
  have ka7 := sc_k0 ca ha.1 ha.2 7 (by decide)
  have kb7 := sc_k0 cb hb.1 hb.2 7 (by decide)
  refine f0_SN (u' := 0) lX4_77 kX5_copy (mX5_copy (f := cb + 8) (k := ca + 8) ka7.1 kb7.1 (kb7.2.trans ka7.2.symm) (by omega)) dX4_copyFrom_117 rfl rfl rfl rfl rfl rfl ?_
  refine g_aload_n dX4_copyFrom_120 rfl ?_
  refine g_getr (q := cb + 9) fX4_49 dX4_copyFrom_121 (sc_kd hb) (sc_rf (j := 8) hb rfl) (sc_q (j := 8) hb rfl) ?_
  refine g_aload_n dX4_copyFrom_124 rfl ?_
  refine g_getr (q := ca + 9) fX4_49 dX4_copyFrom_125 (sc_kd ha) (sc_rf (j := 8) ha rfl) (sc_q (j := 8) ha rfl) ?_
  have ka8 := sc_k0 ca ha.1 ha.2 8 (by decide)
  have kb8 := sc_k0 cb hb.1 hb.2 8 (by decide)
  refine f0_SN (u' := 0) lX4_77 kX5_copy (mX5_copy (f := cb + 9) (k := ca + 9) ka8.1 kb8.1 (kb8.2.trans ka8.2.symm) (by omega)) dX4_copyFrom_128 rfl rfl rfl rfl rfl rfl ?_
  refine g_aload_n dX4_copyFrom_131 rfl ?_
  refine g_getr (q := cb + 10) fX4_52 dX4_copyFrom_132 (sc_kd hb) (sc_rf (j := 9) hb rfl) (sc_q (j := 9) hb rfl) ?_
  refine g_aload_n dX4_copyFrom_135 rfl ?_
  refine g_getr (q := ca + 10) fX4_52 dX4_copyFrom_136 (sc_kd ha) (sc_rf (j := 9) ha rfl) (sc_q (j := 9) ha rfl) ?_
  have ka9 := sc_k0 ca ha.1 ha.2 9 (by decide)
  have kb9 := sc_k0 cb hb.1 hb.2 9 (by decide)
  refine f0_SN (u' := 0) lX4_77 kX5_copy (mX5_copy (f := cb + 10) (k := ca + 10) ka9.1 kb9.1 (kb9.2.trans ka9.2.symm) (by omega)) dX4_copyFrom_139 rfl rfl rfl rfl rfl rfl ?_
  refine g_aload_n dX4_copyFrom_142 rfl ?_
  refine g_getr (q := cb + 11) fX4_55 dX4_copyFrom_143 (sc_kd hb) (sc_rf (j := 10) hb rfl) (sc_q (j := 10) hb rfl) ?_
  refine g_aload_n dX4_copyFrom_146 rfl ?_
  refine g_getr (q := ca + 11) fX4_55 dX4_copyFrom_147 (sc_kd ha) (sc_rf (j := 10) ha rfl) (sc_q (j := 10) ha rfl) ?_
  have ka10 := sc_k0 ca ha.1 ha.2 10 (by decide)
  have kb10 := sc_k0 cb hb.1 hb.2 10 (by decide)
  refine f0_SN (u' := 0) lX4_77 kX5_copy (mX5_copy (f := cb + 11) (k := ca + 11) ka10.1 kb10.1 (kb10.2.trans ka10.2.symm) (by omega)) dX4_copyFrom_150 rfl rfl rfl rfl rfl rfl ?_
  refine g_aload_n dX4_copyFrom_153 rfl ?_
  refine g_getr (q := cb + 12) fX4_58 dX4_copyFrom_154 (sc_kd hb) (sc_rf (j := 11) hb rfl) (sc_q (j := 11) hb rfl) ?_
  refine g_aload_n dX4_copyFrom_157 rfl ?_
  refine g_getr (q := ca + 12) fX4_58 dX4_copyFrom_158 (sc_kd ha) (sc_rf (j := 11) ha rfl) (sc_q (j := 11) ha rfl) ?_
  have ka11 := sc_k0 ca ha.1 ha.2 11 (by decide)
  have kb11 := sc_k0 cb hb.1 hb.2 11 (by decide)
  refine f0_SN (u' := 0) lX4_77 kX5_copy (mX5_copy (f := cb + 12) (k := ca + 12) ka11.1 kb11.1 (kb11.2.trans ka11.2.symm) (by omega)) dX4_copyFrom_161 rfl rfl rfl rfl rfl rfl ?_
  refine g_aload_n dX4_copyFrom_164 rfl ?_
  refine g_getr (q := cb + 13) fX4_61 dX4_copyFrom_165 (sc_kd hb) (sc_rf (j := 12) hb rfl) (sc_q (j := 12) hb rfl) ?_
  refine g_aload_n dX4_copyFrom_168 rfl ?_
  refine g_getr (q := ca + 13) fX4_61 dX4_copyFrom_169 (sc_kd ha) (sc_rf (j := 12) ha rfl) (sc_q (j := 12) ha rfl) ?_
  have ka12 := sc_k0 ca ha.1 ha.2 12 (by decide)
  have kb12 := sc_k0 cb hb.1 hb.2 12 (by decide)
  refine f0_SN (u' := 0) lX4_77 kX5_copy (mX5_copy (f := cb + 13) (k := ca + 13) ka12.1 kb12.1 (kb12.2.trans ka12.2.symm) (by omega)) dX4_copyFrom_172 rfl rfl rfl rfl rfl rfl ?_
  refine g_aload_n dX4_copyFrom_175 rfl ?_
  refine g_getr (q := cb + 14) fX4_64 dX4_copyFrom_176 (sc_kd hb) (sc_rf (j := 13) hb rfl) (sc_q (j := 13) hb rfl) ?_
  refine g_aload_n dX4_copyFrom_179 rfl ?_
  refine g_getr (q := ca + 14) fX4_64 dX4_copyFrom_180 (sc_kd ha) (sc_rf (j := 13) ha rfl) (sc_q (j := 13) ha rfl) ?_
  have ka13 := sc_k0 ca ha.1 ha.2 13 (by decide)
  have kb13 := sc_k0 cb hb.1 hb.2 13 (by decide)
  refine f0_SN (u' := 0) lX4_77 kX5_copy (mX5_copy (f := cb + 14) (k := ca + 14) ka13.1 kb13.1 (kb13.2.trans ka13.2.symm) (by omega)) dX4_copyFrom_183 rfl rfl rfl rfl rfl rfl ?_
  refine g_aload_n dX4_copyFrom_186 rfl ?_
  refine g_getr (q := cb + 15) fX4_67 dX4_copyFrom_187 (sc_kd hb) (sc_rf (j := 14) hb rfl) (sc_q (j := 14) hb rfl) ?_
  refine g_aload_n dX4_copyFrom_190 rfl ?_
  refine g_getr (q := ca + 15) fX4_67 dX4_copyFrom_191 (sc_kd ha) (sc_rf (j := 14) ha rfl) (sc_q (j := 14) ha rfl) ?_
  have ka14 := sc_k0 ca ha.1 ha.2 14 (by decide)
  have kb14 := sc_k0 cb hb.1 hb.2 14 (by decide)
  refine f0_SN (u' := 0) lX4_77 kX5_copy (mX5_copy (f := cb + 15) (k := ca + 15) ka14.1 kb14.1 (kb14.2.trans ka14.2.symm) (by omega)) dX4_copyFrom_194 rfl rfl rfl rfl rfl rfl ?_
  refine g_return dX4_copyFrom_197 rfl (by decide) ?_
  exact ⟨rfl, rfl⟩
