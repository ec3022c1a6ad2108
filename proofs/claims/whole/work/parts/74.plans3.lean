/-! THE CLASS: plans: what is asked of them. -/
set_option maxRecDepth 100000 in
theorem mX3_findPlans {l : Launch} {G : ux_G} {h : ux_H} {A : Ab} {P : Nat} (hC : rC 0 A h) (hI : Inv P A) (hJ : InvF A) {d : Nat} (hd : d < 5) (hL : (s_opl A d 6).length ≤ 4) (hP : P + 100 ≤ 10000000) : ux_M l G yX3_findPlans iX3_findPlans 12 0 [.ref 179, .ref 0, .int (nI d)] h (fun v h' => v = none ∧ x_frK h h' ∧ rPc A (s_opl A d 6) h' ∧ rPa (s_opl A d 6).length (pl_go (s_opl A d 6) A [] (0, 0, [])) h') (fun _ _ => False) := by
  refine ux_ent (L' := [some (.ref 179), some (.ref 0), some (.int (nI d)), none]) kX3_findPlans rfl rfl rfl rfl ?_
  obtain ⟨i1, i2, i3, i4, i5, i6⟩ := id hI
  refine g_aload_n dX3_findPlans_0 rfl ?_
  refine g_aload_n dX3_findPlans_1 rfl ?_
  refine g_geti fX3_49 dX3_findPlans_2 rfl rfl ?_
  refine g_top hC.1 ?_
  refine g_puti pX3_36 dX3_findPlans_5 rfl rfl ?_
  have hF := x_frK_si h (k := 179) 8 (nI A.1) (by decide)
  have hC := rC_frK hC hF
  refine g_aload_n dX3_findPlans_8 rfl ?_
  refine g_aload_n dX3_findPlans_9 rfl ?_
  refine g_iload_n dX3_findPlans_10 rfl ?_
  refine f1_VN (u' := 0) lX3_52 kX4_openCount (mX4_openCount hC hI hJ hd) dX3_findPlans_11 rfl rfl rfl rfl rfl rfl rfl rfl ?_
  refine g_top (y := nI (s_opl A d 6).length) (by rw [s_opl_n]) ?_
  refine g_iconst (v := 4) dX3_findPlans_14 (by decide) ?_
  refine g_min xmin_X3_56 xmin_s xmath_i xmin_c dX3_findPlans_15 rfl rfl ?_
  refine g_top (y := nI (s_opl A d 6).length) (by by_cases q : (4 : Int32) < nI (s_opl A d 6).length; exact absurd (show (4 : Int32) < nI (s_opl A d 6).length from q) (by rw [nI_iI, show (4 : Int32) = iI 4 by decide, iI_lt (by omega) (by omega) (by omega) (by omega)]; omega); rw [if_neg q]) ?_
  refine g_puti pX3_40 dX3_findPlans_18 rfl rfl ?_
  have hF2 := x_frK_si (xsi h 179 8 (nI A.1)) (k := 179) 9 (nI (s_opl A d 6).length) (by decide)
  have hC := rC_frK hC hF2
  have hF := x_frK_tr hF hF2
  refine g_aload_n dX3_findPlans_21 rfl ?_
  refine g_iconst (v := 0) dX3_findPlans_22 (by decide) ?_
  refine g_puti pX3_43 dX3_findPlans_23 rfl rfl ?_
  refine g_aload_n dX3_findPlans_26 rfl ?_
  refine g_iconst (v := 0) dX3_findPlans_27 (by decide) ?_
  refine g_puti pX3_46 dX3_findPlans_28 rfl rfl ?_
  have hF3 := x_frK_si (xsi (xsi h 179 8 (nI A.1)) 179 9 (nI (s_opl A d 6).length)) (k := 179) 10 0 (by decide)
  have hF4 := x_frK_si (xsi (xsi (xsi h 179 8 (nI A.1)) 179 9 (nI (s_opl A d 6).length)) 179 10 0) (k := 179) 11 0 (by decide)
  refine g_iconst (v := 0) dX3_findPlans_31 (by decide) ?_
  refine s_i (i := 3) dX3_findPlans_32 rfl rfl rfl rfl ?_
  dsimp only [List.set]
  refine wB_plans (h0 := h) hI hJ hd hL hP (A.1 + 1) 0 _ (Nat.zero_le _) (rC_frK hC (x_frK_tr hF3 hF4)) (x_frK_tr hF (x_frK_tr hF3 hF4)) ⟨?_, ?_, ?_, ?_⟩ (fun t ht => absurd ht (Nat.not_lt_zero _)) (by omega)
  · rw [xgi_ne _ _ _ _ _ _ (by decide), xgi_ne _ _ _ _ _ _ (by decide), xgi_ne _ _ _ _ _ _ (by decide)]; exact xgi_si _ _ _ _
  · rw [xgi_ne _ _ _ _ _ _ (by decide), xgi_ne _ _ _ _ _ _ (by decide)]; exact xgi_si _ _ _ _
  · rw [xgi_ne _ _ _ _ _ _ (by decide)]; exact xgi_si _ _ _ _
  · exact xgi_si _ _ _ _
/-- the day's plans: how many, the least spread, the best -/
def pl_of (A : Ab) (d : Nat) : pl_A := pl_go (s_opl A d 6) A [] (0, 0, [])
def pl_Q (A : Ab) (d : Nat) (h h' : ux_H) : Prop := x_frK h h' ∧ rPc A (s_opl A d 6) h' ∧ rPa (s_opl A d 6).length (pl_of A d) h'
theorem pl_of_ok {P : Nat} {A : Ab} {d : Nat} (hI : Inv P A) (hL : (s_opl A d 6).length ≤ 4) (hP : P + 100 ≤ 10000000) : okA 4096 (pl_of A d) := by
  have := okA_go (s_opl A d 6) (c := 0) (B := A) (pre := []) (a := (0, 0, [])) hI (by omega) ⟨Nat.le_refl _, fun y => absurd rfl y⟩
  rw [Nat.zero_add] at this
  exact okA_mono this (Nat.le_trans (Nat.pow_le_pow_right (by decide) hL) (by decide))
def k_planDay (A : Ab) (a : Int) : Nat := if ¬ (0 ≤ a ∧ a < 5) then 1 else if ¬ (s_opl A a.toNat 6).length ≤ 4 then 2 else 0
set_option maxRecDepth 100000 in
theorem mX5_planDay {l : Launch} {G : ux_G} {h : ux_H} {a : Int} {A : Ab} {P : Nat} (hC : rC 0 A h) (hI : Inv P A) (hJ : InvF A) (hP : P + 100 ≤ 10000000) (ra : -2147483648 ≤ a ∧ a ≤ 2147483647) : ux_M l G yX5_planDay iX5_planDay 13 2 [.ref 176, .int (iI a)] h (fun v h' => v = none ∧ k_planDay A a = 0 ∧ pl_Q A a.toNat h h') (fun E h' => h' = h ∧ xc (k_planDay A a) ["java/lang/IndexOutOfBoundsException", "java/lang/IllegalStateException"] E) := by
  refine ux_ent (L' := [some (.ref 176), some (.int (iI a))]) kX5_planDay rfl rfl rfl rfl ?_
  obtain ⟨i1, i2, i3, i4, i5, i6⟩ := id hI
  have ll := s_opl_len A a.toNat 6
  have ll2 : 6 * A.2.1 ≤ 240 := by omega
  refine g_iload_n dX5_planDay_0 rfl ?_
  refine g_iconst (v := 5) dX5_planDay_1 (by decide) ?_
  refine q_S (u' := 1) lX5_104 kX5_needIndex (mX5_needIndex) dX5_planDay_2 rfl rfl rfl rfl rfl rfl (fun v h2 hq => ?_) (fun E hx q => g_out rfl (by decide) (by obtain ⟨rfl, rfl, q3⟩ := q; have q3 := (not_congr (x_ix (a := a) (n := 5) (by decide) ra (by decide))).mp q3; exact ⟨rfl, xc_mk (k := 1) (by unfold k_planDay; (repeat' split) <;> first | rfl | omega | contradiction) (by decide) rfl⟩))
  obtain ⟨rfl, eh2, hq2⟩ := hq
  rw [eh2]
  have hq2 := (x_ix (a := a) (n := 5) (by decide) ra (by decide)).mp hq2
  have hta : a.toNat < 5 := by omega
  rw [iI_get (a := a) (by omega) (by omega)]
  dsimp only [Option.toList, List.cons_append, List.nil_append]
  refine g_aload_n dX5_planDay_5 rfl ?_
  refine g_getr (q := 0) fX5_10 dX5_planDay_6 rfl rfl rfl ?_
  refine g_iload_n dX5_planDay_9 rfl ?_
  refine f1_VN (u' := 1) lX5_242 kX4_openCount (mX4_openCount hC hI hJ hta) dX5_planDay_10 rfl rfl rfl rfl rfl rfl rfl rfl ?_
  refine g_top (y := nI (s_opl A a.toNat 6).length) (by rw [s_opl_n]) ?_
  refine g_iconst (v := 4) dX5_planDay_13 (by decide) ?_
  refine g_icmp_le (tgt := 28) dX5_planDay_14 (by decide) (fun c14 => ?_) (fun c14 => ?_)
  · rw [nI_iI, show (4 : Int32) = iI 4 by decide, iI_le (by omega) (by omega) (by omega) (by omega)] at c14
    skip
    refine g_aload_n dX5_planDay_28 rfl ?_
    refine g_getr (q := 179) fX5_32 dX5_planDay_29 rfl rfl rfl ?_
    refine g_aload_n dX5_planDay_32 rfl ?_
    refine g_getr (q := 0) fX5_10 dX5_planDay_33 rfl rfl rfl ?_
    refine g_iload_n dX5_planDay_36 rfl ?_
    refine q_VN (u' := 1) lX5_426 kX3_findPlans (mX3_findPlans hC hI hJ hta (by omega) hP) dX5_planDay_37 rfl rfl rfl rfl rfl rfl rfl rfl (fun v h37 hq => ?_)
    obtain ⟨rfl, hK, hc, ha⟩ := hq
    dsimp only [Option.toList, List.cons_append, List.nil_append]
    refine g_return dX5_planDay_40 rfl (by decide) ?_
    exact ⟨rfl, by unfold k_planDay; rw [if_neg (by omega), if_neg (by omega)], hK, hc, ha⟩
  · rw [nI_iI, show (4 : Int32) = iI 4 by decide, iI_le (by omega) (by omega) (by omega) (by omega)] at c14
    skip
    refine g_throwW tX5_424_81 dX5_planDay_17 dX5_planDay_20 dX5_planDay_21 dX5_planDay_24 dX5_planDay_27 rfl rfl (by decide) ?_
    exact ⟨rfl, xc_mk (k := 2) (by unfold k_planDay; rw [if_neg (by omega), if_pos (by omega)]) (by decide) rfl⟩
