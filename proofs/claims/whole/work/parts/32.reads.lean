/-! THE CLASS: reads of a school. -/
/-- what stateOf needs of a state -/
def InvS (A : Ab) : Prop := ∀ i, i < A.2.1 → aF A 13 i ≠ aF A 11 i
theorem xk_l : ∀ f, f < 16 → 8 ≤ f → ux_kd f = 10 ∧ ux_ln f = 40 := by decide
theorem xk_t : ∀ f, f < 6 → 1 ≤ f → ux_kd f = 10 ∧ ux_ln f = 8 := by decide
theorem xk_c : ∀ f, f < 8 → 6 ≤ f → ux_kd f = 10 ∧ ux_ln f = 6 := by decide
theorem rC_l {A : Ab} {h : ux_H} {f i : Nat} (hC : rC 0 A h) (hi : i < A.2.1) (h1 : 8 ≤ f) (h2 : f ≤ 15) : xgi h f i = iI (aF A f i) := by
  have := hC.2.2 f i (Or.inr (Or.inr (Or.inr ⟨h1, h2, hi⟩)))
  rwa [Nat.zero_add] at this
theorem rC_t {A : Ab} {h : ux_H} {f i : Nat} (hC : rC 0 A h) (hi : i < A.1) (h1 : 1 ≤ f) (h2 : f ≤ 5) : xgi h f i = iI (aF A f i) := by
  have := hC.2.2 f i (Or.inr (Or.inl ⟨h1, h2, hi⟩))
  rwa [Nat.zero_add] at this
theorem rC_c {A : Ab} {h : ux_H} {f i : Nat} (hC : rC 0 A h) (hi : i < 6) (h1 : 6 ≤ f) (h2 : f ≤ 7) : xgi h f i = iI (aF A f i) := by
  have := hC.2.2 f i (Or.inr (Or.inr (Or.inl ⟨h1, h2, hi⟩)))
  rwa [Nat.zero_add] at this
theorem mA_l {l : Launch} {G : ux_G} {h : ux_H} {A : Ab} {f i : Nat} (hC : rC 0 A h) (hb : A.2.1 ≤ 40) (hi : i < A.2.1) (hf : (Nat.ble 8 f && Nat.ble f 15) = true) : ux_F l G yX5_at iX5_at 1 0 [.ref f, .int (nI i)] h (some (.int (iI (aF A f i)))) h := by
  simp only [Bool.and_eq_true] at hf
  have h1 := Nat.le_of_ble_eq_true hf.1
  have h2 := Nat.le_of_ble_eq_true hf.2
  rw [← rC_l hC hi h1 h2]
  exact mX5_at (xk_l f (by omega) h1).1 (by rw [(xk_l f (by omega) h1).2]; omega)
theorem mA_t {l : Launch} {G : ux_G} {h : ux_H} {A : Ab} {f i : Nat} (hC : rC 0 A h) (hb : A.1 ≤ 8) (hi : i < A.1) (hf : (Nat.ble 1 f && Nat.ble f 5) = true) : ux_F l G yX5_at iX5_at 1 0 [.ref f, .int (nI i)] h (some (.int (iI (aF A f i)))) h := by
  simp only [Bool.and_eq_true] at hf
  have h1 := Nat.le_of_ble_eq_true hf.1
  have h2 := Nat.le_of_ble_eq_true hf.2
  rw [← rC_t hC hi h1 h2]
  exact mX5_at (xk_t f (by omega) h1).1 (by rw [(xk_t f (by omega) h1).2]; omega)
theorem mA_c {l : Launch} {G : ux_G} {h : ux_H} {A : Ab} {f i : Nat} (hC : rC 0 A h) (hi : i < 6) (hf : (Nat.ble 6 f && Nat.ble f 7) = true) : ux_F l G yX5_at iX5_at 1 0 [.ref f, .int (nI i)] h (some (.int (iI (aF A f i)))) h := by
  simp only [Bool.and_eq_true] at hf
  have h1 := Nat.le_of_ble_eq_true hf.1
  have h2 := Nat.le_of_ble_eq_true hf.2
  rw [← rC_c hC hi h1 h2]
  exact mX5_at (xk_c f (by omega) h1).1 (by rw [(xk_c f (by omega) h1).2]; omega)
theorem xq {a : Int} {t : Nat} (h1 : -2147483648 ≤ a) (h2 : a ≤ 2147483647) (h3 : t ≤ 2147483647) : iI a = nI t ↔ a = t := by
  rw [nI_iI]; exact iI_eq h1 h2 (by omega) (by omega)
theorem xqm {a : Int} (h1 : -2147483648 ≤ a) (h2 : a ≤ 2147483647) : iI a = -1 ↔ a = -1 := by
  rw [iI_m1]; exact iI_eq h1 h2 (by omega) (by omega)
theorem xq0 {a : Int} (h1 : -2147483648 ≤ a) (h2 : a ≤ 2147483647) : iI a = 0 ↔ a = 0 := by
  rw [iI_0]; exact iI_eq h1 h2 (by omega) (by omega)
theorem s_cnt_t {P : Nat → Bool} {n : Nat} (h : P n = true) : s_cnt P n + 1 = s_cnt P (n + 1) := by simp [s_cnt, h]
theorem s_cnt_f {P : Nat → Bool} {n : Nat} (h : P n = false) : s_cnt P n = s_cnt P (n + 1) := by simp [s_cnt, h]
theorem s_bit_0 {x k : Int} {v w : Int32} (hv : v = iI x) (hw : w = iI k) : (v >>> (w &&& 31) &&& 1 = 0) ↔ ¬ s_bit x k = true := by
  subst hv; subst hw
  unfold s_bit
  simp
theorem xlt_i {a b : Nat} (h : nI a ≤ nI b) (ha : a < 2147483648) (hb : b < 2147483648) : a ≤ b := (nI_leI ha hb).mp h
theorem xnl_i {a b : Nat} (h : ¬ nI a ≤ nI b) (ha : a < 2147483648) (hb : b < 2147483648) : b < a := by
  rcases Nat.lt_or_ge b a with q | q
  · exact q
  · exact absurd ((nI_leI ha hb).mpr q) h
set_option maxRecDepth 100000 in
theorem mX4_isAbsentIn {l : Launch} {G : ux_G} {h : ux_H} {t : Nat} {s : Int} {A : Ab} {P : Nat} (hC : rC 0 A h) (hI : Inv P A) (ht : t < A.1) : ux_F l G yX4_isAbsentIn iX4_isAbsentIn 2 0 [.ref 0, .int (nI t), .int (iI s)] h (some (.int (if s_away A t s then 1 else 0))) (h) := by
  unfold ux_F
  refine ux_ent (L' := [some (.ref 0), some (.int (nI t)), some (.int (iI s))]) kX4_isAbsentIn rfl rfl rfl rfl ?_
  obtain ⟨i1, i2, i3, i4, i5, i6⟩ := id hI
  refine g_aload_n dX4_isAbsentIn_0 rfl ?_
  refine g_getr (q := 5) fX4_37 dX4_isAbsentIn_1 rfl rfl rfl ?_
  refine g_iload_n dX4_isAbsentIn_4 rfl ?_
  refine f1_SN (u' := 0) lX4_85 kX5_at (mA_t (f := 5) hC i1 (by assumption) rfl) dX4_isAbsentIn_5 rfl rfl rfl rfl rfl rfl ?_
  refine g_iload_n dX4_isAbsentIn_8 rfl ?_
  refine g_ishr dX4_isAbsentIn_9 ?_
  refine g_iconst (v := 1) dX4_isAbsentIn_10 (by decide) ?_
  refine g_iand dX4_isAbsentIn_11 ?_
  refine g_if_eq (tgt := 19) dX4_isAbsentIn_12 (by decide) (fun c12 => ?_) (fun c12 => ?_)
  · have q := (s_bit_0 rfl rfl).mp c12
    refine g_iconst (v := 0) dX4_isAbsentIn_19 (by decide) ?_
    refine g_ireturn dX4_isAbsentIn_20 rfl rfl (by decide) ?_
    exact ⟨by simp [s_away, q], rfl⟩
  · have q := Decidable.not_not.mp (mt (s_bit_0 rfl rfl).mpr c12)
    refine g_iconst (v := 1) dX4_isAbsentIn_15 (by decide) ?_
    refine g_goto (tgt := 20) dX4_isAbsentIn_16 (by decide) ?_
    refine g_ireturn dX4_isAbsentIn_20 rfl rfl (by decide) ?_
    exact ⟨by simp [s_away, q], rfl⟩
set_option maxRecDepth 100000 in
theorem mX4_hasSubject {l : Launch} {G : ux_G} {h : ux_H} {t : Nat} {s : Int} {A : Ab} {P : Nat} (hC : rC 0 A h) (hI : Inv P A) (ht : t < A.1) : ux_F l G yX4_hasSubject iX4_hasSubject 2 0 [.ref 0, .int (nI t), .int (iI s)] h (some (.int (if s_bit (aF A 1 t) s then 1 else 0))) (h) := by
  unfold ux_F
  refine ux_ent (L' := [some (.ref 0), some (.int (nI t)), some (.int (iI s))]) kX4_hasSubject rfl rfl rfl rfl ?_
  obtain ⟨i1, i2, i3, i4, i5, i6⟩ := id hI
  refine g_aload_n dX4_hasSubject_0 rfl ?_
  refine g_getr (q := 1) fX4_24 dX4_hasSubject_1 rfl rfl rfl ?_
  refine g_iload_n dX4_hasSubject_4 rfl ?_
  refine f1_SN (u' := 0) lX4_85 kX5_at (mA_t (f := 1) hC i1 (by assumption) rfl) dX4_hasSubject_5 rfl rfl rfl rfl rfl rfl ?_
  refine g_iload_n dX4_hasSubject_8 rfl ?_
  refine g_ishr dX4_hasSubject_9 ?_
  refine g_iconst (v := 1) dX4_hasSubject_10 (by decide) ?_
  refine g_iand dX4_hasSubject_11 ?_
  refine g_if_eq (tgt := 19) dX4_hasSubject_12 (by decide) (fun c12 => ?_) (fun c12 => ?_)
  · have q := (s_bit_0 rfl rfl).mp c12
    refine g_iconst (v := 0) dX4_hasSubject_19 (by decide) ?_
    refine g_ireturn dX4_hasSubject_20 rfl rfl (by decide) ?_
    exact ⟨by simp [s_away, q], rfl⟩
  · have q := Decidable.not_not.mp (mt (s_bit_0 rfl rfl).mpr c12)
    refine g_iconst (v := 1) dX4_hasSubject_15 (by decide) ?_
    refine g_goto (tgt := 20) dX4_hasSubject_16 (by decide) ?_
    refine g_ireturn dX4_hasSubject_20 rfl rfl (by decide) ?_
    exact ⟨by simp [s_away, q], rfl⟩
set_option maxRecDepth 100000 in
theorem mX4_absentPeriods {l : Launch} {G : ux_G} {h : ux_H} {t : Nat} {d : Int32} {A : Ab} {P : Nat} (hC : rC 0 A h) (hI : Inv P A) (ht : t < A.1) : ux_F l G yX4_absentPeriods iX4_absentPeriods 2 0 [.ref 0, .int (nI t), .int d] h (some (.int (iI (aF A 5 t) >>> ((d * 6) &&& 31) &&& 63))) (h) := by
  unfold ux_F
  refine ux_ent (L' := [some (.ref 0), some (.int (nI t)), some (.int d)]) kX4_absentPeriods rfl rfl rfl rfl ?_
  obtain ⟨i1, i2, i3, i4, i5, i6⟩ := id hI
  refine g_aload_n dX4_absentPeriods_0 rfl ?_
  refine g_getr (q := 5) fX4_37 dX4_absentPeriods_1 rfl rfl rfl ?_
  refine g_iload_n dX4_absentPeriods_4 rfl ?_
  refine f1_SN (u' := 0) lX4_85 kX5_at (mA_t (f := 5) hC i1 (by assumption) rfl) dX4_absentPeriods_5 rfl rfl rfl rfl rfl rfl ?_
  refine g_iload_n dX4_absentPeriods_8 rfl ?_
  refine g_bipush (v := 6) dX4_absentPeriods_9 (by decide) ?_
  refine g_imul dX4_absentPeriods_11 ?_
  refine g_ishr dX4_absentPeriods_12 ?_
  refine g_bipush (v := 63) dX4_absentPeriods_13 (by decide) ?_
  refine g_iand dX4_absentPeriods_15 ?_
  refine g_ireturn dX4_absentPeriods_16 rfl rfl (by decide) ?_
  exact ⟨rfl, rfl⟩
set_option maxRecDepth 100000 in
theorem mX4_dayOf {l : Launch} {G : ux_G} {h : ux_H} {i : Nat} {A : Ab} {P : Nat} (hC : rC 0 A h) (hI : Inv P A) (hi : i < A.2.1) : ux_F l G yX4_dayOf iX4_dayOf 2 0 [.ref 0, .int (nI i)] h (some (.int (iI (aF A 8 i / 6)))) (h) := by
  unfold ux_F
  refine ux_ent (L' := [some (.ref 0), some (.int (nI i))]) kX4_dayOf rfl rfl rfl rfl ?_
  obtain ⟨i1, i2, i3, i4, i5, i6⟩ := id hI
  refine g_aload_n dX4_dayOf_0 rfl ?_
  refine g_getr (q := 8) fX4_46 dX4_dayOf_1 rfl rfl rfl ?_
  refine g_iload_n dX4_dayOf_4 rfl ?_
  refine f1_SN (u' := 0) lX4_85 kX5_at (mA_l (f := 8) hC i2 (by assumption) rfl) dX4_dayOf_5 rfl rfl rfl rfl rfl rfl ?_
  refine g_bipush (v := 6) dX4_dayOf_8 (by decide) ?_
  refine g_idiv dX4_dayOf_10 (by decide) ?_
  refine g_ireturn dX4_dayOf_11 rfl rfl (by decide) ?_
  have q := i6 i hi
  refine ⟨?_, rfl⟩
  rw [show (6 : Int32) = iI 6 by decide, iI_div (by omega) (by omega) (by omega) (by omega), Int.tdiv_eq_ediv_of_nonneg (by omega)]
set_option maxRecDepth 100000 in
theorem mX4_actingOf {l : Launch} {G : ux_G} {h : ux_H} {i : Nat} {A : Ab} {P : Nat} (hC : rC 0 A h) (hI : Inv P A) (hi : i < A.2.1) : ux_F l G yX4_actingOf iX4_actingOf 2 0 [.ref 0, .int (nI i)] h (some (.int (iI (s_act A i)))) (h) := by
  unfold ux_F
  refine ux_ent (L' := [some (.ref 0), some (.int (nI i)), none, none]) kX4_actingOf rfl rfl rfl rfl ?_
  obtain ⟨i1, i2, i3, i4, i5, i6⟩ := id hI
  refine g_aload_n dX4_actingOf_0 rfl ?_
  refine g_getr (q := 11) fX4_55 dX4_actingOf_1 rfl rfl rfl ?_
  refine g_iload_n dX4_actingOf_4 rfl ?_
  refine f1_SN (u' := 0) lX4_85 kX5_at (mA_l (f := 11) hC i2 (by assumption) rfl) dX4_actingOf_5 rfl rfl rfl rfl rfl rfl ?_
  refine s_i (i := 2) dX4_actingOf_8 rfl rfl rfl rfl ?_
  dsimp only [List.set]
  have q := i6 i hi
  have e8 : iI (aF A 11 i) = nI (s_own A i) := iI_get (by omega) (by omega)
  have ho : s_own A i < A.1 := by unfold s_own; omega
  refine g_aload_n dX4_actingOf_9 rfl ?_
  refine g_getr (q := 5) fX4_37 dX4_actingOf_10 rfl rfl rfl ?_
  refine g_iload_n dX4_actingOf_13 rfl ?_
  refine g_top e8 ?_
  refine f1_SN (u' := 0) lX4_85 kX5_at (mA_t (f := 5) hC i1 (by assumption) rfl) dX4_actingOf_14 rfl rfl rfl rfl rfl rfl ?_
  refine g_aload_n dX4_actingOf_17 rfl ?_
  refine g_getr (q := 8) fX4_46 dX4_actingOf_18 rfl rfl rfl ?_
  refine g_iload_n dX4_actingOf_21 rfl ?_
  refine f1_SN (u' := 0) lX4_85 kX5_at (mA_l (f := 8) hC i2 (by assumption) rfl) dX4_actingOf_22 rfl rfl rfl rfl rfl rfl ?_
  refine g_ishr dX4_actingOf_25 ?_
  refine g_iconst (v := 1) dX4_actingOf_26 (by decide) ?_
  refine g_iand dX4_actingOf_27 ?_
  refine g_if_ne (tgt := 35) dX4_actingOf_28 (by decide) (fun c28 => ?_) (fun c28 => ?_)
  · have q1 := Decidable.not_not.mp (mt (s_bit_0 rfl rfl).mpr c28)
    refine g_iconst (v := 0) dX4_actingOf_35 (by decide) ?_
    refine s_i (i := 3) dX4_actingOf_36 rfl rfl rfl rfl ?_
    dsimp only [List.set]
    refine g_iload_n dX4_actingOf_37 rfl ?_
    refine g_if_eq (tgt := 45) dX4_actingOf_38 (by decide) (fun c38 => ?_) (fun c38 => ?_)
    · refine g_aload_n dX4_actingOf_45 rfl ?_
      refine g_getr (q := 13) fX4_61 dX4_actingOf_46 rfl rfl rfl ?_
      refine g_iload_n dX4_actingOf_49 rfl ?_
      refine f1_SN (u' := 0) lX4_85 kX5_at (mA_l (f := 13) hC i2 (by assumption) rfl) dX4_actingOf_50 rfl rfl rfl rfl rfl rfl ?_
      refine g_ireturn dX4_actingOf_53 rfl rfl (by decide) ?_
      first | (exact absurd c38 (by decide)) | (refine ⟨?_, rfl⟩; simp [s_act, s_gone, s_away, q1])
    · refine g_iload_n dX4_actingOf_41 rfl ?_
      refine g_goto (tgt := 53) dX4_actingOf_42 (by decide) ?_
      refine g_ireturn dX4_actingOf_53 rfl rfl (by decide) ?_
      first | (exact absurd c38 (by decide)) | (refine ⟨?_, rfl⟩; simp [s_act, s_gone, s_away, q1])
  · have q1 := (s_bit_0 rfl rfl).mp c28
    refine g_iconst (v := 1) dX4_actingOf_31 (by decide) ?_
    refine g_goto (tgt := 36) dX4_actingOf_32 (by decide) ?_
    refine s_i (i := 3) dX4_actingOf_36 rfl rfl rfl rfl ?_
    dsimp only [List.set]
    refine g_iload_n dX4_actingOf_37 rfl ?_
    refine g_if_eq (tgt := 45) dX4_actingOf_38 (by decide) (fun c38 => ?_) (fun c38 => ?_)
    · refine g_aload_n dX4_actingOf_45 rfl ?_
      refine g_getr (q := 13) fX4_61 dX4_actingOf_46 rfl rfl rfl ?_
      refine g_iload_n dX4_actingOf_49 rfl ?_
      refine f1_SN (u' := 0) lX4_85 kX5_at (mA_l (f := 13) hC i2 (by assumption) rfl) dX4_actingOf_50 rfl rfl rfl rfl rfl rfl ?_
      refine g_ireturn dX4_actingOf_53 rfl rfl (by decide) ?_
      first | (exact absurd c38 (by decide)) | (refine ⟨?_, rfl⟩; simp [s_act, s_gone, s_away, q1])
    · refine g_iload_n dX4_actingOf_41 rfl ?_
      refine g_goto (tgt := 53) dX4_actingOf_42 (by decide) ?_
      refine g_ireturn dX4_actingOf_53 rfl rfl (by decide) ?_
      first | (exact absurd c38 (by decide)) | (refine ⟨?_, rfl⟩; simp [s_act, s_gone, s_away, q1])
set_option maxRecDepth 100000 in
theorem mX4_stateOf {l : Launch} {G : ux_G} {h : ux_H} {i : Nat} {A : Ab} {P : Nat} (hC : rC 0 A h) (hI : Inv P A) (hS : InvS A) (hi : i < A.2.1) : ux_F l G yX4_stateOf iX4_stateOf 3 0 [.ref 0, .int (nI i)] h (some (.int (iI (s_st A i)))) (h) := by
  unfold ux_F
  refine ux_ent (L' := [some (.ref 0), some (.int (nI i)), none]) kX4_stateOf rfl rfl rfl rfl ?_
  obtain ⟨i1, i2, i3, i4, i5, i6⟩ := id hI
  refine g_aload_n dX4_stateOf_0 rfl ?_
  refine g_iload_n dX4_stateOf_1 rfl ?_
  have q := i6 i hi
  have q7 := hS i hi
  have hr : -1 ≤ s_act A i ∧ s_act A i < 8 := by unfold s_act; split <;> omega
  refine f1_V (u' := 0) lX4_123 kX4_actingOf (mX4_actingOf hC hI (by assumption)) dX4_stateOf_2 rfl rfl rfl rfl rfl rfl rfl rfl ?_
  refine s_i (i := 2) dX4_stateOf_5 rfl rfl rfl rfl ?_
  dsimp only [List.set]
  refine g_iload_n dX4_stateOf_6 rfl ?_
  refine g_iconst (v := (-1)) dX4_stateOf_7 (by decide) ?_
  refine g_icmp_eq (tgt := 29) dX4_stateOf_8 (by decide) (fun c8 => ?_) (fun c8 => ?_)
  · rw [xqm (by omega) (by omega)] at c8
    refine g_aload_n dX4_stateOf_29 rfl ?_
    refine g_getr (q := 14) fX4_64 dX4_stateOf_30 rfl rfl rfl ?_
    refine g_iload_n dX4_stateOf_33 rfl ?_
    refine f1_SN (u' := 0) lX4_85 kX5_at (mA_l (f := 14) hC i2 (by assumption) rfl) dX4_stateOf_34 rfl rfl rfl rfl rfl rfl ?_
    refine g_iconst (v := (-1)) dX4_stateOf_37 (by decide) ?_
    refine g_icmp_eq (tgt := 45) dX4_stateOf_38 (by decide) (fun c38 => ?_) (fun c38 => ?_)
    · rw [xqm (by omega) (by omega)] at c38
      refine g_iconst (v := 3) dX4_stateOf_45 (by decide) ?_
      refine g_ireturn dX4_stateOf_46 rfl rfl (by decide) ?_
      refine ⟨?_, rfl⟩
      unfold s_st
      cases hgo : s_gone A i
      · have ha : s_act A i = aF A 11 i := by simp [s_act, hgo]
        first | (exfalso; omega) | rfl
      · have ha : s_act A i = aF A 13 i := by simp [s_act, hgo]
        first | (exfalso; omega) | (rw [if_pos rfl, if_pos (by omega)]; rfl) | (rw [if_pos rfl, if_neg (by omega), if_pos (by omega)]; rfl) | (rw [if_pos rfl, if_neg (by omega), if_neg (by omega)]; rfl)
    · rw [xqm (by omega) (by omega)] at c38
      refine g_iconst (v := 2) dX4_stateOf_41 (by decide) ?_
      refine g_goto (tgt := 46) dX4_stateOf_42 (by decide) ?_
      refine g_ireturn dX4_stateOf_46 rfl rfl (by decide) ?_
      refine ⟨?_, rfl⟩
      unfold s_st
      cases hgo : s_gone A i
      · have ha : s_act A i = aF A 11 i := by simp [s_act, hgo]
        first | (exfalso; omega) | rfl
      · have ha : s_act A i = aF A 13 i := by simp [s_act, hgo]
        first | (exfalso; omega) | (rw [if_pos rfl, if_pos (by omega)]; rfl) | (rw [if_pos rfl, if_neg (by omega), if_pos (by omega)]; rfl) | (rw [if_pos rfl, if_neg (by omega), if_neg (by omega)]; rfl)
  · rw [xqm (by omega) (by omega)] at c8
    refine g_iload_n dX4_stateOf_11 rfl ?_
    refine g_aload_n dX4_stateOf_12 rfl ?_
    refine g_getr (q := 11) fX4_55 dX4_stateOf_13 rfl rfl rfl ?_
    refine g_iload_n dX4_stateOf_16 rfl ?_
    refine f1_SN (u' := 0) lX4_85 kX5_at (mA_l (f := 11) hC i2 (by assumption) rfl) dX4_stateOf_17 rfl rfl rfl rfl rfl rfl ?_
    refine g_icmp_ne (tgt := 27) dX4_stateOf_20 (by decide) (fun c20 => ?_) (fun c20 => ?_)
    · rw [iI_eq (by omega) (by omega) (by omega) (by omega)] at c20
      refine g_iconst (v := 1) dX4_stateOf_27 (by decide) ?_
      refine g_ireturn dX4_stateOf_28 rfl rfl (by decide) ?_
      refine ⟨?_, rfl⟩
      unfold s_st
      cases hgo : s_gone A i
      · have ha : s_act A i = aF A 11 i := by simp [s_act, hgo]
        first | (exfalso; omega) | rfl
      · have ha : s_act A i = aF A 13 i := by simp [s_act, hgo]
        first | (exfalso; omega) | (rw [if_pos rfl, if_pos (by omega)]; rfl) | (rw [if_pos rfl, if_neg (by omega), if_pos (by omega)]; rfl) | (rw [if_pos rfl, if_neg (by omega), if_neg (by omega)]; rfl)
    · rw [iI_eq (by omega) (by omega) (by omega) (by omega)] at c20
      refine g_iconst (v := 0) dX4_stateOf_23 (by decide) ?_
      refine g_goto (tgt := 28) dX4_stateOf_24 (by decide) ?_
      refine g_ireturn dX4_stateOf_28 rfl rfl (by decide) ?_
      refine ⟨?_, rfl⟩
      unfold s_st
      cases hgo : s_gone A i
      · have ha : s_act A i = aF A 11 i := by simp [s_act, hgo]
        first | (exfalso; omega) | rfl
      · have ha : s_act A i = aF A 13 i := by simp [s_act, hgo]
        first | (exfalso; omega) | (rw [if_pos rfl, if_pos (by omega)]; rfl) | (rw [if_pos rfl, if_neg (by omega), if_pos (by omega)]; rfl) | (rw [if_pos rfl, if_neg (by omega), if_neg (by omega)]; rfl)
