/-! THE CLASS: more reads. -/
def s_worth (A : Ab) (i t : Nat) : Int := (if aF A 8 i % 6 < 3 then 2 else if aF A 8 i % 6 < 5 then 3 else 4) + (if s_bit (aF A 1 t) (aF A 10 i) then 0 else 2)
theorem s_worth_r (A : Ab) (i t : Nat) : 2 ≤ s_worth A i t ∧ s_worth A i t ≤ 6 := by
  unfold s_worth
  split
  · split <;> omega
  · split <;> split <;> omega
theorem iI_rem {a b : Int} (h1 : 0 ≤ a) (h2 : a ≤ 2147483647) (h3 : 0 < b) (h4 : b ≤ 2147483647) : iI a - iI a / iI b * iI b = iI (a % b) := by
  rw [iI_div (by omega) h2 h3 h4, iI_mul, iI_sub, Int.tdiv_eq_ediv_of_nonneg h1]
  congr 1
  have := Int.mul_ediv_add_emod a b
  rw [Int.mul_comm] at this
  omega
def s_share (A : Ab) (t : Nat) (p : Int) : Int := (12 * p).tdiv (aF A 2 t)
set_option maxRecDepth 100000 in
theorem wX4_lessonIn {l : Launch} {G : ux_G} {h : ux_H} {f : Nat} {s v : Int} {A : Ab} {P : Nat} (hC : rC 0 A h) (hI : Inv P A) (hf : (Nat.ble 8 f && Nat.ble f 15) = true) (hs : -1 ≤ s ∧ s ≤ 100) (hv : -1 ≤ v ∧ v ≤ 100) (hx : ∀ i, i < A.2.1 → -1 ≤ aF A f i ∧ aF A f i ≤ 100) : ∀ (n : Nat) (j : Nat), j ≤ A.2.1 → (∀ i, i < j → (decide (aF A 8 i = s) && decide (aF A f i = v)) = false) → A.2.1 - j < n → ux_W l G iX4_lessonIn (ux_rm 2 0) (ux_Z G 0 (fun vv h' => vv = some (.int (iI (s_find A f s v))) ∧ h' = h) (fun _ _ => False)) 3 [some (.ref 0), some (.int (iI s)), some (.ref f), some (.int (iI v)), some (.int (nI j))] [] (h) 0 := by
  intro n
  induction n with
  | zero => intro j hj hq hn; exact absurd hn (Nat.not_lt_zero _)
  | succ n ih =>
    intro j hj hq hn
    obtain ⟨i1, i2, i3, i4, i5, i6⟩ := id hI
    refine g_iload dX4_lessonIn_3 rfl ?_
    refine g_aload_n dX4_lessonIn_5 rfl ?_
    refine g_geti fX4_15 dX4_lessonIn_6 rfl rfl ?_
    refine g_top hC.2.1 ?_
    refine g_icmp_ge (tgt := 44) dX4_lessonIn_9 (by decide) (fun c9 => ?_) (fun c9 => ?_)
    · have e : j = A.2.1 := by have := xlt_i c9 (by omega) (by omega); omega
      subst e
      refine g_iconst (v := (-1)) dX4_lessonIn_44 (by decide) ?_
      refine g_ireturn dX4_lessonIn_45 rfl rfl (by decide) ?_
      refine ⟨?_, rfl⟩
      have e0 : s_find A f s v = -1 := by unfold s_find; rw [s_fst_none hq]; rfl
      rw [e0]; rfl
    · have hlt : j < A.2.1 := xnl_i c9 (by omega) (by omega)
      have il := i6 j hlt
      have xl := hx j hlt
      refine g_aload_n dX4_lessonIn_12 rfl ?_
      refine g_getr (q := 8) fX4_46 dX4_lessonIn_13 rfl rfl rfl ?_
      refine g_iload dX4_lessonIn_16 rfl ?_
      refine f1_SN (u' := 0) lX4_85 kX5_at (mA_l (f := 8) hC i2 (by assumption) rfl) dX4_lessonIn_18 rfl rfl rfl rfl rfl rfl ?_
      refine g_iload_n dX4_lessonIn_21 rfl ?_
      refine g_icmp_ne (tgt := 38) dX4_lessonIn_22 (by decide) (fun c22 => ?_) (fun c22 => ?_)
      · rw [iI_eq (by omega) (by omega) (by omega) (by omega)] at c22
        refine s_inc (v := nI (j + 1)) dX4_lessonIn_38 rfl nI_s rfl rfl rfl ?_
        dsimp only [List.set]
        refine g_goto (tgt := 3) dX4_lessonIn_41 (by decide) ?_
        refine ih (j + 1) (by omega) (fun i hi => ?_) (by omega)
        rcases Nat.lt_or_eq_of_le (Nat.le_of_lt_succ hi) with q | q
        · exact hq i q
        · subst q; simp [c22]
      · rw [iI_eq (by omega) (by omega) (by omega) (by omega)] at c22
        refine g_aload_n dX4_lessonIn_25 rfl ?_
        refine g_iload dX4_lessonIn_26 rfl ?_
        refine f1_SN (u' := 0) lX4_85 kX5_at (mA_l hC i2 (by assumption) hf) dX4_lessonIn_28 rfl rfl rfl rfl rfl rfl ?_
        refine g_iload_n dX4_lessonIn_31 rfl ?_
        refine g_icmp_ne (tgt := 38) dX4_lessonIn_32 (by decide) (fun c32 => ?_) (fun c32 => ?_)
        · rw [iI_eq (by omega) (by omega) (by omega) (by omega)] at c32
          refine s_inc (v := nI (j + 1)) dX4_lessonIn_38 rfl nI_s rfl rfl rfl ?_
          dsimp only [List.set]
          refine g_goto (tgt := 3) dX4_lessonIn_41 (by decide) ?_
          refine ih (j + 1) (by omega) (fun i hi => ?_) (by omega)
          rcases Nat.lt_or_eq_of_le (Nat.le_of_lt_succ hi) with q | q
          · exact hq i q
          · subst q; simp [c22, c32]
        · rw [iI_eq (by omega) (by omega) (by omega) (by omega)] at c32
          refine g_iload dX4_lessonIn_35 rfl ?_
          refine g_ireturn dX4_lessonIn_37 rfl rfl (by decide) ?_
          refine ⟨?_, rfl⟩
          have e0 : s_find A f s v = (j : Int) := by unfold s_find; rw [s_fst_first hlt (by simp [c22, c32]) hq]; rfl
          rw [e0, iI_n]
set_option maxRecDepth 100000 in
theorem mX4_lessonIn {l : Launch} {G : ux_G} {h : ux_H} {f : Nat} {s v : Int} {A : Ab} {P : Nat} (hC : rC 0 A h) (hI : Inv P A) (hf : (Nat.ble 8 f && Nat.ble f 15) = true) (hs : -1 ≤ s ∧ s ≤ 100) (hv : -1 ≤ v ∧ v ≤ 100) (hx : ∀ i, i < A.2.1 → -1 ≤ aF A f i ∧ aF A f i ≤ 100) : ux_F l G yX4_lessonIn iX4_lessonIn 2 0 [.ref 0, .int (iI s), .ref f, .int (iI v)] h (some (.int (iI (s_find A f s v)))) (h) := by
  unfold ux_F
  refine ux_ent (L' := [some (.ref 0), some (.int (iI s)), some (.ref f), some (.int (iI v)), none]) kX4_lessonIn rfl rfl rfl rfl ?_
  obtain ⟨i1, i2, i3, i4, i5, i6⟩ := id hI
  refine g_iconst (v := 0) dX4_lessonIn_0 (by decide) ?_
  refine s_iw dX4_lessonIn_1 rfl rfl rfl ?_
  dsimp only [List.set]
  exact wX4_lessonIn (l := l) (G := G) hC hI hf hs hv hx (A.2.1 + 1) 0 (Nat.zero_le _) (fun i hi => absurd hi (Nat.not_lt_zero _)) (by omega)
set_option maxRecDepth 100000 in
theorem mX4_isOpenIn {l : Launch} {G : ux_G} {h : ux_H} {i : Nat} {s : Int} {A : Ab} {P : Nat} (hC : rC 0 A h) (hI : Inv P A) (hJ : InvF A) (hs : -1 ≤ s ∧ s ≤ 100) (hi : i < A.2.1) : ux_F l G yX4_isOpenIn iX4_isOpenIn 4 0 [.ref 0, .int (nI i), .int (iI s)] h (some (.int (if aF A 8 i = s ∧ s_st A i = 3 then 1 else 0))) (h) := by
  unfold ux_F
  refine ux_ent (L' := [some (.ref 0), some (.int (nI i)), some (.int (iI s))]) kX4_isOpenIn rfl rfl rfl rfl ?_
  obtain ⟨i1, i2, i3, i4, i5, i6⟩ := id hI
  have il := i6 i hi
  have hr := s_st_r A i
  refine g_aload_n dX4_isOpenIn_0 rfl ?_
  refine g_getr (q := 8) fX4_46 dX4_isOpenIn_1 rfl rfl rfl ?_
  refine g_iload_n dX4_isOpenIn_4 rfl ?_
  refine f1_SN (u' := 0) lX4_85 kX5_at (mA_l (f := 8) hC i2 (by assumption) rfl) dX4_isOpenIn_5 rfl rfl rfl rfl rfl rfl ?_
  refine g_iload_n dX4_isOpenIn_8 rfl ?_
  refine g_icmp_ne (tgt := 25) dX4_isOpenIn_9 (by decide) (fun c9 => ?_) (fun c9 => ?_)
  · rw [iI_eq (by omega) (by omega) (by omega) (by omega)] at c9
    refine g_iconst (v := 0) dX4_isOpenIn_25 (by decide) ?_
    refine g_ireturn dX4_isOpenIn_26 rfl rfl (by decide) ?_
    exact ⟨by simp [c9], rfl⟩
  · rw [iI_eq (by omega) (by omega) (by omega) (by omega)] at c9
    refine g_aload_n dX4_isOpenIn_12 rfl ?_
    refine g_iload_n dX4_isOpenIn_13 rfl ?_
    refine f1_V (u' := 0) lX4_100 kX4_stateOf (mX4_stateOf hC hI (InvS_of hI hJ) (by assumption)) dX4_isOpenIn_14 rfl rfl rfl rfl rfl rfl rfl rfl ?_
    refine g_iconst (v := 3) dX4_isOpenIn_17 (by decide) ?_
    refine g_icmp_ne (tgt := 25) dX4_isOpenIn_18 (by decide) (fun c18 => ?_) (fun c18 => ?_)
    · rw [show (3 : Int32) = iI 3 by decide, iI_eq (by omega) (by omega) (by omega) (by omega)] at c18
      refine g_iconst (v := 0) dX4_isOpenIn_25 (by decide) ?_
      refine g_ireturn dX4_isOpenIn_26 rfl rfl (by decide) ?_
      exact ⟨by simp [c9, c18], rfl⟩
    · rw [show (3 : Int32) = iI 3 by decide, iI_eq (by omega) (by omega) (by omega) (by omega)] at c18
      refine g_iconst (v := 1) dX4_isOpenIn_21 (by decide) ?_
      refine g_goto (tgt := 26) dX4_isOpenIn_22 (by decide) ?_
      refine g_ireturn dX4_isOpenIn_26 rfl rfl (by decide) ?_
      exact ⟨by simp [c9, c18], rfl⟩
set_option maxRecDepth 100000 in
theorem mX4_areTogether {l : Launch} {G : ux_G} {h : ux_H} {i j : Nat} {A : Ab} {P : Nat} (hC : rC 0 A h) (hI : Inv P A) (hi : i < A.2.1) (hj : j < A.2.1) : ux_F l G yX4_areTogether iX4_areTogether 2 0 [.ref 0, .int (nI i), .int (nI j)] h (some (.int (if aF A 8 i = aF A 8 j then 1 else 0))) (h) := by
  unfold ux_F
  refine ux_ent (L' := [some (.ref 0), some (.int (nI i)), some (.int (nI j))]) kX4_areTogether rfl rfl rfl rfl ?_
  obtain ⟨i1, i2, i3, i4, i5, i6⟩ := id hI
  have il := i6 i hi
  have jl := i6 j hj
  refine g_aload_n dX4_areTogether_0 rfl ?_
  refine g_getr (q := 8) fX4_46 dX4_areTogether_1 rfl rfl rfl ?_
  refine g_iload_n dX4_areTogether_4 rfl ?_
  refine f1_SN (u' := 0) lX4_85 kX5_at (mA_l (f := 8) hC i2 (by assumption) rfl) dX4_areTogether_5 rfl rfl rfl rfl rfl rfl ?_
  refine g_aload_n dX4_areTogether_8 rfl ?_
  refine g_getr (q := 8) fX4_46 dX4_areTogether_9 rfl rfl rfl ?_
  refine g_iload_n dX4_areTogether_12 rfl ?_
  refine f1_SN (u' := 0) lX4_85 kX5_at (mA_l (f := 8) hC i2 (by assumption) rfl) dX4_areTogether_13 rfl rfl rfl rfl rfl rfl ?_
  refine g_icmp_ne (tgt := 23) dX4_areTogether_16 (by decide) (fun c16 => ?_) (fun c16 => ?_)
  · rw [iI_eq (by omega) (by omega) (by omega) (by omega)] at c16
    refine g_iconst (v := 0) dX4_areTogether_23 (by decide) ?_
    refine g_ireturn dX4_areTogether_24 rfl rfl (by decide) ?_
    exact ⟨by simp [c16], rfl⟩
  · rw [iI_eq (by omega) (by omega) (by omega) (by omega)] at c16
    refine g_iconst (v := 1) dX4_areTogether_19 (by decide) ?_
    refine g_goto (tgt := 24) dX4_areTogether_20 (by decide) ?_
    refine g_ireturn dX4_areTogether_24 rfl rfl (by decide) ?_
    exact ⟨by simp [c16], rfl⟩
set_option maxRecDepth 100000 in
theorem mX4_sizeOf {l : Launch} {G : ux_G} {h : ux_H} {i : Nat} {A : Ab} {P : Nat} (hC : rC 0 A h) (hI : Inv P A) (hi : i < A.2.1) : ux_F l G yX4_sizeOf iX4_sizeOf 2 0 [.ref 0, .int (nI i)] h (some (.int (iI (aF A 6 (aF A 9 i).toNat)))) (h) := by
  unfold ux_F
  refine ux_ent (L' := [some (.ref 0), some (.int (nI i))]) kX4_sizeOf rfl rfl rfl rfl ?_
  obtain ⟨i1, i2, i3, i4, i5, i6⟩ := id hI
  have il := i6 i hi
  have hc : (aF A 9 i).toNat < 6 := by omega
  refine g_aload_n dX4_sizeOf_0 rfl ?_
  refine g_getr (q := 6) fX4_40 dX4_sizeOf_1 rfl rfl rfl ?_
  refine g_aload_n dX4_sizeOf_4 rfl ?_
  refine g_getr (q := 9) fX4_49 dX4_sizeOf_5 rfl rfl rfl ?_
  refine g_iload_n dX4_sizeOf_8 rfl ?_
  refine f1_SN (u' := 0) lX4_85 kX5_at (mA_l (f := 9) hC i2 (by assumption) rfl) dX4_sizeOf_9 rfl rfl rfl rfl rfl rfl ?_
  refine g_top (iI_get (a := aF A 9 i) (by omega) (by omega)) ?_
  refine f1_SN (u' := 0) lX4_85 kX5_at (mA_c (f := 6) hC (by assumption) rfl) dX4_sizeOf_12 rfl rfl rfl rfl rfl rfl ?_
  refine g_ireturn dX4_sizeOf_15 rfl rfl (by decide) ?_
  exact ⟨rfl, rfl⟩
set_option maxRecDepth 100000 in
theorem mX4_capacityOf {l : Launch} {G : ux_G} {h : ux_H} {i : Nat} {A : Ab} {P : Nat} (hC : rC 0 A h) (hI : Inv P A) (hi : i < A.2.1) : ux_F l G yX4_capacityOf iX4_capacityOf 2 0 [.ref 0, .int (nI i)] h (some (.int (iI (aF A 7 (aF A 12 i).toNat)))) (h) := by
  unfold ux_F
  refine ux_ent (L' := [some (.ref 0), some (.int (nI i))]) kX4_capacityOf rfl rfl rfl rfl ?_
  obtain ⟨i1, i2, i3, i4, i5, i6⟩ := id hI
  have il := i6 i hi
  have hc : (aF A 12 i).toNat < 6 := by omega
  refine g_aload_n dX4_capacityOf_0 rfl ?_
  refine g_getr (q := 7) fX4_43 dX4_capacityOf_1 rfl rfl rfl ?_
  refine g_aload_n dX4_capacityOf_4 rfl ?_
  refine g_getr (q := 12) fX4_58 dX4_capacityOf_5 rfl rfl rfl ?_
  refine g_iload_n dX4_capacityOf_8 rfl ?_
  refine f1_SN (u' := 0) lX4_85 kX5_at (mA_l (f := 12) hC i2 (by assumption) rfl) dX4_capacityOf_9 rfl rfl rfl rfl rfl rfl ?_
  refine g_top (iI_get (a := aF A 12 i) (by omega) (by omega)) ?_
  refine f1_SN (u' := 0) lX4_85 kX5_at (mA_c (f := 7) hC (by assumption) rfl) dX4_capacityOf_12 rfl rfl rfl rfl rfl rfl ?_
  refine g_ireturn dX4_capacityOf_15 rfl rfl (by decide) ?_
  exact ⟨rfl, rfl⟩
set_option maxRecDepth 100000 in
theorem mX4_firstPart {l : Launch} {G : ux_G} {h : ux_H} {i : Nat} {A : Ab} {P : Nat} (hC : rC 0 A h) (hI : Inv P A) (hi : i < A.2.1) : ux_F l G yX4_firstPart iX4_firstPart 3 0 [.ref 0, .int (nI i)] h (some (.int (iI ((s_sz A i + 1) / 2)))) (h) := by
  unfold ux_F
  refine ux_ent (L' := [some (.ref 0), some (.int (nI i))]) kX4_firstPart rfl rfl rfl rfl ?_
  obtain ⟨i1, i2, i3, i4, i5, i6⟩ := id hI
  have il := i6 i hi
  have hc : (aF A 9 i).toNat < 6 := by omega
  have hz := i5 _ hc
  have es : s_sz A i = aF A 6 (aF A 9 i).toNat := rfl
  refine g_aload_n dX4_firstPart_0 rfl ?_
  refine g_iload_n dX4_firstPart_1 rfl ?_
  refine f1_V (u' := 0) lX4_142 kX4_sizeOf (mX4_sizeOf hC hI (by assumption)) dX4_firstPart_2 rfl rfl rfl rfl rfl rfl rfl rfl ?_
  refine g_iconst (v := 1) dX4_firstPart_5 (by decide) ?_
  refine g_iadd dX4_firstPart_6 ?_
  refine g_iconst (v := 2) dX4_firstPart_7 (by decide) ?_
  refine g_idiv dX4_firstPart_8 (by decide) ?_
  refine g_ireturn dX4_firstPart_9 rfl rfl (by decide) ?_
  refine ⟨?_, rfl⟩
  rw [show (1 : Int32) = iI 1 by decide, iI_add, show (2 : Int32) = iI 2 by decide, iI_div (by omega) (by omega) (by omega) (by omega), Int.tdiv_eq_ediv_of_nonneg (by omega), es]
set_option maxRecDepth 100000 in
theorem mX4_secondPart {l : Launch} {G : ux_G} {h : ux_H} {i : Nat} {A : Ab} {P : Nat} (hC : rC 0 A h) (hI : Inv P A) (hi : i < A.2.1) : ux_F l G yX4_secondPart iX4_secondPart 3 0 [.ref 0, .int (nI i)] h (some (.int (iI (s_sz A i / 2)))) (h) := by
  unfold ux_F
  refine ux_ent (L' := [some (.ref 0), some (.int (nI i))]) kX4_secondPart rfl rfl rfl rfl ?_
  obtain ⟨i1, i2, i3, i4, i5, i6⟩ := id hI
  have il := i6 i hi
  have hc : (aF A 9 i).toNat < 6 := by omega
  have hz := i5 _ hc
  have es : s_sz A i = aF A 6 (aF A 9 i).toNat := rfl
  refine g_aload_n dX4_secondPart_0 rfl ?_
  refine g_iload_n dX4_secondPart_1 rfl ?_
  refine f1_V (u' := 0) lX4_142 kX4_sizeOf (mX4_sizeOf hC hI (by assumption)) dX4_secondPart_2 rfl rfl rfl rfl rfl rfl rfl rfl ?_
  refine g_iconst (v := 2) dX4_secondPart_5 (by decide) ?_
  refine g_idiv dX4_secondPart_6 (by decide) ?_
  refine g_ireturn dX4_secondPart_7 rfl rfl (by decide) ?_
  refine ⟨?_, rfl⟩
  rw [show (2 : Int32) = iI 2 by decide, iI_div (by omega) (by omega) (by omega) (by omega), Int.tdiv_eq_ediv_of_nonneg (by omega), es]
set_option maxRecDepth 100000 in
theorem wX4_guestsOf {l : Launch} {G : ux_G} {h : ux_H} {i : Nat} {A : Ab} {P : Nat} (hC : rC 0 A h) (hI : Inv P A) (hi : i < A.2.1) : ∀ (n : Nat) (j : Nat), j ≤ A.2.1 → A.2.1 - j < n → ux_W l G iX4_guestsOf (ux_rm 4 0) (ux_Z G 0 (fun vv h' => vv = some (.int (iI (s_gst A i A.2.1))) ∧ h' = h) (fun _ _ => False)) 4 [some (.ref 0), some (.int (nI i)), some (.int (iI (s_gst A i j))), some (.int (nI j))] [] (h) 0 := by
  intro n
  induction n with
  | zero => intro j hj hn; exact absurd hn (Nat.not_lt_zero _)
  | succ n ih =>
    intro j hj hn
    obtain ⟨i1, i2, i3, i4, i5, i6⟩ := id hI
    refine g_iload_n dX4_guestsOf_4 rfl ?_
    refine g_aload_n dX4_guestsOf_5 rfl ?_
    refine g_geti fX4_15 dX4_guestsOf_6 rfl rfl ?_
    refine g_top hC.2.1 ?_
    refine g_icmp_ge (tgt := 58) dX4_guestsOf_9 (by decide) (fun c9 => ?_) (fun c9 => ?_)
    · have e : j = A.2.1 := by have := xlt_i c9 (by omega) (by omega); omega
      subst e
      refine g_iload_n dX4_guestsOf_58 rfl ?_
      refine g_ireturn dX4_guestsOf_59 rfl rfl (by decide) ?_
      exact ⟨rfl, rfl⟩
    · have hlt : j < A.2.1 := xnl_i c9 (by omega) (by omega)
      have il := i6 j hlt
      refine g_aload_n dX4_guestsOf_12 rfl ?_
      refine g_getr (q := 14) fX4_64 dX4_guestsOf_13 rfl rfl rfl ?_
      refine g_iload_n dX4_guestsOf_16 rfl ?_
      refine f1_SN (u' := 0) lX4_85 kX5_at (mA_l (f := 14) hC i2 (by assumption) rfl) dX4_guestsOf_17 rfl rfl rfl rfl rfl rfl ?_
      refine g_iload_n dX4_guestsOf_20 rfl ?_
      refine g_icmp_ne (tgt := 32) dX4_guestsOf_21 (by decide) (fun c21 => ?_) (fun c21 => ?_)
      · rw [xq (by omega) (by omega) (by omega)] at c21
        refine g_aload_n dX4_guestsOf_32 rfl ?_
        refine g_getr (q := 15) fX4_67 dX4_guestsOf_33 rfl rfl rfl ?_
        refine g_iload_n dX4_guestsOf_36 rfl ?_
        refine f1_SN (u' := 0) lX4_85 kX5_at (mA_l (f := 15) hC i2 (by assumption) rfl) dX4_guestsOf_37 rfl rfl rfl rfl rfl rfl ?_
        refine g_iload_n dX4_guestsOf_40 rfl ?_
        refine g_icmp_ne (tgt := 52) dX4_guestsOf_41 (by decide) (fun c41 => ?_) (fun c41 => ?_)
        · rw [xq (by omega) (by omega) (by omega)] at c41
          refine s_inc (v := nI (j + 1)) dX4_guestsOf_52 rfl nI_s rfl rfl rfl ?_
          dsimp only [List.set]
          refine g_goto (tgt := 4) dX4_guestsOf_55 (by decide) ?_
          have e0 : s_gst A i (j + 1) = s_gst A i j + (if aF A 14 j = i then (s_sz A j + 1) / 2 else 0) + (if aF A 15 j = i then s_sz A j / 2 else 0) := rfl
          simp only [c21, c41, if_true, if_false, Int.add_zero] at e0
          rw [← e0]
          exact ih (j + 1) (by omega) (by omega)
        · rw [xq (by omega) (by omega) (by omega)] at c41
          refine g_iload_n dX4_guestsOf_44 rfl ?_
          refine g_aload_n dX4_guestsOf_45 rfl ?_
          refine g_iload_n dX4_guestsOf_46 rfl ?_
          refine f1_V (u' := 0) lX4_148 kX4_secondPart (mX4_secondPart hC hI (by assumption)) dX4_guestsOf_47 rfl rfl rfl rfl rfl rfl rfl rfl ?_
          refine g_iadd dX4_guestsOf_50 ?_
          refine g_top (iI_add _ _) ?_
          refine s_i (i := 2) dX4_guestsOf_51 rfl rfl rfl rfl ?_
          dsimp only [List.set]
          refine s_inc (v := nI (j + 1)) dX4_guestsOf_52 rfl nI_s rfl rfl rfl ?_
          dsimp only [List.set]
          refine g_goto (tgt := 4) dX4_guestsOf_55 (by decide) ?_
          have e0 : s_gst A i (j + 1) = s_gst A i j + (if aF A 14 j = i then (s_sz A j + 1) / 2 else 0) + (if aF A 15 j = i then s_sz A j / 2 else 0) := rfl
          simp only [c21, c41, if_true, if_false, Int.add_zero] at e0
          rw [← e0]
          exact ih (j + 1) (by omega) (by omega)
      · rw [xq (by omega) (by omega) (by omega)] at c21
        refine g_iload_n dX4_guestsOf_24 rfl ?_
        refine g_aload_n dX4_guestsOf_25 rfl ?_
        refine g_iload_n dX4_guestsOf_26 rfl ?_
        refine f1_V (u' := 0) lX4_145 kX4_firstPart (mX4_firstPart hC hI (by assumption)) dX4_guestsOf_27 rfl rfl rfl rfl rfl rfl rfl rfl ?_
        refine g_iadd dX4_guestsOf_30 ?_
        refine g_top (iI_add _ _) ?_
        refine s_i (i := 2) dX4_guestsOf_31 rfl rfl rfl rfl ?_
        dsimp only [List.set]
        refine g_aload_n dX4_guestsOf_32 rfl ?_
        refine g_getr (q := 15) fX4_67 dX4_guestsOf_33 rfl rfl rfl ?_
        refine g_iload_n dX4_guestsOf_36 rfl ?_
        refine f1_SN (u' := 0) lX4_85 kX5_at (mA_l (f := 15) hC i2 (by assumption) rfl) dX4_guestsOf_37 rfl rfl rfl rfl rfl rfl ?_
        refine g_iload_n dX4_guestsOf_40 rfl ?_
        refine g_icmp_ne (tgt := 52) dX4_guestsOf_41 (by decide) (fun c41 => ?_) (fun c41 => ?_)
        · rw [xq (by omega) (by omega) (by omega)] at c41
          refine s_inc (v := nI (j + 1)) dX4_guestsOf_52 rfl nI_s rfl rfl rfl ?_
          dsimp only [List.set]
          refine g_goto (tgt := 4) dX4_guestsOf_55 (by decide) ?_
          have e0 : s_gst A i (j + 1) = s_gst A i j + (if aF A 14 j = i then (s_sz A j + 1) / 2 else 0) + (if aF A 15 j = i then s_sz A j / 2 else 0) := rfl
          simp only [c21, c41, if_true, if_false, Int.add_zero] at e0
          rw [← e0]
          exact ih (j + 1) (by omega) (by omega)
        · rw [xq (by omega) (by omega) (by omega)] at c41
          refine g_iload_n dX4_guestsOf_44 rfl ?_
          refine g_aload_n dX4_guestsOf_45 rfl ?_
          refine g_iload_n dX4_guestsOf_46 rfl ?_
          refine f1_V (u' := 0) lX4_148 kX4_secondPart (mX4_secondPart hC hI (by assumption)) dX4_guestsOf_47 rfl rfl rfl rfl rfl rfl rfl rfl ?_
          refine g_iadd dX4_guestsOf_50 ?_
          refine g_top (iI_add _ _) ?_
          refine s_i (i := 2) dX4_guestsOf_51 rfl rfl rfl rfl ?_
          dsimp only [List.set]
          refine s_inc (v := nI (j + 1)) dX4_guestsOf_52 rfl nI_s rfl rfl rfl ?_
          dsimp only [List.set]
          refine g_goto (tgt := 4) dX4_guestsOf_55 (by decide) ?_
          have e0 : s_gst A i (j + 1) = s_gst A i j + (if aF A 14 j = i then (s_sz A j + 1) / 2 else 0) + (if aF A 15 j = i then s_sz A j / 2 else 0) := rfl
          simp only [c21, c41, if_true, if_false, Int.add_zero] at e0
          rw [← e0]
          exact ih (j + 1) (by omega) (by omega)
set_option maxRecDepth 100000 in
theorem mX4_guestsOf {l : Launch} {G : ux_G} {h : ux_H} {i : Nat} {A : Ab} {P : Nat} (hC : rC 0 A h) (hI : Inv P A) (hi : i < A.2.1) : ux_F l G yX4_guestsOf iX4_guestsOf 4 0 [.ref 0, .int (nI i)] h (some (.int (iI (s_gst A i A.2.1)))) (h) := by
  unfold ux_F
  refine ux_ent (L' := [some (.ref 0), some (.int (nI i)), none, none]) kX4_guestsOf rfl rfl rfl rfl ?_
  obtain ⟨i1, i2, i3, i4, i5, i6⟩ := id hI
  refine g_iconst (v := 0) dX4_guestsOf_0 (by decide) ?_
  refine s_i (i := 2) dX4_guestsOf_1 rfl rfl rfl rfl ?_
  dsimp only [List.set]
  refine g_iconst (v := 0) dX4_guestsOf_2 (by decide) ?_
  refine s_i (i := 3) dX4_guestsOf_3 rfl rfl rfl rfl ?_
  dsimp only [List.set]
  exact wX4_guestsOf (l := l) (G := G) hC hI hi (A.2.1 + 1) 0 (Nat.zero_le _) (by omega)
set_option maxRecDepth 100000 in
theorem mX4_loadOf {l : Launch} {G : ux_G} {h : ux_H} {i : Nat} {A : Ab} {P : Nat} (hC : rC 0 A h) (hI : Inv P A) (hi : i < A.2.1) : ux_F l G yX4_loadOf iX4_loadOf 5 0 [.ref 0, .int (nI i)] h (some (.int (iI (s_load A i)))) (h) := by
  unfold ux_F
  refine ux_ent (L' := [some (.ref 0), some (.int (nI i))]) kX4_loadOf rfl rfl rfl rfl ?_
  obtain ⟨i1, i2, i3, i4, i5, i6⟩ := id hI
  refine g_aload_n dX4_loadOf_0 rfl ?_
  refine g_iload_n dX4_loadOf_1 rfl ?_
  refine f1_V (u' := 0) lX4_142 kX4_sizeOf (mX4_sizeOf hC hI (by assumption)) dX4_loadOf_2 rfl rfl rfl rfl rfl rfl rfl rfl ?_
  refine g_aload_n dX4_loadOf_5 rfl ?_
  refine g_iload_n dX4_loadOf_6 rfl ?_
  refine f1_V (u' := 0) lX4_151 kX4_guestsOf (mX4_guestsOf hC hI (by assumption)) dX4_loadOf_7 rfl rfl rfl rfl rfl rfl rfl rfl ?_
  refine g_iadd dX4_loadOf_10 ?_
  refine g_ireturn dX4_loadOf_11 rfl rfl (by decide) ?_
  refine ⟨?_, rfl⟩
  rw [iI_add]; rfl
theorem s_gst_r {P : Nat} {A : Ab} (hI : Inv P A) (i n : Nat) (hn : n ≤ A.2.1) : 0 ≤ s_gst A i n ∧ s_gst A i n ≤ 31 * n := by
  induction n with
  | zero => exact ⟨by simp [s_gst], by simp [s_gst]⟩
  | succ n ih =>
    have q := ih (by omega)
    have ln := hI.2.2.2.2.2 n (by omega)
    have cn := hI.2.2.2.2.1 (aF A 9 n).toNat (by omega)
    have es : s_sz A n = aF A 6 (aF A 9 n).toNat := rfl
    unfold s_gst
    split <;> split <;> omega
theorem s_load_r {P : Nat} {A : Ab} (hI : Inv P A) {i : Nat} (hi : i < A.2.1) : 1 ≤ s_load A i ∧ s_load A i ≤ 1300 := by
  have q := s_gst_r hI i A.2.1 (Nat.le_refl _)
  have h2 := hI.2.1
  have ln := hI.2.2.2.2.2 i hi
  have cn := hI.2.2.2.2.1 (aF A 9 i).toNat (by omega)
  have es : s_sz A i = aF A 6 (aF A 9 i).toNat := rfl
  unfold s_load
  omega
set_option maxRecDepth 100000 in
theorem mX4_canHost {l : Launch} {G : ux_G} {h : ux_H} {i : Nat} {m : Int} {A : Ab} {P : Nat} (hC : rC 0 A h) (hI : Inv P A) (hm : 0 ≤ m ∧ m ≤ 100) (hi : i < A.2.1) : ux_F l G yX4_canHost iX4_canHost 6 0 [.ref 0, .int (nI i), .int (iI m)] h (some (.int (if s_act A i ≠ -1 ∧ s_load A i + m ≤ aF A 7 (aF A 12 i).toNat then 1 else 0))) (h) := by
  unfold ux_F
  refine ux_ent (L' := [some (.ref 0), some (.int (nI i)), some (.int (iI m))]) kX4_canHost rfl rfl rfl rfl ?_
  obtain ⟨i1, i2, i3, i4, i5, i6⟩ := id hI
  have il := i6 i hi
  have hl := s_load_r hI hi
  have cc := i5 (aF A 12 i).toNat (by omega)
  have hr : -1 ≤ s_act A i ∧ s_act A i < 8 := by unfold s_act; split <;> omega
  refine g_aload_n dX4_canHost_0 rfl ?_
  refine g_iload_n dX4_canHost_1 rfl ?_
  refine f1_V (u' := 0) lX4_123 kX4_actingOf (mX4_actingOf hC hI (by assumption)) dX4_canHost_2 rfl rfl rfl rfl rfl rfl rfl rfl ?_
  refine g_iconst (v := (-1)) dX4_canHost_5 (by decide) ?_
  refine g_icmp_eq (tgt := 28) dX4_canHost_6 (by decide) (fun c6 => ?_) (fun c6 => ?_)
  · rw [xqm (by omega) (by omega)] at c6
    refine g_iconst (v := 0) dX4_canHost_28 (by decide) ?_
    refine g_ireturn dX4_canHost_29 rfl rfl (by decide) ?_
    refine ⟨?_, rfl⟩
    first | (rw [if_pos (by omega)]) | (rw [if_neg (by omega)])
  · rw [xqm (by omega) (by omega)] at c6
    refine g_aload_n dX4_canHost_9 rfl ?_
    refine g_iload_n dX4_canHost_10 rfl ?_
    refine f1_V (u' := 0) lX4_154 kX4_loadOf (mX4_loadOf hC hI (by assumption)) dX4_canHost_11 rfl rfl rfl rfl rfl rfl rfl rfl ?_
    refine g_iload_n dX4_canHost_14 rfl ?_
    refine g_iadd dX4_canHost_15 ?_
    refine g_aload_n dX4_canHost_16 rfl ?_
    refine g_iload_n dX4_canHost_17 rfl ?_
    refine f1_V (u' := 0) lX4_157 kX4_capacityOf (mX4_capacityOf hC hI (by assumption)) dX4_canHost_18 rfl rfl rfl rfl rfl rfl rfl rfl ?_
    refine g_icmp_gt (tgt := 28) dX4_canHost_21 (by decide) (fun c21 => ?_) (fun c21 => ?_)
    · rw [iI_add, iI_lt (by omega) (by omega) (by omega) (by omega)] at c21
      refine g_iconst (v := 0) dX4_canHost_28 (by decide) ?_
      refine g_ireturn dX4_canHost_29 rfl rfl (by decide) ?_
      refine ⟨?_, rfl⟩
      first | (rw [if_pos (by omega)]) | (rw [if_neg (by omega)])
    · rw [iI_add, iI_lt (by omega) (by omega) (by omega) (by omega)] at c21
      refine g_iconst (v := 1) dX4_canHost_24 (by decide) ?_
      refine g_goto (tgt := 29) dX4_canHost_25 (by decide) ?_
      refine g_ireturn dX4_canHost_29 rfl rfl (by decide) ?_
      refine ⟨?_, rfl⟩
      first | (rw [if_pos (by omega)]) | (rw [if_neg (by omega)])
set_option maxRecDepth 100000 in
theorem mX4_shareFor {l : Launch} {G : ux_G} {h : ux_H} {t : Nat} {p : Int} {A : Ab} {P : Nat} (hC : rC 0 A h) (hI : Inv P A) (hp : -100000000 ≤ p ∧ p ≤ 100000000) (ht : t < A.1) : ux_F l G yX4_shareFor iX4_shareFor 2 0 [.ref 0, .int (nI t), .int (iI p)] h (some (.int (iI (s_share A t p)))) (h) := by
  unfold ux_F
  refine ux_ent (L' := [some (.ref 0), some (.int (nI t)), some (.int (iI p)), none]) kX4_shareFor rfl rfl rfl rfl ?_
  obtain ⟨i1, i2, i3, i4, i5, i6⟩ := id hI
  have tl := i4 t ht
  refine g_aload_n dX4_shareFor_0 rfl ?_
  refine g_getr (q := 2) fX4_28 dX4_shareFor_1 rfl rfl rfl ?_
  refine g_iload_n dX4_shareFor_4 rfl ?_
  refine f1_SN (u' := 0) lX4_85 kX5_at (mA_t (f := 2) hC i1 (by assumption) rfl) dX4_shareFor_5 rfl rfl rfl rfl rfl rfl ?_
  refine s_i (i := 3) dX4_shareFor_8 rfl rfl rfl rfl ?_
  dsimp only [List.set]
  refine g_iload_n dX4_shareFor_9 rfl ?_
  refine g_iconst (v := 1) dX4_shareFor_10 (by decide) ?_
  refine g_icmp_ge (tgt := 18) dX4_shareFor_11 (by decide) (fun c11 => ?_) (fun c11 => ?_)
  · rw [show (1 : Int32) = iI 1 by decide, iI_le (by omega) (by omega) (by omega) (by omega)] at c11
    refine g_bipush (v := 12) dX4_shareFor_18 (by decide) ?_
    refine g_iload_n dX4_shareFor_20 rfl ?_
    refine g_imul dX4_shareFor_21 ?_
    refine g_iload_n dX4_shareFor_22 rfl ?_
    refine g_idiv dX4_shareFor_23 (by rw [xq0 (by omega) (by omega)]; omega) ?_
    refine g_ireturn dX4_shareFor_24 rfl rfl (by decide) ?_
    refine ⟨?_, rfl⟩
    rw [show (12 : Int32) = iI 12 by decide, iI_mul, iI_div (by omega) (by omega) (by omega) (by omega)]; rfl
  · exact absurd (by rw [show (1 : Int32) = iI 1 by decide, iI_le (by omega) (by omega) (by omega) (by omega)]; omega) c11
set_option maxRecDepth 100000 in
theorem mX4_shareOf {l : Launch} {G : ux_G} {h : ux_H} {t : Nat} {A : Ab} {P : Nat} (hC : rC 0 A h) (hI : Inv P A) (ht : t < A.1) : ux_F l G yX4_shareOf iX4_shareOf 3 0 [.ref 0, .int (nI t)] h (some (.int (iI (s_share A t (aF A 4 t))))) (h) := by
  unfold ux_F
  refine ux_ent (L' := [some (.ref 0), some (.int (nI t))]) kX4_shareOf rfl rfl rfl rfl ?_
  obtain ⟨i1, i2, i3, i4, i5, i6⟩ := id hI
  have tl := i4 t ht
  refine g_aload_n dX4_shareOf_0 rfl ?_
  refine g_iload_n dX4_shareOf_1 rfl ?_
  refine g_aload_n dX4_shareOf_2 rfl ?_
  refine g_getr (q := 4) fX4_34 dX4_shareOf_3 rfl rfl rfl ?_
  refine g_iload_n dX4_shareOf_6 rfl ?_
  refine f1_SN (u' := 0) lX4_85 kX5_at (mA_t (f := 4) hC i1 (by assumption) rfl) dX4_shareOf_7 rfl rfl rfl rfl rfl rfl ?_
  refine f1_V (u' := 0) lX4_111 kX4_shareFor (mX4_shareFor hC hI (by omega) (by assumption)) dX4_shareOf_10 rfl rfl rfl rfl rfl rfl rfl rfl ?_
  refine g_ireturn dX4_shareOf_13 rfl rfl (by decide) ?_
  exact ⟨rfl, rfl⟩
set_option maxRecDepth 100000 in
theorem mX4_pointsFor {l : Launch} {G : ux_G} {h : ux_H} {i t : Nat} {A : Ab} {P : Nat} (hC : rC 0 A h) (hI : Inv P A) (hi : i < A.2.1) (ht : t < A.1) : ux_F l G yX4_pointsFor iX4_pointsFor 3 0 [.ref 0, .int (nI i), .int (nI t)] h (some (.int (iI (s_worth A i t)))) (h) := by
  unfold ux_F
  refine ux_ent (L' := [some (.ref 0), some (.int (nI i)), some (.int (nI t)), none, none]) kX4_pointsFor rfl rfl rfl rfl ?_
  obtain ⟨i1, i2, i3, i4, i5, i6⟩ := id hI
  have il := i6 i hi
  refine g_aload_n dX4_pointsFor_0 rfl ?_
  refine g_getr (q := 8) fX4_46 dX4_pointsFor_1 rfl rfl rfl ?_
  refine g_iload_n dX4_pointsFor_4 rfl ?_
  refine f1_SN (u' := 0) lX4_85 kX5_at (mA_l (f := 8) hC i2 (by assumption) rfl) dX4_pointsFor_5 rfl rfl rfl rfl rfl rfl ?_
  refine g_bipush (v := 6) dX4_pointsFor_8 (by decide) ?_
  refine g_irem dX4_pointsFor_10 (by decide) ?_
  refine g_top (y := iI (aF A 8 i % 6)) (by rw [show (6 : Int32) = iI 6 by decide]; exact iI_rem (by omega) (by omega) (by omega) (by omega)) ?_
  refine s_i (i := 3) dX4_pointsFor_11 rfl rfl rfl rfl ?_
  dsimp only [List.set]
  refine g_iload_n dX4_pointsFor_12 rfl ?_
  refine g_iconst (v := 3) dX4_pointsFor_13 (by decide) ?_
  refine g_icmp_ge (tgt := 21) dX4_pointsFor_14 (by decide) (fun c14 => ?_) (fun c14 => ?_)
  · rw [show (3 : Int32) = iI 3 by decide, iI_le (by omega) (by omega) (by omega) (by omega)] at c14
    refine g_iload_n dX4_pointsFor_21 rfl ?_
    refine g_iconst (v := 5) dX4_pointsFor_22 (by decide) ?_
    refine g_icmp_ge (tgt := 30) dX4_pointsFor_23 (by decide) (fun c23 => ?_) (fun c23 => ?_)
    · rw [show (5 : Int32) = iI 5 by decide, iI_le (by omega) (by omega) (by omega) (by omega)] at c23
      refine g_iconst (v := 4) dX4_pointsFor_30 (by decide) ?_
      refine s_iw dX4_pointsFor_31 rfl rfl rfl ?_
      dsimp only [List.set]
      refine g_aload_n dX4_pointsFor_33 rfl ?_
      refine g_iload_n dX4_pointsFor_34 rfl ?_
      refine g_aload_n dX4_pointsFor_35 rfl ?_
      refine g_getr (q := 10) fX4_52 dX4_pointsFor_36 rfl rfl rfl ?_
      refine g_iload_n dX4_pointsFor_39 rfl ?_
      refine f1_SN (u' := 0) lX4_85 kX5_at (mA_l (f := 10) hC i2 (by assumption) rfl) dX4_pointsFor_40 rfl rfl rfl rfl rfl rfl ?_
      refine f1_V (u' := 0) lX4_117 kX4_hasSubject (mX4_hasSubject hC hI (by assumption)) dX4_pointsFor_43 rfl rfl rfl rfl rfl rfl rfl rfl ?_
      refine g_if_eq (tgt := 54) dX4_pointsFor_46 (by decide) (fun c46 => ?_) (fun c46 => ?_)
      · have q := xb_0.mp c46
        refine g_iload dX4_pointsFor_54 rfl ?_
        refine g_iconst (v := 2) dX4_pointsFor_56 (by decide) ?_
        refine g_iadd dX4_pointsFor_57 ?_
        refine g_ireturn dX4_pointsFor_58 rfl rfl (by decide) ?_
        refine ⟨?_, rfl⟩
        have e0 : s_worth A i t = _ := rfl
        unfold s_worth
        first | (rw [if_pos (by omega)]) | (rw [if_neg (by omega), if_pos (by omega)]) | (rw [if_neg (by omega), if_neg (by omega)])
        simp only [q, if_true, if_false]
        decide
      · have q := Decidable.not_not.mp ((not_congr xb_0).mp c46)
        refine g_iload dX4_pointsFor_49 rfl ?_
        refine g_goto (tgt := 58) dX4_pointsFor_51 (by decide) ?_
        refine g_ireturn dX4_pointsFor_58 rfl rfl (by decide) ?_
        refine ⟨?_, rfl⟩
        have e0 : s_worth A i t = _ := rfl
        unfold s_worth
        first | (rw [if_pos (by omega)]) | (rw [if_neg (by omega), if_pos (by omega)]) | (rw [if_neg (by omega), if_neg (by omega)])
        simp only [q, if_true, if_false]
        decide
    · rw [show (5 : Int32) = iI 5 by decide, iI_le (by omega) (by omega) (by omega) (by omega)] at c23
      refine g_iconst (v := 3) dX4_pointsFor_26 (by decide) ?_
      refine g_goto (tgt := 31) dX4_pointsFor_27 (by decide) ?_
      refine s_iw dX4_pointsFor_31 rfl rfl rfl ?_
      dsimp only [List.set]
      refine g_aload_n dX4_pointsFor_33 rfl ?_
      refine g_iload_n dX4_pointsFor_34 rfl ?_
      refine g_aload_n dX4_pointsFor_35 rfl ?_
      refine g_getr (q := 10) fX4_52 dX4_pointsFor_36 rfl rfl rfl ?_
      refine g_iload_n dX4_pointsFor_39 rfl ?_
      refine f1_SN (u' := 0) lX4_85 kX5_at (mA_l (f := 10) hC i2 (by assumption) rfl) dX4_pointsFor_40 rfl rfl rfl rfl rfl rfl ?_
      refine f1_V (u' := 0) lX4_117 kX4_hasSubject (mX4_hasSubject hC hI (by assumption)) dX4_pointsFor_43 rfl rfl rfl rfl rfl rfl rfl rfl ?_
      refine g_if_eq (tgt := 54) dX4_pointsFor_46 (by decide) (fun c46 => ?_) (fun c46 => ?_)
      · have q := xb_0.mp c46
        refine g_iload dX4_pointsFor_54 rfl ?_
        refine g_iconst (v := 2) dX4_pointsFor_56 (by decide) ?_
        refine g_iadd dX4_pointsFor_57 ?_
        refine g_ireturn dX4_pointsFor_58 rfl rfl (by decide) ?_
        refine ⟨?_, rfl⟩
        have e0 : s_worth A i t = _ := rfl
        unfold s_worth
        first | (rw [if_pos (by omega)]) | (rw [if_neg (by omega), if_pos (by omega)]) | (rw [if_neg (by omega), if_neg (by omega)])
        simp only [q, if_true, if_false]
        decide
      · have q := Decidable.not_not.mp ((not_congr xb_0).mp c46)
        refine g_iload dX4_pointsFor_49 rfl ?_
        refine g_goto (tgt := 58) dX4_pointsFor_51 (by decide) ?_
        refine g_ireturn dX4_pointsFor_58 rfl rfl (by decide) ?_
        refine ⟨?_, rfl⟩
        have e0 : s_worth A i t = _ := rfl
        unfold s_worth
        first | (rw [if_pos (by omega)]) | (rw [if_neg (by omega), if_pos (by omega)]) | (rw [if_neg (by omega), if_neg (by omega)])
        simp only [q, if_true, if_false]
        decide
  · rw [show (3 : Int32) = iI 3 by decide, iI_le (by omega) (by omega) (by omega) (by omega)] at c14
    refine g_iconst (v := 2) dX4_pointsFor_17 (by decide) ?_
    refine g_goto (tgt := 31) dX4_pointsFor_18 (by decide) ?_
    refine s_iw dX4_pointsFor_31 rfl rfl rfl ?_
    dsimp only [List.set]
    refine g_aload_n dX4_pointsFor_33 rfl ?_
    refine g_iload_n dX4_pointsFor_34 rfl ?_
    refine g_aload_n dX4_pointsFor_35 rfl ?_
    refine g_getr (q := 10) fX4_52 dX4_pointsFor_36 rfl rfl rfl ?_
    refine g_iload_n dX4_pointsFor_39 rfl ?_
    refine f1_SN (u' := 0) lX4_85 kX5_at (mA_l (f := 10) hC i2 (by assumption) rfl) dX4_pointsFor_40 rfl rfl rfl rfl rfl rfl ?_
    refine f1_V (u' := 0) lX4_117 kX4_hasSubject (mX4_hasSubject hC hI (by assumption)) dX4_pointsFor_43 rfl rfl rfl rfl rfl rfl rfl rfl ?_
    refine g_if_eq (tgt := 54) dX4_pointsFor_46 (by decide) (fun c46 => ?_) (fun c46 => ?_)
    · have q := xb_0.mp c46
      refine g_iload dX4_pointsFor_54 rfl ?_
      refine g_iconst (v := 2) dX4_pointsFor_56 (by decide) ?_
      refine g_iadd dX4_pointsFor_57 ?_
      refine g_ireturn dX4_pointsFor_58 rfl rfl (by decide) ?_
      refine ⟨?_, rfl⟩
      have e0 : s_worth A i t = _ := rfl
      unfold s_worth
      first | (rw [if_pos (by omega)]) | (rw [if_neg (by omega), if_pos (by omega)]) | (rw [if_neg (by omega), if_neg (by omega)])
      simp only [q, if_true, if_false]
      decide
    · have q := Decidable.not_not.mp ((not_congr xb_0).mp c46)
      refine g_iload dX4_pointsFor_49 rfl ?_
      refine g_goto (tgt := 58) dX4_pointsFor_51 (by decide) ?_
      refine g_ireturn dX4_pointsFor_58 rfl rfl (by decide) ?_
      refine ⟨?_, rfl⟩
      have e0 : s_worth A i t = _ := rfl
      unfold s_worth
      first | (rw [if_pos (by omega)]) | (rw [if_neg (by omega), if_pos (by omega)]) | (rw [if_neg (by omega), if_neg (by omega)])
      simp only [q, if_true, if_false]
      decide
theorem s_share_r {P : Nat} {A : Ab} (hI : Inv P A) {t : Nat} (ht : t < A.1) {p : Int} {B : Int} (h1 : -B ≤ p) (h2 : p ≤ B) : -(12 * B) ≤ s_share A t p ∧ s_share A t p ≤ 12 * B := by
  unfold s_share
  have := Int.natAbs_tdiv_le_natAbs (12 * p) (aF A 2 t)
  omega
set_option maxRecDepth 100000 in
theorem mX4_shareWith {l : Launch} {G : ux_G} {h : ux_H} {i t : Nat} {A : Ab} {P : Nat} (hC : rC 0 A h) (hI : Inv P A) (hi : i < A.2.1) (ht : t < A.1) : ux_F l G yX4_shareWith iX4_shareWith 4 0 [.ref 0, .int (nI i), .int (nI t)] h (some (.int (iI (s_share A t (aF A 4 t + s_worth A i t))))) (h) := by
  unfold ux_F
  refine ux_ent (L' := [some (.ref 0), some (.int (nI i)), some (.int (nI t))]) kX4_shareWith rfl rfl rfl rfl ?_
  obtain ⟨i1, i2, i3, i4, i5, i6⟩ := id hI
  have tl := i4 t ht
  have wr := s_worth_r A i t
  refine g_aload_n dX4_shareWith_0 rfl ?_
  refine g_iload_n dX4_shareWith_1 rfl ?_
  refine g_aload_n dX4_shareWith_2 rfl ?_
  refine g_getr (q := 4) fX4_34 dX4_shareWith_3 rfl rfl rfl ?_
  refine g_iload_n dX4_shareWith_6 rfl ?_
  refine f1_SN (u' := 0) lX4_85 kX5_at (mA_t (f := 4) hC i1 (by assumption) rfl) dX4_shareWith_7 rfl rfl rfl rfl rfl rfl ?_
  refine g_aload_n dX4_shareWith_10 rfl ?_
  refine g_iload_n dX4_shareWith_11 rfl ?_
  refine g_iload_n dX4_shareWith_12 rfl ?_
  refine f1_V (u' := 0) lX4_120 kX4_pointsFor (mX4_pointsFor hC hI (by assumption) (by assumption)) dX4_shareWith_13 rfl rfl rfl rfl rfl rfl rfl rfl ?_
  refine g_iadd dX4_shareWith_16 ?_
  refine g_top (iI_add _ _) ?_
  refine f1_V (u' := 0) lX4_111 kX4_shareFor (mX4_shareFor hC hI (by omega) (by assumption)) dX4_shareWith_17 rfl rfl rfl rfl rfl rfl rfl rfl ?_
  refine g_ireturn dX4_shareWith_20 rfl rfl (by decide) ?_
  exact ⟨rfl, rfl⟩
