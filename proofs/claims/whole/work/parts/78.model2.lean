/-! THE REFERENCE: its reads with loops. -/
theorem z_ix {a : Int} (h1 : 0 ≤ a) (h2 : a ≤ 1000) : (4 : Int32) + iI a = nI (4 + a.toNat) := by
  rw [show (4 : Int32) = iI 4 by decide, iI_add, nI_iI]; congr 1; omega
theorem c_ix {a : Int} (h1 : 0 ≤ a) (h2 : a ≤ 1000) : (10 : Int32) + iI a = nI (10 + a.toNat) := by
  rw [show (10 : Int32) = iI 10 by decide, iI_add, nI_iI]; congr 1; omega
theorem m_up {z : Int} (h1 : 0 ≤ z) (h2 : z ≤ 1000) : (iI z + 1) / 2 = iI ((z + 1) / 2) := by
  rw [show (1 : Int32) = iI 1 by decide, iI_add, show (2 : Int32) = iI 2 by decide, iI_div (by omega) (by omega) (by omega) (by omega), Int.tdiv_eq_ediv_of_nonneg (by omega)]
theorem m_dn {z : Int} (h1 : 0 ≤ z) (h2 : z ≤ 1000) : iI z / 2 = iI (z / 2) := by
  rw [show (2 : Int32) = iI 2 by decide, iI_div (by omega) (by omega) (by omega) (by omega), Int.tdiv_eq_ediv_of_nonneg (by omega)]
theorem m_6 {z : Int} (h1 : 0 ≤ z) (h2 : z ≤ 1000) : iI z / 6 = iI (z / 6) := by
  rw [show (6 : Int32) = iI 6 by decide, iI_div (by omega) (by omega) (by omega) (by omega), Int.tdiv_eq_ediv_of_nonneg (by omega)]
set_option maxRecDepth 100000 in
theorem wX6_load {l : Launch} {G : ux_G} {h : ux_H} {i : Nat} {A : Ab} {P : Nat} (hM : rM 193 0 A h) (hI : Inv P A) (hi : i < A.2.1) : ∀ (n : Nat) (j : Nat), j ≤ A.2.1 → A.2.1 - j < n → ux_W l G iX6_load (ux_rm 3 0) (ux_Z G 0 (fun vv h' => vv = some (.int (iI (s_load A i))) ∧ h' = h) (fun _ _ => False)) 16 [some (.ref 192), some (.int (nI i)), some (.int (iI (s_sz A i + s_gst A i j))), some (.int (nI j)), none] [] (h) 0 := by
  intro n
  induction n with
  | zero => intro j hj hn; exact absurd hn (Nat.not_lt_zero _)
  | succ n ih =>
    intro j hj hn
    obtain ⟨i1, i2, i3, i4, i5, i6⟩ := id hI
    refine g_iload_n dX6_load_16 rfl ?_
    refine g_aload_n dX6_load_17 rfl ?_
    refine f1_V (u' := 0) lX6_54 kX6_lessons (mX6_lessons hM) dX6_load_18 rfl rfl rfl rfl rfl rfl rfl rfl ?_
    refine g_icmp_ge (tgt := 83) dX6_load_21 (by decide) (fun c21 => ?_) (fun c21 => ?_)
    · have e : j = A.2.1 := by have := xlt_i c21 (by omega) (by omega); omega
      subst e
      refine g_iload_n dX6_load_83 rfl ?_
      refine g_ireturn dX6_load_84 rfl rfl (by decide) ?_
      exact ⟨rfl, rfl⟩
    · have hlt : j < A.2.1 := xnl_i c21 (by omega) (by omega)
      have il := i6 j hlt
      have cz := i5 (aF A 9 j).toNat (by omega)
      have es : s_sz A j = aF A 6 (aF A 9 j).toNat := rfl
      refine g_aload_n dX6_load_24 rfl ?_
      refine g_getr (q := 193) fX6_9 dX6_load_25 rfl rfl rfl ?_
      refine g_iconst (v := 4) dX6_load_28 (by decide) ?_
      refine g_aload_n dX6_load_29 rfl ?_
      refine g_iload_n dX6_load_30 rfl ?_
      refine g_iconst (v := 1) dX6_load_31 (by decide) ?_
      refine f1_V (u' := 0) lX6_78 kX6_of (mX6_of (f := 9) hM (by omega) rfl (by assumption)) dX6_load_32 rfl rfl rfl rfl rfl rfl rfl rfl ?_
      refine g_iadd dX6_load_35 ?_
      refine g_top (z_ix (by omega) (by omega)) ?_
      refine g_iald dX6_load_36 rfl (show 4 + _ < 376 by omega) rfl ?_
      refine g_top (y := iI (s_sz A j)) (rM_z hM (by omega)) ?_
      refine s_iw dX6_load_37 rfl rfl rfl ?_
      dsimp only [List.set]
      refine g_aload_n dX6_load_39 rfl ?_
      refine g_iload_n dX6_load_40 rfl ?_
      refine g_bipush (v := 6) dX6_load_41 (by decide) ?_
      refine f1_V (u' := 0) lX6_78 kX6_of (mX6_of (f := 14) hM (by omega) rfl (by assumption)) dX6_load_43 rfl rfl rfl rfl rfl rfl rfl rfl ?_
      refine g_iload_n dX6_load_46 rfl ?_
      refine g_icmp_ne (tgt := 59) dX6_load_47 (by decide) (fun c47 => ?_) (fun c47 => ?_)
      · rw [xq (by omega) (by omega) (by omega)] at c47
        refine g_aload_n dX6_load_59 rfl ?_
        refine g_iload_n dX6_load_60 rfl ?_
        refine g_bipush (v := 7) dX6_load_61 (by decide) ?_
        refine f1_V (u' := 0) lX6_78 kX6_of (mX6_of (f := 15) hM (by omega) rfl (by assumption)) dX6_load_63 rfl rfl rfl rfl rfl rfl rfl rfl ?_
        refine g_iload_n dX6_load_66 rfl ?_
        refine g_icmp_ne (tgt := 77) dX6_load_67 (by decide) (fun c67 => ?_) (fun c67 => ?_)
        · rw [xq (by omega) (by omega) (by omega)] at c67
          refine s_inc (v := nI (j + 1)) dX6_load_77 rfl nI_s rfl rfl rfl ?_
          dsimp only [List.set]
          refine g_goto (tgt := 16) dX6_load_80 (by decide) ?_
          refine g_fg 4 rfl ?_
          dsimp only [List.set]
          have e0 : s_gst A i (j + 1) = s_gst A i j + (if aF A 14 j = i then (s_sz A j + 1) / 2 else 0) + (if aF A 15 j = i then s_sz A j / 2 else 0) := rfl
          simp only [c47, c67, if_true, if_false, Int.add_zero] at e0
          refine g_h rfl ?_
          have ih9 := ih (j + 1) (by omega) (by omega)
          rw [e0] at ih9
          first | exact ih9 | (rw [Int.add_assoc]; exact ih9) | (rw [Int.add_assoc, Int.add_assoc]; rw [Int.add_assoc] at ih9; exact ih9)
        · rw [xq (by omega) (by omega) (by omega)] at c67
          refine g_iload_n dX6_load_70 rfl ?_
          refine g_iload dX6_load_71 rfl ?_
          refine g_iconst (v := 2) dX6_load_73 (by decide) ?_
          refine g_idiv dX6_load_74 (by decide) ?_
          refine g_iadd dX6_load_75 ?_
          refine g_top ((congrArg (fun z => _ + z) (m_dn (by omega) (by omega))).trans (iI_add _ _)) ?_
          refine s_i (i := 2) dX6_load_76 rfl rfl rfl rfl ?_
          dsimp only [List.set]
          refine s_inc (v := nI (j + 1)) dX6_load_77 rfl nI_s rfl rfl rfl ?_
          dsimp only [List.set]
          refine g_goto (tgt := 16) dX6_load_80 (by decide) ?_
          refine g_fg 4 rfl ?_
          dsimp only [List.set]
          have e0 : s_gst A i (j + 1) = s_gst A i j + (if aF A 14 j = i then (s_sz A j + 1) / 2 else 0) + (if aF A 15 j = i then s_sz A j / 2 else 0) := rfl
          simp only [c47, c67, if_true, if_false, Int.add_zero] at e0
          refine g_h rfl ?_
          have ih9 := ih (j + 1) (by omega) (by omega)
          rw [e0] at ih9
          first | exact ih9 | (rw [Int.add_assoc]; exact ih9) | (rw [Int.add_assoc, Int.add_assoc]; rw [Int.add_assoc] at ih9; exact ih9)
      · rw [xq (by omega) (by omega) (by omega)] at c47
        refine g_iload_n dX6_load_50 rfl ?_
        refine g_iload dX6_load_51 rfl ?_
        refine g_iconst (v := 1) dX6_load_53 (by decide) ?_
        refine g_iadd dX6_load_54 ?_
        refine g_iconst (v := 2) dX6_load_55 (by decide) ?_
        refine g_idiv dX6_load_56 (by decide) ?_
        refine g_iadd dX6_load_57 ?_
        refine g_top ((congrArg (fun z => _ + z) (m_up (by omega) (by omega))).trans (iI_add _ _)) ?_
        refine s_i (i := 2) dX6_load_58 rfl rfl rfl rfl ?_
        dsimp only [List.set]
        refine g_aload_n dX6_load_59 rfl ?_
        refine g_iload_n dX6_load_60 rfl ?_
        refine g_bipush (v := 7) dX6_load_61 (by decide) ?_
        refine f1_V (u' := 0) lX6_78 kX6_of (mX6_of (f := 15) hM (by omega) rfl (by assumption)) dX6_load_63 rfl rfl rfl rfl rfl rfl rfl rfl ?_
        refine g_iload_n dX6_load_66 rfl ?_
        refine g_icmp_ne (tgt := 77) dX6_load_67 (by decide) (fun c67 => ?_) (fun c67 => ?_)
        · rw [xq (by omega) (by omega) (by omega)] at c67
          refine s_inc (v := nI (j + 1)) dX6_load_77 rfl nI_s rfl rfl rfl ?_
          dsimp only [List.set]
          refine g_goto (tgt := 16) dX6_load_80 (by decide) ?_
          refine g_fg 4 rfl ?_
          dsimp only [List.set]
          have e0 : s_gst A i (j + 1) = s_gst A i j + (if aF A 14 j = i then (s_sz A j + 1) / 2 else 0) + (if aF A 15 j = i then s_sz A j / 2 else 0) := rfl
          simp only [c47, c67, if_true, if_false, Int.add_zero] at e0
          refine g_h rfl ?_
          have ih9 := ih (j + 1) (by omega) (by omega)
          rw [e0] at ih9
          first | exact ih9 | (rw [Int.add_assoc]; exact ih9) | (rw [Int.add_assoc, Int.add_assoc]; rw [Int.add_assoc] at ih9; exact ih9)
        · rw [xq (by omega) (by omega) (by omega)] at c67
          refine g_iload_n dX6_load_70 rfl ?_
          refine g_iload dX6_load_71 rfl ?_
          refine g_iconst (v := 2) dX6_load_73 (by decide) ?_
          refine g_idiv dX6_load_74 (by decide) ?_
          refine g_iadd dX6_load_75 ?_
          refine g_top ((congrArg (fun z => _ + z) (m_dn (by omega) (by omega))).trans (iI_add _ _)) ?_
          refine s_i (i := 2) dX6_load_76 rfl rfl rfl rfl ?_
          dsimp only [List.set]
          refine s_inc (v := nI (j + 1)) dX6_load_77 rfl nI_s rfl rfl rfl ?_
          dsimp only [List.set]
          refine g_goto (tgt := 16) dX6_load_80 (by decide) ?_
          refine g_fg 4 rfl ?_
          dsimp only [List.set]
          have e0 : s_gst A i (j + 1) = s_gst A i j + (if aF A 14 j = i then (s_sz A j + 1) / 2 else 0) + (if aF A 15 j = i then s_sz A j / 2 else 0) := rfl
          simp only [c47, c67, if_true, if_false, Int.add_zero] at e0
          refine g_h rfl ?_
          have ih9 := ih (j + 1) (by omega) (by omega)
          rw [e0] at ih9
          first | exact ih9 | (rw [Int.add_assoc]; exact ih9) | (rw [Int.add_assoc, Int.add_assoc]; rw [Int.add_assoc] at ih9; exact ih9)
set_option maxRecDepth 100000 in
theorem mX6_load {l : Launch} {G : ux_G} {h : ux_H} {i : Nat} {A : Ab} {P : Nat} (hM : rM 193 0 A h) (hI : Inv P A) (hi : i < A.2.1) : ux_F l G yX6_load iX6_load 3 0 [.ref 192, .int (nI i)] h (some (.int (iI (s_load A i)))) (h) := by
  unfold ux_F
  refine ux_ent (L' := [some (.ref 192), some (.int (nI i)), none, none, none]) kX6_load rfl rfl rfl rfl ?_
  obtain ⟨i1, i2, i3, i4, i5, i6⟩ := id hI
  have il := i6 i hi
  refine g_aload_n dX6_load_0 rfl ?_
  refine g_getr (q := 193) fX6_9 dX6_load_1 rfl rfl rfl ?_
  refine g_iconst (v := 4) dX6_load_4 (by decide) ?_
  refine g_aload_n dX6_load_5 rfl ?_
  refine g_iload_n dX6_load_6 rfl ?_
  refine g_iconst (v := 1) dX6_load_7 (by decide) ?_
  refine f1_V (u' := 0) lX6_78 kX6_of (mX6_of (f := 9) hM (by omega) rfl (by assumption)) dX6_load_8 rfl rfl rfl rfl rfl rfl rfl rfl ?_
  refine g_iadd dX6_load_11 ?_
  refine g_top (z_ix (by omega) (by omega)) ?_
  refine g_iald dX6_load_12 rfl (show 4 + _ < 376 by omega) rfl ?_
  refine g_top (y := iI (s_sz A i + s_gst A i 0)) ((rM_z hM (by omega)).trans (congrArg iI (Int.add_zero _).symm)) ?_
  refine s_i (i := 2) dX6_load_13 rfl rfl rfl rfl ?_
  dsimp only [List.set]
  refine g_iconst (v := 0) dX6_load_14 (by decide) ?_
  refine s_i (i := 3) dX6_load_15 rfl rfl rfl rfl ?_
  dsimp only [List.set]
  exact wX6_load (l := l) (G := G) hM hI hi (A.2.1 + 1) 0 (Nat.zero_le _) (by omega)
set_option maxRecDepth 100000 in
theorem mX6_worth {l : Launch} {G : ux_G} {h : ux_H} {i t : Nat} {A : Ab} {P : Nat} (hM : rM 193 0 A h) (hI : Inv P A) (hi : i < A.2.1) (ht : t < A.1) : ux_F l G yX6_worth iX6_worth 3 0 [.ref 192, .int (nI i), .int (nI t)] h (some (.int (iI (s_worth A i t)))) (h) := by
  unfold ux_F
  refine ux_ent (L' := [some (.ref 192), some (.int (nI i)), some (.int (nI t)), none]) kX6_worth rfl rfl rfl rfl ?_
  obtain ⟨i1, i2, i3, i4, i5, i6⟩ := id hI
  have il := i6 i hi
  refine g_aload_n dX6_worth_0 rfl ?_
  refine g_iload_n dX6_worth_1 rfl ?_
  refine g_iconst (v := 0) dX6_worth_2 (by decide) ?_
  refine f1_V (u' := 0) lX6_78 kX6_of (mX6_of (f := 8) hM (by omega) rfl (by assumption)) dX6_worth_3 rfl rfl rfl rfl rfl rfl rfl rfl ?_
  refine g_bipush (v := 6) dX6_worth_6 (by decide) ?_
  refine g_irem dX6_worth_8 (by decide) ?_
  refine g_top (y := iI (aF A 8 i % 6)) (by rw [show (6 : Int32) = iI 6 by decide]; exact iI_rem (by omega) (by omega) (by omega) (by omega)) ?_
  refine s_i (i := 3) dX6_worth_9 rfl rfl rfl rfl ?_
  dsimp only [List.set]
  refine g_iload_n dX6_worth_10 rfl ?_
  refine g_iconst (v := 3) dX6_worth_11 (by decide) ?_
  refine g_icmp_ge (tgt := 19) dX6_worth_12 (by decide) (fun c12 => ?_) (fun c12 => ?_)
  · rw [show (3 : Int32) = iI 3 by decide, iI_le (by omega) (by omega) (by omega) (by omega)] at c12
    refine g_iload_n dX6_worth_19 rfl ?_
    refine g_iconst (v := 5) dX6_worth_20 (by decide) ?_
    refine g_icmp_ge (tgt := 28) dX6_worth_21 (by decide) (fun c21 => ?_) (fun c21 => ?_)
    · rw [show (5 : Int32) = iI 5 by decide, iI_le (by omega) (by omega) (by omega) (by omega)] at c21
      refine g_iconst (v := 4) dX6_worth_28 (by decide) ?_
      refine g_aload_n dX6_worth_29 rfl ?_
      refine g_iload_n dX6_worth_30 rfl ?_
      refine g_iconst (v := 0) dX6_worth_31 (by decide) ?_
      refine f1_V (u' := 0) lX6_70 kX6_by (mX6_by (f := 1) hM (by omega) rfl (by assumption)) dX6_worth_32 rfl rfl rfl rfl rfl rfl rfl rfl ?_
      refine g_aload_n dX6_worth_35 rfl ?_
      refine g_iload_n dX6_worth_36 rfl ?_
      refine g_iconst (v := 2) dX6_worth_37 (by decide) ?_
      refine f1_V (u' := 0) lX6_78 kX6_of (mX6_of (f := 10) hM (by omega) rfl (by assumption)) dX6_worth_38 rfl rfl rfl rfl rfl rfl rfl rfl ?_
      refine f1_S (u' := 0) lX6_74 kX6_has (mX6_has) dX6_worth_41 rfl rfl rfl rfl rfl rfl ?_
      refine g_if_eq (tgt := 51) dX6_worth_44 (by decide) (fun c44 => ?_) (fun c44 => ?_)
      · have q := xb_0.mp c44
        refine g_iconst (v := 2) dX6_worth_51 (by decide) ?_
        refine g_iadd dX6_worth_52 ?_
        refine g_ireturn dX6_worth_53 rfl rfl (by decide) ?_
        refine ⟨?_, rfl⟩
        unfold s_worth
        first | (rw [if_pos (by omega)]) | (rw [if_neg (by omega), if_pos (by omega)]) | (rw [if_neg (by omega), if_neg (by omega)])
        simp only [q, if_true, if_false]
        decide
      · have q := Decidable.not_not.mp ((not_congr xb_0).mp c44)
        refine g_iconst (v := 0) dX6_worth_47 (by decide) ?_
        refine g_goto (tgt := 52) dX6_worth_48 (by decide) ?_
        refine g_iadd dX6_worth_52 ?_
        refine g_ireturn dX6_worth_53 rfl rfl (by decide) ?_
        refine ⟨?_, rfl⟩
        unfold s_worth
        first | (rw [if_pos (by omega)]) | (rw [if_neg (by omega), if_pos (by omega)]) | (rw [if_neg (by omega), if_neg (by omega)])
        simp only [q, if_true, if_false]
        decide
    · rw [show (5 : Int32) = iI 5 by decide, iI_le (by omega) (by omega) (by omega) (by omega)] at c21
      refine g_iconst (v := 3) dX6_worth_24 (by decide) ?_
      refine g_goto (tgt := 29) dX6_worth_25 (by decide) ?_
      refine g_aload_n dX6_worth_29 rfl ?_
      refine g_iload_n dX6_worth_30 rfl ?_
      refine g_iconst (v := 0) dX6_worth_31 (by decide) ?_
      refine f1_V (u' := 0) lX6_70 kX6_by (mX6_by (f := 1) hM (by omega) rfl (by assumption)) dX6_worth_32 rfl rfl rfl rfl rfl rfl rfl rfl ?_
      refine g_aload_n dX6_worth_35 rfl ?_
      refine g_iload_n dX6_worth_36 rfl ?_
      refine g_iconst (v := 2) dX6_worth_37 (by decide) ?_
      refine f1_V (u' := 0) lX6_78 kX6_of (mX6_of (f := 10) hM (by omega) rfl (by assumption)) dX6_worth_38 rfl rfl rfl rfl rfl rfl rfl rfl ?_
      refine f1_S (u' := 0) lX6_74 kX6_has (mX6_has) dX6_worth_41 rfl rfl rfl rfl rfl rfl ?_
      refine g_if_eq (tgt := 51) dX6_worth_44 (by decide) (fun c44 => ?_) (fun c44 => ?_)
      · have q := xb_0.mp c44
        refine g_iconst (v := 2) dX6_worth_51 (by decide) ?_
        refine g_iadd dX6_worth_52 ?_
        refine g_ireturn dX6_worth_53 rfl rfl (by decide) ?_
        refine ⟨?_, rfl⟩
        unfold s_worth
        first | (rw [if_pos (by omega)]) | (rw [if_neg (by omega), if_pos (by omega)]) | (rw [if_neg (by omega), if_neg (by omega)])
        simp only [q, if_true, if_false]
        decide
      · have q := Decidable.not_not.mp ((not_congr xb_0).mp c44)
        refine g_iconst (v := 0) dX6_worth_47 (by decide) ?_
        refine g_goto (tgt := 52) dX6_worth_48 (by decide) ?_
        refine g_iadd dX6_worth_52 ?_
        refine g_ireturn dX6_worth_53 rfl rfl (by decide) ?_
        refine ⟨?_, rfl⟩
        unfold s_worth
        first | (rw [if_pos (by omega)]) | (rw [if_neg (by omega), if_pos (by omega)]) | (rw [if_neg (by omega), if_neg (by omega)])
        simp only [q, if_true, if_false]
        decide
  · rw [show (3 : Int32) = iI 3 by decide, iI_le (by omega) (by omega) (by omega) (by omega)] at c12
    refine g_iconst (v := 2) dX6_worth_15 (by decide) ?_
    refine g_goto (tgt := 29) dX6_worth_16 (by decide) ?_
    refine g_aload_n dX6_worth_29 rfl ?_
    refine g_iload_n dX6_worth_30 rfl ?_
    refine g_iconst (v := 0) dX6_worth_31 (by decide) ?_
    refine f1_V (u' := 0) lX6_70 kX6_by (mX6_by (f := 1) hM (by omega) rfl (by assumption)) dX6_worth_32 rfl rfl rfl rfl rfl rfl rfl rfl ?_
    refine g_aload_n dX6_worth_35 rfl ?_
    refine g_iload_n dX6_worth_36 rfl ?_
    refine g_iconst (v := 2) dX6_worth_37 (by decide) ?_
    refine f1_V (u' := 0) lX6_78 kX6_of (mX6_of (f := 10) hM (by omega) rfl (by assumption)) dX6_worth_38 rfl rfl rfl rfl rfl rfl rfl rfl ?_
    refine f1_S (u' := 0) lX6_74 kX6_has (mX6_has) dX6_worth_41 rfl rfl rfl rfl rfl rfl ?_
    refine g_if_eq (tgt := 51) dX6_worth_44 (by decide) (fun c44 => ?_) (fun c44 => ?_)
    · have q := xb_0.mp c44
      refine g_iconst (v := 2) dX6_worth_51 (by decide) ?_
      refine g_iadd dX6_worth_52 ?_
      refine g_ireturn dX6_worth_53 rfl rfl (by decide) ?_
      refine ⟨?_, rfl⟩
      unfold s_worth
      first | (rw [if_pos (by omega)]) | (rw [if_neg (by omega), if_pos (by omega)]) | (rw [if_neg (by omega), if_neg (by omega)])
      simp only [q, if_true, if_false]
      decide
    · have q := Decidable.not_not.mp ((not_congr xb_0).mp c44)
      refine g_iconst (v := 0) dX6_worth_47 (by decide) ?_
      refine g_goto (tgt := 52) dX6_worth_48 (by decide) ?_
      refine g_iadd dX6_worth_52 ?_
      refine g_ireturn dX6_worth_53 rfl rfl (by decide) ?_
      refine ⟨?_, rfl⟩
      unfold s_worth
      first | (rw [if_pos (by omega)]) | (rw [if_neg (by omega), if_pos (by omega)]) | (rw [if_neg (by omega), if_neg (by omega)])
      simp only [q, if_true, if_false]
      decide
set_option maxRecDepth 100000 in
theorem mX6_share {l : Launch} {G : ux_G} {h : ux_H} {t : Nat} {p : Int} {A : Ab} {P : Nat} (hM : rM 193 0 A h) (hI : Inv P A) (hp : -100000000 ≤ p ∧ p ≤ 100000000) (ht : t < A.1) : ux_F l G yX6_share iX6_share 3 0 [.ref 192, .int (nI t), .int (iI p)] h (some (.int (iI (s_share A t p)))) (h) := by
  unfold ux_F
  refine ux_ent (L' := [some (.ref 192), some (.int (nI t)), some (.int (iI p))]) kX6_share rfl rfl rfl rfl ?_
  obtain ⟨i1, i2, i3, i4, i5, i6⟩ := id hI
  have tl := i4 t ht
  refine g_bipush (v := 12) dX6_share_0 (by decide) ?_
  refine g_iload_n dX6_share_2 rfl ?_
  refine g_imul dX6_share_3 ?_
  refine g_aload_n dX6_share_4 rfl ?_
  refine g_iload_n dX6_share_5 rfl ?_
  refine g_iconst (v := 1) dX6_share_6 (by decide) ?_
  refine f1_V (u' := 0) lX6_70 kX6_by (mX6_by (f := 2) hM (by omega) rfl (by assumption)) dX6_share_7 rfl rfl rfl rfl rfl rfl rfl rfl ?_
  refine g_idiv dX6_share_10 (by rw [xq0 (by omega) (by omega)]; omega) ?_
  refine g_ireturn dX6_share_11 rfl rfl (by decide) ?_
  refine ⟨?_, rfl⟩
  rw [show (12 : Int32) = iI 12 by decide, iI_mul, iI_div (by omega) (by omega) (by omega) (by omega)]; rfl
set_option maxRecDepth 100000 in
theorem wX6_covers {l : Launch} {G : ux_G} {h : ux_H} {t : Nat} {s : Int} {A : Ab} {P : Nat} (hM : rM 193 0 A h) (hI : Inv P A) (ht8 : t < 8) (hs : -1 ≤ s ∧ s ≤ 100) : ∀ (n : Nat) (j : Nat), j ≤ A.2.1 → (∀ i, i < j → (decide (aF A 8 i = s) && decide (aF A 13 i = (t : Int))) = false) → A.2.1 - j < n → ux_W l G iX6_covers (ux_rm 3 0) (ux_Z G 0 (fun vv h' => vv = some (.int (if s_find A 13 s t ≠ -1 then 1 else 0)) ∧ h' = h) (fun _ _ => False)) 2 [some (.ref 192), some (.int (nI t)), some (.int (iI s)), some (.int (nI j))] [] (h) 0 := by
  intro n
  induction n with
  | zero => intro j hj hq hn; exact absurd hn (Nat.not_lt_zero _)
  | succ n ih =>
    intro j hj hq hn
    obtain ⟨i1, i2, i3, i4, i5, i6⟩ := id hI
    refine g_iload_n dX6_covers_2 rfl ?_
    refine g_aload_n dX6_covers_3 rfl ?_
    refine f1_V (u' := 0) lX6_54 kX6_lessons (mX6_lessons hM) dX6_covers_4 rfl rfl rfl rfl rfl rfl rfl rfl ?_
    refine g_icmp_ge (tgt := 38) dX6_covers_7 (by decide) (fun c7 => ?_) (fun c7 => ?_)
    · have e : j = A.2.1 := by have := xlt_i c7 (by omega) (by omega); omega
      subst e
      refine g_iconst (v := 0) dX6_covers_38 (by decide) ?_
      refine g_ireturn dX6_covers_39 rfl rfl (by decide) ?_
      refine ⟨?_, rfl⟩
      have e0 : s_find A 13 s t = -1 := by unfold s_find; rw [s_fst_none hq]; rfl
      rw [e0]; rfl
    · have hlt : j < A.2.1 := xnl_i c7 (by omega) (by omega)
      have il := i6 j hlt
      have hr := s_st_r A j
      refine g_aload_n dX6_covers_10 rfl ?_
      refine g_iload_n dX6_covers_11 rfl ?_
      refine g_iconst (v := 5) dX6_covers_12 (by decide) ?_
      refine f1_V (u' := 0) lX6_78 kX6_of (mX6_of (f := 13) hM (by omega) rfl (by assumption)) dX6_covers_13 rfl rfl rfl rfl rfl rfl rfl rfl ?_
      refine g_iload_n dX6_covers_16 rfl ?_
      refine g_icmp_ne (tgt := 32) dX6_covers_17 (by decide) (fun c17 => ?_) (fun c17 => ?_)
      · rw [xq (by omega) (by omega) (by omega)] at c17
        refine s_inc (v := nI (j + 1)) dX6_covers_32 rfl nI_s rfl rfl rfl ?_
        dsimp only [List.set]
        refine g_goto (tgt := 2) dX6_covers_35 (by decide) ?_
        refine ih (j + 1) (by omega) (fun i hi => ?_) (by omega)
        rcases Nat.lt_or_eq_of_le (Nat.le_of_lt_succ hi) with q | q
        · exact hq i q
        · subst q; simp [c17]
      · rw [xq (by omega) (by omega) (by omega)] at c17
        refine g_aload_n dX6_covers_20 rfl ?_
        refine g_iload_n dX6_covers_21 rfl ?_
        refine g_iconst (v := 0) dX6_covers_22 (by decide) ?_
        refine f1_V (u' := 0) lX6_78 kX6_of (mX6_of (f := 8) hM (by omega) rfl (by assumption)) dX6_covers_23 rfl rfl rfl rfl rfl rfl rfl rfl ?_
        refine g_iload_n dX6_covers_26 rfl ?_
        refine g_icmp_ne (tgt := 32) dX6_covers_27 (by decide) (fun c27 => ?_) (fun c27 => ?_)
        · rw [iI_eq (by omega) (by omega) (by omega) (by omega)] at c27
          refine s_inc (v := nI (j + 1)) dX6_covers_32 rfl nI_s rfl rfl rfl ?_
          dsimp only [List.set]
          refine g_goto (tgt := 2) dX6_covers_35 (by decide) ?_
          refine ih (j + 1) (by omega) (fun i hi => ?_) (by omega)
          rcases Nat.lt_or_eq_of_le (Nat.le_of_lt_succ hi) with q | q
          · exact hq i q
          · subst q; simp [c17, c27]
        · rw [iI_eq (by omega) (by omega) (by omega) (by omega)] at c27
          refine g_iconst (v := 1) dX6_covers_30 (by decide) ?_
          refine g_ireturn dX6_covers_31 rfl rfl (by decide) ?_
          refine ⟨?_, rfl⟩
          have e0 : s_find A 13 s t = (j : Int) := by unfold s_find; rw [s_fst_first hlt (by simp [c17, c27]) hq]; rfl
          rw [e0, if_pos (by omega)]
set_option maxRecDepth 100000 in
theorem mX6_covers {l : Launch} {G : ux_G} {h : ux_H} {t : Nat} {s : Int} {A : Ab} {P : Nat} (hM : rM 193 0 A h) (hI : Inv P A) (ht8 : t < 8) (hs : -1 ≤ s ∧ s ≤ 100) : ux_F l G yX6_covers iX6_covers 3 0 [.ref 192, .int (nI t), .int (iI s)] h (some (.int (if s_find A 13 s t ≠ -1 then 1 else 0))) (h) := by
  unfold ux_F
  refine ux_ent (L' := [some (.ref 192), some (.int (nI t)), some (.int (iI s)), none]) kX6_covers rfl rfl rfl rfl ?_
  obtain ⟨i1, i2, i3, i4, i5, i6⟩ := id hI
  refine g_iconst (v := 0) dX6_covers_0 (by decide) ?_
  refine s_i (i := 3) dX6_covers_1 rfl rfl rfl rfl ?_
  dsimp only [List.set]
  exact wX6_covers (l := l) (G := G) hM hI ht8 hs (A.2.1 + 1) 0 (Nat.zero_le _) (fun i hi => absurd hi (Nat.not_lt_zero _)) (by omega)
/-- the last that has P -/
def s_lst (P : Nat → Bool) : Nat → Int
  | 0 => -1
  | n + 1 => if P n then n else s_lst P n
theorem s_lst_un {P : Nat → Bool} : ∀ n, (∀ i j, i < n → j < n → P i = true → P j = true → i = j) → s_lst P n = s_oi (s_fst P n) := by
  intro n
  induction n with
  | zero => intro _; rfl
  | succ n ih =>
    intro hu
    unfold s_lst
    by_cases q : P n = true
    · rw [if_pos q, s_fst_first (l := n) (by omega) q (fun i hi => by
        cases e : P i with
        | false => rfl
        | true => have := hu i n (by omega) (by omega) e q; omega)]
      rfl
    · rw [if_neg q, ih (fun i j hi hj => hu i j (by omega) (by omega))]
      have q : P n = false := by simpa using q
      rcases s_fst_spec (P := P) (n := n) with ⟨e, h1⟩ | ⟨l, e, h1, h2⟩
      · rw [e, s_fst_none (fun i hi => by
          rcases Nat.lt_or_eq_of_le (Nat.le_of_lt_succ hi) with y | y
          · exact h1 i y
          · rw [y]; exact q)]
      · rw [e, s_fst_first (l := l) (by omega) h2 (fun i hi => by
          cases e2 : P i with
          | false => rfl
          | true => have := hu i l (by omega) (by omega) e2 h2; omega)]
theorem s_lst_s {P : Nat → Bool} {n : Nat} : s_lst P (n + 1) = if P n = true then (n : Int) else s_lst P n := rfl
theorem find_un {A : Ab} (hJ : InvF A) {f : Nat} (hf : f = 9 ∨ f = 11 ∨ f = 12) (s v : Int) : ∀ i j, i < A.2.1 → j < A.2.1 → aF A 8 i = s → aF A 8 j = s → aF A f i = v → aF A f j = v → i = j := by
  intro i j hi hj a b c d
  rcases Nat.decEq i j with q | q
  · have := hJ.1 i j hi hj q (by omega)
    rcases hf with e | e | e <;> subst e <;> omega
  · exact q
theorem find_un13 {A : Ab} (hJ : InvF A) (s : Int) (t : Nat) : ∀ i j, i < A.2.1 → j < A.2.1 → aF A 8 i = s → aF A 8 j = s → aF A 13 i = t → aF A 13 j = t → i = j := by
  intro i j hi hj a b c d
  rcases Nat.decEq i j with q | q
  · have := (hJ.2.1 i hi (by omega)).2.2.2.2.2 j hj (fun y => q y.symm) (by omega)
    omega
  · exact q
set_option maxRecDepth 100000 in
theorem wX6_find {l : Launch} {G : ux_G} {h : ux_H} {f : Nat} {s v : Int} {A : Ab} {P : Nat} (hM : rM 193 0 A h) (hI : Inv P A) (hf : (Nat.ble 8 f && Nat.ble f 15) = true) (hs : -1 ≤ s ∧ s ≤ 100) (hv : -1 ≤ v ∧ v ≤ 100) (hx : ∀ i, i < A.2.1 → -1 ≤ aF A f i ∧ aF A f i ≤ 100) : ∀ (n : Nat) (j : Nat), j ≤ A.2.1 → A.2.1 - j < n → ux_W l G iX6_find (ux_rm 3 0) (ux_Z G 0 (fun vv h' => vv = some (.int (iI (s_lst (fun i => decide (aF A 8 i = s) && decide (aF A f i = v)) A.2.1))) ∧ h' = h) (fun _ _ => False)) 6 [some (.ref 192), some (.int (iI s)), some (.int (nI (f - 8))), some (.int (iI v)), some (.int (iI (s_lst (fun i => decide (aF A 8 i = s) && decide (aF A f i = v)) j))), some (.int (nI j))] [] (h) 0 := by
  intro n
  induction n with
  | zero => intro j hj hn; exact absurd hn (Nat.not_lt_zero _)
  | succ n ih =>
    intro j hj hn
    obtain ⟨i1, i2, i3, i4, i5, i6⟩ := id hI
    refine g_iload dX6_find_6 rfl ?_
    refine g_aload_n dX6_find_8 rfl ?_
    refine f1_V (u' := 0) lX6_54 kX6_lessons (mX6_lessons hM) dX6_find_9 rfl rfl rfl rfl rfl rfl rfl rfl ?_
    refine g_icmp_ge (tgt := 47) dX6_find_12 (by decide) (fun c12 => ?_) (fun c12 => ?_)
    · have e : j = A.2.1 := by have := xlt_i c12 (by omega) (by omega); omega
      subst e
      refine g_iload dX6_find_47 rfl ?_
      refine g_ireturn dX6_find_49 rfl rfl (by decide) ?_
      exact ⟨rfl, rfl⟩
    · have hlt : j < A.2.1 := xnl_i c12 (by omega) (by omega)
      have il := i6 j hlt
      have hr := s_st_r A j
      have xl := hx j hlt
      refine g_aload_n dX6_find_15 rfl ?_
      refine g_iload dX6_find_16 rfl ?_
      refine g_iconst (v := 0) dX6_find_18 (by decide) ?_
      refine f1_V (u' := 0) lX6_78 kX6_of (mX6_of (f := 8) hM (by omega) rfl (by assumption)) dX6_find_19 rfl rfl rfl rfl rfl rfl rfl rfl ?_
      refine g_iload_n dX6_find_22 rfl ?_
      refine g_icmp_ne (tgt := 41) dX6_find_23 (by decide) (fun c23 => ?_) (fun c23 => ?_)
      · rw [iI_eq (by omega) (by omega) (by omega) (by omega)] at c23
        refine s_inc (v := nI (j + 1)) dX6_find_41 rfl nI_s rfl rfl rfl ?_
        dsimp only [List.set]
        refine g_goto (tgt := 6) dX6_find_44 (by decide) ?_
        have e0 := s_lst_s (P := fun i => decide (aF A 8 i = s) && decide (aF A f i = v)) (n := j)
        rw [if_neg (by simp [c23])] at e0
        have ih9 := ih (j + 1) (by omega) (by omega)
        rw [e0] at ih9
        skip
        exact ih9
      · rw [iI_eq (by omega) (by omega) (by omega) (by omega)] at c23
        refine g_aload_n dX6_find_26 rfl ?_
        refine g_iload dX6_find_27 rfl ?_
        refine g_iload_n dX6_find_29 rfl ?_
        refine f1_V (u' := 0) lX6_78 kX6_of (mX6_of (f := f) hM (by omega) hf (by assumption)) dX6_find_30 rfl rfl rfl rfl rfl rfl rfl rfl ?_
        refine g_iload_n dX6_find_33 rfl ?_
        refine g_icmp_ne (tgt := 41) dX6_find_34 (by decide) (fun c34 => ?_) (fun c34 => ?_)
        · rw [iI_eq (by omega) (by omega) (by omega) (by omega)] at c34
          refine s_inc (v := nI (j + 1)) dX6_find_41 rfl nI_s rfl rfl rfl ?_
          dsimp only [List.set]
          refine g_goto (tgt := 6) dX6_find_44 (by decide) ?_
          have e0 := s_lst_s (P := fun i => decide (aF A 8 i = s) && decide (aF A f i = v)) (n := j)
          rw [if_neg (by simp [c23, c34])] at e0
          have ih9 := ih (j + 1) (by omega) (by omega)
          rw [e0] at ih9
          skip
          exact ih9
        · rw [iI_eq (by omega) (by omega) (by omega) (by omega)] at c34
          refine g_iload dX6_find_37 rfl ?_
          refine s_iw dX6_find_39 rfl rfl rfl ?_
          dsimp only [List.set]
          refine s_inc (v := nI (j + 1)) dX6_find_41 rfl nI_s rfl rfl rfl ?_
          dsimp only [List.set]
          refine g_goto (tgt := 6) dX6_find_44 (by decide) ?_
          have e0 := s_lst_s (P := fun i => decide (aF A 8 i = s) && decide (aF A f i = v)) (n := j)
          rw [if_pos (by simp [c23, c34])] at e0
          have ih9 := ih (j + 1) (by omega) (by omega)
          rw [e0] at ih9
          rw [iI_n] at ih9
          exact ih9
set_option maxRecDepth 100000 in
theorem mX6_find {l : Launch} {G : ux_G} {h : ux_H} {f : Nat} {s v : Int} {A : Ab} {P : Nat} (hM : rM 193 0 A h) (hI : Inv P A) (hf : (Nat.ble 8 f && Nat.ble f 15) = true) (hs : -1 ≤ s ∧ s ≤ 100) (hv : -1 ≤ v ∧ v ≤ 100) (hx : ∀ i, i < A.2.1 → -1 ≤ aF A f i ∧ aF A f i ≤ 100) (hu : ∀ i j, i < A.2.1 → j < A.2.1 → aF A 8 i = s → aF A 8 j = s → aF A f i = v → aF A f j = v → i = j) : ux_F l G yX6_find iX6_find 3 0 [.ref 192, .int (iI s), .int (nI (f - 8)), .int (iI v)] h (some (.int (iI (s_find A f s v)))) (h) := by
  unfold ux_F
  refine ux_ent (L' := [some (.ref 192), some (.int (iI s)), some (.int (nI (f - 8))), some (.int (iI v)), none, none]) kX6_find rfl rfl rfl rfl ?_
  obtain ⟨i1, i2, i3, i4, i5, i6⟩ := id hI
  refine g_iconst (v := (-1)) dX6_find_0 (by decide) ?_
  refine s_iw dX6_find_1 rfl rfl rfl ?_
  dsimp only [List.set]
  refine g_iconst (v := 0) dX6_find_3 (by decide) ?_
  refine s_iw dX6_find_4 rfl rfl rfl ?_
  dsimp only [List.set]
  have w9 := wX6_find (l := l) (G := G) hM hI hf hs hv hx (A.2.1 + 1) 0 (Nat.zero_le _) (by omega)
  have e9 : s_lst (fun i => decide (aF A 8 i = s) && decide (aF A f i = v)) A.2.1 = s_find A f s v := s_lst_un _ (fun i j hi hj a b => by simp only [Bool.and_eq_true, decide_eq_true_eq] at a b; exact hu i j hi hj a.1 b.1 a.2 b.2)
  rw [e9] at w9
  exact w9
set_option maxRecDepth 100000 in
theorem wX6_coversOn {l : Launch} {G : ux_G} {h : ux_H} {t : Nat} {d : Int} {A : Ab} {P : Nat} (hM : rM 193 0 A h) (hI : Inv P A) (ht8 : t < 8) (hd : 0 ≤ d ∧ d < 100) : ∀ (n : Nat) (j : Nat), j ≤ A.2.1 → A.2.1 - j < n → ux_W l G iX6_coversOn (ux_rm 3 0) (ux_Z G 0 (fun vv h' => vv = some (.int (nI (s_cnt (fun j => decide (aF A 13 j = (t : Int)) && decide (aF A 8 j / 6 = d)) A.2.1))) ∧ h' = h) (fun _ _ => False)) 5 [some (.ref 192), some (.int (nI t)), some (.int (iI d)), some (.int (nI (s_cnt (fun j => decide (aF A 13 j = (t : Int)) && decide (aF A 8 j / 6 = d)) j))), some (.int (nI j))] [] (h) 0 := by
  intro n
  induction n with
  | zero => intro j hj hn; exact absurd hn (Nat.not_lt_zero _)
  | succ n ih =>
    intro j hj hn
    obtain ⟨i1, i2, i3, i4, i5, i6⟩ := id hI
    refine g_iload dX6_coversOn_5 rfl ?_
    refine g_aload_n dX6_coversOn_7 rfl ?_
    refine f1_V (u' := 0) lX6_54 kX6_lessons (mX6_lessons hM) dX6_coversOn_8 rfl rfl rfl rfl rfl rfl rfl rfl ?_
    refine g_icmp_ge (tgt := 48) dX6_coversOn_11 (by decide) (fun c11 => ?_) (fun c11 => ?_)
    · have e : j = A.2.1 := by have := xlt_i c11 (by omega) (by omega); omega
      subst e
      refine g_iload_n dX6_coversOn_48 rfl ?_
      refine g_ireturn dX6_coversOn_49 rfl rfl (by decide) ?_
      exact ⟨rfl, rfl⟩
    · have hlt : j < A.2.1 := xnl_i c11 (by omega) (by omega)
      have il := i6 j hlt
      have hr := s_st_r A j
      refine g_aload_n dX6_coversOn_14 rfl ?_
      refine g_iload dX6_coversOn_15 rfl ?_
      refine g_iconst (v := 5) dX6_coversOn_17 (by decide) ?_
      refine f1_V (u' := 0) lX6_78 kX6_of (mX6_of (f := 13) hM (by omega) rfl (by assumption)) dX6_coversOn_18 rfl rfl rfl rfl rfl rfl rfl rfl ?_
      refine g_iload_n dX6_coversOn_21 rfl ?_
      refine g_icmp_ne (tgt := 42) dX6_coversOn_22 (by decide) (fun c22 => ?_) (fun c22 => ?_)
      · rw [xq (by omega) (by omega) (by omega)] at c22
        refine s_inc (v := nI (j + 1)) dX6_coversOn_42 rfl nI_s rfl rfl rfl ?_
        dsimp only [List.set]
        refine g_goto (tgt := 5) dX6_coversOn_45 (by decide) ?_
        rw [s_cnt_f (P := fun j => decide (aF A 13 j = (t : Int)) && decide (aF A 8 j / 6 = d)) (n := j) (by simp [c22])]
        exact ih (j + 1) (by omega) (by omega)
      · rw [xq (by omega) (by omega) (by omega)] at c22
        refine g_aload_n dX6_coversOn_25 rfl ?_
        refine g_iload dX6_coversOn_26 rfl ?_
        refine g_iconst (v := 0) dX6_coversOn_28 (by decide) ?_
        refine f1_V (u' := 0) lX6_78 kX6_of (mX6_of (f := 8) hM (by omega) rfl (by assumption)) dX6_coversOn_29 rfl rfl rfl rfl rfl rfl rfl rfl ?_
        refine g_bipush (v := 6) dX6_coversOn_32 (by decide) ?_
        refine g_idiv dX6_coversOn_34 (by decide) ?_
        refine g_top (m_6 (by omega) (by omega)) ?_
        refine g_iload_n dX6_coversOn_35 rfl ?_
        refine g_icmp_ne (tgt := 42) dX6_coversOn_36 (by decide) (fun c36 => ?_) (fun c36 => ?_)
        · rw [iI_eq (by omega) (by omega) (by omega) (by omega)] at c36
          refine s_inc (v := nI (j + 1)) dX6_coversOn_42 rfl nI_s rfl rfl rfl ?_
          dsimp only [List.set]
          refine g_goto (tgt := 5) dX6_coversOn_45 (by decide) ?_
          rw [s_cnt_f (P := fun j => decide (aF A 13 j = (t : Int)) && decide (aF A 8 j / 6 = d)) (n := j) (by simp [c22, c36])]
          exact ih (j + 1) (by omega) (by omega)
        · rw [iI_eq (by omega) (by omega) (by omega) (by omega)] at c36
          refine s_inc (v := nI (s_cnt (fun j => decide (aF A 13 j = (t : Int)) && decide (aF A 8 j / 6 = d)) j + 1)) dX6_coversOn_39 rfl nI_s rfl rfl rfl ?_
          dsimp only [List.set]
          refine s_inc (v := nI (j + 1)) dX6_coversOn_42 rfl nI_s rfl rfl rfl ?_
          dsimp only [List.set]
          refine g_goto (tgt := 5) dX6_coversOn_45 (by decide) ?_
          rw [s_cnt_t (P := fun j => decide (aF A 13 j = (t : Int)) && decide (aF A 8 j / 6 = d)) (n := j) (by simp [c22, c36])]
          exact ih (j + 1) (by omega) (by omega)
set_option maxRecDepth 100000 in
theorem mX6_coversOn {l : Launch} {G : ux_G} {h : ux_H} {t : Nat} {d : Int} {A : Ab} {P : Nat} (hM : rM 193 0 A h) (hI : Inv P A) (ht8 : t < 8) (hd : 0 ≤ d ∧ d < 100) : ux_F l G yX6_coversOn iX6_coversOn 3 0 [.ref 192, .int (nI t), .int (iI d)] h (some (.int (nI (s_con A t d)))) (h) := by
  unfold ux_F
  refine ux_ent (L' := [some (.ref 192), some (.int (nI t)), some (.int (iI d)), none, none]) kX6_coversOn rfl rfl rfl rfl ?_
  obtain ⟨i1, i2, i3, i4, i5, i6⟩ := id hI
  refine g_iconst (v := 0) dX6_coversOn_0 (by decide) ?_
  refine s_i (i := 3) dX6_coversOn_1 rfl rfl rfl rfl ?_
  dsimp only [List.set]
  refine g_iconst (v := 0) dX6_coversOn_2 (by decide) ?_
  refine s_iw dX6_coversOn_3 rfl rfl rfl ?_
  dsimp only [List.set]
  exact wX6_coversOn (l := l) (G := G) hM hI ht8 hd (A.2.1 + 1) 0 (Nat.zero_le _) (by omega)
set_option maxRecDepth 100000 in
theorem mX6_bar {l : Launch} {G : ux_G} {h : ux_H} {i t : Nat} {A : Ab} {P : Nat} (hM : rM 193 0 A h) (hI : Inv P A) (hJ : InvF A) (hi : i < A.2.1) (ht : t < A.1) : ux_F l G yX6_bar iX6_bar 4 0 [.ref 192, .int (nI i), .int (nI t)] h (some (.int (iI (s_bar A i t)))) (h) := by
  unfold ux_F
  refine ux_ent (L' := [some (.ref 192), some (.int (nI i)), some (.int (nI t)), none]) kX6_bar rfl rfl rfl rfl ?_
  obtain ⟨i1, i2, i3, i4, i5, i6⟩ := id hI
  have il := i6 i hi
  have tl := i4 t ht
  have fr := s_find_r hI 11 (aF A 8 i) t
  have fr2 := s_find_r hI 13 (aF A 8 i) t
  have cr : s_con A t (aF A 8 i / 6) ≤ 40 := Nat.le_trans (s_cnt_le _ _) i2
  refine g_aload_n dX6_bar_0 rfl ?_
  refine g_iload_n dX6_bar_1 rfl ?_
  refine g_iconst (v := 0) dX6_bar_2 (by decide) ?_
  refine f1_V (u' := 0) lX6_78 kX6_of (mX6_of (f := 8) hM (by omega) rfl (by assumption)) dX6_bar_3 rfl rfl rfl rfl rfl rfl rfl rfl ?_
  refine s_i (i := 3) dX6_bar_6 rfl rfl rfl rfl ?_
  dsimp only [List.set]
  refine g_aload_n dX6_bar_7 rfl ?_
  refine g_iload_n dX6_bar_8 rfl ?_
  refine g_iconst (v := 3) dX6_bar_9 (by decide) ?_
  refine f1_V (u' := 0) lX6_78 kX6_of (mX6_of (f := 11) hM (by omega) rfl (by assumption)) dX6_bar_10 rfl rfl rfl rfl rfl rfl rfl rfl ?_
  refine g_iload_n dX6_bar_13 rfl ?_
  refine g_icmp_ne (tgt := 19) dX6_bar_14 (by decide) (fun c14 => ?_) (fun c14 => ?_)
  · rw [xq (by omega) (by omega) (by omega)] at c14
    refine g_aload_n dX6_bar_19 rfl ?_
    refine g_iload_n dX6_bar_20 rfl ?_
    refine g_iload_n dX6_bar_21 rfl ?_
    refine f1_V (u' := 0) lX6_81 kX6_isAway (mX6_isAway hM hI (by assumption)) dX6_bar_22 rfl rfl rfl rfl rfl rfl rfl rfl ?_
    refine g_if_eq (tgt := 30) dX6_bar_25 (by decide) (fun c25 => ?_) (fun c25 => ?_)
    · have q25 := xb_0.mp c25
      refine g_aload_n dX6_bar_30 rfl ?_
      refine g_iload_n dX6_bar_31 rfl ?_
      refine g_iconst (v := 3) dX6_bar_32 (by decide) ?_
      refine g_iload_n dX6_bar_33 rfl ?_
      refine g_top (nI_iI t) ?_
      refine f1_V (u' := 0) lX6_165 kX6_find (mX6_find (f := 11) hM hI rfl (by omega) (by omega) (fun i hi => by have := i6 i hi; omega) (find_un hJ (by decide) _ _)) dX6_bar_34 rfl rfl rfl rfl rfl rfl rfl rfl ?_
      refine g_iconst (v := (-1)) dX6_bar_37 (by decide) ?_
      refine g_icmp_eq (tgt := 43) dX6_bar_38 (by decide) (fun c38 => ?_) (fun c38 => ?_)
      · rw [xqm (by omega) (by omega)] at c38
        refine g_aload_n dX6_bar_43 rfl ?_
        refine g_iload_n dX6_bar_44 rfl ?_
        refine g_iload_n dX6_bar_45 rfl ?_
        refine f1_V (u' := 0) lX6_139 kX6_covers (mX6_covers hM hI (by omega) (by omega)) dX6_bar_46 rfl rfl rfl rfl rfl rfl rfl rfl ?_
        refine g_if_eq (tgt := 54) dX6_bar_49 (by decide) (fun c49 => ?_) (fun c49 => ?_)
        · have q49 := Decidable.not_not.mp (xb_0.mp c49)
          refine g_aload_n dX6_bar_54 rfl ?_
          refine g_iload_n dX6_bar_55 rfl ?_
          refine g_iload_n dX6_bar_56 rfl ?_
          refine g_bipush (v := 6) dX6_bar_57 (by decide) ?_
          refine g_idiv dX6_bar_59 (by decide) ?_
          refine g_top (m_6 (by omega) (by omega)) ?_
          refine f1_V (u' := 0) lX6_179 kX6_coversOn (mX6_coversOn hM hI (by omega) (by omega)) dX6_bar_60 rfl rfl rfl rfl rfl rfl rfl rfl ?_
          refine g_aload_n dX6_bar_63 rfl ?_
          refine g_iload_n dX6_bar_64 rfl ?_
          refine g_iconst (v := 2) dX6_bar_65 (by decide) ?_
          refine f1_V (u' := 0) lX6_70 kX6_by (mX6_by (f := 3) hM (by omega) rfl (by assumption)) dX6_bar_66 rfl rfl rfl rfl rfl rfl rfl rfl ?_
          refine g_icmp_lt (tgt := 76) dX6_bar_69 (by decide) (fun c69 => ?_) (fun c69 => ?_)
          · rw [nI_iI, iI_lt (by omega) (by omega) (by omega) (by omega)] at c69
            refine g_iconst (v := 0) dX6_bar_76 (by decide) ?_
            refine g_ireturn dX6_bar_77 rfl rfl (by decide) ?_
            refine ⟨?_, rfl⟩
            unfold s_bar
            simp only [c14, q25, c38, q49, if_true, if_false, ne_eq, not_true_eq_false, not_false_eq_true, Bool.false_eq_true]
            first | rfl | (rw [if_pos (by omega)]; rfl) | (rw [if_neg (by omega)]; rfl)
          · rw [nI_iI, iI_lt (by omega) (by omega) (by omega) (by omega)] at c69
            refine g_iconst (v := 5) dX6_bar_72 (by decide) ?_
            refine g_goto (tgt := 77) dX6_bar_73 (by decide) ?_
            refine g_ireturn dX6_bar_77 rfl rfl (by decide) ?_
            refine ⟨?_, rfl⟩
            unfold s_bar
            simp only [c14, q25, c38, q49, if_true, if_false, ne_eq, not_true_eq_false, not_false_eq_true, Bool.false_eq_true]
            first | rfl | (rw [if_pos (by omega)]; rfl) | (rw [if_neg (by omega)]; rfl)
        · have q49 := xb_n0 c49
          refine g_iconst (v := 4) dX6_bar_52 (by decide) ?_
          refine g_ireturn dX6_bar_53 rfl rfl (by decide) ?_
          refine ⟨?_, rfl⟩
          unfold s_bar
          simp only [c14, q25, c38, q49, if_true, if_false, ne_eq, not_true_eq_false, not_false_eq_true, Bool.false_eq_true]
          first | rfl | (rw [if_pos (by omega)]; rfl) | (rw [if_neg (by omega)]; rfl)
      · rw [xqm (by omega) (by omega)] at c38
        refine g_iconst (v := 3) dX6_bar_41 (by decide) ?_
        refine g_ireturn dX6_bar_42 rfl rfl (by decide) ?_
        refine ⟨?_, rfl⟩
        unfold s_bar
        simp only [c14, q25, c38, if_true, if_false, ne_eq, not_true_eq_false, not_false_eq_true, Bool.false_eq_true]
        first | rfl | (rw [if_pos (by omega)]; rfl) | (rw [if_neg (by omega)]; rfl)
    · have q25 := xb_n0 c25
      refine g_iconst (v := 2) dX6_bar_28 (by decide) ?_
      refine g_ireturn dX6_bar_29 rfl rfl (by decide) ?_
      refine ⟨?_, rfl⟩
      unfold s_bar
      simp only [c14, q25, if_true, if_false, ne_eq, not_true_eq_false, not_false_eq_true, Bool.false_eq_true]
      first | rfl | (rw [if_pos (by omega)]; rfl) | (rw [if_neg (by omega)]; rfl)
  · rw [xq (by omega) (by omega) (by omega)] at c14
    refine g_iconst (v := 1) dX6_bar_17 (by decide) ?_
    refine g_ireturn dX6_bar_18 rfl rfl (by decide) ?_
    refine ⟨?_, rfl⟩
    unfold s_bar
    simp only [c14, if_true, if_false, ne_eq, not_true_eq_false, not_false_eq_true, Bool.false_eq_true]
    first | rfl | (rw [if_pos (by omega)]; rfl) | (rw [if_neg (by omega)]; rfl)
set_option maxRecDepth 100000 in
theorem mX6_knows {l : Launch} {G : ux_G} {h : ux_H} {t i : Nat} {A : Ab} {P : Nat} (hM : rM 193 0 A h) (hI : Inv P A) (ht : t < A.1) (hi : i < A.2.1) : ux_F l G yX6_knows iX6_knows 3 0 [.ref 192, .int (nI t), .int (nI i)] h (some (.int (if s_has A t i then 1 else 0))) (h) := by
  unfold ux_F
  refine ux_ent (L' := [some (.ref 192), some (.int (nI t)), some (.int (nI i))]) kX6_knows rfl rfl rfl rfl ?_
  obtain ⟨i1, i2, i3, i4, i5, i6⟩ := id hI
  refine g_aload_n dX6_knows_0 rfl ?_
  refine g_iload_n dX6_knows_1 rfl ?_
  refine g_iconst (v := 0) dX6_knows_2 (by decide) ?_
  refine f1_V (u' := 0) lX6_70 kX6_by (mX6_by (f := 1) hM (by omega) rfl (by assumption)) dX6_knows_3 rfl rfl rfl rfl rfl rfl rfl rfl ?_
  refine g_aload_n dX6_knows_6 rfl ?_
  refine g_iload_n dX6_knows_7 rfl ?_
  refine g_iconst (v := 2) dX6_knows_8 (by decide) ?_
  refine f1_V (u' := 0) lX6_78 kX6_of (mX6_of (f := 10) hM (by omega) rfl (by assumption)) dX6_knows_9 rfl rfl rfl rfl rfl rfl rfl rfl ?_
  refine f1_S (u' := 0) lX6_74 kX6_has (mX6_has) dX6_knows_12 rfl rfl rfl rfl rfl rfl ?_
  refine g_ireturn dX6_knows_15 rfl nb (by decide) ?_
  exact ⟨rfl, rfl⟩
