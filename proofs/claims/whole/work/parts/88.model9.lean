/-! THE REFERENCE: limits, sizes, capacities, rooms, ends: walks. -/
set_option maxRecDepth 100000 in
theorem mX6_setLimit {l : Launch} {G : ux_G} {h : ux_H} {a b : Int} {Hs : List Ab} {A : Ab} {P : Nat} (hM : rM 193 0 A h) (hK : rK Hs h) (hI : Inv P A) (hJ : InvF A) (ra : -2147483648 ≤ a ∧ a ≤ 2147483647) (rb : -2147483648 ≤ b ∧ b ≤ 2147483647) : ux_M l G yX6_setLimit iX6_setLimit 6 0 [.ref 192, .int (iI a), .int (iI b)] h (Q6 (k_setLimit A a b) (iI (aF A 3 a.toNat)) A (aU A 3 a.toNat b) Hs h) (fun _ _ => False) := by
  refine ux_ent (L' := [some (.ref 192), some (.int (iI a)), some (.int (iI b))]) kX6_setLimit rfl rfl rfl rfl ?_
  obtain ⟨i1, i2, i3, i4, i5, i6⟩ := id hI
  refine g_aload_n dX6_setLimit_0 rfl ?_
  refine g_iconst (v := 0) dX6_setLimit_1 (by decide) ?_
  refine g_puti pX6_44 dX6_setLimit_2 rfl rfl ?_
  have hM0 := rM_0t (j := 0) (x := 0) (Or.inl rfl) hM
  have hK0 := rK_0t (j := 0) (x := 0) (by decide) hK
  have hF0 := x_fN_0 h 0
  refine g_aload_n dX6_setLimit_5 rfl ?_
  refine g_iload_n dX6_setLimit_6 rfl ?_
  refine f1_V (u' := 0) lX6_119 kX6_isTeacher (mX6_isTeacher hM0 (by omega) (by omega)) dX6_setLimit_7 rfl rfl rfl rfl rfl rfl rfl rfl ?_
  refine g_if_ne (tgt := 19) dX6_setLimit_10 (by decide) (fun c10 => ?_) (fun c10 => ?_)
  · have q10 := xb_n0 c10
    refine g_iload_n dX6_setLimit_19 rfl ?_
    refine g_iconst (v := 0) dX6_setLimit_20 (by decide) ?_
    refine g_iconst (v := 3) dX6_setLimit_21 (by decide) ?_
    refine f1_S (u' := 0) lX6_58 kX6_in (mX6_in) dX6_setLimit_22 rfl rfl rfl rfl rfl rfl ?_
    refine g_if_eq (tgt := 42) dX6_setLimit_25 (by decide) (fun c25 => ?_) (fun c25 => ?_)
    · have q25 := (not_congr (x_rg (a := b) (lo := 0) (hi := 3) (by decide) (by decide) rb (by decide) (by decide))).mp (xb_0.mp c25)
      refine g_aload_n dX6_setLimit_42 rfl ?_
      refine g_iconst (v := 2) dX6_setLimit_43 (by decide) ?_
      refine f1_V (u' := 0) lX6_107 kX6_raises (mX6_raises) dX6_setLimit_44 rfl rfl rfl rfl rfl rfl rfl rfl ?_
      refine g_ireturn dX6_setLimit_47 rfl rfl (by decide) ?_
      first | exact q6_ok (by unfold k_setLimit; (repeat' split) <;> first | rfl | omega | contradiction) hM1 hK1 hF1 | exact q6_no (c := 1) (by unfold k_setLimit; (repeat' split) <;> first | rfl | omega | contradiction) (by decide) hM0 hK0 hF0 | exact q6_no (c := 2) (by unfold k_setLimit; (repeat' split) <;> first | rfl | omega | contradiction) (by decide) hM0 hK0 hF0
    · have q25 := (x_rg (a := b) (lo := 0) (hi := 3) (by decide) (by decide) rb (by decide) (by decide)).mp (xb_n0 c25)
      refine g_aload_n dX6_setLimit_28 rfl ?_
      refine g_iload_n dX6_setLimit_29 rfl ?_
      refine g_top (y := nI a.toNat) (iI_get (by omega) (by omega)) ?_
      refine f1_S (u' := 0) lX6_51 kX6_teacherAt (mX6_teacherAt) dX6_setLimit_30 rfl rfl rfl rfl rfl rfl ?_
      refine g_iconst (v := 2) dX6_setLimit_33 (by decide) ?_
      refine g_iadd dX6_setLimit_34 ?_
      refine g_top (y := nI (m_at 3 a.toNat)) (by rw [show (2 : Int32) = nI 2 by decide, nI_add]; congr 1; show 16 + 5 * a.toNat + 2 = 18 + 5 * a.toNat; omega) ?_
      refine g_iload_n dX6_setLimit_35 rfl ?_
      refine q_V (u' := 0) lX6_123 kX6_sets (mX6_sets (f := 3) (j := a.toNat) (v := b) hM0 i1 i2 hK0 (in_t rfl (by omega))) dX6_setLimit_36 rfl rfl rfl rfl rfl rfl rfl rfl (fun v h36 hq => ?_) (fun _ _ q => q.elim)
      obtain ⟨rfl, hM1, hK1, hF1⟩ := hq
      dsimp only [Option.toList, List.cons_append, List.nil_append]
      refine g_goto (tgt := 47) dX6_setLimit_39 (by decide) ?_
      refine g_ireturn dX6_setLimit_47 rfl rfl (by decide) ?_
      first | exact q6_ok (by unfold k_setLimit; (repeat' split) <;> first | rfl | omega | contradiction) hM1 hK1 hF1 | exact q6_no (c := 1) (by unfold k_setLimit; (repeat' split) <;> first | rfl | omega | contradiction) (by decide) hM0 hK0 hF0 | exact q6_no (c := 2) (by unfold k_setLimit; (repeat' split) <;> first | rfl | omega | contradiction) (by decide) hM0 hK0 hF0
  · have q10 := xb_0.mp c10
    refine g_aload_n dX6_setLimit_13 rfl ?_
    refine g_iconst (v := 1) dX6_setLimit_14 (by decide) ?_
    refine f1_V (u' := 0) lX6_107 kX6_raises (mX6_raises) dX6_setLimit_15 rfl rfl rfl rfl rfl rfl rfl rfl ?_
    refine g_ireturn dX6_setLimit_18 rfl rfl (by decide) ?_
    first | exact q6_ok (by unfold k_setLimit; (repeat' split) <;> first | rfl | omega | contradiction) hM1 hK1 hF1 | exact q6_no (c := 1) (by unfold k_setLimit; (repeat' split) <;> first | rfl | omega | contradiction) (by decide) hM0 hK0 hF0 | exact q6_no (c := 2) (by unfold k_setLimit; (repeat' split) <;> first | rfl | omega | contradiction) (by decide) hM0 hK0 hF0
set_option maxRecDepth 100000 in
theorem mX6_setSize {l : Launch} {G : ux_G} {h : ux_H} {a b : Int} {Hs : List Ab} {A : Ab} {P : Nat} (hM : rM 193 0 A h) (hK : rK Hs h) (hI : Inv P A) (hJ : InvF A) (ra : -2147483648 ≤ a ∧ a ≤ 2147483647) (rb : -2147483648 ≤ b ∧ b ≤ 2147483647) : ux_M l G yX6_setSize iX6_setSize 8 0 [.ref 192, .int (iI a), .int (iI b)] h (Q6 (k_setSize A a b) (iI (aF A 6 a.toNat)) A (aU A 6 a.toNat b) Hs h) (fun _ _ => False) := by
  refine ux_ent (L' := [some (.ref 192), some (.int (iI a)), some (.int (iI b)), none, none]) kX6_setSize rfl rfl rfl rfl ?_
  obtain ⟨i1, i2, i3, i4, i5, i6⟩ := id hI
  refine g_aload_n dX6_setSize_0 rfl ?_
  refine g_iconst (v := 0) dX6_setSize_1 (by decide) ?_
  refine g_puti pX6_44 dX6_setSize_2 rfl rfl ?_
  have hM0 := rM_0t (j := 0) (x := 0) (Or.inl rfl) hM
  have hK0 := rK_0t (j := 0) (x := 0) (by decide) hK
  have hF0 := x_fN_0 h 0
  refine g_iload_n dX6_setSize_5 rfl ?_
  refine f1_S (u' := 0) lX6_129 kX6_isSix (mX6_isSix (by omega)) dX6_setSize_6 rfl rfl rfl rfl rfl rfl ?_
  refine g_if_ne (tgt := 18) dX6_setSize_9 (by decide) (fun c9 => ?_) (fun c9 => ?_)
  · have q9 := xb_n0 c9
    refine g_iload_n dX6_setSize_18 rfl ?_
    refine g_iconst (v := 1) dX6_setSize_19 (by decide) ?_
    refine g_bipush (v := 30) dX6_setSize_20 (by decide) ?_
    refine f1_S (u' := 0) lX6_58 kX6_in (mX6_in) dX6_setSize_22 rfl rfl rfl rfl rfl rfl ?_
    refine g_if_ne (tgt := 34) dX6_setSize_25 (by decide) (fun c25 => ?_) (fun c25 => ?_)
    · have q25 := (x_rg (a := b) (lo := 1) (hi := 30) (by decide) (by decide) rb (by decide) (by decide)).mp (xb_n0 c25)
      have hin : a_in A 6 a.toNat := Or.inr (Or.inr (Or.inl ⟨by decide, by decide, by omega⟩))
      have e9 := size_eq (c := a.toNat) (z := b) hI hJ (by omega)
      refine g_aload_n dX6_setSize_34 rfl ?_
      refine g_getr (q := 193) fX6_9 dX6_setSize_35 rfl rfl rfl ?_
      refine g_iconst (v := 4) dX6_setSize_38 (by decide) ?_
      refine g_iload_n dX6_setSize_39 rfl ?_
      refine g_iadd dX6_setSize_40 ?_
      refine g_top (z_ix (by omega) (by omega)) ?_
      refine g_iald dX6_setSize_41 rfl (show 4 + a.toNat < 376 by omega) rfl ?_
      refine g_top (y := iI (aF A 6 a.toNat)) (rM_z hM0 (by omega)) ?_
      refine s_i (i := 3) dX6_setSize_42 rfl rfl rfl rfl ?_
      dsimp only [List.set]
      refine g_aload_n dX6_setSize_43 rfl ?_
      refine g_getr (q := 193) fX6_9 dX6_setSize_44 rfl rfl rfl ?_
      refine g_iconst (v := 4) dX6_setSize_47 (by decide) ?_
      refine g_iload_n dX6_setSize_48 rfl ?_
      refine g_iadd dX6_setSize_49 ?_
      refine g_top (z_ix (by omega) (by omega)) ?_
      refine g_iload_n dX6_setSize_50 rfl ?_
      refine g_iast dX6_setSize_51 rfl (show 4 + a.toNat < 376 by omega) rfl ?_
      have hMB : rM 193 0 (aU A 6 a.toNat b) _ := rM_aU (f := 6) (j := a.toNat) (v := b) hM0 i1 i2 hin rfl
      have hIB : Inv P (aU A 6 a.toNat b) := Inv_67 hI (by omega)
      have hKB := rK_m hK0 (x_fm_si _ (4 + a.toNat) (iI b))
      have hFB := x_fT_m (x_fm_si (xsi h 192 0 0) (4 + a.toNat) (iI b))
      refine g_aload_n dX6_setSize_52 rfl ?_
      refine g_iload_n dX6_setSize_53 rfl ?_
      refine g_top (y := nI a.toNat) (iI_get (by omega) (by omega)) ?_
      refine f1_V (u' := 0) lX6_132 kX6_isSplitClass (mX6_isSplitClass hMB hIB (by omega)) dX6_setSize_54 rfl rfl rfl rfl rfl rfl rfl rfl ?_
      refine g_if_ne (tgt := 67) dX6_setSize_57 (by decide) (fun c57 => ?_) (fun c57 => ?_)
      · have qb : ¬ s_aSz A a.toNat b = true := fun y => by
          obtain ⟨y1, y2⟩ := e9.mpr y
          rw [if_pos y1] at c57; exact c57 rfl
        refine g_iconst (v := 1) dX6_setSize_67 (by decide) ?_
        refine g_goto (tgt := 72) dX6_setSize_68 (by decide) ?_
        refine s_iw dX6_setSize_72 rfl rfl rfl ?_
        dsimp only [List.set]
        refine g_aload_n dX6_setSize_74 rfl ?_
        refine g_getr (q := 193) fX6_9 dX6_setSize_75 rfl rfl rfl ?_
        refine g_iconst (v := 4) dX6_setSize_78 (by decide) ?_
        refine g_iload_n dX6_setSize_79 rfl ?_
        refine g_iadd dX6_setSize_80 ?_
        refine g_top (z_ix (by omega) (by omega)) ?_
        refine g_iload_n dX6_setSize_81 rfl ?_
        refine g_iast dX6_setSize_82 rfl (show 4 + a.toNat < 376 by omega) rfl ?_
        have hMA := rM_aU (f := 6) (j := a.toNat) (v := aF A 6 a.toNat) hMB i1 i2 hin rfl
        rw [aU_bk] at hMA
        have hKA := rK_m hKB (x_fm_si _ (4 + a.toNat) (iI (aF A 6 a.toNat)))
        have hFA := x_fT_tr hFB (x_fT_m (x_fm_si _ (4 + a.toNat) (iI (aF A 6 a.toNat))))
        refine g_iload dX6_setSize_83 rfl ?_
        refine g_if_eq (tgt := 96) dX6_setSize_85 (by decide) (fun c85 => ?_) (fun c85 => ?_)
        · exact absurd c85 (by decide)
        · refine g_aload_n dX6_setSize_88 rfl ?_
          refine g_iconst (v := 3) dX6_setSize_89 (by decide) ?_
          refine f1_V (u' := 0) lX6_107 kX6_raises (mX6_raises) dX6_setSize_90 rfl rfl rfl rfl rfl rfl rfl rfl ?_
          refine g_goto (tgt := 104) dX6_setSize_93 (by decide) ?_
          refine g_ireturn dX6_setSize_104 rfl rfl (by decide) ?_
          exact q6_no (c := 3) (by unfold k_setSize; (repeat' split) <;> first | rfl | omega | contradiction) (by decide) hMA hKA (x_fN_tr hF0 (x_fN_T hFA))
      · refine g_aload_n dX6_setSize_60 rfl ?_
        refine f1_V (u' := 0) lX6_135 kX6_isTooFull (mX6_isTooFull hMB hIB) dX6_setSize_61 rfl rfl rfl rfl rfl rfl rfl rfl ?_
        refine g_if_eq (tgt := 71) dX6_setSize_64 (by decide) (fun c64 => ?_) (fun c64 => ?_)
        · have qb : s_aSz A a.toNat b = true := e9.mp ⟨Decidable.byContradiction fun y => by rw [if_neg y] at c57; exact absurd c57 (by decide), Decidable.byContradiction fun y => by rw [if_neg y] at c64; exact absurd c64 (by decide)⟩
          refine g_iconst (v := 0) dX6_setSize_71 (by decide) ?_
          refine s_iw dX6_setSize_72 rfl rfl rfl ?_
          dsimp only [List.set]
          refine g_aload_n dX6_setSize_74 rfl ?_
          refine g_getr (q := 193) fX6_9 dX6_setSize_75 rfl rfl rfl ?_
          refine g_iconst (v := 4) dX6_setSize_78 (by decide) ?_
          refine g_iload_n dX6_setSize_79 rfl ?_
          refine g_iadd dX6_setSize_80 ?_
          refine g_top (z_ix (by omega) (by omega)) ?_
          refine g_iload_n dX6_setSize_81 rfl ?_
          refine g_iast dX6_setSize_82 rfl (show 4 + a.toNat < 376 by omega) rfl ?_
          have hMA := rM_aU (f := 6) (j := a.toNat) (v := aF A 6 a.toNat) hMB i1 i2 hin rfl
          rw [aU_bk] at hMA
          have hKA := rK_m hKB (x_fm_si _ (4 + a.toNat) (iI (aF A 6 a.toNat)))
          have hFA := x_fT_tr hFB (x_fT_m (x_fm_si _ (4 + a.toNat) (iI (aF A 6 a.toNat))))
          refine g_iload dX6_setSize_83 rfl ?_
          refine g_if_eq (tgt := 96) dX6_setSize_85 (by decide) (fun c85 => ?_) (fun c85 => ?_)
          · refine g_aload_n dX6_setSize_96 rfl ?_
            refine g_iconst (v := 4) dX6_setSize_97 (by decide) ?_
            refine g_iload_n dX6_setSize_98 rfl ?_
            refine g_iadd dX6_setSize_99 ?_
            refine g_top (z_ix (by omega) (by omega)) ?_
            refine g_iload_n dX6_setSize_100 rfl ?_
            refine q_V (u' := 0) lX6_123 kX6_sets (mX6_sets (f := 6) (j := a.toNat) (v := b) hMA i1 i2 hKA hin) dX6_setSize_101 rfl rfl rfl rfl rfl rfl rfl rfl (fun v h101 hq => ?_) (fun _ _ q => q.elim)
            obtain ⟨rfl, hM1, hK1, hF1⟩ := hq
            dsimp only [Option.toList, List.cons_append, List.nil_append]
            refine g_ireturn dX6_setSize_104 rfl rfl (by decide) ?_
            exact q6_ok (by unfold k_setSize; (repeat' split) <;> first | rfl | omega | contradiction) hM1 hK1 (x_fT_tr hFA hF1)
          · exact absurd rfl c85
        · have qb : ¬ s_aSz A a.toNat b = true := fun y => by
            obtain ⟨y1, y2⟩ := e9.mpr y
            rw [if_pos y2] at c64; exact c64 rfl
          refine g_iconst (v := 1) dX6_setSize_67 (by decide) ?_
          refine g_goto (tgt := 72) dX6_setSize_68 (by decide) ?_
          refine s_iw dX6_setSize_72 rfl rfl rfl ?_
          dsimp only [List.set]
          refine g_aload_n dX6_setSize_74 rfl ?_
          refine g_getr (q := 193) fX6_9 dX6_setSize_75 rfl rfl rfl ?_
          refine g_iconst (v := 4) dX6_setSize_78 (by decide) ?_
          refine g_iload_n dX6_setSize_79 rfl ?_
          refine g_iadd dX6_setSize_80 ?_
          refine g_top (z_ix (by omega) (by omega)) ?_
          refine g_iload_n dX6_setSize_81 rfl ?_
          refine g_iast dX6_setSize_82 rfl (show 4 + a.toNat < 376 by omega) rfl ?_
          have hMA := rM_aU (f := 6) (j := a.toNat) (v := aF A 6 a.toNat) hMB i1 i2 hin rfl
          rw [aU_bk] at hMA
          have hKA := rK_m hKB (x_fm_si _ (4 + a.toNat) (iI (aF A 6 a.toNat)))
          have hFA := x_fT_tr hFB (x_fT_m (x_fm_si _ (4 + a.toNat) (iI (aF A 6 a.toNat))))
          refine g_iload dX6_setSize_83 rfl ?_
          refine g_if_eq (tgt := 96) dX6_setSize_85 (by decide) (fun c85 => ?_) (fun c85 => ?_)
          · exact absurd c85 (by decide)
          · refine g_aload_n dX6_setSize_88 rfl ?_
            refine g_iconst (v := 3) dX6_setSize_89 (by decide) ?_
            refine f1_V (u' := 0) lX6_107 kX6_raises (mX6_raises) dX6_setSize_90 rfl rfl rfl rfl rfl rfl rfl rfl ?_
            refine g_goto (tgt := 104) dX6_setSize_93 (by decide) ?_
            refine g_ireturn dX6_setSize_104 rfl rfl (by decide) ?_
            exact q6_no (c := 3) (by unfold k_setSize; (repeat' split) <;> first | rfl | omega | contradiction) (by decide) hMA hKA (x_fN_tr hF0 (x_fN_T hFA))
    · have q25 := (not_congr (x_rg (a := b) (lo := 1) (hi := 30) (by decide) (by decide) rb (by decide) (by decide))).mp (xb_0.mp c25)
      refine g_aload_n dX6_setSize_28 rfl ?_
      refine g_iconst (v := 2) dX6_setSize_29 (by decide) ?_
      refine f1_V (u' := 0) lX6_107 kX6_raises (mX6_raises) dX6_setSize_30 rfl rfl rfl rfl rfl rfl rfl rfl ?_
      refine g_ireturn dX6_setSize_33 rfl rfl (by decide) ?_
      exact q6_no (c := 2) (by unfold k_setSize; (repeat' split) <;> first | rfl | omega | contradiction) (by decide) hM0 hK0 hF0
  · have q9 := xb_0.mp c9
    refine g_aload_n dX6_setSize_12 rfl ?_
    refine g_iconst (v := 1) dX6_setSize_13 (by decide) ?_
    refine f1_V (u' := 0) lX6_107 kX6_raises (mX6_raises) dX6_setSize_14 rfl rfl rfl rfl rfl rfl rfl rfl ?_
    refine g_ireturn dX6_setSize_17 rfl rfl (by decide) ?_
    exact q6_no (c := 1) (by unfold k_setSize; (repeat' split) <;> first | rfl | omega | contradiction) (by decide) hM0 hK0 hF0
set_option maxRecDepth 100000 in
theorem mX6_setCapacity {l : Launch} {G : ux_G} {h : ux_H} {a b : Int} {Hs : List Ab} {A : Ab} {P : Nat} (hM : rM 193 0 A h) (hK : rK Hs h) (hI : Inv P A) (hJ : InvF A) (ra : -2147483648 ≤ a ∧ a ≤ 2147483647) (rb : -2147483648 ≤ b ∧ b ≤ 2147483647) : ux_M l G yX6_setCapacity iX6_setCapacity 8 0 [.ref 192, .int (iI a), .int (iI b)] h (Q6 (k_setCapacity A a b) (iI (aF A 7 a.toNat)) A (aU A 7 a.toNat b) Hs h) (fun _ _ => False) := by
  refine ux_ent (L' := [some (.ref 192), some (.int (iI a)), some (.int (iI b)), none, none]) kX6_setCapacity rfl rfl rfl rfl ?_
  obtain ⟨i1, i2, i3, i4, i5, i6⟩ := id hI
  refine g_aload_n dX6_setCapacity_0 rfl ?_
  refine g_iconst (v := 0) dX6_setCapacity_1 (by decide) ?_
  refine g_puti pX6_44 dX6_setCapacity_2 rfl rfl ?_
  have hM0 := rM_0t (j := 0) (x := 0) (Or.inl rfl) hM
  have hK0 := rK_0t (j := 0) (x := 0) (by decide) hK
  have hF0 := x_fN_0 h 0
  refine g_iload_n dX6_setCapacity_5 rfl ?_
  refine f1_S (u' := 0) lX6_129 kX6_isSix (mX6_isSix (by omega)) dX6_setCapacity_6 rfl rfl rfl rfl rfl rfl ?_
  refine g_if_ne (tgt := 18) dX6_setCapacity_9 (by decide) (fun c9 => ?_) (fun c9 => ?_)
  · have q9 := xb_n0 c9
    refine g_iload_n dX6_setCapacity_18 rfl ?_
    refine g_bipush (v := 10) dX6_setCapacity_19 (by decide) ?_
    refine g_bipush (v := 60) dX6_setCapacity_21 (by decide) ?_
    refine f1_S (u' := 0) lX6_58 kX6_in (mX6_in) dX6_setCapacity_23 rfl rfl rfl rfl rfl rfl ?_
    refine g_if_ne (tgt := 35) dX6_setCapacity_26 (by decide) (fun c26 => ?_) (fun c26 => ?_)
    · have q26 := (x_rg (a := b) (lo := 10) (hi := 60) (by decide) (by decide) rb (by decide) (by decide)).mp (xb_n0 c26)
      have hin : a_in A 7 a.toNat := Or.inr (Or.inr (Or.inl ⟨by decide, by decide, by omega⟩))
      have e9 := capacity_eq (c := a.toNat) (z := b) hI hJ (by omega)
      refine g_aload_n dX6_setCapacity_35 rfl ?_
      refine g_getr (q := 193) fX6_9 dX6_setCapacity_36 rfl rfl rfl ?_
      refine g_bipush (v := 10) dX6_setCapacity_39 (by decide) ?_
      refine g_iload_n dX6_setCapacity_41 rfl ?_
      refine g_iadd dX6_setCapacity_42 ?_
      refine g_top (c_ix (by omega) (by omega)) ?_
      refine g_iald dX6_setCapacity_43 rfl (show 10 + a.toNat < 376 by omega) rfl ?_
      refine g_top (y := iI (aF A 7 a.toNat)) (rM_c hM0 (by omega)) ?_
      refine s_i (i := 3) dX6_setCapacity_44 rfl rfl rfl rfl ?_
      dsimp only [List.set]
      refine g_aload_n dX6_setCapacity_45 rfl ?_
      refine g_getr (q := 193) fX6_9 dX6_setCapacity_46 rfl rfl rfl ?_
      refine g_bipush (v := 10) dX6_setCapacity_49 (by decide) ?_
      refine g_iload_n dX6_setCapacity_51 rfl ?_
      refine g_iadd dX6_setCapacity_52 ?_
      refine g_top (c_ix (by omega) (by omega)) ?_
      refine g_iload_n dX6_setCapacity_53 rfl ?_
      refine g_iast dX6_setCapacity_54 rfl (show 10 + a.toNat < 376 by omega) rfl ?_
      have hMB : rM 193 0 (aU A 7 a.toNat b) _ := rM_aU (f := 7) (j := a.toNat) (v := b) hM0 i1 i2 hin rfl
      have hIB : Inv P (aU A 7 a.toNat b) := Inv_67 hI (by omega)
      have hKB := rK_m hK0 (x_fm_si _ (10 + a.toNat) (iI b))
      have hFB := x_fT_m (x_fm_si (xsi h 192 0 0) (10 + a.toNat) (iI b))
      refine g_aload_n dX6_setCapacity_55 rfl ?_
      refine f1_V (u' := 0) lX6_135 kX6_isTooFull (mX6_isTooFull hMB hIB) dX6_setCapacity_56 rfl rfl rfl rfl rfl rfl rfl rfl ?_
      refine s_iw dX6_setCapacity_59 rfl rfl rfl ?_
      dsimp only [List.set]
      refine g_aload_n dX6_setCapacity_61 rfl ?_
      refine g_getr (q := 193) fX6_9 dX6_setCapacity_62 rfl rfl rfl ?_
      refine g_bipush (v := 10) dX6_setCapacity_65 (by decide) ?_
      refine g_iload_n dX6_setCapacity_67 rfl ?_
      refine g_iadd dX6_setCapacity_68 ?_
      refine g_top (c_ix (by omega) (by omega)) ?_
      refine g_iload_n dX6_setCapacity_69 rfl ?_
      refine g_iast dX6_setCapacity_70 rfl (show 10 + a.toNat < 376 by omega) rfl ?_
      have hMA := rM_aU (f := 7) (j := a.toNat) (v := aF A 7 a.toNat) hMB i1 i2 hin rfl
      rw [aU_bk] at hMA
      have hKA := rK_m hKB (x_fm_si _ (10 + a.toNat) (iI (aF A 7 a.toNat)))
      have hFA := x_fT_tr hFB (x_fT_m (x_fm_si _ (10 + a.toNat) (iI (aF A 7 a.toNat))))
      refine g_iload dX6_setCapacity_71 rfl ?_
      refine g_if_eq (tgt := 84) dX6_setCapacity_73 (by decide) (fun c73 => ?_) (fun c73 => ?_)
      · have qb : s_aCp A a.toNat b = true := e9.mp (Decidable.byContradiction fun y => by rw [if_neg y] at c73; exact absurd c73 (by decide))
        refine g_aload_n dX6_setCapacity_84 rfl ?_
        refine g_bipush (v := 10) dX6_setCapacity_85 (by decide) ?_
        refine g_iload_n dX6_setCapacity_87 rfl ?_
        refine g_iadd dX6_setCapacity_88 ?_
        refine g_top (c_ix (by omega) (by omega)) ?_
        refine g_iload_n dX6_setCapacity_89 rfl ?_
        refine q_V (u' := 0) lX6_123 kX6_sets (mX6_sets (f := 7) (j := a.toNat) (v := b) hMA i1 i2 hKA hin) dX6_setCapacity_90 rfl rfl rfl rfl rfl rfl rfl rfl (fun v h90 hq => ?_) (fun _ _ q => q.elim)
        obtain ⟨rfl, hM1, hK1, hF1⟩ := hq
        dsimp only [Option.toList, List.cons_append, List.nil_append]
        refine g_ireturn dX6_setCapacity_93 rfl rfl (by decide) ?_
        first | exact q6_ok (by unfold k_setCapacity; (repeat' split) <;> first | rfl | omega | contradiction) hM1 hK1 (x_fT_tr hFA hF1) | exact q6_no (c := 3) (by unfold k_setCapacity; (repeat' split) <;> first | rfl | omega | contradiction) (by decide) hMA hKA (x_fN_tr hF0 (x_fN_T hFA))
      · have qb : ¬ s_aCp A a.toNat b = true := fun y => c73 (by rw [if_pos (e9.mpr y)])
        refine g_aload_n dX6_setCapacity_76 rfl ?_
        refine g_iconst (v := 3) dX6_setCapacity_77 (by decide) ?_
        refine f1_V (u' := 0) lX6_107 kX6_raises (mX6_raises) dX6_setCapacity_78 rfl rfl rfl rfl rfl rfl rfl rfl ?_
        refine g_goto (tgt := 93) dX6_setCapacity_81 (by decide) ?_
        refine g_ireturn dX6_setCapacity_93 rfl rfl (by decide) ?_
        first | exact q6_ok (by unfold k_setCapacity; (repeat' split) <;> first | rfl | omega | contradiction) hM1 hK1 (x_fT_tr hFA hF1) | exact q6_no (c := 3) (by unfold k_setCapacity; (repeat' split) <;> first | rfl | omega | contradiction) (by decide) hMA hKA (x_fN_tr hF0 (x_fN_T hFA))
    · have q26 := (not_congr (x_rg (a := b) (lo := 10) (hi := 60) (by decide) (by decide) rb (by decide) (by decide))).mp (xb_0.mp c26)
      refine g_aload_n dX6_setCapacity_29 rfl ?_
      refine g_iconst (v := 2) dX6_setCapacity_30 (by decide) ?_
      refine f1_V (u' := 0) lX6_107 kX6_raises (mX6_raises) dX6_setCapacity_31 rfl rfl rfl rfl rfl rfl rfl rfl ?_
      refine g_ireturn dX6_setCapacity_34 rfl rfl (by decide) ?_
      exact q6_no (c := 2) (by unfold k_setCapacity; (repeat' split) <;> first | rfl | omega | contradiction) (by decide) hM0 hK0 hF0
  · have q9 := xb_0.mp c9
    refine g_aload_n dX6_setCapacity_12 rfl ?_
    refine g_iconst (v := 1) dX6_setCapacity_13 (by decide) ?_
    refine f1_V (u' := 0) lX6_107 kX6_raises (mX6_raises) dX6_setCapacity_14 rfl rfl rfl rfl rfl rfl rfl rfl ?_
    refine g_ireturn dX6_setCapacity_17 rfl rfl (by decide) ?_
    exact q6_no (c := 1) (by unfold k_setCapacity; (repeat' split) <;> first | rfl | omega | contradiction) (by decide) hM0 hK0 hF0
set_option maxRecDepth 100000 in
theorem wX6_setRoom {l : Launch} {G : ux_G} {a b : Int} {Hs : List Ab} {A : Ab} {P : Nat} {h9 h : ux_H} (hM0 : rM 193 0 A h) (hK0 : rK Hs h) (hI : Inv P A) (hJ : InvF A) (hF0 : x_fN h9 h) (eh : h = xsi h9 192 0 0) (ra : 0 ≤ a ∧ a < A.2.1) (rb : 0 ≤ b ∧ b < 6) : ∀ (n : Nat) (j : Nat), j ≤ A.2.1 → s_all (fun j => decide (j = a.toNat) || !decide (aF A 8 j = aF A 8 a.toNat) || !decide (aF A 12 j = (b.toNat : Int))) j = true → A.2.1 - j < n → ux_W l G iX6_setRoom (ux_rm 7 0) (ux_Z G 0 (Q6 (k_setRoom A a b) (iI (aF A 12 a.toNat)) A (aU A 12 a.toNat b) Hs h9) (fun _ _ => False)) 34 [some (.ref 192), some (.int (iI a)), some (.int (iI b)), some (.int (nI j))] [] (h) 0 := by
  intro n
  induction n with
  | zero => intro j hj hq hn; exact absurd hn (Nat.not_lt_zero _)
  | succ n ih =>
    intro j hj hq hn
    obtain ⟨i1, i2, i3, i4, i5, i6⟩ := id hI
    have lr := s_load_r hI (i := a.toNat) (by omega)
    have cc := i5 b.toNat (by omega)
    have al := i6 a.toNat (by omega)
    refine g_iload_n dX6_setRoom_34 rfl ?_
    refine g_aload_n dX6_setRoom_35 rfl ?_
    refine f1_V (u' := 0) lX6_54 kX6_lessons (mX6_lessons hM0) dX6_setRoom_36 rfl rfl rfl rfl rfl rfl rfl rfl ?_
    refine g_icmp_ge (tgt := 84) dX6_setRoom_39 (by decide) (fun c39 => ?_) (fun c39 => ?_)
    · have e : j = A.2.1 := by have := xlt_i c39 (by omega) (by omega); omega
      subst e
      refine g_aload_n dX6_setRoom_84 rfl ?_
      refine g_iload_n dX6_setRoom_85 rfl ?_
      refine g_top (y := nI a.toNat) (iI_get (by omega) (by omega)) ?_
      refine f1_V (u' := 0) lX6_126 kX6_load (mX6_load hM0 hI (by omega)) dX6_setRoom_86 rfl rfl rfl rfl rfl rfl rfl rfl ?_
      refine g_aload_n dX6_setRoom_89 rfl ?_
      refine g_getr (q := 193) fX6_9 dX6_setRoom_90 rfl rfl rfl ?_
      refine g_bipush (v := 10) dX6_setRoom_93 (by decide) ?_
      refine g_iload_n dX6_setRoom_95 rfl ?_
      refine g_iadd dX6_setRoom_96 ?_
      refine g_top (c_ix (by omega) (by omega)) ?_
      refine g_iald dX6_setRoom_97 rfl (show 10 + b.toNat < 376 by omega) rfl ?_
      refine g_top (y := iI (aF A 7 b.toNat)) (rM_c hM0 (by omega)) ?_
      refine g_icmp_le (tgt := 109) dX6_setRoom_98 (by decide) (fun c98 => ?_) (fun c98 => ?_)
      · rw [iI_le (by omega) (by omega) (by omega) (by omega)] at c98
        refine g_aload_n dX6_setRoom_109 rfl ?_
        refine g_iload_n dX6_setRoom_110 rfl ?_
        refine g_top (y := nI a.toNat) (iI_get (by omega) (by omega)) ?_
        refine f1_S (u' := 0) lX6_47 kX6_lessonAt (mX6_lessonAt) dX6_setRoom_111 rfl rfl rfl rfl rfl rfl ?_
        refine g_iconst (v := 4) dX6_setRoom_114 (by decide) ?_
        refine g_iadd dX6_setRoom_115 ?_
        refine g_top (y := nI (m_at 12 a.toNat)) (by rw [show (4 : Int32) = nI 4 by decide, nI_add]; rfl) ?_
        refine g_iload_n dX6_setRoom_116 rfl ?_
        refine q_V (u' := 0) lX6_123 kX6_sets (mX6_sets (f := 12) (j := a.toNat) (v := b) hM0 i1 i2 hK0 (in_l rfl (by omega))) dX6_setRoom_117 rfl rfl rfl rfl rfl rfl rfl rfl (fun v h117 hq => ?_) (fun _ _ q => q.elim)
        obtain ⟨rfl, hM1, hK1, hF1⟩ := hq
        dsimp only [Option.toList, List.cons_append, List.nil_append]
        refine g_ireturn dX6_setRoom_120 rfl rfl (by decide) ?_
        have q9 : s_aRm A a.toNat b.toNat = true ↔ s_load A a.toNat ≤ aF A 7 b.toNat := by rw [room_eq hJ (by omega)]; exact ⟨fun y => y.2, fun y => ⟨hq, y⟩⟩
        subst eh
        first | exact q6_ok (by unfold k_setRoom; rw [if_neg (by omega), if_neg (by omega), if_neg (fun y => y (q9.mpr c98))]) hM1 hK1 hF1 | exact q6_no (c := 3) (by unfold k_setRoom; rw [if_neg (by omega), if_neg (by omega), if_pos (fun y => c98 (q9.mp y))]) (by decide) hM0 hK0 hF0
      · rw [iI_le (by omega) (by omega) (by omega) (by omega)] at c98
        refine g_aload_n dX6_setRoom_101 rfl ?_
        refine g_iconst (v := 3) dX6_setRoom_102 (by decide) ?_
        refine f1_V (u' := 0) lX6_107 kX6_raises (mX6_raises) dX6_setRoom_103 rfl rfl rfl rfl rfl rfl rfl rfl ?_
        refine g_goto (tgt := 120) dX6_setRoom_106 (by decide) ?_
        refine g_ireturn dX6_setRoom_120 rfl rfl (by decide) ?_
        have q9 : s_aRm A a.toNat b.toNat = true ↔ s_load A a.toNat ≤ aF A 7 b.toNat := by rw [room_eq hJ (by omega)]; exact ⟨fun y => y.2, fun y => ⟨hq, y⟩⟩
        subst eh
        first | exact q6_ok (by unfold k_setRoom; rw [if_neg (by omega), if_neg (by omega), if_neg (fun y => y (q9.mpr c98))]) hM1 hK1 hF1 | exact q6_no (c := 3) (by unfold k_setRoom; rw [if_neg (by omega), if_neg (by omega), if_pos (fun y => c98 (q9.mp y))]) (by decide) hM0 hK0 hF0
    · have hlt : j < A.2.1 := xnl_i c39 (by omega) (by omega)
      have il := i6 j hlt
      refine g_iload_n dX6_setRoom_42 rfl ?_
      refine g_iload_n dX6_setRoom_43 rfl ?_
      refine g_icmp_eq (tgt := 78) dX6_setRoom_44 (by decide) (fun c44 => ?_) (fun c44 => ?_)
      · have q44 : j = a.toNat := by rw [nI_iI, iI_eq (by omega) (by omega) (by omega) (by omega)] at c44; omega
        refine s_inc (v := nI (j + 1)) dX6_setRoom_78 rfl nI_s rfl rfl rfl ?_
        dsimp only [List.set]
        refine g_goto (tgt := 34) dX6_setRoom_81 (by decide) ?_
        exact ih (j + 1) (by omega) (s_all_s (P := fun j => decide (j = a.toNat) || !decide (aF A 8 j = aF A 8 a.toNat) || !decide (aF A 12 j = (b.toNat : Int))) hq (by simp [q44])) (by omega)
      · have q44 : ¬ j = a.toNat := by rw [nI_iI, iI_eq (by omega) (by omega) (by omega) (by omega)] at c44; omega
        refine g_aload_n dX6_setRoom_47 rfl ?_
        refine g_iload_n dX6_setRoom_48 rfl ?_
        refine g_iconst (v := 0) dX6_setRoom_49 (by decide) ?_
        refine f1_V (u' := 0) lX6_78 kX6_of (mX6_of (f := 8) hM0 (by omega) rfl (by omega)) dX6_setRoom_50 rfl rfl rfl rfl rfl rfl rfl rfl ?_
        refine g_aload_n dX6_setRoom_53 rfl ?_
        refine g_iload_n dX6_setRoom_54 rfl ?_
        refine g_st (st' := [.int (nI a.toNat), .ref 192, .int (iI (aF A 8 j))]) (by rw [iI_get (a := a) (by omega) (by omega)]) ?_
        refine g_iconst (v := 0) dX6_setRoom_55 (by decide) ?_
        refine f1_V (u' := 0) lX6_78 kX6_of (mX6_of (f := 8) hM0 (by omega) rfl (by omega)) dX6_setRoom_56 rfl rfl rfl rfl rfl rfl rfl rfl ?_
        refine g_icmp_ne (tgt := 78) dX6_setRoom_59 (by decide) (fun c59 => ?_) (fun c59 => ?_)
        · rw [iI_eq (by omega) (by omega) (by omega) (by omega)] at c59
          refine s_inc (v := nI (j + 1)) dX6_setRoom_78 rfl nI_s rfl rfl rfl ?_
          dsimp only [List.set]
          refine g_goto (tgt := 34) dX6_setRoom_81 (by decide) ?_
          exact ih (j + 1) (by omega) (s_all_s (P := fun j => decide (j = a.toNat) || !decide (aF A 8 j = aF A 8 a.toNat) || !decide (aF A 12 j = (b.toNat : Int))) hq (by simp [q44, c59])) (by omega)
        · rw [iI_eq (by omega) (by omega) (by omega) (by omega)] at c59
          refine g_aload_n dX6_setRoom_62 rfl ?_
          refine g_iload_n dX6_setRoom_63 rfl ?_
          refine g_iconst (v := 4) dX6_setRoom_64 (by decide) ?_
          refine f1_V (u' := 0) lX6_78 kX6_of (mX6_of (f := 12) hM0 (by omega) rfl (by omega)) dX6_setRoom_65 rfl rfl rfl rfl rfl rfl rfl rfl ?_
          refine g_iload_n dX6_setRoom_68 rfl ?_
          refine g_icmp_ne (tgt := 78) dX6_setRoom_69 (by decide) (fun c69 => ?_) (fun c69 => ?_)
          · rw [iI_eq (by omega) (by omega) (by omega) (by omega)] at c69
            refine s_inc (v := nI (j + 1)) dX6_setRoom_78 rfl nI_s rfl rfl rfl ?_
            dsimp only [List.set]
            refine g_goto (tgt := 34) dX6_setRoom_81 (by decide) ?_
            exact ih (j + 1) (by omega) (s_all_s (P := fun j => decide (j = a.toNat) || !decide (aF A 8 j = aF A 8 a.toNat) || !decide (aF A 12 j = (b.toNat : Int))) hq (by show (decide (j = a.toNat) || !decide (aF A 8 j = aF A 8 a.toNat) || !decide (aF A 12 j = (b.toNat : Int))) = true; rw [decide_eq_false (show ¬ aF A 12 j = (b.toNat : Int) by omega)]; simp)) (by omega)
          · rw [iI_eq (by omega) (by omega) (by omega) (by omega)] at c69
            refine g_aload_n dX6_setRoom_72 rfl ?_
            refine g_iconst (v := 3) dX6_setRoom_73 (by decide) ?_
            refine f1_V (u' := 0) lX6_107 kX6_raises (mX6_raises) dX6_setRoom_74 rfl rfl rfl rfl rfl rfl rfl rfl ?_
            refine g_ireturn dX6_setRoom_77 rfl rfl (by decide) ?_
            have q9 : ¬ s_aRm A a.toNat b.toNat = true := fun y => by
              have := s_all_iff.mp ((room_eq hJ (by omega)).mp y).1 j hlt
              simp [q44, c59, show aF A 12 j = (b.toNat : Int) by omega] at this
            exact q6_no (c := 3) (by unfold k_setRoom; (repeat' split) <;> first | rfl | omega | contradiction) (by decide) hM0 hK0 hF0
set_option maxRecDepth 100000 in
theorem mX6_setRoom {l : Launch} {G : ux_G} {h : ux_H} {a b : Int} {Hs : List Ab} {A : Ab} {P : Nat} (hM : rM 193 0 A h) (hK : rK Hs h) (hI : Inv P A) (hJ : InvF A) (ra : -2147483648 ≤ a ∧ a ≤ 2147483647) (rb : -2147483648 ≤ b ∧ b ≤ 2147483647) : ux_M l G yX6_setRoom iX6_setRoom 7 0 [.ref 192, .int (iI a), .int (iI b)] h (Q6 (k_setRoom A a b) (iI (aF A 12 a.toNat)) A (aU A 12 a.toNat b) Hs h) (fun _ _ => False) := by
  refine ux_ent (L' := [some (.ref 192), some (.int (iI a)), some (.int (iI b)), none]) kX6_setRoom rfl rfl rfl rfl ?_
  obtain ⟨i1, i2, i3, i4, i5, i6⟩ := id hI
  refine g_aload_n dX6_setRoom_0 rfl ?_
  refine g_iconst (v := 0) dX6_setRoom_1 (by decide) ?_
  refine g_puti pX6_44 dX6_setRoom_2 rfl rfl ?_
  have hM0 := rM_0t (j := 0) (x := 0) (Or.inl rfl) hM
  have hK0 := rK_0t (j := 0) (x := 0) (by decide) hK
  have hF0 := x_fN_0 h 0
  refine g_aload_n dX6_setRoom_5 rfl ?_
  refine g_iload_n dX6_setRoom_6 rfl ?_
  refine f1_V (u' := 0) lX6_153 kX6_isLesson (mX6_isLesson hM0 (by omega) (by omega)) dX6_setRoom_7 rfl rfl rfl rfl rfl rfl rfl rfl ?_
  refine g_if_ne (tgt := 19) dX6_setRoom_10 (by decide) (fun c10 => ?_) (fun c10 => ?_)
  · have q10 := xb_n0 c10
    refine g_iload_n dX6_setRoom_19 rfl ?_
    refine f1_S (u' := 0) lX6_129 kX6_isSix (mX6_isSix (by omega)) dX6_setRoom_20 rfl rfl rfl rfl rfl rfl ?_
    refine g_if_ne (tgt := 32) dX6_setRoom_23 (by decide) (fun c23 => ?_) (fun c23 => ?_)
    · have q23 := xb_n0 c23
      refine g_iconst (v := 0) dX6_setRoom_32 (by decide) ?_
      refine s_i (i := 3) dX6_setRoom_33 rfl rfl rfl rfl ?_
      dsimp only [List.set]
      exact wX6_setRoom (l := l) (G := G) (h9 := h) hM0 hK0 hI hJ hF0 rfl q10 q23 (A.2.1 + 1) 0 (Nat.zero_le _) rfl (by omega)
    · have q23 := xb_0.mp c23
      refine g_aload_n dX6_setRoom_26 rfl ?_
      refine g_iconst (v := 2) dX6_setRoom_27 (by decide) ?_
      refine f1_V (u' := 0) lX6_107 kX6_raises (mX6_raises) dX6_setRoom_28 rfl rfl rfl rfl rfl rfl rfl rfl ?_
      refine g_ireturn dX6_setRoom_31 rfl rfl (by decide) ?_
      exact q6_no (c := 2) (by unfold k_setRoom; (repeat' split) <;> first | rfl | omega | contradiction) (by decide) hM0 hK0 hF0
  · have q10 := xb_0.mp c10
    refine g_aload_n dX6_setRoom_13 rfl ?_
    refine g_iconst (v := 1) dX6_setRoom_14 (by decide) ?_
    refine f1_V (u' := 0) lX6_107 kX6_raises (mX6_raises) dX6_setRoom_15 rfl rfl rfl rfl rfl rfl rfl rfl ?_
    refine g_ireturn dX6_setRoom_18 rfl rfl (by decide) ?_
    exact q6_no (c := 1) (by unfold k_setRoom; (repeat' split) <;> first | rfl | omega | contradiction) (by decide) hM0 hK0 hF0
