/-! THE REFERENCE: covers and splittings: walks. -/
/-- how the reference ends a try to cover -/
def QC (bar : Int) (K : Nat) (R : Int32) (A A2 : Ab) (Hs : List Ab) (h : ux_H) (v : Option Value) (h' : ux_H) : Prop := v = some (.int (if K = 0 then R else 0)) ∧ xgi h' 192 0 = nI K ∧ rM 193 0 (if K = 0 then A2 else A) h' ∧ rK (if K = 0 then (A :: Hs).take 8 else Hs) h' ∧ (∀ c, c < 192 ∨ c = 194 ∨ c = 197 ∨ 201 < c → ∀ j, h' c j = h c j) ∧ (∀ j, j = 3 ∨ j = 8 ∨ j = 9 → h' 192 j = h 192 j) ∧ xgi h' 192 10 = if K = 3 then iI bar else xgi h 192 10
theorem qc_of {bar : Int} {K : Nat} {R : Int32} {A A2 : Ab} {Hs : List Ab} {h h' : ux_H} {v : Option Value} (q : Q6 K R A A2 Hs h v h') (hk : K ≠ 3) : QC bar K R A A2 Hs h v h' := by
  obtain ⟨a, b, c, d, e⟩ := q
  refine ⟨a, b, c, d, e.1, fun j hj => e.2 j (by omega), ?_⟩
  rw [if_neg hk]; unfold xgi; rw [e.2 10 (by decide)]
theorem qc_3 {bar : Int} {K : Nat} {R : Int32} {A A2 : Ab} {Hs : List Ab} {h : ux_H} (hk : K = 3) (hM : rM 193 0 A h) (hK : rK Hs h) : QC bar K R A A2 Hs h (some (.int 0)) (xsi (xsi (xsi h 192 0 0) 192 10 (iI bar)) 192 0 (nI 3)) := by
  subst hk
  refine ⟨rfl, xgi_si _ _ _ _, rM_0t (Or.inl rfl) (rM_0t (Or.inl rfl) (rM_0t (Or.inl rfl) hM)), rK_0t (by decide) (rK_0t (by decide) (rK_0t (by decide) hK)), fun c hc j => ?_, fun j hj => ?_, ?_⟩
  · unfold xsi xsv; rw [if_neg (by omega), if_neg (by omega), if_neg (by omega)]
  · unfold xsi xsv; rw [if_neg (by omega), if_neg (by omega), if_neg (by omega)]
  · rw [if_pos rfl, xgi_ne _ _ _ _ _ _ (by decide)]; exact xgi_si _ _ _ _
theorem st1_13 {A : Ab} (hJ : InvF A) {l : Nat} (hl : l < A.2.1) (h : s_st A l = 1) : aF A 13 l ≠ -1 ∧ aF A 14 l = -1 := by
  have a := (s_st1 hJ hl).mp h
  exact ⟨a, (hJ.2.1 l hl a).2.2.2.1⟩
theorem unc_eq {A : Ab} (hJ : InvF A) {l : Nat} (h14 : aF A 14 l = -1) : s_endc (s_h1 A l) l = s_unc A l := by
  unfold s_unc; rw [(e1_h1 (H3_of hJ) h14).1]
set_option maxRecDepth 100000 in
theorem mX6_cover {l : Launch} {G : ux_G} {h : ux_H} {a b : Int} {Hs : List Ab} {A : Ab} {P : Nat} (hM : rM 193 0 A h) (hK : rK Hs h) (hI : Inv P A) (hJ : InvF A) (hP : P + 3000 ≤ 10000000) (ra : -2147483648 ≤ a ∧ a ≤ 2147483647) (rb : -2147483648 ≤ b ∧ b ≤ 2147483647) : ux_M l G yX6_cover iX6_cover 8 0 [.ref 192, .int (iI a), .int (iI b)] h (QC (s_bar A a.toNat b.toNat) (k_cover A a b) (iI (s_worth A a.toNat b.toNat)) A (s_begin A a.toNat b.toNat) Hs h) (fun _ _ => False) := by
  refine ux_ent (L' := [some (.ref 192), some (.int (iI a)), some (.int (iI b)), none]) kX6_cover rfl rfl rfl rfl ?_
  obtain ⟨i1, i2, i3, i4, i5, i6⟩ := id hI
  refine g_aload_n dX6_cover_0 rfl ?_
  refine g_iconst (v := 0) dX6_cover_1 (by decide) ?_
  refine g_puti pX6_44 dX6_cover_2 rfl rfl ?_
  have hM0 := rM_0t (j := 0) (x := 0) (Or.inl rfl) hM
  have hK0 := rK_0t (j := 0) (x := 0) (by decide) hK
  have hF0 := x_fN_0 h 0
  refine g_aload_n dX6_cover_5 rfl ?_
  refine g_iload_n dX6_cover_6 rfl ?_
  refine f1_V (u' := 0) lX6_153 kX6_isLesson (mX6_isLesson hM0 (by omega) (by omega)) dX6_cover_7 rfl rfl rfl rfl rfl rfl rfl rfl ?_
  refine g_if_eq (tgt := 21) dX6_cover_10 (by decide) (fun c10 => ?_) (fun c10 => ?_)
  · have q10 := xb_0.mp c10
    refine g_aload_n dX6_cover_21 rfl ?_
    refine g_iconst (v := 1) dX6_cover_22 (by decide) ?_
    refine f1_V (u' := 0) lX6_107 kX6_raises (mX6_raises) dX6_cover_23 rfl rfl rfl rfl rfl rfl rfl rfl ?_
    refine g_ireturn dX6_cover_26 rfl rfl (by decide) ?_
    refine qc_of (K := k_cover A a b) ?_ (by rw [show k_cover A a b = 1 from (by unfold k_cover; (repeat' split) <;> first | rfl | omega | contradiction)]; decide)
    exact q6_no (c := 1) (by unfold k_cover; (repeat' split) <;> first | rfl | omega | contradiction) (by decide) hM0 hK0 hF0
  · have q10 := xb_n0 c10
    refine g_aload_n dX6_cover_13 rfl ?_
    refine g_iload_n dX6_cover_14 rfl ?_
    refine f1_V (u' := 0) lX6_119 kX6_isTeacher (mX6_isTeacher hM0 (by omega) (by omega)) dX6_cover_15 rfl rfl rfl rfl rfl rfl rfl rfl ?_
    refine g_if_ne (tgt := 27) dX6_cover_18 (by decide) (fun c18 => ?_) (fun c18 => ?_)
    · have q18 := xb_n0 c18
      refine g_aload_n dX6_cover_27 rfl ?_
      refine g_iload_n dX6_cover_28 rfl ?_
      refine g_top (y := nI a.toNat) (iI_get (by omega) (by omega)) ?_
      refine f1_V (u' := 0) lX6_84 kX6_state (mX6_state hM0 hI (by omega)) dX6_cover_29 rfl rfl rfl rfl rfl rfl rfl rfl ?_
      have hr := s_st_r A a.toNat
      refine g_iconst (v := 3) dX6_cover_32 (by decide) ?_
      refine g_icmp_eq (tgt := 42) dX6_cover_33 (by decide) (fun c33 => ?_) (fun c33 => ?_)
      · rw [show (3 : Int32) = iI 3 by decide, iI_eq (by omega) (by omega) (by omega) (by omega)] at c33
        refine g_aload_n dX6_cover_42 rfl ?_
        refine g_iload_n dX6_cover_43 rfl ?_
        refine g_top (y := nI a.toNat) (iI_get (by omega) (by omega)) ?_
        refine g_iload_n dX6_cover_44 rfl ?_
        refine g_top (y := nI b.toNat) (iI_get (by omega) (by omega)) ?_
        refine f1_V (u' := 0) lX6_182 kX6_bar (mX6_bar hM0 hI hJ (by omega) (by omega)) dX6_cover_45 rfl rfl rfl rfl rfl rfl rfl rfl ?_
        refine s_i (i := 3) dX6_cover_48 rfl rfl rfl rfl ?_
        dsimp only [List.set]
        have br := s_bar_r A a.toNat b.toNat
        refine g_iload_n dX6_cover_49 rfl ?_
        refine g_if_le (tgt := 64) dX6_cover_50 (by decide) (fun c50 => ?_) (fun c50 => ?_)
        · rw [show (0 : Int32) = iI 0 by decide, iI_le (by omega) (by omega) (by omega) (by omega)] at c50
          refine g_aload_n dX6_cover_64 rfl ?_
          refine q_V (u' := 0) lX6_68 kX6_changes (mX6_changes hM0 (by omega) (by omega) hK0) dX6_cover_65 rfl rfl rfl rfl rfl rfl rfl rfl (fun v h65 hq => ?_) (fun _ _ q => q.elim)
          obtain ⟨rfl, hK1, hFc⟩ := hq
          have hM1 := rM_c9 hM0 hFc (Or.inl rfl)
          have hF1 := x_fT_c hFc
          dsimp only [Option.toList, List.cons_append, List.nil_append]
          refine g_aload_n dX6_cover_68 rfl ?_
          refine g_iload_n dX6_cover_69 rfl ?_
          refine g_top (y := nI a.toNat) (iI_get (by omega) (by omega)) ?_
          refine g_iload_n dX6_cover_70 rfl ?_
          refine g_top (y := nI b.toNat) (iI_get (by omega) (by omega)) ?_
          refine q_V (u' := 0) lX6_194 kX6_begins (mX6_begins hM1 hI (by omega) (by omega) (by omega)) dX6_cover_71 rfl rfl rfl rfl rfl rfl rfl rfl (fun v h71 hq => ?_) (fun _ _ q => q.elim)
          obtain ⟨rfl, hM2, hF2⟩ := hq
          dsimp only [Option.toList, List.cons_append, List.nil_append]
          refine g_ireturn dX6_cover_74 rfl rfl (by decide) ?_
          refine qc_of (K := k_cover A a b) ?_ (by rw [show k_cover A a b = 0 from (by unfold k_cover; (repeat' split) <;> first | rfl | omega | contradiction)]; decide)
          exact q6_ok (by unfold k_cover; (repeat' split) <;> first | rfl | omega | contradiction) hM2 (rK_m hK1 hF2) (x_fT_tr hF1 (x_fT_m hF2))
        · rw [show (0 : Int32) = iI 0 by decide, iI_le (by omega) (by omega) (by omega) (by omega)] at c50
          refine g_aload_n dX6_cover_53 rfl ?_
          refine g_iload_n dX6_cover_54 rfl ?_
          refine g_puti pX6_191 dX6_cover_55 rfl rfl ?_
          refine g_aload_n dX6_cover_58 rfl ?_
          refine g_iconst (v := 3) dX6_cover_59 (by decide) ?_
          refine f1_V (u' := 0) lX6_107 kX6_raises (mX6_raises) dX6_cover_60 rfl rfl rfl rfl rfl rfl rfl rfl ?_
          refine g_ireturn dX6_cover_63 rfl rfl (by decide) ?_
          exact qc_3 (by unfold k_cover; (repeat' split) <;> first | rfl | omega | contradiction) hM hK
      · rw [show (3 : Int32) = iI 3 by decide, iI_eq (by omega) (by omega) (by omega) (by omega)] at c33
        refine g_aload_n dX6_cover_36 rfl ?_
        refine g_iconst (v := 2) dX6_cover_37 (by decide) ?_
        refine f1_V (u' := 0) lX6_107 kX6_raises (mX6_raises) dX6_cover_38 rfl rfl rfl rfl rfl rfl rfl rfl ?_
        refine g_ireturn dX6_cover_41 rfl rfl (by decide) ?_
        refine qc_of (K := k_cover A a b) ?_ (by rw [show k_cover A a b = 2 from (by unfold k_cover; (repeat' split) <;> first | rfl | omega | contradiction)]; decide)
        exact q6_no (c := 2) (by unfold k_cover; (repeat' split) <;> first | rfl | omega | contradiction) (by decide) hM0 hK0 hF0
    · have q18 := xb_0.mp c18
      refine g_aload_n dX6_cover_21 rfl ?_
      refine g_iconst (v := 1) dX6_cover_22 (by decide) ?_
      refine f1_V (u' := 0) lX6_107 kX6_raises (mX6_raises) dX6_cover_23 rfl rfl rfl rfl rfl rfl rfl rfl ?_
      refine g_ireturn dX6_cover_26 rfl rfl (by decide) ?_
      refine qc_of (K := k_cover A a b) ?_ (by rw [show k_cover A a b = 1 from (by unfold k_cover; (repeat' split) <;> first | rfl | omega | contradiction)]; decide)
      exact q6_no (c := 1) (by unfold k_cover; (repeat' split) <;> first | rfl | omega | contradiction) (by decide) hM0 hK0 hF0
set_option maxRecDepth 100000 in
theorem mX6_uncover {l : Launch} {G : ux_G} {h : ux_H} {a : Int} {Hs : List Ab} {A : Ab} {P : Nat} (hM : rM 193 0 A h) (hK : rK Hs h) (hI : Inv P A) (hJ : InvF A) (hP : P + 3000 ≤ 10000000) (ra : -2147483648 ≤ a ∧ a ≤ 2147483647) : ux_M l G yX6_uncover iX6_uncover 10 0 [.ref 192, .int (iI a)] h (Q6 (k_uncover A a) (iI (s_act A a.toNat)) A (s_unc A a.toNat) Hs h) (fun _ _ => False) := by
  refine ux_ent (L' := [some (.ref 192), some (.int (iI a)), none]) kX6_uncover rfl rfl rfl rfl ?_
  obtain ⟨i1, i2, i3, i4, i5, i6⟩ := id hI
  refine g_aload_n dX6_uncover_0 rfl ?_
  refine g_iconst (v := 0) dX6_uncover_1 (by decide) ?_
  refine g_puti pX6_44 dX6_uncover_2 rfl rfl ?_
  have hM0 := rM_0t (j := 0) (x := 0) (Or.inl rfl) hM
  have hK0 := rK_0t (j := 0) (x := 0) (by decide) hK
  have hF0 := x_fN_0 h 0
  refine g_aload_n dX6_uncover_5 rfl ?_
  refine g_iload_n dX6_uncover_6 rfl ?_
  refine f1_V (u' := 0) lX6_153 kX6_isLesson (mX6_isLesson hM0 (by omega) (by omega)) dX6_uncover_7 rfl rfl rfl rfl rfl rfl rfl rfl ?_
  refine g_if_ne (tgt := 19) dX6_uncover_10 (by decide) (fun c10 => ?_) (fun c10 => ?_)
  · have q10 := xb_n0 c10
    refine g_aload_n dX6_uncover_19 rfl ?_
    refine g_iload_n dX6_uncover_20 rfl ?_
    refine g_top (y := nI a.toNat) (iI_get (by omega) (by omega)) ?_
    refine f1_V (u' := 0) lX6_84 kX6_state (mX6_state hM0 hI (by omega)) dX6_uncover_21 rfl rfl rfl rfl rfl rfl rfl rfl ?_
    have hr := s_st_r A a.toNat
    refine g_iconst (v := 1) dX6_uncover_24 (by decide) ?_
    refine g_icmp_eq (tgt := 34) dX6_uncover_25 (by decide) (fun c25 => ?_) (fun c25 => ?_)
    · rw [show (1 : Int32) = iI 1 by decide, iI_eq (by omega) (by omega) (by omega) (by omega)] at c25
      obtain ⟨n13, n14⟩ := st1_13 hJ (show a.toNat < A.2.1 by omega) c25
      refine g_aload_n dX6_uncover_34 rfl ?_
      refine q_V (u' := 0) lX6_68 kX6_changes (mX6_changes hM0 (by omega) (by omega) hK0) dX6_uncover_35 rfl rfl rfl rfl rfl rfl rfl rfl (fun v h35 hq => ?_) (fun _ _ q => q.elim)
      obtain ⟨rfl, hK1, hFc⟩ := hq
      have hM1 := rM_c9 hM0 hFc (Or.inl rfl)
      have hF1 := x_fT_c hFc
      dsimp only [Option.toList, List.cons_append, List.nil_append]
      refine g_aload_n dX6_uncover_38 rfl ?_
      refine g_iload_n dX6_uncover_39 rfl ?_
      refine g_top (y := nI a.toNat) (iI_get (by omega) (by omega)) ?_
      refine g_iconst (v := 5) dX6_uncover_40 (by decide) ?_
      refine f1_V (u' := 0) lX6_78 kX6_of (mX6_of (f := 13) hM1 (by omega) rfl (by omega)) dX6_uncover_41 rfl rfl rfl rfl rfl rfl rfl rfl ?_
      refine g_top (y := iI (s_act A a.toNat)) (congrArg iI (act_1 c25).symm) ?_
      refine s_i (i := 2) dX6_uncover_44 rfl rfl rfl rfl ?_
      dsimp only [List.set]
      refine g_aload_n dX6_uncover_45 rfl ?_
      refine g_iload_n dX6_uncover_46 rfl ?_
      refine g_top (y := nI a.toNat) (iI_get (by omega) (by omega)) ?_
      refine q_V (u' := 0) lX6_104 kX6_endsCover (mX6_endsCover hM1 hI (HO_of hJ) (H3_of hJ) (by omega) (by omega) n13) dX6_uncover_47 rfl rfl rfl rfl rfl rfl rfl rfl (fun v h47 hq => ?_) (fun _ _ q => q.elim)
      obtain ⟨rfl, hM2, hF2⟩ := hq
      rw [unc_eq hJ n14] at hM2
      dsimp only [Option.toList, List.cons_append, List.nil_append]
      refine g_pop dX6_uncover_50 rfl ?_
      refine g_iload_n dX6_uncover_51 rfl ?_
      refine g_ireturn dX6_uncover_52 rfl rfl (by decide) ?_
      exact q6_ok (by unfold k_uncover; (repeat' split) <;> first | rfl | omega | contradiction) hM2 (rK_m hK1 hF2) (x_fT_tr hF1 (x_fT_m hF2))
    · rw [show (1 : Int32) = iI 1 by decide, iI_eq (by omega) (by omega) (by omega) (by omega)] at c25
      refine g_aload_n dX6_uncover_28 rfl ?_
      refine g_iconst (v := 2) dX6_uncover_29 (by decide) ?_
      refine f1_V (u' := 0) lX6_107 kX6_raises (mX6_raises) dX6_uncover_30 rfl rfl rfl rfl rfl rfl rfl rfl ?_
      refine g_ireturn dX6_uncover_33 rfl rfl (by decide) ?_
      exact q6_no (c := 2) (by unfold k_uncover; (repeat' split) <;> first | rfl | omega | contradiction) (by decide) hM0 hK0 hF0
  · have q10 := xb_0.mp c10
    refine g_aload_n dX6_uncover_13 rfl ?_
    refine g_iconst (v := 1) dX6_uncover_14 (by decide) ?_
    refine f1_V (u' := 0) lX6_107 kX6_raises (mX6_raises) dX6_uncover_15 rfl rfl rfl rfl rfl rfl rfl rfl ?_
    refine g_ireturn dX6_uncover_18 rfl rfl (by decide) ?_
    exact q6_no (c := 1) (by unfold k_uncover; (repeat' split) <;> first | rfl | omega | contradiction) (by decide) hM0 hK0 hF0
set_option maxRecDepth 100000 in
theorem mX6_split {l : Launch} {G : ux_G} {h : ux_H} {a b c : Int} {Hs : List Ab} {A : Ab} {P : Nat} (hM : rM 193 0 A h) (hK : rK Hs h) (hI : Inv P A) (hJ : InvF A) (hP : P + 3000 ≤ 10000000) (ra : -2147483648 ≤ a ∧ a ≤ 2147483647) (rb : -2147483648 ≤ b ∧ b ≤ 2147483647) (rc : -2147483648 ≤ c ∧ c ≤ 2147483647) : ux_M l G yX6_split iX6_split 8 0 [.ref 192, .int (iI a), .int (iI b), .int (iI c)] h (Q6 (k_split A a b c) (iI ((s_sz A a.toNat + 1) / 2)) A (s_split A a.toNat b.toNat c.toNat) Hs h) (fun _ _ => False) := by
  refine ux_ent (L' := [some (.ref 192), some (.int (iI a)), some (.int (iI b)), some (.int (iI c)), none]) kX6_split rfl rfl rfl rfl ?_
  obtain ⟨i1, i2, i3, i4, i5, i6⟩ := id hI
  refine g_aload_n dX6_split_0 rfl ?_
  refine g_iconst (v := 0) dX6_split_1 (by decide) ?_
  refine g_puti pX6_44 dX6_split_2 rfl rfl ?_
  have hM0 := rM_0t (j := 0) (x := 0) (Or.inl rfl) hM
  have hK0 := rK_0t (j := 0) (x := 0) (by decide) hK
  have hF0 := x_fN_0 h 0
  refine g_aload_n dX6_split_5 rfl ?_
  refine g_iload_n dX6_split_6 rfl ?_
  refine f1_V (u' := 0) lX6_153 kX6_isLesson (mX6_isLesson hM0 (by omega) (by omega)) dX6_split_7 rfl rfl rfl rfl rfl rfl rfl rfl ?_
  refine g_if_eq (tgt := 29) dX6_split_10 (by decide) (fun c10 => ?_) (fun c10 => ?_)
  · have q10 := xb_0.mp c10
    refine g_aload_n dX6_split_29 rfl ?_
    refine g_iconst (v := 1) dX6_split_30 (by decide) ?_
    refine f1_V (u' := 0) lX6_107 kX6_raises (mX6_raises) dX6_split_31 rfl rfl rfl rfl rfl rfl rfl rfl ?_
    refine g_ireturn dX6_split_34 rfl rfl (by decide) ?_
    exact q6_no (c := 1) (by unfold k_split; (repeat' split) <;> first | rfl | omega | contradiction) (by decide) hM0 hK0 hF0
  · have q10 := xb_n0 c10
    refine g_aload_n dX6_split_13 rfl ?_
    refine g_iload_n dX6_split_14 rfl ?_
    refine f1_V (u' := 0) lX6_153 kX6_isLesson (mX6_isLesson hM0 (by omega) (by omega)) dX6_split_15 rfl rfl rfl rfl rfl rfl rfl rfl ?_
    refine g_if_eq (tgt := 29) dX6_split_18 (by decide) (fun c18 => ?_) (fun c18 => ?_)
    · have q18 := xb_0.mp c18
      refine g_aload_n dX6_split_29 rfl ?_
      refine g_iconst (v := 1) dX6_split_30 (by decide) ?_
      refine f1_V (u' := 0) lX6_107 kX6_raises (mX6_raises) dX6_split_31 rfl rfl rfl rfl rfl rfl rfl rfl ?_
      refine g_ireturn dX6_split_34 rfl rfl (by decide) ?_
      exact q6_no (c := 1) (by unfold k_split; (repeat' split) <;> first | rfl | omega | contradiction) (by decide) hM0 hK0 hF0
    · have q18 := xb_n0 c18
      refine g_aload_n dX6_split_21 rfl ?_
      refine g_iload_n dX6_split_22 rfl ?_
      refine f1_V (u' := 0) lX6_153 kX6_isLesson (mX6_isLesson hM0 (by omega) (by omega)) dX6_split_23 rfl rfl rfl rfl rfl rfl rfl rfl ?_
      refine g_if_ne (tgt := 35) dX6_split_26 (by decide) (fun c26 => ?_) (fun c26 => ?_)
      · have q26 := xb_n0 c26
        refine g_aload_n dX6_split_35 rfl ?_
        refine g_iload_n dX6_split_36 rfl ?_
        refine g_top (y := nI a.toNat) (iI_get (by omega) (by omega)) ?_
        refine f1_V (u' := 0) lX6_84 kX6_state (mX6_state hM0 hI (by omega)) dX6_split_37 rfl rfl rfl rfl rfl rfl rfl rfl ?_
        have hr := s_st_r A a.toNat
        have la := i6 a.toNat (by omega)
        have lb := i6 b.toNat (by omega)
        have lc := i6 c.toNat (by omega)
        have sz := s_sz_r hI (i := a.toNat) (by omega)
        refine g_iconst (v := 3) dX6_split_40 (by decide) ?_
        refine g_icmp_eq (tgt := 50) dX6_split_41 (by decide) (fun c41 => ?_) (fun c41 => ?_)
        · rw [show (3 : Int32) = iI 3 by decide, iI_eq (by omega) (by omega) (by omega) (by omega)] at c41
          refine g_iload_n dX6_split_50 rfl ?_
          refine g_iload_n dX6_split_51 rfl ?_
          refine g_icmp_eq (tgt := 85) dX6_split_52 (by decide) (fun c52 => ?_) (fun c52 => ?_)
          · rw [iI_eq (by omega) (by omega) (by omega) (by omega)] at c52
            refine g_aload_n dX6_split_85 rfl ?_
            refine g_iconst (v := 3) dX6_split_86 (by decide) ?_
            refine f1_V (u' := 0) lX6_107 kX6_raises (mX6_raises) dX6_split_87 rfl rfl rfl rfl rfl rfl rfl rfl ?_
            refine g_ireturn dX6_split_90 rfl rfl (by decide) ?_
            exact q6_no (c := 3) (by unfold k_split; rw [if_neg (by omega), if_neg (by omega), if_pos (by omega)]) (by decide) hM0 hK0 hF0
          · rw [iI_eq (by omega) (by omega) (by omega) (by omega)] at c52
            refine g_aload_n dX6_split_55 rfl ?_
            refine g_iload_n dX6_split_56 rfl ?_
            refine g_top (y := nI b.toNat) (iI_get (by omega) (by omega)) ?_
            refine g_iconst (v := 0) dX6_split_57 (by decide) ?_
            refine f1_V (u' := 0) lX6_78 kX6_of (mX6_of (f := 8) hM0 (by omega) rfl (by omega)) dX6_split_58 rfl rfl rfl rfl rfl rfl rfl rfl ?_
            refine g_aload_n dX6_split_61 rfl ?_
            refine g_iload_n dX6_split_62 rfl ?_
            refine g_top (y := nI a.toNat) (iI_get (by omega) (by omega)) ?_
            refine g_iconst (v := 0) dX6_split_63 (by decide) ?_
            refine f1_V (u' := 0) lX6_78 kX6_of (mX6_of (f := 8) hM0 (by omega) rfl (by omega)) dX6_split_64 rfl rfl rfl rfl rfl rfl rfl rfl ?_
            refine g_icmp_ne (tgt := 85) dX6_split_67 (by decide) (fun c67 => ?_) (fun c67 => ?_)
            · rw [iI_eq (by omega) (by omega) (by omega) (by omega)] at c67
              refine g_aload_n dX6_split_85 rfl ?_
              refine g_iconst (v := 3) dX6_split_86 (by decide) ?_
              refine f1_V (u' := 0) lX6_107 kX6_raises (mX6_raises) dX6_split_87 rfl rfl rfl rfl rfl rfl rfl rfl ?_
              refine g_ireturn dX6_split_90 rfl rfl (by decide) ?_
              exact q6_no (c := 3) (by unfold k_split; rw [if_neg (by omega), if_neg (by omega), if_pos (by omega)]) (by decide) hM0 hK0 hF0
            · rw [iI_eq (by omega) (by omega) (by omega) (by omega)] at c67
              refine g_aload_n dX6_split_70 rfl ?_
              refine g_iload_n dX6_split_71 rfl ?_
              refine g_top (y := nI c.toNat) (iI_get (by omega) (by omega)) ?_
              refine g_iconst (v := 0) dX6_split_72 (by decide) ?_
              refine f1_V (u' := 0) lX6_78 kX6_of (mX6_of (f := 8) hM0 (by omega) rfl (by omega)) dX6_split_73 rfl rfl rfl rfl rfl rfl rfl rfl ?_
              refine g_aload_n dX6_split_76 rfl ?_
              refine g_iload_n dX6_split_77 rfl ?_
              refine g_top (y := nI a.toNat) (iI_get (by omega) (by omega)) ?_
              refine g_iconst (v := 0) dX6_split_78 (by decide) ?_
              refine f1_V (u' := 0) lX6_78 kX6_of (mX6_of (f := 8) hM0 (by omega) rfl (by omega)) dX6_split_79 rfl rfl rfl rfl rfl rfl rfl rfl ?_
              refine g_icmp_eq (tgt := 91) dX6_split_82 (by decide) (fun c82 => ?_) (fun c82 => ?_)
              · rw [iI_eq (by omega) (by omega) (by omega) (by omega)] at c82
                refine g_aload_n dX6_split_91 rfl ?_
                refine g_getr (q := 193) fX6_9 dX6_split_92 rfl rfl rfl ?_
                refine g_iconst (v := 4) dX6_split_95 (by decide) ?_
                refine g_aload_n dX6_split_96 rfl ?_
                refine g_iload_n dX6_split_97 rfl ?_
                refine g_top (y := nI a.toNat) (iI_get (by omega) (by omega)) ?_
                refine g_iconst (v := 1) dX6_split_98 (by decide) ?_
                refine f1_V (u' := 0) lX6_78 kX6_of (mX6_of (f := 9) hM0 (by omega) rfl (by omega)) dX6_split_99 rfl rfl rfl rfl rfl rfl rfl rfl ?_
                refine g_iadd dX6_split_102 ?_
                refine g_top (z_ix (by omega) (by omega)) ?_
                refine g_iald dX6_split_103 rfl (show 4 + _ < 376 by omega) rfl ?_
                refine g_top (y := iI (s_sz A a.toNat)) (rM_z hM0 (by omega)) ?_
                refine s_iw dX6_split_104 rfl rfl rfl ?_
                dsimp only [List.set]
                refine g_aload_n dX6_split_106 rfl ?_
                refine g_iload_n dX6_split_107 rfl ?_
                refine g_top (y := nI b.toNat) (iI_get (by omega) (by omega)) ?_
                refine g_iload dX6_split_108 rfl ?_
                refine g_iconst (v := 1) dX6_split_110 (by decide) ?_
                refine g_iadd dX6_split_111 ?_
                refine g_iconst (v := 2) dX6_split_112 (by decide) ?_
                refine g_idiv dX6_split_113 (by decide) ?_
                refine g_top (m_up (by omega) (by omega)) ?_
                refine f1_V (u' := 0) lX6_197 kX6_canHost (mX6_canHost hM0 hI (by omega) (by omega)) dX6_split_114 rfl rfl rfl rfl rfl rfl rfl rfl ?_
                refine g_if_eq (tgt := 132) dX6_split_117 (by decide) (fun c117 => ?_) (fun c117 => ?_)
                · have q117 : ¬ s_host A b.toNat ((s_sz A a.toNat + 1) / 2) = true := fun y => xb_0.mp c117 (of_decide_eq_true y)
                  refine g_aload_n dX6_split_132 rfl ?_
                  refine g_iconst (v := 4) dX6_split_133 (by decide) ?_
                  refine f1_V (u' := 0) lX6_107 kX6_raises (mX6_raises) dX6_split_134 rfl rfl rfl rfl rfl rfl rfl rfl ?_
                  refine g_ireturn dX6_split_137 rfl rfl (by decide) ?_
                  exact q6_no (c := 4) (by unfold k_split; rw [if_neg (by omega), if_neg (by omega), if_neg (by omega), if_pos (by first | exact Or.inl q117 | exact Or.inr q129)]) (by decide) hM0 hK0 hF0
                · have q117 : s_host A b.toNat ((s_sz A a.toNat + 1) / 2) = true := decide_eq_true (xb_n0 c117)
                  refine g_aload_n dX6_split_120 rfl ?_
                  refine g_iload_n dX6_split_121 rfl ?_
                  refine g_top (y := nI c.toNat) (iI_get (by omega) (by omega)) ?_
                  refine g_iload dX6_split_122 rfl ?_
                  refine g_iconst (v := 2) dX6_split_124 (by decide) ?_
                  refine g_idiv dX6_split_125 (by decide) ?_
                  refine g_top (m_dn (by omega) (by omega)) ?_
                  refine f1_V (u' := 0) lX6_197 kX6_canHost (mX6_canHost hM0 hI (by omega) (by omega)) dX6_split_126 rfl rfl rfl rfl rfl rfl rfl rfl ?_
                  refine g_if_ne (tgt := 138) dX6_split_129 (by decide) (fun c129 => ?_) (fun c129 => ?_)
                  · have q129 : s_host A c.toNat (s_sz A a.toNat / 2) = true := decide_eq_true (xb_n0 c129)
                    refine g_aload_n dX6_split_138 rfl ?_
                    refine q_V (u' := 0) lX6_68 kX6_changes (mX6_changes hM0 (by omega) (by omega) hK0) dX6_split_139 rfl rfl rfl rfl rfl rfl rfl rfl (fun v h139 hq => ?_) (fun _ _ q => q.elim)
                    obtain ⟨rfl, hK1, hFc⟩ := hq
                    have hM1 := rM_c9 hM0 hFc (Or.inl rfl)
                    have hF1 := x_fT_c hFc
                    dsimp only [Option.toList, List.cons_append, List.nil_append]
                    refine g_aload_n dX6_split_142 rfl ?_
                    refine g_getr (q := 193) fX6_9 dX6_split_143 rfl rfl rfl ?_
                    refine g_iload_n dX6_split_146 rfl ?_
                    refine g_top (y := nI a.toNat) (iI_get (by omega) (by omega)) ?_
                    refine f1_S (u' := 0) lX6_47 kX6_lessonAt (mX6_lessonAt) dX6_split_147 rfl rfl rfl rfl rfl rfl ?_
                    refine g_bipush (v := 6) dX6_split_150 (by decide) ?_
                    refine g_iadd dX6_split_152 ?_
                    refine g_top (y := nI ((56 + 8 * a.toNat) + 6)) (by rw [show (6 : Int32) = nI 6 by decide, nI_add]) ?_
                    refine g_iload_n dX6_split_153 rfl ?_
                    refine g_iast dX6_split_154 rfl (show 56 + 8 * a.toNat + 6 < 376 by omega) rfl ?_
                    refine g_aload_n dX6_split_155 rfl ?_
                    refine g_getr (q := 193) fX6_9 dX6_split_156 rfl rfl rfl ?_
                    refine g_iload_n dX6_split_159 rfl ?_
                    refine g_top (y := nI a.toNat) (iI_get (by omega) (by omega)) ?_
                    refine f1_S (u' := 0) lX6_47 kX6_lessonAt (mX6_lessonAt) dX6_split_160 rfl rfl rfl rfl rfl rfl ?_
                    refine g_bipush (v := 7) dX6_split_163 (by decide) ?_
                    refine g_iadd dX6_split_165 ?_
                    refine g_top (y := nI ((56 + 8 * a.toNat) + 7)) (by rw [show (7 : Int32) = nI 7 by decide, nI_add]) ?_
                    refine g_iload_n dX6_split_166 rfl ?_
                    refine g_iast dX6_split_167 rfl (show 56 + 8 * a.toNat + 7 < 376 by omega) rfl ?_
                    have hM2 := rM_aU (f := 15) (v := (c.toNat : Int)) (x := iI c) (rM_aU (f := 14) (v := (b.toNat : Int)) (x := iI b) hM1 i1 i2 (in_l rfl (show a.toNat < A.2.1 by omega)) (by rw [Int.toNat_of_nonneg (by omega)])) i1 i2 (in_l rfl (show a.toNat < A.2.1 by omega)) (by rw [Int.toNat_of_nonneg (by omega)])
                    have hI2 : Inv P (aU (aU A 14 a.toNat (b.toNat : Int)) 15 a.toNat (c.toNat : Int)) := Inv_14 (Inv_14 hI (Or.inl rfl) (by omega)) (Or.inr rfl) ⟨by omega, by show (c.toNat : Int) < (A.2.1 : Int); omega⟩
                    refine g_aload_n dX6_split_168 rfl ?_
                    refine g_aload_n dX6_split_169 rfl ?_
                    refine g_iload_n dX6_split_170 rfl ?_
                    refine g_top (y := nI b.toNat) (iI_get (by omega) (by omega)) ?_
                    refine f1_V (u' := 0) lX6_87 kX6_acting (mX6_acting hM2 hI2 (show b.toNat < A.2.1 by omega)) dX6_split_171 rfl rfl rfl rfl rfl rfl rfl rfl ?_
                    have ra9 := s_act_r hI (i := b.toNat) (by omega)
                    have na9 := s_host_a q117
                    refine g_top (y := nI (s_act A b.toNat).toNat) ((congrArg iI ((s_act_ne (by decide) _).trans (s_act_ne (by decide) _))).trans (iI_get (by omega) (by omega))) ?_
                    refine g_iconst (v := 1) dX6_split_174 (by decide) ?_
                    refine q_V (u' := 0) lX6_90 kX6_gains (mX6_gains (p := 1) hM2 i1 i2 (show (s_act A b.toNat).toNat < A.1 by omega)) dX6_split_175 rfl rfl rfl rfl rfl rfl rfl rfl (fun v h175 hq => ?_) (fun _ _ q => q.elim)
                    obtain ⟨rfl, hM3, hF3⟩ := hq
                    have hI3 : Inv (P + 1) (s_add (aU (aU A 14 a.toNat (b.toNat : Int)) 15 a.toNat (c.toNat : Int)) (s_act A b.toNat).toNat 1) := Inv_add (B := 1) hI2 (by decide) (by omega)
                    dsimp only [Option.toList, List.cons_append, List.nil_append]
                    refine g_aload_n dX6_split_178 rfl ?_
                    refine g_aload_n dX6_split_179 rfl ?_
                    refine g_iload_n dX6_split_180 rfl ?_
                    refine g_top (y := nI c.toNat) (iI_get (by omega) (by omega)) ?_
                    refine f1_V (u' := 0) lX6_87 kX6_acting (mX6_acting hM3 hI3 (show c.toNat < A.2.1 by omega)) dX6_split_181 rfl rfl rfl rfl rfl rfl rfl rfl ?_
                    have rb9 := s_act_r hI (i := c.toNat) (by omega)
                    have nb9 := s_host_a q129
                    refine g_top (y := nI (s_act A c.toNat).toNat) ((congrArg iI ((s_act_ne (by decide) _).trans ((s_act_ne (by decide) _).trans (s_act_ne (by decide) _)))).trans (iI_get (by omega) (by omega))) ?_
                    refine g_iconst (v := 1) dX6_split_184 (by decide) ?_
                    refine q_V (u' := 0) lX6_90 kX6_gains (mX6_gains (p := 1) hM3 i1 i2 (show (s_act A c.toNat).toNat < A.1 by omega)) dX6_split_185 rfl rfl rfl rfl rfl rfl rfl rfl (fun v h185 hq => ?_) (fun _ _ q => q.elim)
                    obtain ⟨rfl, hM4, hF4⟩ := hq
                    dsimp only [Option.toList, List.cons_append, List.nil_append]
                    refine g_iload dX6_split_188 rfl ?_
                    refine g_iconst (v := 1) dX6_split_190 (by decide) ?_
                    refine g_iadd dX6_split_191 ?_
                    refine g_iconst (v := 2) dX6_split_192 (by decide) ?_
                    refine g_idiv dX6_split_193 (by decide) ?_
                    refine g_top (m_up (by omega) (by omega)) ?_
                    refine g_ireturn dX6_split_194 rfl rfl (by decide) ?_
                    exact q6_ok (by unfold k_split; rw [if_neg (by omega), if_neg (by omega), if_neg (by omega), if_neg (by rintro (y | y); exact y q117; exact y q129)]) hM4 (rK_m hK1 (x_fm_tr (x_fm_si _ _ _) (x_fm_tr (x_fm_si _ _ _) (x_fm_tr hF3 hF4)))) (x_fT_tr hF1 (x_fT_m (x_fm_tr (x_fm_si _ _ _) (x_fm_tr (x_fm_si _ _ _) (x_fm_tr hF3 hF4)))))
                  · have q129 : ¬ s_host A c.toNat (s_sz A a.toNat / 2) = true := fun y => xb_0.mp c129 (of_decide_eq_true y)
                    refine g_aload_n dX6_split_132 rfl ?_
                    refine g_iconst (v := 4) dX6_split_133 (by decide) ?_
                    refine f1_V (u' := 0) lX6_107 kX6_raises (mX6_raises) dX6_split_134 rfl rfl rfl rfl rfl rfl rfl rfl ?_
                    refine g_ireturn dX6_split_137 rfl rfl (by decide) ?_
                    exact q6_no (c := 4) (by unfold k_split; rw [if_neg (by omega), if_neg (by omega), if_neg (by omega), if_pos (by first | exact Or.inl q117 | exact Or.inr q129)]) (by decide) hM0 hK0 hF0
              · rw [iI_eq (by omega) (by omega) (by omega) (by omega)] at c82
                refine g_aload_n dX6_split_85 rfl ?_
                refine g_iconst (v := 3) dX6_split_86 (by decide) ?_
                refine f1_V (u' := 0) lX6_107 kX6_raises (mX6_raises) dX6_split_87 rfl rfl rfl rfl rfl rfl rfl rfl ?_
                refine g_ireturn dX6_split_90 rfl rfl (by decide) ?_
                exact q6_no (c := 3) (by unfold k_split; rw [if_neg (by omega), if_neg (by omega), if_pos (by omega)]) (by decide) hM0 hK0 hF0
        · rw [show (3 : Int32) = iI 3 by decide, iI_eq (by omega) (by omega) (by omega) (by omega)] at c41
          refine g_aload_n dX6_split_44 rfl ?_
          refine g_iconst (v := 2) dX6_split_45 (by decide) ?_
          refine f1_V (u' := 0) lX6_107 kX6_raises (mX6_raises) dX6_split_46 rfl rfl rfl rfl rfl rfl rfl rfl ?_
          refine g_ireturn dX6_split_49 rfl rfl (by decide) ?_
          exact q6_no (c := 2) (by unfold k_split; (repeat' split) <;> first | rfl | omega | contradiction) (by decide) hM0 hK0 hF0
      · have q26 := xb_0.mp c26
        refine g_aload_n dX6_split_29 rfl ?_
        refine g_iconst (v := 1) dX6_split_30 (by decide) ?_
        refine f1_V (u' := 0) lX6_107 kX6_raises (mX6_raises) dX6_split_31 rfl rfl rfl rfl rfl rfl rfl rfl ?_
        refine g_ireturn dX6_split_34 rfl rfl (by decide) ?_
        exact q6_no (c := 1) (by unfold k_split; (repeat' split) <;> first | rfl | omega | contradiction) (by decide) hM0 hK0 hF0
set_option maxRecDepth 100000 in
theorem mX6_unsplit {l : Launch} {G : ux_G} {h : ux_H} {a : Int} {Hs : List Ab} {A : Ab} {P : Nat} (hM : rM 193 0 A h) (hK : rK Hs h) (hI : Inv P A) (hJ : InvF A) (hP : P + 3000 ≤ 10000000) (ra : -2147483648 ≤ a ∧ a ≤ 2147483647) : ux_M l G yX6_unsplit iX6_unsplit 9 0 [.ref 192, .int (iI a)] h (Q6 (k_unsplit A a) (iI (s_sz A a.toNat)) A (s_ends A a.toNat) Hs h) (fun _ _ => False) := by
  refine ux_ent (L' := [some (.ref 192), some (.int (iI a))]) kX6_unsplit rfl rfl rfl rfl ?_
  obtain ⟨i1, i2, i3, i4, i5, i6⟩ := id hI
  refine g_aload_n dX6_unsplit_0 rfl ?_
  refine g_iconst (v := 0) dX6_unsplit_1 (by decide) ?_
  refine g_puti pX6_44 dX6_unsplit_2 rfl rfl ?_
  have hM0 := rM_0t (j := 0) (x := 0) (Or.inl rfl) hM
  have hK0 := rK_0t (j := 0) (x := 0) (by decide) hK
  have hF0 := x_fN_0 h 0
  refine g_aload_n dX6_unsplit_5 rfl ?_
  refine g_iload_n dX6_unsplit_6 rfl ?_
  refine f1_V (u' := 0) lX6_153 kX6_isLesson (mX6_isLesson hM0 (by omega) (by omega)) dX6_unsplit_7 rfl rfl rfl rfl rfl rfl rfl rfl ?_
  refine g_if_ne (tgt := 19) dX6_unsplit_10 (by decide) (fun c10 => ?_) (fun c10 => ?_)
  · have q10 := xb_n0 c10
    refine g_aload_n dX6_unsplit_19 rfl ?_
    refine g_iload_n dX6_unsplit_20 rfl ?_
    refine g_top (y := nI a.toNat) (iI_get (by omega) (by omega)) ?_
    refine f1_V (u' := 0) lX6_84 kX6_state (mX6_state hM0 hI (by omega)) dX6_unsplit_21 rfl rfl rfl rfl rfl rfl rfl rfl ?_
    have hr := s_st_r A a.toNat
    have la := i6 a.toNat (by omega)
    refine g_iconst (v := 2) dX6_unsplit_24 (by decide) ?_
    refine g_icmp_eq (tgt := 34) dX6_unsplit_25 (by decide) (fun c25 => ?_) (fun c25 => ?_)
    · rw [show (2 : Int32) = iI 2 by decide, iI_eq (by omega) (by omega) (by omega) (by omega)] at c25
      have n14 := (s_st2 hJ (show a.toNat < A.2.1 by omega)).mp c25
      refine g_aload_n dX6_unsplit_34 rfl ?_
      refine q_V (u' := 0) lX6_68 kX6_changes (mX6_changes hM0 (by omega) (by omega) hK0) dX6_unsplit_35 rfl rfl rfl rfl rfl rfl rfl rfl (fun v h35 hq => ?_) (fun _ _ q => q.elim)
      obtain ⟨rfl, hK1, hFc⟩ := hq
      have hM1 := rM_c9 hM0 hFc (Or.inl rfl)
      have hF1 := x_fT_c hFc
      dsimp only [Option.toList, List.cons_append, List.nil_append]
      refine g_aload_n dX6_unsplit_38 rfl ?_
      refine g_iload_n dX6_unsplit_39 rfl ?_
      refine g_top (y := nI a.toNat) (iI_get (by omega) (by omega)) ?_
      refine q_V (u' := 0) lX6_94 kX6_endsSplit (mX6_endsSplit hM1 hI (HO_of hJ) (by omega) (by omega) n14) dX6_unsplit_40 rfl rfl rfl rfl rfl rfl rfl rfl (fun v h40 hq => ?_) (fun _ _ q => q.elim)
      obtain ⟨rfl, hM2, hF2⟩ := hq
      dsimp only [Option.toList, List.cons_append, List.nil_append]
      refine g_aload_n dX6_unsplit_43 rfl ?_
      refine g_getr (q := 193) fX6_9 dX6_unsplit_44 rfl rfl rfl ?_
      refine g_iconst (v := 4) dX6_unsplit_47 (by decide) ?_
      refine g_aload_n dX6_unsplit_48 rfl ?_
      refine g_iload_n dX6_unsplit_49 rfl ?_
      refine g_top (y := nI a.toNat) (iI_get (by omega) (by omega)) ?_
      refine g_iconst (v := 1) dX6_unsplit_50 (by decide) ?_
      refine f1_V (u' := 0) lX6_78 kX6_of (mX6_of (f := 9) hM2 (show A.2.1 ≤ 40 from i2) rfl (show a.toNat < A.2.1 by omega)) dX6_unsplit_51 rfl rfl rfl rfl rfl rfl rfl rfl ?_
      refine g_top (y := iI (aF A 9 a.toNat)) (by rw [s_ends_aF _ _ 9 _ (by decide), if_neg (by omega)]) ?_
      refine g_iadd dX6_unsplit_54 ?_
      refine g_top (z_ix (by omega) (by omega)) ?_
      refine g_iald dX6_unsplit_55 rfl (show 4 + _ < 376 by omega) rfl ?_
      refine g_top (y := iI (s_sz A a.toNat)) (by rw [rM_z hM2 (by omega), s_ends_aF _ _ 6 _ (by decide), if_neg (by omega)]; rfl) ?_
      refine g_ireturn dX6_unsplit_56 rfl rfl (by decide) ?_
      exact q6_ok (by unfold k_unsplit; (repeat' split) <;> first | rfl | omega | contradiction) hM2 (rK_m hK1 hF2) (x_fT_tr hF1 (x_fT_m hF2))
    · rw [show (2 : Int32) = iI 2 by decide, iI_eq (by omega) (by omega) (by omega) (by omega)] at c25
      refine g_aload_n dX6_unsplit_28 rfl ?_
      refine g_iconst (v := 2) dX6_unsplit_29 (by decide) ?_
      refine f1_V (u' := 0) lX6_107 kX6_raises (mX6_raises) dX6_unsplit_30 rfl rfl rfl rfl rfl rfl rfl rfl ?_
      refine g_ireturn dX6_unsplit_33 rfl rfl (by decide) ?_
      exact q6_no (c := 2) (by unfold k_unsplit; (repeat' split) <;> first | rfl | omega | contradiction) (by decide) hM0 hK0 hF0
  · have q10 := xb_0.mp c10
    refine g_aload_n dX6_unsplit_13 rfl ?_
    refine g_iconst (v := 1) dX6_unsplit_14 (by decide) ?_
    refine f1_V (u' := 0) lX6_107 kX6_raises (mX6_raises) dX6_unsplit_15 rfl rfl rfl rfl rfl rfl rfl rfl ?_
    refine g_ireturn dX6_unsplit_18 rfl rfl (by decide) ?_
    exact q6_no (c := 1) (by unfold k_unsplit; (repeat' split) <;> first | rfl | omega | contradiction) (by decide) hM0 hK0 hF0
