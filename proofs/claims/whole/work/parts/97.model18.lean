/-! THE REFERENCE: calls that change nothing. -/
theorem qr_g {K : Nat} {x R : Int32} {A : Ab} {Hs : List Ab} {h h1 : ux_H} (hk : K = 0) (e : x = R) (hM : rM 193 0 A h1) (hK : rK Hs h1) (hF : x_fN h h1) (h0 : xgi h1 192 0 = 0) : QR K R A Hs h (some (.int x)) h1 := by
  subst hk; subst e
  exact ⟨by rw [if_pos rfl], h0, hM, hK, hF⟩
theorem qr_n {K c : Nat} {R : Int32} {A : Ab} {Hs : List Ab} {h h1 : ux_H} (hk : K = c) (hc : c ≠ 0) (hM : rM 193 0 A h1) (hK : rK Hs h1) (hF : x_fN h h1) : QR K R A Hs h (some (.int 0)) (xsi h1 192 0 (nI c)) := by
  subst hk
  exact ⟨by rw [if_neg hc], xgi_si _ _ _ _, rM_0t (Or.inl rfl) hM, rK_0t (by decide) hK, x_fN_tr hF (x_fN_0 _ _)⟩
theorem qr_k {K : Nat} {x R : Int32} {A : Ab} {Hs : List Ab} {h : ux_H} (hk : K = 0) (e : x = R) (hM : rM 193 0 A (xsi h 192 0 0)) (hK : rK Hs (xsi h 192 0 0)) : QR K R A Hs h (some (.int x)) (xsi h 192 0 0) := qr_g hk e hM hK (x_fN_0 _ _) (xgi_si _ _ _ _)
theorem opat_in {L : List Nat} {b : Int} : s_opat L b = -1 ↔ ¬ (0 ≤ b ∧ b < L.length) := by
  unfold s_opat
  by_cases q : 0 ≤ b
  · rw [if_pos q]
    by_cases q2 : b < L.length
    · rw [List.getElem?_eq_getElem (show b.toNat < L.length by omega)]
      unfold s_oi
      dsimp only
      omega
    · rw [List.getElem?_eq_none (by omega)]
      unfold s_oi
      dsimp only
      omega
  · rw [if_neg q]; omega
theorem opat_at {L : List Nat} {b : Int} (q : 0 ≤ b ∧ b < L.length) : ∃ i, L[b.toNat]? = some i ∧ s_opat L b = i := by
  refine ⟨_, List.getElem?_eq_getElem (show b.toNat < L.length by omega), ?_⟩
  unfold s_opat
  rw [if_pos q.1, List.getElem?_eq_getElem (show b.toNat < L.length by omega)]
  rfl
set_option maxRecDepth 100000 in
theorem mX6_lesson {l : Launch} {G : ux_G} {h : ux_H} {a w : Int} (ra : -2147483648 ≤ a ∧ a ≤ 2147483647) (rw : -2147483648 ≤ w ∧ w ≤ 2147483647) {Hs : List Ab} {A : Ab} {P : Nat} (hM : rM 193 0 A h) (hK : rK Hs h) (hI : Inv P A) (hJ : InvF A) : ux_M l G yX6_lesson iX6_lesson 6 0 [.ref 192, .int (iI a), .int (iI w)] h (QR (k_lesson A a w) (iI (r_lesson A a.toNat w)) A Hs h) (fun _ _ => False) := by
  refine ux_ent (L' := [some (.ref 192), some (.int (iI a)), some (.int (iI w))]) kX6_lesson rfl rfl rfl rfl ?_
  obtain ⟨i1, i2, i3, i4, i5, i6⟩ := id hI
  refine g_aload_n dX6_lesson_0 rfl ?_
  refine g_iconst (v := 0) dX6_lesson_1 (by decide) ?_
  refine g_puti pX6_44 dX6_lesson_2 rfl rfl ?_
  have hM0 := rM_0t (j := 0) (x := 0) (Or.inl rfl) hM
  have hK0 := rK_0t (j := 0) (x := 0) (by decide) hK
  have hF0 := x_fN_0 h 0
  refine g_aload_n dX6_lesson_5 rfl ?_
  refine g_iload_n dX6_lesson_6 rfl ?_
  refine f1_V (u' := 0) lX6_153 kX6_isLesson (mX6_isLesson hM0 (by omega) (by omega)) dX6_lesson_7 rfl rfl rfl rfl rfl rfl rfl rfl ?_
  refine g_if_ne (tgt := 19) dX6_lesson_10 (by decide) (fun c10 => ?_) (fun c10 => ?_)
  · have q10 := xb_n0 c10
    refine g_iload_n dX6_lesson_19 rfl ?_
    rcases Decidable.em (5 ≤ w ∧ w ≤ 7) with qsw | qsw
    · obtain qv | qv | qv : w = 5 ∨ w = 6 ∨ w = 7 := by omega
      · rw [qv]
        refine g_tableIn (off := 28) (tgt := 48) dX6_lesson_20 (by decide) (by decide) rfl (by decide) ?_
        refine g_aload_n dX6_lesson_48 rfl ?_
        refine g_iload_n dX6_lesson_49 rfl ?_
        refine g_top (y := nI a.toNat) (iI_get (by omega) (by omega)) ?_
        refine f1_V (u' := 0) lX6_84 kX6_state (mX6_state hM0 hI (by omega)) dX6_lesson_50 rfl rfl rfl rfl rfl rfl rfl rfl ?_
        refine g_ireturn dX6_lesson_53 rfl rfl (by decide) ?_
        exact qr_k (by unfold k_lesson; (repeat' split) <;> first | rfl | omega | contradiction) (rfl) hM0 hK0
      · rw [qv]
        refine g_tableIn (off := 34) (tgt := 54) dX6_lesson_20 (by decide) (by decide) rfl (by decide) ?_
        refine g_aload_n dX6_lesson_54 rfl ?_
        refine g_iload_n dX6_lesson_55 rfl ?_
        refine g_top (y := nI a.toNat) (iI_get (by omega) (by omega)) ?_
        refine f1_V (u' := 0) lX6_87 kX6_acting (mX6_acting hM0 hI (by omega)) dX6_lesson_56 rfl rfl rfl rfl rfl rfl rfl rfl ?_
        refine g_ireturn dX6_lesson_59 rfl rfl (by decide) ?_
        exact qr_k (by unfold k_lesson; (repeat' split) <;> first | rfl | omega | contradiction) (rfl) hM0 hK0
      · rw [qv]
        refine g_tableIn (off := 40) (tgt := 60) dX6_lesson_20 (by decide) (by decide) rfl (by decide) ?_
        refine g_aload_n dX6_lesson_60 rfl ?_
        refine g_iload_n dX6_lesson_61 rfl ?_
        refine g_top (y := nI a.toNat) (iI_get (by omega) (by omega)) ?_
        refine f1_V (u' := 0) lX6_126 kX6_load (mX6_load hM0 hI (by omega)) dX6_lesson_62 rfl rfl rfl rfl rfl rfl rfl rfl ?_
        refine g_ireturn dX6_lesson_65 rfl rfl (by decide) ?_
        exact qr_k (by unfold k_lesson; (repeat' split) <;> first | rfl | omega | contradiction) (rfl) hM0 hK0
    · refine g_tableOut (tgt := 66) dX6_lesson_20 (by rw [iI_t rw.1 rw.2]; omega) (by decide) ?_
      refine g_iload_n dX6_lesson_66 rfl ?_
      refine g_iconst (v := 0) dX6_lesson_67 (by decide) ?_
      refine g_iconst (v := 4) dX6_lesson_68 (by decide) ?_
      refine f1_S (u' := 0) lX6_58 kX6_in (mX6_in) dX6_lesson_69 rfl rfl rfl rfl rfl rfl ?_
      refine g_if_eq (tgt := 84) dX6_lesson_72 (by decide) (fun c72 => ?_) (fun c72 => ?_)
      · have q72 := (not_congr (x_rg (a := w) (lo := 0) (hi := 4) (by decide) (by decide) rw (by decide) (by decide))).mp (xb_0.mp c72)
        refine g_aload_n dX6_lesson_84 rfl ?_
        refine g_iconst (v := 2) dX6_lesson_85 (by decide) ?_
        refine f1_V (u' := 0) lX6_107 kX6_raises (mX6_raises) dX6_lesson_86 rfl rfl rfl rfl rfl rfl rfl rfl ?_
        refine g_ireturn dX6_lesson_89 rfl rfl (by decide) ?_
        first | exact qr_k (by unfold k_lesson; (repeat' split) <;> first | rfl | omega | contradiction) (by unfold r_lesson; rw [if_neg (by omega), if_neg (by omega), if_neg (by omega)]) hM0 hK0 | exact qr_n (c := 2) (by unfold k_lesson; (repeat' split) <;> first | rfl | omega | contradiction) (by decide) hM0 hK0 hF0
      · have q72 := (x_rg (a := w) (lo := 0) (hi := 4) (by decide) (by decide) rw (by decide) (by decide)).mp (xb_n0 c72)
        refine g_aload_n dX6_lesson_75 rfl ?_
        refine g_iload_n dX6_lesson_76 rfl ?_
        refine g_top (y := nI a.toNat) (iI_get (by omega) (by omega)) ?_
        refine g_iload_n dX6_lesson_77 rfl ?_
        refine g_top (y := nI (8 + w.toNat - 8)) (by rw [Nat.add_sub_cancel_left]; exact iI_get (by omega) (by omega)) ?_
        refine f1_V (u' := 0) lX6_78 kX6_of (mX6_of (f := 8 + w.toNat) hM0 (by omega) (by simp; omega) (by omega)) dX6_lesson_78 rfl rfl rfl rfl rfl rfl rfl rfl ?_
        refine g_goto (tgt := 89) dX6_lesson_81 (by decide) ?_
        refine g_ireturn dX6_lesson_89 rfl rfl (by decide) ?_
        first | exact qr_k (by unfold k_lesson; (repeat' split) <;> first | rfl | omega | contradiction) (by unfold r_lesson; rw [if_neg (by omega), if_neg (by omega), if_neg (by omega)]) hM0 hK0 | exact qr_n (c := 2) (by unfold k_lesson; (repeat' split) <;> first | rfl | omega | contradiction) (by decide) hM0 hK0 hF0
  · have q10 := xb_0.mp c10
    refine g_aload_n dX6_lesson_13 rfl ?_
    refine g_iconst (v := 1) dX6_lesson_14 (by decide) ?_
    refine f1_V (u' := 0) lX6_107 kX6_raises (mX6_raises) dX6_lesson_15 rfl rfl rfl rfl rfl rfl rfl rfl ?_
    refine g_ireturn dX6_lesson_18 rfl rfl (by decide) ?_
    exact qr_n (c := 1) (by unfold k_lesson; (repeat' split) <;> first | rfl | omega | contradiction) (by decide) hM0 hK0 hF0
set_option maxRecDepth 100000 in
theorem mX6_teacher {l : Launch} {G : ux_G} {h : ux_H} {a w : Int} (ra : -2147483648 ≤ a ∧ a ≤ 2147483647) (rw : -2147483648 ≤ w ∧ w ≤ 2147483647) {Hs : List Ab} {A : Ab} {P : Nat} (hM : rM 193 0 A h) (hK : rK Hs h) (hI : Inv P A) (hJ : InvF A) : ux_M l G yX6_teacher iX6_teacher 7 0 [.ref 192, .int (iI a), .int (iI w)] h (QR (k_teacher A a w) (iI (r_teacher A a.toNat w)) A Hs h) (fun _ _ => False) := by
  refine ux_ent (L' := [some (.ref 192), some (.int (iI a)), some (.int (iI w))]) kX6_teacher rfl rfl rfl rfl ?_
  obtain ⟨i1, i2, i3, i4, i5, i6⟩ := id hI
  refine g_aload_n dX6_teacher_0 rfl ?_
  refine g_iconst (v := 0) dX6_teacher_1 (by decide) ?_
  refine g_puti pX6_44 dX6_teacher_2 rfl rfl ?_
  have hM0 := rM_0t (j := 0) (x := 0) (Or.inl rfl) hM
  have hK0 := rK_0t (j := 0) (x := 0) (by decide) hK
  have hF0 := x_fN_0 h 0
  refine g_aload_n dX6_teacher_5 rfl ?_
  refine g_iload_n dX6_teacher_6 rfl ?_
  refine f1_V (u' := 0) lX6_119 kX6_isTeacher (mX6_isTeacher hM0 (by omega) (by omega)) dX6_teacher_7 rfl rfl rfl rfl rfl rfl rfl rfl ?_
  refine g_if_ne (tgt := 19) dX6_teacher_10 (by decide) (fun c10 => ?_) (fun c10 => ?_)
  · have q10 := xb_n0 c10
    refine g_iload_n dX6_teacher_19 rfl ?_
    refine g_iconst (v := 0) dX6_teacher_20 (by decide) ?_
    refine g_bipush (v := 7) dX6_teacher_21 (by decide) ?_
    refine f1_S (u' := 0) lX6_58 kX6_in (mX6_in) dX6_teacher_23 rfl rfl rfl rfl rfl rfl ?_
    refine g_if_ne (tgt := 35) dX6_teacher_26 (by decide) (fun c26 => ?_) (fun c26 => ?_)
    · have q26 := (x_rg (a := w) (lo := 0) (hi := 7) (by decide) (by decide) rw (by decide) (by decide)).mp (xb_n0 c26)
      have tl := i4 a.toNat (by omega)
      refine g_iload_n dX6_teacher_35 rfl ?_
      refine g_iconst (v := 3) dX6_teacher_36 (by decide) ?_
      refine g_icmp_ge (tgt := 47) dX6_teacher_37 (by decide) (fun c37 => ?_) (fun c37 => ?_)
      · rw [show (3 : Int32) = iI 3 by decide, iI_le (by omega) (by omega) (by omega) (by omega)] at c37
        refine g_iload_n dX6_teacher_47 rfl ?_
        refine g_iconst (v := 3) dX6_teacher_48 (by decide) ?_
        refine g_icmp_ne (tgt := 61) dX6_teacher_49 (by decide) (fun c49 => ?_) (fun c49 => ?_)
        · rw [show (3 : Int32) = iI 3 by decide, iI_eq (by omega) (by omega) (by omega) (by omega)] at c49
          refine g_iload_n dX6_teacher_61 rfl ?_
          refine g_iconst (v := 4) dX6_teacher_62 (by decide) ?_
          refine g_icmp_ne (tgt := 80) dX6_teacher_63 (by decide) (fun c63 => ?_) (fun c63 => ?_)
          · rw [show (4 : Int32) = iI 4 by decide, iI_eq (by omega) (by omega) (by omega) (by omega)] at c63
            refine g_aload_n dX6_teacher_80 rfl ?_
            refine g_iload_n dX6_teacher_81 rfl ?_
            refine g_top (y := nI a.toNat) (iI_get (by omega) (by omega)) ?_
            refine g_iload_n dX6_teacher_82 rfl ?_
            refine f1_V (u' := 0) lX6_162 kX6_lessonsOf (mX6_lessonsOf (t := a.toNat) (w := w) hM0 hI (by omega) (by omega)) dX6_teacher_83 rfl rfl rfl rfl rfl rfl rfl rfl ?_
            refine g_ireturn dX6_teacher_86 rfl rfl (by decide) ?_
            refine qr_k (by unfold k_teacher; (repeat' split) <;> first | rfl | omega | contradiction) ?_ hM0 hK0
            unfold r_teacher
            first
            | (rw [if_neg (by omega), if_neg (by omega), if_neg (by omega), if_neg (by omega), c49]; rfl)
            | (rw [if_pos c63])
            | (rw [if_neg c63]; by_cases w5 : w = 5
               · rw [if_pos w5, nI_iI]; congr 2; congr 1; funext j; rw [if_neg (by omega), decide_eq_true w5]; simp
               · rw [if_neg w5]
                 by_cases w6 : w = 6
                 · rw [if_pos w6, nI_iI]; congr 2; congr 1; funext j; rw [if_pos w6]
                 · rw [if_neg w6, if_pos (show w = 7 by omega), nI_iI]; congr 2; congr 1; funext j; rw [if_neg w6, decide_eq_false w5]; simp)
          · rw [show (4 : Int32) = iI 4 by decide, iI_eq (by omega) (by omega) (by omega) (by omega)] at c63
            refine g_aload_n dX6_teacher_66 rfl ?_
            refine g_iload_n dX6_teacher_67 rfl ?_
            refine g_top (y := nI a.toNat) (iI_get (by omega) (by omega)) ?_
            refine g_aload_n dX6_teacher_68 rfl ?_
            refine g_iload_n dX6_teacher_69 rfl ?_
            refine g_top (y := nI a.toNat) (iI_get (by omega) (by omega)) ?_
            refine g_iconst (v := 4) dX6_teacher_70 (by decide) ?_
            refine f1_V (u' := 0) lX6_70 kX6_by (mX6_by (f := 4) hM0 (by omega) rfl (by omega)) dX6_teacher_71 rfl rfl rfl rfl rfl rfl rfl rfl ?_
            refine f1_V (u' := 0) lX6_159 kX6_share (mX6_share hM0 hI (by omega) (by omega)) dX6_teacher_74 rfl rfl rfl rfl rfl rfl rfl rfl ?_
            refine g_goto (tgt := 86) dX6_teacher_77 (by decide) ?_
            refine g_ireturn dX6_teacher_86 rfl rfl (by decide) ?_
            refine qr_k (by unfold k_teacher; (repeat' split) <;> first | rfl | omega | contradiction) ?_ hM0 hK0
            unfold r_teacher
            first
            | (rw [if_neg (by omega), if_neg (by omega), if_neg (by omega), if_neg (by omega), c49]; rfl)
            | (rw [if_pos c63])
            | (rw [if_neg c63]; by_cases w5 : w = 5
               · rw [if_pos w5, nI_iI]; congr 2; congr 1; funext j; rw [if_neg (by omega), decide_eq_true w5]; simp
               · rw [if_neg w5]
                 by_cases w6 : w = 6
                 · rw [if_pos w6, nI_iI]; congr 2; congr 1; funext j; rw [if_pos w6]
                 · rw [if_neg w6, if_pos (show w = 7 by omega), nI_iI]; congr 2; congr 1; funext j; rw [if_neg w6, decide_eq_false w5]; simp)
        · rw [show (3 : Int32) = iI 3 by decide, iI_eq (by omega) (by omega) (by omega) (by omega)] at c49
          refine g_aload_n dX6_teacher_52 rfl ?_
          refine g_iload_n dX6_teacher_53 rfl ?_
          refine g_top (y := nI a.toNat) (iI_get (by omega) (by omega)) ?_
          refine g_iconst (v := 4) dX6_teacher_54 (by decide) ?_
          refine f1_V (u' := 0) lX6_70 kX6_by (mX6_by (f := 4) hM0 (by omega) rfl (by omega)) dX6_teacher_55 rfl rfl rfl rfl rfl rfl rfl rfl ?_
          refine g_goto (tgt := 86) dX6_teacher_58 (by decide) ?_
          refine g_ireturn dX6_teacher_86 rfl rfl (by decide) ?_
          refine qr_k (by unfold k_teacher; (repeat' split) <;> first | rfl | omega | contradiction) ?_ hM0 hK0
          unfold r_teacher
          first
          | (rw [if_neg (by omega), if_neg (by omega), if_neg (by omega), if_neg (by omega), c49]; rfl)
          | (rw [if_pos c63])
          | (rw [if_neg c63]; by_cases w5 : w = 5
             · rw [if_pos w5, nI_iI]; congr 2; congr 1; funext j; rw [if_neg (by omega), decide_eq_true w5]; simp
             · rw [if_neg w5]
               by_cases w6 : w = 6
               · rw [if_pos w6, nI_iI]; congr 2; congr 1; funext j; rw [if_pos w6]
               · rw [if_neg w6, if_pos (show w = 7 by omega), nI_iI]; congr 2; congr 1; funext j; rw [if_neg w6, decide_eq_false w5]; simp)
      · rw [show (3 : Int32) = iI 3 by decide, iI_le (by omega) (by omega) (by omega) (by omega)] at c37
        refine g_aload_n dX6_teacher_40 rfl ?_
        refine g_iload_n dX6_teacher_41 rfl ?_
        refine g_top (y := nI a.toNat) (iI_get (by omega) (by omega)) ?_
        refine g_iload_n dX6_teacher_42 rfl ?_
        refine g_top (y := nI (m_bw (w.toNat + 1))) (by unfold m_bw; rw [if_neg (by omega), if_neg (by omega), Nat.add_sub_cancel]; exact iI_get (by omega) (by omega)) ?_
        refine f1_V (u' := 0) lX6_70 kX6_by (mX6_by (f := w.toNat + 1) hM0 (by omega) (by simp; omega) (by omega)) dX6_teacher_43 rfl rfl rfl rfl rfl rfl rfl rfl ?_
        refine g_ireturn dX6_teacher_46 rfl rfl (by decide) ?_
        exact qr_k (by unfold k_teacher; (repeat' split) <;> first | rfl | omega | contradiction) (by unfold r_teacher; rw [if_neg (by omega), if_neg (by omega), if_neg (by omega), if_neg (by omega), Nat.add_comm]) hM0 hK0
    · have q26 := (not_congr (x_rg (a := w) (lo := 0) (hi := 7) (by decide) (by decide) rw (by decide) (by decide))).mp (xb_0.mp c26)
      refine g_aload_n dX6_teacher_29 rfl ?_
      refine g_iconst (v := 2) dX6_teacher_30 (by decide) ?_
      refine f1_V (u' := 0) lX6_107 kX6_raises (mX6_raises) dX6_teacher_31 rfl rfl rfl rfl rfl rfl rfl rfl ?_
      refine g_ireturn dX6_teacher_34 rfl rfl (by decide) ?_
      exact qr_n (c := 2) (by unfold k_teacher; (repeat' split) <;> first | rfl | omega | contradiction) (by decide) hM0 hK0 hF0
  · have q10 := xb_0.mp c10
    refine g_aload_n dX6_teacher_13 rfl ?_
    refine g_iconst (v := 1) dX6_teacher_14 (by decide) ?_
    refine f1_V (u' := 0) lX6_107 kX6_raises (mX6_raises) dX6_teacher_15 rfl rfl rfl rfl rfl rfl rfl rfl ?_
    refine g_ireturn dX6_teacher_18 rfl rfl (by decide) ?_
    exact qr_n (c := 1) (by unfold k_teacher; (repeat' split) <;> first | rfl | omega | contradiction) (by decide) hM0 hK0 hF0
set_option maxRecDepth 100000 in
theorem mX6_lessonOf {l : Launch} {G : ux_G} {h : ux_H} {a b : Int} (ra : -2147483648 ≤ a ∧ a ≤ 2147483647) (rb : -2147483648 ≤ b ∧ b ≤ 2147483647) {Hs : List Ab} {A : Ab} {P : Nat} (hM : rM 193 0 A h) (hK : rK Hs h) (hI : Inv P A) (hJ : InvF A) : ux_M l G yX6_lessonOf iX6_lessonOf 5 0 [.ref 192, .int (iI a), .int (iI b)] h (QR (k_lessonOf A a b) (iI (s_find A 9 a b)) A Hs h) (fun _ _ => False) := by
  refine ux_ent (L' := [some (.ref 192), some (.int (iI a)), some (.int (iI b)), none]) kX6_lessonOf rfl rfl rfl rfl ?_
  obtain ⟨i1, i2, i3, i4, i5, i6⟩ := id hI
  refine g_aload_n dX6_lessonOf_0 rfl ?_
  refine g_iconst (v := 0) dX6_lessonOf_1 (by decide) ?_
  refine g_puti pX6_44 dX6_lessonOf_2 rfl rfl ?_
  have hM0 := rM_0t (j := 0) (x := 0) (Or.inl rfl) hM
  have hK0 := rK_0t (j := 0) (x := 0) (by decide) hK
  have hF0 := x_fN_0 h 0
  refine g_iload_n dX6_lessonOf_5 rfl ?_
  refine f1_S (u' := 0) lX6_142 kX6_isSlot (mX6_isSlot (by omega)) dX6_lessonOf_6 rfl rfl rfl rfl rfl rfl ?_
  refine g_if_eq (tgt := 19) dX6_lessonOf_9 (by decide) (fun c9 => ?_) (fun c9 => ?_)
  · have q9 := xb_0.mp c9
    refine g_aload_n dX6_lessonOf_19 rfl ?_
    refine g_iconst (v := 1) dX6_lessonOf_20 (by decide) ?_
    refine f1_V (u' := 0) lX6_107 kX6_raises (mX6_raises) dX6_lessonOf_21 rfl rfl rfl rfl rfl rfl rfl rfl ?_
    refine g_ireturn dX6_lessonOf_24 rfl rfl (by decide) ?_
    exact qr_n (c := 1) (by unfold k_lessonOf; (repeat' split) <;> first | rfl | omega | contradiction) (by decide) hM0 hK0 hF0
  · have q9 := xb_n0 c9
    refine g_iload_n dX6_lessonOf_12 rfl ?_
    refine f1_S (u' := 0) lX6_129 kX6_isSix (mX6_isSix (by omega)) dX6_lessonOf_13 rfl rfl rfl rfl rfl rfl ?_
    refine g_if_ne (tgt := 25) dX6_lessonOf_16 (by decide) (fun c16 => ?_) (fun c16 => ?_)
    · have q16 := xb_n0 c16
      refine g_aload_n dX6_lessonOf_25 rfl ?_
      refine g_iload_n dX6_lessonOf_26 rfl ?_
      refine g_iconst (v := 1) dX6_lessonOf_27 (by decide) ?_
      refine g_iload_n dX6_lessonOf_28 rfl ?_
      refine f1_V (u' := 0) lX6_165 kX6_find (mX6_find (f := 9) hM0 hI rfl (by omega) (by omega) (fun i hi => by have := i6 i hi; omega) (find_un hJ (by decide) _ _)) dX6_lessonOf_29 rfl rfl rfl rfl rfl rfl rfl rfl ?_
      have fr := s_find_r hI 9 a b
      refine s_i (i := 3) dX6_lessonOf_32 rfl rfl rfl rfl ?_
      dsimp only [List.set]
      refine g_iload_n dX6_lessonOf_33 rfl ?_
      refine g_iconst (v := (-1)) dX6_lessonOf_34 (by decide) ?_
      refine g_icmp_ne (tgt := 46) dX6_lessonOf_35 (by decide) (fun c35 => ?_) (fun c35 => ?_)
      · rw [xqm (by omega) (by omega)] at c35
        refine g_iload_n dX6_lessonOf_46 rfl ?_
        refine g_ireturn dX6_lessonOf_47 rfl rfl (by decide) ?_
        first | exact qr_k (by unfold k_lessonOf; (repeat' split) <;> first | rfl | omega | contradiction) (rfl) hM0 hK0 | exact qr_n (c := 2) (by unfold k_lessonOf; (repeat' split) <;> first | rfl | omega | contradiction) (by decide) hM0 hK0 hF0
      · rw [xqm (by omega) (by omega)] at c35
        refine g_aload_n dX6_lessonOf_38 rfl ?_
        refine g_iconst (v := 2) dX6_lessonOf_39 (by decide) ?_
        refine f1_V (u' := 0) lX6_107 kX6_raises (mX6_raises) dX6_lessonOf_40 rfl rfl rfl rfl rfl rfl rfl rfl ?_
        refine g_goto (tgt := 47) dX6_lessonOf_43 (by decide) ?_
        refine g_ireturn dX6_lessonOf_47 rfl rfl (by decide) ?_
        first | exact qr_k (by unfold k_lessonOf; (repeat' split) <;> first | rfl | omega | contradiction) (rfl) hM0 hK0 | exact qr_n (c := 2) (by unfold k_lessonOf; (repeat' split) <;> first | rfl | omega | contradiction) (by decide) hM0 hK0 hF0
    · have q16 := xb_0.mp c16
      refine g_aload_n dX6_lessonOf_19 rfl ?_
      refine g_iconst (v := 1) dX6_lessonOf_20 (by decide) ?_
      refine f1_V (u' := 0) lX6_107 kX6_raises (mX6_raises) dX6_lessonOf_21 rfl rfl rfl rfl rfl rfl rfl rfl ?_
      refine g_ireturn dX6_lessonOf_24 rfl rfl (by decide) ?_
      exact qr_n (c := 1) (by unfold k_lessonOf; (repeat' split) <;> first | rfl | omega | contradiction) (by decide) hM0 hK0 hF0
set_option maxRecDepth 100000 in
theorem mX6_absent {l : Launch} {G : ux_G} {h : ux_H} {a b : Int} (ra : -2147483648 ≤ a ∧ a ≤ 2147483647) (rb : -2147483648 ≤ b ∧ b ≤ 2147483647) {Hs : List Ab} {A : Ab} {P : Nat} (hM : rM 193 0 A h) (hK : rK Hs h) (hI : Inv P A) (hJ : InvF A) : ux_M l G yX6_absent iX6_absent 4 0 [.ref 192, .int (iI a), .int (iI b)] h (QR (k_absent A a b) (iI (aF A 5 a.toNat) >>> ((iI b * 6) &&& 31) &&& 63) A Hs h) (fun _ _ => False) := by
  refine ux_ent (L' := [some (.ref 192), some (.int (iI a)), some (.int (iI b))]) kX6_absent rfl rfl rfl rfl ?_
  obtain ⟨i1, i2, i3, i4, i5, i6⟩ := id hI
  refine g_aload_n dX6_absent_0 rfl ?_
  refine g_iconst (v := 0) dX6_absent_1 (by decide) ?_
  refine g_puti pX6_44 dX6_absent_2 rfl rfl ?_
  have hM0 := rM_0t (j := 0) (x := 0) (Or.inl rfl) hM
  have hK0 := rK_0t (j := 0) (x := 0) (by decide) hK
  have hF0 := x_fN_0 h 0
  refine g_aload_n dX6_absent_5 rfl ?_
  refine g_iload_n dX6_absent_6 rfl ?_
  refine f1_V (u' := 0) lX6_119 kX6_isTeacher (mX6_isTeacher hM0 (by omega) (by omega)) dX6_absent_7 rfl rfl rfl rfl rfl rfl rfl rfl ?_
  refine g_if_eq (tgt := 37) dX6_absent_10 (by decide) (fun c10 => ?_) (fun c10 => ?_)
  · have q10 := xb_0.mp c10
    refine g_aload_n dX6_absent_37 rfl ?_
    refine g_iconst (v := 1) dX6_absent_38 (by decide) ?_
    refine f1_V (u' := 0) lX6_107 kX6_raises (mX6_raises) dX6_absent_39 rfl rfl rfl rfl rfl rfl rfl rfl ?_
    refine g_ireturn dX6_absent_42 rfl rfl (by decide) ?_
    first | exact qr_k (by unfold k_absent; (repeat' split) <;> first | rfl | omega | contradiction) (rfl) hM0 hK0 | exact qr_n (c := 1) (by unfold k_absent; (repeat' split) <;> first | rfl | omega | contradiction) (by decide) hM0 hK0 hF0
  · have q10 := xb_n0 c10
    refine g_iload_n dX6_absent_13 rfl ?_
    refine f1_S (u' := 0) lX6_173 kX6_isDay (mX6_isDay (by omega)) dX6_absent_14 rfl rfl rfl rfl rfl rfl ?_
    refine g_if_eq (tgt := 37) dX6_absent_17 (by decide) (fun c17 => ?_) (fun c17 => ?_)
    · have q17 := xb_0.mp c17
      refine g_aload_n dX6_absent_37 rfl ?_
      refine g_iconst (v := 1) dX6_absent_38 (by decide) ?_
      refine f1_V (u' := 0) lX6_107 kX6_raises (mX6_raises) dX6_absent_39 rfl rfl rfl rfl rfl rfl rfl rfl ?_
      refine g_ireturn dX6_absent_42 rfl rfl (by decide) ?_
      first | exact qr_k (by unfold k_absent; (repeat' split) <;> first | rfl | omega | contradiction) (rfl) hM0 hK0 | exact qr_n (c := 1) (by unfold k_absent; (repeat' split) <;> first | rfl | omega | contradiction) (by decide) hM0 hK0 hF0
    · have q17 := xb_n0 c17
      refine g_aload_n dX6_absent_20 rfl ?_
      refine g_iload_n dX6_absent_21 rfl ?_
      refine g_top (y := nI a.toNat) (iI_get (by omega) (by omega)) ?_
      refine g_iconst (v := 3) dX6_absent_22 (by decide) ?_
      refine f1_V (u' := 0) lX6_70 kX6_by (mX6_by (f := 5) hM0 (by omega) rfl (by omega)) dX6_absent_23 rfl rfl rfl rfl rfl rfl rfl rfl ?_
      refine g_bipush (v := 6) dX6_absent_26 (by decide) ?_
      refine g_iload_n dX6_absent_28 rfl ?_
      refine g_imul dX6_absent_29 ?_
      refine g_top (Int32.mul_comm _ _) ?_
      refine g_ishr dX6_absent_30 ?_
      refine g_bipush (v := 63) dX6_absent_31 (by decide) ?_
      refine g_iand dX6_absent_33 ?_
      refine g_goto (tgt := 42) dX6_absent_34 (by decide) ?_
      refine g_ireturn dX6_absent_42 rfl rfl (by decide) ?_
      first | exact qr_k (by unfold k_absent; (repeat' split) <;> first | rfl | omega | contradiction) (rfl) hM0 hK0 | exact qr_n (c := 1) (by unfold k_absent; (repeat' split) <;> first | rfl | omega | contradiction) (by decide) hM0 hK0 hF0
set_option maxRecDepth 100000 in
theorem mX6_openOn {l : Launch} {G : ux_G} {h : ux_H} {a : Int} (ra : -2147483648 ≤ a ∧ a ≤ 2147483647) {Hs : List Ab} {A : Ab} {P : Nat} (hM : rM 193 0 A h) (hK : rK Hs h) (hI : Inv P A) (hJ : InvF A) : ux_M l G yX6_openOn iX6_openOn 6 0 [.ref 192, .int (iI a)] h (QR (k_openOn a) (nI (s_cnt (fun j => decide (aF A 8 j / 6 = (a.toNat : Int)) && decide (s_st A j = 3)) A.2.1)) A Hs h) (fun _ _ => False) := by
  refine ux_ent (L' := [some (.ref 192), some (.int (iI a))]) kX6_openOn rfl rfl rfl rfl ?_
  obtain ⟨i1, i2, i3, i4, i5, i6⟩ := id hI
  refine g_aload_n dX6_openOn_0 rfl ?_
  refine g_iconst (v := 0) dX6_openOn_1 (by decide) ?_
  refine g_puti pX6_44 dX6_openOn_2 rfl rfl ?_
  have hM0 := rM_0t (j := 0) (x := 0) (Or.inl rfl) hM
  have hK0 := rK_0t (j := 0) (x := 0) (by decide) hK
  have hF0 := x_fN_0 h 0
  refine g_iload_n dX6_openOn_5 rfl ?_
  refine f1_S (u' := 0) lX6_173 kX6_isDay (mX6_isDay (by omega)) dX6_openOn_6 rfl rfl rfl rfl rfl rfl ?_
  refine g_if_eq (tgt := 20) dX6_openOn_9 (by decide) (fun c9 => ?_) (fun c9 => ?_)
  · have q9 := xb_0.mp c9
    refine g_aload_n dX6_openOn_20 rfl ?_
    refine g_iconst (v := 1) dX6_openOn_21 (by decide) ?_
    refine f1_V (u' := 0) lX6_107 kX6_raises (mX6_raises) dX6_openOn_22 rfl rfl rfl rfl rfl rfl rfl rfl ?_
    refine g_ireturn dX6_openOn_25 rfl rfl (by decide) ?_
    first | exact qr_g (by unfold k_openOn; (repeat' split) <;> first | rfl | omega | contradiction) (by rw [s_opl_n]) (rM_k9 hM0 hF14 (by decide)) (rK_k hK0 hF14 (by decide)) (x_fN_tr hF0 (x_fN_T (x_fT_k hF14 (by decide)))) ((x_fk_g hF14 (by decide) 0).trans (xgi_si _ _ _ _)) | exact qr_n (c := 1) (by unfold k_openOn; (repeat' split) <;> first | rfl | omega | contradiction) (by decide) hM0 hK0 hF0
  · have q9 := xb_n0 c9
    refine g_aload_n dX6_openOn_12 rfl ?_
    refine g_iload_n dX6_openOn_13 rfl ?_
    refine g_top (y := nI a.toNat) (iI_get (by omega) (by omega)) ?_
    refine q_V (u' := 0) lX6_176 kX6_listsOpen (mX6_listsOpen (d := a.toNat) hM0 hI (by omega)) dX6_openOn_14 rfl rfl rfl rfl rfl rfl rfl rfl (fun v h14 hq => ?_) (fun _ _ q => q.elim)
    obtain ⟨rfl, hO14, hF14⟩ := hq
    dsimp only [Option.toList, List.cons_append, List.nil_append]
    refine g_goto (tgt := 25) dX6_openOn_17 (by decide) ?_
    refine g_ireturn dX6_openOn_25 rfl rfl (by decide) ?_
    first | exact qr_g (by unfold k_openOn; (repeat' split) <;> first | rfl | omega | contradiction) (by rw [s_opl_n]) (rM_k9 hM0 hF14 (by decide)) (rK_k hK0 hF14 (by decide)) (x_fN_tr hF0 (x_fN_T (x_fT_k hF14 (by decide)))) ((x_fk_g hF14 (by decide) 0).trans (xgi_si _ _ _ _)) | exact qr_n (c := 1) (by unfold k_openOn; (repeat' split) <;> first | rfl | omega | contradiction) (by decide) hM0 hK0 hF0
set_option maxRecDepth 100000 in
theorem mX6_open {l : Launch} {G : ux_G} {h : ux_H} {a b : Int} (ra : -2147483648 ≤ a ∧ a ≤ 2147483647) (rb : -2147483648 ≤ b ∧ b ≤ 2147483647) {Hs : List Ab} {A : Ab} {P : Nat} (hM : rM 193 0 A h) (hK : rK Hs h) (hI : Inv P A) (hJ : InvF A) : ux_M l G yX6_open iX6_open 6 0 [.ref 192, .int (iI a), .int (iI b)] h (QR (k_open A a b) (iI (s_opat (s_opl A a.toNat 6) b)) A Hs h) (fun _ _ => False) := by
  refine ux_ent (L' := [some (.ref 192), some (.int (iI a)), some (.int (iI b))]) kX6_open rfl rfl rfl rfl ?_
  obtain ⟨i1, i2, i3, i4, i5, i6⟩ := id hI
  refine g_aload_n dX6_open_0 rfl ?_
  refine g_iconst (v := 0) dX6_open_1 (by decide) ?_
  refine g_puti pX6_44 dX6_open_2 rfl rfl ?_
  have hM0 := rM_0t (j := 0) (x := 0) (Or.inl rfl) hM
  have hK0 := rK_0t (j := 0) (x := 0) (by decide) hK
  have hF0 := x_fN_0 h 0
  refine g_iload_n dX6_open_5 rfl ?_
  refine f1_S (u' := 0) lX6_173 kX6_isDay (mX6_isDay (by omega)) dX6_open_6 rfl rfl rfl rfl rfl rfl ?_
  refine g_if_ne (tgt := 18) dX6_open_9 (by decide) (fun c9 => ?_) (fun c9 => ?_)
  · have q9 := xb_n0 c9
    refine g_iload_n dX6_open_18 rfl ?_
    refine g_iconst (v := 0) dX6_open_19 (by decide) ?_
    refine g_aload_n dX6_open_20 rfl ?_
    refine g_iload_n dX6_open_21 rfl ?_
    refine g_top (y := nI a.toNat) (iI_get (by omega) (by omega)) ?_
    refine q_V (u' := 0) lX6_176 kX6_listsOpen (mX6_listsOpen (d := a.toNat) hM0 hI (by omega)) dX6_open_22 rfl rfl rfl rfl rfl rfl rfl rfl (fun v h22 hq => ?_) (fun _ _ q => q.elim)
    obtain ⟨rfl, hO22, hF22⟩ := hq
    dsimp only [Option.toList, List.cons_append, List.nil_append]
    have ln : (s_opl A a.toNat 6).length ≤ A.2.1 := by rw [s_opl_n]; exact s_cnt_le _ _
    refine g_iconst (v := 1) dX6_open_25 (by decide) ?_
    refine g_isub dX6_open_26 ?_
    refine f1_S (u' := 0) lX6_58 kX6_in (mX6_in) dX6_open_27 rfl rfl rfl rfl rfl rfl ?_
    refine g_if_eq (tgt := 42) dX6_open_30 (by decide) (fun c30 => ?_) (fun c30 => ?_)
    · have q30 := (not_congr (x_ix (a := b) (n := (s_opl A a.toNat 6).length) rfl rb (by omega))).mp (xb_0.mp c30)
      refine g_aload_n dX6_open_42 rfl ?_
      refine g_iconst (v := 2) dX6_open_43 (by decide) ?_
      refine f1_V (u' := 0) lX6_107 kX6_raises (mX6_raises) dX6_open_44 rfl rfl rfl rfl rfl rfl rfl rfl ?_
      refine g_ireturn dX6_open_47 rfl rfl (by decide) ?_
      first | exact qr_g (by unfold k_open; rw [if_neg (by omega), if_neg (fun y => (opat_in.mp y) q30)]) rfl (rM_k9 hM0 hF22 (by decide)) (rK_k hK0 hF22 (by decide)) (x_fN_tr hF0 (x_fN_T (x_fT_k hF22 (by decide)))) ((x_fk_g hF22 (by decide) 0).trans (xgi_si _ _ _ _)) | exact qr_n (c := 2) (by unfold k_open; rw [if_neg (by omega), if_pos (opat_in.mpr q30)]) (by decide) (rM_k9 hM0 hF22 (by decide)) (rK_k hK0 hF22 (by decide)) (x_fN_tr hF0 (x_fN_T (x_fT_k hF22 (by decide))))
    · have q30 := (x_ix (a := b) (n := (s_opl A a.toNat 6).length) rfl rb (by omega)).mp (xb_n0 c30)
      obtain ⟨i, hi1, hi2⟩ := opat_at q30
      refine g_aload_n dX6_open_33 rfl ?_
      refine g_getr (q := 198) fX6_29 dX6_open_34 rfl rfl rfl ?_
      refine g_iload_n dX6_open_37 rfl ?_
      refine g_top (y := nI b.toNat) (iI_get (by omega) (by omega)) ?_
      refine g_iald dX6_open_38 rfl (show b.toNat < 40 by omega) rfl ?_
      refine g_top (y := iI (s_opat (s_opl A a.toNat 6) b)) (by rw [hO22 _ i hi1, hi2, nI_iI]) ?_
      refine g_goto (tgt := 47) dX6_open_39 (by decide) ?_
      refine g_ireturn dX6_open_47 rfl rfl (by decide) ?_
      first | exact qr_g (by unfold k_open; rw [if_neg (by omega), if_neg (fun y => (opat_in.mp y) q30)]) rfl (rM_k9 hM0 hF22 (by decide)) (rK_k hK0 hF22 (by decide)) (x_fN_tr hF0 (x_fN_T (x_fT_k hF22 (by decide)))) ((x_fk_g hF22 (by decide) 0).trans (xgi_si _ _ _ _)) | exact qr_n (c := 2) (by unfold k_open; rw [if_neg (by omega), if_pos (opat_in.mpr q30)]) (by decide) (rM_k9 hM0 hF22 (by decide)) (rK_k hK0 hF22 (by decide)) (x_fN_tr hF0 (x_fN_T (x_fT_k hF22 (by decide))))
  · have q9 := xb_0.mp c9
    refine g_aload_n dX6_open_12 rfl ?_
    refine g_iconst (v := 1) dX6_open_13 (by decide) ?_
    refine f1_V (u' := 0) lX6_107 kX6_raises (mX6_raises) dX6_open_14 rfl rfl rfl rfl rfl rfl rfl rfl ?_
    refine g_ireturn dX6_open_17 rfl rfl (by decide) ?_
    exact qr_n (c := 1) (by unfold k_open; (repeat' split) <;> first | rfl | omega | contradiction) (by decide) hM0 hK0 hF0
set_option maxRecDepth 100000 in
theorem mX6_why {l : Launch} {G : ux_G} {h : ux_H} {a b : Int} (ra : -2147483648 ≤ a ∧ a ≤ 2147483647) (rb : -2147483648 ≤ b ∧ b ≤ 2147483647) {Hs : List Ab} {A : Ab} {P : Nat} (hM : rM 193 0 A h) (hK : rK Hs h) (hI : Inv P A) (hJ : InvF A) : ux_M l G yX6_why iX6_why 6 0 [.ref 192, .int (iI a), .int (iI b)] h (QR (k_why A a b) (iI (s_bar A a.toNat b.toNat)) A Hs h) (fun _ _ => False) := by
  refine ux_ent (L' := [some (.ref 192), some (.int (iI a)), some (.int (iI b))]) kX6_why rfl rfl rfl rfl ?_
  obtain ⟨i1, i2, i3, i4, i5, i6⟩ := id hI
  refine g_aload_n dX6_why_0 rfl ?_
  refine g_iconst (v := 0) dX6_why_1 (by decide) ?_
  refine g_puti pX6_44 dX6_why_2 rfl rfl ?_
  have hM0 := rM_0t (j := 0) (x := 0) (Or.inl rfl) hM
  have hK0 := rK_0t (j := 0) (x := 0) (by decide) hK
  have hF0 := x_fN_0 h 0
  refine g_aload_n dX6_why_5 rfl ?_
  refine g_iload_n dX6_why_6 rfl ?_
  refine f1_V (u' := 0) lX6_153 kX6_isLesson (mX6_isLesson hM0 (by omega) (by omega)) dX6_why_7 rfl rfl rfl rfl rfl rfl rfl rfl ?_
  refine g_if_eq (tgt := 21) dX6_why_10 (by decide) (fun c10 => ?_) (fun c10 => ?_)
  · have q10 := xb_0.mp c10
    refine g_aload_n dX6_why_21 rfl ?_
    refine g_iconst (v := 1) dX6_why_22 (by decide) ?_
    refine f1_V (u' := 0) lX6_107 kX6_raises (mX6_raises) dX6_why_23 rfl rfl rfl rfl rfl rfl rfl rfl ?_
    refine g_ireturn dX6_why_26 rfl rfl (by decide) ?_
    exact qr_n (c := 1) (by unfold k_why; (repeat' split) <;> first | rfl | omega | contradiction) (by decide) hM0 hK0 hF0
  · have q10 := xb_n0 c10
    refine g_aload_n dX6_why_13 rfl ?_
    refine g_iload_n dX6_why_14 rfl ?_
    refine f1_V (u' := 0) lX6_119 kX6_isTeacher (mX6_isTeacher hM0 (by omega) (by omega)) dX6_why_15 rfl rfl rfl rfl rfl rfl rfl rfl ?_
    refine g_if_ne (tgt := 27) dX6_why_18 (by decide) (fun c18 => ?_) (fun c18 => ?_)
    · have q18 := xb_n0 c18
      refine g_aload_n dX6_why_27 rfl ?_
      refine g_iload_n dX6_why_28 rfl ?_
      refine g_top (y := nI a.toNat) (iI_get (by omega) (by omega)) ?_
      refine f1_V (u' := 0) lX6_84 kX6_state (mX6_state hM0 hI (by omega)) dX6_why_29 rfl rfl rfl rfl rfl rfl rfl rfl ?_
      have hr := s_st_r A a.toNat
      refine g_iconst (v := 3) dX6_why_32 (by decide) ?_
      refine g_icmp_ne (tgt := 45) dX6_why_33 (by decide) (fun c33 => ?_) (fun c33 => ?_)
      · rw [show (3 : Int32) = iI 3 by decide, iI_eq (by omega) (by omega) (by omega) (by omega)] at c33
        refine g_aload_n dX6_why_45 rfl ?_
        refine g_iconst (v := 2) dX6_why_46 (by decide) ?_
        refine f1_V (u' := 0) lX6_107 kX6_raises (mX6_raises) dX6_why_47 rfl rfl rfl rfl rfl rfl rfl rfl ?_
        refine g_ireturn dX6_why_50 rfl rfl (by decide) ?_
        first | exact qr_k (by unfold k_why; (repeat' split) <;> first | rfl | omega | contradiction) (rfl) hM0 hK0 | exact qr_n (c := 2) (by unfold k_why; (repeat' split) <;> first | rfl | omega | contradiction) (by decide) hM0 hK0 hF0
      · rw [show (3 : Int32) = iI 3 by decide, iI_eq (by omega) (by omega) (by omega) (by omega)] at c33
        refine g_aload_n dX6_why_36 rfl ?_
        refine g_iload_n dX6_why_37 rfl ?_
        refine g_top (y := nI a.toNat) (iI_get (by omega) (by omega)) ?_
        refine g_iload_n dX6_why_38 rfl ?_
        refine g_top (y := nI b.toNat) (iI_get (by omega) (by omega)) ?_
        refine f1_V (u' := 0) lX6_182 kX6_bar (mX6_bar hM0 hI hJ (by omega) (by omega)) dX6_why_39 rfl rfl rfl rfl rfl rfl rfl rfl ?_
        refine g_goto (tgt := 50) dX6_why_42 (by decide) ?_
        refine g_ireturn dX6_why_50 rfl rfl (by decide) ?_
        first | exact qr_k (by unfold k_why; (repeat' split) <;> first | rfl | omega | contradiction) (rfl) hM0 hK0 | exact qr_n (c := 2) (by unfold k_why; (repeat' split) <;> first | rfl | omega | contradiction) (by decide) hM0 hK0 hF0
    · have q18 := xb_0.mp c18
      refine g_aload_n dX6_why_21 rfl ?_
      refine g_iconst (v := 1) dX6_why_22 (by decide) ?_
      refine f1_V (u' := 0) lX6_107 kX6_raises (mX6_raises) dX6_why_23 rfl rfl rfl rfl rfl rfl rfl rfl ?_
      refine g_ireturn dX6_why_26 rfl rfl (by decide) ?_
      exact qr_n (c := 1) (by unfold k_why; (repeat' split) <;> first | rfl | omega | contradiction) (by decide) hM0 hK0 hF0
set_option maxRecDepth 100000 in
theorem mX6_points {l : Launch} {G : ux_G} {h : ux_H} {a b : Int} (ra : -2147483648 ≤ a ∧ a ≤ 2147483647) (rb : -2147483648 ≤ b ∧ b ≤ 2147483647) {Hs : List Ab} {A : Ab} {P : Nat} (hM : rM 193 0 A h) (hK : rK Hs h) (hI : Inv P A) (hJ : InvF A) : ux_M l G yX6_points iX6_points 5 0 [.ref 192, .int (iI a), .int (iI b)] h (QR (k_points A a b) (iI (s_worth A a.toNat b.toNat)) A Hs h) (fun _ _ => False) := by
  refine ux_ent (L' := [some (.ref 192), some (.int (iI a)), some (.int (iI b))]) kX6_points rfl rfl rfl rfl ?_
  obtain ⟨i1, i2, i3, i4, i5, i6⟩ := id hI
  refine g_aload_n dX6_points_0 rfl ?_
  refine g_iconst (v := 0) dX6_points_1 (by decide) ?_
  refine g_puti pX6_44 dX6_points_2 rfl rfl ?_
  have hM0 := rM_0t (j := 0) (x := 0) (Or.inl rfl) hM
  have hK0 := rK_0t (j := 0) (x := 0) (by decide) hK
  have hF0 := x_fN_0 h 0
  refine g_aload_n dX6_points_5 rfl ?_
  refine g_iload_n dX6_points_6 rfl ?_
  refine f1_V (u' := 0) lX6_153 kX6_isLesson (mX6_isLesson hM0 (by omega) (by omega)) dX6_points_7 rfl rfl rfl rfl rfl rfl rfl rfl ?_
  refine g_if_eq (tgt := 30) dX6_points_10 (by decide) (fun c10 => ?_) (fun c10 => ?_)
  · have q10 := xb_0.mp c10
    refine g_aload_n dX6_points_30 rfl ?_
    refine g_iconst (v := 1) dX6_points_31 (by decide) ?_
    refine f1_V (u' := 0) lX6_107 kX6_raises (mX6_raises) dX6_points_32 rfl rfl rfl rfl rfl rfl rfl rfl ?_
    refine g_ireturn dX6_points_35 rfl rfl (by decide) ?_
    first | exact qr_k (by unfold k_points; (repeat' split) <;> first | rfl | omega | contradiction) (rfl) hM0 hK0 | exact qr_n (c := 1) (by unfold k_points; (repeat' split) <;> first | rfl | omega | contradiction) (by decide) hM0 hK0 hF0
  · have q10 := xb_n0 c10
    refine g_aload_n dX6_points_13 rfl ?_
    refine g_iload_n dX6_points_14 rfl ?_
    refine f1_V (u' := 0) lX6_119 kX6_isTeacher (mX6_isTeacher hM0 (by omega) (by omega)) dX6_points_15 rfl rfl rfl rfl rfl rfl rfl rfl ?_
    refine g_if_eq (tgt := 30) dX6_points_18 (by decide) (fun c18 => ?_) (fun c18 => ?_)
    · have q18 := xb_0.mp c18
      refine g_aload_n dX6_points_30 rfl ?_
      refine g_iconst (v := 1) dX6_points_31 (by decide) ?_
      refine f1_V (u' := 0) lX6_107 kX6_raises (mX6_raises) dX6_points_32 rfl rfl rfl rfl rfl rfl rfl rfl ?_
      refine g_ireturn dX6_points_35 rfl rfl (by decide) ?_
      first | exact qr_k (by unfold k_points; (repeat' split) <;> first | rfl | omega | contradiction) (rfl) hM0 hK0 | exact qr_n (c := 1) (by unfold k_points; (repeat' split) <;> first | rfl | omega | contradiction) (by decide) hM0 hK0 hF0
    · have q18 := xb_n0 c18
      refine g_aload_n dX6_points_21 rfl ?_
      refine g_iload_n dX6_points_22 rfl ?_
      refine g_top (y := nI a.toNat) (iI_get (by omega) (by omega)) ?_
      refine g_iload_n dX6_points_23 rfl ?_
      refine g_top (y := nI b.toNat) (iI_get (by omega) (by omega)) ?_
      refine f1_V (u' := 0) lX6_101 kX6_worth (mX6_worth hM0 hI (by omega) (by omega)) dX6_points_24 rfl rfl rfl rfl rfl rfl rfl rfl ?_
      refine g_goto (tgt := 35) dX6_points_27 (by decide) ?_
      refine g_ireturn dX6_points_35 rfl rfl (by decide) ?_
      first | exact qr_k (by unfold k_points; (repeat' split) <;> first | rfl | omega | contradiction) (rfl) hM0 hK0 | exact qr_n (c := 1) (by unfold k_points; (repeat' split) <;> first | rfl | omega | contradiction) (by decide) hM0 hK0 hF0
set_option maxRecDepth 100000 in
theorem mX6_suggestion {l : Launch} {G : ux_G} {h : ux_H} {a : Int} (ra : -2147483648 ≤ a ∧ a ≤ 2147483647) {Hs : List Ab} {A : Ab} {P : Nat} (hM : rM 193 0 A h) (hK : rK Hs h) (hI : Inv P A) (hJ : InvF A) : ux_M l G yX6_suggestion iX6_suggestion 7 0 [.ref 192, .int (iI a)] h (QR (k_suggestion A a) (iI (s_best A a.toNat A.1)) A Hs h) (fun _ _ => False) := by
  refine ux_ent (L' := [some (.ref 192), some (.int (iI a)), none]) kX6_suggestion rfl rfl rfl rfl ?_
  obtain ⟨i1, i2, i3, i4, i5, i6⟩ := id hI
  refine g_aload_n dX6_suggestion_0 rfl ?_
  refine g_iconst (v := 0) dX6_suggestion_1 (by decide) ?_
  refine g_puti pX6_44 dX6_suggestion_2 rfl rfl ?_
  have hM0 := rM_0t (j := 0) (x := 0) (Or.inl rfl) hM
  have hK0 := rK_0t (j := 0) (x := 0) (by decide) hK
  have hF0 := x_fN_0 h 0
  refine g_aload_n dX6_suggestion_5 rfl ?_
  refine g_iload_n dX6_suggestion_6 rfl ?_
  refine f1_V (u' := 0) lX6_153 kX6_isLesson (mX6_isLesson hM0 (by omega) (by omega)) dX6_suggestion_7 rfl rfl rfl rfl rfl rfl rfl rfl ?_
  refine g_if_ne (tgt := 19) dX6_suggestion_10 (by decide) (fun c10 => ?_) (fun c10 => ?_)
  · have q10 := xb_n0 c10
    refine g_aload_n dX6_suggestion_19 rfl ?_
    refine g_iload_n dX6_suggestion_20 rfl ?_
    refine g_top (y := nI a.toNat) (iI_get (by omega) (by omega)) ?_
    refine f1_V (u' := 0) lX6_84 kX6_state (mX6_state hM0 hI (by omega)) dX6_suggestion_21 rfl rfl rfl rfl rfl rfl rfl rfl ?_
    have hr := s_st_r A a.toNat
    refine g_iconst (v := 3) dX6_suggestion_24 (by decide) ?_
    refine g_icmp_eq (tgt := 34) dX6_suggestion_25 (by decide) (fun c25 => ?_) (fun c25 => ?_)
    · rw [show (3 : Int32) = iI 3 by decide, iI_eq (by omega) (by omega) (by omega) (by omega)] at c25
      refine g_aload_n dX6_suggestion_34 rfl ?_
      refine g_iload_n dX6_suggestion_35 rfl ?_
      refine g_top (y := nI a.toNat) (iI_get (by omega) (by omega)) ?_
      refine f1_V (u' := 0) lX6_188 kX6_suggested (mX6_suggested hM0 hI hJ (by omega)) dX6_suggestion_36 rfl rfl rfl rfl rfl rfl rfl rfl ?_
      have fb := s_best_r A a.toNat A.1
      refine s_i (i := 2) dX6_suggestion_39 rfl rfl rfl rfl ?_
      dsimp only [List.set]
      refine g_iload_n dX6_suggestion_40 rfl ?_
      refine g_iconst (v := (-1)) dX6_suggestion_41 (by decide) ?_
      refine g_icmp_ne (tgt := 53) dX6_suggestion_42 (by decide) (fun c42 => ?_) (fun c42 => ?_)
      · rw [xqm (by omega) (by omega)] at c42
        refine g_iload_n dX6_suggestion_53 rfl ?_
        refine g_ireturn dX6_suggestion_54 rfl rfl (by decide) ?_
        first | exact qr_k (by unfold k_suggestion; (repeat' split) <;> first | rfl | omega | contradiction) (rfl) hM0 hK0 | exact qr_n (c := 3) (by unfold k_suggestion; (repeat' split) <;> first | rfl | omega | contradiction) (by decide) hM0 hK0 hF0
      · rw [xqm (by omega) (by omega)] at c42
        refine g_aload_n dX6_suggestion_45 rfl ?_
        refine g_iconst (v := 3) dX6_suggestion_46 (by decide) ?_
        refine f1_V (u' := 0) lX6_107 kX6_raises (mX6_raises) dX6_suggestion_47 rfl rfl rfl rfl rfl rfl rfl rfl ?_
        refine g_goto (tgt := 54) dX6_suggestion_50 (by decide) ?_
        refine g_ireturn dX6_suggestion_54 rfl rfl (by decide) ?_
        first | exact qr_k (by unfold k_suggestion; (repeat' split) <;> first | rfl | omega | contradiction) (rfl) hM0 hK0 | exact qr_n (c := 3) (by unfold k_suggestion; (repeat' split) <;> first | rfl | omega | contradiction) (by decide) hM0 hK0 hF0
    · rw [show (3 : Int32) = iI 3 by decide, iI_eq (by omega) (by omega) (by omega) (by omega)] at c25
      refine g_aload_n dX6_suggestion_28 rfl ?_
      refine g_iconst (v := 2) dX6_suggestion_29 (by decide) ?_
      refine f1_V (u' := 0) lX6_107 kX6_raises (mX6_raises) dX6_suggestion_30 rfl rfl rfl rfl rfl rfl rfl rfl ?_
      refine g_ireturn dX6_suggestion_33 rfl rfl (by decide) ?_
      exact qr_n (c := 2) (by unfold k_suggestion; (repeat' split) <;> first | rfl | omega | contradiction) (by decide) hM0 hK0 hF0
  · have q10 := xb_0.mp c10
    refine g_aload_n dX6_suggestion_13 rfl ?_
    refine g_iconst (v := 1) dX6_suggestion_14 (by decide) ?_
    refine f1_V (u' := 0) lX6_107 kX6_raises (mX6_raises) dX6_suggestion_15 rfl rfl rfl rfl rfl rfl rfl rfl ?_
    refine g_ireturn dX6_suggestion_18 rfl rfl (by decide) ?_
    exact qr_n (c := 1) (by unfold k_suggestion; (repeat' split) <;> first | rfl | omega | contradiction) (by decide) hM0 hK0 hF0
set_option maxRecDepth 100000 in
theorem mX6_spread {l : Launch} {G : ux_G} {h : ux_H}  {Hs : List Ab} {A : Ab} {P : Nat} (hM : rM 193 0 A h) (hK : rK Hs h) (hI : Inv P A) (hJ : InvF A) : ux_M l G yX6_spread iX6_spread 6 0 [.ref 192] h (QR (k_spread A) (iI (pl_sp A)) A Hs h) (fun _ _ => False) := by
  refine ux_ent (L' := [some (.ref 192)]) kX6_spread rfl rfl rfl rfl ?_
  obtain ⟨i1, i2, i3, i4, i5, i6⟩ := id hI
  refine g_aload_n dX6_spread_0 rfl ?_
  refine g_iconst (v := 0) dX6_spread_1 (by decide) ?_
  refine g_puti pX6_44 dX6_spread_2 rfl rfl ?_
  have hM0 := rM_0t (j := 0) (x := 0) (Or.inl rfl) hM
  have hK0 := rK_0t (j := 0) (x := 0) (by decide) hK
  have hF0 := x_fN_0 h 0
  refine g_aload_n dX6_spread_5 rfl ?_
  refine f1_V (u' := 0) lX6_62 kX6_teachers (mX6_teachers hM0) dX6_spread_6 rfl rfl rfl rfl rfl rfl rfl rfl ?_
  refine g_if_ne (tgt := 20) dX6_spread_9 (by decide) (fun c9 => ?_) (fun c9 => ?_)
  · have q9 : A.1 ≠ 0 := (not_congr (nI_eq0 (by omega))).mp c9
    refine g_aload_n dX6_spread_20 rfl ?_
    refine f1_V (u' := 0) lX6_208 kX6_spreadNow (mX6_spreadNow hM0 hI (by omega)) dX6_spread_21 rfl rfl rfl rfl rfl rfl rfl rfl ?_
    refine g_ireturn dX6_spread_24 rfl rfl (by decide) ?_
    first | exact qr_k (by unfold k_spread; rw [if_neg q9]) rfl hM0 hK0 | exact qr_n (c := 1) (by unfold k_spread; rw [if_pos q9]) (by decide) hM0 hK0 hF0
  · have q9 : A.1 = 0 := (nI_eq0 (by omega)).mp c9
    refine g_aload_n dX6_spread_12 rfl ?_
    refine g_iconst (v := 1) dX6_spread_13 (by decide) ?_
    refine f1_V (u' := 0) lX6_107 kX6_raises (mX6_raises) dX6_spread_14 rfl rfl rfl rfl rfl rfl rfl rfl ?_
    refine g_goto (tgt := 24) dX6_spread_17 (by decide) ?_
    refine g_ireturn dX6_spread_24 rfl rfl (by decide) ?_
    first | exact qr_k (by unfold k_spread; rw [if_neg q9]) rfl hM0 hK0 | exact qr_n (c := 1) (by unfold k_spread; rw [if_pos q9]) (by decide) hM0 hK0 hF0
