/-! THE REFERENCE: absences turn; a lesson is removed: walks. -/
theorem iI_tI (x : Int32) : iI x.toInt = x := Int32.ofInt_toInt x
set_option maxRecDepth 100000 in
theorem tX6_turns {l : Launch} {G : ux_G} {h0 h : ux_H} {A : Ab} {P t s : Nat} {x5 x6 : Int32} {y4 : Int32} {b : Bool} (hI : Inv P A) (hJ : InvF A) (hP : P + 260 ≤ 10000000) (ht : t < A.1) (hs : s < 30) (hw : s_away A t s = !b) (hy4 : y4 = nI (s_turnn A t s)) (hM : rM 193 0 (s_t2 A t s) h) (hF : x_fm h0 h) (hl1 : (s_t2 A t s).1 = A.1) (hl2 : (s_t2 A t s).2.1 = A.2.1) : ux_W l G iX6_turns (ux_rm 12 0) (ux_Z G 0 (fun v h' => v = some (.int (nI (s_turnn A t s))) ∧ rM 193 0 (s_turn A t s) h' ∧ x_fm h0 h') (fun _ _ => False)) 79 [some (.ref 192), some (.int (nI t)), some (.int (nI s)), some (.int (if b then 1 else 0)), some (.int y4), some (.int x5), some (.int x6)] [] (h) 0 := by
  obtain ⟨i1, i2, i3, i4, i5, i6⟩ := id hI
  refine g_aload_n dX6_turns_79 rfl ?_
  refine g_getr (q := 193) fX6_9 dX6_turns_80 rfl rfl rfl ?_
  refine g_iload_n dX6_turns_83 rfl ?_
  refine f1_S (u' := 0) lX6_51 kX6_teacherAt (mX6_teacherAt) dX6_turns_84 rfl rfl rfl rfl rfl rfl ?_
  refine g_iconst (v := 3) dX6_turns_87 (by decide) ?_
  refine g_iadd dX6_turns_88 ?_
  refine g_top (y := nI (19 + 5 * t)) (by rw [show (3 : Int32) = nI 3 by decide, nI_add]; congr 1; omega) ?_
  refine g_dup2 dX6_turns_89 rfl rfl ?_
  refine g_iald dX6_turns_90 rfl (show 19 + 5 * t < 376 by omega) rfl ?_
  refine g_iconst (v := 1) dX6_turns_91 (by decide) ?_
  refine g_iload_n dX6_turns_92 rfl ?_
  refine g_ishl dX6_turns_93 ?_
  refine g_ixor dX6_turns_94 ?_
  refine g_top (y := iI (s_flip (aF (s_t2 A t s) 5 t) s)) (by rw [show xgi h 193 (19 + 5 * t) = iI (aF (s_t2 A t s) 5 t) by have := hM.2.2 5 t (in_t rfl (by omega)); rwa [Nat.zero_add] at this]; unfold s_flip; rw [iI_tI, iI_n]) ?_
  refine g_iast dX6_turns_95 rfl (show 19 + 5 * t < 376 by omega) rfl ?_
  refine g_iload dX6_turns_96 rfl ?_
  refine g_ireturn dX6_turns_98 rfl rfl (by decide) ?_
  exact ⟨by rw [hy4], rM_aU (f := 5) (j := t) hM (by omega) (by omega) (in_t rfl (by omega)) rfl, x_fm_tr hF (x_fm_si _ _ _)⟩
set_option maxRecDepth 100000 in
theorem uX6_turns {l : Launch} {G : ux_G} {h0 h : ux_H} {A : Ab} {P t s : Nat} {x5 y4 : Int32} {b : Bool} (hI : Inv P A) (hJ : InvF A) (hP : P + 260 ≤ 10000000) (ht : t < A.1) (hs : s < 30) (hw : s_away A t s = !b) (hy4 : y4 = nI (s_en A (s_find A 11 s t))) (hb : b = true) (hM : rM 193 0 (s_t1 A t s) h) (hF : x_fm h0 h) : ux_W l G iX6_turns (ux_rm 12 0) (ux_Z G 0 (fun v h' => v = some (.int (nI (s_turnn A t s))) ∧ rM 193 0 (s_turn A t s) h' ∧ x_fm h0 h') (fun _ _ => False)) 42 [some (.ref 192), some (.int (nI t)), some (.int (nI s)), some (.int (if b then 1 else 0)), some (.int y4), some (.int x5), some (.int (iI (s_find A 13 s t)))] [] (h) 0 := by
  obtain ⟨i1, i2, i3, i4, i5, i6⟩ := id hI
  subst hb
  have fr := s_find_r hI 13 s t
  obtain ⟨a1, a2, a3, a4, a5, a6, a7⟩ := s_ei_ok (x := s_find A 11 s t) hI hJ (by omega)
  have eB : s_ei A (s_find A 11 s t) = s_t1 A t s := rfl
  rw [eB] at a1 a2 a3 a4
  obtain ⟨b1, b2, b3, b4, -⟩ := s_ei_ok (x := s_find (s_t1 A t s) 13 s t) a1 a2 (by omega)
  have d1 : (s_t2 A t s).1 = A.1 := b3.trans a3
  have d2 : (s_t2 A t s).2.1 = A.2.1 := b4.trans a4
  obtain ⟨e2a, e2b⟩ := turn_t2 hI hJ (by omega) hw
  unfold m_t2 at e2a
  unfold m_t2n at e2b
  simp only [if_true] at e2a e2b
  refine g_iload dX6_turns_42 rfl ?_
  refine g_iconst (v := (-1)) dX6_turns_44 (by decide) ?_
  refine g_icmp_eq (tgt := 79) dX6_turns_45 (by decide) (fun c45 => ?_) (fun c45 => ?_)
  · rw [xqm (by omega) (by omega)] at c45
    rw [if_pos c45] at e2a e2b
    skip
    first
    | exact tX6_turns (l := l) (G := G) hI hJ hP ht hs hw rfl hM2 (x_fm_tr hF hF2) d1 d2
    | exact tX6_turns (l := l) (G := G) hI hJ hP ht hs hw (by rw [hy4]; unfold s_turnn; rw [← e2b]; rfl) (e2a ▸ hM) hF d1 d2
  · rw [xqm (by omega) (by omega)] at c45
    rw [if_neg c45] at e2a e2b
    refine g_iload dX6_turns_48 rfl ?_
    refine g_aload_n dX6_turns_50 rfl ?_
    refine g_iload dX6_turns_51 rfl ?_
    refine g_top (y := nI (s_find A 13 s t).toNat) (iI_get (by omega) (by omega)) ?_
    refine q_V (u' := 0) lX6_156 kX6_endsAll (mX6_endsAll (l9 := (s_find A 13 s t).toNat) hM a1 (HO_of a2) (H3_of a2) (by omega) (by omega)) dX6_turns_53 rfl rfl rfl rfl rfl rfl rfl rfl (fun v h53 hq => ?_) (fun _ _ q => q.elim)
    obtain ⟨rfl, hM2, hF2⟩ := hq
    rw [e2a] at hM2
    dsimp only [Option.toList, List.cons_append, List.nil_append]
    refine g_iadd dX6_turns_56 ?_
    refine g_top (y := nI (s_turnn A t s)) (by rw [hy4, nI_add]; unfold s_turnn; rw [← e2b]) ?_
    refine s_iw dX6_turns_57 rfl rfl rfl ?_
    dsimp only [List.set]
    refine g_goto (tgt := 79) dX6_turns_59 (by decide) ?_
    first
    | exact tX6_turns (l := l) (G := G) hI hJ hP ht hs hw rfl hM2 (x_fm_tr hF hF2) d1 d2
    | exact tX6_turns (l := l) (G := G) hI hJ hP ht hs hw (by rw [hy4]; unfold s_turnn; rw [← e2b]; rfl) (e2a ▸ hM) hF d1 d2
set_option maxRecDepth 100000 in
theorem mX6_turns {l : Launch} {G : ux_G} {h : ux_H} {A : Ab} {P t s : Nat} {b : Bool} (hM : rM 193 0 A h) (hI : Inv P A) (hJ : InvF A) (hP : P + 260 ≤ 10000000) (ht : t < A.1) (hs : s < 30) (hw : s_away A t s = !b) : ux_M l G yX6_turns iX6_turns 12 0 [.ref 192, .int (nI t), .int (nI s), .int (if b then 1 else 0)] h (fun v h' => v = some (.int (nI (s_turnn A t s))) ∧ rM 193 0 (s_turn A t s) h' ∧ x_fm h h') (fun _ _ => False) := by
  refine ux_ent (L' := [some (.ref 192), some (.int (nI t)), some (.int (nI s)), some (.int (if b then 1 else 0)), none, none, none]) kX6_turns rfl rfl rfl rfl ?_
  obtain ⟨i1, i2, i3, i4, i5, i6⟩ := id hI
  have fr := s_find_r hI 11 s t
  have fr2 := s_find_r hI 13 s t
  obtain ⟨a1, a2, a3, a4, a5, a6, a7⟩ := s_ei_ok (x := s_find A 11 s t) hI hJ (by omega)
  have eB : s_ei A (s_find A 11 s t) = s_t1 A t s := rfl
  rw [eB] at a1 a2 a3 a4
  obtain ⟨b1, b2, b3, b4, -⟩ := s_ei_ok (x := s_find (s_t1 A t s) 13 s t) a1 a2 (by omega)
  have d1 : (s_t2 A t s).1 = A.1 := b3.trans a3
  have d2 : (s_t2 A t s).2.1 = A.2.1 := b4.trans a4
  obtain ⟨e2a, e2b⟩ := turn_t2 hI hJ (by omega) hw
  unfold m_t2 at e2a
  unfold m_t2n at e2b
  obtain ⟨e1a, e1b⟩ := turn_t1 hI hJ hw
  unfold m_t1 at e1a
  unfold m_t1n at e1b
  refine g_iconst (v := 0) dX6_turns_0 (by decide) ?_
  refine s_iw dX6_turns_1 rfl rfl rfl ?_
  dsimp only [List.set]
  refine g_aload_n dX6_turns_3 rfl ?_
  refine g_iload_n dX6_turns_4 rfl ?_
  refine g_top (nI_iI s) ?_
  refine g_iconst (v := 3) dX6_turns_5 (by decide) ?_
  refine g_iload_n dX6_turns_6 rfl ?_
  refine g_top (nI_iI t) ?_
  refine f1_V (u' := 0) lX6_165 kX6_find (mX6_find (f := 11) (s := (s : Int)) (v := (t : Int)) hM hI rfl (by omega) (by omega) (fun i hi => by have := i6 i hi; omega) (find_un hJ (by decide) _ _)) dX6_turns_7 rfl rfl rfl rfl rfl rfl rfl rfl ?_
  refine s_iw dX6_turns_10 rfl rfl rfl ?_
  dsimp only [List.set]
  refine g_aload_n dX6_turns_12 rfl ?_
  refine g_iload_n dX6_turns_13 rfl ?_
  refine g_top (nI_iI s) ?_
  refine g_iconst (v := 5) dX6_turns_14 (by decide) ?_
  refine g_iload_n dX6_turns_15 rfl ?_
  refine g_top (nI_iI t) ?_
  refine f1_V (u' := 0) lX6_165 kX6_find (mX6_find (f := 13) (s := (s : Int)) (v := (t : Int)) hM hI rfl (by omega) (by omega) (fun i hi => by have := i6 i hi; omega) (find_un13 hJ _ _)) dX6_turns_16 rfl rfl rfl rfl rfl rfl rfl rfl ?_
  refine s_iw dX6_turns_19 rfl rfl rfl ?_
  dsimp only [List.set]
  refine g_iload_n dX6_turns_21 rfl ?_
  refine g_if_eq (tgt := 62) dX6_turns_22 (by decide) (fun c22 => ?_) (fun c22 => ?_)
  · have qb : b = false := by cases b with | false => rfl | true => exact absurd c22 (by decide)
    subst qb
    simp only [Bool.false_eq_true, if_false] at e1a e1b e2a e2b
    rw [ite_self] at e2a e2b
    refine g_iload dX6_turns_62 rfl ?_
    refine g_iconst (v := (-1)) dX6_turns_64 (by decide) ?_
    refine g_icmp_eq (tgt := 79) dX6_turns_65 (by decide) (fun c65 => ?_) (fun c65 => ?_)
    · rw [xqm (by omega) (by omega)] at c65
      rw [if_pos c65] at e1a e1b
      first
      | exact tX6_turns (l := l) (G := G) hI hJ hP ht hs hw rfl (e2a ▸ hM1) hF1 d1 d2
      | exact tX6_turns (l := l) (G := G) hI hJ hP ht hs hw (by unfold s_turnn; rw [← e1b, ← e2b]; rfl) (e2a ▸ (e1a ▸ hM)) (x_fm_rf h) d1 d2
    · rw [xqm (by omega) (by omega)] at c65
      rw [if_neg c65] at e1a e1b
      refine g_iload dX6_turns_68 rfl ?_
      refine g_aload_n dX6_turns_70 rfl ?_
      refine g_iload dX6_turns_71 rfl ?_
      refine g_top (y := nI (s_find A 11 s t).toNat) (iI_get (by omega) (by omega)) ?_
      refine q_V (u' := 0) lX6_156 kX6_endsAll (mX6_endsAll (l9 := (s_find A 11 s t).toNat) hM hI (HO_of hJ) (H3_of hJ) (by omega) (by omega)) dX6_turns_73 rfl rfl rfl rfl rfl rfl rfl rfl (fun v h73 hq => ?_) (fun _ _ q => q.elim)
      obtain ⟨rfl, hM1, hF1⟩ := hq
      rw [e1a] at hM1
      dsimp only [Option.toList, List.cons_append, List.nil_append]
      refine g_iadd dX6_turns_76 ?_
      refine g_top (y := nI (s_turnn A t s)) (by rw [show (0 : Int32) = nI 0 by decide, nI_add]; unfold s_turnn; rw [← e1b, ← e2b]; congr 1; omega) ?_
      refine s_iw dX6_turns_77 rfl rfl rfl ?_
      dsimp only [List.set]
      first
      | exact tX6_turns (l := l) (G := G) hI hJ hP ht hs hw rfl (e2a ▸ hM1) hF1 d1 d2
      | exact tX6_turns (l := l) (G := G) hI hJ hP ht hs hw (by unfold s_turnn; rw [← e1b, ← e2b]; rfl) (e2a ▸ (e1a ▸ hM)) (x_fm_rf h) d1 d2
  · have qb : b = true := by cases b with | true => rfl | false => exact absurd rfl c22
    subst qb
    simp only [if_true] at e1a e1b
    refine g_iload dX6_turns_25 rfl ?_
    refine g_iconst (v := (-1)) dX6_turns_27 (by decide) ?_
    refine g_icmp_eq (tgt := 42) dX6_turns_28 (by decide) (fun c28 => ?_) (fun c28 => ?_)
    · rw [xqm (by omega) (by omega)] at c28
      rw [if_pos c28] at e1a e1b
      first
      | exact uX6_turns (l := l) (G := G) hI hJ hP ht hs hw rfl rfl hM1 hF1
      | exact uX6_turns (l := l) (G := G) hI hJ hP ht hs hw (by rw [← e1b]; rfl) rfl (e1a ▸ hM) (x_fm_rf h)
    · rw [xqm (by omega) (by omega)] at c28
      rw [if_neg c28] at e1a e1b
      refine g_iload dX6_turns_31 rfl ?_
      refine g_aload_n dX6_turns_33 rfl ?_
      refine g_iload dX6_turns_34 rfl ?_
      refine g_top (y := nI (s_find A 11 s t).toNat) (iI_get (by omega) (by omega)) ?_
      refine q_V (u' := 0) lX6_98 kX6_endsHosted (mX6_endsHosted (l9 := (s_find A 11 s t).toNat) hM hI (HO_of hJ) (H3_of hJ) (by omega) (by omega)) dX6_turns_36 rfl rfl rfl rfl rfl rfl rfl rfl (fun v h36 hq => ?_) (fun _ _ q => q.elim)
      obtain ⟨rfl, hM1, hF1⟩ := hq
      rw [e1a] at hM1
      dsimp only [Option.toList, List.cons_append, List.nil_append]
      refine g_iadd dX6_turns_39 ?_
      refine g_top (y := nI (s_en A (s_find A 11 s t))) (by rw [show (0 : Int32) = nI 0 by decide, nI_add, ← e1b]; congr 1; omega) ?_
      refine s_iw dX6_turns_40 rfl rfl rfl ?_
      dsimp only [List.set]
      first
      | exact uX6_turns (l := l) (G := G) hI hJ hP ht hs hw rfl rfl hM1 hF1
      | exact uX6_turns (l := l) (G := G) hI hJ hP ht hs hw (by rw [← e1b]; rfl) rfl (e1a ▸ hM) (x_fm_rf h)
set_option maxRecDepth 100000 in
theorem mX6_setAbsent {l : Launch} {G : ux_G} {h : ux_H} {a b : Int} {z : Bool} {Hs : List Ab} {A : Ab} {P : Nat} (hM : rM 193 0 A h) (hK : rK Hs h) (hI : Inv P A) (hJ : InvF A) (hP : P + 3000 ≤ 10000000) (ra : -2147483648 ≤ a ∧ a ≤ 2147483647) (rb : -2147483648 ≤ b ∧ b ≤ 2147483647) : ux_M l G yX6_setAbsent iX6_setAbsent 14 0 [.ref 192, .int (iI a), .int (iI b), .int (if z then 1 else 0)] h (Q6 (k_setAbsent A a b z) (nI (s_turnn A a.toNat b)) A (s_turn A a.toNat b) Hs h) (fun _ _ => False) := by
  refine ux_ent (L' := [some (.ref 192), some (.int (iI a)), some (.int (iI b)), some (.int (if z then 1 else 0))]) kX6_setAbsent rfl rfl rfl rfl ?_
  obtain ⟨i1, i2, i3, i4, i5, i6⟩ := id hI
  refine g_aload_n dX6_setAbsent_0 rfl ?_
  refine g_iconst (v := 0) dX6_setAbsent_1 (by decide) ?_
  refine g_puti pX6_44 dX6_setAbsent_2 rfl rfl ?_
  have hM0 := rM_0t (j := 0) (x := 0) (Or.inl rfl) hM
  have hK0 := rK_0t (j := 0) (x := 0) (by decide) hK
  have hF0 := x_fN_0 h 0
  refine g_aload_n dX6_setAbsent_5 rfl ?_
  refine g_iload_n dX6_setAbsent_6 rfl ?_
  refine f1_V (u' := 0) lX6_119 kX6_isTeacher (mX6_isTeacher hM0 (by omega) (by omega)) dX6_setAbsent_7 rfl rfl rfl rfl rfl rfl rfl rfl ?_
  refine g_if_eq (tgt := 20) dX6_setAbsent_10 (by decide) (fun c10 => ?_) (fun c10 => ?_)
  · have q10 := xb_0.mp c10
    refine g_aload_n dX6_setAbsent_20 rfl ?_
    refine g_iconst (v := 1) dX6_setAbsent_21 (by decide) ?_
    refine f1_V (u' := 0) lX6_107 kX6_raises (mX6_raises) dX6_setAbsent_22 rfl rfl rfl rfl rfl rfl rfl rfl ?_
    refine g_ireturn dX6_setAbsent_25 rfl rfl (by decide) ?_
    exact q6_no (c := 1) (by unfold k_setAbsent; (repeat' split) <;> first | rfl | omega | contradiction) (by decide) hM0 hK0 hF0
  · have q10 := xb_n0 c10
    refine g_iload_n dX6_setAbsent_13 rfl ?_
    refine f1_S (u' := 0) lX6_142 kX6_isSlot (mX6_isSlot (by omega)) dX6_setAbsent_14 rfl rfl rfl rfl rfl rfl ?_
    refine g_if_ne (tgt := 26) dX6_setAbsent_17 (by decide) (fun c17 => ?_) (fun c17 => ?_)
    · have q17 := xb_n0 c17
      obtain ⟨s9, rfl⟩ : ∃ s9 : Nat, b = (s9 : Int) := ⟨b.toNat, by omega⟩
      refine g_aload_n dX6_setAbsent_26 rfl ?_
      refine g_iload_n dX6_setAbsent_27 rfl ?_
      refine g_top (y := nI a.toNat) (iI_get (by omega) (by omega)) ?_
      refine g_iload_n dX6_setAbsent_28 rfl ?_
      refine f1_V (u' := 0) lX6_81 kX6_isAway (mX6_isAway hM0 hI (by omega)) dX6_setAbsent_29 rfl rfl rfl rfl rfl rfl rfl rfl ?_
      refine g_iload_n dX6_setAbsent_32 rfl ?_
      refine g_icmp_ne (tgt := 42) dX6_setAbsent_33 (by decide) (fun c33 => ?_) (fun c33 => ?_)
      · have q33 : ¬ s_away A a.toNat (s9 : Int) = z := fun y => c33 (by rw [y])
        have q33b : s_away A a.toNat (s9 : Int) = !z := by
          cases e : s_away A a.toNat (s9 : Int) <;> cases z <;> first | rfl | exact absurd e q33 | (rw [e] at q33; exact absurd rfl q33)
        refine g_aload_n dX6_setAbsent_42 rfl ?_
        refine q_V (u' := 0) lX6_68 kX6_changes (mX6_changes hM0 (by omega) (by omega) hK0) dX6_setAbsent_43 rfl rfl rfl rfl rfl rfl rfl rfl (fun v h43 hq => ?_) (fun _ _ q => q.elim)
        obtain ⟨rfl, hK1, hFc⟩ := hq
        have hM1 := rM_c9 hM0 hFc (Or.inl rfl)
        have hF1 := x_fT_c hFc
        dsimp only [Option.toList, List.cons_append, List.nil_append]
        refine g_aload_n dX6_setAbsent_46 rfl ?_
        refine g_iload_n dX6_setAbsent_47 rfl ?_
        refine g_top (y := nI a.toNat) (iI_get (by omega) (by omega)) ?_
        refine g_iload_n dX6_setAbsent_48 rfl ?_
        refine g_top (iI_n s9) ?_
        refine g_iload_n dX6_setAbsent_49 rfl ?_
        refine q_V (u' := 0) lX6_169 kX6_turns (mX6_turns (t := a.toNat) (s := s9) hM1 hI hJ (by omega) (by omega) (by omega) q33b) dX6_setAbsent_50 rfl rfl rfl rfl rfl rfl rfl rfl (fun v h50 hq => ?_) (fun _ _ q => q.elim)
        obtain ⟨rfl, hM2, hF2⟩ := hq
        dsimp only [Option.toList, List.cons_append, List.nil_append]
        refine g_ireturn dX6_setAbsent_53 rfl rfl (by decide) ?_
        exact q6_ok (by unfold k_setAbsent; rw [if_neg (by omega), if_neg q33]) hM2 (rK_m hK1 hF2) (x_fT_tr hF1 (x_fT_m hF2))
      · have q33 : s_away A a.toNat (s9 : Int) = z := x_bb c33
        refine g_aload_n dX6_setAbsent_36 rfl ?_
        refine g_iconst (v := 2) dX6_setAbsent_37 (by decide) ?_
        refine f1_V (u' := 0) lX6_107 kX6_raises (mX6_raises) dX6_setAbsent_38 rfl rfl rfl rfl rfl rfl rfl rfl ?_
        refine g_ireturn dX6_setAbsent_41 rfl rfl (by decide) ?_
        exact q6_no (c := 2) (by unfold k_setAbsent; rw [if_neg (by omega), if_pos q33]) (by decide) hM0 hK0 hF0
    · have q17 := xb_0.mp c17
      refine g_aload_n dX6_setAbsent_20 rfl ?_
      refine g_iconst (v := 1) dX6_setAbsent_21 (by decide) ?_
      refine f1_V (u' := 0) lX6_107 kX6_raises (mX6_raises) dX6_setAbsent_22 rfl rfl rfl rfl rfl rfl rfl rfl ?_
      refine g_ireturn dX6_setAbsent_25 rfl rfl (by decide) ?_
      exact q6_no (c := 1) (by unfold k_setAbsent; (repeat' split) <;> first | rfl | omega | contradiction) (by decide) hM0 hK0 hF0
