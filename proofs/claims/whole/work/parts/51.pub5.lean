/-! THE CLASS: cover, undo, save, restore; the line of a lesson. -/
def k_cover (A : Ab) (a b : Int) : Nat := if ¬ (0 ≤ a ∧ a < A.2.1) ∨ ¬ (0 ≤ b ∧ b < A.1) then 1 else if s_st A a.toNat ≠ 3 then 2 else if s_bar A a.toNat b.toNat ≠ 0 then 3 else 0
theorem s_begin_worth (A : Ab) (i t : Nat) : s_worth (s_begin A i t) i t = s_worth A i t := by
  have e8 : aF (s_begin A i t) 8 i = aF A 8 i := by rw [s_begin_aF _ _ _ 8 _ (by decide), if_neg (by omega)]
  have e10 : aF (s_begin A i t) 10 i = aF A 10 i := by rw [s_begin_aF _ _ _ 10 _ (by decide), if_neg (by omega)]
  have e1 : aF (s_begin A i t) 1 t = aF A 1 t := by rw [s_begin_aF _ _ _ 1 _ (by decide), if_neg (by omega)]
  unfold s_worth
  rw [e8, e10, e1]
set_option maxRecDepth 100000 in
theorem mX5_cover {l : Launch} {G : ux_G} {h : ux_H} {a b : Int} {A : Ab} {P : Nat} (hC : rC 0 A h) (hI : Inv P A) (hJ : InvF A) {Hs : List Ab} (hH : rH Hs h) (hP : P + 3000 ≤ 10000000) (ra : -2147483648 ≤ a ∧ a ≤ 2147483647) (rb : -2147483648 ≤ b ∧ b ≤ 2147483647) : ux_M l G yX5_cover iX5_cover 7 4 [.ref 176, .int (iI a), .int (iI b)] h (fun v h' => v = some (.int (iI (s_worth A a.toNat b.toNat))) ∧ k_cover A a b = 0 ∧ rC 0 (s_begin A a.toNat b.toNat) h' ∧ rH ((A :: Hs).take 8) h' ∧ x_frD h h') (fun E h' => xc (k_cover A a b) ["java/lang/IndexOutOfBoundsException", "java/lang/IllegalStateException", "java/lang/UnsupportedOperationException"] E ∧ h' = if k_cover A a b = 3 then xsi h 176 8 (iI (s_bar A a.toNat b.toNat)) else h) := by
  refine ux_ent (L' := [some (.ref 176), some (.int (iI a)), some (.int (iI b)), none]) kX5_cover rfl rfl rfl rfl ?_
  obtain ⟨i1, i2, i3, i4, i5, i6⟩ := id hI
  obtain ⟨w, hw⟩ := hH
  refine g_aload_n dX5_cover_0 rfl ?_
  refine g_iload_n dX5_cover_1 rfl ?_
  refine q_V (u' := 1) lX5_144 kX5_needLesson (mX5_needLesson hC (by omega) (by omega) (by omega)) dX5_cover_2 rfl rfl rfl rfl rfl rfl rfl rfl (fun v h2 hq => ?_) (fun E hx q => g_out rfl (by decide) (by obtain ⟨rfl, rfl, q3⟩ := q; have hK : k_cover A a b = 1 := (by unfold k_cover; (repeat' split) <;> first | rfl | omega | contradiction); exact ⟨xc_mk hK (by decide) rfl, by rw [hK, if_neg (by decide)]⟩))
  obtain ⟨rfl, eh2, hq2⟩ := hq
  rw [eh2]
  have hta : a.toNat < A.2.1 := by omega
  rw [iI_get (a := a) (by omega) (by omega)]
  dsimp only [Option.toList, List.cons_append, List.nil_append]
  refine g_aload_n dX5_cover_5 rfl ?_
  refine g_iload_n dX5_cover_6 rfl ?_
  refine q_V (u' := 2) lX5_92 kX5_needTeacher (mX5_needTeacher hC (by omega) (by omega) (by omega)) dX5_cover_7 rfl rfl rfl rfl rfl rfl rfl rfl (fun v h7 hq => ?_) (fun E hx q => g_out rfl (by decide) (by obtain ⟨rfl, rfl, q3⟩ := q; have hK : k_cover A a b = 1 := (by unfold k_cover; (repeat' split) <;> first | rfl | omega | contradiction); exact ⟨xc_mk hK (by decide) rfl, by rw [hK, if_neg (by decide)]⟩))
  obtain ⟨rfl, eh7, hq7⟩ := hq
  rw [eh7]
  have htb : b.toNat < A.1 := by omega
  rw [iI_get (a := b) (by omega) (by omega)]
  dsimp only [Option.toList, List.cons_append, List.nil_append]
  refine g_aload_n dX5_cover_10 rfl ?_
  refine g_iload_n dX5_cover_11 rfl ?_
  refine g_iconst (v := 3) dX5_cover_12 (by decide) ?_
  refine q_V (u' := 3) lX5_250 kX5_needState (mX5_needState (s := 3) hC hI hJ (by assumption) (by decide)) dX5_cover_13 rfl rfl rfl rfl rfl rfl rfl rfl (fun v h13 hq => ?_) (fun E hx q => g_out rfl (by decide) (by obtain ⟨rfl, rfl, q3⟩ := q; have hK : k_cover A a b = 2 := (by unfold k_cover; (repeat' split) <;> first | rfl | omega | contradiction); exact ⟨xc_mk hK (by decide) rfl, by rw [hK, if_neg (by decide)]⟩))
  obtain ⟨rfl, eh13, hq13⟩ := hq
  rw [eh13]
  dsimp only [Option.toList, List.cons_append, List.nil_append]
  refine g_aload_n dX5_cover_16 rfl ?_
  refine g_getr (q := 0) fX5_10 dX5_cover_17 rfl rfl rfl ?_
  refine g_iload_n dX5_cover_20 rfl ?_
  refine g_iload_n dX5_cover_21 rfl ?_
  refine f1_VN (u' := 3) lX5_253 kX4_reasonAgainst (mX4_reasonAgainst hC hI (by assumption) (by assumption)) dX5_cover_22 rfl rfl rfl rfl rfl rfl rfl rfl ?_
  refine s_i (i := 3) dX5_cover_25 rfl rfl rfl rfl ?_
  dsimp only [List.set]
  refine g_iload_n dX5_cover_26 rfl ?_
  refine g_if_eq (tgt := 46) dX5_cover_27 (by decide) (fun c27 => ?_) (fun c27 => ?_)
  · have br := s_bar_r A a.toNat b.toNat
    rw [xq0 (by omega) (by omega)] at c27
    refine g_aload_n dX5_cover_46 rfl ?_
    refine g_getr (q := 177) fX5_25 dX5_cover_47 rfl rfl rfl ?_
    refine g_aload_n dX5_cover_50 rfl ?_
    refine g_getr (q := 0) fX5_10 dX5_cover_51 rfl rfl rfl ?_
    refine q_VN (u' := 3) lX5_84 kX0_remember (mX0_remember hC (by omega) (by omega) x_sc_0 (by decide) hw) dX5_cover_54 rfl rfl rfl rfl rfl rfl rfl rfl (fun v h54 hq => ?_)
    obtain ⟨rfl, hH1, hF1⟩ := hq
    have hC1 := rC_frH hC hF1
    dsimp only [Option.toList, List.cons_append, List.nil_append]
    refine g_aload_n dX5_cover_57 rfl ?_
    refine g_getr (q := 0) fX5_10 dX5_cover_58 rfl rfl rfl ?_
    refine g_iload_n dX5_cover_61 rfl ?_
    refine g_iload_n dX5_cover_62 rfl ?_
    refine q_VN (u' := 3) lX5_266 kX4_beginCover (mX4_beginCover hC1 hI hta htb) dX5_cover_63 rfl rfl rfl rfl rfl rfl rfl rfl (fun v h63 hq => ?_)
    obtain ⟨rfl, hC2, hF2⟩ := hq
    dsimp only [Option.toList, List.cons_append, List.nil_append]
    refine g_aload_n dX5_cover_66 rfl ?_
    refine g_getr (q := 0) fX5_10 dX5_cover_67 rfl rfl rfl ?_
    refine g_iload_n dX5_cover_70 rfl ?_
    refine g_iload_n dX5_cover_71 rfl ?_
    refine f1_VN (u' := 3) lX5_256 kX4_pointsFor (mX4_pointsFor hC2 (s_begin_I hI htb (by omega)) hta htb) dX5_cover_72 rfl rfl rfl rfl rfl rfl rfl rfl ?_
    refine g_top (y := iI (s_worth A a.toNat b.toNat)) (by rw [s_begin_worth]) ?_
    refine g_ireturn dX5_cover_75 rfl rfl (by decide) ?_
    exact ⟨rfl, (by unfold k_cover; (repeat' split) <;> first | rfl | omega | contradiction), hC2, x_fin hF1 hH1 hF2⟩
  · have br := s_bar_r A a.toNat b.toNat
    rw [xq0 (by omega) (by omega)] at c27
    refine g_aload_n dX5_cover_30 rfl ?_
    refine g_iload_n dX5_cover_31 rfl ?_
    refine g_puti pX5_54 dX5_cover_32 rfl rfl ?_
    refine g_throwW tX5_264_138 dX5_cover_35 dX5_cover_38 dX5_cover_39 dX5_cover_42 dX5_cover_45 rfl rfl (by decide) ?_
    have hK : k_cover A a b = 3 := (by unfold k_cover; (repeat' split) <;> first | rfl | omega | contradiction)
    exact ⟨xc_mk hK (by decide) rfl, by rw [hK, if_pos rfl]⟩
set_option maxRecDepth 100000 in
theorem mX5_undo0 {l : Launch} {G : ux_G} {h : ux_H} (hH : rH [] h) : ux_M l G yX5_undo iX5_undo 5 1 [.ref 176] h (fun v h' => False) (fun E h' => E = "java/util/NoSuchElementException" ∧ h' = h) := by
  refine ux_ent (L' := [some (.ref 176)]) kX5_undo rfl rfl rfl rfl ?_
  obtain ⟨w, hw⟩ := hH
  refine g_aload_n dX5_undo_0 rfl ?_
  refine g_getr (q := 177) fX5_25 dX5_undo_1 rfl rfl rfl ?_
  refine g_geti fX5_403 dX5_undo_4 rfl rfl ?_
  refine g_top (y := 0) hw.2.2.1 ?_
  refine g_if_ne (tgt := 21) dX5_undo_7 (by decide) (fun c7 => ?_) (fun c7 => ?_)
  · exact absurd rfl c7
  · refine g_throwNW tX5_406_224 dX5_undo_10 dX5_undo_13 dX5_undo_14 dX5_undo_17 dX5_undo_20 rfl rfl (by decide) ?_
    exact ⟨rfl, rfl⟩
set_option maxRecDepth 100000 in
theorem mX5_undo1 {l : Launch} {G : ux_G} {h : ux_H} {A : Ab} {Hs : List Ab} (hH : rH (A :: Hs) h) (j1 : A.1 ≤ 8) (j2 : A.2.1 ≤ 40) : ux_M l G yX5_undo iX5_undo 5 1 [.ref 176] h (fun v h' => v = some (.int (nI Hs.length)) ∧ rC 0 A h' ∧ rH Hs h' ∧ x_frD h h') (fun E h' => False) := by
  refine ux_ent (L' := [some (.ref 176)]) kX5_undo rfl rfl rfl rfl ?_
  obtain ⟨w, hw⟩ := hH
  have hl := hw.2.2.2.1
  rw [List.length_cons] at hl
  refine g_aload_n dX5_undo_0 rfl ?_
  refine g_getr (q := 177) fX5_25 dX5_undo_1 rfl rfl rfl ?_
  refine g_geti fX5_403 dX5_undo_4 rfl rfl ?_
  refine g_top (y := nI (Hs.length + 1)) hw.2.2.1 ?_
  refine g_if_ne (tgt := 21) dX5_undo_7 (by decide) (fun c7 => ?_) (fun c7 => ?_)
  · refine g_aload_n dX5_undo_21 rfl ?_
    refine g_getr (q := 177) fX5_25 dX5_undo_22 rfl rfl rfl ?_
    refine g_aload_n dX5_undo_25 rfl ?_
    refine g_getr (q := 0) fX5_10 dX5_undo_26 rfl rfl rfl ?_
    refine q_VN (u' := 0) lX5_408 kX0_goBack (mX0_goBack j1 j2 hw) dX5_undo_29 rfl rfl rfl rfl rfl rfl rfl rfl (fun v h29 hq => ?_)
    obtain ⟨rfl, hC29, hH29, hF29⟩ := hq
    dsimp only [Option.toList, List.cons_append, List.nil_append]
    refine g_aload_n dX5_undo_32 rfl ?_
    refine g_getr (q := 177) fX5_25 dX5_undo_33 rfl rfl rfl ?_
    refine g_geti fX5_403 dX5_undo_36 rfl rfl ?_
    refine g_top (y := nI Hs.length) (by obtain ⟨w2, q⟩ := hH29; exact q.2.2.1) ?_
    refine g_ireturn dX5_undo_39 rfl rfl (by decide) ?_
    exact ⟨rfl, hC29, hH29, fun k k1 k2 j => hF29 k k1 (by omega) j⟩
  · exact absurd c7 (by rw [nI_iI, xq0 (by omega) (by omega)]; omega)
def x_save (h : ux_H) : ux_H := xsi (x_cp h 16 0) 176 7 1
set_option maxRecDepth 100000 in
theorem mX5_save {l : Launch} {G : ux_G} {h : ux_H} {A : Ab} (hC : rC 0 A h) : ux_F l G yX5_save iX5_save 3 0 [.ref 176] h (some (.int (nI A.2.1))) (x_save h) := by
  unfold ux_F
  refine ux_ent (L' := [some (.ref 176)]) kX5_save rfl rfl rfl rfl ?_
  refine g_aload_n dX5_save_0 rfl ?_
  refine g_getr (q := 16) fX5_16 dX5_save_1 rfl rfl rfl ?_
  refine g_aload_n dX5_save_4 rfl ?_
  refine g_getr (q := 0) fX5_10 dX5_save_5 rfl rfl rfl ?_
  refine f0_VN (u' := 0) lX5_377 kX4_copyFrom (mX4_copyFrom (ca := 16) (cb := 0) ⟨by decide, by decide⟩ x_sc_0 (by decide)) dX5_save_8 rfl rfl rfl rfl rfl rfl rfl rfl ?_
  refine g_aload_n dX5_save_11 rfl ?_
  refine g_iconst (v := 1) dX5_save_12 (by decide) ?_
  refine g_put pX5_50 dX5_save_13 rfl rfl rfl rfl ?_
  refine g_aload_n dX5_save_16 rfl ?_
  refine g_getr (q := 0) fX5_10 dX5_save_17 rfl rfl rfl ?_
  refine g_geti fX5_61 dX5_save_20 rfl rfl ?_
  refine g_top (y := nI A.2.1) (by rw [xgi_ne _ _ _ _ _ _ (by decide), xgi_cp _ _ _ (by decide)]; exact hC.2.1) ?_
  refine g_ireturn dX5_save_23 rfl rfl (by decide) ?_
  exact ⟨rfl, rfl⟩
def x_rest (h : ux_H) : ux_H := xsi (x_cp h 0 16) 177 2 0
set_option maxRecDepth 100000 in
theorem mX5_restore {l : Launch} {G : ux_G} {h : ux_H} {A : Ab} {sv : Bool} (hS : xgi h 176 7 = if sv then 1 else 0) (hC : sv = true → rC 16 A h ∧ A.1 ≤ 8 ∧ A.2.1 ≤ 40) : ux_M l G yX5_restore iX5_restore 3 1 [.ref 176] h (fun v h' => v = some (.int (nI A.2.1)) ∧ h' = x_rest h ∧ sv = true) (fun E h' => E = "java/lang/IllegalStateException" ∧ h' = h ∧ sv = false) := by
  refine ux_ent (L' := [some (.ref 176)]) kX5_restore rfl rfl rfl rfl ?_
  refine g_aload_n dX5_restore_0 rfl ?_
  refine g_geti fX5_50 dX5_restore_1 rfl rfl ?_
  refine g_top hS ?_
  refine g_if_ne (tgt := 18) dX5_restore_4 (by decide) (fun c4 => ?_) (fun c4 => ?_)
  · have q4 : sv = true := by cases sv; exact absurd rfl c4; rfl
    refine g_aload_n dX5_restore_18 rfl ?_
    refine g_getr (q := 0) fX5_10 dX5_restore_19 rfl rfl rfl ?_
    refine g_aload_n dX5_restore_22 rfl ?_
    refine g_getr (q := 16) fX5_16 dX5_restore_23 rfl rfl rfl ?_
    refine f0_VN (u' := 0) lX5_377 kX4_copyFrom (mX4_copyFrom (ca := 0) (cb := 16) x_sc_0 ⟨by decide, by decide⟩ (by decide)) dX5_restore_26 rfl rfl rfl rfl rfl rfl rfl rfl ?_
    refine g_aload_n dX5_restore_29 rfl ?_
    refine g_getr (q := 177) fX5_25 dX5_restore_30 rfl rfl rfl ?_
    refine f0_VN (u' := 0) lX5_67 kX0_forget (mX0_forget) dX5_restore_33 rfl rfl rfl rfl rfl rfl rfl rfl ?_
    refine g_aload_n dX5_restore_36 rfl ?_
    refine g_getr (q := 0) fX5_10 dX5_restore_37 rfl rfl rfl ?_
    refine g_geti fX5_61 dX5_restore_40 rfl rfl ?_
    refine g_top (y := nI A.2.1) (by rw [xgi_ne _ _ _ _ _ _ (by decide)]; exact (rC_cp x_sc_0 ⟨by decide, by decide⟩ (by decide) (hC q4).1 (hC q4).2.1 (hC q4).2.2).2.1) ?_
    refine g_ireturn dX5_restore_43 rfl rfl (by decide) ?_
    exact ⟨rfl, rfl, q4⟩
  · have q4 : sv = false := by cases sv; rfl; exact absurd c4 (by decide)
    refine g_throwW tX5_411_81 dX5_restore_7 dX5_restore_10 dX5_restore_11 dX5_restore_14 dX5_restore_17 rfl rfl (by decide) ?_
    exact ⟨rfl, rfl, q4⟩
