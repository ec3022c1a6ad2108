/-! THE REFERENCE: averages, audits; undo, save, restore; reasons; signs. -/
def QD (K : Nat) (y : UInt64) (A : Ab) (Hs : List Ab) (h : ux_H) (v : Option Value) (h' : ux_H) : Prop := (∃ z, v = some (.double z) ∧ (K = 0 → z = y)) ∧ xgi h' 192 0 = nI K ∧ rM 193 0 A h' ∧ rK Hs h' ∧ x_fN h h'
theorem qd_n {K c : Nat} {y z : UInt64} {A : Ab} {Hs : List Ab} {h h1 : ux_H} (hk : K = c) (hc : c ≠ 0) (hM : rM 193 0 A h1) (hK : rK Hs h1) (hF : x_fN h h1) : QD K y A Hs h (some (.double z)) (xsi h1 192 0 (nI c)) := by
  subst hk
  exact ⟨⟨z, rfl, fun q => absurd q hc⟩, xgi_si _ _ _ _, rM_0t (Or.inl rfl) hM, rK_0t (by decide) hK, x_fN_tr hF (x_fN_0 _ _)⟩
set_option maxRecDepth 100000 in
theorem wX6_avg {l : Launch} {G : ux_G} {h9 h : ux_H} {Hs : List Ab} {A : Ab} {P : Nat} (hM0 : rM 193 0 A h) (hK0 : rK Hs h) (hI : Inv P A) (hJ : InvF A) (eh : h = xsi h9 192 0 0) {a : Int} (ha : 0 < a ∧ a < 2 ^ A.1) (h8 : a < 256) : ∀ (n : Nat) (j : Nat), j ≤ A.1 → A.1 - j < n → ux_W l G iX6_averagePoints (ux_rm 6 0) (ux_Z G 0 (QD (k_avg A a) (x_avg A a) A Hs h9) (fun _ _ => False)) 43 [some (.ref 192), some (.int (iI a)), some (.int (iI (s_psum A (iI a) j))), some (.int (nI j))] [] (h) 0 := by
  intro n
  induction n with
  | zero => intro j hj hn; exact absurd hn (Nat.not_lt_zero _)
  | succ n ih =>
    intro j hj hn
    obtain ⟨i1, i2, i3, i4, i5, i6⟩ := id hI
    refine g_iload_n dX6_averagePoints_43 rfl ?_
    refine g_aload_n dX6_averagePoints_44 rfl ?_
    refine f1_V (u' := 0) lX6_62 kX6_teachers (mX6_teachers hM0) dX6_averagePoints_45 rfl rfl rfl rfl rfl rfl rfl rfl ?_
    refine g_icmp_ge (tgt := 74) dX6_averagePoints_48 (by decide) (fun c48 => ?_) (fun c48 => ?_)
    · have e : j = A.1 := by have := xlt_i c48 (by omega) (by omega); omega
      subst e
      refine g_iload_n dX6_averagePoints_74 rfl ?_
      refine g_i2d dX6_averagePoints_75 ?_
      refine g_iload_n dX6_averagePoints_76 rfl ?_
      refine f1_S (u' := 0) lX6_223 kJ6_bitCount_0f7a4 (mJ6_bitCount_0f7a4) dX6_averagePoints_77 rfl rfl rfl rfl rfl rfl ?_
      refine g_i2d dX6_averagePoints_80 ?_
      refine g_ddiv dX6_averagePoints_81 (x_avg_nn (A := A) ha.1 h8) ?_
      refine g_dreturn dX6_averagePoints_82 rfl (by decide) ?_
      subst eh
      exact ⟨⟨_, rfl, fun _ => rfl⟩, by rw [show k_avg A a = 0 by unfold k_avg; rw [if_neg (by omega), if_neg (by omega)]]; exact xgi_si _ _ _ _, hM0, hK0, x_fN_0 _ _⟩
    · have hlt : j < A.1 := xnl_i c48 (by omega) (by omega)
      have tl := i4 j hlt
      refine g_iload_n dX6_averagePoints_51 rfl ?_
      refine g_iload_n dX6_averagePoints_52 rfl ?_
      refine g_top (nI_iI j) ?_
      refine f1_S (u' := 0) lX6_74 kX6_has (mX6_has) dX6_averagePoints_53 rfl rfl rfl rfl rfl rfl ?_
      refine g_if_eq (tgt := 68) dX6_averagePoints_56 (by decide) (fun c56 => ?_) (fun c56 => ?_)
      · have q56 := xb_0.mp c56
        refine s_inc (v := nI (j + 1)) dX6_averagePoints_68 rfl nI_s rfl rfl rfl ?_
        dsimp only [List.set]
        refine g_goto (tgt := 43) dX6_averagePoints_71 (by decide) ?_
        have e0 : s_psum A (iI a) (j + 1) = s_psum A (iI a) j + (if iI a >>> (nI j &&& 31) &&& 1 = 0 then 0 else aF A 4 j) := rfl
        rw [if_pos ((s_bit_0 rfl (nI_iI j)).mpr q56), Int.add_zero] at e0
        have ih9 := ih (j + 1) (by omega) (by omega)
        rw [e0] at ih9
        exact ih9
      · have q56 := xb_n0 c56
        refine g_iload_n dX6_averagePoints_59 rfl ?_
        refine g_aload_n dX6_averagePoints_60 rfl ?_
        refine g_iload_n dX6_averagePoints_61 rfl ?_
        refine g_iconst (v := 4) dX6_averagePoints_62 (by decide) ?_
        refine f1_V (u' := 0) lX6_70 kX6_by (mX6_by (f := 4) hM0 (by omega) rfl (by omega)) dX6_averagePoints_63 rfl rfl rfl rfl rfl rfl rfl rfl ?_
        refine g_iadd dX6_averagePoints_66 ?_
        refine g_top (iI_add _ _) ?_
        refine s_i (i := 2) dX6_averagePoints_67 rfl rfl rfl rfl ?_
        dsimp only [List.set]
        refine s_inc (v := nI (j + 1)) dX6_averagePoints_68 rfl nI_s rfl rfl rfl ?_
        dsimp only [List.set]
        refine g_goto (tgt := 43) dX6_averagePoints_71 (by decide) ?_
        have e0 : s_psum A (iI a) (j + 1) = s_psum A (iI a) j + (if iI a >>> (nI j &&& 31) &&& 1 = 0 then 0 else aF A 4 j) := rfl
        rw [if_neg (fun y => ((s_bit_0 rfl (nI_iI j)).mp y) q56)] at e0
        have ih9 := ih (j + 1) (by omega) (by omega)
        rw [e0] at ih9
        exact ih9
set_option maxRecDepth 100000 in
theorem mX6_averagePoints {l : Launch} {G : ux_G} {h : ux_H} {a : Int} {Hs : List Ab} {A : Ab} {P : Nat} (hM : rM 193 0 A h) (hK : rK Hs h) (hI : Inv P A) (hJ : InvF A) (ra : -2147483648 ≤ a ∧ a ≤ 2147483647) : ux_M l G yX6_averagePoints iX6_averagePoints 6 0 [.ref 192, .int (iI a)] h (QD (k_avg A a) (x_avg A a) A Hs h) (fun _ _ => False) := by
  refine ux_ent (L' := [some (.ref 192), some (.int (iI a)), none, none]) kX6_averagePoints rfl rfl rfl rfl ?_
  obtain ⟨i1, i2, i3, i4, i5, i6⟩ := id hI
  refine g_aload_n dX6_averagePoints_0 rfl ?_
  refine g_iconst (v := 0) dX6_averagePoints_1 (by decide) ?_
  refine g_puti pX6_44 dX6_averagePoints_2 rfl rfl ?_
  have hM0 := rM_0t (j := 0) (x := 0) (Or.inl rfl) hM
  have hK0 := rK_0t (j := 0) (x := 0) (by decide) hK
  have hF0 := x_fN_0 h 0
  refine g_iload_n dX6_averagePoints_5 rfl ?_
  refine g_iconst (v := 0) dX6_averagePoints_6 (by decide) ?_
  refine g_iconst (v := 1) dX6_averagePoints_7 (by decide) ?_
  refine g_aload_n dX6_averagePoints_8 rfl ?_
  refine f1_V (u' := 0) lX6_62 kX6_teachers (mX6_teachers hM0) dX6_averagePoints_9 rfl rfl rfl rfl rfl rfl rfl rfl ?_
  refine g_ishl dX6_averagePoints_12 ?_
  refine g_iconst (v := 1) dX6_averagePoints_13 (by decide) ?_
  refine g_isub dX6_averagePoints_14 ?_
  have p8 := pow_8 i1
  have p0 : (0 : Int) < 2 ^ A.1 := Int.pow_pos (by decide)
  refine g_top (pow_m1 _ i1) ?_
  refine f1_S (u' := 0) lX6_58 kX6_in (mX6_in) dX6_averagePoints_15 rfl rfl rfl rfl rfl rfl ?_
  refine g_if_ne (tgt := 28) dX6_averagePoints_18 (by decide) (fun c18 => ?_) (fun c18 => ?_)
  · have q18 : 0 ≤ a ∧ a < 2 ^ A.1 := by have := (x_rg (a := a) (lo := 0) (hi := 2 ^ A.1 - 1) rfl rfl ra (by decide) (by omega)).mp (xb_n0 c18); omega
    refine g_iload_n dX6_averagePoints_28 rfl ?_
    refine g_if_ne (tgt := 39) dX6_averagePoints_29 (by decide) (fun c29 => ?_) (fun c29 => ?_)
    · have q29 : a ≠ 0 := fun y => c29 (by rw [y]; rfl)
      refine g_iconst (v := 0) dX6_averagePoints_39 (by decide) ?_
      refine s_i (i := 2) dX6_averagePoints_40 rfl rfl rfl rfl ?_
      dsimp only [List.set]
      refine g_iconst (v := 0) dX6_averagePoints_41 (by decide) ?_
      refine s_i (i := 3) dX6_averagePoints_42 rfl rfl rfl rfl ?_
      dsimp only [List.set]
      exact wX6_avg (l := l) (G := G) (h9 := h) hM0 hK0 hI hJ rfl ⟨by omega, q18.2⟩ (by omega) (A.1 + 1) 0 (Nat.zero_le _) (by omega)
    · have q29 : a = 0 := (xq0 (by omega) (by omega)).mp c29
      refine g_aload_n dX6_averagePoints_32 rfl ?_
      refine g_iconst (v := 2) dX6_averagePoints_33 (by decide) ?_
      refine f1_V (u' := 0) lX6_107 kX6_raises (mX6_raises) dX6_averagePoints_34 rfl rfl rfl rfl rfl rfl rfl rfl ?_
      refine g_i2d dX6_averagePoints_37 ?_
      refine g_dreturn dX6_averagePoints_38 rfl (by decide) ?_
      exact qd_n (c := 2) (by unfold k_avg; rw [if_neg (by omega), if_pos q29]) (by decide) hM0 hK0 hF0
  · have q18 : ¬ (0 ≤ a ∧ a < 2 ^ A.1) := fun y => xb_0.mp c18 ((x_rg (a := a) (lo := 0) (hi := 2 ^ A.1 - 1) rfl rfl ra (by decide) (by omega)).mpr (by omega))
    refine g_aload_n dX6_averagePoints_21 rfl ?_
    refine g_iconst (v := 1) dX6_averagePoints_22 (by decide) ?_
    refine f1_V (u' := 0) lX6_107 kX6_raises (mX6_raises) dX6_averagePoints_23 rfl rfl rfl rfl rfl rfl rfl rfl ?_
    refine g_i2d dX6_averagePoints_26 ?_
    refine g_dreturn dX6_averagePoints_27 rfl (by decide) ?_
    exact qd_n (c := 1) (by unfold k_avg; rw [if_pos q18]) (by decide) hM0 hK0 hF0
set_option maxRecDepth 100000 in
theorem vX6_audit {l : Launch} {G : ux_G} {h9 h : ux_H} {Hs : List Ab} {A : Ab} {P : Nat} (hM0 : rM 193 0 A h) (hK0 : rK Hs h) (hI : Inv P A) (hJ : InvF A) (eh : h = xsi h9 192 0 0) {t : Nat} (ht : t < A.1) (K : ux_W l G iX6_audit (ux_rm 7 0) (ux_Z G 0 (QR (0) (nI (s_cnt (fun t => decide (aF A 4 t ≠ s_anew A t A.2.1)) A.1)) A Hs h9) (fun _ _ => False)) 111 [some (.ref 192), some (.int (nI (s_cnt (fun t => decide (aF A 4 t ≠ s_anew A t A.2.1)) t))), some (.int (nI t)), some (.int (iI (s_anew A t A.2.1))), none] [] h 0) : ∀ (n : Nat) (j : Nat) (x : Int), j ≤ A.2.1 → x = s_anew A t j → A.2.1 - j < n → ux_W l G iX6_audit (ux_rm 7 0) (ux_Z G 0 (QR (0) (nI (s_cnt (fun t => decide (aF A 4 t ≠ s_anew A t A.2.1)) A.1)) A Hs h9) (fun _ _ => False)) 22 [some (.ref 192), some (.int (nI (s_cnt (fun t => decide (aF A 4 t ≠ s_anew A t A.2.1)) t))), some (.int (nI t)), some (.int (iI x)), some (.int (nI j))] [] (h) 0 := by
  intro n
  induction n with
  | zero => intro j x hj hx hn; exact absurd hn (Nat.not_lt_zero _)
  | succ n ih =>
    intro j x hj hx hn
    obtain ⟨i1, i2, i3, i4, i5, i6⟩ := id hI
    refine g_iload dX6_audit_22 rfl ?_
    refine g_aload_n dX6_audit_24 rfl ?_
    refine f1_V (u' := 0) lX6_54 kX6_lessons (mX6_lessons hM0) dX6_audit_25 rfl rfl rfl rfl rfl rfl rfl rfl ?_
    refine g_icmp_ge (tgt := 111) dX6_audit_28 (by decide) (fun c28 => ?_) (fun c28 => ?_)
    · have e : j = A.2.1 := by have := xlt_i c28 (by omega) (by omega); omega
      subst e
      refine g_fg 4 rfl ?_
      dsimp only [List.set]
      rw [hx]
      exact K
    · have hlt : j < A.2.1 := xnl_i c28 (by omega) (by omega)
      have il := i6 j hlt
      have hr := s_st_r A j
      have e0 : s_anew A t (j + 1) = s_anew A t j + (if aF A 13 j = t then s_worth A j t else 0) + (if aF A 14 j = -1 then 0 else (if s_act A (aF A 14 j).toNat = t then 1 else 0) + (if s_act A (aF A 15 j).toNat = t then 1 else 0)) := rfl
      have e3 := hJ.2.2.1 j hlt
      have w9 := s_worth_r A j t
      refine g_aload_n dX6_audit_31 rfl ?_
      refine g_iload dX6_audit_32 rfl ?_
      refine g_iconst (v := 5) dX6_audit_34 (by decide) ?_
      refine f1_V (u' := 0) lX6_78 kX6_of (mX6_of (f := 13) hM0 (by omega) rfl (by omega)) dX6_audit_35 rfl rfl rfl rfl rfl rfl rfl rfl ?_
      refine g_iload_n dX6_audit_38 rfl ?_
      refine g_icmp_ne (tgt := 52) dX6_audit_39 (by decide) (fun c39 => ?_) (fun c39 => ?_)
      · rw [xq (by omega) (by omega) (by omega)] at c39
        refine g_aload_n dX6_audit_52 rfl ?_
        refine g_iload dX6_audit_53 rfl ?_
        refine g_bipush (v := 6) dX6_audit_55 (by decide) ?_
        refine f1_V (u' := 0) lX6_78 kX6_of (mX6_of (f := 14) hM0 (by omega) rfl (by omega)) dX6_audit_57 rfl rfl rfl rfl rfl rfl rfl rfl ?_
        refine g_iconst (v := (-1)) dX6_audit_60 (by decide) ?_
        refine g_icmp_ne (tgt := 67) dX6_audit_61 (by decide) (fun c61 => ?_) (fun c61 => ?_)
        · rw [xqm (by omega) (by omega)] at c61
          have ra9 := s_act_r hI (i := (aF A 14 j).toNat) (by omega)
          have rb9 := s_act_r hI (i := (aF A 15 j).toNat) (by omega)
          refine g_aload_n dX6_audit_67 rfl ?_
          refine g_aload_n dX6_audit_68 rfl ?_
          refine g_iload dX6_audit_69 rfl ?_
          refine g_bipush (v := 6) dX6_audit_71 (by decide) ?_
          refine f1_V (u' := 0) lX6_78 kX6_of (mX6_of (f := 14) hM0 (by omega) rfl (by omega)) dX6_audit_73 rfl rfl rfl rfl rfl rfl rfl rfl ?_
          refine g_top (y := nI (aF A 14 j).toNat) (iI_get (by omega) (by omega)) ?_
          refine f1_V (u' := 0) lX6_87 kX6_acting (mX6_acting hM0 hI (by omega)) dX6_audit_76 rfl rfl rfl rfl rfl rfl rfl rfl ?_
          refine g_iload_n dX6_audit_79 rfl ?_
          refine g_icmp_ne (tgt := 86) dX6_audit_80 (by decide) (fun c80 => ?_) (fun c80 => ?_)
          · rw [xq (by omega) (by omega) (by omega)] at c80
            refine g_aload_n dX6_audit_86 rfl ?_
            refine g_aload_n dX6_audit_87 rfl ?_
            refine g_iload dX6_audit_88 rfl ?_
            refine g_bipush (v := 7) dX6_audit_90 (by decide) ?_
            refine f1_V (u' := 0) lX6_78 kX6_of (mX6_of (f := 15) hM0 (by omega) rfl (by omega)) dX6_audit_92 rfl rfl rfl rfl rfl rfl rfl rfl ?_
            refine g_top (y := nI (aF A 15 j).toNat) (iI_get (by omega) (by omega)) ?_
            refine f1_V (u' := 0) lX6_87 kX6_acting (mX6_acting hM0 hI (by omega)) dX6_audit_95 rfl rfl rfl rfl rfl rfl rfl rfl ?_
            refine g_iload_n dX6_audit_98 rfl ?_
            refine g_icmp_ne (tgt := 105) dX6_audit_99 (by decide) (fun c99 => ?_) (fun c99 => ?_)
            · rw [xq (by omega) (by omega) (by omega)] at c99
              refine s_inc (v := nI (j + 1)) dX6_audit_105 rfl nI_s rfl rfl rfl ?_
              dsimp only [List.set]
              refine g_goto (tgt := 22) dX6_audit_108 (by decide) ?_
              refine ih (j + 1) _ (by omega) ?_ (by omega)
              rw [e0, hx]
              repeat' split
              all_goals omega
            · rw [xq (by omega) (by omega) (by omega)] at c99
              refine s_inc (v := _) dX6_audit_102 rfl (iI_add _ 1) rfl rfl rfl ?_
              dsimp only [List.set]
              refine s_inc (v := nI (j + 1)) dX6_audit_105 rfl nI_s rfl rfl rfl ?_
              dsimp only [List.set]
              refine g_goto (tgt := 22) dX6_audit_108 (by decide) ?_
              refine ih (j + 1) _ (by omega) ?_ (by omega)
              rw [e0, hx]
              repeat' split
              all_goals omega
          · rw [xq (by omega) (by omega) (by omega)] at c80
            refine s_inc (v := _) dX6_audit_83 rfl (iI_add _ 1) rfl rfl rfl ?_
            dsimp only [List.set]
            refine g_aload_n dX6_audit_86 rfl ?_
            refine g_aload_n dX6_audit_87 rfl ?_
            refine g_iload dX6_audit_88 rfl ?_
            refine g_bipush (v := 7) dX6_audit_90 (by decide) ?_
            refine f1_V (u' := 0) lX6_78 kX6_of (mX6_of (f := 15) hM0 (by omega) rfl (by omega)) dX6_audit_92 rfl rfl rfl rfl rfl rfl rfl rfl ?_
            refine g_top (y := nI (aF A 15 j).toNat) (iI_get (by omega) (by omega)) ?_
            refine f1_V (u' := 0) lX6_87 kX6_acting (mX6_acting hM0 hI (by omega)) dX6_audit_95 rfl rfl rfl rfl rfl rfl rfl rfl ?_
            refine g_iload_n dX6_audit_98 rfl ?_
            refine g_icmp_ne (tgt := 105) dX6_audit_99 (by decide) (fun c99 => ?_) (fun c99 => ?_)
            · rw [xq (by omega) (by omega) (by omega)] at c99
              refine s_inc (v := nI (j + 1)) dX6_audit_105 rfl nI_s rfl rfl rfl ?_
              dsimp only [List.set]
              refine g_goto (tgt := 22) dX6_audit_108 (by decide) ?_
              refine ih (j + 1) _ (by omega) ?_ (by omega)
              rw [e0, hx]
              repeat' split
              all_goals omega
            · rw [xq (by omega) (by omega) (by omega)] at c99
              refine s_inc (v := _) dX6_audit_102 rfl (iI_add _ 1) rfl rfl rfl ?_
              dsimp only [List.set]
              refine s_inc (v := nI (j + 1)) dX6_audit_105 rfl nI_s rfl rfl rfl ?_
              dsimp only [List.set]
              refine g_goto (tgt := 22) dX6_audit_108 (by decide) ?_
              refine ih (j + 1) _ (by omega) ?_ (by omega)
              rw [e0, hx]
              repeat' split
              all_goals omega
        · rw [xqm (by omega) (by omega)] at c61
          refine g_goto (tgt := 105) dX6_audit_64 (by decide) ?_
          refine s_inc (v := nI (j + 1)) dX6_audit_105 rfl nI_s rfl rfl rfl ?_
          dsimp only [List.set]
          refine g_goto (tgt := 22) dX6_audit_108 (by decide) ?_
          refine ih (j + 1) _ (by omega) ?_ (by omega)
          rw [e0, hx]
          repeat' split
          all_goals omega
      · rw [xq (by omega) (by omega) (by omega)] at c39
        refine g_iload_n dX6_audit_42 rfl ?_
        refine g_aload_n dX6_audit_43 rfl ?_
        refine g_iload dX6_audit_44 rfl ?_
        refine g_iload_n dX6_audit_46 rfl ?_
        refine f1_V (u' := 0) lX6_101 kX6_worth (mX6_worth hM0 hI hlt ht) dX6_audit_47 rfl rfl rfl rfl rfl rfl rfl rfl ?_
        refine g_iadd dX6_audit_50 ?_
        first | refine g_top (iI_add _ _) ?_
        refine s_i (i := 3) dX6_audit_51 rfl rfl rfl rfl ?_
        dsimp only [List.set]
        refine g_aload_n dX6_audit_52 rfl ?_
        refine g_iload dX6_audit_53 rfl ?_
        refine g_bipush (v := 6) dX6_audit_55 (by decide) ?_
        refine f1_V (u' := 0) lX6_78 kX6_of (mX6_of (f := 14) hM0 (by omega) rfl (by omega)) dX6_audit_57 rfl rfl rfl rfl rfl rfl rfl rfl ?_
        refine g_iconst (v := (-1)) dX6_audit_60 (by decide) ?_
        refine g_icmp_ne (tgt := 67) dX6_audit_61 (by decide) (fun c61 => ?_) (fun c61 => ?_)
        · rw [xqm (by omega) (by omega)] at c61
          have ra9 := s_act_r hI (i := (aF A 14 j).toNat) (by omega)
          have rb9 := s_act_r hI (i := (aF A 15 j).toNat) (by omega)
          refine g_aload_n dX6_audit_67 rfl ?_
          refine g_aload_n dX6_audit_68 rfl ?_
          refine g_iload dX6_audit_69 rfl ?_
          refine g_bipush (v := 6) dX6_audit_71 (by decide) ?_
          refine f1_V (u' := 0) lX6_78 kX6_of (mX6_of (f := 14) hM0 (by omega) rfl (by omega)) dX6_audit_73 rfl rfl rfl rfl rfl rfl rfl rfl ?_
          refine g_top (y := nI (aF A 14 j).toNat) (iI_get (by omega) (by omega)) ?_
          refine f1_V (u' := 0) lX6_87 kX6_acting (mX6_acting hM0 hI (by omega)) dX6_audit_76 rfl rfl rfl rfl rfl rfl rfl rfl ?_
          refine g_iload_n dX6_audit_79 rfl ?_
          refine g_icmp_ne (tgt := 86) dX6_audit_80 (by decide) (fun c80 => ?_) (fun c80 => ?_)
          · rw [xq (by omega) (by omega) (by omega)] at c80
            refine g_aload_n dX6_audit_86 rfl ?_
            refine g_aload_n dX6_audit_87 rfl ?_
            refine g_iload dX6_audit_88 rfl ?_
            refine g_bipush (v := 7) dX6_audit_90 (by decide) ?_
            refine f1_V (u' := 0) lX6_78 kX6_of (mX6_of (f := 15) hM0 (by omega) rfl (by omega)) dX6_audit_92 rfl rfl rfl rfl rfl rfl rfl rfl ?_
            refine g_top (y := nI (aF A 15 j).toNat) (iI_get (by omega) (by omega)) ?_
            refine f1_V (u' := 0) lX6_87 kX6_acting (mX6_acting hM0 hI (by omega)) dX6_audit_95 rfl rfl rfl rfl rfl rfl rfl rfl ?_
            refine g_iload_n dX6_audit_98 rfl ?_
            refine g_icmp_ne (tgt := 105) dX6_audit_99 (by decide) (fun c99 => ?_) (fun c99 => ?_)
            · rw [xq (by omega) (by omega) (by omega)] at c99
              refine s_inc (v := nI (j + 1)) dX6_audit_105 rfl nI_s rfl rfl rfl ?_
              dsimp only [List.set]
              refine g_goto (tgt := 22) dX6_audit_108 (by decide) ?_
              refine ih (j + 1) _ (by omega) ?_ (by omega)
              rw [e0, hx]
              repeat' split
              all_goals omega
            · rw [xq (by omega) (by omega) (by omega)] at c99
              refine s_inc (v := _) dX6_audit_102 rfl (iI_add _ 1) rfl rfl rfl ?_
              dsimp only [List.set]
              refine s_inc (v := nI (j + 1)) dX6_audit_105 rfl nI_s rfl rfl rfl ?_
              dsimp only [List.set]
              refine g_goto (tgt := 22) dX6_audit_108 (by decide) ?_
              refine ih (j + 1) _ (by omega) ?_ (by omega)
              rw [e0, hx]
              repeat' split
              all_goals omega
          · rw [xq (by omega) (by omega) (by omega)] at c80
            refine s_inc (v := _) dX6_audit_83 rfl (iI_add _ 1) rfl rfl rfl ?_
            dsimp only [List.set]
            refine g_aload_n dX6_audit_86 rfl ?_
            refine g_aload_n dX6_audit_87 rfl ?_
            refine g_iload dX6_audit_88 rfl ?_
            refine g_bipush (v := 7) dX6_audit_90 (by decide) ?_
            refine f1_V (u' := 0) lX6_78 kX6_of (mX6_of (f := 15) hM0 (by omega) rfl (by omega)) dX6_audit_92 rfl rfl rfl rfl rfl rfl rfl rfl ?_
            refine g_top (y := nI (aF A 15 j).toNat) (iI_get (by omega) (by omega)) ?_
            refine f1_V (u' := 0) lX6_87 kX6_acting (mX6_acting hM0 hI (by omega)) dX6_audit_95 rfl rfl rfl rfl rfl rfl rfl rfl ?_
            refine g_iload_n dX6_audit_98 rfl ?_
            refine g_icmp_ne (tgt := 105) dX6_audit_99 (by decide) (fun c99 => ?_) (fun c99 => ?_)
            · rw [xq (by omega) (by omega) (by omega)] at c99
              refine s_inc (v := nI (j + 1)) dX6_audit_105 rfl nI_s rfl rfl rfl ?_
              dsimp only [List.set]
              refine g_goto (tgt := 22) dX6_audit_108 (by decide) ?_
              refine ih (j + 1) _ (by omega) ?_ (by omega)
              rw [e0, hx]
              repeat' split
              all_goals omega
            · rw [xq (by omega) (by omega) (by omega)] at c99
              refine s_inc (v := _) dX6_audit_102 rfl (iI_add _ 1) rfl rfl rfl ?_
              dsimp only [List.set]
              refine s_inc (v := nI (j + 1)) dX6_audit_105 rfl nI_s rfl rfl rfl ?_
              dsimp only [List.set]
              refine g_goto (tgt := 22) dX6_audit_108 (by decide) ?_
              refine ih (j + 1) _ (by omega) ?_ (by omega)
              rw [e0, hx]
              repeat' split
              all_goals omega
        · rw [xqm (by omega) (by omega)] at c61
          refine g_goto (tgt := 105) dX6_audit_64 (by decide) ?_
          refine s_inc (v := nI (j + 1)) dX6_audit_105 rfl nI_s rfl rfl rfl ?_
          dsimp only [List.set]
          refine g_goto (tgt := 22) dX6_audit_108 (by decide) ?_
          refine ih (j + 1) _ (by omega) ?_ (by omega)
          rw [e0, hx]
          repeat' split
          all_goals omega
set_option maxRecDepth 100000 in
theorem wX6_audit {l : Launch} {G : ux_G} {h9 h : ux_H} {Hs : List Ab} {A : Ab} {P : Nat} (hM0 : rM 193 0 A h) (hK0 : rK Hs h) (hI : Inv P A) (hJ : InvF A) (eh : h = xsi h9 192 0 0) : ∀ (n : Nat) (j : Nat), j ≤ A.1 → A.1 - j < n → ux_W l G iX6_audit (ux_rm 7 0) (ux_Z G 0 (QR (0) (nI (s_cnt (fun t => decide (aF A 4 t ≠ s_anew A t A.2.1)) A.1)) A Hs h9) (fun _ _ => False)) 9 [some (.ref 192), some (.int (nI (s_cnt (fun t => decide (aF A 4 t ≠ s_anew A t A.2.1)) j))), some (.int (nI j)), none, none] [] (h) 0 := by
  intro n
  induction n with
  | zero => intro j hj hn; exact absurd hn (Nat.not_lt_zero _)
  | succ n ih =>
    intro j hj hn
    obtain ⟨i1, i2, i3, i4, i5, i6⟩ := id hI
    refine g_iload_n dX6_audit_9 rfl ?_
    refine g_aload_n dX6_audit_10 rfl ?_
    refine f1_V (u' := 0) lX6_62 kX6_teachers (mX6_teachers hM0) dX6_audit_11 rfl rfl rfl rfl rfl rfl rfl rfl ?_
    refine g_icmp_ge (tgt := 130) dX6_audit_14 (by decide) (fun c14 => ?_) (fun c14 => ?_)
    · have e : j = A.1 := by have := xlt_i c14 (by omega) (by omega); omega
      subst e
      refine g_iload_n dX6_audit_130 rfl ?_
      refine g_ireturn dX6_audit_131 rfl rfl (by decide) ?_
      subst eh
      exact qr_k rfl (rfl) hM0 hK0
    · have hlt : j < A.1 := xnl_i c14 (by omega) (by omega)
      have tl := i4 j hlt
      refine g_iconst (v := 0) dX6_audit_17 (by decide) ?_
      refine s_i (i := 3) dX6_audit_18 rfl rfl rfl rfl ?_
      dsimp only [List.set]
      refine g_iconst (v := 0) dX6_audit_19 (by decide) ?_
      refine s_iw dX6_audit_20 rfl rfl rfl ?_
      dsimp only [List.set]
      refine vX6_audit (l := l) (G := G) (h9 := h9) (t := j) hM0 hK0 hI hJ eh hlt ?_ (A.2.1 + 1) 0 0 (Nat.zero_le _) rfl (by omega)
      refine g_iload_n dX6_audit_111 rfl ?_
      refine g_aload_n dX6_audit_112 rfl ?_
      refine g_iload_n dX6_audit_113 rfl ?_
      refine g_iconst (v := 4) dX6_audit_114 (by decide) ?_
      refine f1_V (u' := 0) lX6_70 kX6_by (mX6_by (f := 4) hM0 (by omega) rfl (by omega)) dX6_audit_115 rfl rfl rfl rfl rfl rfl rfl rfl ?_
      have an := s_anew_r A j A.2.1
      refine g_icmp_eq (tgt := 124) dX6_audit_118 (by decide) (fun c118 => ?_) (fun c118 => ?_)
      · rw [iI_eq (by omega) (by omega) (by omega) (by omega)] at c118
        replace c118 := c118.symm
        refine s_inc (v := nI (j + 1)) dX6_audit_124 rfl nI_s rfl rfl rfl ?_
        dsimp only [List.set]
        refine g_goto (tgt := 9) dX6_audit_127 (by decide) ?_
        refine g_fg 3 rfl ?_
        dsimp only [List.set]
        rw [s_cnt_f (P := fun t => decide (aF A 4 t ≠ s_anew A t A.2.1)) (n := j) (by simp [c118])]
        exact ih (j + 1) (by omega) (by omega)
      · rw [iI_eq (by omega) (by omega) (by omega) (by omega)] at c118
        replace c118 : ¬ aF A 4 j = s_anew A j A.2.1 := fun y => c118 y.symm
        refine s_inc (v := nI (s_cnt (fun t => decide (aF A 4 t ≠ s_anew A t A.2.1)) j + 1)) dX6_audit_121 rfl nI_s rfl rfl rfl ?_
        dsimp only [List.set]
        refine s_inc (v := nI (j + 1)) dX6_audit_124 rfl nI_s rfl rfl rfl ?_
        dsimp only [List.set]
        refine g_goto (tgt := 9) dX6_audit_127 (by decide) ?_
        refine g_fg 3 rfl ?_
        dsimp only [List.set]
        rw [s_cnt_t (P := fun t => decide (aF A 4 t ≠ s_anew A t A.2.1)) (n := j) (by simp [c118])]
        exact ih (j + 1) (by omega) (by omega)
set_option maxRecDepth 100000 in
theorem mX6_audit {l : Launch} {G : ux_G} {h : ux_H}  {Hs : List Ab} {A : Ab} {P : Nat} (hM : rM 193 0 A h) (hK : rK Hs h) (hI : Inv P A) (hJ : InvF A) : ux_M l G yX6_audit iX6_audit 7 0 [.ref 192] h (QR (0) (nI (s_cnt (fun t => decide (aF A 4 t ≠ s_anew A t A.2.1)) A.1)) A Hs h) (fun _ _ => False) := by
  refine ux_ent (L' := [some (.ref 192), none, none, none, none]) kX6_audit rfl rfl rfl rfl ?_
  obtain ⟨i1, i2, i3, i4, i5, i6⟩ := id hI
  refine g_aload_n dX6_audit_0 rfl ?_
  refine g_iconst (v := 0) dX6_audit_1 (by decide) ?_
  refine g_puti pX6_44 dX6_audit_2 rfl rfl ?_
  have hM0 := rM_0t (j := 0) (x := 0) (Or.inl rfl) hM
  have hK0 := rK_0t (j := 0) (x := 0) (by decide) hK
  have hF0 := x_fN_0 h 0
  refine g_iconst (v := 0) dX6_audit_5 (by decide) ?_
  refine s_i (i := 1) dX6_audit_6 rfl rfl rfl rfl ?_
  dsimp only [List.set]
  refine g_iconst (v := 0) dX6_audit_7 (by decide) ?_
  refine s_i (i := 2) dX6_audit_8 rfl rfl rfl rfl ?_
  dsimp only [List.set]
  exact wX6_audit (l := l) (G := G) (h9 := h) hM0 hK0 hI hJ rfl (A.1 + 1) 0 (Nat.zero_le _) (by omega)
set_option maxRecDepth 100000 in
theorem mX6_refusal {l : Launch} {G : ux_G} {h : ux_H} {m : Int} (hm : xgi h 192 10 = iI m) (rm : -1 ≤ m ∧ m ≤ 100) {Hs : List Ab} {A : Ab} {P : Nat} (hM : rM 193 0 A h) (hK : rK Hs h) (hI : Inv P A) (hJ : InvF A) : ux_M l G yX6_refusal iX6_refusal 2 0 [.ref 192] h (QR (if m = 0 then 1 else 0) (iI m) A Hs h) (fun _ _ => False) := by
  refine ux_ent (L' := [some (.ref 192)]) kX6_refusal rfl rfl rfl rfl ?_
  obtain ⟨i1, i2, i3, i4, i5, i6⟩ := id hI
  refine g_aload_n dX6_refusal_0 rfl ?_
  refine g_iconst (v := 0) dX6_refusal_1 (by decide) ?_
  refine g_puti pX6_44 dX6_refusal_2 rfl rfl ?_
  have hM0 := rM_0t (j := 0) (x := 0) (Or.inl rfl) hM
  have hK0 := rK_0t (j := 0) (x := 0) (by decide) hK
  have hF0 := x_fN_0 h 0
  refine g_aload_n dX6_refusal_5 rfl ?_
  refine g_geti fX6_191 dX6_refusal_6 rfl rfl ?_
  refine g_top (y := iI m) ((xgi_ne _ _ _ _ _ _ (by decide)).trans hm) ?_
  refine g_if_ne (tgt := 20) dX6_refusal_9 (by decide) (fun c9 => ?_) (fun c9 => ?_)
  · rw [xq0 (by omega) (by omega)] at c9
    refine g_aload_n dX6_refusal_20 rfl ?_
    refine g_geti fX6_191 dX6_refusal_21 rfl rfl ?_
    refine g_top (y := iI m) ((xgi_ne _ _ _ _ _ _ (by decide)).trans hm) ?_
    refine g_ireturn dX6_refusal_24 rfl rfl (by decide) ?_
    first | exact qr_k (by rw [if_neg c9]) rfl hM0 hK0 | exact qr_n (c := 1) (by rw [if_pos c9]) (by decide) hM0 hK0 hF0
  · rw [xq0 (by omega) (by omega)] at c9
    refine g_aload_n dX6_refusal_12 rfl ?_
    refine g_iconst (v := 1) dX6_refusal_13 (by decide) ?_
    refine f1_V (u' := 0) lX6_107 kX6_raises (mX6_raises) dX6_refusal_14 rfl rfl rfl rfl rfl rfl rfl rfl ?_
    refine g_goto (tgt := 24) dX6_refusal_17 (by decide) ?_
    refine g_ireturn dX6_refusal_24 rfl rfl (by decide) ?_
    first | exact qr_k (by rw [if_neg c9]) rfl hM0 hK0 | exact qr_n (c := 1) (by rw [if_pos c9]) (by decide) hM0 hK0 hF0
set_option maxRecDepth 100000 in
theorem mX6_errorPosition {l : Launch} {G : ux_G} {h : ux_H} {m : Int} (hm : xgi h 192 9 = iI m) (rm : -1 ≤ m ∧ m ≤ 100) {Hs : List Ab} {A : Ab} {P : Nat} (hM : rM 193 0 A h) (hK : rK Hs h) (hI : Inv P A) (hJ : InvF A) : ux_M l G yX6_errorPosition iX6_errorPosition 2 0 [.ref 192] h (QR (if m = -1 then 1 else 0) (iI m) A Hs h) (fun _ _ => False) := by
  refine ux_ent (L' := [some (.ref 192)]) kX6_errorPosition rfl rfl rfl rfl ?_
  obtain ⟨i1, i2, i3, i4, i5, i6⟩ := id hI
  refine g_aload_n dX6_errorPosition_0 rfl ?_
  refine g_iconst (v := 0) dX6_errorPosition_1 (by decide) ?_
  refine g_puti pX6_44 dX6_errorPosition_2 rfl rfl ?_
  have hM0 := rM_0t (j := 0) (x := 0) (Or.inl rfl) hM
  have hK0 := rK_0t (j := 0) (x := 0) (by decide) hK
  have hF0 := x_fN_0 h 0
  refine g_aload_n dX6_errorPosition_5 rfl ?_
  refine g_geti fX6_25 dX6_errorPosition_6 rfl rfl ?_
  refine g_top (y := iI m) ((xgi_ne _ _ _ _ _ _ (by decide)).trans hm) ?_
  refine g_iconst (v := (-1)) dX6_errorPosition_9 (by decide) ?_
  refine g_icmp_ne (tgt := 21) dX6_errorPosition_10 (by decide) (fun c10 => ?_) (fun c10 => ?_)
  · rw [xqm (by omega) (by omega)] at c10
    refine g_aload_n dX6_errorPosition_21 rfl ?_
    refine g_geti fX6_25 dX6_errorPosition_22 rfl rfl ?_
    refine g_top (y := iI m) ((xgi_ne _ _ _ _ _ _ (by decide)).trans hm) ?_
    refine g_ireturn dX6_errorPosition_25 rfl rfl (by decide) ?_
    first | exact qr_k (by rw [if_neg c10]) rfl hM0 hK0 | exact qr_n (c := 1) (by rw [if_pos c10]) (by decide) hM0 hK0 hF0
  · rw [xqm (by omega) (by omega)] at c10
    refine g_aload_n dX6_errorPosition_13 rfl ?_
    refine g_iconst (v := 1) dX6_errorPosition_14 (by decide) ?_
    refine f1_V (u' := 0) lX6_107 kX6_raises (mX6_raises) dX6_errorPosition_15 rfl rfl rfl rfl rfl rfl rfl rfl ?_
    refine g_goto (tgt := 25) dX6_errorPosition_18 (by decide) ?_
    refine g_ireturn dX6_errorPosition_25 rfl rfl (by decide) ?_
    first | exact qr_k (by rw [if_neg c10]) rfl hM0 hK0 | exact qr_n (c := 1) (by rw [if_pos c10]) (by decide) hM0 hK0 hF0
set_option maxRecDepth 100000 in
theorem mX6_undo0 {l : Launch} {G : ux_G} {h : ux_H} {A : Ab} (hM : rM 193 0 A h) (hK : rK [] h) : ux_M l G yX6_undo iX6_undo 2 0 [.ref 192] h (fun v h' => v = some (.int 0) ∧ xgi h' 192 0 = 1 ∧ rM 193 0 A h' ∧ rK [] h' ∧ x_fN h h') (fun _ _ => False) := by
  refine ux_ent (L' := [some (.ref 192), none]) kX6_undo rfl rfl rfl rfl ?_
  refine g_aload_n dX6_undo_0 rfl ?_
  refine g_iconst (v := 0) dX6_undo_1 (by decide) ?_
  refine g_puti pX6_44 dX6_undo_2 rfl rfl ?_
  refine g_aload_n dX6_undo_5 rfl ?_
  refine g_geti fX6_65 dX6_undo_6 rfl rfl ?_
  refine g_top (y := 0) ((xgi_ne _ _ _ _ _ _ (by decide)).trans hK.1) ?_
  refine g_if_ne (tgt := 18) dX6_undo_9 (by decide) (fun c9 => ?_) (fun c9 => ?_)
  · exact absurd rfl c9
  · refine g_aload_n dX6_undo_12 rfl ?_
    refine g_iconst (v := 1) dX6_undo_13 (by decide) ?_
    refine f1_V (u' := 0) lX6_107 kX6_raises (mX6_raises) dX6_undo_14 rfl rfl rfl rfl rfl rfl rfl rfl ?_
    refine g_ireturn dX6_undo_17 rfl rfl (by decide) ?_
    exact ⟨rfl, xgi_si _ _ _ _, rM_0t (Or.inl rfl) (rM_0t (Or.inl rfl) hM), rK_0t (by decide) (rK_0t (by decide) hK), x_fN_tr (x_fN_0 _ _) (x_fN_0 _ _)⟩
set_option maxRecDepth 100000 in
theorem wX6_undo {l : Launch} {G : ux_G} {h9 h0 : ux_H} {B : Ab} {Hs : List Ab} (hB : rM 196 (376 * Hs.length) B h0) (b1 : B.1 ≤ 8) (b2 : B.2.1 ≤ 40) (h8 : Hs.length < 8) (hK : rK Hs h0) (h00 : xgi h0 192 0 = 0) (hF9 : x_fN h9 h0) : ∀ (n : Nat) (j : Nat) (h : ux_H), j ≤ 376 → (∀ m, m < j → xgi h 193 (0 + m) = xgi h0 196 (376 * Hs.length + m)) → x_fk 193 h0 h → 376 - j < n → ux_W l G iX6_undo (ux_rm 2 0) (ux_Z G 0 (fun v h' => v = some (.int (nI Hs.length)) ∧ xgi h' 192 0 = 0 ∧ rM 193 0 B h' ∧ rK Hs h' ∧ x_fN h9 h') (fun _ _ => False)) 30 [some (.ref 192), some (.int (nI j))] [] (h) 0 := by
  intro n
  induction n with
  | zero => intro j h hj hE hF hn; exact absurd hn (Nat.not_lt_zero _)
  | succ n ih =>
    intro j h hj hE hF hn
    refine g_iload_n dX6_undo_30 rfl ?_
    refine g_sipush (v := 376) dX6_undo_31 (by decide) ?_
    refine g_icmp_ge (tgt := 64) dX6_undo_34 (by decide) (fun c34 => ?_) (fun c34 => ?_)
    · have e : j = 376 := by rw [show (376 : Int32) = nI 376 by decide] at c34; have := xlt_i c34 (by omega) (by omega); omega
      subst e
      refine g_aload_n dX6_undo_64 rfl ?_
      refine g_geti fX6_65 dX6_undo_65 rfl rfl ?_
      refine g_top (y := nI Hs.length) ((x_fk_g hF (by decide) 6).trans hK.1) ?_
      refine g_ireturn dX6_undo_68 rfl rfl (by decide) ?_
      exact ⟨rfl, (x_fk_g hF (by decide) 0).trans h00, rM_cp hB b1 b2 (fun m hm => hE m hm), rK_k hK hF (by decide), x_fN_tr hF9 (x_fN_T (x_fT_k hF (Or.inl rfl)))⟩
    · have hlt : j < 376 := by rw [show (376 : Int32) = nI 376 by decide] at c34; exact xnl_i c34 (by omega) (by omega)
      refine g_aload_n dX6_undo_37 rfl ?_
      refine g_getr (q := 193) fX6_9 dX6_undo_38 rfl rfl rfl ?_
      refine g_iload_n dX6_undo_41 rfl ?_
      refine g_aload_n dX6_undo_42 rfl ?_
      refine g_getr (q := 196) fX6_19 dX6_undo_43 rfl rfl rfl ?_
      refine g_sipush (v := 376) dX6_undo_46 (by decide) ?_
      refine g_aload_n dX6_undo_49 rfl ?_
      refine g_geti fX6_65 dX6_undo_50 rfl rfl ?_
      refine g_top (y := nI Hs.length) ((x_fk_g hF (by decide) 6).trans hK.1) ?_
      refine g_imul dX6_undo_53 ?_
      refine g_top (y := nI (376 * Hs.length)) (by rw [show (376 : Int32) = nI 376 by decide, pk_mul]) ?_
      refine g_iload_n dX6_undo_54 rfl ?_
      refine g_iadd dX6_undo_55 ?_
      refine g_top (y := nI (376 * Hs.length + j)) (nI_add _ _) ?_
      refine g_iald dX6_undo_56 rfl (show 376 * Hs.length + j < 3008 by omega) rfl ?_
      refine g_iast dX6_undo_57 rfl (show j < 376 by omega) rfl ?_
      refine s_inc (v := nI (j + 1)) dX6_undo_58 rfl nI_s rfl rfl rfl ?_
      dsimp only [List.set]
      refine g_goto (tgt := 30) dX6_undo_61 (by decide) ?_
      have e9 := cp_s (k := 193) (o := 0) (j := j) (g := fun m => xgi h0 196 (376 * Hs.length + m)) (x := xgi h 196 (376 * Hs.length + j)) hE (x_fk_g hF (by decide) _)
      rw [Nat.zero_add] at e9
      exact ih (j + 1) _ (by omega) e9 (x_fk_tr hF (x_fk_si _ _ _ _)) (by omega)
set_option maxRecDepth 100000 in
theorem mX6_undo1 {l : Launch} {G : ux_G} {h : ux_H} {B : Ab} {Hs : List Ab} (hK : rK (B :: Hs) h) : ux_M l G yX6_undo iX6_undo 2 0 [.ref 192] h (fun v h' => v = some (.int (nI Hs.length)) ∧ xgi h' 192 0 = 0 ∧ rM 193 0 B h' ∧ rK Hs h' ∧ x_fN h h') (fun _ _ => False) := by
  refine ux_ent (L' := [some (.ref 192), none]) kX6_undo rfl rfl rfl rfl ?_
  have bb := hK.2.2.1 B List.mem_cons_self
  have ll := hK.2.1
  rw [List.length_cons] at ll
  refine g_aload_n dX6_undo_0 rfl ?_
  refine g_iconst (v := 0) dX6_undo_1 (by decide) ?_
  refine g_puti pX6_44 dX6_undo_2 rfl rfl ?_
  refine g_aload_n dX6_undo_5 rfl ?_
  refine g_geti fX6_65 dX6_undo_6 rfl rfl ?_
  refine g_top (y := nI (Hs.length + 1)) ((xgi_ne _ _ _ _ _ _ (by decide)).trans hK.1) ?_
  refine g_if_ne (tgt := 18) dX6_undo_9 (by decide) (fun c9 => ?_) (fun c9 => ?_)
  · refine g_aload_n dX6_undo_18 rfl ?_
    refine g_dup dX6_undo_19 rfl ?_
    refine g_geti fX6_65 dX6_undo_20 rfl rfl ?_
    refine g_top (y := nI (Hs.length + 1)) ((xgi_ne _ _ _ _ _ _ (by decide)).trans hK.1) ?_
    refine g_iconst (v := 1) dX6_undo_23 (by decide) ?_
    refine g_isub dX6_undo_24 ?_
    refine g_top (y := nI Hs.length) (pk_sub (a := Hs.length + 1) (b := 1) (by omega)) ?_
    refine g_puti pX6_65 dX6_undo_25 rfl rfl ?_
    refine g_iconst (v := 0) dX6_undo_28 (by decide) ?_
    refine s_i (i := 1) dX6_undo_29 rfl rfl rfl rfl ?_
    dsimp only [List.set]
    exact wX6_undo (l := l) (G := G) (h9 := h) (h0 := xsi (xsi h 192 0 0) 192 6 (nI Hs.length)) (rM_fr (by have := hK.2.2.2 0 B rfl; rwa [show 376 * ((B :: Hs).length - 1 - 0) = 376 * Hs.length by rw [List.length_cons]; omega] at this) (fun j => by unfold xsi xsv; rw [if_neg (by omega), if_neg (by omega)])) bb.1 bb.2 (by omega) ⟨xgi_si _ _ _ _, by omega, fun X hX => hK.2.2.1 X (List.mem_cons_of_mem _ hX), fun k X hX => rM_fr (by have := hK.2.2.2 (k + 1) X (by simpa using hX); rwa [show 376 * ((B :: Hs).length - 1 - (k + 1)) = 376 * (Hs.length - 1 - k) by rw [List.length_cons]; congr 1; omega] at this) (fun j => by unfold xsi xsv; rw [if_neg (by omega), if_neg (by omega)])⟩ ((xgi_ne _ _ _ _ _ _ (by decide)).trans (xgi_si _ _ _ _)) (x_fN_tr (x_fN_0 _ _) (x_fN_T (x_fT_si _ _ (Or.inl rfl)))) 377 0 _ (Nat.zero_le _) (fun m hm => absurd hm (Nat.not_lt_zero _)) (x_fk_rf _ _) (by omega)
  · exact absurd ((nI_eq0 (by omega)).mp c9) (by omega)
