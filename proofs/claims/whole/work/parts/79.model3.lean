/-! THE REFERENCE: the best, the fullest, what collides. -/
set_option maxRecDepth 100000 in
theorem wX6_suggested {l : Launch} {G : ux_G} {h : ux_H} {i : Nat} {A : Ab} {P : Nat} (hM : rM 193 0 A h) (hI : Inv P A) (hJ : InvF A) (hi : i < A.2.1) : ∀ (n : Nat) (j : Nat) (y : Int), j ≤ A.1 → (s_best A i j ≠ -1 → y = s_shw A i (s_best A i j).toNat) → A.1 - j < n → ux_W l G iX6_suggested (ux_rm 5 0) (ux_Z G 0 (fun vv h' => vv = some (.int (iI (s_best A i A.1))) ∧ h' = h) (fun _ _ => False)) 7 [some (.ref 192), some (.int (nI i)), some (.int (iI (s_best A i j))), some (.int (iI y)), some (.int (nI j)), none, none] [] (h) 0 := by
  intro n
  induction n with
  | zero => intro j y hj hy hn; exact absurd hn (Nat.not_lt_zero _)
  | succ n ih =>
    intro j y hj hy hn
    obtain ⟨i1, i2, i3, i4, i5, i6⟩ := id hI
    have fr := s_best_r A i j
    have br := s_bar_r A i j
    have wr := s_worth_r A i j
    refine g_iload dX6_suggested_7 rfl ?_
    refine g_aload_n dX6_suggested_9 rfl ?_
    refine f1_V (u' := 0) lX6_62 kX6_teachers (mX6_teachers hM) dX6_suggested_10 rfl rfl rfl rfl rfl rfl rfl rfl ?_
    refine g_icmp_ge (tgt := 125) dX6_suggested_13 (by decide) (fun c13 => ?_) (fun c13 => ?_)
    · have e : j = A.1 := by have := xlt_i c13 (by omega) (by omega); omega
      subst e
      refine g_iload_n dX6_suggested_125 rfl ?_
      refine g_ireturn dX6_suggested_126 rfl rfl (by decide) ?_
      exact ⟨rfl, rfl⟩
    · have hlt : j < A.1 := xnl_i c13 (by omega) (by omega)
      have tl := i4 j hlt
      have s1 := s_share_r hI hlt (p := aF A 4 j + s_worth A i j) (B := 10000006) (by omega) (by omega)
      have es : s_shw A i j = s_share A j (aF A 4 j + s_worth A i j) := rfl
      refine g_aload_n dX6_suggested_16 rfl ?_
      refine g_iload_n dX6_suggested_17 rfl ?_
      refine g_iload dX6_suggested_18 rfl ?_
      refine f1_V (u' := 0) lX6_182 kX6_bar (mX6_bar hM hI hJ (by assumption) (by assumption)) dX6_suggested_20 rfl rfl rfl rfl rfl rfl rfl rfl ?_
      refine g_if_le (tgt := 29) dX6_suggested_23 (by decide) (fun c23 => ?_) (fun c23 => ?_)
      · rw [show (0 : Int32) = iI 0 by decide, iI_le (by omega) (by omega) (by omega) (by omega)] at c23
        refine g_aload_n dX6_suggested_29 rfl ?_
        refine g_iload dX6_suggested_30 rfl ?_
        refine g_aload_n dX6_suggested_32 rfl ?_
        refine g_iload dX6_suggested_33 rfl ?_
        refine g_iconst (v := 4) dX6_suggested_35 (by decide) ?_
        refine f1_V (u' := 0) lX6_70 kX6_by (mX6_by (f := 4) hM (by omega) rfl (by assumption)) dX6_suggested_36 rfl rfl rfl rfl rfl rfl rfl rfl ?_
        refine g_aload_n dX6_suggested_39 rfl ?_
        refine g_iload_n dX6_suggested_40 rfl ?_
        refine g_iload dX6_suggested_41 rfl ?_
        refine f1_V (u' := 0) lX6_101 kX6_worth (mX6_worth hM hI (by assumption) (by assumption)) dX6_suggested_43 rfl rfl rfl rfl rfl rfl rfl rfl ?_
        refine g_iadd dX6_suggested_46 ?_
        refine g_top (iI_add _ _) ?_
        refine f1_V (u' := 0) lX6_159 kX6_share (mX6_share hM hI (by omega) (by assumption)) dX6_suggested_47 rfl rfl rfl rfl rfl rfl rfl rfl ?_
        refine s_iw dX6_suggested_50 rfl rfl rfl ?_
        dsimp only [List.set]
        refine g_iload_n dX6_suggested_52 rfl ?_
        refine g_iconst (v := (-1)) dX6_suggested_53 (by decide) ?_
        refine g_icmp_eq (tgt := 98) dX6_suggested_54 (by decide) (fun c54 => ?_) (fun c54 => ?_)
        · rw [xqm (by omega) (by omega)] at c54
          have hb : s_best A i (j + 1) = (j : Int) := by
            show (if _ then _ else _) = _
            rw [if_pos ⟨by omega, Or.inl c54⟩]
          refine g_iconst (v := 1) dX6_suggested_98 (by decide) ?_
          refine g_goto (tgt := 103) dX6_suggested_99 (by decide) ?_
          refine s_iw dX6_suggested_103 rfl rfl rfl ?_
          dsimp only [List.set]
          refine g_iload dX6_suggested_105 rfl ?_
          refine g_if_ne (tgt := 113) dX6_suggested_107 (by decide) (fun c107 => ?_) (fun c107 => ?_)
          · refine g_iload dX6_suggested_113 rfl ?_
            refine s_i (i := 2) dX6_suggested_115 rfl rfl rfl rfl ?_
            dsimp only [List.set]
            refine g_iload dX6_suggested_116 rfl ?_
            refine s_i (i := 3) dX6_suggested_118 rfl rfl rfl rfl ?_
            dsimp only [List.set]
            refine s_inc (v := nI (j + 1)) dX6_suggested_119 rfl nI_s rfl rfl rfl ?_
            dsimp only [List.set]
            refine g_goto (tgt := 7) dX6_suggested_122 (by decide) ?_
            refine g_fg 5 rfl ?_
            dsimp only [List.set]
            refine g_fg 6 rfl ?_
            dsimp only [List.set]
            have ih9 := ih (j + 1) (s_shw A i j) (by omega) (fun _ => by rw [hb]; rfl) (by omega)
            rw [hb, iI_n] at ih9
            exact ih9
          · exact absurd c107 (by decide)
        · rw [xqm (by omega) (by omega)] at c54
          have hb9 : (s_best A i j).toNat < A.1 := by omega
          have ol := i4 (s_best A i j).toNat hb9
          have wr2 := s_worth_r A i (s_best A i j).toNat
          have s2 := s_share_r hI hb9 (p := aF A 4 (s_best A i j).toNat + s_worth A i (s_best A i j).toNat) (B := 10000006) (by omega) (by omega)
          have eo : s_shw A i (s_best A i j).toNat = s_share A (s_best A i j).toNat (aF A 4 (s_best A i j).toNat + s_worth A i (s_best A i j).toNat) := rfl
          have hy2 := hy c54
          refine g_aload_n dX6_suggested_57 rfl ?_
          refine g_iload dX6_suggested_58 rfl ?_
          refine g_iload_n dX6_suggested_60 rfl ?_
          refine f1_V (u' := 0) lX6_185 kX6_knows (mX6_knows hM hI (by assumption) (by assumption)) dX6_suggested_61 rfl rfl rfl rfl rfl rfl rfl rfl ?_
          refine g_if_eq (tgt := 76) dX6_suggested_64 (by decide) (fun c64 => ?_) (fun c64 => ?_)
          · have q64 : ¬ s_has A j i = true := xb_0.mp c64
            refine g_aload_n dX6_suggested_76 rfl ?_
            refine g_iload dX6_suggested_77 rfl ?_
            refine g_iload_n dX6_suggested_79 rfl ?_
            refine f1_V (u' := 0) lX6_185 kX6_knows (mX6_knows hM hI (by assumption) (by assumption)) dX6_suggested_80 rfl rfl rfl rfl rfl rfl rfl rfl ?_
            refine g_aload_n dX6_suggested_83 rfl ?_
            refine g_iload_n dX6_suggested_84 rfl ?_
            refine g_top (y := nI (s_best A i j).toNat) (iI_get (by omega) (by omega)) ?_
            refine g_iload_n dX6_suggested_85 rfl ?_
            refine f1_V (u' := 0) lX6_185 kX6_knows (mX6_knows hM hI (by assumption) (by assumption)) dX6_suggested_86 rfl rfl rfl rfl rfl rfl rfl rfl ?_
            refine g_icmp_ne (tgt := 102) dX6_suggested_89 (by decide) (fun c89 => ?_) (fun c89 => ?_)
            · have q89 : ¬ s_has A j i = s_has A (s_best A i j).toNat i := fun z => c89 (by rw [z])
              have hb : s_best A i (j + 1) = s_best A i j := by
                show (if _ then _ else _) = _
                have hb2 : ¬ s_btr A i j (s_best A i j).toNat = true := by
                  unfold s_btr
                  rw [if_neg q89]
                  intro y
                  first | exact q64 y | exact absurd q64 (fun z => q89 (z.trans q73.symm))
                rw [if_neg (by rintro ⟨-, y | y⟩; exact c54 y; exact hb2 y)]
              refine g_iconst (v := 0) dX6_suggested_102 (by decide) ?_
              refine s_iw dX6_suggested_103 rfl rfl rfl ?_
              dsimp only [List.set]
              refine g_iload dX6_suggested_105 rfl ?_
              refine g_if_ne (tgt := 113) dX6_suggested_107 (by decide) (fun c107 => ?_) (fun c107 => ?_)
              · exact absurd rfl c107
              · refine g_goto (tgt := 119) dX6_suggested_110 (by decide) ?_
                refine s_inc (v := nI (j + 1)) dX6_suggested_119 rfl nI_s rfl rfl rfl ?_
                dsimp only [List.set]
                refine g_goto (tgt := 7) dX6_suggested_122 (by decide) ?_
                refine g_fg 5 rfl ?_
                dsimp only [List.set]
                refine g_fg 6 rfl ?_
                dsimp only [List.set]
                have ih9 := ih (j + 1) y (by omega) (fun z => by rw [hb] at z ⊢; exact hy z) (by omega)
                rw [hb] at ih9
                exact ih9
            · have q89 : s_has A j i = s_has A (s_best A i j).toNat i := x_bb c89
              refine g_iload dX6_suggested_92 rfl ?_
              refine g_iload_n dX6_suggested_94 rfl ?_
              refine g_icmp_ge (tgt := 102) dX6_suggested_95 (by decide) (fun c95 => ?_) (fun c95 => ?_)
              · rw [iI_le (by omega) (by omega) (by omega) (by omega)] at c95
                have hb : s_best A i (j + 1) = s_best A i j := by
                  show (if _ then _ else _) = _
                  have hb2 : ¬ s_btr A i j (s_best A i j).toNat = true := by
                    unfold s_btr
                    rw [if_pos q89]
                    intro y
                    have := of_decide_eq_true y
                    omega
                  rw [if_neg (by rintro ⟨-, y | y⟩; exact c54 y; exact hb2 y)]
                refine g_iconst (v := 0) dX6_suggested_102 (by decide) ?_
                refine s_iw dX6_suggested_103 rfl rfl rfl ?_
                dsimp only [List.set]
                refine g_iload dX6_suggested_105 rfl ?_
                refine g_if_ne (tgt := 113) dX6_suggested_107 (by decide) (fun c107 => ?_) (fun c107 => ?_)
                · exact absurd rfl c107
                · refine g_goto (tgt := 119) dX6_suggested_110 (by decide) ?_
                  refine s_inc (v := nI (j + 1)) dX6_suggested_119 rfl nI_s rfl rfl rfl ?_
                  dsimp only [List.set]
                  refine g_goto (tgt := 7) dX6_suggested_122 (by decide) ?_
                  refine g_fg 5 rfl ?_
                  dsimp only [List.set]
                  refine g_fg 6 rfl ?_
                  dsimp only [List.set]
                  have ih9 := ih (j + 1) y (by omega) (fun z => by rw [hb] at z ⊢; exact hy z) (by omega)
                  rw [hb] at ih9
                  exact ih9
              · rw [iI_le (by omega) (by omega) (by omega) (by omega)] at c95
                have hb : s_best A i (j + 1) = (j : Int) := by
                  show (if _ then _ else _) = _
                  rw [if_pos ⟨by omega, Or.inr (by unfold s_btr; rw [if_pos q89]; exact decide_eq_true (by omega))⟩]
                refine g_iconst (v := 1) dX6_suggested_98 (by decide) ?_
                refine g_goto (tgt := 103) dX6_suggested_99 (by decide) ?_
                refine s_iw dX6_suggested_103 rfl rfl rfl ?_
                dsimp only [List.set]
                refine g_iload dX6_suggested_105 rfl ?_
                refine g_if_ne (tgt := 113) dX6_suggested_107 (by decide) (fun c107 => ?_) (fun c107 => ?_)
                · refine g_iload dX6_suggested_113 rfl ?_
                  refine s_i (i := 2) dX6_suggested_115 rfl rfl rfl rfl ?_
                  dsimp only [List.set]
                  refine g_iload dX6_suggested_116 rfl ?_
                  refine s_i (i := 3) dX6_suggested_118 rfl rfl rfl rfl ?_
                  dsimp only [List.set]
                  refine s_inc (v := nI (j + 1)) dX6_suggested_119 rfl nI_s rfl rfl rfl ?_
                  dsimp only [List.set]
                  refine g_goto (tgt := 7) dX6_suggested_122 (by decide) ?_
                  refine g_fg 5 rfl ?_
                  dsimp only [List.set]
                  refine g_fg 6 rfl ?_
                  dsimp only [List.set]
                  have ih9 := ih (j + 1) (s_shw A i j) (by omega) (fun _ => by rw [hb]; rfl) (by omega)
                  rw [hb, iI_n] at ih9
                  exact ih9
                · exact absurd c107 (by decide)
          · have q64 : s_has A j i = true := xb_n0 c64
            refine g_aload_n dX6_suggested_67 rfl ?_
            refine g_iload_n dX6_suggested_68 rfl ?_
            refine g_top (y := nI (s_best A i j).toNat) (iI_get (by omega) (by omega)) ?_
            refine g_iload_n dX6_suggested_69 rfl ?_
            refine f1_V (u' := 0) lX6_185 kX6_knows (mX6_knows hM hI (by assumption) (by assumption)) dX6_suggested_70 rfl rfl rfl rfl rfl rfl rfl rfl ?_
            refine g_if_eq (tgt := 98) dX6_suggested_73 (by decide) (fun c73 => ?_) (fun c73 => ?_)
            · have q73 : ¬ s_has A (s_best A i j).toNat i = true := xb_0.mp c73
              have hb : s_best A i (j + 1) = (j : Int) := by
                show (if _ then _ else _) = _
                rw [if_pos ⟨by omega, Or.inr (by unfold s_btr; rw [if_neg (show ¬ s_has A j i = s_has A (s_best A i j).toNat i from fun y => q73 (y.symm.trans q64))]; exact q64)⟩]
              refine g_iconst (v := 1) dX6_suggested_98 (by decide) ?_
              refine g_goto (tgt := 103) dX6_suggested_99 (by decide) ?_
              refine s_iw dX6_suggested_103 rfl rfl rfl ?_
              dsimp only [List.set]
              refine g_iload dX6_suggested_105 rfl ?_
              refine g_if_ne (tgt := 113) dX6_suggested_107 (by decide) (fun c107 => ?_) (fun c107 => ?_)
              · refine g_iload dX6_suggested_113 rfl ?_
                refine s_i (i := 2) dX6_suggested_115 rfl rfl rfl rfl ?_
                dsimp only [List.set]
                refine g_iload dX6_suggested_116 rfl ?_
                refine s_i (i := 3) dX6_suggested_118 rfl rfl rfl rfl ?_
                dsimp only [List.set]
                refine s_inc (v := nI (j + 1)) dX6_suggested_119 rfl nI_s rfl rfl rfl ?_
                dsimp only [List.set]
                refine g_goto (tgt := 7) dX6_suggested_122 (by decide) ?_
                refine g_fg 5 rfl ?_
                dsimp only [List.set]
                refine g_fg 6 rfl ?_
                dsimp only [List.set]
                have ih9 := ih (j + 1) (s_shw A i j) (by omega) (fun _ => by rw [hb]; rfl) (by omega)
                rw [hb, iI_n] at ih9
                exact ih9
              · exact absurd c107 (by decide)
            · have q73 : s_has A (s_best A i j).toNat i = true := xb_n0 c73
              refine g_aload_n dX6_suggested_76 rfl ?_
              refine g_iload dX6_suggested_77 rfl ?_
              refine g_iload_n dX6_suggested_79 rfl ?_
              refine f1_V (u' := 0) lX6_185 kX6_knows (mX6_knows hM hI (by assumption) (by assumption)) dX6_suggested_80 rfl rfl rfl rfl rfl rfl rfl rfl ?_
              refine g_aload_n dX6_suggested_83 rfl ?_
              refine g_iload_n dX6_suggested_84 rfl ?_
              refine g_top (y := nI (s_best A i j).toNat) (iI_get (by omega) (by omega)) ?_
              refine g_iload_n dX6_suggested_85 rfl ?_
              refine f1_V (u' := 0) lX6_185 kX6_knows (mX6_knows hM hI (by assumption) (by assumption)) dX6_suggested_86 rfl rfl rfl rfl rfl rfl rfl rfl ?_
              refine g_icmp_ne (tgt := 102) dX6_suggested_89 (by decide) (fun c89 => ?_) (fun c89 => ?_)
              · have q89 : ¬ s_has A j i = s_has A (s_best A i j).toNat i := fun z => c89 (by rw [z])
                have hb : s_best A i (j + 1) = s_best A i j := by
                  show (if _ then _ else _) = _
                  have hb2 : ¬ s_btr A i j (s_best A i j).toNat = true := by
                    unfold s_btr
                    rw [if_neg q89]
                    intro y
                    first | exact q64 y | exact absurd q64 (fun z => q89 (z.trans q73.symm))
                  rw [if_neg (by rintro ⟨-, y | y⟩; exact c54 y; exact hb2 y)]
                refine g_iconst (v := 0) dX6_suggested_102 (by decide) ?_
                refine s_iw dX6_suggested_103 rfl rfl rfl ?_
                dsimp only [List.set]
                refine g_iload dX6_suggested_105 rfl ?_
                refine g_if_ne (tgt := 113) dX6_suggested_107 (by decide) (fun c107 => ?_) (fun c107 => ?_)
                · exact absurd rfl c107
                · refine g_goto (tgt := 119) dX6_suggested_110 (by decide) ?_
                  refine s_inc (v := nI (j + 1)) dX6_suggested_119 rfl nI_s rfl rfl rfl ?_
                  dsimp only [List.set]
                  refine g_goto (tgt := 7) dX6_suggested_122 (by decide) ?_
                  refine g_fg 5 rfl ?_
                  dsimp only [List.set]
                  refine g_fg 6 rfl ?_
                  dsimp only [List.set]
                  have ih9 := ih (j + 1) y (by omega) (fun z => by rw [hb] at z ⊢; exact hy z) (by omega)
                  rw [hb] at ih9
                  exact ih9
              · have q89 : s_has A j i = s_has A (s_best A i j).toNat i := x_bb c89
                refine g_iload dX6_suggested_92 rfl ?_
                refine g_iload_n dX6_suggested_94 rfl ?_
                refine g_icmp_ge (tgt := 102) dX6_suggested_95 (by decide) (fun c95 => ?_) (fun c95 => ?_)
                · rw [iI_le (by omega) (by omega) (by omega) (by omega)] at c95
                  have hb : s_best A i (j + 1) = s_best A i j := by
                    show (if _ then _ else _) = _
                    have hb2 : ¬ s_btr A i j (s_best A i j).toNat = true := by
                      unfold s_btr
                      rw [if_pos q89]
                      intro y
                      have := of_decide_eq_true y
                      omega
                    rw [if_neg (by rintro ⟨-, y | y⟩; exact c54 y; exact hb2 y)]
                  refine g_iconst (v := 0) dX6_suggested_102 (by decide) ?_
                  refine s_iw dX6_suggested_103 rfl rfl rfl ?_
                  dsimp only [List.set]
                  refine g_iload dX6_suggested_105 rfl ?_
                  refine g_if_ne (tgt := 113) dX6_suggested_107 (by decide) (fun c107 => ?_) (fun c107 => ?_)
                  · exact absurd rfl c107
                  · refine g_goto (tgt := 119) dX6_suggested_110 (by decide) ?_
                    refine s_inc (v := nI (j + 1)) dX6_suggested_119 rfl nI_s rfl rfl rfl ?_
                    dsimp only [List.set]
                    refine g_goto (tgt := 7) dX6_suggested_122 (by decide) ?_
                    refine g_fg 5 rfl ?_
                    dsimp only [List.set]
                    refine g_fg 6 rfl ?_
                    dsimp only [List.set]
                    have ih9 := ih (j + 1) y (by omega) (fun z => by rw [hb] at z ⊢; exact hy z) (by omega)
                    rw [hb] at ih9
                    exact ih9
                · rw [iI_le (by omega) (by omega) (by omega) (by omega)] at c95
                  have hb : s_best A i (j + 1) = (j : Int) := by
                    show (if _ then _ else _) = _
                    rw [if_pos ⟨by omega, Or.inr (by unfold s_btr; rw [if_pos q89]; exact decide_eq_true (by omega))⟩]
                  refine g_iconst (v := 1) dX6_suggested_98 (by decide) ?_
                  refine g_goto (tgt := 103) dX6_suggested_99 (by decide) ?_
                  refine s_iw dX6_suggested_103 rfl rfl rfl ?_
                  dsimp only [List.set]
                  refine g_iload dX6_suggested_105 rfl ?_
                  refine g_if_ne (tgt := 113) dX6_suggested_107 (by decide) (fun c107 => ?_) (fun c107 => ?_)
                  · refine g_iload dX6_suggested_113 rfl ?_
                    refine s_i (i := 2) dX6_suggested_115 rfl rfl rfl rfl ?_
                    dsimp only [List.set]
                    refine g_iload dX6_suggested_116 rfl ?_
                    refine s_i (i := 3) dX6_suggested_118 rfl rfl rfl rfl ?_
                    dsimp only [List.set]
                    refine s_inc (v := nI (j + 1)) dX6_suggested_119 rfl nI_s rfl rfl rfl ?_
                    dsimp only [List.set]
                    refine g_goto (tgt := 7) dX6_suggested_122 (by decide) ?_
                    refine g_fg 5 rfl ?_
                    dsimp only [List.set]
                    refine g_fg 6 rfl ?_
                    dsimp only [List.set]
                    have ih9 := ih (j + 1) (s_shw A i j) (by omega) (fun _ => by rw [hb]; rfl) (by omega)
                    rw [hb, iI_n] at ih9
                    exact ih9
                  · exact absurd c107 (by decide)
      · rw [show (0 : Int32) = iI 0 by decide, iI_le (by omega) (by omega) (by omega) (by omega)] at c23
        have hb : s_best A i (j + 1) = s_best A i j := by show (if _ then _ else _) = _; rw [if_neg (fun y => c23 (by omega))]
        refine g_goto (tgt := 119) dX6_suggested_26 (by decide) ?_
        refine s_inc (v := nI (j + 1)) dX6_suggested_119 rfl nI_s rfl rfl rfl ?_
        dsimp only [List.set]
        refine g_goto (tgt := 7) dX6_suggested_122 (by decide) ?_
        have ih9 := ih (j + 1) y (by omega) (fun z => by rw [hb] at z ⊢; exact hy z) (by omega)
        rw [hb] at ih9
        exact ih9
set_option maxRecDepth 100000 in
theorem mX6_suggested {l : Launch} {G : ux_G} {h : ux_H} {i : Nat} {A : Ab} {P : Nat} (hM : rM 193 0 A h) (hI : Inv P A) (hJ : InvF A) (hi : i < A.2.1) : ux_F l G yX6_suggested iX6_suggested 5 0 [.ref 192, .int (nI i)] h (some (.int (iI (s_best A i A.1)))) (h) := by
  unfold ux_F
  refine ux_ent (L' := [some (.ref 192), some (.int (nI i)), none, none, none, none, none]) kX6_suggested rfl rfl rfl rfl ?_
  refine g_iconst (v := (-1)) dX6_suggested_0 (by decide) ?_
  refine s_i (i := 2) dX6_suggested_1 rfl rfl rfl rfl ?_
  dsimp only [List.set]
  refine g_iconst (v := 0) dX6_suggested_2 (by decide) ?_
  refine s_i (i := 3) dX6_suggested_3 rfl rfl rfl rfl ?_
  dsimp only [List.set]
  refine g_iconst (v := 0) dX6_suggested_4 (by decide) ?_
  refine s_iw dX6_suggested_5 rfl rfl rfl ?_
  dsimp only [List.set]
  exact wX6_suggested (l := l) (G := G) hM hI hJ hi (A.1 + 1) 0 0 (Nat.zero_le _) (fun z => absurd rfl z) (by omega)
set_option maxRecDepth 100000 in
theorem mX6_canHost {l : Launch} {G : ux_G} {h : ux_H} {i : Nat} {m : Int} {A : Ab} {P : Nat} (hM : rM 193 0 A h) (hI : Inv P A) (hm : 0 ≤ m ∧ m ≤ 100) (hi : i < A.2.1) : ux_F l G yX6_canHost iX6_canHost 6 0 [.ref 192, .int (nI i), .int (iI m)] h (some (.int (if s_act A i ≠ -1 ∧ s_load A i + m ≤ aF A 7 (aF A 12 i).toNat then 1 else 0))) (h) := by
  unfold ux_F
  refine ux_ent (L' := [some (.ref 192), some (.int (nI i)), some (.int (iI m))]) kX6_canHost rfl rfl rfl rfl ?_
  obtain ⟨i1, i2, i3, i4, i5, i6⟩ := id hI
  have il := i6 i hi
  have hl := s_load_r hI hi
  have cc := i5 (aF A 12 i).toNat (by omega)
  have hr : -1 ≤ s_act A i ∧ s_act A i < 8 := by unfold s_act; split <;> omega
  refine g_aload_n dX6_canHost_0 rfl ?_
  refine g_iload_n dX6_canHost_1 rfl ?_
  refine f1_V (u' := 0) lX6_87 kX6_acting (mX6_acting hM hI (by assumption)) dX6_canHost_2 rfl rfl rfl rfl rfl rfl rfl rfl ?_
  refine g_iconst (v := (-1)) dX6_canHost_5 (by decide) ?_
  refine g_icmp_eq (tgt := 37) dX6_canHost_6 (by decide) (fun c6 => ?_) (fun c6 => ?_)
  · rw [xqm (by omega) (by omega)] at c6
    refine g_iconst (v := 0) dX6_canHost_37 (by decide) ?_
    refine g_ireturn dX6_canHost_38 rfl rfl (by decide) ?_
    refine ⟨?_, rfl⟩
    first | (rw [if_pos (by omega)]) | (rw [if_neg (by omega)])
  · rw [xqm (by omega) (by omega)] at c6
    refine g_aload_n dX6_canHost_9 rfl ?_
    refine g_iload_n dX6_canHost_10 rfl ?_
    refine f1_V (u' := 0) lX6_126 kX6_load (mX6_load hM hI (by assumption)) dX6_canHost_11 rfl rfl rfl rfl rfl rfl rfl rfl ?_
    refine g_iload_n dX6_canHost_14 rfl ?_
    refine g_iadd dX6_canHost_15 ?_
    refine g_top (iI_add _ _) ?_
    refine g_aload_n dX6_canHost_16 rfl ?_
    refine g_getr (q := 193) fX6_9 dX6_canHost_17 rfl rfl rfl ?_
    refine g_bipush (v := 10) dX6_canHost_20 (by decide) ?_
    refine g_aload_n dX6_canHost_22 rfl ?_
    refine g_iload_n dX6_canHost_23 rfl ?_
    refine g_iconst (v := 4) dX6_canHost_24 (by decide) ?_
    refine f1_V (u' := 0) lX6_78 kX6_of (mX6_of (f := 12) hM (by omega) rfl (by assumption)) dX6_canHost_25 rfl rfl rfl rfl rfl rfl rfl rfl ?_
    refine g_iadd dX6_canHost_28 ?_
    refine g_top (c_ix (by omega) (by omega)) ?_
    refine g_iald dX6_canHost_29 rfl (show 10 + _ < 376 by omega) rfl ?_
    refine g_top (y := iI (aF A 7 (aF A 12 i).toNat)) (rM_c hM (by omega)) ?_
    refine g_icmp_gt (tgt := 37) dX6_canHost_30 (by decide) (fun c30 => ?_) (fun c30 => ?_)
    · rw [iI_lt (by omega) (by omega) (by omega) (by omega)] at c30
      refine g_iconst (v := 0) dX6_canHost_37 (by decide) ?_
      refine g_ireturn dX6_canHost_38 rfl rfl (by decide) ?_
      refine ⟨?_, rfl⟩
      first | (rw [if_pos (by omega)]) | (rw [if_neg (by omega)])
    · rw [iI_lt (by omega) (by omega) (by omega) (by omega)] at c30
      refine g_iconst (v := 1) dX6_canHost_33 (by decide) ?_
      refine g_goto (tgt := 38) dX6_canHost_34 (by decide) ?_
      refine g_ireturn dX6_canHost_38 rfl rfl (by decide) ?_
      refine ⟨?_, rfl⟩
      first | (rw [if_pos (by omega)]) | (rw [if_neg (by omega)])
set_option maxRecDepth 100000 in
theorem wX6_isTooFull {l : Launch} {G : ux_G} {h : ux_H} {A : Ab} {P : Nat} (hM : rM 193 0 A h) (hI : Inv P A) : ∀ (n : Nat) (j : Nat), j ≤ A.2.1 → s_all (fun i => decide (s_load A i ≤ aF A 7 (aF A 12 i).toNat)) j = true → A.2.1 - j < n → ux_W l G iX6_isTooFull (ux_rm 4 0) (ux_Z G 0 (fun vv h' => vv = some (.int (if s_all (fun i => decide (s_load A i ≤ aF A 7 (aF A 12 i).toNat)) A.2.1 then 0 else 1)) ∧ h' = h) (fun _ _ => False)) 2 [some (.ref 192), some (.int (nI j))] [] (h) 0 := by
  intro n
  induction n with
  | zero => intro j hj hq hn; exact absurd hn (Nat.not_lt_zero _)
  | succ n ih =>
    intro j hj hq hn
    obtain ⟨i1, i2, i3, i4, i5, i6⟩ := id hI
    refine g_iload_n dX6_isTooFull_2 rfl ?_
    refine g_aload_n dX6_isTooFull_3 rfl ?_
    refine f1_V (u' := 0) lX6_54 kX6_lessons (mX6_lessons hM) dX6_isTooFull_4 rfl rfl rfl rfl rfl rfl rfl rfl ?_
    refine g_icmp_ge (tgt := 40) dX6_isTooFull_7 (by decide) (fun c7 => ?_) (fun c7 => ?_)
    · have e : j = A.2.1 := by have := xlt_i c7 (by omega) (by omega); omega
      subst e
      refine g_iconst (v := 0) dX6_isTooFull_40 (by decide) ?_
      refine g_ireturn dX6_isTooFull_41 rfl rfl (by decide) ?_
      exact ⟨by rw [hq]; rfl, rfl⟩
    · have hlt : j < A.2.1 := xnl_i c7 (by omega) (by omega)
      have il := i6 j hlt
      have hr := s_st_r A j
      have lr := s_load_r hI hlt
      have cc := i5 (aF A 12 j).toNat (by omega)
      refine g_aload_n dX6_isTooFull_10 rfl ?_
      refine g_iload_n dX6_isTooFull_11 rfl ?_
      refine f1_V (u' := 0) lX6_126 kX6_load (mX6_load hM hI (by assumption)) dX6_isTooFull_12 rfl rfl rfl rfl rfl rfl rfl rfl ?_
      refine g_aload_n dX6_isTooFull_15 rfl ?_
      refine g_getr (q := 193) fX6_9 dX6_isTooFull_16 rfl rfl rfl ?_
      refine g_bipush (v := 10) dX6_isTooFull_19 (by decide) ?_
      refine g_aload_n dX6_isTooFull_21 rfl ?_
      refine g_iload_n dX6_isTooFull_22 rfl ?_
      refine g_iconst (v := 4) dX6_isTooFull_23 (by decide) ?_
      refine f1_V (u' := 0) lX6_78 kX6_of (mX6_of (f := 12) hM (by omega) rfl (by assumption)) dX6_isTooFull_24 rfl rfl rfl rfl rfl rfl rfl rfl ?_
      refine g_iadd dX6_isTooFull_27 ?_
      refine g_top (c_ix (by omega) (by omega)) ?_
      refine g_iald dX6_isTooFull_28 rfl (show 10 + _ < 376 by omega) rfl ?_
      refine g_top (y := iI (aF A 7 (aF A 12 j).toNat)) (rM_c hM (by omega)) ?_
      refine g_icmp_le (tgt := 34) dX6_isTooFull_29 (by decide) (fun c29 => ?_) (fun c29 => ?_)
      · rw [iI_le (by omega) (by omega) (by omega) (by omega)] at c29
        refine s_inc (v := nI (j + 1)) dX6_isTooFull_34 rfl nI_s rfl rfl rfl ?_
        dsimp only [List.set]
        refine g_goto (tgt := 2) dX6_isTooFull_37 (by decide) ?_
        exact ih (j + 1) (by omega) (s_all_s (P := fun i => decide (s_load A i ≤ aF A 7 (aF A 12 i).toNat)) hq (by simp [c29])) (by omega)
      · rw [iI_le (by omega) (by omega) (by omega) (by omega), Int.not_le] at c29
        refine g_iconst (v := 1) dX6_isTooFull_32 (by decide) ?_
        refine g_ireturn dX6_isTooFull_33 rfl rfl (by decide) ?_
        exact ⟨by rw [s_all_f (P := fun i => decide (s_load A i ≤ aF A 7 (aF A 12 i).toNat)) hlt (by simp [c29])]; rfl, rfl⟩
set_option maxRecDepth 100000 in
theorem mX6_isTooFull {l : Launch} {G : ux_G} {h : ux_H} {A : Ab} {P : Nat} (hM : rM 193 0 A h) (hI : Inv P A) : ux_F l G yX6_isTooFull iX6_isTooFull 4 0 [.ref 192] h (some (.int (if s_all (fun i => decide (s_load A i ≤ aF A 7 (aF A 12 i).toNat)) A.2.1 then 0 else 1))) (h) := by
  unfold ux_F
  refine ux_ent (L' := [some (.ref 192), none]) kX6_isTooFull rfl rfl rfl rfl ?_
  obtain ⟨i1, i2, i3, i4, i5, i6⟩ := id hI
  refine g_iconst (v := 0) dX6_isTooFull_0 (by decide) ?_
  refine s_i (i := 1) dX6_isTooFull_1 rfl rfl rfl rfl ?_
  dsimp only [List.set]
  exact wX6_isTooFull (l := l) (G := G) hM hI (A.2.1 + 1) 0 (Nat.zero_le _) rfl (by omega)
set_option maxRecDepth 100000 in
theorem wX6_isSplitClass {l : Launch} {G : ux_G} {h : ux_H} {c : Nat} {A : Ab} {P : Nat} (hM : rM 193 0 A h) (hI : Inv P A) (hc : c < 6) : ∀ (n : Nat) (j : Nat), j ≤ A.2.1 → s_all (fun i => !decide (aF A 9 i = (c : Int)) || !decide (s_st A i = 2)) j = true → A.2.1 - j < n → ux_W l G iX6_isSplitClass (ux_rm 5 0) (ux_Z G 0 (fun vv h' => vv = some (.int (if s_all (fun i => !decide (aF A 9 i = (c : Int)) || !decide (s_st A i = 2)) A.2.1 then 0 else 1)) ∧ h' = h) (fun _ _ => False)) 2 [some (.ref 192), some (.int (nI c)), some (.int (nI j))] [] (h) 0 := by
  intro n
  induction n with
  | zero => intro j hj hq hn; exact absurd hn (Nat.not_lt_zero _)
  | succ n ih =>
    intro j hj hq hn
    obtain ⟨i1, i2, i3, i4, i5, i6⟩ := id hI
    refine g_iload_n dX6_isSplitClass_2 rfl ?_
    refine g_aload_n dX6_isSplitClass_3 rfl ?_
    refine f1_V (u' := 0) lX6_54 kX6_lessons (mX6_lessons hM) dX6_isSplitClass_4 rfl rfl rfl rfl rfl rfl rfl rfl ?_
    refine g_icmp_ge (tgt := 37) dX6_isSplitClass_7 (by decide) (fun c7 => ?_) (fun c7 => ?_)
    · have e : j = A.2.1 := by have := xlt_i c7 (by omega) (by omega); omega
      subst e
      refine g_iconst (v := 0) dX6_isSplitClass_37 (by decide) ?_
      refine g_ireturn dX6_isSplitClass_38 rfl rfl (by decide) ?_
      exact ⟨by rw [hq]; rfl, rfl⟩
    · have hlt : j < A.2.1 := xnl_i c7 (by omega) (by omega)
      have il := i6 j hlt
      have hr := s_st_r A j
      refine g_aload_n dX6_isSplitClass_10 rfl ?_
      refine g_iload_n dX6_isSplitClass_11 rfl ?_
      refine g_iconst (v := 1) dX6_isSplitClass_12 (by decide) ?_
      refine f1_V (u' := 0) lX6_78 kX6_of (mX6_of (f := 9) hM (by omega) rfl (by assumption)) dX6_isSplitClass_13 rfl rfl rfl rfl rfl rfl rfl rfl ?_
      refine g_iload_n dX6_isSplitClass_16 rfl ?_
      refine g_icmp_ne (tgt := 31) dX6_isSplitClass_17 (by decide) (fun c17 => ?_) (fun c17 => ?_)
      · rw [xq (by omega) (by omega) (by omega)] at c17
        refine s_inc (v := nI (j + 1)) dX6_isSplitClass_31 rfl nI_s rfl rfl rfl ?_
        dsimp only [List.set]
        refine g_goto (tgt := 2) dX6_isSplitClass_34 (by decide) ?_
        exact ih (j + 1) (by omega) (s_all_s (P := fun i => !decide (aF A 9 i = (c : Int)) || !decide (s_st A i = 2)) hq (by simp [c17])) (by omega)
      · rw [xq (by omega) (by omega) (by omega)] at c17
        refine g_aload_n dX6_isSplitClass_20 rfl ?_
        refine g_iload_n dX6_isSplitClass_21 rfl ?_
        refine f1_V (u' := 0) lX6_84 kX6_state (mX6_state hM hI (by assumption)) dX6_isSplitClass_22 rfl rfl rfl rfl rfl rfl rfl rfl ?_
        refine g_iconst (v := 2) dX6_isSplitClass_25 (by decide) ?_
        refine g_icmp_ne (tgt := 31) dX6_isSplitClass_26 (by decide) (fun c26 => ?_) (fun c26 => ?_)
        · rw [show (2 : Int32) = iI 2 by decide, iI_eq (by omega) (by omega) (by omega) (by omega)] at c26
          refine s_inc (v := nI (j + 1)) dX6_isSplitClass_31 rfl nI_s rfl rfl rfl ?_
          dsimp only [List.set]
          refine g_goto (tgt := 2) dX6_isSplitClass_34 (by decide) ?_
          exact ih (j + 1) (by omega) (s_all_s (P := fun i => !decide (aF A 9 i = (c : Int)) || !decide (s_st A i = 2)) hq (by simp [c17, c26])) (by omega)
        · rw [show (2 : Int32) = iI 2 by decide, iI_eq (by omega) (by omega) (by omega) (by omega)] at c26
          refine g_iconst (v := 1) dX6_isSplitClass_29 (by decide) ?_
          refine g_ireturn dX6_isSplitClass_30 rfl rfl (by decide) ?_
          exact ⟨by rw [s_all_f (P := fun i => !decide (aF A 9 i = (c : Int)) || !decide (s_st A i = 2)) hlt (by simp [c17, c26])]; rfl, rfl⟩
set_option maxRecDepth 100000 in
theorem mX6_isSplitClass {l : Launch} {G : ux_G} {h : ux_H} {c : Nat} {A : Ab} {P : Nat} (hM : rM 193 0 A h) (hI : Inv P A) (hc : c < 6) : ux_F l G yX6_isSplitClass iX6_isSplitClass 5 0 [.ref 192, .int (nI c)] h (some (.int (if s_all (fun i => !decide (aF A 9 i = (c : Int)) || !decide (s_st A i = 2)) A.2.1 then 0 else 1))) (h) := by
  unfold ux_F
  refine ux_ent (L' := [some (.ref 192), some (.int (nI c)), none]) kX6_isSplitClass rfl rfl rfl rfl ?_
  obtain ⟨i1, i2, i3, i4, i5, i6⟩ := id hI
  refine g_iconst (v := 0) dX6_isSplitClass_0 (by decide) ?_
  refine s_i (i := 2) dX6_isSplitClass_1 rfl rfl rfl rfl ?_
  dsimp only [List.set]
  exact wX6_isSplitClass (l := l) (G := G) hM hI hc (A.2.1 + 1) 0 (Nat.zero_le _) rfl (by omega)
set_option maxRecDepth 100000 in
theorem wX6_collides {l : Launch} {G : ux_G} {h : ux_H} {a b c e : Int} {A : Ab} {P : Nat} (hM : rM 193 0 A h) (hI : Inv P A) (ha : 0 ≤ a ∧ a < 30) (hb : 0 ≤ b ∧ b < 6) (hc : 0 ≤ c ∧ c < 8) (he : 0 ≤ e ∧ e < 6) : ∀ (n : Nat) (j : Nat), j ≤ A.2.1 → s_all (fun i => !decide (aF A 8 i = a) || (!decide (aF A 9 i = b) && !decide (aF A 11 i = c) && !decide (aF A 12 i = e))) j = true → A.2.1 - j < n → ux_W l G iX6_collides (ux_rm 4 0) (ux_Z G 0 (fun vv h' => vv = some (.int (if s_all (fun i => !decide (aF A 8 i = a) || (!decide (aF A 9 i = b) && !decide (aF A 11 i = c) && !decide (aF A 12 i = e))) A.2.1 = true ∧ s_find A 13 a c = -1 ∧ aF A 6 b.toNat ≤ aF A 7 e.toNat then 0 else 1)) ∧ h' = h) (fun _ _ => False)) 3 [some (.ref 192), some (.int (iI a)), some (.int (iI b)), some (.int (iI c)), some (.int (iI e)), some (.int (nI j))] [] (h) 0 := by
  intro n
  induction n with
  | zero => intro j hj hq hn; exact absurd hn (Nat.not_lt_zero _)
  | succ n ih =>
    intro j hj hq hn
    obtain ⟨i1, i2, i3, i4, i5, i6⟩ := id hI
    have zz := i5 b.toNat (by omega)
    have z2 := i5 e.toNat (by omega)
    refine g_iload dX6_collides_3 rfl ?_
    refine g_aload_n dX6_collides_5 rfl ?_
    refine f1_V (u' := 0) lX6_54 kX6_lessons (mX6_lessons hM) dX6_collides_6 rfl rfl rfl rfl rfl rfl rfl rfl ?_
    refine g_icmp_ge (tgt := 65) dX6_collides_9 (by decide) (fun c9 => ?_) (fun c9 => ?_)
    · have e : j = A.2.1 := by have := xlt_i c9 (by omega) (by omega); omega
      subst e
      refine g_aload_n dX6_collides_65 rfl ?_
      refine g_iload_n dX6_collides_66 rfl ?_
      refine g_iload_n dX6_collides_67 rfl ?_
      refine g_st (st' := [.int (iI a), .int (nI c.toNat), .ref 192]) (by rw [iI_get hc.1 (by omega)]) ?_
      refine f1_V (u' := 0) lX6_139 kX6_covers (mX6_covers hM hI (by omega) (by omega)) dX6_collides_68 rfl rfl rfl rfl rfl rfl rfl rfl ?_
      refine g_top (y := if s_find A 13 a c ≠ -1 then 1 else 0) (by rw [Int.toNat_of_nonneg hc.1]) ?_
      refine g_if_ne (tgt := 95) dX6_collides_71 (by decide) (fun c71 => ?_) (fun c71 => ?_)
      · have q71 := xb_n0 c71
        refine g_iconst (v := 1) dX6_collides_95 (by decide) ?_
        refine g_goto (tgt := 100) dX6_collides_96 (by decide) ?_
        refine g_ireturn dX6_collides_100 rfl rfl (by decide) ?_
        refine ⟨?_, rfl⟩
        first | rw [if_neg (fun y => q71 y.2.1)] | rw [if_neg (fun y => c92 y.2.2)] | rw [if_pos ⟨hq, q71, c92⟩]
      · have q71 := Decidable.not_not.mp (xb_0.mp c71)
        refine g_aload_n dX6_collides_74 rfl ?_
        refine g_getr (q := 193) fX6_9 dX6_collides_75 rfl rfl rfl ?_
        refine g_iconst (v := 4) dX6_collides_78 (by decide) ?_
        refine g_iload_n dX6_collides_79 rfl ?_
        refine g_iadd dX6_collides_80 ?_
        refine g_top (z_ix hb.1 (by omega)) ?_
        refine g_iald dX6_collides_81 rfl (show 4 + _ < 376 by omega) rfl ?_
        refine g_top (y := iI (aF A 6 b.toNat)) (rM_z hM (by omega)) ?_
        refine g_aload_n dX6_collides_82 rfl ?_
        refine g_getr (q := 193) fX6_9 dX6_collides_83 rfl rfl rfl ?_
        refine g_bipush (v := 10) dX6_collides_86 (by decide) ?_
        refine g_iload dX6_collides_88 rfl ?_
        refine g_iadd dX6_collides_90 ?_
        refine g_top (c_ix he.1 (by omega)) ?_
        refine g_iald dX6_collides_91 rfl (show 10 + _ < 376 by omega) rfl ?_
        refine g_top (y := iI (aF A 7 e.toNat)) (rM_c hM (by omega)) ?_
        refine g_icmp_le (tgt := 99) dX6_collides_92 (by decide) (fun c92 => ?_) (fun c92 => ?_)
        · rw [iI_le (by omega) (by omega) (by omega) (by omega)] at c92
          refine g_iconst (v := 0) dX6_collides_99 (by decide) ?_
          refine g_ireturn dX6_collides_100 rfl rfl (by decide) ?_
          refine ⟨?_, rfl⟩
          first | rw [if_neg (fun y => q71 y.2.1)] | rw [if_neg (fun y => c92 y.2.2)] | rw [if_pos ⟨hq, q71, c92⟩]
        · rw [iI_le (by omega) (by omega) (by omega) (by omega)] at c92
          refine g_iconst (v := 1) dX6_collides_95 (by decide) ?_
          refine g_goto (tgt := 100) dX6_collides_96 (by decide) ?_
          refine g_ireturn dX6_collides_100 rfl rfl (by decide) ?_
          refine ⟨?_, rfl⟩
          first | rw [if_neg (fun y => q71 y.2.1)] | rw [if_neg (fun y => c92 y.2.2)] | rw [if_pos ⟨hq, q71, c92⟩]
    · have hlt : j < A.2.1 := xnl_i c9 (by omega) (by omega)
      have il := i6 j hlt
      have hr := s_st_r A j
      refine g_aload_n dX6_collides_12 rfl ?_
      refine g_iload dX6_collides_13 rfl ?_
      refine g_iconst (v := 0) dX6_collides_15 (by decide) ?_
      refine f1_V (u' := 0) lX6_78 kX6_of (mX6_of (f := 8) hM (by omega) rfl (by assumption)) dX6_collides_16 rfl rfl rfl rfl rfl rfl rfl rfl ?_
      refine g_iload_n dX6_collides_19 rfl ?_
      refine g_icmp_ne (tgt := 59) dX6_collides_20 (by decide) (fun c20 => ?_) (fun c20 => ?_)
      · rw [iI_eq (by omega) (by omega) (by omega) (by omega)] at c20
        refine s_inc (v := nI (j + 1)) dX6_collides_59 rfl nI_s rfl rfl rfl ?_
        dsimp only [List.set]
        refine g_goto (tgt := 3) dX6_collides_62 (by decide) ?_
        exact ih (j + 1) (by omega) (s_all_s (P := fun i => !decide (aF A 8 i = a) || (!decide (aF A 9 i = b) && !decide (aF A 11 i = c) && !decide (aF A 12 i = e))) hq (by simp [c20])) (by omega)
      · rw [iI_eq (by omega) (by omega) (by omega) (by omega)] at c20
        refine g_aload_n dX6_collides_23 rfl ?_
        refine g_iload dX6_collides_24 rfl ?_
        refine g_iconst (v := 1) dX6_collides_26 (by decide) ?_
        refine f1_V (u' := 0) lX6_78 kX6_of (mX6_of (f := 9) hM (by omega) rfl (by assumption)) dX6_collides_27 rfl rfl rfl rfl rfl rfl rfl rfl ?_
        refine g_iload_n dX6_collides_30 rfl ?_
        refine g_icmp_eq (tgt := 57) dX6_collides_31 (by decide) (fun c31 => ?_) (fun c31 => ?_)
        · rw [iI_eq (by omega) (by omega) (by omega) (by omega)] at c31
          refine g_iconst (v := 1) dX6_collides_57 (by decide) ?_
          refine g_ireturn dX6_collides_58 rfl rfl (by decide) ?_
          exact ⟨by rw [if_neg (by rw [s_all_f (P := fun i => !decide (aF A 8 i = a) || (!decide (aF A 9 i = b) && !decide (aF A 11 i = c) && !decide (aF A 12 i = e))) hlt (by simp [c20, c31])]; rintro ⟨y, -⟩; cases y)], rfl⟩
        · rw [iI_eq (by omega) (by omega) (by omega) (by omega)] at c31
          refine g_aload_n dX6_collides_34 rfl ?_
          refine g_iload dX6_collides_35 rfl ?_
          refine g_iconst (v := 3) dX6_collides_37 (by decide) ?_
          refine f1_V (u' := 0) lX6_78 kX6_of (mX6_of (f := 11) hM (by omega) rfl (by assumption)) dX6_collides_38 rfl rfl rfl rfl rfl rfl rfl rfl ?_
          refine g_iload_n dX6_collides_41 rfl ?_
          refine g_icmp_eq (tgt := 57) dX6_collides_42 (by decide) (fun c42 => ?_) (fun c42 => ?_)
          · rw [iI_eq (by omega) (by omega) (by omega) (by omega)] at c42
            refine g_iconst (v := 1) dX6_collides_57 (by decide) ?_
            refine g_ireturn dX6_collides_58 rfl rfl (by decide) ?_
            exact ⟨by rw [if_neg (by rw [s_all_f (P := fun i => !decide (aF A 8 i = a) || (!decide (aF A 9 i = b) && !decide (aF A 11 i = c) && !decide (aF A 12 i = e))) hlt (by simp [c20, c31, c42])]; rintro ⟨y, -⟩; cases y)], rfl⟩
          · rw [iI_eq (by omega) (by omega) (by omega) (by omega)] at c42
            refine g_aload_n dX6_collides_45 rfl ?_
            refine g_iload dX6_collides_46 rfl ?_
            refine g_iconst (v := 4) dX6_collides_48 (by decide) ?_
            refine f1_V (u' := 0) lX6_78 kX6_of (mX6_of (f := 12) hM (by omega) rfl (by assumption)) dX6_collides_49 rfl rfl rfl rfl rfl rfl rfl rfl ?_
            refine g_iload dX6_collides_52 rfl ?_
            refine g_icmp_ne (tgt := 59) dX6_collides_54 (by decide) (fun c54 => ?_) (fun c54 => ?_)
            · rw [iI_eq (by omega) (by omega) (by omega) (by omega)] at c54
              refine s_inc (v := nI (j + 1)) dX6_collides_59 rfl nI_s rfl rfl rfl ?_
              dsimp only [List.set]
              refine g_goto (tgt := 3) dX6_collides_62 (by decide) ?_
              exact ih (j + 1) (by omega) (s_all_s (P := fun i => !decide (aF A 8 i = a) || (!decide (aF A 9 i = b) && !decide (aF A 11 i = c) && !decide (aF A 12 i = e))) hq (by simp [c20, c31, c42, c54])) (by omega)
            · rw [iI_eq (by omega) (by omega) (by omega) (by omega)] at c54
              refine g_iconst (v := 1) dX6_collides_57 (by decide) ?_
              refine g_ireturn dX6_collides_58 rfl rfl (by decide) ?_
              exact ⟨by rw [if_neg (by rw [s_all_f (P := fun i => !decide (aF A 8 i = a) || (!decide (aF A 9 i = b) && !decide (aF A 11 i = c) && !decide (aF A 12 i = e))) hlt (by simp [c20, c31, c42, c54])]; rintro ⟨y, -⟩; cases y)], rfl⟩
set_option maxRecDepth 100000 in
theorem mX6_collides {l : Launch} {G : ux_G} {h : ux_H} {a b c e : Int} {A : Ab} {P : Nat} (hM : rM 193 0 A h) (hI : Inv P A) (ha : 0 ≤ a ∧ a < 30) (hb : 0 ≤ b ∧ b < 6) (hc : 0 ≤ c ∧ c < 8) (he : 0 ≤ e ∧ e < 6) : ux_F l G yX6_collides iX6_collides 4 0 [.ref 192, .int (iI a), .int (iI b), .int (iI c), .int (iI e)] h (some (.int (if s_all (fun i => !decide (aF A 8 i = a) || (!decide (aF A 9 i = b) && !decide (aF A 11 i = c) && !decide (aF A 12 i = e))) A.2.1 = true ∧ s_find A 13 a c = -1 ∧ aF A 6 b.toNat ≤ aF A 7 e.toNat then 0 else 1))) (h) := by
  unfold ux_F
  refine ux_ent (L' := [some (.ref 192), some (.int (iI a)), some (.int (iI b)), some (.int (iI c)), some (.int (iI e)), none]) kX6_collides rfl rfl rfl rfl ?_
  obtain ⟨i1, i2, i3, i4, i5, i6⟩ := id hI
  refine g_iconst (v := 0) dX6_collides_0 (by decide) ?_
  refine s_iw dX6_collides_1 rfl rfl rfl ?_
  dsimp only [List.set]
  exact wX6_collides (l := l) (G := G) hM hI ha hb hc he (A.2.1 + 1) 0 (Nat.zero_le _) rfl (by omega)
set_option maxRecDepth 100000 in
theorem wX6_lessonsOf {l : Launch} {G : ux_G} {h : ux_H} {t : Nat} {w : Int} {A : Ab} {P : Nat} (hM : rM 193 0 A h) (hI : Inv P A) (ht8 : t < 8) (hw : 0 ≤ w ∧ w ≤ 100) : ∀ (n : Nat) (j : Nat), j ≤ A.2.1 → A.2.1 - j < n → ux_W l G iX6_lessonsOf (ux_rm 5 0) (ux_Z G 0 (fun vv h' => vv = some (.int (nI (s_cnt (fun j => if w = 6 then decide (aF A 13 j = (t : Int)) else decide (aF A 11 j = (t : Int)) && (decide (w = 5) || decide (s_st A j ≠ 0))) A.2.1))) ∧ h' = h) (fun _ _ => False)) 5 [some (.ref 192), some (.int (nI t)), some (.int (iI w)), some (.int (nI (s_cnt (fun j => if w = 6 then decide (aF A 13 j = (t : Int)) else decide (aF A 11 j = (t : Int)) && (decide (w = 5) || decide (s_st A j ≠ 0))) j))), some (.int (nI j))] [] (h) 0 := by
  intro n
  induction n with
  | zero => intro j hj hn; exact absurd hn (Nat.not_lt_zero _)
  | succ n ih =>
    intro j hj hn
    obtain ⟨i1, i2, i3, i4, i5, i6⟩ := id hI
    refine g_iload dX6_lessonsOf_5 rfl ?_
    refine g_aload_n dX6_lessonsOf_7 rfl ?_
    refine f1_V (u' := 0) lX6_54 kX6_lessons (mX6_lessons hM) dX6_lessonsOf_8 rfl rfl rfl rfl rfl rfl rfl rfl ?_
    refine g_icmp_ge (tgt := 68) dX6_lessonsOf_11 (by decide) (fun c11 => ?_) (fun c11 => ?_)
    · have e : j = A.2.1 := by have := xlt_i c11 (by omega) (by omega); omega
      subst e
      refine g_iload_n dX6_lessonsOf_68 rfl ?_
      refine g_ireturn dX6_lessonsOf_69 rfl rfl (by decide) ?_
      exact ⟨rfl, rfl⟩
    · have hlt : j < A.2.1 := xnl_i c11 (by omega) (by omega)
      have il := i6 j hlt
      have hr := s_st_r A j
      refine g_iload_n dX6_lessonsOf_14 rfl ?_
      refine g_bipush (v := 6) dX6_lessonsOf_15 (by decide) ?_
      refine g_icmp_ne (tgt := 34) dX6_lessonsOf_17 (by decide) (fun c17 => ?_) (fun c17 => ?_)
      · rw [show (6 : Int32) = iI 6 by decide, iI_eq (by omega) (by omega) (by omega) (by omega)] at c17
        refine g_aload_n dX6_lessonsOf_34 rfl ?_
        refine g_iload dX6_lessonsOf_35 rfl ?_
        refine g_iconst (v := 3) dX6_lessonsOf_37 (by decide) ?_
        refine f1_V (u' := 0) lX6_78 kX6_of (mX6_of (f := 11) hM (by omega) rfl (by assumption)) dX6_lessonsOf_38 rfl rfl rfl rfl rfl rfl rfl rfl ?_
        refine g_iload_n dX6_lessonsOf_41 rfl ?_
        refine g_icmp_ne (tgt := 62) dX6_lessonsOf_42 (by decide) (fun c42 => ?_) (fun c42 => ?_)
        · rw [xq (by omega) (by omega) (by omega)] at c42
          refine s_inc (v := nI (j + 1)) dX6_lessonsOf_62 rfl nI_s rfl rfl rfl ?_
          dsimp only [List.set]
          refine g_goto (tgt := 5) dX6_lessonsOf_65 (by decide) ?_
          rw [s_cnt_f (P := fun j => if w = 6 then decide (aF A 13 j = (t : Int)) else decide (aF A 11 j = (t : Int)) && (decide (w = 5) || decide (s_st A j ≠ 0))) (n := j) (by simp [c17, c42])]
          exact ih (j + 1) (by omega) (by omega)
        · rw [xq (by omega) (by omega) (by omega)] at c42
          refine g_iload_n dX6_lessonsOf_45 rfl ?_
          refine g_iconst (v := 5) dX6_lessonsOf_46 (by decide) ?_
          refine g_icmp_eq (tgt := 59) dX6_lessonsOf_47 (by decide) (fun c47 => ?_) (fun c47 => ?_)
          · rw [show (5 : Int32) = iI 5 by decide, iI_eq (by omega) (by omega) (by omega) (by omega)] at c47
            refine s_inc (v := nI (s_cnt (fun j => if w = 6 then decide (aF A 13 j = (t : Int)) else decide (aF A 11 j = (t : Int)) && (decide (w = 5) || decide (s_st A j ≠ 0))) j + 1)) dX6_lessonsOf_59 rfl nI_s rfl rfl rfl ?_
            dsimp only [List.set]
            refine s_inc (v := nI (j + 1)) dX6_lessonsOf_62 rfl nI_s rfl rfl rfl ?_
            dsimp only [List.set]
            refine g_goto (tgt := 5) dX6_lessonsOf_65 (by decide) ?_
            rw [s_cnt_t (P := fun j => if w = 6 then decide (aF A 13 j = (t : Int)) else decide (aF A 11 j = (t : Int)) && (decide (w = 5) || decide (s_st A j ≠ 0))) (n := j) (by simp [c17, c42, c47])]
            exact ih (j + 1) (by omega) (by omega)
          · rw [show (5 : Int32) = iI 5 by decide, iI_eq (by omega) (by omega) (by omega) (by omega)] at c47
            refine g_aload_n dX6_lessonsOf_50 rfl ?_
            refine g_iload dX6_lessonsOf_51 rfl ?_
            refine f1_V (u' := 0) lX6_84 kX6_state (mX6_state hM hI (by assumption)) dX6_lessonsOf_53 rfl rfl rfl rfl rfl rfl rfl rfl ?_
            refine g_if_eq (tgt := 62) dX6_lessonsOf_56 (by decide) (fun c56 => ?_) (fun c56 => ?_)
            · rw [xq0 (by omega) (by omega)] at c56
              refine s_inc (v := nI (j + 1)) dX6_lessonsOf_62 rfl nI_s rfl rfl rfl ?_
              dsimp only [List.set]
              refine g_goto (tgt := 5) dX6_lessonsOf_65 (by decide) ?_
              rw [s_cnt_f (P := fun j => if w = 6 then decide (aF A 13 j = (t : Int)) else decide (aF A 11 j = (t : Int)) && (decide (w = 5) || decide (s_st A j ≠ 0))) (n := j) (by simp [c17, c42, c47, c56])]
              exact ih (j + 1) (by omega) (by omega)
            · rw [xq0 (by omega) (by omega)] at c56
              refine s_inc (v := nI (s_cnt (fun j => if w = 6 then decide (aF A 13 j = (t : Int)) else decide (aF A 11 j = (t : Int)) && (decide (w = 5) || decide (s_st A j ≠ 0))) j + 1)) dX6_lessonsOf_59 rfl nI_s rfl rfl rfl ?_
              dsimp only [List.set]
              refine s_inc (v := nI (j + 1)) dX6_lessonsOf_62 rfl nI_s rfl rfl rfl ?_
              dsimp only [List.set]
              refine g_goto (tgt := 5) dX6_lessonsOf_65 (by decide) ?_
              rw [s_cnt_t (P := fun j => if w = 6 then decide (aF A 13 j = (t : Int)) else decide (aF A 11 j = (t : Int)) && (decide (w = 5) || decide (s_st A j ≠ 0))) (n := j) (by simp [c17, c42, c47, c56])]
              exact ih (j + 1) (by omega) (by omega)
      · rw [show (6 : Int32) = iI 6 by decide, iI_eq (by omega) (by omega) (by omega) (by omega)] at c17
        refine g_aload_n dX6_lessonsOf_20 rfl ?_
        refine g_iload dX6_lessonsOf_21 rfl ?_
        refine g_iconst (v := 5) dX6_lessonsOf_23 (by decide) ?_
        refine f1_V (u' := 0) lX6_78 kX6_of (mX6_of (f := 13) hM (by omega) rfl (by assumption)) dX6_lessonsOf_24 rfl rfl rfl rfl rfl rfl rfl rfl ?_
        refine g_iload_n dX6_lessonsOf_27 rfl ?_
        refine g_icmp_ne (tgt := 62) dX6_lessonsOf_28 (by decide) (fun c28 => ?_) (fun c28 => ?_)
        · rw [xq (by omega) (by omega) (by omega)] at c28
          refine s_inc (v := nI (j + 1)) dX6_lessonsOf_62 rfl nI_s rfl rfl rfl ?_
          dsimp only [List.set]
          refine g_goto (tgt := 5) dX6_lessonsOf_65 (by decide) ?_
          rw [s_cnt_f (P := fun j => if w = 6 then decide (aF A 13 j = (t : Int)) else decide (aF A 11 j = (t : Int)) && (decide (w = 5) || decide (s_st A j ≠ 0))) (n := j) (by simp [c17, c28])]
          exact ih (j + 1) (by omega) (by omega)
        · rw [xq (by omega) (by omega) (by omega)] at c28
          refine g_goto (tgt := 59) dX6_lessonsOf_31 (by decide) ?_
          refine s_inc (v := nI (s_cnt (fun j => if w = 6 then decide (aF A 13 j = (t : Int)) else decide (aF A 11 j = (t : Int)) && (decide (w = 5) || decide (s_st A j ≠ 0))) j + 1)) dX6_lessonsOf_59 rfl nI_s rfl rfl rfl ?_
          dsimp only [List.set]
          refine s_inc (v := nI (j + 1)) dX6_lessonsOf_62 rfl nI_s rfl rfl rfl ?_
          dsimp only [List.set]
          refine g_goto (tgt := 5) dX6_lessonsOf_65 (by decide) ?_
          rw [s_cnt_t (P := fun j => if w = 6 then decide (aF A 13 j = (t : Int)) else decide (aF A 11 j = (t : Int)) && (decide (w = 5) || decide (s_st A j ≠ 0))) (n := j) (by simp [c17, c28])]
          exact ih (j + 1) (by omega) (by omega)
set_option maxRecDepth 100000 in
theorem mX6_lessonsOf {l : Launch} {G : ux_G} {h : ux_H} {t : Nat} {w : Int} {A : Ab} {P : Nat} (hM : rM 193 0 A h) (hI : Inv P A) (ht8 : t < 8) (hw : 0 ≤ w ∧ w ≤ 100) : ux_F l G yX6_lessonsOf iX6_lessonsOf 5 0 [.ref 192, .int (nI t), .int (iI w)] h (some (.int (nI (s_cnt (fun j => if w = 6 then decide (aF A 13 j = (t : Int)) else decide (aF A 11 j = (t : Int)) && (decide (w = 5) || decide (s_st A j ≠ 0))) A.2.1)))) (h) := by
  unfold ux_F
  refine ux_ent (L' := [some (.ref 192), some (.int (nI t)), some (.int (iI w)), none, none]) kX6_lessonsOf rfl rfl rfl rfl ?_
  obtain ⟨i1, i2, i3, i4, i5, i6⟩ := id hI
  refine g_iconst (v := 0) dX6_lessonsOf_0 (by decide) ?_
  refine s_i (i := 3) dX6_lessonsOf_1 rfl rfl rfl rfl ?_
  dsimp only [List.set]
  refine g_iconst (v := 0) dX6_lessonsOf_2 (by decide) ?_
  refine s_iw dX6_lessonsOf_3 rfl rfl rfl ?_
  dsimp only [List.set]
  exact wX6_lessonsOf (l := l) (G := G) hM hI ht8 hw (A.2.1 + 1) 0 (Nat.zero_le _) (by omega)
set_option maxRecDepth 100000 in
theorem wX6_spreadNow {l : Launch} {G : ux_G} {h : ux_H} {A : Ab} {P : Nat} (hM : rM 193 0 A h) (hI : Inv P A) (h0 : 0 < A.1) : ∀ (n : Nat) (j : Nat), 1 ≤ j → j ≤ A.1 → A.1 - j < n → ux_W l G iX6_spreadNow (ux_rm 4 0) (ux_Z G 0 (fun vv h' => vv = some (.int (iI (pl_sp A))) ∧ h' = h) (fun _ _ => False)) 16 [some (.ref 192), some (.int (iI (pl_mn A j))), some (.int (iI (pl_mx A j))), some (.int (nI j))] [] (h) 0 := by
  intro n
  induction n with
  | zero => intro j hj1 hj hn; exact absurd hn (Nat.not_lt_zero _)
  | succ n ih =>
    intro j hj1 hj hn
    obtain ⟨i1, i2, i3, i4, i5, i6⟩ := id hI
    have m1 := pl_mx_r hI j hj1 (by omega)
    have m2 := pl_mn_r hI j hj1 (by omega)
    refine g_iload_n dX6_spreadNow_16 rfl ?_
    refine g_aload_n dX6_spreadNow_17 rfl ?_
    refine f1_V (u' := 0) lX6_62 kX6_teachers (mX6_teachers hM) dX6_spreadNow_18 rfl rfl rfl rfl rfl rfl rfl rfl ?_
    refine g_icmp_ge (tgt := 62) dX6_spreadNow_21 (by decide) (fun c21 => ?_) (fun c21 => ?_)
    · have e : j = A.1 := by have := xlt_i c21 (by omega) (by omega); omega
      have ep : pl_sp A = pl_mx A j - pl_mn A j := by unfold pl_sp; rw [if_neg (by omega), e]
      refine g_iload_n dX6_spreadNow_62 rfl ?_
      refine g_iload_n dX6_spreadNow_63 rfl ?_
      refine g_isub dX6_spreadNow_64 ?_
      refine g_ireturn dX6_spreadNow_65 rfl rfl (by decide) ?_
      exact ⟨by rw [ep, iI_sub], rfl⟩
    · have hlt : j < A.1 := xnl_i c21 (by omega) (by omega)
      have tl := i4 j hlt
      have a9 := s_shr_r hI (t := j) hlt
      have en : pl_mn A (j + 1) = if s_shr A j < pl_mn A j then s_shr A j else pl_mn A j := by show (if j = 0 then _ else _) = _; rw [if_neg (by omega)]
      have ex : pl_mx A (j + 1) = if pl_mx A j < s_shr A j then s_shr A j else pl_mx A j := by show (if j = 0 then _ else _) = _; rw [if_neg (by omega)]
      refine g_iload_n dX6_spreadNow_24 rfl ?_
      refine g_aload_n dX6_spreadNow_25 rfl ?_
      refine g_iload_n dX6_spreadNow_26 rfl ?_
      refine g_aload_n dX6_spreadNow_27 rfl ?_
      refine g_iload_n dX6_spreadNow_28 rfl ?_
      refine g_iconst (v := 4) dX6_spreadNow_29 (by decide) ?_
      refine f1_V (u' := 0) lX6_70 kX6_by (mX6_by (f := 4) hM (by omega) rfl (by assumption)) dX6_spreadNow_30 rfl rfl rfl rfl rfl rfl rfl rfl ?_
      refine f1_V (u' := 0) lX6_159 kX6_share (mX6_share hM hI (by omega) (by assumption)) dX6_spreadNow_33 rfl rfl rfl rfl rfl rfl rfl rfl ?_
      refine g_min xmin_X6_200 xmin_s xmath_i xmin_c dX6_spreadNow_36 rfl rfl ?_
      refine g_top (y := iI (pl_mn A (j + 1))) (by rw [show s_share A j (aF A 4 j) = s_shr A j from rfl, en]; by_cases q : s_shr A j < pl_mn A j; rw [if_pos q, if_pos ((iI_lt (by omega) (by omega) (by omega) (by omega)).mpr q)]; rw [if_neg q, if_neg (fun y => q ((iI_lt (by omega) (by omega) (by omega) (by omega)).mp y))]) ?_
      refine s_i (i := 1) dX6_spreadNow_39 rfl rfl rfl rfl ?_
      dsimp only [List.set]
      refine g_iload_n dX6_spreadNow_40 rfl ?_
      refine g_aload_n dX6_spreadNow_41 rfl ?_
      refine g_iload_n dX6_spreadNow_42 rfl ?_
      refine g_aload_n dX6_spreadNow_43 rfl ?_
      refine g_iload_n dX6_spreadNow_44 rfl ?_
      refine g_iconst (v := 4) dX6_spreadNow_45 (by decide) ?_
      refine f1_V (u' := 0) lX6_70 kX6_by (mX6_by (f := 4) hM (by omega) rfl (by assumption)) dX6_spreadNow_46 rfl rfl rfl rfl rfl rfl rfl rfl ?_
      refine f1_V (u' := 0) lX6_159 kX6_share (mX6_share hM hI (by omega) (by assumption)) dX6_spreadNow_49 rfl rfl rfl rfl rfl rfl rfl rfl ?_
      refine g_max xmax_X6_205 xmax_s xmath_i xmax_c dX6_spreadNow_52 rfl rfl ?_
      refine g_top (y := iI (pl_mx A (j + 1))) (by rw [show s_share A j (aF A 4 j) = s_shr A j from rfl, ex]; by_cases q : pl_mx A j < s_shr A j; rw [if_pos q, if_pos ((iI_lt (by omega) (by omega) (by omega) (by omega)).mpr q)]; rw [if_neg q, if_neg (fun y => q ((iI_lt (by omega) (by omega) (by omega) (by omega)).mp y))]) ?_
      refine s_i (i := 2) dX6_spreadNow_55 rfl rfl rfl rfl ?_
      dsimp only [List.set]
      refine s_inc (v := nI (j + 1)) dX6_spreadNow_56 rfl nI_s rfl rfl rfl ?_
      dsimp only [List.set]
      refine g_goto (tgt := 16) dX6_spreadNow_59 (by decide) ?_
      exact ih (j + 1) (by omega) (by omega) (by omega)
set_option maxRecDepth 100000 in
theorem mX6_spreadNow {l : Launch} {G : ux_G} {h : ux_H} {A : Ab} {P : Nat} (hM : rM 193 0 A h) (hI : Inv P A) (h0 : 0 < A.1) : ux_F l G yX6_spreadNow iX6_spreadNow 4 0 [.ref 192] h (some (.int (iI (pl_sp A)))) (h) := by
  unfold ux_F
  refine ux_ent (L' := [some (.ref 192), none, none, none]) kX6_spreadNow rfl rfl rfl rfl ?_
  obtain ⟨i1, i2, i3, i4, i5, i6⟩ := id hI
  have tl := i4 0 h0
  refine g_aload_n dX6_spreadNow_0 rfl ?_
  refine g_iconst (v := 0) dX6_spreadNow_1 (by decide) ?_
  refine g_aload_n dX6_spreadNow_2 rfl ?_
  refine g_iconst (v := 0) dX6_spreadNow_3 (by decide) ?_
  refine g_iconst (v := 4) dX6_spreadNow_4 (by decide) ?_
  refine f1_V (u' := 0) lX6_70 kX6_by (mX6_by (t := 0) (f := 4) hM (by omega) rfl h0) dX6_spreadNow_5 rfl rfl rfl rfl rfl rfl rfl rfl ?_
  refine f1_V (u' := 0) lX6_159 kX6_share (mX6_share (t := 0) hM hI (by omega) h0) dX6_spreadNow_8 rfl rfl rfl rfl rfl rfl rfl rfl ?_
  refine s_i (i := 1) dX6_spreadNow_11 rfl rfl rfl rfl ?_
  dsimp only [List.set]
  refine g_iload_n dX6_spreadNow_12 rfl ?_
  refine s_i (i := 2) dX6_spreadNow_13 rfl rfl rfl rfl ?_
  dsimp only [List.set]
  refine g_iconst (v := 1) dX6_spreadNow_14 (by decide) ?_
  refine s_i (i := 3) dX6_spreadNow_15 rfl rfl rfl rfl ?_
  dsimp only [List.set]
  exact wX6_spreadNow (l := l) (G := G) hM hI h0 (A.1 + 1) 1 (Nat.le_refl _) h0 (by omega)
