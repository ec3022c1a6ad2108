/-! THE CLASS: refused entries. -/
theorem s_tE_a {L : List Nat} {p : Nat} (h : (s_tE L p).1 = true) (c : s_ch L p = 97) : (0 ≤ (s_tD L (p + 1) 0 7).1 ∧ (s_tD L (p + 1) 0 7).1 ≤ 7) ∧ 0 ≤ (s_tN L ((s_tD L (p + 1) 0 7).2 + 1)).1 ∧ (s_tN L ((s_tD L (p + 1) 0 7).2 + 1)).1 ≤ 99 := by
  have r1 := s_tD_r L (p + 1) 0 7
  have r2 := s_tN_r L ((s_tD L (p + 1) 0 7).2 + 1)
  unfold s_tE at h
  split at h
  · next q => have := s_ch_of q; omega
  · split at h
    · next q => have := s_ch_of q; omega
    · split at h
      · have k := s_cl_1 h
        unfold s_tA at k
        split at k
        · exact absurd k Bool.false_ne_true
        · split at k
          · have := of_decide_eq_true k
            omega
          · exact absurd k Bool.false_ne_true
      · exact absurd h Bool.false_ne_true
theorem s_tE_l {L : List Nat} {p : Nat} (h : (s_tE L p).1 = true) (c : s_ch L p = 108) : (0 ≤ (s_tN L (p + 1)).1 ∧ (s_tN L (p + 1)).1 ≤ 99) ∧ (0 ≤ (s_l1 L (p + 1)).1 ∧ (s_l1 L (p + 1)).1 ≤ 5) ∧ (0 ≤ (s_l2 L (p + 1)).1 ∧ (s_l2 L (p + 1)).1 ≤ 5) ∧ (0 ≤ (s_l3 L (p + 1)).1 ∧ (s_l3 L (p + 1)).1 ≤ 7) ∧ 0 ≤ (s_l4 L (p + 1)).1 ∧ (s_l4 L (p + 1)).1 ≤ 5 := by
  have r0 := s_tN_r L (p + 1)
  have r1 : (s_l1 L (p + 1)).1 = -1 ∨ (0 ≤ (s_l1 L (p + 1)).1 ∧ (s_l1 L (p + 1)).1 ≤ ((5 : Nat) : Int)) := s_mk_r _ _ _ _
  have r2 : (s_l2 L (p + 1)).1 = -1 ∨ (0 ≤ (s_l2 L (p + 1)).1 ∧ (s_l2 L (p + 1)).1 ≤ ((5 : Nat) : Int)) := s_mk_r _ _ _ _
  have r3 : (s_l3 L (p + 1)).1 = -1 ∨ (0 ≤ (s_l3 L (p + 1)).1 ∧ (s_l3 L (p + 1)).1 ≤ ((7 : Nat) : Int)) := s_mk_r _ _ _ _
  have r4 : (s_l4 L (p + 1)).1 = -1 ∨ (0 ≤ (s_l4 L (p + 1)).1 ∧ (s_l4 L (p + 1)).1 ≤ ((5 : Nat) : Int)) := s_mk_r _ _ _ _
  unfold s_tE at h
  split at h
  · next q => have := s_ch_of q; omega
  · split at h
    · have k := s_cl_1 h
      unfold s_tL at k
      split at k
      · exact absurd k Bool.false_ne_true
      · split at k
        · exact absurd k Bool.false_ne_true
        · split at k
          · exact absurd k Bool.false_ne_true
          · split at k
            · exact absurd k Bool.false_ne_true
            · have := of_decide_eq_true k
              omega
    · split at h
      · next q => have := s_ch_of q; omega
      · exact absurd h Bool.false_ne_true
theorem s_tE_t {L : List Nat} {p : Nat} (hp : p < L.length) (h : (s_tE L p).1 = true) (c : s_ch L p = 116) : (1 ≤ (s_tTa L (p + 1)).1 ∧ (s_tTa L (p + 1)).1 ≤ 63) ∧ 1 ≤ (s_tTv L (p + 1)).1 ∧ (s_tTv L (p + 1)).1 ≤ 4 := by
  have r5 : (s_tTv L (p + 1)).1 = -1 ∨ (((1 : Nat) : Int) ≤ (s_tTv L (p + 1)).1 ∧ (s_tTv L (p + 1)).1 ≤ ((4 : Nat) : Int)) := s_tD_r L ((s_tTa L (p + 1)).2 + 1) 1 4
  have l9 := s_tD_le (L := L) (p := p + 1) (lo := 0) (hi := 5) hp
  have r9 := s_tD_r L (p + 1) 0 5
  obtain ⟨t1, t2, t3⟩ := s_tT1_le (L := L) 6 (d := (s_tD L (p + 1) 0 5).1) (su := 0) l9.2 (by
    rcases r9 with r9 | r9
    · exact Or.inl r9
    · exact Or.inr ⟨by omega, by omega, Nat.pow_pos (by decide)⟩) (by decide)
  have t3 : (s_tTa L (p + 1)).1 < 64 := t3
  unfold s_tE at h
  split at h
  · have k := s_cl_1 h
    unfold s_tT at k
    split at k
    · exact absurd k Bool.false_ne_true
    · split at k
      · have := of_decide_eq_true k
        omega
      · exact absurd k Bool.false_ne_true
  · split at h
    · next q => have := s_ch_of q; omega
    · split at h
      · next q => have := s_ch_of q; omega
      · exact absurd h Bool.false_ne_true
set_option maxRecDepth 100000 in
theorem mX1_isRefusedBy {l : Launch} {G : ux_G} {h : ux_H} {L : List Nat} {p : Nat} {A : Ab} {P : Nat} (hC : rC 0 A h) (hI : Inv P A) (hE : rE L p h) (hok : (s_tE L p).1 = true) (hcl : s_ch L p < 128) : ux_F l G yX1_isRefusedBy iX1_isRefusedBy 4 0 [.ref 188, .ref 0] h (some (.int (if s_ref A L p = true then 1 else 0))) (h) := by
  unfold ux_F
  refine ux_ent (L' := [some (.ref 188), some (.ref 0)]) kX1_isRefusedBy rfl rfl rfl rfl ?_
  obtain ⟨i1, i2, i3, i4, i5, i6⟩ := id hI
  obtain ⟨hE3, hEt, hEl, hEa⟩ := id hE
  refine g_aload_n dX1_isRefusedBy_0 rfl ?_
  refine g_geti fX1_22 dX1_isRefusedBy_1 rfl rfl ?_
  refine g_top hE3 ?_
  refine g_bipush (v := 116) dX1_isRefusedBy_4 (by decide) ?_
  refine g_icmp_ne (tgt := 24) dX1_isRefusedBy_6 (by decide) (fun c6 => ?_) (fun c6 => ?_)
  · have qx6q : ¬ s_ch L p = 116 := by rw [nI_iI, show (116 : Int32) = iI 116 by decide, iI_eq (by omega) (by omega) (by omega) (by omega)] at c6; omega
    refine g_aload_n dX1_isRefusedBy_24 rfl ?_
    refine g_geti fX1_22 dX1_isRefusedBy_25 rfl rfl ?_
    refine g_top hE3 ?_
    refine g_bipush (v := 108) dX1_isRefusedBy_28 (by decide) ?_
    refine g_icmp_ne (tgt := 66) dX1_isRefusedBy_30 (by decide) (fun c30 => ?_) (fun c30 => ?_)
    · have qx30q : ¬ s_ch L p = 108 := by rw [nI_iI, show (108 : Int32) = iI 108 by decide, iI_eq (by omega) (by omega) (by omega) (by omega)] at c30; omega
      have q97 : s_ch L p = 97 := by have := s_tE_k hok; omega
      obtain ⟨ra, rb⟩ := s_tE_a hok q97
      refine g_aload_n dX1_isRefusedBy_66 rfl ?_
      refine g_geti fX1_41 dX1_isRefusedBy_67 rfl rfl ?_
      refine g_top (hEa q97).1 ?_
      refine g_aload_n dX1_isRefusedBy_70 rfl ?_
      refine g_geti fX1_68 dX1_isRefusedBy_71 rfl rfl ?_
      refine g_top hC.1 ?_
      refine g_icmp_ge (tgt := 101) dX1_isRefusedBy_74 (by decide) (fun c74 => ?_) (fun c74 => ?_)
      · rw [nI_iI, iI_le (by omega) (by omega) (by omega) (by omega)] at c74
        refine g_iconst (v := 1) dX1_isRefusedBy_101 (by decide) ?_
        refine g_goto (tgt := 106) dX1_isRefusedBy_102 (by decide) ?_
        refine g_ireturn dX1_isRefusedBy_106 rfl rfl (by decide) ?_
        first
        | (have eR : s_ref A L p = true := by unfold s_ref; rw [if_neg qx6q, if_neg qx30q, decide_eq_true c74]; rfl
           exact ⟨by rw [if_pos eR], rfl⟩)
        | (have eR : s_ref A L p = true := by unfold s_ref; rw [if_neg qx6q, if_neg qx30q, decide_eq_true c83, Bool.or_true]; rfl
           exact ⟨by rw [if_pos eR], rfl⟩)
        | (have eR : s_ref A L p = true := by unfold s_ref; rw [if_neg qx6q, if_neg qx30q, q98, Bool.or_true]
           exact ⟨by rw [if_pos eR], rfl⟩)
        | (have eR : ¬ s_ref A L p = true := by unfold s_ref; rw [if_neg qx6q, if_neg qx30q, decide_eq_false c74, decide_eq_false c83, Bool.eq_false_iff.mpr q98]; exact Bool.false_ne_true
           exact ⟨by rw [if_neg eR], rfl⟩)
      · rw [nI_iI, iI_le (by omega) (by omega) (by omega) (by omega)] at c74
        refine g_aload_n dX1_isRefusedBy_77 rfl ?_
        refine g_geti fX1_32 dX1_isRefusedBy_78 rfl rfl ?_
        refine g_top (hEa q97).2 ?_
        refine g_bipush (v := 30) dX1_isRefusedBy_81 (by decide) ?_
        refine g_icmp_ge (tgt := 101) dX1_isRefusedBy_83 (by decide) (fun c83 => ?_) (fun c83 => ?_)
        · rw [show (30 : Int32) = iI 30 by decide, iI_le (by omega) (by omega) (by omega) (by omega)] at c83
          refine g_iconst (v := 1) dX1_isRefusedBy_101 (by decide) ?_
          refine g_goto (tgt := 106) dX1_isRefusedBy_102 (by decide) ?_
          refine g_ireturn dX1_isRefusedBy_106 rfl rfl (by decide) ?_
          first
          | (have eR : s_ref A L p = true := by unfold s_ref; rw [if_neg qx6q, if_neg qx30q, decide_eq_true c74]; rfl
             exact ⟨by rw [if_pos eR], rfl⟩)
          | (have eR : s_ref A L p = true := by unfold s_ref; rw [if_neg qx6q, if_neg qx30q, decide_eq_true c83, Bool.or_true]; rfl
             exact ⟨by rw [if_pos eR], rfl⟩)
          | (have eR : s_ref A L p = true := by unfold s_ref; rw [if_neg qx6q, if_neg qx30q, q98, Bool.or_true]
             exact ⟨by rw [if_pos eR], rfl⟩)
          | (have eR : ¬ s_ref A L p = true := by unfold s_ref; rw [if_neg qx6q, if_neg qx30q, decide_eq_false c74, decide_eq_false c83, Bool.eq_false_iff.mpr q98]; exact Bool.false_ne_true
             exact ⟨by rw [if_neg eR], rfl⟩)
        · rw [show (30 : Int32) = iI 30 by decide, iI_le (by omega) (by omega) (by omega) (by omega)] at c83
          refine g_aload_n dX1_isRefusedBy_86 rfl ?_
          refine g_aload_n dX1_isRefusedBy_87 rfl ?_
          refine g_geti fX1_41 dX1_isRefusedBy_88 rfl rfl ?_
          refine g_top (hEa q97).1 ?_
          refine g_top (iI_get (by omega) (by omega)) ?_
          refine g_aload_n dX1_isRefusedBy_91 rfl ?_
          refine g_geti fX1_32 dX1_isRefusedBy_92 rfl rfl ?_
          refine g_top (hEa q97).2 ?_
          refine f1_VN (u' := 0) lX1_74 kX4_isAbsentIn (mX4_isAbsentIn hC hI (show (s_tD L (p + 1) 0 7).1.toNat < A.1 by omega)) dX1_isRefusedBy_95 rfl rfl rfl rfl rfl rfl rfl rfl ?_
          refine g_if_eq (tgt := 105) dX1_isRefusedBy_98 (by decide) (fun c98 => ?_) (fun c98 => ?_)
          · have q98 : ¬ s_away A (s_tD L (p + 1) 0 7).1.toNat (s_tN L ((s_tD L (p + 1) 0 7).2 + 1)).1 = true := xb_0.mp c98
            refine g_iconst (v := 0) dX1_isRefusedBy_105 (by decide) ?_
            refine g_ireturn dX1_isRefusedBy_106 rfl rfl (by decide) ?_
            first
            | (have eR : s_ref A L p = true := by unfold s_ref; rw [if_neg qx6q, if_neg qx30q, decide_eq_true c74]; rfl
               exact ⟨by rw [if_pos eR], rfl⟩)
            | (have eR : s_ref A L p = true := by unfold s_ref; rw [if_neg qx6q, if_neg qx30q, decide_eq_true c83, Bool.or_true]; rfl
               exact ⟨by rw [if_pos eR], rfl⟩)
            | (have eR : s_ref A L p = true := by unfold s_ref; rw [if_neg qx6q, if_neg qx30q, q98, Bool.or_true]
               exact ⟨by rw [if_pos eR], rfl⟩)
            | (have eR : ¬ s_ref A L p = true := by unfold s_ref; rw [if_neg qx6q, if_neg qx30q, decide_eq_false c74, decide_eq_false c83, Bool.eq_false_iff.mpr q98]; exact Bool.false_ne_true
               exact ⟨by rw [if_neg eR], rfl⟩)
          · have q98 : s_away A (s_tD L (p + 1) 0 7).1.toNat (s_tN L ((s_tD L (p + 1) 0 7).2 + 1)).1 = true := xb_n0 c98
            refine g_iconst (v := 1) dX1_isRefusedBy_101 (by decide) ?_
            refine g_goto (tgt := 106) dX1_isRefusedBy_102 (by decide) ?_
            refine g_ireturn dX1_isRefusedBy_106 rfl rfl (by decide) ?_
            first
            | (have eR : s_ref A L p = true := by unfold s_ref; rw [if_neg qx6q, if_neg qx30q, decide_eq_true c74]; rfl
               exact ⟨by rw [if_pos eR], rfl⟩)
            | (have eR : s_ref A L p = true := by unfold s_ref; rw [if_neg qx6q, if_neg qx30q, decide_eq_true c83, Bool.or_true]; rfl
               exact ⟨by rw [if_pos eR], rfl⟩)
            | (have eR : s_ref A L p = true := by unfold s_ref; rw [if_neg qx6q, if_neg qx30q, q98, Bool.or_true]
               exact ⟨by rw [if_pos eR], rfl⟩)
            | (have eR : ¬ s_ref A L p = true := by unfold s_ref; rw [if_neg qx6q, if_neg qx30q, decide_eq_false c74, decide_eq_false c83, Bool.eq_false_iff.mpr q98]; exact Bool.false_ne_true
               exact ⟨by rw [if_neg eR], rfl⟩)
    · have q30 : s_ch L p = 108 := by rw [nI_iI, show (108 : Int32) = iI 108 by decide, iI_eq (by omega) (by omega) (by omega) (by omega)] at c30; omega
      obtain ⟨ra, rb, rc, rd, re⟩ := s_tE_l hok q30
      refine g_aload_n dX1_isRefusedBy_33 rfl ?_
      refine g_aload_n dX1_isRefusedBy_34 rfl ?_
      refine g_geti fX1_32 dX1_isRefusedBy_35 rfl rfl ?_
      refine g_top (hEl q30).1 ?_
      refine g_aload_n dX1_isRefusedBy_38 rfl ?_
      refine g_geti fX1_35 dX1_isRefusedBy_39 rfl rfl ?_
      refine g_top (hEl q30).2.1 ?_
      refine g_aload_n dX1_isRefusedBy_42 rfl ?_
      refine g_geti fX1_38 dX1_isRefusedBy_43 rfl rfl ?_
      refine g_top (hEl q30).2.2.1 ?_
      refine g_aload_n dX1_isRefusedBy_46 rfl ?_
      refine g_geti fX1_41 dX1_isRefusedBy_47 rfl rfl ?_
      refine g_top (hEl q30).2.2.2.1 ?_
      refine g_aload_n dX1_isRefusedBy_50 rfl ?_
      refine g_geti fX1_44 dX1_isRefusedBy_51 rfl rfl ?_
      refine g_top (hEl q30).2.2.2.2 ?_
      refine f1_VN (u' := 0) lX1_71 kX4_faultOfLesson (mX4_faultOfLesson hC hI (by omega) (by omega) (by omega) (by omega) (by omega)) dX1_isRefusedBy_54 rfl rfl rfl rfl rfl rfl rfl rfl ?_
      have f3 := s_fault_r A (s_tN L (p + 1)).1 (s_l1 L (p + 1)).1 (s_l2 L (p + 1)).1 (s_l3 L (p + 1)).1 (s_l4 L (p + 1)).1
      refine g_if_eq (tgt := 64) dX1_isRefusedBy_57 (by decide) (fun c57 => ?_) (fun c57 => ?_)
      · have q57 : s_fault A (s_tN L (p + 1)).1 (s_l1 L (p + 1)).1 (s_l2 L (p + 1)).1 (s_l3 L (p + 1)).1 (s_l4 L (p + 1)).1 = 0 := by rw [nI_iI, xq0 (by omega) (by omega)] at c57; omega
        refine g_iconst (v := 0) dX1_isRefusedBy_64 (by decide) ?_
        refine g_ireturn dX1_isRefusedBy_65 rfl rfl (by decide) ?_
        first
        | (have eR : s_ref A L p = true := by unfold s_ref; rw [if_neg qx6q, if_pos q30]; exact decide_eq_true q57
           exact ⟨by rw [if_pos eR], rfl⟩)
        | (have eR : ¬ s_ref A L p = true := by unfold s_ref; rw [if_neg qx6q, if_pos q30]; exact fun y => (of_decide_eq_true y) q57
           exact ⟨by rw [if_neg eR], rfl⟩)
      · have q57 : ¬ s_fault A (s_tN L (p + 1)).1 (s_l1 L (p + 1)).1 (s_l2 L (p + 1)).1 (s_l3 L (p + 1)).1 (s_l4 L (p + 1)).1 = 0 := by rw [nI_iI, xq0 (by omega) (by omega)] at c57; omega
        refine g_iconst (v := 1) dX1_isRefusedBy_60 (by decide) ?_
        refine g_goto (tgt := 65) dX1_isRefusedBy_61 (by decide) ?_
        refine g_ireturn dX1_isRefusedBy_65 rfl rfl (by decide) ?_
        first
        | (have eR : s_ref A L p = true := by unfold s_ref; rw [if_neg qx6q, if_pos q30]; exact decide_eq_true q57
           exact ⟨by rw [if_pos eR], rfl⟩)
        | (have eR : ¬ s_ref A L p = true := by unfold s_ref; rw [if_neg qx6q, if_pos q30]; exact fun y => (of_decide_eq_true y) q57
           exact ⟨by rw [if_neg eR], rfl⟩)
  · have q6 : s_ch L p = 116 := by rw [nI_iI, show (116 : Int32) = iI 116 by decide, iI_eq (by omega) (by omega) (by omega) (by omega)] at c6; omega
    refine g_aload_n dX1_isRefusedBy_9 rfl ?_
    refine g_geti fX1_68 dX1_isRefusedBy_10 rfl rfl ?_
    refine g_top hC.1 ?_
    refine g_bipush (v := 8) dX1_isRefusedBy_13 (by decide) ?_
    refine g_icmp_lt (tgt := 22) dX1_isRefusedBy_15 (by decide) (fun c15 => ?_) (fun c15 => ?_)
    · rw [nI_iI, show (8 : Int32) = iI 8 by decide, iI_lt (by omega) (by omega) (by omega) (by omega)] at c15
      refine g_iconst (v := 0) dX1_isRefusedBy_22 (by decide) ?_
      refine g_ireturn dX1_isRefusedBy_23 rfl rfl (by decide) ?_
      first
      | (have eR : s_ref A L p = true := by unfold s_ref; rw [if_pos q6]; exact decide_eq_true (by omega)
         exact ⟨by rw [if_pos eR], rfl⟩)
      | (have eR : ¬ s_ref A L p = true := by unfold s_ref; rw [if_pos q6]; exact fun y => by have := of_decide_eq_true y; omega
         exact ⟨by rw [if_neg eR], rfl⟩)
    · rw [nI_iI, show (8 : Int32) = iI 8 by decide, iI_lt (by omega) (by omega) (by omega) (by omega)] at c15
      refine g_iconst (v := 1) dX1_isRefusedBy_18 (by decide) ?_
      refine g_goto (tgt := 23) dX1_isRefusedBy_19 (by decide) ?_
      refine g_ireturn dX1_isRefusedBy_23 rfl rfl (by decide) ?_
      first
      | (have eR : s_ref A L p = true := by unfold s_ref; rw [if_pos q6]; exact decide_eq_true (by omega)
         exact ⟨by rw [if_pos eR], rfl⟩)
      | (have eR : ¬ s_ref A L p = true := by unfold s_ref; rw [if_pos q6]; exact fun y => by have := of_decide_eq_true y; omega
         exact ⟨by rw [if_neg eR], rfl⟩)
