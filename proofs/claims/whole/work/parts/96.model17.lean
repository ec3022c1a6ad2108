/-! THE REFERENCE: what is asked of the plans: walks. -/
theorem kp_ne {A : Ab} {a : Int} (h : kl A a ≠ 0) : k_plan A a = kl A a := by
  obtain ⟨g1, g2, g3, g4, g5⟩ := kl_pd (A := A) (a := a)
  unfold k_plan
  by_cases q : k_planDay A a ≠ 0
  · rw [if_pos q]; omega
  · rw [if_neg q]
    by_cases q3 : (pl_of A a.toNat).1 = 0
    · rw [if_pos (Or.inr q3)]; omega
    · omega
theorem kp_0 {A : Ab} {a : Int} (h : kl A a = 0) (h1 : A.1 ≠ 0) : k_plan A a = 0 := by
  obtain ⟨g1, g2, g3, g4, g5⟩ := kl_pd (A := A) (a := a)
  unfold k_plan
  rw [if_neg (by omega), if_neg (by omega)]
theorem kp_3 {A : Ab} {a : Int} (h : kl A a = 0) (h1 : A.1 = 0) : k_plan A a = 3 := by
  obtain ⟨g1, g2, g3, g4, g5⟩ := kl_pd (A := A) (a := a)
  unfold k_plan
  rw [if_neg (by omega), if_pos (Or.inl h1)]
theorem nI_le0 {k : Nat} (hk : k ≤ 1000) : nI k ≤ 0 ↔ k = 0 := by
  rw [show (0 : Int32) = nI 0 by decide, nI_leI (by omega) (by decide)]; omega
theorem nI_eq0 {k : Nat} (hk : k ≤ 1000) : nI k = 0 ↔ k = 0 := by rw [nI_iI, xq0 (by omega) (by omega)]; omega
set_option maxRecDepth 100000 in
theorem tX6_ps {l : Launch} {G : ux_G} {h9 h : ux_H} {a : Int} {A : Ab} {Hs : List Ab} {K : Nat} (hM : rM 193 0 A h) (hK : rK Hs h) (hF : x_fN h9 h) (hT : xgi h 192 0 = nI K) (hK3 : K ≤ 3) (hk : k_plan A a = K) (hb : K = 0 → xgi h 192 15 = iI (pl_of A a.toNat).2.1) : ux_W l G iX6_plannedSpread (ux_rm 15 0) (ux_Z G 0 (QR (k_plan A a) (iI (pl_of A a.toNat).2.1) A Hs h9) (fun _ _ => False)) 25 [some (.ref 192), some (.int (iI a))] [] (h) 0 := by
  refine g_aload_n dX6_plannedSpread_25 rfl ?_
  refine g_geti fX6_44 dX6_plannedSpread_26 rfl rfl ?_
  refine g_top hT ?_
  refine g_if_le (tgt := 36) dX6_plannedSpread_29 (by decide) (fun c29 => ?_) (fun c29 => ?_)
  · have q29 := (nI_le0 (by omega)).mp c29
    refine g_aload_n dX6_plannedSpread_36 rfl ?_
    refine g_geti fX6_214 dX6_plannedSpread_37 rfl rfl ?_
    refine g_top (hb q29) ?_
    refine g_ireturn dX6_plannedSpread_40 rfl rfl (by decide) ?_
    rw [hk]
    first | exact ⟨by rw [if_pos q29], hT, hM, hK, hF⟩ | exact ⟨by rw [if_neg q29], hT, hM, hK, hF⟩
  · have q29 := (not_congr (nI_le0 (by omega))).mp c29
    refine g_iconst (v := 0) dX6_plannedSpread_32 (by decide) ?_
    refine g_goto (tgt := 40) dX6_plannedSpread_33 (by decide) ?_
    refine g_ireturn dX6_plannedSpread_40 rfl rfl (by decide) ?_
    rw [hk]
    first | exact ⟨by rw [if_pos q29], hT, hM, hK, hF⟩ | exact ⟨by rw [if_neg q29], hT, hM, hK, hF⟩
set_option maxRecDepth 100000 in
theorem mX6_plannedSpread {l : Launch} {G : ux_G} {h : ux_H} {a : Int} {Hs : List Ab} {A : Ab} {P : Nat} (hM : rM 193 0 A h) (hK : rK Hs h) (hI : Inv P A) (hJ : InvF A) (hP : P + 3000 ≤ 10000000) (ra : -2147483648 ≤ a ∧ a ≤ 2147483647) : ux_M l G yX6_plannedSpread iX6_plannedSpread 15 0 [.ref 192, .int (iI a)] h (QR (k_plan A a) (iI (pl_of A a.toNat).2.1) A Hs h) (fun _ _ => False) := by
  refine ux_ent (L' := [some (.ref 192), some (.int (iI a))]) kX6_plannedSpread rfl rfl rfl rfl ?_
  obtain ⟨i1, i2, i3, i4, i5, i6⟩ := id hI
  refine g_aload_n dX6_plannedSpread_0 rfl ?_
  refine g_iload_n dX6_plannedSpread_1 rfl ?_
  refine q_V (u' := 0) lX6_220 kX6_looks (mX6_looks hM hI hJ (by omega) ra) dX6_plannedSpread_2 rfl rfl rfl rfl rfl rfl rfl rfl (fun v h2 hq => ?_) (fun _ _ q => q.elim)
  have hQ := hq
  obtain ⟨rfl, hT2, hM2, hr2, hF2⟩ := hq
  obtain ⟨g1, g2, g3, g4, g5⟩ := kl_pd (A := A) (a := a)
  have hK2 := rK_l hK hF2
  dsimp only [Option.toList, List.cons_append, List.nil_append]
  refine g_pop dX6_plannedSpread_5 rfl ?_
  refine g_aload_n dX6_plannedSpread_6 rfl ?_
  refine g_geti fX6_44 dX6_plannedSpread_7 rfl rfl ?_
  refine g_top hT2 ?_
  refine g_if_ne (tgt := 25) dX6_plannedSpread_10 (by decide) (fun c10 => ?_) (fun c10 => ?_)
  · have q10 := (not_congr (nI_eq0 (by omega))).mp c10
    first
    | exact tX6_ps (l := l) (G := G) (h9 := h) hM2 hK2 (x_fN_l hF2) hT2 g5 (kp_ne q10) (fun y => absurd y q10)
    | exact tX6_ps (l := l) (G := G) (h9 := h) (K := 0) hM2 hK2 (x_fN_l hF2) (by rw [hT2, q10]) (by decide) (kp_0 q10 q17) (fun _ => ((hr2 (Or.inl q10)).2.2.2.2 (g3.mp q10).2).1)
    | exact tX6_ps (l := l) (G := G) (h9 := h) (K := 3) (rM_0t (Or.inl rfl) hM2) (rK_0t (by decide) hK2) (x_fN_tr (x_fN_l hF2) (x_fN_0 _ _)) (xgi_si _ _ _ _) (by decide) (kp_3 q10 q17) (fun y => absurd y (by decide))
  · have q10 := (nI_eq0 (by omega)).mp c10
    refine g_aload_n dX6_plannedSpread_13 rfl ?_
    refine f1_V (u' := 0) lX6_62 kX6_teachers (mX6_teachers hM2) dX6_plannedSpread_14 rfl rfl rfl rfl rfl rfl rfl rfl ?_
    refine g_if_ne (tgt := 25) dX6_plannedSpread_17 (by decide) (fun c17 => ?_) (fun c17 => ?_)
    · have q17 := (not_congr (nI_eq0 (by omega))).mp c17
      first
      | exact tX6_ps (l := l) (G := G) (h9 := h) hM2 hK2 (x_fN_l hF2) hT2 g5 (kp_ne q10) (fun y => absurd y q10)
      | exact tX6_ps (l := l) (G := G) (h9 := h) (K := 0) hM2 hK2 (x_fN_l hF2) (by rw [hT2, q10]) (by decide) (kp_0 q10 q17) (fun _ => ((hr2 (Or.inl q10)).2.2.2.2 (g3.mp q10).2).1)
      | exact tX6_ps (l := l) (G := G) (h9 := h) (K := 3) (rM_0t (Or.inl rfl) hM2) (rK_0t (by decide) hK2) (x_fN_tr (x_fN_l hF2) (x_fN_0 _ _)) (xgi_si _ _ _ _) (by decide) (kp_3 q10 q17) (fun y => absurd y (by decide))
    · have q17 := (nI_eq0 (by omega)).mp c17
      refine g_aload_n dX6_plannedSpread_20 rfl ?_
      refine g_iconst (v := 3) dX6_plannedSpread_21 (by decide) ?_
      refine g_puti pX6_44 dX6_plannedSpread_22 rfl rfl ?_
      first
      | exact tX6_ps (l := l) (G := G) (h9 := h) hM2 hK2 (x_fN_l hF2) hT2 g5 (kp_ne q10) (fun y => absurd y q10)
      | exact tX6_ps (l := l) (G := G) (h9 := h) (K := 0) hM2 hK2 (x_fN_l hF2) (by rw [hT2, q10]) (by decide) (kp_0 q10 q17) (fun _ => ((hr2 (Or.inl q10)).2.2.2.2 (g3.mp q10).2).1)
      | exact tX6_ps (l := l) (G := G) (h9 := h) (K := 3) (rM_0t (Or.inl rfl) hM2) (rK_0t (by decide) hK2) (x_fN_tr (x_fN_l hF2) (x_fN_0 _ _)) (xgi_si _ _ _ _) (by decide) (kp_3 q10 q17) (fun y => absurd y (by decide))
set_option maxRecDepth 100000 in
theorem mX6_planned {l : Launch} {G : ux_G} {h : ux_H} {a b : Int} {Hs : List Ab} {A : Ab} {P : Nat} (hM : rM 193 0 A h) (hK : rK Hs h) (hI : Inv P A) (hJ : InvF A) (hP : P + 3000 ≤ 10000000) (ra : -2147483648 ≤ a ∧ a ≤ 2147483647) (rb : -2147483648 ≤ b ∧ b ≤ 2147483647) : ux_M l G yX6_planned iX6_planned 15 0 [.ref 192, .int (iI a), .int (iI b)] h (QR (k_planned A a b) (nI ((pl_of A a.toNat).2.2[b.toNat]?.getD 0)) A Hs h) (fun _ _ => False) := by
  refine ux_ent (L' := [some (.ref 192), some (.int (iI a)), some (.int (iI b)), none]) kX6_planned rfl rfl rfl rfl ?_
  obtain ⟨i1, i2, i3, i4, i5, i6⟩ := id hI
  refine g_aload_n dX6_planned_0 rfl ?_
  refine g_iload_n dX6_planned_1 rfl ?_
  refine q_V (u' := 0) lX6_220 kX6_looks (mX6_looks hM hI hJ (by omega) ra) dX6_planned_2 rfl rfl rfl rfl rfl rfl rfl rfl (fun v h2 hq => ?_) (fun _ _ q => q.elim)
  have hQ := hq
  obtain ⟨rfl, hT2, hM2, hr2, hF2⟩ := hq
  obtain ⟨g1, g2, g3, g4, g5⟩ := kl_pd (A := A) (a := a)
  have hK2 := rK_l hK hF2
  dsimp only [Option.toList, List.cons_append, List.nil_append]
  refine s_i (i := 3) dX6_planned_5 rfl rfl rfl rfl ?_
  dsimp only [List.set]
  refine g_aload_n dX6_planned_6 rfl ?_
  refine g_geti fX6_44 dX6_planned_7 rfl rfl ?_
  refine g_top hT2 ?_
  refine g_if_le (tgt := 15) dX6_planned_10 (by decide) (fun c10 => ?_) (fun c10 => ?_)
  · have q10 := (nI_le0 (by omega)).mp c10
    obtain ⟨hL, hd, hO, hrA⟩ := hr2 (Or.inl q10)
    refine g_iload_n dX6_planned_15 rfl ?_
    refine g_iconst (v := 0) dX6_planned_16 (by decide) ?_
    refine g_iload_n dX6_planned_17 rfl ?_
    refine g_top (y := nI (s_opl A a.toNat 6).length) (by rw [if_neg (by omega)]) ?_
    refine g_iconst (v := 1) dX6_planned_18 (by decide) ?_
    refine g_isub dX6_planned_19 ?_
    refine f1_S (u' := 0) lX6_58 kX6_in (mX6_in) dX6_planned_20 rfl rfl rfl rfl rfl rfl ?_
    refine g_if_eq (tgt := 35) dX6_planned_23 (by decide) (fun c23 => ?_) (fun c23 => ?_)
    · have q23 := (not_congr (x_ix (a := b) (n := (s_opl A a.toNat 6).length) rfl rb (by omega))).mp (xb_0.mp c23)
      refine g_aload_n dX6_planned_35 rfl ?_
      refine g_iconst (v := 3) dX6_planned_36 (by decide) ?_
      refine f1_V (u' := 0) lX6_107 kX6_raises (mX6_raises) dX6_planned_37 rfl rfl rfl rfl rfl rfl rfl rfl ?_
      refine g_ireturn dX6_planned_40 rfl rfl (by decide) ?_
      first
      | (have ek : k_planned A a b = 0 := by unfold k_planned; rw [if_neg (by omega), if_neg (by omega)]
         rw [ek]; exact ⟨by rw [if_pos rfl], by rw [hT2, q10], hM2, hK2, x_fN_l hF2⟩)
      | (have ek : k_planned A a b = 3 := by unfold k_planned; rw [if_neg (by omega), if_pos (Or.inr q23)]
         rw [ek]; exact ⟨rfl, xgi_si _ _ _ _, rM_0t (Or.inl rfl) hM2, rK_0t (by decide) hK2, x_fN_tr (x_fN_l hF2) (x_fN_0 _ _)⟩)
    · have q23 := (x_ix (a := b) (n := (s_opl A a.toNat 6).length) rfl rb (by omega)).mp (xb_n0 c23)
      have hAx := hrA.2 (g3.mp q10).2
      have hbl : b.toNat < (pl_of A a.toNat).2.2.length := by rw [hAx.2.1]; omega
      refine g_aload_n dX6_planned_26 rfl ?_
      refine g_getr (q := 200) fX6_35 dX6_planned_27 rfl rfl rfl ?_
      refine g_iload_n dX6_planned_30 rfl ?_
      refine g_top (y := nI b.toNat) (iI_get (by omega) (by omega)) ?_
      refine g_iald dX6_planned_31 rfl (show b.toNat < 4 by omega) rfl ?_
      refine g_top (y := nI ((pl_of A a.toNat).2.2[b.toNat]?.getD 0)) (by rw [hAx.2.2 b.toNat _ (List.getElem?_eq_getElem hbl), List.getElem?_eq_getElem hbl]; rfl) ?_
      refine g_goto (tgt := 40) dX6_planned_32 (by decide) ?_
      refine g_ireturn dX6_planned_40 rfl rfl (by decide) ?_
      first
      | (have ek : k_planned A a b = 0 := by unfold k_planned; rw [if_neg (by omega), if_neg (by omega)]
         rw [ek]; exact ⟨by rw [if_pos rfl], by rw [hT2, q10], hM2, hK2, x_fN_l hF2⟩)
      | (have ek : k_planned A a b = 3 := by unfold k_planned; rw [if_neg (by omega), if_pos (Or.inr q23)]
         rw [ek]; exact ⟨rfl, xgi_si _ _ _ _, rM_0t (Or.inl rfl) hM2, rK_0t (by decide) hK2, x_fN_tr (x_fN_l hF2) (x_fN_0 _ _)⟩)
  · have q10 := (not_congr (nI_le0 (by omega))).mp c10
    refine g_iconst (v := 0) dX6_planned_13 (by decide) ?_
    refine g_ireturn dX6_planned_14 rfl rfl (by decide) ?_
    have ek : k_planned A a b = kl A a ∨ (k_planned A a b = 3 ∧ kl A a = 3) := by
      unfold k_planned
      by_cases q : k_planDay A a ≠ 0
      · rw [if_pos q]; omega
      · rw [if_neg q]; right; rw [if_pos (Or.inl (by omega))]; omega
    have ek : k_planned A a b = kl A a := by omega
    rw [ek]
    exact ⟨by rw [if_neg q10], hT2, hM2, hK2, x_fN_l hF2⟩
set_option maxRecDepth 100000 in
theorem mX6_plans_ {l : Launch} {G : ux_G} {h : ux_H} {a : Int} {Hs : List Ab} {A : Ab} {P : Nat} (hM : rM 193 0 A h) (hK : rK Hs h) (hI : Inv P A) (hJ : InvF A) (hP : P + 3000 ≤ 10000000) (ra : -2147483648 ≤ a ∧ a ≤ 2147483647) : ux_M l G yX6_plans_ iX6_plans_ 15 0 [.ref 192, .int (iI a)] h (QR (k_planDay A a) (nI (pl_of A a.toNat).1) A Hs h) (fun _ _ => False) := by
  refine ux_ent (L' := [some (.ref 192), some (.int (iI a))]) kX6_plans_ rfl rfl rfl rfl ?_
  obtain ⟨i1, i2, i3, i4, i5, i6⟩ := id hI
  refine g_aload_n dX6_plans__0 rfl ?_
  refine g_iload_n dX6_plans__1 rfl ?_
  refine q_V (u' := 0) lX6_220 kX6_looks (mX6_looks hM hI hJ (by omega) ra) dX6_plans__2 rfl rfl rfl rfl rfl rfl rfl rfl (fun v h2 hq => ?_) (fun _ _ q => q.elim)
  have hQ := hq
  obtain ⟨rfl, hT2, hM2, hr2, hF2⟩ := hq
  obtain ⟨g1, g2, g3, g4, g5⟩ := kl_pd (A := A) (a := a)
  have hK2 := rK_l hK hF2
  dsimp only [Option.toList, List.cons_append, List.nil_append]
  refine g_pop dX6_plans__5 rfl ?_
  refine g_aload_n dX6_plans__6 rfl ?_
  refine g_geti fX6_44 dX6_plans__7 rfl rfl ?_
  refine g_top hT2 ?_
  refine g_iconst (v := 3) dX6_plans__10 (by decide) ?_
  refine g_icmp_ne (tgt := 19) dX6_plans__11 (by decide) (fun c11 => ?_) (fun c11 => ?_)
  · have q11 : kl A a ≠ 3 := fun y => c11 (by rw [y]; rfl)
    refine g_aload_n dX6_plans__19 rfl ?_
    refine g_geti fX6_44 dX6_plans__20 rfl rfl ?_
    first | refine g_top hT2 ?_ | refine g_top (y := nI 0) (xgi_si _ _ _ _) ?_
    refine g_if_le (tgt := 30) dX6_plans__23 (by decide) (fun c23 => ?_) (fun c23 => ?_)
    · have q23 := (nI_le0 (by omega)).mp c23
      refine g_aload_n dX6_plans__30 rfl ?_
      refine g_geti fX6_211 dX6_plans__31 rfl rfl ?_
      first | refine g_top (hr2 (Or.inl (by omega))).2.2.2.1 ?_ | refine g_top (y := nI (pl_of A a.toNat).1) ((xgi_ne _ _ _ _ _ _ (by decide)).trans (hr2 (Or.inr (by omega))).2.2.2.1) ?_
      refine g_ireturn dX6_plans__34 rfl rfl (by decide) ?_
      first
      | exact absurd rfl q23
      | (rw [show k_planDay A a = 0 by omega]; exact ⟨by rw [if_pos rfl], by rw [hT2, show kl A a = 0 by omega], hM2, hK2, x_fN_l hF2⟩)
      | (rw [show k_planDay A a = 0 by omega]; exact ⟨by rw [if_pos rfl], xgi_si _ _ _ _, rM_0t (Or.inl rfl) hM2, rK_0t (by decide) hK2, x_fN_tr (x_fN_l hF2) (x_fN_0 _ _)⟩)
      | (rw [show k_planDay A a = kl A a by omega]; exact ⟨by rw [if_neg (by omega)], hT2, hM2, hK2, x_fN_l hF2⟩)
    · have q23 := (not_congr (nI_le0 (by omega))).mp c23
      refine g_iconst (v := 0) dX6_plans__26 (by decide) ?_
      refine g_goto (tgt := 34) dX6_plans__27 (by decide) ?_
      refine g_ireturn dX6_plans__34 rfl rfl (by decide) ?_
      first
      | exact absurd rfl q23
      | (rw [show k_planDay A a = 0 by omega]; exact ⟨by rw [if_pos rfl], by rw [hT2, show kl A a = 0 by omega], hM2, hK2, x_fN_l hF2⟩)
      | (rw [show k_planDay A a = 0 by omega]; exact ⟨by rw [if_pos rfl], xgi_si _ _ _ _, rM_0t (Or.inl rfl) hM2, rK_0t (by decide) hK2, x_fN_tr (x_fN_l hF2) (x_fN_0 _ _)⟩)
      | (rw [show k_planDay A a = kl A a by omega]; exact ⟨by rw [if_neg (by omega)], hT2, hM2, hK2, x_fN_l hF2⟩)
  · have q11 : kl A a = 3 := by rw [show (3 : Int32) = nI 3 by decide, nI_iI, nI_iI, iI_eq (by omega) (by omega) (by omega) (by omega)] at c11; omega
    refine g_aload_n dX6_plans__14 rfl ?_
    refine g_iconst (v := 0) dX6_plans__15 (by decide) ?_
    refine g_puti pX6_44 dX6_plans__16 rfl rfl ?_
    refine g_aload_n dX6_plans__19 rfl ?_
    refine g_geti fX6_44 dX6_plans__20 rfl rfl ?_
    first | refine g_top hT2 ?_ | refine g_top (y := nI 0) (xgi_si _ _ _ _) ?_
    refine g_if_le (tgt := 30) dX6_plans__23 (by decide) (fun c23 => ?_) (fun c23 => ?_)
    · have q23 := (nI_le0 (by omega)).mp c23
      refine g_aload_n dX6_plans__30 rfl ?_
      refine g_geti fX6_211 dX6_plans__31 rfl rfl ?_
      first | refine g_top (hr2 (Or.inl (by omega))).2.2.2.1 ?_ | refine g_top (y := nI (pl_of A a.toNat).1) ((xgi_ne _ _ _ _ _ _ (by decide)).trans (hr2 (Or.inr (by omega))).2.2.2.1) ?_
      refine g_ireturn dX6_plans__34 rfl rfl (by decide) ?_
      first
      | exact absurd rfl q23
      | (rw [show k_planDay A a = 0 by omega]; exact ⟨by rw [if_pos rfl], by rw [hT2, show kl A a = 0 by omega], hM2, hK2, x_fN_l hF2⟩)
      | (rw [show k_planDay A a = 0 by omega]; exact ⟨by rw [if_pos rfl], xgi_si _ _ _ _, rM_0t (Or.inl rfl) hM2, rK_0t (by decide) hK2, x_fN_tr (x_fN_l hF2) (x_fN_0 _ _)⟩)
      | (rw [show k_planDay A a = kl A a by omega]; exact ⟨by rw [if_neg (by omega)], hT2, hM2, hK2, x_fN_l hF2⟩)
    · have q23 := (not_congr (nI_le0 (by omega))).mp c23
      refine g_iconst (v := 0) dX6_plans__26 (by decide) ?_
      refine g_goto (tgt := 34) dX6_plans__27 (by decide) ?_
      refine g_ireturn dX6_plans__34 rfl rfl (by decide) ?_
      first
      | exact absurd rfl q23
      | (rw [show k_planDay A a = 0 by omega]; exact ⟨by rw [if_pos rfl], by rw [hT2, show kl A a = 0 by omega], hM2, hK2, x_fN_l hF2⟩)
      | (rw [show k_planDay A a = 0 by omega]; exact ⟨by rw [if_pos rfl], xgi_si _ _ _ _, rM_0t (Or.inl rfl) hM2, rK_0t (by decide) hK2, x_fN_tr (x_fN_l hF2) (x_fN_0 _ _)⟩)
      | (rw [show k_planDay A a = kl A a by omega]; exact ⟨by rw [if_neg (by omega)], hT2, hM2, hK2, x_fN_l hF2⟩)
set_option maxRecDepth 100000 in
theorem wX6_carry {l : Launch} {G : ux_G} {Q9 : Option Value → ux_H → Prop} {X9 : String → ux_H → Prop} {X : Ab} {a : Int} {h0 : ux_H} {Ls Ts : List Nat} (hl : Ls.length ≤ 4) (K : ∀ h, rM 193 0 X h → x_fm h0 h → ux_W l G iX6_carryOut (ux_rm 15 0) (ux_Z G 0 Q9 X9) 68 [some (.ref 192), some (.int (iI a)), some (.int (nI Ls.length)), some (.int (nI Ls.length))] [] h 0) : ∀ (n : Nat) (k : Nat) (R T : List Nat) (B : Ab) (P : Nat) (h : ux_H), Ls.drop k = R → Ts.drop k = T → k ≤ Ls.length → rM 193 0 B h → Inv P B → InvF B → pl_rest B R → pl_leg B R T → P + 6 * R.length ≤ 10000000 → pl_bg B R T = X → rO Ls h → (∀ (k t : Nat), Ts[k]? = some t → xgi h 200 k = nI t) → x_fm h0 h → Ls.length - k < n → ux_W l G iX6_carryOut (ux_rm 15 0) (ux_Z G 0 Q9 X9) 40 [some (.ref 192), some (.int (iI a)), some (.int (nI Ls.length)), some (.int (nI k))] [] (h) 0 := by
  intro n
  induction n with
  | zero => intro k R T B P h hR hT hk hM hI hJ hr hL hP hX hO hE hF hn; exact absurd hn (Nat.not_lt_zero _)
  | succ n ih =>
    intro k R T B P h hR hT hk hM hI hJ hr hL hP hX hO hE hF hn
    obtain ⟨i1, i2, i3, i4, i5, i6⟩ := id hI
    refine g_iload_n dX6_carryOut_40 rfl ?_
    refine g_iload_n dX6_carryOut_41 rfl ?_
    refine g_icmp_ge (tgt := 68) dX6_carryOut_42 (by decide) (fun c42 => ?_) (fun c42 => ?_)
    · have e : k = Ls.length := by have := xlt_i c42 (by omega) (by omega); omega
      subst e
      have e2 : R = [] := by rw [← hR]; exact List.drop_eq_nil_of_le (Nat.le_refl _)
      subst e2
      have e3 : T = [] := by cases T with | nil => rfl | cons t T => exact hL.elim
      subst e3
      exact K h (by rw [← hX]; exact hM) hF
    · have hlt : k < Ls.length := xnl_i c42 (by omega) (by omega)
      obtain ⟨i, R2, rfl⟩ : ∃ i R2, R = i :: R2 := by cases R with | nil => rw [List.drop_eq_nil_iff] at hR; omega | cons i R2 => exact ⟨i, R2, rfl⟩
      obtain ⟨t, T2, rfl⟩ : ∃ t T2, T = t :: T2 := by cases T with | nil => exact hL.elim | cons t T2 => exact ⟨t, T2, rfl⟩
      obtain ⟨e1, e2⟩ := at_k hR
      obtain ⟨e3, e4⟩ := at_k hT
      obtain ⟨hil, hi3⟩ := hr.2 i List.mem_cons_self
      rw [List.length_cons] at hP
      refine g_aload_n dX6_carryOut_45 rfl ?_
      refine g_aload_n dX6_carryOut_46 rfl ?_
      refine g_getr (q := 198) fX6_29 dX6_carryOut_47 rfl rfl rfl ?_
      refine g_iload_n dX6_carryOut_50 rfl ?_
      refine g_iald dX6_carryOut_51 rfl (show k < 40 by omega) rfl ?_
      refine g_top (y := nI i) (hO k i e1) ?_
      refine g_aload_n dX6_carryOut_52 rfl ?_
      refine g_getr (q := 200) fX6_35 dX6_carryOut_53 rfl rfl rfl ?_
      refine g_iload_n dX6_carryOut_56 rfl ?_
      refine g_iald dX6_carryOut_57 rfl (show k < 4 by omega) rfl ?_
      refine g_top (y := nI t) (hE k t e3) ?_
      refine q_V (u' := 0) lX6_194 kX6_begins (mX6_begins hM hI hil hL.1 (by omega)) dX6_carryOut_58 rfl rfl rfl rfl rfl rfl rfl rfl (fun v h58 hq => ?_) (fun _ _ q => q.elim)
      obtain ⟨rfl, hM2, hF2⟩ := hq
      dsimp only [Option.toList, List.cons_append, List.nil_append]
      refine g_pop dX6_carryOut_61 rfl ?_
      refine s_inc (v := nI (k + 1)) dX6_carryOut_62 rfl nI_s rfl rfl rfl ?_
      dsimp only [List.set]
      refine g_goto (tgt := 40) dX6_carryOut_65 (by decide) ?_
      exact ih (k + 1) R2 T2 (s_begin B i t) (P + 6) h58 e2 e4 (by omega) hM2 (s_begin_I hI hL.1 (by omega)) (s_begin_J hJ hil hi3 hL.2.1) (pl_rest_step hr) hL.2.2 (by omega) hX (rO_m hO hF2) (fun j t hj => by unfold xgi; rw [hF2 200 (by decide) j]; exact hE j t hj) (x_fm_tr hF hF2) (by omega)
set_option maxRecDepth 100000 in
theorem tX6_co {l : Launch} {G : ux_G} {h9 h : ux_H} {a : Int} {A : Ab} {P : Nat} {Hs : List Ab} {K : Nat} {y2 : Int32} (hI : Inv P A) (hJ : InvF A) (hP : P + 100 ≤ 10000000) (hM : rM 193 0 A h) (hK : rK Hs h) (hF : x_fN h9 h) (hT : xgi h 192 0 = nI K) (hK3 : K ≤ 3) (hk : k_plan A a = K) (hb : K = 0 → y2 = nI (s_opl A a.toNat 6).length ∧ (s_opl A a.toNat 6).length ≤ 4 ∧ rO (s_opl A a.toNat 6) h ∧ rA (s_opl A a.toNat 6).length (pl_of A a.toNat) h ∧ (pl_of A a.toNat).1 ≠ 0) : ux_W l G iX6_carryOut (ux_rm 15 0) (ux_Z G 0 (Q6 (k_plan A a) (nI (s_opl A a.toNat 6).length) A (pl_bg A (s_opl A a.toNat 6) (pl_of A a.toNat).2.2) Hs h9) (fun _ _ => False)) 25 [some (.ref 192), some (.int (iI a)), some (.int y2), none] [] (h) 0 := by
  obtain ⟨i1, i2, i3, i4, i5, i6⟩ := id hI
  refine g_aload_n dX6_carryOut_25 rfl ?_
  refine g_geti fX6_44 dX6_carryOut_26 rfl rfl ?_
  refine g_top hT ?_
  refine g_if_le (tgt := 34) dX6_carryOut_29 (by decide) (fun c29 => ?_) (fun c29 => ?_)
  · have q29 := (nI_le0 (by omega)).mp c29
    obtain ⟨rfl, hL, hO, hA, hz⟩ := hb q29
    refine g_aload_n dX6_carryOut_34 rfl ?_
    refine q_V (u' := 0) lX6_68 kX6_changes (mX6_changes hM (by omega) (by omega) hK) dX6_carryOut_35 rfl rfl rfl rfl rfl rfl rfl rfl (fun v h35 hq => ?_) (fun _ _ q => q.elim)
    obtain ⟨rfl, hK1, hFc⟩ := hq
    have hM1 := rM_c9 hM hFc (Or.inl rfl)
    have hF1 := x_fT_c hFc
    dsimp only [Option.toList, List.cons_append, List.nil_append]
    refine g_iconst (v := 0) dX6_carryOut_38 (by decide) ?_
    refine s_i (i := 3) dX6_carryOut_39 rfl rfl rfl rfl ?_
    dsimp only [List.set]
    have hL8 := pl_of_leg A a.toNat hz
    refine wX6_carry (l := l) (G := G) (h0 := h35) hL ?_ 5 0 (s_opl A a.toNat 6) (pl_of A a.toNat).2.2 A P h35 rfl rfl (Nat.zero_le _) hM1 hI hJ pl_rest_opl hL8 (by omega) rfl (rO_fr hO (fun j => hFc.1 198 (by decide) (by decide) j)) (fun k t hk => by unfold xgi; rw [hFc.1 200 (by decide) (by decide) k]; exact (hA.2 hz).2.2 k t hk) (x_fm_rf _) (by omega)
    intro h3 hM3 hF3
    refine g_iload_n dX6_carryOut_68 rfl ?_
    refine g_ireturn dX6_carryOut_69 rfl rfl (by decide) ?_
    rw [hk, q29]
    refine ⟨by rw [if_pos rfl], ?_, by rw [if_pos rfl]; exact hM3, by rw [if_pos rfl]; exact rK_m hK1 hF3, x_fN_tr hF (x_fN_T (x_fT_tr hF1 (x_fT_m hF3)))⟩
    rw [x_fT_g (x_fT_tr hF1 (x_fT_m hF3)), hT, q29]
  · have q29 := (not_congr (nI_le0 (by omega))).mp c29
    refine g_iconst (v := 0) dX6_carryOut_32 (by decide) ?_
    refine g_ireturn dX6_carryOut_33 rfl rfl (by decide) ?_
    rw [hk]
    exact ⟨by rw [if_neg q29], hT, by rw [if_neg q29]; exact hM, by rw [if_neg q29]; exact hK, hF⟩
set_option maxRecDepth 100000 in
theorem mX6_carryOut {l : Launch} {G : ux_G} {h : ux_H} {a : Int} {Hs : List Ab} {A : Ab} {P : Nat} (hM : rM 193 0 A h) (hK : rK Hs h) (hI : Inv P A) (hJ : InvF A) (hP : P + 3000 ≤ 10000000) (ra : -2147483648 ≤ a ∧ a ≤ 2147483647) : ux_M l G yX6_carryOut iX6_carryOut 15 0 [.ref 192, .int (iI a)] h (Q6 (k_plan A a) (nI (s_opl A a.toNat 6).length) A (pl_bg A (s_opl A a.toNat 6) (pl_of A a.toNat).2.2) Hs h) (fun _ _ => False) := by
  refine ux_ent (L' := [some (.ref 192), some (.int (iI a)), none, none]) kX6_carryOut rfl rfl rfl rfl ?_
  obtain ⟨i1, i2, i3, i4, i5, i6⟩ := id hI
  refine g_aload_n dX6_carryOut_0 rfl ?_
  refine g_iload_n dX6_carryOut_1 rfl ?_
  refine q_V (u' := 0) lX6_220 kX6_looks (mX6_looks hM hI hJ (by omega) ra) dX6_carryOut_2 rfl rfl rfl rfl rfl rfl rfl rfl (fun v h2 hq => ?_) (fun _ _ q => q.elim)
  have hQ := hq
  obtain ⟨rfl, hT2, hM2, hr2, hF2⟩ := hq
  obtain ⟨g1, g2, g3, g4, g5⟩ := kl_pd (A := A) (a := a)
  have hK2 := rK_l hK hF2
  dsimp only [Option.toList, List.cons_append, List.nil_append]
  refine s_i (i := 2) dX6_carryOut_5 rfl rfl rfl rfl ?_
  dsimp only [List.set]
  refine g_aload_n dX6_carryOut_6 rfl ?_
  refine g_geti fX6_44 dX6_carryOut_7 rfl rfl ?_
  refine g_top hT2 ?_
  refine g_if_ne (tgt := 25) dX6_carryOut_10 (by decide) (fun c10 => ?_) (fun c10 => ?_)
  · have q10 := (not_congr (nI_eq0 (by omega))).mp c10
    first
    | exact tX6_co (l := l) (G := G) (h9 := h) hI hJ (by omega) hM2 hK2 (x_fN_l hF2) hT2 g5 (kp_ne q10) (fun y => absurd y q10)
    | exact tX6_co (l := l) (G := G) (h9 := h) (K := 0) hI hJ (by omega) hM2 hK2 (x_fN_l hF2) (by rw [hT2, q10]) (by decide) (kp_0 q10 q17) (fun _ => ⟨by rw [if_neg (by omega)], (hr2 (Or.inl q10)).1, (hr2 (Or.inl q10)).2.2.1, (hr2 (Or.inl q10)).2.2.2, (g3.mp q10).2⟩)
    | exact tX6_co (l := l) (G := G) (h9 := h) (K := 3) hI hJ (by omega) (rM_0t (Or.inl rfl) hM2) (rK_0t (by decide) hK2) (x_fN_tr (x_fN_l hF2) (x_fN_0 _ _)) (xgi_si _ _ _ _) (by decide) (kp_3 q10 q17) (fun y => absurd y (by decide))
  · have q10 := (nI_eq0 (by omega)).mp c10
    refine g_aload_n dX6_carryOut_13 rfl ?_
    refine f1_V (u' := 0) lX6_62 kX6_teachers (mX6_teachers hM2) dX6_carryOut_14 rfl rfl rfl rfl rfl rfl rfl rfl ?_
    refine g_if_ne (tgt := 25) dX6_carryOut_17 (by decide) (fun c17 => ?_) (fun c17 => ?_)
    · have q17 := (not_congr (nI_eq0 (by omega))).mp c17
      first
      | exact tX6_co (l := l) (G := G) (h9 := h) hI hJ (by omega) hM2 hK2 (x_fN_l hF2) hT2 g5 (kp_ne q10) (fun y => absurd y q10)
      | exact tX6_co (l := l) (G := G) (h9 := h) (K := 0) hI hJ (by omega) hM2 hK2 (x_fN_l hF2) (by rw [hT2, q10]) (by decide) (kp_0 q10 q17) (fun _ => ⟨by rw [if_neg (by omega)], (hr2 (Or.inl q10)).1, (hr2 (Or.inl q10)).2.2.1, (hr2 (Or.inl q10)).2.2.2, (g3.mp q10).2⟩)
      | exact tX6_co (l := l) (G := G) (h9 := h) (K := 3) hI hJ (by omega) (rM_0t (Or.inl rfl) hM2) (rK_0t (by decide) hK2) (x_fN_tr (x_fN_l hF2) (x_fN_0 _ _)) (xgi_si _ _ _ _) (by decide) (kp_3 q10 q17) (fun y => absurd y (by decide))
    · have q17 := (nI_eq0 (by omega)).mp c17
      refine g_aload_n dX6_carryOut_20 rfl ?_
      refine g_iconst (v := 3) dX6_carryOut_21 (by decide) ?_
      refine g_puti pX6_44 dX6_carryOut_22 rfl rfl ?_
      first
      | exact tX6_co (l := l) (G := G) (h9 := h) hI hJ (by omega) hM2 hK2 (x_fN_l hF2) hT2 g5 (kp_ne q10) (fun y => absurd y q10)
      | exact tX6_co (l := l) (G := G) (h9 := h) (K := 0) hI hJ (by omega) hM2 hK2 (x_fN_l hF2) (by rw [hT2, q10]) (by decide) (kp_0 q10 q17) (fun _ => ⟨by rw [if_neg (by omega)], (hr2 (Or.inl q10)).1, (hr2 (Or.inl q10)).2.2.1, (hr2 (Or.inl q10)).2.2.2, (g3.mp q10).2⟩)
      | exact tX6_co (l := l) (G := G) (h9 := h) (K := 3) hI hJ (by omega) (rM_0t (Or.inl rfl) hM2) (rK_0t (by decide) hK2) (x_fN_tr (x_fN_l hF2) (x_fN_0 _ _)) (xgi_si _ _ _ _) (by decide) (kp_3 q10 q17) (fun y => absurd y (by decide))
