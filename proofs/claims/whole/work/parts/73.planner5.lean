/-! THE CLASS: the plans of a day. -/
theorem rC_frK {A : Ab} {h h' : ux_H} (hC : rC 0 A h) (hF : x_frK h h') : rC 0 A h' := rC_ne hC fun a _ h2 b => hF a (by omega) b
theorem x_frK_X {k : Nat} {h h' : ux_H} (hF : x_frX k h h') : x_frK h h' := fun c hc j => hF c j (by omega) (by omega)
def pl_hd (A : Ab) (n : Nat) (h : ux_H) : Prop := xgi h 179 8 = nI A.1 ∧ xgi h 179 9 = nI n ∧ xgi h 179 10 = nI 0 ∧ xgi h 179 11 = iI 0
theorem pl_hd_of {A : Ab} {n : Nat} {h h' : ux_H} (q : pl_hd A n h) (hF : ∀ j, h' 179 j = h 179 j) : pl_hd A n h' := by
  have e : ∀ j, xgi h' 179 j = xgi h 179 j := fun j => by unfold xgi; rw [hF j]
  exact ⟨(e 8).trans q.1, (e 9).trans q.2.1, (e 10).trans q.2.2.1, (e 11).trans q.2.2.2⟩
def pl_row (A : Ab) (k i : Nat) (h : ux_H) : Prop := xgi h 180 k = nI i ∧ xgi h 181 k = iI (aF A 8 i) ∧ xgi h 182 k = s_mask (fun t => decide (s_bar A i t = 0)) A.1 ∧ ∀ t, t < A.1 → xgi h 187 (8 * k + t) = iI (s_share A t (s_worth A i t))
theorem pl_row_X {A : Ab} {k m i : Nat} {h h' : ux_H} (q : pl_row A m i h) (hF : x_frX k h h') (hn : m ≠ k) (i1 : A.1 ≤ 8) : pl_row A m i h' :=
  ⟨(x_frX_g hF (by omega) (by omega)).trans q.1, (x_frX_g hF (by omega) (by omega)).trans q.2.1, (x_frX_g hF (by omega) (by omega)).trans q.2.2.1, fun t ht => (x_frX_g hF (by omega) (by omega)).trans (q.2.2.2 t ht)⟩
theorem rPc_rows {A : Ab} {Ls : List Nat} {h : ux_H} (hI : A.1 ≤ 8) (h9 : xgi h 179 9 = nI Ls.length) (hr : ∀ (k i : Nat), Ls[k]? = some i → pl_row A k i h) : rPc A Ls h := by
  refine ⟨h9, fun k i hk => ?_⟩
  obtain ⟨a, b, c, d⟩ := hr k i hk
  refine ⟨a, b, fun t ht => ⟨?_, d t ht⟩⟩
  rw [c, mask_bit (fun t => decide (s_bar A i t = 0)) (by omega) A.1 (by omega)]
  constructor
  · intro y z; exact y ⟨ht, decide_eq_true z⟩
  · rintro y ⟨-, z⟩; exact y (of_decide_eq_true z)
set_option maxRecDepth 100000 in
theorem wD_plans {l : Launch} {G : ux_G} {h0 h : ux_H} {A : Ab} {P : Nat} (hI : Inv P A) (hJ : InvF A) {d : Nat} (hd : d < 5) (hL : (s_opl A d 6).length ≤ 4) (hP : P + 100 ≤ 10000000) (hH : pl_hd A (s_opl A d 6).length h) (hS : rPs A A (d : Int) h) (hr : ∀ (k i : Nat), (s_opl A d 6)[k]? = some i → pl_row A k i h) (hF : x_frK h0 h) : ux_W l G iX3_findPlans (ux_rm 12 0) (ux_Z G 0 (fun v h' => v = none ∧ x_frK h0 h' ∧ rPc A (s_opl A d 6) h' ∧ rPa (s_opl A d 6).length (pl_go (s_opl A d 6) A [] (0, 0, [])) h') (fun _ _ => False)) 111 [some (.ref 179), some (.ref 0), some (.int (nI d)), none] [] h 0 := by
  have i1 := hI.1
  have hc := rPc_rows i1 hH.2.1 hr
  have nd : (s_opl A d 6).Nodup := by have := s_opa_nd (A := A) (d := d) 6 0; unfold s_opa at this; rwa [show s_opp A (6 * d + 6 : Nat) 0 = [] from rfl, List.append_nil] at this
  have hH2 : pl_H A (s_opl A d 6) P d := ⟨hI, hP, hL, nd, fun j hj => by
    obtain ⟨m1, m2, q, m3, m4⟩ := s_opl_mem.mp hj
    exact ⟨m1, (s_st3 m2).2.1, by omega⟩⟩
  have hS2 : pl_S A (s_opl A d 6) d A [] (0, 0, []) h := ⟨hS, hc, fun k t hk => by simp at hk, ⟨hH.2.2.1, hH.2.2.2, fun y => absurd rfl y⟩⟩
  have hk : okA 0 (0, 0, []) := ⟨Nat.le_refl _, fun y => absurd rfl y⟩
  refine g_aload_n dX3_findPlans_111 rfl ?_
  refine g_iconst (v := 0) dX3_findPlans_112 (by decide) ?_
  refine g_top (y := nI ([] : List Nat).length) rfl ?_
  have h5 : (s_opl A d 6).length = 0 ∨ (s_opl A d 6).length = 1 ∨ (s_opl A d 6).length = 2 ∨ (s_opl A d 6).length = 3 ∨ (s_opl A d 6).length = 4 := by omega
  rcases h5 with h5 | h5 | h5 | h5 | h5
  · refine q_S (u' := 0) lX3_86 kX3_extend (mX3_extend0 hH2 (R := s_opl A d 6) (pre := []) (a := (0, 0, [])) (pl_R0 A _) hI (by omega) rfl (fun k u hu => by simp at hu) hk (by rw [h5]; decide) hS2 h5) dX3_findPlans_113 rfl rfl rfl rfl rfl rfl (fun v h2 hq => ?_) (fun _ _ q => q.elim)
    obtain ⟨rfl, hS3, hF3⟩ := hq
    dsimp only [Option.toList, List.cons_append, List.nil_append]
    refine g_return dX3_findPlans_116 rfl (by decide) ?_
    exact ⟨rfl, x_frK_tr hF hF3, hS3.2.1, hS3.2.2.2⟩
  · refine q_S (u' := 0) lX3_86 kX3_extend (mX3_extend1 hH2 (R := s_opl A d 6) (pre := []) (a := (0, 0, [])) (pl_R0 A _) hI (by omega) rfl (fun k u hu => by simp at hu) hk (by rw [h5]; decide) hS2 h5) dX3_findPlans_113 rfl rfl rfl rfl rfl rfl (fun v h2 hq => ?_) (fun _ _ q => q.elim)
    obtain ⟨rfl, hS3, hF3⟩ := hq
    dsimp only [Option.toList, List.cons_append, List.nil_append]
    refine g_return dX3_findPlans_116 rfl (by decide) ?_
    exact ⟨rfl, x_frK_tr hF hF3, hS3.2.1, hS3.2.2.2⟩
  · refine q_S (u' := 0) lX3_86 kX3_extend (mX3_extend2 hH2 (R := s_opl A d 6) (pre := []) (a := (0, 0, [])) (pl_R0 A _) hI (by omega) rfl (fun k u hu => by simp at hu) hk (by rw [h5]; decide) hS2 h5) dX3_findPlans_113 rfl rfl rfl rfl rfl rfl (fun v h2 hq => ?_) (fun _ _ q => q.elim)
    obtain ⟨rfl, hS3, hF3⟩ := hq
    dsimp only [Option.toList, List.cons_append, List.nil_append]
    refine g_return dX3_findPlans_116 rfl (by decide) ?_
    exact ⟨rfl, x_frK_tr hF hF3, hS3.2.1, hS3.2.2.2⟩
  · refine q_S (u' := 0) lX3_86 kX3_extend (mX3_extend3 hH2 (R := s_opl A d 6) (pre := []) (a := (0, 0, [])) (pl_R0 A _) hI (by omega) rfl (fun k u hu => by simp at hu) hk (by rw [h5]; decide) hS2 h5) dX3_findPlans_113 rfl rfl rfl rfl rfl rfl (fun v h2 hq => ?_) (fun _ _ q => q.elim)
    obtain ⟨rfl, hS3, hF3⟩ := hq
    dsimp only [Option.toList, List.cons_append, List.nil_append]
    refine g_return dX3_findPlans_116 rfl (by decide) ?_
    exact ⟨rfl, x_frK_tr hF hF3, hS3.2.1, hS3.2.2.2⟩
  · refine q_S (u' := 0) lX3_86 kX3_extend (mX3_extend4 hH2 (R := s_opl A d 6) (pre := []) (a := (0, 0, [])) (pl_R0 A _) hI (by omega) rfl (fun k u hu => by simp at hu) hk (by rw [h5]; decide) hS2 h5) dX3_findPlans_113 rfl rfl rfl rfl rfl rfl (fun v h2 hq => ?_) (fun _ _ q => q.elim)
    obtain ⟨rfl, hS3, hF3⟩ := hq
    dsimp only [Option.toList, List.cons_append, List.nil_append]
    refine g_return dX3_findPlans_116 rfl (by decide) ?_
    exact ⟨rfl, x_frK_tr hF hF3, hS3.2.1, hS3.2.2.2⟩
set_option maxRecDepth 100000 in
theorem wC_plans {l : Launch} {G : ux_G} {h0 : ux_H} {A : Ab} {P : Nat} (hI : Inv P A) (hJ : InvF A) {d : Nat} (hd : d < 5) (hL : (s_opl A d 6).length ≤ 4) (hP : P + 100 ≤ 10000000) : ∀ (n : Nat) (j : Nat) (h : ux_H), j ≤ (s_opl A d 6).length → rC 0 A h → x_frK h0 h → pl_hd A (s_opl A d 6).length h → rPs A A (d : Int) h → (∀ (k z : Nat), k < j → (s_opl A d 6)[k]? = some z → pl_row A k z h) → (s_opl A d 6).length - j < n → ux_W l G iX3_findPlans (ux_rm 12 0) (ux_Z G 0 (fun v h' => v = none ∧ x_frK h0 h' ∧ rPc A (s_opl A d 6) h' ∧ rPa (s_opl A d 6).length (pl_go (s_opl A d 6) A [] (0, 0, [])) h') (fun _ _ => False)) 85 [some (.ref 179), some (.ref 0), some (.int (nI d)), some (.int (nI j))] [] (h) 0 := by
  intro n
  induction n with
  | zero => intro j h hj hC hF hH hS hr hn; exact absurd hn (Nat.not_lt_zero _)
  | succ n ih =>
    intro j h hj hC hF hH hS hr hn
    obtain ⟨i1, i2, i3, i4, i5, i6⟩ := id hI
    refine g_iload_n dX3_findPlans_85 rfl ?_
    refine g_aload_n dX3_findPlans_86 rfl ?_
    refine g_geti fX3_40 dX3_findPlans_87 rfl rfl ?_
    refine g_top hH.2.1 ?_
    refine g_icmp_ge (tgt := 111) dX3_findPlans_90 (by decide) (fun c90 => ?_) (fun c90 => ?_)
    · have e : j = (s_opl A d 6).length := by have := xlt_i c90 (by omega) (by omega); omega
      refine g_fg 3 rfl ?_
      dsimp only [List.set]
      exact wD_plans hI hJ hd hL hP hH hS (fun k i hk => hr k i (by have := (List.getElem?_eq_some_iff.mp hk).1; omega) hk) hF
    · have hlt : j < (s_opl A d 6).length := xnl_i c90 (by omega) (by omega)
      refine g_aload_n dX3_findPlans_93 rfl ?_
      refine g_aload_n dX3_findPlans_94 rfl ?_
      refine g_iload_n dX3_findPlans_95 rfl ?_
      refine g_aload_n dX3_findPlans_96 rfl ?_
      refine g_iload_n dX3_findPlans_97 rfl ?_
      refine g_iload_n dX3_findPlans_98 rfl ?_
      refine g_top (nI_iI j) ?_
      refine f1_VN (u' := 0) lX3_79 kX4_openAt (mX4_openAt hC hI hJ hd (x := (j : Nat)) (by omega)) dX3_findPlans_99 rfl rfl rfl rfl rfl rfl rfl rfl ?_
      obtain ⟨i, hi⟩ : ∃ i, (s_opl A d 6)[j]? = some i := ⟨_, List.getElem?_eq_getElem hlt⟩
      have hm := (s_opl_mem.mp (List.mem_of_getElem? hi)).1
      refine g_top (y := nI i) (by unfold s_opat; rw [if_pos (by omega), Int.toNat_natCast, hi, nI_iI]; rfl) ?_
      refine q_V (u' := 0) lX3_82 kX3_takeLesson (mX3_takeLesson hC hI (k := j) (i := i) (by omega) hm hH.1) dX3_findPlans_102 rfl rfl rfl rfl rfl rfl rfl rfl (fun v h102 hq => ?_) (fun _ _ q => q.elim)
      obtain ⟨rfl, hX, hrow⟩ := hq
      dsimp only [Option.toList, List.cons_append, List.nil_append]
      refine s_inc (v := nI (j + 1)) dX3_findPlans_105 rfl nI_s rfl rfl rfl ?_
      dsimp only [List.set]
      refine g_goto (tgt := 85) dX3_findPlans_108 (by decide) ?_
      have hK := x_frK_X hX
      refine ih (j + 1) _ (by omega) (rC_frK hC hK) (x_frK_tr hF hK) (pl_hd_of hH (fun z => hX 179 z (by omega) (by omega))) ⟨(x_frX_g hX (by omega) (by omega)).trans hS.1, fun t ht => ?_⟩ (fun k z hk hz => ?_) (by omega)
      · rw [x_frX_g hX (c := 185) (by omega) (by omega), x_frX_g hX (c := 186) (by omega) (by omega)]; exact hS.2 t ht
      · by_cases e : k = j
        · subst e
          have e2 : z = i := Option.some.inj (hz.symm.trans hi)
          rw [e2]; exact hrow
        · exact pl_row_X (hr k z (by omega) hz) hX e i1
set_option maxRecDepth 100000 in
theorem wB_plans {l : Launch} {G : ux_G} {h0 : ux_H} {A : Ab} {P : Nat} (hI : Inv P A) (hJ : InvF A) {d : Nat} (hd : d < 5) (hL : (s_opl A d 6).length ≤ 4) (hP : P + 100 ≤ 10000000) : ∀ (n : Nat) (j : Nat) (h : ux_H), j ≤ A.1 → rC 0 A h → x_frK h0 h → pl_hd A (s_opl A d 6).length h → (∀ t, t < j → xgi h 185 t = iI (s_shr A t) ∧ xgi h 186 t = iI (aF A 3 t - s_con A t d)) → A.1 - j < n → ux_W l G iX3_findPlans (ux_rm 12 0) (ux_Z G 0 (fun v h' => v = none ∧ x_frK h0 h' ∧ rPc A (s_opl A d 6) h' ∧ rPa (s_opl A d 6).length (pl_go (s_opl A d 6) A [] (0, 0, [])) h') (fun _ _ => False)) 33 [some (.ref 179), some (.ref 0), some (.int (nI d)), some (.int (nI j))] [] (h) 0 := by
  intro n
  induction n with
  | zero => intro j h hj hC hF hH hS hn; exact absurd hn (Nat.not_lt_zero _)
  | succ n ih =>
    intro j h hj hC hF hH hS hn
    obtain ⟨i1, i2, i3, i4, i5, i6⟩ := id hI
    refine g_iload_n dX3_findPlans_33 rfl ?_
    refine g_aload_n dX3_findPlans_34 rfl ?_
    refine g_geti fX3_36 dX3_findPlans_35 rfl rfl ?_
    refine g_top hH.1 ?_
    refine g_icmp_ge (tgt := 83) dX3_findPlans_38 (by decide) (fun c38 => ?_) (fun c38 => ?_)
    · have e : j = A.1 := by have := xlt_i c38 (by omega) (by omega); omega
      refine g_fg 3 rfl ?_
      dsimp only [List.set]
      refine g_iconst (v := 0) dX3_findPlans_83 (by decide) ?_
      refine s_i (i := 3) dX3_findPlans_84 rfl rfl rfl rfl ?_
      dsimp only [List.set]
      exact wC_plans hI hJ hd hL hP ((s_opl A d 6).length + 1) 0 h (Nat.zero_le _) hC hF hH ⟨hH.1, fun t ht => hS t (by omega)⟩ (fun k z hk => absurd hk (Nat.not_lt_zero _)) (by omega)
    · have hlt : j < A.1 := xnl_i c38 (by omega) (by omega)
      have tl := i4 j hlt
      have hF1 := x_frK_si h (k := 185) j (iI (s_shr A j)) (by decide)
      have hC1 := rC_frK hC hF1
      refine g_aload_n dX3_findPlans_41 rfl ?_
      refine g_getr (q := 185) fX3_27 dX3_findPlans_42 rfl rfl rfl ?_
      refine g_iload_n dX3_findPlans_45 rfl ?_
      refine g_aload_n dX3_findPlans_46 rfl ?_
      refine g_iload_n dX3_findPlans_47 rfl ?_
      refine f1_VN (u' := 0) lX3_62 kX4_shareOf (mX4_shareOf hC hI hlt) dX3_findPlans_48 rfl rfl rfl rfl rfl rfl rfl rfl ?_
      have hC9 := hC
      refine f0_SN (u' := 0) lX3_65 kX5_put (mX5_put (k := 185) rfl (show _ < 8 by omega)) dX3_findPlans_51 rfl rfl rfl rfl rfl rfl ?_
      refine g_aload_n dX3_findPlans_54 rfl ?_
      refine g_getr (q := 186) fX3_30 dX3_findPlans_55 rfl rfl rfl ?_
      refine g_iload_n dX3_findPlans_58 rfl ?_
      refine g_aload_n dX3_findPlans_59 rfl ?_
      refine g_getr (q := 3) fX3_69 dX3_findPlans_60 rfl rfl rfl ?_
      refine g_iload_n dX3_findPlans_63 rfl ?_
      refine f1_SN (u' := 0) lX3_72 kX5_at (mA_t (f := 3) hC1 i1 hlt rfl) dX3_findPlans_64 rfl rfl rfl rfl rfl rfl ?_
      refine g_aload_n dX3_findPlans_67 rfl ?_
      refine g_iload_n dX3_findPlans_68 rfl ?_
      refine g_iload_n dX3_findPlans_69 rfl ?_
      refine g_top (nI_iI d) ?_
      refine f1_VN (u' := 0) lX3_76 kX4_coversOn (mX4_coversOn hC1 hI (d := (d : Nat)) hlt (by omega)) dX3_findPlans_70 rfl rfl rfl rfl rfl rfl rfl rfl ?_
      refine g_isub dX3_findPlans_73 ?_
      refine g_top (y := iI (aF A 3 j - s_con A j d)) (by rw [nI_iI, iI_sub]; rfl) ?_
      refine f0_SN (u' := 0) lX3_65 kX5_put (mX5_put (k := 186) rfl (show _ < 8 by omega)) dX3_findPlans_74 rfl rfl rfl rfl rfl rfl ?_
      refine s_inc (v := nI (j + 1)) dX3_findPlans_77 rfl nI_s rfl rfl rfl ?_
      dsimp only [List.set]
      refine g_goto (tgt := 33) dX3_findPlans_80 (by decide) ?_
      have hF2 := x_frK_si (xsi h 185 j (iI (s_shr A j))) (k := 186) j (iI (aF A 3 j - s_con A j d)) (by decide)
      refine ih (j + 1) _ (by omega) (rC_frK hC1 hF2) (x_frK_tr hF (x_frK_tr hF1 hF2)) (pl_hd_of hH (fun z => by unfold xsi xsv; rw [if_neg (by omega), if_neg (by omega)])) (fun t ht => ?_) (by omega)
      rw [xgi_ne _ 186 j _ 185 t (by omega), xgi_sif, xgi_sif]
      by_cases e : t = j
      · subst e; rw [if_pos ⟨rfl, rfl⟩, if_pos ⟨rfl, rfl⟩]; exact ⟨rfl, rfl⟩
      · rw [if_neg (by omega), if_neg (by omega), xgi_ne _ _ _ _ _ _ (by omega)]; exact hS t (by omega)
