/-! THE REFERENCE: a lesson is removed: walks. -/
theorem rM_dr {E : Ab} {h0 h : ux_H} {i : Nat} (hM : rM 193 0 E h0) (i1 : E.1 ≤ 8) (i2 : E.2.1 ≤ 40) (hi : i < E.2.1) (e1 : xgi h 193 1 = nI (E.2.1 - 1)) (eH : ∀ x, 56 + 8 * i ≤ x → x < 56 + 8 * (E.2.1 - 1) → xgi h 193 x = xgi h0 193 (x + 8)) (eL : ∀ x, x < 56 + 8 * i → x ≠ 1 → xgi h 193 x = xgi h0 193 x) : rM 193 0 (s_dr E i) h := by
  refine ⟨(eL 0 (by omega) (by decide)).trans hM.1, e1, fun f b hb => ?_⟩
  have hb' : (f = 0 ∧ (b = 2 ∨ b = 3)) ∨ (1 ≤ f ∧ f ≤ 5 ∧ b < E.1) ∨ (6 ≤ f ∧ f ≤ 7 ∧ b < 6) ∨ (8 ≤ f ∧ f ≤ 15 ∧ b < E.2.1 - 1) := hb
  have kb : b_in f b := by unfold b_in; omega
  have m2 : 2 ≤ m_at f b := m_at_2 (by omega)
  rw [Nat.zero_add, s_dr_aF]
  by_cases q : 8 ≤ f ∧ f ≤ 15 ∧ i ≤ b
  · rw [if_pos q]
    have em : m_at f b = 56 + 8 * b + (f - 8) := by rcases m_at_w kb with k | ⟨v, k⟩ | k | k | k <;> omega
    have := rM_l hM (f := f) (by simp; omega) (show b + 1 < E.2.1 by omega)
    rw [em, eH _ (by omega) (by omega), ← this]
    congr 1
    omega
  · rw [if_neg q]
    have ha : a_in E f b := by unfold a_in; omega
    have := hM.2.2 f b ha
    rw [Nat.zero_add] at this
    rw [← this]
    refine eL _ ?_ (by omega)
    rcases m_at_w kb with k | ⟨v, k⟩ | k | k | k <;> omega
def mv2 (D : Ab) (i l : Nat) : Ab := s_mv (s_mv D 14 i l) 15 i l
theorem mv2_aF (D : Ab) (i l f b : Nat) : aF (mv2 D i l) f b = if (f = 14 ∨ f = 15) ∧ b < l ∧ (i : Int) < aF D f b then aF D f b - 1 else aF D f b := by
  unfold mv2
  rw [s_mv_aF, s_mv_aF]
  by_cases q14 : f = 14
  · subst q14
    rw [if_neg (by omega)]
    by_cases q : b < l ∧ (i : Int) < aF D 14 b
    · rw [if_pos ⟨rfl, q⟩, if_pos ⟨Or.inl rfl, q⟩]
    · rw [if_neg (fun y => q y.2), if_neg (fun y => q y.2)]
  · simp only [q14, false_and, if_false, false_or]
theorem mv2_0 (D : Ab) (i : Nat) : mv2 D i 0 = D := Ab_ext rfl rfl fun a b => by rw [mv2_aF, if_neg (by omega)]
def mvA (D : Ab) (i l : Nat) : Ab := if (i : Int) < aF D 14 l then aU (mv2 D i l) 14 l (aF D 14 l - 1) else mv2 D i l
def mvB (D : Ab) (i l : Nat) : Ab := if (i : Int) < aF D 15 l then aU (mvA D i l) 15 l (aF D 15 l - 1) else mvA D i l
theorem mvA_1 (D : Ab) (i l : Nat) : (mvA D i l).1 = D.1 ∧ (mvA D i l).2.1 = D.2.1 := by unfold mvA; split <;> exact ⟨rfl, rfl⟩
theorem mvB_1 (D : Ab) (i l : Nat) : (mvB D i l).1 = D.1 ∧ (mvB D i l).2.1 = D.2.1 := by unfold mvB; split; exact mvA_1 D i l; exact mvA_1 D i l
theorem mvA_15 (D : Ab) (i l : Nat) : aF (mvA D i l) 15 l = aF D 15 l := by
  unfold mvA
  split
  · rw [aF_ne _ (by omega), mv2_aF, if_neg (by omega)]
  · rw [mv2_aF, if_neg (by omega)]
theorem mvB_s (D : Ab) (i l : Nat) : mvB D i l = mv2 D i (l + 1) := by
  refine Ab_ext ((mvB_1 D i l).1) ((mvB_1 D i l).2) fun a b => ?_
  have eA : aF (mvA D i l) a b = if a = 14 ∧ b = l ∧ (i : Int) < aF D 14 l then aF D 14 l - 1 else aF (mv2 D i l) a b := by
    unfold mvA
    by_cases q : (i : Int) < aF D 14 l
    · rw [if_pos q, aF_aU]
      by_cases y : a = 14 ∧ b = l
      · rw [if_pos y, if_pos ⟨y.1, y.2, q⟩]
      · rw [if_neg y, if_neg (fun z => y ⟨z.1, z.2.1⟩)]
    · rw [if_neg q, if_neg (fun z => q z.2.2)]
  have eB : aF (mvB D i l) a b = if a = 15 ∧ b = l ∧ (i : Int) < aF D 15 l then aF D 15 l - 1 else aF (mvA D i l) a b := by
    unfold mvB
    by_cases q : (i : Int) < aF D 15 l
    · rw [if_pos q, aF_aU]
      by_cases y : a = 15 ∧ b = l
      · rw [if_pos y, if_pos ⟨y.1, y.2, q⟩]
      · rw [if_neg y, if_neg (fun z => y ⟨z.1, z.2.1⟩)]
    · rw [if_neg q, if_neg (fun z => q z.2.2)]
  rw [eB, eA, mv2_aF, mv2_aF]
  by_cases y : b = l
  · subst y
    by_cases q14 : a = 14
    · subst q14
      by_cases q : (i : Int) < aF D 14 b
      · rw [if_neg (by omega), if_pos ⟨rfl, rfl, q⟩, if_pos ⟨Or.inl rfl, by omega, q⟩]
      · rw [if_neg (by omega), if_neg (fun z => q z.2.2), if_neg (fun z => q z.2.2), if_neg (fun z => q z.2.2)]
    · by_cases q15 : a = 15
      · subst q15
        by_cases q : (i : Int) < aF D 15 b
        · rw [if_pos ⟨rfl, rfl, q⟩, if_pos ⟨Or.inr rfl, by omega, q⟩]
        · rw [if_neg (fun z => q z.2.2), if_neg (by omega), if_neg (fun z => q z.2.2), if_neg (fun z => q z.2.2)]
      · rw [if_neg (by omega), if_neg (by omega), if_neg (by omega), if_neg (by omega)]
  · rw [if_neg (by omega), if_neg (by omega)]
    by_cases q : (a = 14 ∨ a = 15) ∧ b < l ∧ (i : Int) < aF D a b
    · rw [if_pos q, if_pos ⟨q.1, by omega, q.2.2⟩]
    · rw [if_neg q, if_neg (fun z => q ⟨z.1, by omega, z.2.2⟩)]
theorem InvF_h1 {P : Nat} {A : Ab} (hI : Inv P A) (hJ : InvF A) (hP : P + 80 ≤ 10000000) (l : Nat) : InvF (s_h1 A l) :=
  InvF_0 (InvF_esw (s_swh l) hI hJ A.2.1 (by have := hI.2.1; omega)) _ _
set_option maxRecDepth 100000 in
theorem mX6_lessonsE {l : Launch} {G : ux_G} {h : ux_H} {n9 : Nat} (e9 : xgi h 193 1 = nI n9) : ux_F l G yX6_lessons iX6_lessons 1 0 [.ref 192] h (some (.int (nI n9))) (h) := by
  unfold ux_F
  refine ux_ent (L' := [some (.ref 192)]) kX6_lessons rfl rfl rfl rfl ?_
  refine g_aload_n dX6_lessons_0 rfl ?_
  refine g_getr (q := 193) fX6_9 dX6_lessons_1 rfl rfl rfl ?_
  refine g_iconst (v := 1) dX6_lessons_4 (by decide) ?_
  refine g_iald dX6_lessons_5 (j := 1) rfl (show 1 < 376 by decide) rfl ?_
  refine g_ireturn dX6_lessons_6 rfl rfl (by decide) ?_
  exact ⟨by rw [e9], rfl⟩
set_option maxRecDepth 100000 in
theorem uX6_rm {l : Launch} {G : ux_G} {Q9 : Option Value → ux_H → Prop} {X9 : String → ux_H → Prop} {a : Int} {i n8 : Nat} {h0 : ux_H} (hi : i ≤ n8) (hn : n8 < 40) (e0 : xgi h0 193 1 = nI n8) (K : ∀ h, (∀ x, 56 + 8 * i ≤ x → x < 56 + 8 * n8 → xgi h 193 x = xgi h0 193 (x + 8)) → (∀ x, x < 56 + 8 * i → xgi h 193 x = xgi h0 193 x) → x_fm h0 h → ux_W l G iX6_removeLesson (ux_rm 14 0) (ux_Z G 0 Q9 X9) 82 [some (.ref 192), some (.int (iI a)), none] [] h 0) : ∀ (n : Nat) (m : Nat) (h : ux_H), 56 + 8 * i ≤ m → m ≤ 56 + 8 * n8 → (∀ x, 56 + 8 * i ≤ x → x < m → xgi h 193 x = xgi h0 193 (x + 8)) → (∀ x, (x < 56 + 8 * i ∨ m ≤ x) → xgi h 193 x = xgi h0 193 x) → x_fm h0 h → 56 + 8 * n8 - m < n → ux_W l G iX6_removeLesson (ux_rm 14 0) (ux_Z G 0 Q9 X9) 50 [some (.ref 192), some (.int (iI a)), some (.int (nI m))] [] (h) 0 := by
  intro n
  induction n with
  | zero => intro m h hm1 hm2 hE hL hF hn; exact absurd hn (Nat.not_lt_zero _)
  | succ n ih =>
    intro m h hm1 hm2 hE hL hF hn
    have e1 : xgi h 193 1 = nI n8 := (hL 1 (Or.inl (by omega))).trans e0
    refine g_iload_n dX6_removeLesson_50 rfl ?_
    refine g_aload_n dX6_removeLesson_51 rfl ?_
    refine f1_V (u' := 0) lX6_54 kX6_lessons (mX6_lessonsE (n9 := n8) e1) dX6_removeLesson_52 rfl rfl rfl rfl rfl rfl rfl rfl ?_
    refine f1_S (u' := 0) lX6_47 kX6_lessonAt (mX6_lessonAt) dX6_removeLesson_55 rfl rfl rfl rfl rfl rfl ?_
    refine g_icmp_ge (tgt := 82) dX6_removeLesson_58 (by decide) (fun c58 => ?_) (fun c58 => ?_)
    · have e : m = 56 + 8 * n8 := by have := xlt_i c58 (by omega) (by omega); omega
      subst e
      refine g_fg 2 rfl ?_
      dsimp only [List.set]
      exact K h hE (fun x hx => hL x (Or.inl hx)) hF
    · have hlt : m < 56 + 8 * n8 := xnl_i c58 (by omega) (by omega)
      refine g_aload_n dX6_removeLesson_61 rfl ?_
      refine g_getr (q := 193) fX6_9 dX6_removeLesson_62 rfl rfl rfl ?_
      refine g_iload_n dX6_removeLesson_65 rfl ?_
      refine g_aload_n dX6_removeLesson_66 rfl ?_
      refine g_getr (q := 193) fX6_9 dX6_removeLesson_67 rfl rfl rfl ?_
      refine g_iload_n dX6_removeLesson_70 rfl ?_
      refine g_bipush (v := 8) dX6_removeLesson_71 (by decide) ?_
      refine g_iadd dX6_removeLesson_73 ?_
      refine g_top (y := nI (m + 8)) (by rw [show (8 : Int32) = nI 8 by decide, nI_add]) ?_
      refine g_iald dX6_removeLesson_74 rfl (show m + 8 < 376 by omega) rfl ?_
      refine g_iast dX6_removeLesson_75 rfl (show m < 376 by omega) rfl ?_
      refine s_inc (v := nI (m + 1)) dX6_removeLesson_76 rfl nI_s rfl rfl rfl ?_
      dsimp only [List.set]
      refine g_goto (tgt := 50) dX6_removeLesson_79 (by decide) ?_
      refine ih (m + 1) _ (by omega) (by omega) (fun x h1 h2 => ?_) (fun x hx => by rw [xgi_ne _ _ _ _ _ _ (by omega)]; exact hL x (by omega)) (x_fm_tr hF (x_fm_si _ _ _)) (by omega)
      rw [xgi_sif]
      by_cases q : x = m
      · rw [if_pos ⟨rfl, q⟩, q]; exact hL _ (by omega)
      · rw [if_neg (fun y => q y.2)]; exact hE x h1 (by omega)
set_option maxRecDepth 100000 in
theorem vX6_rm {l : Launch} {G : ux_G} {Q9 : Option Value → ux_H → Prop} {X9 : String → ux_H → Prop} {a : Int} {i : Nat} {D : Ab} {h0 : ux_H} (ea : a = (i : Int)) (hi40 : i < 40) (d1 : D.1 ≤ 8) (d2 : D.2.1 < 40) (hx : ∀ m, m < D.2.1 → (-1 ≤ aF D 14 m ∧ aF D 14 m ≤ 100) ∧ (-1 ≤ aF D 15 m ∧ aF D 15 m ≤ 100)) (K : ∀ h, rM 193 0 (mv2 D i D.2.1) h → x_fm h0 h → ux_W l G iX6_removeLesson (ux_rm 14 0) (ux_Z G 0 Q9 X9) 152 [some (.ref 192), some (.int (iI a)), none] [] h 0) : ∀ (n : Nat) (j : Nat) (h : ux_H), j ≤ D.2.1 → rM 193 0 (mv2 D i j) h → x_fm h0 h → D.2.1 - j < n → ux_W l G iX6_removeLesson (ux_rm 14 0) (ux_Z G 0 Q9 X9) 84 [some (.ref 192), some (.int (iI a)), some (.int (nI j))] [] (h) 0 := by
  intro n
  induction n with
  | zero => intro j h hj hM hF hn; exact absurd hn (Nat.not_lt_zero _)
  | succ n ih =>
    intro j h hj hM hF hn
    refine g_iload_n dX6_removeLesson_84 rfl ?_
    refine g_aload_n dX6_removeLesson_85 rfl ?_
    refine f1_V (u' := 0) lX6_54 kX6_lessons (mX6_lessons hM) dX6_removeLesson_86 rfl rfl rfl rfl rfl rfl rfl rfl ?_
    refine g_icmp_ge (tgt := 152) dX6_removeLesson_89 (by decide) (fun c89 => ?_) (fun c89 => ?_)
    · have e : j = D.2.1 := by have := xlt_i (b := j) (a := D.2.1) c89 (by omega) (by omega); omega
      subst e
      refine g_fg 2 rfl ?_
      dsimp only [List.set]
      exact K h hM hF
    · have hlt : j < D.2.1 := xnl_i (a := D.2.1) (b := j) c89 (by omega) (by omega)
      have hxj := hx j hlt
      have f14 : aF (mv2 D i j) 14 j = aF D 14 j := by rw [mv2_aF, if_neg (by omega)]
      refine g_aload_n dX6_removeLesson_92 rfl ?_
      refine g_iload_n dX6_removeLesson_93 rfl ?_
      refine g_bipush (v := 6) dX6_removeLesson_94 (by decide) ?_
      refine f1_V (u' := 0) lX6_78 kX6_of (mX6_of (f := 14) hM (Nat.le_of_lt d2) rfl hlt) dX6_removeLesson_96 rfl rfl rfl rfl rfl rfl rfl rfl ?_
      refine g_iload_n dX6_removeLesson_99 rfl ?_
      refine g_icmp_le (tgt := 119) dX6_removeLesson_100 (by decide) (fun c100 => ?_) (fun c100 => ?_)
      · rw [f14, ea, iI_le (by omega) (by omega) (by omega) (by omega)] at c100
        have hM2 : rM 193 0 (mvA D i j) h := by unfold mvA; rw [if_neg (by omega)]; exact hM
        have hF2 := hF
        refine g_aload_n dX6_removeLesson_119 rfl ?_
        refine g_iload_n dX6_removeLesson_120 rfl ?_
        refine g_bipush (v := 7) dX6_removeLesson_121 (by decide) ?_
        refine f1_V (u' := 0) lX6_78 kX6_of (mX6_of (f := 15) hM2 (by rw [(mvA_1 D i j).2]; omega) rfl (by rw [(mvA_1 D i j).2]; exact hlt)) dX6_removeLesson_123 rfl rfl rfl rfl rfl rfl rfl rfl ?_
        refine g_iload_n dX6_removeLesson_126 rfl ?_
        refine g_icmp_le (tgt := 146) dX6_removeLesson_127 (by decide) (fun c127 => ?_) (fun c127 => ?_)
        · rw [mvA_15, ea, iI_le (by omega) (by omega) (by omega) (by omega)] at c127
          have eB9 : mvB D i j = mvA D i j := by unfold mvB; rw [if_neg (by omega)]
          have hM3 := hM2
          rw [← eB9] at hM3
          have hF3 := hF2
          refine s_inc (v := nI (j + 1)) dX6_removeLesson_146 rfl nI_s rfl rfl rfl ?_
          dsimp only [List.set]
          refine g_goto (tgt := 84) dX6_removeLesson_149 (by decide) ?_
          rw [mvB_s] at hM3
          exact ih (j + 1) _ (by omega) hM3 hF3 (by omega)
        · rw [mvA_15, ea, iI_le (by omega) (by omega) (by omega) (by omega)] at c127
          refine g_aload_n dX6_removeLesson_130 rfl ?_
          refine g_getr (q := 193) fX6_9 dX6_removeLesson_131 rfl rfl rfl ?_
          refine g_iload_n dX6_removeLesson_134 rfl ?_
          refine f1_S (u' := 0) lX6_47 kX6_lessonAt (mX6_lessonAt) dX6_removeLesson_135 rfl rfl rfl rfl rfl rfl ?_
          refine g_bipush (v := 7) dX6_removeLesson_138 (by decide) ?_
          refine g_iadd dX6_removeLesson_140 ?_
          refine g_top (y := nI ((56 + 8 * j) + 7)) (by rw [show (7 : Int32) = nI 7 by decide, nI_add]) ?_
          refine g_dup2 dX6_removeLesson_141 rfl rfl ?_
          refine g_iald dX6_removeLesson_142 rfl (show 56 + 8 * j + 7 < 376 by omega) rfl ?_
          refine g_iconst (v := 1) dX6_removeLesson_143 (by decide) ?_
          refine g_isub dX6_removeLesson_144 ?_
          refine g_top (y := iI (aF D 15 j - 1)) ((congrArg (fun z : Int32 => z - 1) ((rM_l hM2 (f := 15) rfl (show j < (mvA D i j).2.1 by rw [(mvA_1 D i j).2]; exact hlt)).trans (congrArg iI (mvA_15 D i j)))).trans (iI_sub _ 1)) ?_
          refine g_iast dX6_removeLesson_145 rfl (show 56 + 8 * j + 7 < 376 by omega) rfl ?_
          have eB9 : mvB D i j = aU (mvA D i j) 15 j (aF D 15 j - 1) := by unfold mvB; rw [if_pos (by omega)]
          have hM3 := rM_aU (A := mvA D i j) (f := 15) (v := aF D 15 j - 1) hM2 (by rw [(mvA_1 D i j).1]; exact d1) (by rw [(mvA_1 D i j).2]; omega) (in_l rfl (by rw [(mvA_1 D i j).2]; exact hlt)) rfl
          rw [← eB9] at hM3
          have hF3 := x_fm_tr hF2 (x_fm_si _ (56 + 8 * j + 7) (iI (aF D 15 j - 1)))
          refine s_inc (v := nI (j + 1)) dX6_removeLesson_146 rfl nI_s rfl rfl rfl ?_
          dsimp only [List.set]
          refine g_goto (tgt := 84) dX6_removeLesson_149 (by decide) ?_
          rw [mvB_s] at hM3
          exact ih (j + 1) _ (by omega) hM3 hF3 (by omega)
      · rw [f14, ea, iI_le (by omega) (by omega) (by omega) (by omega)] at c100
        refine g_aload_n dX6_removeLesson_103 rfl ?_
        refine g_getr (q := 193) fX6_9 dX6_removeLesson_104 rfl rfl rfl ?_
        refine g_iload_n dX6_removeLesson_107 rfl ?_
        refine f1_S (u' := 0) lX6_47 kX6_lessonAt (mX6_lessonAt) dX6_removeLesson_108 rfl rfl rfl rfl rfl rfl ?_
        refine g_bipush (v := 6) dX6_removeLesson_111 (by decide) ?_
        refine g_iadd dX6_removeLesson_113 ?_
        refine g_top (y := nI ((56 + 8 * j) + 6)) (by rw [show (6 : Int32) = nI 6 by decide, nI_add]) ?_
        refine g_dup2 dX6_removeLesson_114 rfl rfl ?_
        refine g_iald dX6_removeLesson_115 rfl (show 56 + 8 * j + 6 < 376 by omega) rfl ?_
        refine g_iconst (v := 1) dX6_removeLesson_116 (by decide) ?_
        refine g_isub dX6_removeLesson_117 ?_
        refine g_top (y := iI (aF D 14 j - 1)) (by rw [rM_l hM (f := 14) rfl (show j < (mv2 D i j).2.1 from hlt), f14]; exact iI_sub _ 1) ?_
        refine g_iast dX6_removeLesson_118 rfl (show 56 + 8 * j + 6 < 376 by omega) rfl ?_
        have eA9 : mvA D i j = aU (mv2 D i j) 14 j (aF D 14 j - 1) := by unfold mvA; rw [if_pos (by omega)]
        have hM2 : rM 193 0 (aU (mv2 D i j) 14 j (aF D 14 j - 1)) (xsi h 193 (56 + 8 * j + 6) (iI (aF D 14 j - 1))) := rM_aU (A := mv2 D i j) (f := 14) (v := aF D 14 j - 1) hM d1 (Nat.le_of_lt d2) (in_l rfl hlt) rfl
        rw [← eA9] at hM2
        have hF2 := x_fm_tr hF (x_fm_si h (56 + 8 * j + 6) (iI (aF D 14 j - 1)))
        refine g_aload_n dX6_removeLesson_119 rfl ?_
        refine g_iload_n dX6_removeLesson_120 rfl ?_
        refine g_bipush (v := 7) dX6_removeLesson_121 (by decide) ?_
        refine f1_V (u' := 0) lX6_78 kX6_of (mX6_of (f := 15) hM2 (by rw [(mvA_1 D i j).2]; omega) rfl (by rw [(mvA_1 D i j).2]; exact hlt)) dX6_removeLesson_123 rfl rfl rfl rfl rfl rfl rfl rfl ?_
        refine g_iload_n dX6_removeLesson_126 rfl ?_
        refine g_icmp_le (tgt := 146) dX6_removeLesson_127 (by decide) (fun c127 => ?_) (fun c127 => ?_)
        · rw [mvA_15, ea, iI_le (by omega) (by omega) (by omega) (by omega)] at c127
          have eB9 : mvB D i j = mvA D i j := by unfold mvB; rw [if_neg (by omega)]
          have hM3 := hM2
          rw [← eB9] at hM3
          have hF3 := hF2
          refine s_inc (v := nI (j + 1)) dX6_removeLesson_146 rfl nI_s rfl rfl rfl ?_
          dsimp only [List.set]
          refine g_goto (tgt := 84) dX6_removeLesson_149 (by decide) ?_
          rw [mvB_s] at hM3
          exact ih (j + 1) _ (by omega) hM3 hF3 (by omega)
        · rw [mvA_15, ea, iI_le (by omega) (by omega) (by omega) (by omega)] at c127
          refine g_aload_n dX6_removeLesson_130 rfl ?_
          refine g_getr (q := 193) fX6_9 dX6_removeLesson_131 rfl rfl rfl ?_
          refine g_iload_n dX6_removeLesson_134 rfl ?_
          refine f1_S (u' := 0) lX6_47 kX6_lessonAt (mX6_lessonAt) dX6_removeLesson_135 rfl rfl rfl rfl rfl rfl ?_
          refine g_bipush (v := 7) dX6_removeLesson_138 (by decide) ?_
          refine g_iadd dX6_removeLesson_140 ?_
          refine g_top (y := nI ((56 + 8 * j) + 7)) (by rw [show (7 : Int32) = nI 7 by decide, nI_add]) ?_
          refine g_dup2 dX6_removeLesson_141 rfl rfl ?_
          refine g_iald dX6_removeLesson_142 rfl (show 56 + 8 * j + 7 < 376 by omega) rfl ?_
          refine g_iconst (v := 1) dX6_removeLesson_143 (by decide) ?_
          refine g_isub dX6_removeLesson_144 ?_
          refine g_top (y := iI (aF D 15 j - 1)) ((congrArg (fun z : Int32 => z - 1) ((rM_l hM2 (f := 15) rfl (show j < (mvA D i j).2.1 by rw [(mvA_1 D i j).2]; exact hlt)).trans (congrArg iI (mvA_15 D i j)))).trans (iI_sub _ 1)) ?_
          refine g_iast dX6_removeLesson_145 rfl (show 56 + 8 * j + 7 < 376 by omega) rfl ?_
          have eB9 : mvB D i j = aU (mvA D i j) 15 j (aF D 15 j - 1) := by unfold mvB; rw [if_pos (by omega)]
          have hM3 := rM_aU (A := mvA D i j) (f := 15) (v := aF D 15 j - 1) hM2 (by rw [(mvA_1 D i j).1]; exact d1) (by rw [(mvA_1 D i j).2]; omega) (in_l rfl (by rw [(mvA_1 D i j).2]; exact hlt)) rfl
          rw [← eB9] at hM3
          have hF3 := x_fm_tr hF2 (x_fm_si _ (56 + 8 * j + 7) (iI (aF D 15 j - 1)))
          refine s_inc (v := nI (j + 1)) dX6_removeLesson_146 rfl nI_s rfl rfl rfl ?_
          dsimp only [List.set]
          refine g_goto (tgt := 84) dX6_removeLesson_149 (by decide) ?_
          rw [mvB_s] at hM3
          exact ih (j + 1) _ (by omega) hM3 hF3 (by omega)
set_option maxRecDepth 100000 in
theorem mX6_removeLesson {l : Launch} {G : ux_G} {h : ux_H} {a : Int} {Hs : List Ab} {A : Ab} {P : Nat} (hM : rM 193 0 A h) (hK : rK Hs h) (hI : Inv P A) (hJ : InvF A) (hP : P + 3000 ≤ 10000000) (ra : -2147483648 ≤ a ∧ a ≤ 2147483647) : ux_M l G yX6_removeLesson iX6_removeLesson 14 0 [.ref 192, .int (iI a)] h (Q6 (k_removeLesson A a) (nI (A.2.1 - 1)) A (s_drop A a.toNat) Hs h) (fun _ _ => False) := by
  refine ux_ent (L' := [some (.ref 192), some (.int (iI a)), none]) kX6_removeLesson rfl rfl rfl rfl ?_
  obtain ⟨i1, i2, i3, i4, i5, i6⟩ := id hI
  refine g_aload_n dX6_removeLesson_0 rfl ?_
  refine g_iconst (v := 0) dX6_removeLesson_1 (by decide) ?_
  refine g_puti pX6_44 dX6_removeLesson_2 rfl rfl ?_
  have hM0 := rM_0t (j := 0) (x := 0) (Or.inl rfl) hM
  have hK0 := rK_0t (j := 0) (x := 0) (by decide) hK
  have hF0 := x_fN_0 h 0
  refine g_aload_n dX6_removeLesson_5 rfl ?_
  refine g_iload_n dX6_removeLesson_6 rfl ?_
  refine f1_V (u' := 0) lX6_153 kX6_isLesson (mX6_isLesson hM0 (by omega) (by omega)) dX6_removeLesson_7 rfl rfl rfl rfl rfl rfl rfl rfl ?_
  refine g_if_ne (tgt := 19) dX6_removeLesson_10 (by decide) (fun c10 => ?_) (fun c10 => ?_)
  · have q10 := xb_n0 c10
    refine g_aload_n dX6_removeLesson_19 rfl ?_
    refine q_V (u' := 0) lX6_68 kX6_changes (mX6_changes hM0 (by omega) (by omega) hK0) dX6_removeLesson_20 rfl rfl rfl rfl rfl rfl rfl rfl (fun v h20 hq => ?_) (fun _ _ q => q.elim)
    obtain ⟨rfl, hK1, hFc⟩ := hq
    have hM1 := rM_c9 hM0 hFc (Or.inl rfl)
    have hF1 := x_fT_c hFc
    dsimp only [Option.toList, List.cons_append, List.nil_append]
    refine g_aload_n dX6_removeLesson_23 rfl ?_
    refine g_iload_n dX6_removeLesson_24 rfl ?_
    refine g_top (y := nI a.toNat) (iI_get (by omega) (by omega)) ?_
    refine q_V (u' := 0) lX6_98 kX6_endsHosted (mX6_endsHosted (l9 := a.toNat) hM1 hI (HO_of hJ) (H3_of hJ) (by omega) (by omega)) dX6_removeLesson_25 rfl rfl rfl rfl rfl rfl rfl rfl (fun v h25 hq => ?_) (fun _ _ q => q.elim)
    obtain ⟨rfl, hM2, hF2⟩ := hq
    obtain ⟨k1, k2, k3⟩ := s_h1_I (i := a.toNat) hI (HO_of hJ) (by omega)
    have kJ := InvF_h1 hI hJ (by omega) a.toNat
    dsimp only [Option.toList, List.cons_append, List.nil_append]
    refine g_pop dX6_removeLesson_28 rfl ?_
    refine g_aload_n dX6_removeLesson_29 rfl ?_
    refine g_iload_n dX6_removeLesson_30 rfl ?_
    refine g_top (y := nI a.toNat) (iI_get (by omega) (by omega)) ?_
    refine q_V (u' := 0) lX6_156 kX6_endsAll (mX6_endsAll (l9 := a.toNat) hM2 k1 (HO_of kJ) (H3_of kJ) (by omega) (by rw [k3]; omega)) dX6_removeLesson_31 rfl rfl rfl rfl rfl rfl rfl rfl (fun v h31 hq => ?_) (fun _ _ q => q.elim)
    obtain ⟨rfl, hM3, hF3⟩ := hq
    rw [h1_eall hI hJ (by omega) (by omega)] at hM3
    obtain ⟨w1, w2, w3⟩ := s_eaw_I (i := a.toNat) hI (HO_of hJ) (by omega)
    dsimp only [Option.toList, List.cons_append, List.nil_append]
    refine g_pop dX6_removeLesson_34 rfl ?_
    refine g_aload_n dX6_removeLesson_35 rfl ?_
    refine g_getr (q := 193) fX6_9 dX6_removeLesson_36 rfl rfl rfl ?_
    refine g_iconst (v := 1) dX6_removeLesson_39 (by decide) ?_
    refine g_dup2 dX6_removeLesson_40 rfl rfl ?_
    refine g_iald dX6_removeLesson_41 (j := 1) rfl (show 1 < 376 by decide) rfl ?_
    refine g_top (y := nI A.2.1) (by rw [show xgi h31 193 1 = nI (s_eaw A a.toNat).2.1 from hM3.2.1, w3]) ?_
    refine g_iconst (v := 1) dX6_removeLesson_42 (by decide) ?_
    refine g_isub dX6_removeLesson_43 ?_
    refine g_top (y := nI (A.2.1 - 1)) (pk_sub (a := A.2.1) (b := 1) (by omega)) ?_
    refine g_iast dX6_removeLesson_44 (j := 1) rfl (show 1 < 376 by decide) rfl ?_
    refine g_iload_n dX6_removeLesson_45 rfl ?_
    refine g_top (y := nI a.toNat) (iI_get (by omega) (by omega)) ?_
    refine f1_S (u' := 0) lX6_47 kX6_lessonAt (mX6_lessonAt) dX6_removeLesson_46 rfl rfl rfl rfl rfl rfl ?_
    refine s_i (i := 2) dX6_removeLesson_49 rfl rfl rfl rfl ?_
    dsimp only [List.set]
    refine uX6_rm (l := l) (G := G) (i := a.toNat) (n8 := A.2.1 - 1) (h0 := xsi h31 193 1 (nI (A.2.1 - 1))) (by omega) (by omega) (xgi_si _ _ _ _) ?_ (56 + 8 * (A.2.1 - 1) + 1) (56 + 8 * a.toNat) _ (Nat.le_refl _) (by omega) (fun x h1 h2 => by omega) (fun _ _ => rfl) (x_fm_rf _) (by omega)
    intro h4 hE4 hL4 hF4
    have hM4 : rM 193 0 (s_dr (s_eaw A a.toNat) a.toNat) h4 := rM_dr hM3 (by omega) (by omega) (by omega) (by rw [w3]; exact (hL4 1 (by omega)).trans (xgi_si _ _ _ _)) (fun x h1 h2 => by rw [hE4 x h1 (by omega), xgi_ne _ _ _ _ _ _ (by omega)]) (fun x h1 h2 => by rw [hL4 x h1, xgi_ne _ _ _ _ _ _ (by omega)])
    have eD : (s_dr (s_eaw A a.toNat) a.toNat).2.1 = A.2.1 - 1 := by show (s_eaw A a.toNat).2.1 - 1 = _; rw [w3]
    refine g_iconst (v := 0) dX6_removeLesson_82 (by decide) ?_
    refine s_i (i := 2) dX6_removeLesson_83 rfl rfl rfl rfl ?_
    dsimp only [List.set]
    refine vX6_rm (l := l) (G := G) (i := a.toNat) (D := s_dr (s_eaw A a.toNat) a.toNat) (h0 := h4) (by omega) (by omega) (show (s_eaw A a.toNat).1 ≤ 8 by omega) (by omega) (fun m hm => ?_) ?_ (A.2.1 + 1) 0 h4 (Nat.zero_le _) (by rw [mv2_0]; exact hM4) (x_fm_rf _) (by omega)
    · rw [s_dr_aF, s_dr_aF]
      have z1 := w1.2.2.2.2.2 m (by omega)
      have z2 := w1.2.2.2.2.2 (m + 1) (by omega)
      split <;> split <;> omega
    · intro h5 hM5 hF5
      have eS : mv2 (s_dr (s_eaw A a.toNat) a.toNat) a.toNat (s_dr (s_eaw A a.toNat) a.toNat).2.1 = s_drop A a.toNat := rfl
      rw [eS] at hM5
      have eL : xgi h5 193 1 = nI (A.2.1 - 1) := by rw [hM5.2.1]; show nI ((s_eaw A a.toNat).2.1 - 1) = _; rw [w3]
      refine g_aload_n dX6_removeLesson_152 rfl ?_
      refine f1_V (u' := 0) lX6_54 kX6_lessons (mX6_lessonsE (n9 := A.2.1 - 1) eL) dX6_removeLesson_153 rfl rfl rfl rfl rfl rfl rfl rfl ?_
      refine g_ireturn dX6_removeLesson_156 rfl rfl (by decide) ?_
      have fm := x_fm_tr hF2 (x_fm_tr hF3 (x_fm_tr (x_fm_si _ 1 (nI (A.2.1 - 1))) (x_fm_tr hF4 hF5)))
      exact q6_ok (by unfold k_removeLesson; (repeat' split) <;> first | rfl | omega | contradiction) hM5 (rK_m hK1 fm) (x_fT_tr hF1 (x_fT_m fm))
  · have q10 := xb_0.mp c10
    refine g_aload_n dX6_removeLesson_13 rfl ?_
    refine g_iconst (v := 1) dX6_removeLesson_14 (by decide) ?_
    refine f1_V (u' := 0) lX6_107 kX6_raises (mX6_raises) dX6_removeLesson_15 rfl rfl rfl rfl rfl rfl rfl rfl ?_
    refine g_ireturn dX6_removeLesson_18 rfl rfl (by decide) ?_
    exact q6_no (c := 1) (by unfold k_removeLesson; (repeat' split) <;> first | rfl | omega | contradiction) (by decide) hM0 hK0 hF0
