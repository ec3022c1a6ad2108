/-! THE REFERENCE: plans. -/
/-- what was found, in the reference's rows -/
def rA (n : Nat) (a : pl_A) (h : ux_H) : Prop := xgi h 192 16 = nI a.1 ∧ (a.1 ≠ 0 → xgi h 192 15 = iI a.2.1 ∧ a.2.2.length = n ∧ ∀ (k t : Nat), a.2.2[k]? = some t → xgi h 200 k = nI t)
def rP (pre : List Nat) (h : ux_H) : Prop := ∀ (k t : Nat), pre[k]? = some t → xgi h 199 k = nI t
/-- what the plans leave as it was -/
def x_fq (h h' : ux_H) : Prop := (∀ c, c ≠ 192 → c ≠ 193 → c ≠ 199 → c ≠ 200 → ∀ j, h' c j = h c j) ∧ ∀ j, j ≠ 15 → j ≠ 16 → h' 192 j = h 192 j
theorem x_fq_rf (h : ux_H) : x_fq h h := ⟨fun _ _ _ _ _ _ => rfl, fun _ _ _ => rfl⟩
theorem x_fq_tr {h h1 h2 : ux_H} (a : x_fq h h1) (b : x_fq h1 h2) : x_fq h h2 := ⟨fun c p q r s j => (b.1 c p q r s j).trans (a.1 c p q r s j), fun j p q => (b.2 j p q).trans (a.2 j p q)⟩
theorem x_fq_m {h h1 : ux_H} (a : x_fm h h1) : x_fq h h1 := ⟨fun c _ p _ _ j => a c p j, fun j _ _ => a 192 (by decide) j⟩
theorem x_fq_k {h h1 : ux_H} {k : Nat} (a : x_fk k h h1) (hk : k = 199 ∨ k = 200) : x_fq h h1 := ⟨fun c _ _ p q j => a c (by omega) j, fun j _ _ => a 192 (by omega) j⟩
theorem x_fq_si (h : ux_H) {j : Nat} (x : Int32) (hj : j = 15 ∨ j = 16) : x_fq h (xsi h 192 j x) := ⟨fun c p _ _ _ b => by unfold xsi xsv; rw [if_neg (by omega)], fun b p q => by unfold xsi xsv; rw [if_neg (by omega)]⟩
theorem rA_fr {n : Nat} {a : pl_A} {h h' : ux_H} (q : rA n a h) (e : ∀ j, h' 200 j = h 200 j) (e5 : h' 192 15 = h 192 15) (e6 : h' 192 16 = h 192 16) : rA n a h' := by
  have g5 : xgi h' 192 15 = xgi h 192 15 := by unfold xgi; rw [e5]
  have g6 : xgi h' 192 16 = xgi h 192 16 := by unfold xgi; rw [e6]
  refine ⟨g6.trans q.1, fun hz => ?_⟩
  obtain ⟨x, y, z⟩ := q.2 hz
  exact ⟨g5.trans x, y, fun k t hk => by unfold xgi; rw [e k]; exact z k t hk⟩
theorem rP_fr {pre : List Nat} {h h' : ux_H} (q : rP pre h) (e : ∀ j, h' 199 j = h 199 j) : rP pre h' := fun k t hk => by unfold xgi; rw [e k]; exact q k t hk
theorem undo_eq {B : Ab} {i t : Nat} (h13 : aF B 13 i = -1) : aU (s_add (s_begin B i t) t (-(s_worth B i t))) 13 i (-1) = B := by
  refine Ab_ext rfl rfl fun a b => ?_
  unfold s_add s_begin s_add
  rw [aF_aU, aF_aU, aF_aU, aF_aU, aF_aU, aF_aU]
  by_cases q13 : a = 13 ∧ b = i
  · rw [if_pos q13, q13.1, q13.2, h13]
  · rw [if_neg q13]
    by_cases q4 : a = 4 ∧ b = t
    · rw [if_pos q4, if_pos ⟨rfl, rfl⟩, if_neg (show ¬ (4 = 13 ∧ t = i) by omega), q4.1, q4.2]; omega
    · rw [if_neg q4, if_neg q4, if_neg q13]
theorem worth_begin {B : Ab} {i t : Nat} : s_worth (s_begin B i t) i t = s_worth B i t := by
  have e : ∀ f j, f ≠ 4 → f ≠ 13 → aF (s_begin B i t) f j = aF B f j := fun f j h4 h13 => by rw [s_begin_aF _ _ _ _ _ h4, if_neg (by omega)]
  unfold s_worth
  rw [e 8 i (by decide) (by decide), e 1 t (by decide) (by decide), e 10 i (by decide) (by decide)]
set_option maxRecDepth 100000 in
theorem wX6_plans0 {l : Launch} {G : ux_G} {h9 h0 : ux_H} {Ls pre : List Nat} {B : Ab} {a : pl_A} {n7 : Nat} {x3 : Int32} (hM : rM 193 0 B h0) (hn4 : n7 ≤ 4) (hl : pre.length = n7) (hO : rO Ls h0) (hp : rP pre h0) (h16 : xgi h0 192 16 = nI (a.1 + 1)) (h15 : xgi h0 192 15 = iI (pl_sp B)) (hj9 : a.1 = 0 ∨ pl_sp B < a.2.1) (h90 : x_fq h9 h0) : ∀ (n : Nat) (j : Nat) (h : ux_H), j ≤ n7 → (∀ (k t : Nat), pre[k]? = some t → k < j → xgi h 200 k = nI t) → x_fk 200 h0 h → n7 - j < n → ux_W l G iX6_plans (ux_rm 8 0) (ux_Z G 0 (fun v h' => v = none ∧ rM 193 0 B h' ∧ rO Ls h' ∧ rP pre h' ∧ rA n7 (pl_jd B pre a) h' ∧ x_fq h9 h') (fun _ _ => False)) 56 [some (.ref 192), some (.int (nI n7)), some (.int (nI n7)), some (.int x3), some (.int (nI j))] [] (h) 0 := by
  intro n
  induction n with
  | zero => intro j h hj hE hF hn; exact absurd hn (Nat.not_lt_zero _)
  | succ n ih =>
    intro j h hj hE hF hn
    refine g_iload dX6_plans_56 rfl ?_
    refine g_iload_n dX6_plans_58 rfl ?_
    refine g_icmp_ge (tgt := 82) dX6_plans_59 (by decide) (fun c59 => ?_) (fun c59 => ?_)
    · have e : j = n7 := by have := xlt_i c59 (by omega) (by omega); omega
      subst e
      refine g_return dX6_plans_82 rfl (by decide) ?_
      refine ⟨rfl, rM_k9 hM hF (by decide), rO_fr hO (fun j => hF 198 (by decide) j), rP_fr hp (fun j => hF 199 (by decide) j), ?_, x_fq_tr h90 (x_fq_k hF (Or.inr rfl))⟩
      unfold pl_jd
      rw [if_pos hj9]
      refine ⟨(x_fk_g hF (by decide) 16).trans h16, fun _ => ⟨(x_fk_g hF (by decide) 15).trans h15, hl, fun k t hk => hE k t hk ?_⟩⟩
      have := (List.getElem?_eq_some_iff.mp hk).1
      show k < j
      exact hl ▸ this
    · have hlt : j < n7 := xnl_i c59 (by omega) (by omega)
      obtain ⟨u, hu⟩ : ∃ u, pre[j]? = some u := ⟨_, List.getElem?_eq_getElem (by omega)⟩
      refine g_aload_n dX6_plans_62 rfl ?_
      refine g_getr (q := 200) fX6_35 dX6_plans_63 rfl rfl rfl ?_
      refine g_iload dX6_plans_66 rfl ?_
      refine g_aload_n dX6_plans_68 rfl ?_
      refine g_getr (q := 199) fX6_32 dX6_plans_69 rfl rfl rfl ?_
      refine g_iload dX6_plans_72 rfl ?_
      refine g_iald dX6_plans_74 rfl (show j < 4 by omega) rfl ?_
      refine g_iast dX6_plans_75 rfl (show j < 4 by omega) rfl ?_
      refine s_inc (v := nI (j + 1)) dX6_plans_76 rfl nI_s rfl rfl rfl ?_
      dsimp only [List.set]
      refine g_goto (tgt := 56) dX6_plans_79 (by decide) ?_
      refine ih (j + 1) _ (by omega) (fun k t hk hkj => ?_) (x_fk_tr hF (x_fk_si _ _ _ _)) (by omega)
      rw [xgi_sif]
      by_cases q : k = j
      · rw [if_pos ⟨rfl, q⟩, x_fk_g hF (by decide) j, hp j u hu]; subst q; rw [hk] at hu; injection hu with hu; rw [hu]
      · rw [if_neg (fun y => q y.2)]; exact hE k t hk (by omega)
set_option maxRecDepth 100000 in
theorem tX6_plans0 {l : Launch} {G : ux_G} {h : ux_H} {Ls pre : List Nat} {B : Ab} {a : pl_A} {PB c n7 : Nat} (hM : rM 193 0 B h) (hI : Inv PB B) (hJ : InvF B) (hn : Ls.length = n7) (hn4 : n7 ≤ 4) (hO : rO Ls h) (hp : rP pre h) (hA : rA n7 a h) (hk : okA c a) {x3 : Int32} (hl : pre.length = n7) (hc : c ≤ 500000) (hx3 : x3 = iI (pl_sp B)) : ux_W l G iX6_plans (ux_rm 8 0) (ux_Z G 0 (fun v h' => v = none ∧ rM 193 0 B h' ∧ rO Ls h' ∧ rP pre h' ∧ rA n7 (pl_jd B pre a) h' ∧ x_fq h h') (fun _ _ => False)) 31 [some (.ref 192), some (.int (nI n7)), some (.int (nI n7)), some (.int x3), none] [] ((xsi h 192 16 (nI (a.1 + 1)))) 0 := by
  obtain ⟨i1, i2, i3, i4, i5, i6⟩ := id hI
  have hM9 : rM 193 0 B (xsi h 192 16 (nI (a.1 + 1))) := rM_0t (Or.inl rfl) hM
  have sr := pl_sp_r hI
  have hk1 := hk.1
  refine g_aload_n dX6_plans_31 rfl ?_
  refine g_geti fX6_211 dX6_plans_32 rfl rfl ?_
  refine g_top (xgi_si _ _ _ _) ?_
  refine g_iconst (v := 1) dX6_plans_35 (by decide) ?_
  refine g_icmp_le (tgt := 48) dX6_plans_36 (by decide) (fun c36 => ?_) (fun c36 => ?_)
  · have q36 : a.1 = 0 := by
      rw [show (1 : Int32) = nI 1 by decide] at c36
      have := xlt_i (a := a.1 + 1) (b := 1) c36 (by omega) (by decide)
      omega
    have hj9 : a.1 = 0 ∨ pl_sp B < a.2.1 := Or.inl q36
    refine g_aload_n dX6_plans_48 rfl ?_
    refine g_iload_n dX6_plans_49 rfl ?_
    refine g_top hx3 ?_
    refine g_puti pX6_214 dX6_plans_50 rfl rfl ?_
    refine g_iconst (v := 0) dX6_plans_53 (by decide) ?_
    refine s_iw dX6_plans_54 rfl rfl rfl ?_
    dsimp only [List.set]
    exact wX6_plans0 (l := l) (G := G) (h9 := h) (h0 := (xsi (xsi h 192 16 (nI (a.1 + 1))) 192 15 (iI (pl_sp B)))) (rM_0t (Or.inl rfl) hM9) hn4 (by omega) (rO_fr hO (fun j => by unfold xsi xsv; rw [if_neg (by omega), if_neg (by omega)])) (rP_fr hp (fun j => by unfold xsi xsv; rw [if_neg (by omega), if_neg (by omega)])) (by rw [xgi_ne _ _ _ _ _ _ (by decide)]; exact xgi_si _ _ _ _) (xgi_si _ _ _ _) hj9 (x_fq_tr (x_fq_si _ _ (Or.inr rfl)) (x_fq_si _ _ (Or.inl rfl))) (n7 + 1) 0 _ (Nat.zero_le _) (fun k t _ hkj => absurd hkj (Nat.not_lt_zero _)) (x_fk_rf _ _) (by omega)
  · have q36 : a.1 ≠ 0 := fun y => c36 (by rw [y]; decide)
    have hz := hk.2 q36
    refine g_iload_n dX6_plans_39 rfl ?_
    refine g_aload_n dX6_plans_40 rfl ?_
    refine g_geti fX6_214 dX6_plans_41 rfl rfl ?_
    refine g_top (y := iI a.2.1) (by rw [xgi_ne _ _ _ _ _ _ (by decide)]; exact (hA.2 q36).1) ?_
    refine g_icmp_lt (tgt := 48) dX6_plans_44 (by decide) (fun c44 => ?_) (fun c44 => ?_)
    · rw [hx3, iI_lt (by omega) (by omega) (by omega) (by omega)] at c44
      have hj9 : a.1 = 0 ∨ pl_sp B < a.2.1 := Or.inr c44
      refine g_aload_n dX6_plans_48 rfl ?_
      refine g_iload_n dX6_plans_49 rfl ?_
      refine g_top hx3 ?_
      refine g_puti pX6_214 dX6_plans_50 rfl rfl ?_
      refine g_iconst (v := 0) dX6_plans_53 (by decide) ?_
      refine s_iw dX6_plans_54 rfl rfl rfl ?_
      dsimp only [List.set]
      exact wX6_plans0 (l := l) (G := G) (h9 := h) (h0 := (xsi (xsi h 192 16 (nI (a.1 + 1))) 192 15 (iI (pl_sp B)))) (rM_0t (Or.inl rfl) hM9) hn4 (by omega) (rO_fr hO (fun j => by unfold xsi xsv; rw [if_neg (by omega), if_neg (by omega)])) (rP_fr hp (fun j => by unfold xsi xsv; rw [if_neg (by omega), if_neg (by omega)])) (by rw [xgi_ne _ _ _ _ _ _ (by decide)]; exact xgi_si _ _ _ _) (xgi_si _ _ _ _) hj9 (x_fq_tr (x_fq_si _ _ (Or.inr rfl)) (x_fq_si _ _ (Or.inl rfl))) (n7 + 1) 0 _ (Nat.zero_le _) (fun k t _ hkj => absurd hkj (Nat.not_lt_zero _)) (x_fk_rf _ _) (by omega)
    · rw [hx3, iI_lt (by omega) (by omega) (by omega) (by omega)] at c44
      refine g_return dX6_plans_47 rfl (by decide) ?_
      refine ⟨rfl, hM9, rO_fr hO (fun j => by unfold xsi xsv; rw [if_neg (by omega)]), rP_fr hp (fun j => by unfold xsi xsv; rw [if_neg (by omega)]), ?_, x_fq_si _ _ (Or.inr rfl)⟩
      unfold pl_jd
      rw [if_neg (by omega)]
      refine ⟨xgi_si _ _ _ _, fun _ => ?_⟩
      obtain ⟨y1, y2, y3⟩ := hA.2 q36
      exact ⟨by rw [xgi_ne _ _ _ _ _ _ (by decide)]; exact y1, y2, fun k t hk => by rw [xgi_ne _ _ _ _ _ _ (by omega)]; exact y3 k t hk⟩
set_option maxRecDepth 100000 in
theorem mX6_plans0 {l : Launch} {G : ux_G} {h : ux_H} {Ls pre : List Nat} {B : Ab} {a : pl_A} {PB c n7 : Nat} (hM : rM 193 0 B h) (hI : Inv PB B) (hJ : InvF B) (hn : Ls.length = n7) (hn4 : n7 ≤ 4) (hO : rO Ls h) (hp : rP pre h) (hA : rA n7 a h) (hk : okA c a) (hl : pre.length = n7) (hc : c ≤ 500000) : ux_M l G yX6_plans iX6_plans 8 0 [.ref 192, .int (nI n7), .int (nI n7)] h (fun v h' => v = none ∧ rM 193 0 B h' ∧ rO Ls h' ∧ rP pre h' ∧ rA n7 (pl_jd B pre a) h' ∧ x_fq h h') (fun _ _ => False) := by
  refine ux_ent (L' := [some (.ref 192), some (.int (nI n7)), some (.int (nI n7)), none, none]) kX6_plans rfl rfl rfl rfl ?_
  obtain ⟨i1, i2, i3, i4, i5, i6⟩ := id hI
  refine g_iload_n dX6_plans_0 rfl ?_
  refine g_iload_n dX6_plans_1 rfl ?_
  refine g_icmp_ne (tgt := 83) dX6_plans_2 (by decide) (fun c2 => ?_) (fun c2 => ?_)
  · exact absurd rfl c2
  · refine g_aload_n dX6_plans_5 rfl ?_
    refine g_dup dX6_plans_6 rfl ?_
    refine g_geti fX6_211 dX6_plans_7 rfl rfl ?_
    refine g_top hA.1 ?_
    refine g_iconst (v := 1) dX6_plans_10 (by decide) ?_
    refine g_iadd dX6_plans_11 ?_
    refine g_top (nI_1 _) ?_
    refine g_puti pX6_211 dX6_plans_12 rfl rfl ?_
    have hM9 : rM 193 0 B (xsi h 192 16 (nI (a.1 + 1))) := rM_0t (Or.inl rfl) hM
    refine g_aload_n dX6_plans_15 rfl ?_
    refine f1_V (u' := 0) lX6_62 kX6_teachers (mX6_teachers hM9) dX6_plans_16 rfl rfl rfl rfl rfl rfl rfl rfl ?_
    refine g_if_ne (tgt := 26) dX6_plans_19 (by decide) (fun c19 => ?_) (fun c19 => ?_)
    · have q19 : 0 < B.1 := by rcases Nat.eq_zero_or_pos B.1 with q | q; exact absurd (by rw [q]; rfl) c19; exact q
      refine g_aload_n dX6_plans_26 rfl ?_
      refine f1_V (u' := 0) lX6_208 kX6_spreadNow (mX6_spreadNow hM9 hI (by omega)) dX6_plans_27 rfl rfl rfl rfl rfl rfl rfl rfl ?_
      refine s_i (i := 3) dX6_plans_30 rfl rfl rfl rfl ?_
      dsimp only [List.set]
      exact tX6_plans0 (l := l) (G := G) hM hI hJ hn hn4 hO hp hA hk hl hc (by first | rfl | (unfold pl_sp; rw [if_pos q19]; rfl))
    · have q19 : B.1 = 0 := by rw [nI_iI, xq0 (by omega) (by omega)] at c19; omega
      refine g_iconst (v := 0) dX6_plans_22 (by decide) ?_
      refine g_goto (tgt := 30) dX6_plans_23 (by decide) ?_
      refine s_i (i := 3) dX6_plans_30 rfl rfl rfl rfl ?_
      dsimp only [List.set]
      exact tX6_plans0 (l := l) (G := G) hM hI hJ hn hn4 hO hp hA hk hl hc (by first | rfl | (unfold pl_sp; rw [if_pos q19]; rfl))
