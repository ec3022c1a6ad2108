/-! THE CLASS: the planner takes a lesson. -/
theorem mask_bit (P : Nat → Bool) {t : Nat} (ht : t < 30) : ∀ n, n ≤ 30 → ((s_mask P n >>> (nI t &&& 31) &&& 1 = 0) ↔ ¬ (t < n ∧ P t = true)) := by
  intro n
  induction n with
  | zero =>
    intro _
    rw [x_bitB _ ht]
    show (0 : Int32).toBitVec.getLsbD t = false ↔ _
    have : (0 : Int32).toBitVec = 0#32 := rfl
    rw [this]
    simp
  | succ n ih =>
    intro hn
    have a := ih (by omega)
    rw [x_bitB _ ht] at a ⊢
    unfold s_mask
    by_cases q : P n = true
    · rw [if_pos q, Int32.toBitVec_or, BitVec.getLsbD_or, x_sl n (by omega) t ht]
      by_cases e : t = n
      · subst e
        rw [decide_eq_true rfl, Bool.or_true]
        constructor
        · intro y; cases y
        · intro y; exact absurd ⟨by omega, q⟩ y
      · rw [decide_eq_false e, Bool.or_false, a]
        constructor
        · rintro y ⟨z1, z2⟩; exact y ⟨by omega, z2⟩
        · rintro y ⟨z1, z2⟩; exact y ⟨by omega, z2⟩
    · rw [if_neg q, a]
      constructor
      · rintro y ⟨z1, z2⟩
        by_cases e : t = n
        · subst e; exact q z2
        · exact y ⟨by omega, z2⟩
      · rintro y ⟨z1, z2⟩; exact y ⟨by omega, z2⟩
/-- only the places of lesson k have changed -/
def x_frX (k : Nat) (h h' : ux_H) : Prop := ∀ c j, ¬ (180 ≤ c ∧ c ≤ 182 ∧ j = k) → ¬ (c = 187 ∧ 8 * k ≤ j ∧ j < 8 * k + 8) → h' c j = h c j
theorem x_frX_rf (k : Nat) (h : ux_H) : x_frX k h h := fun _ _ _ _ => rfl
theorem x_frX_tr {k : Nat} {h h1 h2 : ux_H} (a : x_frX k h h1) (b : x_frX k h1 h2) : x_frX k h h2 := fun c j q1 q2 => (b c j q1 q2).trans (a c j q1 q2)
theorem x_frX_a (h : ux_H) {k c : Nat} (x : Int32) (hc : 180 ≤ c ∧ c ≤ 182) : x_frX k h (xsi h c k x) := fun a j q1 q2 => by unfold xsi xsv; rw [if_neg (by omega)]
theorem x_frX_b (h : ux_H) {k t : Nat} (x : Int32) (ht : t < 8) : x_frX k h (xsi h 187 (8 * k + t) x) := fun a j q1 q2 => by unfold xsi xsv; rw [if_neg (by omega)]
theorem x_frX_g {k : Nat} {h h' : ux_H} (hF : x_frX k h h') {c j : Nat} (q1 : ¬ (180 ≤ c ∧ c ≤ 182 ∧ j = k)) (q2 : ¬ (c = 187 ∧ 8 * k ≤ j ∧ j < 8 * k + 8)) : xgi h' c j = xgi h c j := by unfold xgi; rw [hF c j q1 q2]
theorem rC_frX {A : Ab} {k : Nat} {h h' : ux_H} (hC : rC 0 A h) (hF : x_frX k h h') : rC 0 A h' := rC_ne hC fun a _ h2 b => hF a b (by omega) (by omega)
set_option maxRecDepth 100000 in
theorem wX3_takeLesson {l : Launch} {G : ux_G} {h0 : ux_H} {A : Ab} {P : Nat} (hI : Inv P A) {k i : Nat} (hk : k < 4) (hi : i < A.2.1) : ∀ (n : Nat) (j : Nat) (h : ux_H), j ≤ A.1 → rC 0 A h → xgi h 179 8 = nI A.1 → x_frX k h0 h → (∀ t, t < j → xgi h 187 (8 * k + t) = iI (s_share A t (s_worth A i t))) → A.1 - j < n → ux_W l G iX3_takeLesson (ux_rm 5 0) (ux_Z G 0 (fun v h' => v = none ∧ x_frX k h0 h' ∧ xgi h' 180 k = nI i ∧ xgi h' 181 k = iI (aF A 8 i) ∧ xgi h' 182 k = s_mask (fun t => decide (s_bar A i t = 0)) A.1 ∧ ∀ t, t < A.1 → xgi h' 187 (8 * k + t) = iI (s_share A t (s_worth A i t))) (fun _ _ => False)) 6 [some (.ref 179), some (.ref 0), some (.int (nI k)), some (.int (nI i)), some (.int (s_mask (fun t => decide (s_bar A i t = 0)) j)), some (.int (nI j)), none] [] (h) 0 := by
  intro n
  induction n with
  | zero => intro j h hj hC h8 hF hcs hn; exact absurd hn (Nat.not_lt_zero _)
  | succ n ih =>
    intro j h hj hC h8 hF hcs hn
    obtain ⟨i1, i2, i3, i4, i5, i6⟩ := id hI
    refine g_iload dX3_takeLesson_6 rfl ?_
    refine g_aload_n dX3_takeLesson_8 rfl ?_
    refine g_geti fX3_36 dX3_takeLesson_9 rfl rfl ?_
    refine g_top h8 ?_
    refine g_icmp_ge (tgt := 71) dX3_takeLesson_12 (by decide) (fun c12 => ?_) (fun c12 => ?_)
    · have e : j = A.1 := by have := xlt_i c12 (by omega) (by omega); omega
      subst e
      refine g_aload_n dX3_takeLesson_71 rfl ?_
      refine g_getr (q := 182) fX3_18 dX3_takeLesson_72 rfl rfl rfl ?_
      refine g_iload_n dX3_takeLesson_75 rfl ?_
      refine g_iload dX3_takeLesson_76 rfl ?_
      refine f0_SN (u' := 0) lX3_65 kX5_put (mX5_put (k := 182) rfl (show _ < 4 by omega)) dX3_takeLesson_78 rfl rfl rfl rfl rfl rfl ?_
      refine g_aload_n dX3_takeLesson_81 rfl ?_
      refine g_getr (q := 180) fX3_9 dX3_takeLesson_82 rfl rfl rfl ?_
      refine g_iload_n dX3_takeLesson_85 rfl ?_
      refine g_iload_n dX3_takeLesson_86 rfl ?_
      refine f0_SN (u' := 0) lX3_65 kX5_put (mX5_put (k := 180) rfl (show _ < 4 by omega)) dX3_takeLesson_87 rfl rfl rfl rfl rfl rfl ?_
      refine g_aload_n dX3_takeLesson_90 rfl ?_
      refine g_getr (q := 181) fX3_15 dX3_takeLesson_91 rfl rfl rfl ?_
      refine g_iload_n dX3_takeLesson_94 rfl ?_
      refine g_aload_n dX3_takeLesson_95 rfl ?_
      refine g_getr (q := 8) fX3_99 dX3_takeLesson_96 rfl rfl rfl ?_
      refine g_iload_n dX3_takeLesson_99 rfl ?_
      refine f1_SN (u' := 0) lX3_72 kX5_at (mA_l (f := 8) (rC_frX hC (x_frX_tr (x_frX_a (k := k) (c := 182) h _ (by decide)) (x_frX_a _ _ (by decide)))) i2 hi rfl) dX3_takeLesson_100 rfl rfl rfl rfl rfl rfl ?_
      refine f0_SN (u' := 0) lX3_65 kX5_put (mX5_put (k := 181) rfl (show _ < 4 by omega)) dX3_takeLesson_103 rfl rfl rfl rfl rfl rfl ?_
      refine g_return dX3_takeLesson_106 rfl (by decide) ?_
      refine ⟨rfl, x_frX_tr hF (x_frX_tr (x_frX_tr (x_frX_a h _ (by decide)) (x_frX_a _ _ (by decide))) (x_frX_a _ _ (by decide))), ?_, ?_, ?_, fun t ht => ?_⟩
      · rw [xgi_ne _ _ _ _ _ _ (by omega)]; exact xgi_si _ _ _ _
      · exact xgi_si _ _ _ _
      · rw [xgi_ne _ _ _ _ _ _ (by omega), xgi_ne _ _ _ _ _ _ (by omega)]; exact xgi_si _ _ _ _
      · rw [xgi_ne _ _ _ _ _ _ (by omega), xgi_ne _ _ _ _ _ _ (by omega), xgi_ne _ _ _ _ _ _ (by omega)]; exact hcs t ht
    · have hlt : j < A.1 := xnl_i c12 (by omega) (by omega)
      have br := s_bar_r A i j
      have wr := s_worth_r A i j
      refine g_aload_n dX3_takeLesson_15 rfl ?_
      refine g_iload_n dX3_takeLesson_16 rfl ?_
      refine g_iload dX3_takeLesson_17 rfl ?_
      refine f1_VN (u' := 0) lX3_90 kX4_reasonAgainst (mX4_reasonAgainst hC hI (by assumption) hlt) dX3_takeLesson_19 rfl rfl rfl rfl rfl rfl rfl rfl ?_
      refine g_if_ne (tgt := 34) dX3_takeLesson_22 (by decide) (fun c22 => ?_) (fun c22 => ?_)
      · rw [xq0 (by omega) (by omega)] at c22
        have em : s_mask (fun t => decide (s_bar A i t = 0)) (j + 1) = s_mask (fun t => decide (s_bar A i t = 0)) j := by show (if _ then _ else _) = _; rw [if_neg (by simp [c22])]
        refine g_aload_n dX3_takeLesson_34 rfl ?_
        refine g_iload dX3_takeLesson_35 rfl ?_
        refine g_aload_n dX3_takeLesson_37 rfl ?_
        refine g_iload_n dX3_takeLesson_38 rfl ?_
        refine g_iload dX3_takeLesson_39 rfl ?_
        refine f1_VN (u' := 0) lX3_93 kX4_pointsFor (mX4_pointsFor hC hI (by assumption) hlt) dX3_takeLesson_41 rfl rfl rfl rfl rfl rfl rfl rfl ?_
        refine f1_VN (u' := 0) lX3_96 kX4_shareFor (mX4_shareFor hC hI (by omega) hlt) dX3_takeLesson_44 rfl rfl rfl rfl rfl rfl rfl rfl ?_
        refine s_iw dX3_takeLesson_47 rfl rfl rfl ?_
        dsimp only [List.set]
        refine g_aload_n dX3_takeLesson_49 rfl ?_
        refine g_getr (q := 187) fX3_33 dX3_takeLesson_50 rfl rfl rfl ?_
        refine g_iload_n dX3_takeLesson_53 rfl ?_
        refine g_bipush (v := 8) dX3_takeLesson_54 (by decide) ?_
        refine g_imul dX3_takeLesson_56 ?_
        refine g_iload dX3_takeLesson_57 rfl ?_
        refine g_iadd dX3_takeLesson_59 ?_
        refine g_top (y := nI (8 * k + j)) (by rw [show (8 : Int32) = nI 8 by decide, pk_mul, nI_add, Nat.mul_comm]) ?_
        refine g_iload dX3_takeLesson_60 rfl ?_
        refine f0_SN (u' := 0) lX3_65 kX5_put (mX5_put (k := 187) (j := 8 * k + j) rfl (show _ < 32 by omega)) dX3_takeLesson_62 rfl rfl rfl rfl rfl rfl ?_
        refine s_inc (v := nI (j + 1)) dX3_takeLesson_65 rfl nI_s rfl rfl rfl ?_
        dsimp only [List.set]
        refine g_goto (tgt := 6) dX3_takeLesson_68 (by decide) ?_
        refine g_fg 6 rfl ?_
        dsimp only [List.set]
        rw [← em]
        have hFn := x_frX_b h (k := k) (t := j) (iI (s_share A j (s_worth A i j))) (by omega)
        refine ih (j + 1) _ (by omega) (rC_frX hC hFn) ((x_frX_g hFn (by omega) (by omega)).trans h8) (x_frX_tr hF hFn) (fun t ht => ?_) (by omega)
        rw [xgi_sif]
        by_cases e : t = j
        · subst e; rw [if_pos ⟨rfl, rfl⟩]
        · rw [if_neg (by omega)]; exact hcs t (by omega)
      · rw [xq0 (by omega) (by omega)] at c22
        have em : s_mask (fun t => decide (s_bar A i t = 0)) (j + 1) = s_mask (fun t => decide (s_bar A i t = 0)) j ||| (1 <<< (nI j &&& 31)) := by show (if _ then _ else _) = _; rw [if_pos (by simp [c22])]
        refine g_iload dX3_takeLesson_25 rfl ?_
        refine g_iconst (v := 1) dX3_takeLesson_27 (by decide) ?_
        refine g_iload dX3_takeLesson_28 rfl ?_
        refine g_ishl dX3_takeLesson_30 ?_
        refine g_ior dX3_takeLesson_31 ?_
        refine s_iw dX3_takeLesson_32 rfl rfl rfl ?_
        dsimp only [List.set]
        refine g_aload_n dX3_takeLesson_34 rfl ?_
        refine g_iload dX3_takeLesson_35 rfl ?_
        refine g_aload_n dX3_takeLesson_37 rfl ?_
        refine g_iload_n dX3_takeLesson_38 rfl ?_
        refine g_iload dX3_takeLesson_39 rfl ?_
        refine f1_VN (u' := 0) lX3_93 kX4_pointsFor (mX4_pointsFor hC hI (by assumption) hlt) dX3_takeLesson_41 rfl rfl rfl rfl rfl rfl rfl rfl ?_
        refine f1_VN (u' := 0) lX3_96 kX4_shareFor (mX4_shareFor hC hI (by omega) hlt) dX3_takeLesson_44 rfl rfl rfl rfl rfl rfl rfl rfl ?_
        refine s_iw dX3_takeLesson_47 rfl rfl rfl ?_
        dsimp only [List.set]
        refine g_aload_n dX3_takeLesson_49 rfl ?_
        refine g_getr (q := 187) fX3_33 dX3_takeLesson_50 rfl rfl rfl ?_
        refine g_iload_n dX3_takeLesson_53 rfl ?_
        refine g_bipush (v := 8) dX3_takeLesson_54 (by decide) ?_
        refine g_imul dX3_takeLesson_56 ?_
        refine g_iload dX3_takeLesson_57 rfl ?_
        refine g_iadd dX3_takeLesson_59 ?_
        refine g_top (y := nI (8 * k + j)) (by rw [show (8 : Int32) = nI 8 by decide, pk_mul, nI_add, Nat.mul_comm]) ?_
        refine g_iload dX3_takeLesson_60 rfl ?_
        refine f0_SN (u' := 0) lX3_65 kX5_put (mX5_put (k := 187) (j := 8 * k + j) rfl (show _ < 32 by omega)) dX3_takeLesson_62 rfl rfl rfl rfl rfl rfl ?_
        refine s_inc (v := nI (j + 1)) dX3_takeLesson_65 rfl nI_s rfl rfl rfl ?_
        dsimp only [List.set]
        refine g_goto (tgt := 6) dX3_takeLesson_68 (by decide) ?_
        refine g_fg 6 rfl ?_
        dsimp only [List.set]
        rw [← em]
        have hFn := x_frX_b h (k := k) (t := j) (iI (s_share A j (s_worth A i j))) (by omega)
        refine ih (j + 1) _ (by omega) (rC_frX hC hFn) ((x_frX_g hFn (by omega) (by omega)).trans h8) (x_frX_tr hF hFn) (fun t ht => ?_) (by omega)
        rw [xgi_sif]
        by_cases e : t = j
        · subst e; rw [if_pos ⟨rfl, rfl⟩]
        · rw [if_neg (by omega)]; exact hcs t (by omega)
set_option maxRecDepth 100000 in
theorem mX3_takeLesson {l : Launch} {G : ux_G} {h : ux_H} {A : Ab} {P : Nat} (hC : rC 0 A h) (hI : Inv P A) {k i : Nat} (hk : k < 4) (hi : i < A.2.1) (h8 : xgi h 179 8 = nI A.1) : ux_M l G yX3_takeLesson iX3_takeLesson 5 0 [.ref 179, .ref 0, .int (nI k), .int (nI i)] h (fun v h' => v = none ∧ x_frX k h h' ∧ xgi h' 180 k = nI i ∧ xgi h' 181 k = iI (aF A 8 i) ∧ xgi h' 182 k = s_mask (fun t => decide (s_bar A i t = 0)) A.1 ∧ ∀ t, t < A.1 → xgi h' 187 (8 * k + t) = iI (s_share A t (s_worth A i t))) (fun _ _ => False) := by
  refine ux_ent (L' := [some (.ref 179), some (.ref 0), some (.int (nI k)), some (.int (nI i)), none, none, none]) kX3_takeLesson rfl rfl rfl rfl ?_
  refine g_iconst (v := 0) dX3_takeLesson_0 (by decide) ?_
  refine s_iw dX3_takeLesson_1 rfl rfl rfl ?_
  dsimp only [List.set]
  refine g_iconst (v := 0) dX3_takeLesson_3 (by decide) ?_
  refine s_iw dX3_takeLesson_4 rfl rfl rfl ?_
  dsimp only [List.set]
  exact wX3_takeLesson (h0 := h) hI hk hi (A.1 + 1) 0 h (Nat.zero_le _) hC h8 (x_frX_rf k h) (fun t ht => absurd ht (Nat.not_lt_zero _)) (by omega)
