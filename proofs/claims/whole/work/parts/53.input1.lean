/-! THE CLASS: the input is read: signs, digits, numbers. -/
def s_ch (L : List Nat) (p : Nat) : Nat := L[p]?.getD 0
def s_is (L : List Nat) (p lo hi : Nat) : Bool := decide (p < L.length ∧ lo ≤ s_ch L p ∧ s_ch L p ≤ hi)
def s_tS (L : List Nat) (p c : Nat) : Nat := if s_is L p c c = true then p + 1 else p
def s_tD (L : List Nat) (p lo hi : Nat) : Int × Nat := if s_is L p (48 + lo) (48 + hi) = true then ((s_ch L p : Int) - 48, p + 1) else (-1, p)
def s_tN (L : List Nat) (p : Nat) : Int × Nat := if (s_tD L p 0 9).1 ≤ 0 then s_tD L p 0 9 else if (s_tD L (s_tD L p 0 9).2 0 9).1 = -1 then ((s_tD L p 0 9).1, (s_tD L (s_tD L p 0 9).2 0 9).2) else (10 * (s_tD L p 0 9).1 + (s_tD L (s_tD L p 0 9).2 0 9).1, (s_tD L (s_tD L p 0 9).2 0 9).2)
theorem s_tS_le {L : List Nat} {p c : Nat} (h : p ≤ L.length) : p ≤ s_tS L p c ∧ s_tS L p c ≤ L.length := by
  unfold s_tS
  split
  · next q =>
    have := (of_decide_eq_true q).1
    omega
  · omega
theorem s_tD_le {L : List Nat} {p lo hi : Nat} (h : p ≤ L.length) : p ≤ (s_tD L p lo hi).2 ∧ (s_tD L p lo hi).2 ≤ L.length := by
  unfold s_tD
  split
  · next q =>
    have := (of_decide_eq_true q).1
    exact ⟨by show p ≤ p + 1; omega, by show p + 1 ≤ _; omega⟩
  · exact ⟨Nat.le_refl _, h⟩
theorem s_tD_r (L : List Nat) (p lo hi : Nat) : (s_tD L p lo hi).1 = -1 ∨ ((lo : Int) ≤ (s_tD L p lo hi).1 ∧ (s_tD L p lo hi).1 ≤ hi) := by
  unfold s_tD
  split
  · next q =>
    have := (of_decide_eq_true q).2
    right
    exact ⟨by show (lo : Int) ≤ (s_ch L p : Int) - 48; omega, by show (s_ch L p : Int) - 48 ≤ hi; omega⟩
  · exact Or.inl rfl
theorem s_tN_le {L : List Nat} {p : Nat} (h : p ≤ L.length) : p ≤ (s_tN L p).2 ∧ (s_tN L p).2 ≤ L.length := by
  have a := s_tD_le (lo := 0) (hi := 9) h
  have b := s_tD_le (lo := 0) (hi := 9) a.2
  unfold s_tN
  split
  · exact a
  · split
    · exact ⟨Nat.le_trans a.1 b.1, b.2⟩
    · exact ⟨Nat.le_trans a.1 b.1, b.2⟩
theorem s_tN_r (L : List Nat) (p : Nat) : -1 ≤ (s_tN L p).1 ∧ (s_tN L p).1 ≤ 99 := by
  have a := s_tD_r L p 0 9
  have b := s_tD_r L (s_tD L p 0 9).2 0 9
  unfold s_tN
  split
  · omega
  · split
    · exact ⟨by show -1 ≤ (s_tD L p 0 9).1; omega, by show (s_tD L p 0 9).1 ≤ 99; omega⟩
    · exact ⟨by show -1 ≤ 10 * (s_tD L p 0 9).1 + _; omega, by show 10 * (s_tD L p 0 9).1 + _ ≤ 99; omega⟩
theorem rI_ch {L : List Nat} {h : ux_H} (hL : rI L h) {p : Nat} (hp : p < L.length) : xgi h 189 p = nI (s_ch L p) ∧ 32 ≤ s_ch L p ∧ s_ch L p < 127 := by
  obtain ⟨v, hv⟩ : ∃ v, L[p]? = some v := ⟨_, List.getElem?_eq_getElem hp⟩
  have e : s_ch L p = v := by unfold s_ch; rw [hv]; rfl
  rw [e]
  exact ⟨hL.2.2.2 p v hv, hL.2.2.1 v (List.mem_of_getElem? hv)⟩
/-- only the place of reading has changed -/
def x_frP (h h' : ux_H) : Prop := ∀ k j, ¬ (k = 188 ∧ j = 2) → h' k j = h k j
theorem x_frP_rf (h : ux_H) : x_frP h h := fun _ _ _ => rfl
theorem x_frP_tr {h h1 h2 : ux_H} (a : x_frP h h1) (b : x_frP h1 h2) : x_frP h h2 := fun k j hk => (b k j hk).trans (a k j hk)
theorem x_frP_si (h : ux_H) (x : Int32) : x_frP h (xsi h 188 2 x) := fun k j hk => by unfold xsi xsv; rw [if_neg hk]
theorem x_frP_g {h h' : ux_H} (hF : x_frP h h') {k j : Nat} (hk : ¬ (k = 188 ∧ j = 2)) : xgi h' k j = xgi h k j := by unfold xgi; rw [hF k j hk]
theorem rI_frP {L : List Nat} {h h' : ux_H} (hL : rI L h) (hF : x_frP h h') : rI L h' :=
  ⟨(x_frP_g hF (by omega)).trans hL.1, hL.2.1, hL.2.2.1, fun j v q => (x_frP_g hF (by omega)).trans (hL.2.2.2 j v q)⟩
set_option maxRecDepth 100000 in
theorem mX1_takeSign {l : Launch} {G : ux_G} {h : ux_H} {L : List Nat} {p : Nat} (hL : rI L h) (hp : xgi h 188 2 = nI p) (hpl : p ≤ L.length) {c : Nat} (hc : c < 128) : ux_M l G yX1_takeSign iX1_takeSign 2 0 [.ref 188, .int (nI c)] h (fun v h' => v = some (.int (if s_is L p c c = true then 1 else 0)) ∧ rI L h' ∧ xgi h' 188 2 = nI (s_tS L p c) ∧ x_frP h h') (fun _ _ => False) := by
  refine ux_ent (L' := [some (.ref 188), some (.int (nI c))]) kX1_takeSign rfl rfl rfl rfl ?_
  have h70 := hL.2.1
  refine g_aload_n dX1_takeSign_0 rfl ?_
  refine g_geti fX1_19 dX1_takeSign_1 rfl rfl ?_
  refine g_top hp ?_
  refine g_aload_n dX1_takeSign_4 rfl ?_
  refine g_geti fX1_15 dX1_takeSign_5 rfl rfl ?_
  refine g_top hL.1 ?_
  refine g_icmp_ge (tgt := 26) dX1_takeSign_8 (by decide) (fun c8 => ?_) (fun c8 => ?_)
  · have q8 : ¬ p < L.length := by have := xlt_i c8 (by omega) (by omega); omega
    refine g_iconst (v := 0) dX1_takeSign_26 (by decide) ?_
    refine g_ireturn dX1_takeSign_27 rfl rfl (by decide) ?_
    have qs : ¬ s_is L p c c = true := fun y => by have := of_decide_eq_true y; omega
    exact ⟨by rw [if_neg qs], hL, by unfold s_tS; rw [if_neg qs]; exact hp, x_frP_rf h⟩
  · have q8 : p < L.length := xnl_i c8 (by omega) (by omega)
    have ch := rI_ch hL q8
    refine g_aload_n dX1_takeSign_11 rfl ?_
    refine g_getr (q := 189) fX1_9 dX1_takeSign_12 rfl rfl rfl ?_
    refine g_aload_n dX1_takeSign_15 rfl ?_
    refine g_geti fX1_19 dX1_takeSign_16 rfl rfl ?_
    refine g_top hp ?_
    refine f1_SN (u' := 0) lX1_78 kX5_signAt (mX5_signAt (k := 189) (j := p) rfl (show p < 70 by omega) (by rw [ch.1]; exact x_nar2 _ (by omega))) dX1_takeSign_19 rfl rfl rfl rfl rfl rfl ?_
    refine g_top ch.1 ?_
    refine g_iload_n dX1_takeSign_22 rfl ?_
    refine g_icmp_eq (tgt := 28) dX1_takeSign_23 (by decide) (fun c23 => ?_) (fun c23 => ?_)
    · rw [nI_iI, nI_iI, iI_eq (by omega) (by omega) (by omega) (by omega)] at c23
      have qs : s_is L p c c = true := decide_eq_true ⟨q8, by omega, by omega⟩
      refine g_aload_n dX1_takeSign_28 rfl ?_
      refine g_dup dX1_takeSign_29 rfl ?_
      refine g_geti fX1_19 dX1_takeSign_30 rfl rfl ?_
      refine g_top hp ?_
      refine g_iconst (v := 1) dX1_takeSign_33 (by decide) ?_
      refine g_iadd dX1_takeSign_34 ?_
      refine g_top (nI_1 _) ?_
      refine g_puti pX1_19 dX1_takeSign_35 rfl rfl ?_
      refine g_iconst (v := 1) dX1_takeSign_38 (by decide) ?_
      refine g_ireturn dX1_takeSign_39 rfl rfl (by decide) ?_
      exact ⟨by rw [if_pos qs], rI_frP hL (x_frP_si h _), by unfold s_tS; rw [if_pos qs]; exact xgi_si _ _ _ _, x_frP_si h _⟩
    · rw [nI_iI, nI_iI, iI_eq (by omega) (by omega) (by omega) (by omega)] at c23
      have qs : ¬ s_is L p c c = true := fun y => by have := of_decide_eq_true y; omega
      refine g_iconst (v := 0) dX1_takeSign_26 (by decide) ?_
      refine g_ireturn dX1_takeSign_27 rfl rfl (by decide) ?_
      have qs : ¬ s_is L p c c = true := fun y => by have := of_decide_eq_true y; omega
      exact ⟨by rw [if_neg qs], hL, by unfold s_tS; rw [if_neg qs]; exact hp, x_frP_rf h⟩
set_option maxRecDepth 100000 in
theorem w2_takeDigit {l : Launch} {G : ux_G} {h : ux_H} {L : List Nat} {p : Nat} (hL : rI L h) (hp : xgi h 188 2 = nI p) (hpl : p ≤ L.length) {lo hi : Nat} (hlo : lo ≤ 9) (hhi : hi ≤ 9) {z : Int} (hz : (z = -1 ∧ ¬ p < L.length) ∨ (z = (s_ch L p : Int) - 48 ∧ p < L.length ∧ s_ch L p < 127)) : ux_W l G iX1_takeDigit (ux_rm 2 0) (ux_Z G 0 (fun v h' => v = some (.int (iI (s_tD L p lo hi).1)) ∧ rI L h' ∧ xgi h' 188 2 = nI (s_tD L p lo hi).2 ∧ x_frP h h') (fun _ _ => False)) 29 [some (.ref 188), some (.int (nI lo)), some (.int (nI hi)), none] [.int (iI z)] (h) 0 := by
  have h70 := hL.2.1
  refine s_i (i := 3) dX1_takeDigit_29 rfl rfl rfl rfl ?_
  dsimp only [List.set]
  refine g_iload_n dX1_takeDigit_30 rfl ?_
  refine g_iload_n dX1_takeDigit_31 rfl ?_
  refine g_iload_n dX1_takeDigit_32 rfl ?_
  refine f1_SN (u' := 0) lX1_102 kX5_isWithin (mX5_isWithin) dX1_takeDigit_33 rfl rfl rfl rfl rfl rfl ?_
  refine g_if_ne (tgt := 41) dX1_takeDigit_36 (by decide) (fun c36 => ?_) (fun c36 => ?_)
  · have q36 := xb_n0 c36
    rw [nI_iI, nI_iI, iI_le (by omega) (by omega) (by omega) (by omega), iI_le (by omega) (by omega) (by omega) (by omega)] at q36
    have qs : s_is L p (48 + lo) (48 + hi) = true := decide_eq_true ⟨by omega, by omega, by omega⟩
    refine g_aload_n dX1_takeDigit_41 rfl ?_
    refine g_dup dX1_takeDigit_42 rfl ?_
    refine g_geti fX1_19 dX1_takeDigit_43 rfl rfl ?_
    refine g_top hp ?_
    refine g_iconst (v := 1) dX1_takeDigit_46 (by decide) ?_
    refine g_iadd dX1_takeDigit_47 ?_
    refine g_top (nI_1 _) ?_
    refine g_puti pX1_19 dX1_takeDigit_48 rfl rfl ?_
    refine g_iload_n dX1_takeDigit_51 rfl ?_
    refine g_ireturn dX1_takeDigit_52 rfl rfl (by decide) ?_
    have ez : z = (s_ch L p : Int) - 48 := by have := of_decide_eq_true qs; omega
    exact ⟨by unfold s_tD; rw [if_pos qs, ez], rI_frP hL (x_frP_si h _), by unfold s_tD; rw [if_pos qs]; exact xgi_si _ _ _ _, x_frP_si h _⟩
  · have q36 := xb_0.mp c36
    rw [nI_iI, nI_iI, iI_le (by omega) (by omega) (by omega) (by omega), iI_le (by omega) (by omega) (by omega) (by omega)] at q36
    have qs : ¬ s_is L p (48 + lo) (48 + hi) = true := fun y => by have := of_decide_eq_true y; omega
    refine g_iconst (v := (-1)) dX1_takeDigit_39 (by decide) ?_
    refine g_ireturn dX1_takeDigit_40 rfl rfl (by decide) ?_
    exact ⟨by unfold s_tD; rw [if_neg qs]; rfl, hL, by unfold s_tD; rw [if_neg qs]; exact hp, x_frP_rf h⟩
set_option maxRecDepth 100000 in
theorem mX1_takeDigit {l : Launch} {G : ux_G} {h : ux_H} {L : List Nat} {p : Nat} (hL : rI L h) (hp : xgi h 188 2 = nI p) (hpl : p ≤ L.length) {lo hi : Nat} (hlo : lo ≤ 9) (hhi : hi ≤ 9) : ux_M l G yX1_takeDigit iX1_takeDigit 2 0 [.ref 188, .int (nI lo), .int (nI hi)] h (fun v h' => v = some (.int (iI (s_tD L p lo hi).1)) ∧ rI L h' ∧ xgi h' 188 2 = nI (s_tD L p lo hi).2 ∧ x_frP h h') (fun _ _ => False) := by
  refine ux_ent (L' := [some (.ref 188), some (.int (nI lo)), some (.int (nI hi)), none]) kX1_takeDigit rfl rfl rfl rfl ?_
  have h70 := hL.2.1
  refine g_aload_n dX1_takeDigit_0 rfl ?_
  refine g_geti fX1_19 dX1_takeDigit_1 rfl rfl ?_
  refine g_top hp ?_
  refine g_aload_n dX1_takeDigit_4 rfl ?_
  refine g_geti fX1_15 dX1_takeDigit_5 rfl rfl ?_
  refine g_top hL.1 ?_
  refine g_icmp_ge (tgt := 28) dX1_takeDigit_8 (by decide) (fun c8 => ?_) (fun c8 => ?_)
  · have q8 : ¬ p < L.length := by have := xlt_i c8 (by omega) (by omega); omega
    refine g_iconst (v := (-1)) dX1_takeDigit_28 (by decide) ?_
    first
    | exact w2_takeDigit hL hp hpl hlo hhi (z := (s_ch L p : Int) - 48) (Or.inr ⟨rfl, q8, ch.2.2⟩)
    | exact w2_takeDigit hL hp hpl hlo hhi (z := -1) (Or.inl ⟨rfl, q8⟩)
  · have q8 : p < L.length := xnl_i c8 (by omega) (by omega)
    have ch := rI_ch hL q8
    refine g_aload_n dX1_takeDigit_11 rfl ?_
    refine g_getr (q := 189) fX1_9 dX1_takeDigit_12 rfl rfl rfl ?_
    refine g_aload_n dX1_takeDigit_15 rfl ?_
    refine g_geti fX1_19 dX1_takeDigit_16 rfl rfl ?_
    refine g_top hp ?_
    refine f1_SN (u' := 0) lX1_78 kX5_signAt (mX5_signAt (k := 189) (j := p) rfl (show p < 70 by omega) (by rw [ch.1]; exact x_nar2 _ (by omega))) dX1_takeDigit_19 rfl rfl rfl rfl rfl rfl ?_
    refine g_top ch.1 ?_
    refine g_bipush (v := 48) dX1_takeDigit_22 (by decide) ?_
    refine g_isub dX1_takeDigit_24 ?_
    refine g_top (y := iI ((s_ch L p : Int) - 48)) (by rw [nI_iI, show (48 : Int32) = iI 48 by decide, iI_sub]) ?_
    refine g_goto (tgt := 29) dX1_takeDigit_25 (by decide) ?_
    first
    | exact w2_takeDigit hL hp hpl hlo hhi (z := (s_ch L p : Int) - 48) (Or.inr ⟨rfl, q8, ch.2.2⟩)
    | exact w2_takeDigit hL hp hpl hlo hhi (z := -1) (Or.inl ⟨rfl, q8⟩)
set_option maxRecDepth 100000 in
theorem mX1_takeNumber {l : Launch} {G : ux_G} {h : ux_H} {L : List Nat} {p : Nat} (hL : rI L h) (hp : xgi h 188 2 = nI p) (hpl : p ≤ L.length) : ux_M l G yX1_takeNumber iX1_takeNumber 3 0 [.ref 188] h (fun v h' => v = some (.int (iI (s_tN L p).1)) ∧ rI L h' ∧ xgi h' 188 2 = nI (s_tN L p).2 ∧ x_frP h h') (fun _ _ => False) := by
  refine ux_ent (L' := [some (.ref 188), none, none]) kX1_takeNumber rfl rfl rfl rfl ?_
  have h70 := hL.2.1
  refine g_aload_n dX1_takeNumber_0 rfl ?_
  refine g_iconst (v := 0) dX1_takeNumber_1 (by decide) ?_
  refine g_bipush (v := 9) dX1_takeNumber_2 (by decide) ?_
  refine q_V (u' := 0) lX1_95 kX1_takeDigit (mX1_takeDigit (lo := 0) (hi := 9) hL hp (by omega) (by decide) (by decide)) dX1_takeNumber_4 rfl rfl rfl rfl rfl rfl rfl rfl (fun v h4 hq => ?_) (fun _ _ q => q.elim)
  obtain ⟨rfl, hL, hp, hF4⟩ := hq
  have r1 := s_tD_r L p 0 9
  have l1 := s_tD_le (lo := 0) (hi := 9) hpl
  dsimp only [Option.toList, List.cons_append, List.nil_append]
  refine s_i (i := 1) dX1_takeNumber_7 rfl rfl rfl rfl ?_
  dsimp only [List.set]
  refine g_iload_n dX1_takeNumber_8 rfl ?_
  refine g_if_gt (tgt := 14) dX1_takeNumber_9 (by decide) (fun c9 => ?_) (fun c9 => ?_)
  · rw [iI_0, iI_lt (by omega) (by omega) (by omega) (by omega)] at c9
    refine g_aload_n dX1_takeNumber_14 rfl ?_
    refine g_iconst (v := 0) dX1_takeNumber_15 (by decide) ?_
    refine g_bipush (v := 9) dX1_takeNumber_16 (by decide) ?_
    refine q_V (u' := 0) lX1_95 kX1_takeDigit (mX1_takeDigit (lo := 0) (hi := 9) hL hp (by omega) (by decide) (by decide)) dX1_takeNumber_18 rfl rfl rfl rfl rfl rfl rfl rfl (fun v h18 hq => ?_) (fun _ _ q => q.elim)
    obtain ⟨rfl, hL, hp, hF18⟩ := hq
    have r2 := s_tD_r L (s_tD L p 0 9).2 0 9
    dsimp only [Option.toList, List.cons_append, List.nil_append]
    refine s_i (i := 2) dX1_takeNumber_21 rfl rfl rfl rfl ?_
    dsimp only [List.set]
    refine g_iload_n dX1_takeNumber_22 rfl ?_
    refine g_iconst (v := (-1)) dX1_takeNumber_23 (by decide) ?_
    refine g_icmp_ne (tgt := 31) dX1_takeNumber_24 (by decide) (fun c24 => ?_) (fun c24 => ?_)
    · rw [xqm (by omega) (by omega)] at c24
      refine g_bipush (v := 10) dX1_takeNumber_31 (by decide) ?_
      refine g_iload_n dX1_takeNumber_33 rfl ?_
      refine g_imul dX1_takeNumber_34 ?_
      refine g_iload_n dX1_takeNumber_35 rfl ?_
      refine g_iadd dX1_takeNumber_36 ?_
      refine g_ireturn dX1_takeNumber_37 rfl rfl (by decide) ?_
      first
      | (have e : s_tN L p = (10 * (s_tD L p 0 9).1 + (s_tD L (s_tD L p 0 9).2 0 9).1, (s_tD L (s_tD L p 0 9).2 0 9).2) := by unfold s_tN; rw [if_neg (by omega), if_neg (by omega)]
         rw [e]
         exact ⟨by rw [show (10 : Int32) = iI 10 by decide, iI_mul, iI_add], hL, hp, x_frP_tr hF4 hF18⟩)
      | (have e : s_tN L p = ((s_tD L p 0 9).1, (s_tD L (s_tD L p 0 9).2 0 9).2) := by unfold s_tN; rw [if_neg (by omega), if_pos (by omega)]
         rw [e]
         exact ⟨rfl, hL, hp, x_frP_tr hF4 hF18⟩)
    · rw [xqm (by omega) (by omega)] at c24
      refine g_iload_n dX1_takeNumber_27 rfl ?_
      refine g_goto (tgt := 37) dX1_takeNumber_28 (by decide) ?_
      refine g_ireturn dX1_takeNumber_37 rfl rfl (by decide) ?_
      first
      | (have e : s_tN L p = (10 * (s_tD L p 0 9).1 + (s_tD L (s_tD L p 0 9).2 0 9).1, (s_tD L (s_tD L p 0 9).2 0 9).2) := by unfold s_tN; rw [if_neg (by omega), if_neg (by omega)]
         rw [e]
         exact ⟨by rw [show (10 : Int32) = iI 10 by decide, iI_mul, iI_add], hL, hp, x_frP_tr hF4 hF18⟩)
      | (have e : s_tN L p = ((s_tD L p 0 9).1, (s_tD L (s_tD L p 0 9).2 0 9).2) := by unfold s_tN; rw [if_neg (by omega), if_pos (by omega)]
         rw [e]
         exact ⟨rfl, hL, hp, x_frP_tr hF4 hF18⟩)
  · rw [iI_0, iI_lt (by omega) (by omega) (by omega) (by omega)] at c9
    refine g_iload_n dX1_takeNumber_12 rfl ?_
    refine g_ireturn dX1_takeNumber_13 rfl rfl (by decide) ?_
    have e : s_tN L p = (s_tD L p 0 9) := by unfold s_tN; rw [if_pos (by omega)]
    rw [e]
    exact ⟨rfl, hL, hp, hF4⟩
