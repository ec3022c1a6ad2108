/-! THE CLASS: the input is read: entries, the first error. -/
theorem x_fitc : ∀ c, c < 128 → fits .char (.int (nI c)) = true := by decide +kernel
def s_cl (L : List Nat) (x : Bool × Nat) : Bool × Nat := if x.1 = true then (s_is L x.2 59 59, s_tS L x.2 59) else x
def s_tE (L : List Nat) (p : Nat) : Bool × Nat :=
  if s_is L p 116 116 = true then s_cl L (s_tT L (p + 1)) else if s_is L p 108 108 = true then s_cl L (s_tL L (p + 1)) else if s_is L p 97 97 = true then s_cl L (s_tA L (p + 1)) else (false, p)
theorem s_cl_n {L : List Nat} {x : Bool × Nat} (h : ¬ x.1 = true) : s_cl L x = x := if_neg h
theorem s_cl_f {L : List Nat} {x : Bool × Nat} (h : x.1 = true) (q : ¬ s_is L x.2 59 59 = true) : s_cl L x = (false, x.2) := by
  unfold s_cl
  rw [if_pos h, s_tS_0 q, show s_is L x.2 59 59 = false from Bool.eq_false_iff.mpr q]
theorem s_cl_t {L : List Nat} {x : Bool × Nat} (h : x.1 = true) (q : s_is L x.2 59 59 = true) : s_cl L x = (true, x.2 + 1) := by
  unfold s_cl
  rw [if_pos h, s_tS_1 q, q]
/-- what an entry that was read has set -/
def rE (L : List Nat) (p : Nat) (h : ux_H) : Prop :=
  xgi h 188 3 = nI (s_ch L p) ∧
  (s_ch L p = 116 → xgi h 188 4 = nI (s_tTa L (p + 1)).1 ∧ xgi h 188 5 = iI (s_tTv L (p + 1)).1) ∧
  (s_ch L p = 108 → xgi h 188 6 = iI (s_tN L (p + 1)).1 ∧ xgi h 188 7 = iI (s_l1 L (p + 1)).1 ∧ xgi h 188 8 = iI (s_l2 L (p + 1)).1 ∧ xgi h 188 9 = iI (s_l3 L (p + 1)).1 ∧ xgi h 188 10 = iI (s_l4 L (p + 1)).1) ∧
  (s_ch L p = 97 → xgi h 188 9 = iI (s_tD L (p + 1) 0 7).1 ∧ xgi h 188 6 = iI (s_tN L ((s_tD L (p + 1) 0 7).2 + 1)).1)
def x_frN (h h' : ux_H) : Prop := ∀ k j, ¬ (k = 188 ∧ 2 ≤ j) → h' k j = h k j
theorem x_frN_tr {h h1 h2 : ux_H} (a : x_frN h h1) (b : x_frN h1 h2) : x_frN h h2 := fun k j hk => (b k j hk).trans (a k j hk)
theorem x_frN_rf (h : ux_H) : x_frN h h := fun _ _ _ => rfl
theorem x_frN_E {h h' : ux_H} (a : x_frE h h') : x_frN h h' := fun k j hk => a k j (by omega)
theorem x_frN_P {h h' : ux_H} (a : x_frP h h') : x_frN h h' := fun k j hk => a k j (by omega)
theorem x_frN_si (h : ux_H) {j : Nat} (x : Int32) (hj : 2 ≤ j) : x_frN h (xsi h 188 j x) := fun k i hk => by unfold xsi xsv; rw [if_neg (by omega)]
theorem x_frN_g {h h' : ux_H} (hF : x_frN h h') {k j : Nat} (hk : ¬ (k = 188 ∧ 2 ≤ j)) : xgi h' k j = xgi h k j := by unfold xgi; rw [hF k j hk]
theorem rI_frN {L : List Nat} {h h' : ux_H} (hL : rI L h) (hF : x_frN h h') : rI L h' :=
  ⟨(x_frN_g hF (by omega)).trans hL.1, hL.2.1, hL.2.2.1, fun j v q => (x_frN_g hF (by omega)).trans (hL.2.2.2 j v q)⟩
theorem s_ch_of {L : List Nat} {p c : Nat} (h : s_is L p c c = true) : s_ch L p = c := by
  have := (of_decide_eq_true h).2
  omega
theorem s_tT_le {L : List Nat} {p : Nat} (hp : p ≤ L.length) : p ≤ (s_tT L p).2 ∧ (s_tT L p).2 ≤ L.length := by
  have l9 := s_tD_le (lo := 0) (hi := 5) hp
  have r9 := s_tD_r L p 0 5
  obtain ⟨t1, t2, t3⟩ := s_tT1_le (L := L) 6 (d := (s_tD L p 0 5).1) (su := 0) l9.2 (by
    rcases r9 with r9 | r9
    · exact Or.inl r9
    · exact Or.inr ⟨by omega, by omega, Nat.pow_pos (by decide)⟩) (by decide)
  have t1 : (s_tD L p 0 5).2 ≤ (s_tTa L p).2 := t1
  have t2 : (s_tTa L p).2 ≤ L.length := t2
  unfold s_tT
  split
  · exact ⟨Nat.le_trans l9.1 t1, t2⟩
  · split
    · next q =>
      have a := s_tD_le (L := L) (p := (s_tTa L p).2 + 1) (lo := 1) (hi := 4) (s_is_lt q)
      exact ⟨by show p ≤ (s_tD L ((s_tTa L p).2 + 1) 1 4).2; omega, a.2⟩
    · exact ⟨Nat.le_trans l9.1 t1, t2⟩
theorem s_tL_le {L : List Nat} {p : Nat} (hpl : p ≤ L.length) : p ≤ (s_tL L p).2 ∧ (s_tL L p).2 ≤ L.length := by
  have t0 := s_tN_le hpl
  have t1 : (s_tN L p).2 ≤ (s_l1 L p).2 ∧ (s_l1 L p).2 ≤ L.length := s_mk_le (c := 99) (hi := 5) t0.2
  have t2 : (s_l1 L p).2 ≤ (s_l2 L p).2 ∧ (s_l2 L p).2 ≤ L.length := s_mk_le (c := 115) (hi := 5) t1.2
  have t3 : (s_l2 L p).2 ≤ (s_l3 L p).2 ∧ (s_l3 L p).2 ≤ L.length := s_mk_le (c := 112) (hi := 7) t2.2
  have t4 : (s_l3 L p).2 ≤ (s_l4 L p).2 ∧ (s_l4 L p).2 ≤ L.length := s_mk_le (c := 114) (hi := 5) t3.2
  unfold s_tL
  repeat' split
  all_goals (constructor <;> dsimp only <;> omega)
theorem s_tA_le {L : List Nat} {p : Nat} (hpl : p ≤ L.length) : p ≤ (s_tA L p).2 ∧ (s_tA L p).2 ≤ L.length := by
  have t0 := s_tD_le (lo := 0) (hi := 7) hpl
  unfold s_tA
  split
  · exact t0
  · split
    · next q =>
      have a := s_tN_le (L := L) (p := (s_tD L p 0 7).2 + 1) (s_is_lt q)
      constructor <;> dsimp only <;> omega
    · exact t0
theorem s_cl_le {L : List Nat} {x : Bool × Nat} (h : x.2 ≤ L.length) : x.2 ≤ (s_cl L x).2 ∧ (s_cl L x).2 ≤ L.length := by
  unfold s_cl
  split
  · exact s_tS_le h
  · exact ⟨Nat.le_refl _, h⟩
theorem s_tE_le {L : List Nat} {p : Nat} (hp : p ≤ L.length) : p ≤ (s_tE L p).2 ∧ (s_tE L p).2 ≤ L.length ∧ ((s_tE L p).1 = true → p < (s_tE L p).2) := by
  unfold s_tE
  split
  · next q =>
    have z := s_is_lt q
    have a := s_tT_le (L := L) (p := p + 1) z
    have b := s_cl_le (x := s_tT L (p + 1)) a.2
    exact ⟨by omega, b.2, fun _ => by omega⟩
  · split
    · next q =>
      have z := s_is_lt q
      have a := s_tL_le (L := L) (p := p + 1) z
      have b := s_cl_le (x := s_tL L (p + 1)) a.2
      exact ⟨by omega, b.2, fun _ => by omega⟩
    · split
      · next q =>
        have z := s_is_lt q
        have a := s_tA_le (L := L) (p := p + 1) z
        have b := s_cl_le (x := s_tA L (p + 1)) a.2
        exact ⟨by omega, b.2, fun _ => by omega⟩
      · exact ⟨Nat.le_refl _, hp, fun y => absurd y Bool.false_ne_true⟩
set_option maxRecDepth 100000 in
theorem mX1_takeEntry {l : Launch} {G : ux_G} {h : ux_H} {L : List Nat} {p : Nat} (hL : rI L h) (hp : xgi h 188 2 = nI p) (hpl : p < L.length) : ux_M l G yX1_takeEntry iX1_takeEntry 5 0 [.ref 188] h (fun v h' => v = some (.int (if (s_tE L p).1 = true then 1 else 0)) ∧ rI L h' ∧ xgi h' 188 2 = nI (s_tE L p).2 ∧ x_frN h h' ∧ ((s_tE L p).1 = true → rE L p h')) (fun _ _ => False) := by
  refine ux_ent (L' := [some (.ref 188)]) kX1_takeEntry rfl rfl rfl rfl ?_
  have h70 := hL.2.1
  have ch := rI_ch hL hpl
  refine g_aload_n dX1_takeEntry_0 rfl ?_
  refine g_aload_n dX1_takeEntry_1 rfl ?_
  refine g_getr (q := 189) fX1_9 dX1_takeEntry_2 rfl rfl rfl ?_
  refine g_aload_n dX1_takeEntry_5 rfl ?_
  refine g_geti fX1_19 dX1_takeEntry_6 rfl rfl ?_
  refine g_top hp ?_
  refine f1_SN (u' := 0) lX1_78 kX5_signAt (mX5_signAt (k := 189) (j := p) rfl (show p < 70 by omega) (by rw [ch.1]; exact x_nar2 _ (by omega))) dX1_takeEntry_9 rfl rfl rfl rfl rfl rfl ?_
  refine g_top ch.1 ?_
  refine g_put pX1_22 dX1_takeEntry_12 rfl rfl (x_nar2 (s_ch L p) (by omega)) (x_fitc (s_ch L p) (by omega)) ?_
  have hL := rI_frN hL (x_frN_si h (j := 3) (nI (s_ch L p)) (by decide))
  have hp := (xgi_ne h 188 3 (nI (s_ch L p)) 188 2 (by decide)).trans hp
  have hE := x_frN_si h (j := 3) (nI (s_ch L p)) (by decide)
  have v3 := xgi_si h 188 3 (nI (s_ch L p))
  refine g_aload_n dX1_takeEntry_15 rfl ?_
  refine g_bipush (v := 116) dX1_takeEntry_16 (by decide) ?_
  refine q_V (u' := 0) lX1_82 kX1_takeSign (mX1_takeSign (c := 116) hL hp (by omega) (by decide)) dX1_takeEntry_18 rfl rfl rfl rfl rfl rfl rfl rfl (fun v h18 hq => ?_) (fun _ _ q => q.elim)
  obtain ⟨rfl, hL, hp, hF9⟩ := hq
  have v3 := (x_frP_g hF9 (by omega)).trans v3
  have hE := x_frN_tr hE (x_frN_P hF9)
  dsimp only [Option.toList, List.cons_append, List.nil_append]
  refine g_if_eq (tgt := 46) dX1_takeEntry_21 (by decide) (fun c21 => ?_) (fun c21 => ?_)
  · have qx21q : ¬ s_is L p 116 116 = true := xb_0.mp c21
    rw [s_tS_0 qx21q] at hp
    refine g_aload_n dX1_takeEntry_46 rfl ?_
    refine g_bipush (v := 108) dX1_takeEntry_47 (by decide) ?_
    refine q_V (u' := 0) lX1_82 kX1_takeSign (mX1_takeSign (c := 108) hL hp (by omega) (by decide)) dX1_takeEntry_49 rfl rfl rfl rfl rfl rfl rfl rfl (fun v h49 hq => ?_) (fun _ _ q => q.elim)
    obtain ⟨rfl, hL, hp, hF9⟩ := hq
    have v3 := (x_frP_g hF9 (by omega)).trans v3
    have hE := x_frN_tr hE (x_frN_P hF9)
    dsimp only [Option.toList, List.cons_append, List.nil_append]
    refine g_if_eq (tgt := 77) dX1_takeEntry_52 (by decide) (fun c52 => ?_) (fun c52 => ?_)
    · have qx52q : ¬ s_is L p 108 108 = true := xb_0.mp c52
      rw [s_tS_0 qx52q] at hp
      refine g_aload_n dX1_takeEntry_77 rfl ?_
      refine g_bipush (v := 97) dX1_takeEntry_78 (by decide) ?_
      refine q_V (u' := 0) lX1_82 kX1_takeSign (mX1_takeSign (c := 97) hL hp (by omega) (by decide)) dX1_takeEntry_80 rfl rfl rfl rfl rfl rfl rfl rfl (fun v h80 hq => ?_) (fun _ _ q => q.elim)
      obtain ⟨rfl, hL, hp, hF9⟩ := hq
      have v3 := (x_frP_g hF9 (by omega)).trans v3
      have hE := x_frN_tr hE (x_frN_P hF9)
      dsimp only [Option.toList, List.cons_append, List.nil_append]
      refine g_if_eq (tgt := 106) dX1_takeEntry_83 (by decide) (fun c83 => ?_) (fun c83 => ?_)
      · have qx83q : ¬ s_is L p 97 97 = true := xb_0.mp c83
        rw [s_tS_0 qx83q] at hp
        refine g_iconst (v := 0) dX1_takeEntry_106 (by decide) ?_
        refine g_ireturn dX1_takeEntry_107 rfl rfl (by decide) ?_
        first
        | (rw [eE, s_cl_n qx90q]; exact ⟨by rw [if_neg qx90q], hL, hp, hE, fun y => absurd y qx90q⟩)
        | (rw [eE, s_cl_f q90 qx99q]; exact ⟨rfl, hL, hp, hE, fun y => absurd y Bool.false_ne_true⟩)
        | (rw [eE, s_cl_t q90 q99]; exact ⟨rfl, hL, hp, hE, fun _ => ⟨v3, fun y => absurd y (by omega), fun y => absurd y (by omega), fun _ => ⟨v9, v6⟩⟩⟩)
        | (have eE : s_tE L p = (false, p) := by unfold s_tE; rw [if_neg qx21q, if_neg qx52q, if_neg qx83q]
           rw [eE]; exact ⟨rfl, hL, hp, hE, fun y => absurd y Bool.false_ne_true⟩)
      · have q83 : s_is L p 97 97 = true := xb_n0 c83
        rw [s_tS_1 q83] at hp
        have eE : s_tE L p = s_cl L (s_tA L (p + 1)) := by unfold s_tE; rw [if_neg qx21q, if_neg qx52q, if_pos q83]
        have cE := s_ch_of q83
        have yl := s_tA_le (L := L) (p := p + 1) (by omega)
        refine g_aload_n dX1_takeEntry_86 rfl ?_
        refine q_V (u' := 0) lX1_92 kX1_takeAbsence (mX1_takeAbsence hL hp (by omega)) dX1_takeEntry_87 rfl rfl rfl rfl rfl rfl rfl rfl (fun v h87 hq => ?_) (fun _ _ q => q.elim)
        obtain ⟨rfl, hL, hp, hF8, hV⟩ := hq
        have v3 := (x_frE_g hF8 (by omega)).trans v3
        have hE := x_frN_tr hE (x_frN_E hF8)
        dsimp only [Option.toList, List.cons_append, List.nil_append]
        refine g_if_eq (tgt := 106) dX1_takeEntry_90 (by decide) (fun c90 => ?_) (fun c90 => ?_)
        · have qx90q : ¬ (s_tA L (p + 1)).1 = true := xb_0.mp c90
          refine g_iconst (v := 0) dX1_takeEntry_106 (by decide) ?_
          refine g_ireturn dX1_takeEntry_107 rfl rfl (by decide) ?_
          first
          | (rw [eE, s_cl_n qx90q]; exact ⟨by rw [if_neg qx90q], hL, hp, hE, fun y => absurd y qx90q⟩)
          | (rw [eE, s_cl_f q90 qx99q]; exact ⟨rfl, hL, hp, hE, fun y => absurd y Bool.false_ne_true⟩)
          | (rw [eE, s_cl_t q90 q99]; exact ⟨rfl, hL, hp, hE, fun _ => ⟨v3, fun y => absurd y (by omega), fun y => absurd y (by omega), fun _ => ⟨v9, v6⟩⟩⟩)
          | (have eE : s_tE L p = (false, p) := by unfold s_tE; rw [if_neg qx21q, if_neg qx52q, if_neg qx83q]
             rw [eE]; exact ⟨rfl, hL, hp, hE, fun y => absurd y Bool.false_ne_true⟩)
        · have q90 : (s_tA L (p + 1)).1 = true := xb_n0 c90
          obtain ⟨v9, v6⟩ := hV q90
          refine g_aload_n dX1_takeEntry_93 rfl ?_
          refine g_bipush (v := 59) dX1_takeEntry_94 (by decide) ?_
          refine q_V (u' := 0) lX1_82 kX1_takeSign (mX1_takeSign (c := 59) hL hp (by omega) (by decide)) dX1_takeEntry_96 rfl rfl rfl rfl rfl rfl rfl rfl (fun v h96 hq => ?_) (fun _ _ q => q.elim)
          obtain ⟨rfl, hL, hp, hF9⟩ := hq
          have v3 := (x_frP_g hF9 (by omega)).trans v3
          have hE := x_frN_tr hE (x_frN_P hF9)
          have v9 := (x_frP_g hF9 (by omega)).trans v9
          have v6 := (x_frP_g hF9 (by omega)).trans v6
          dsimp only [Option.toList, List.cons_append, List.nil_append]
          refine g_if_eq (tgt := 106) dX1_takeEntry_99 (by decide) (fun c99 => ?_) (fun c99 => ?_)
          · have qx99q : ¬ s_is L (s_tA L (p + 1)).2 59 59 = true := xb_0.mp c99
            rw [s_tS_0 qx99q] at hp
            refine g_iconst (v := 0) dX1_takeEntry_106 (by decide) ?_
            refine g_ireturn dX1_takeEntry_107 rfl rfl (by decide) ?_
            first
            | (rw [eE, s_cl_n qx90q]; exact ⟨by rw [if_neg qx90q], hL, hp, hE, fun y => absurd y qx90q⟩)
            | (rw [eE, s_cl_f q90 qx99q]; exact ⟨rfl, hL, hp, hE, fun y => absurd y Bool.false_ne_true⟩)
            | (rw [eE, s_cl_t q90 q99]; exact ⟨rfl, hL, hp, hE, fun _ => ⟨v3, fun y => absurd y (by omega), fun y => absurd y (by omega), fun _ => ⟨v9, v6⟩⟩⟩)
            | (have eE : s_tE L p = (false, p) := by unfold s_tE; rw [if_neg qx21q, if_neg qx52q, if_neg qx83q]
               rw [eE]; exact ⟨rfl, hL, hp, hE, fun y => absurd y Bool.false_ne_true⟩)
          · have q99 : s_is L (s_tA L (p + 1)).2 59 59 = true := xb_n0 c99
            rw [s_tS_1 q99] at hp
            refine g_iconst (v := 1) dX1_takeEntry_102 (by decide) ?_
            refine g_goto (tgt := 107) dX1_takeEntry_103 (by decide) ?_
            refine g_ireturn dX1_takeEntry_107 rfl rfl (by decide) ?_
            first
            | (rw [eE, s_cl_n qx90q]; exact ⟨by rw [if_neg qx90q], hL, hp, hE, fun y => absurd y qx90q⟩)
            | (rw [eE, s_cl_f q90 qx99q]; exact ⟨rfl, hL, hp, hE, fun y => absurd y Bool.false_ne_true⟩)
            | (rw [eE, s_cl_t q90 q99]; exact ⟨rfl, hL, hp, hE, fun _ => ⟨v3, fun y => absurd y (by omega), fun y => absurd y (by omega), fun _ => ⟨v9, v6⟩⟩⟩)
            | (have eE : s_tE L p = (false, p) := by unfold s_tE; rw [if_neg qx21q, if_neg qx52q, if_neg qx83q]
               rw [eE]; exact ⟨rfl, hL, hp, hE, fun y => absurd y Bool.false_ne_true⟩)
    · have q52 : s_is L p 108 108 = true := xb_n0 c52
      rw [s_tS_1 q52] at hp
      have eE : s_tE L p = s_cl L (s_tL L (p + 1)) := by unfold s_tE; rw [if_neg qx21q, if_pos q52]
      have cE := s_ch_of q52
      have yl := s_tL_le (L := L) (p := p + 1) (by omega)
      refine g_aload_n dX1_takeEntry_55 rfl ?_
      refine q_V (u' := 0) lX1_89 kX1_takeLesson (mX1_takeLesson hL hp (by omega)) dX1_takeEntry_56 rfl rfl rfl rfl rfl rfl rfl rfl (fun v h56 hq => ?_) (fun _ _ q => q.elim)
      obtain ⟨rfl, hL, hp, hF8, hV⟩ := hq
      have v3 := (x_frE_g hF8 (by omega)).trans v3
      have hE := x_frN_tr hE (x_frN_E hF8)
      dsimp only [Option.toList, List.cons_append, List.nil_append]
      refine g_if_eq (tgt := 75) dX1_takeEntry_59 (by decide) (fun c59 => ?_) (fun c59 => ?_)
      · have qx59q : ¬ (s_tL L (p + 1)).1 = true := xb_0.mp c59
        refine g_iconst (v := 0) dX1_takeEntry_75 (by decide) ?_
        refine g_ireturn dX1_takeEntry_76 rfl rfl (by decide) ?_
        first
        | (rw [eE, s_cl_n qx59q]; exact ⟨by rw [if_neg qx59q], hL, hp, hE, fun y => absurd y qx59q⟩)
        | (rw [eE, s_cl_f q59 qx68q]; exact ⟨rfl, hL, hp, hE, fun y => absurd y Bool.false_ne_true⟩)
        | (rw [eE, s_cl_t q59 q68]; exact ⟨rfl, hL, hp, hE, fun _ => ⟨v3, fun y => absurd y (by omega), fun _ => ⟨v6, v7, v8, v9, v10⟩, fun y => absurd y (by omega)⟩⟩)
      · have q59 : (s_tL L (p + 1)).1 = true := xb_n0 c59
        obtain ⟨v6, v7, v8, v9, v10⟩ := hV q59
        refine g_aload_n dX1_takeEntry_62 rfl ?_
        refine g_bipush (v := 59) dX1_takeEntry_63 (by decide) ?_
        refine q_V (u' := 0) lX1_82 kX1_takeSign (mX1_takeSign (c := 59) hL hp (by omega) (by decide)) dX1_takeEntry_65 rfl rfl rfl rfl rfl rfl rfl rfl (fun v h65 hq => ?_) (fun _ _ q => q.elim)
        obtain ⟨rfl, hL, hp, hF9⟩ := hq
        have v3 := (x_frP_g hF9 (by omega)).trans v3
        have hE := x_frN_tr hE (x_frN_P hF9)
        have v6 := (x_frP_g hF9 (by omega)).trans v6
        have v7 := (x_frP_g hF9 (by omega)).trans v7
        have v8 := (x_frP_g hF9 (by omega)).trans v8
        have v9 := (x_frP_g hF9 (by omega)).trans v9
        have v10 := (x_frP_g hF9 (by omega)).trans v10
        dsimp only [Option.toList, List.cons_append, List.nil_append]
        refine g_if_eq (tgt := 75) dX1_takeEntry_68 (by decide) (fun c68 => ?_) (fun c68 => ?_)
        · have qx68q : ¬ s_is L (s_tL L (p + 1)).2 59 59 = true := xb_0.mp c68
          rw [s_tS_0 qx68q] at hp
          refine g_iconst (v := 0) dX1_takeEntry_75 (by decide) ?_
          refine g_ireturn dX1_takeEntry_76 rfl rfl (by decide) ?_
          first
          | (rw [eE, s_cl_n qx59q]; exact ⟨by rw [if_neg qx59q], hL, hp, hE, fun y => absurd y qx59q⟩)
          | (rw [eE, s_cl_f q59 qx68q]; exact ⟨rfl, hL, hp, hE, fun y => absurd y Bool.false_ne_true⟩)
          | (rw [eE, s_cl_t q59 q68]; exact ⟨rfl, hL, hp, hE, fun _ => ⟨v3, fun y => absurd y (by omega), fun _ => ⟨v6, v7, v8, v9, v10⟩, fun y => absurd y (by omega)⟩⟩)
        · have q68 : s_is L (s_tL L (p + 1)).2 59 59 = true := xb_n0 c68
          rw [s_tS_1 q68] at hp
          refine g_iconst (v := 1) dX1_takeEntry_71 (by decide) ?_
          refine g_goto (tgt := 76) dX1_takeEntry_72 (by decide) ?_
          refine g_ireturn dX1_takeEntry_76 rfl rfl (by decide) ?_
          first
          | (rw [eE, s_cl_n qx59q]; exact ⟨by rw [if_neg qx59q], hL, hp, hE, fun y => absurd y qx59q⟩)
          | (rw [eE, s_cl_f q59 qx68q]; exact ⟨rfl, hL, hp, hE, fun y => absurd y Bool.false_ne_true⟩)
          | (rw [eE, s_cl_t q59 q68]; exact ⟨rfl, hL, hp, hE, fun _ => ⟨v3, fun y => absurd y (by omega), fun _ => ⟨v6, v7, v8, v9, v10⟩, fun y => absurd y (by omega)⟩⟩)
  · have q21 : s_is L p 116 116 = true := xb_n0 c21
    rw [s_tS_1 q21] at hp
    have eE : s_tE L p = s_cl L (s_tT L (p + 1)) := by unfold s_tE; rw [if_pos q21]
    have cE := s_ch_of q21
    have yl := s_tT_le (L := L) (p := p + 1) (by omega)
    refine g_aload_n dX1_takeEntry_24 rfl ?_
    refine q_V (u' := 0) lX1_86 kX1_takeTeacher (mX1_takeTeacher hL hp (by omega)) dX1_takeEntry_25 rfl rfl rfl rfl rfl rfl rfl rfl (fun v h25 hq => ?_) (fun _ _ q => q.elim)
    obtain ⟨rfl, hL, hp, hF8, hV⟩ := hq
    have v3 := (x_frE_g hF8 (by omega)).trans v3
    have hE := x_frN_tr hE (x_frN_E hF8)
    dsimp only [Option.toList, List.cons_append, List.nil_append]
    refine g_if_eq (tgt := 44) dX1_takeEntry_28 (by decide) (fun c28 => ?_) (fun c28 => ?_)
    · have qx28q : ¬ (s_tT L (p + 1)).1 = true := xb_0.mp c28
      refine g_iconst (v := 0) dX1_takeEntry_44 (by decide) ?_
      refine g_ireturn dX1_takeEntry_45 rfl rfl (by decide) ?_
      first
      | (rw [eE, s_cl_n qx28q]; exact ⟨by rw [if_neg qx28q], hL, hp, hE, fun y => absurd y qx28q⟩)
      | (rw [eE, s_cl_f q28 qx37q]; exact ⟨rfl, hL, hp, hE, fun y => absurd y Bool.false_ne_true⟩)
      | (rw [eE, s_cl_t q28 q37]; exact ⟨rfl, hL, hp, hE, fun _ => ⟨v3, fun _ => ⟨v4, v5⟩, fun y => absurd y (by omega), fun y => absurd y (by omega)⟩⟩)
    · have q28 : (s_tT L (p + 1)).1 = true := xb_n0 c28
      obtain ⟨v4, v5⟩ := hV q28
      refine g_aload_n dX1_takeEntry_31 rfl ?_
      refine g_bipush (v := 59) dX1_takeEntry_32 (by decide) ?_
      refine q_V (u' := 0) lX1_82 kX1_takeSign (mX1_takeSign (c := 59) hL hp (by omega) (by decide)) dX1_takeEntry_34 rfl rfl rfl rfl rfl rfl rfl rfl (fun v h34 hq => ?_) (fun _ _ q => q.elim)
      obtain ⟨rfl, hL, hp, hF9⟩ := hq
      have v3 := (x_frP_g hF9 (by omega)).trans v3
      have hE := x_frN_tr hE (x_frN_P hF9)
      have v4 := (x_frP_g hF9 (by omega)).trans v4
      have v5 := (x_frP_g hF9 (by omega)).trans v5
      dsimp only [Option.toList, List.cons_append, List.nil_append]
      refine g_if_eq (tgt := 44) dX1_takeEntry_37 (by decide) (fun c37 => ?_) (fun c37 => ?_)
      · have qx37q : ¬ s_is L (s_tT L (p + 1)).2 59 59 = true := xb_0.mp c37
        rw [s_tS_0 qx37q] at hp
        refine g_iconst (v := 0) dX1_takeEntry_44 (by decide) ?_
        refine g_ireturn dX1_takeEntry_45 rfl rfl (by decide) ?_
        first
        | (rw [eE, s_cl_n qx28q]; exact ⟨by rw [if_neg qx28q], hL, hp, hE, fun y => absurd y qx28q⟩)
        | (rw [eE, s_cl_f q28 qx37q]; exact ⟨rfl, hL, hp, hE, fun y => absurd y Bool.false_ne_true⟩)
        | (rw [eE, s_cl_t q28 q37]; exact ⟨rfl, hL, hp, hE, fun _ => ⟨v3, fun _ => ⟨v4, v5⟩, fun y => absurd y (by omega), fun y => absurd y (by omega)⟩⟩)
      · have q37 : s_is L (s_tT L (p + 1)).2 59 59 = true := xb_n0 c37
        rw [s_tS_1 q37] at hp
        refine g_iconst (v := 1) dX1_takeEntry_40 (by decide) ?_
        refine g_goto (tgt := 45) dX1_takeEntry_41 (by decide) ?_
        refine g_ireturn dX1_takeEntry_45 rfl rfl (by decide) ?_
        first
        | (rw [eE, s_cl_n qx28q]; exact ⟨by rw [if_neg qx28q], hL, hp, hE, fun y => absurd y qx28q⟩)
        | (rw [eE, s_cl_f q28 qx37q]; exact ⟨rfl, hL, hp, hE, fun y => absurd y Bool.false_ne_true⟩)
        | (rw [eE, s_cl_t q28 q37]; exact ⟨rfl, hL, hp, hE, fun _ => ⟨v3, fun _ => ⟨v4, v5⟩, fun y => absurd y (by omega), fun y => absurd y (by omega)⟩⟩)
