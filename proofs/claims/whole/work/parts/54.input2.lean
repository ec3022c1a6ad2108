/-! THE CLASS: the input is read: lessons, absences. -/
/-- only what the reading sets has changed -/
def x_frE (h h' : ux_H) : Prop := ∀ k j, ¬ (k = 188 ∧ 2 ≤ j ∧ j ≠ 3) → h' k j = h k j
theorem x_frE_rf (h : ux_H) : x_frE h h := fun _ _ _ => rfl
theorem x_frE_tr {h h1 h2 : ux_H} (a : x_frE h h1) (b : x_frE h1 h2) : x_frE h h2 := fun k j hk => (b k j hk).trans (a k j hk)
theorem x_frE_P {h h' : ux_H} (a : x_frP h h') : x_frE h h' := fun k j hk => a k j (by omega)
theorem x_frE_si (h : ux_H) {j : Nat} (x : Int32) (hj : 2 ≤ j ∧ j ≠ 3) : x_frE h (xsi h 188 j x) := fun k i hk => by unfold xsi xsv; rw [if_neg (by omega)]
theorem x_frE_g {h h' : ux_H} (hF : x_frE h h') {k j : Nat} (hk : ¬ (k = 188 ∧ 2 ≤ j ∧ j ≠ 3)) : xgi h' k j = xgi h k j := by unfold xgi; rw [hF k j hk]
theorem rI_frE {L : List Nat} {h h' : ux_H} (hL : rI L h) (hF : x_frE h h') : rI L h' :=
  ⟨(x_frE_g hF (by omega)).trans hL.1, hL.2.1, hL.2.2.1, fun j v q => (x_frE_g hF (by omega)).trans (hL.2.2.2 j v q)⟩
/-- a sign, then a digit -/
def s_mk (L : List Nat) (p c hi : Nat) : Int × Nat := if s_is L p c c = true then s_tD L (p + 1) 0 hi else (-1, p)
theorem s_is_lt {L : List Nat} {p lo hi : Nat} (h : s_is L p lo hi = true) : p < L.length := (of_decide_eq_true h).1
theorem s_mk_le {L : List Nat} {p c hi : Nat} (h : p ≤ L.length) : p ≤ (s_mk L p c hi).2 ∧ (s_mk L p c hi).2 ≤ L.length := by
  unfold s_mk
  split
  · next q =>
    have a := s_tD_le (lo := 0) (hi := hi) (s_is_lt q)
    exact ⟨Nat.le_trans (Nat.le_succ p) a.1, a.2⟩
  · exact ⟨Nat.le_refl _, h⟩
theorem s_mk_r (L : List Nat) (p c hi : Nat) : (s_mk L p c hi).1 = -1 ∨ (0 ≤ (s_mk L p c hi).1 ∧ (s_mk L p c hi).1 ≤ hi) := by
  unfold s_mk
  split
  · exact s_tD_r L (p + 1) 0 hi
  · exact Or.inl rfl
theorem s_tS_1 {L : List Nat} {p c : Nat} (h : s_is L p c c = true) : s_tS L p c = p + 1 := if_pos h
theorem s_tS_0 {L : List Nat} {p c : Nat} (h : ¬ s_is L p c c = true) : s_tS L p c = p := if_neg h
def s_l1 (L : List Nat) (p : Nat) : Int × Nat := s_mk L (s_tN L p).2 99 5
def s_l2 (L : List Nat) (p : Nat) : Int × Nat := s_mk L (s_l1 L p).2 115 5
def s_l3 (L : List Nat) (p : Nat) : Int × Nat := s_mk L (s_l2 L p).2 112 7
def s_l4 (L : List Nat) (p : Nat) : Int × Nat := s_mk L (s_l3 L p).2 114 5
def s_tL (L : List Nat) (p : Nat) : Bool × Nat :=
  if (s_tN L p).1 = -1 then (false, (s_tN L p).2) else if (s_l1 L p).1 = -1 then (false, (s_l1 L p).2) else if (s_l2 L p).1 = -1 then (false, (s_l2 L p).2)
  else if (s_l3 L p).1 = -1 then (false, (s_l3 L p).2) else (decide ((s_l4 L p).1 ≠ -1), (s_l4 L p).2)
def s_tA (L : List Nat) (p : Nat) : Bool × Nat :=
  if (s_tD L p 0 7).1 = -1 then (false, (s_tD L p 0 7).2) else if s_is L (s_tD L p 0 7).2 64 64 = true then (decide ((s_tN L ((s_tD L p 0 7).2 + 1)).1 ≠ -1), (s_tN L ((s_tD L p 0 7).2 + 1)).2) else (false, (s_tD L p 0 7).2)
set_option maxRecDepth 100000 in
theorem mX1_takeLesson {l : Launch} {G : ux_G} {h : ux_H} {L : List Nat} {p : Nat} (hL : rI L h) (hp : xgi h 188 2 = nI p) (hpl : p ≤ L.length) : ux_M l G yX1_takeLesson iX1_takeLesson 4 0 [.ref 188] h (fun v h' => v = some (.int (if (s_tL L p).1 = true then 1 else 0)) ∧ rI L h' ∧ xgi h' 188 2 = nI (s_tL L p).2 ∧ x_frE h h' ∧ ((s_tL L p).1 = true → xgi h' 188 6 = iI (s_tN L p).1 ∧ xgi h' 188 7 = iI (s_l1 L p).1 ∧ xgi h' 188 8 = iI (s_l2 L p).1 ∧ xgi h' 188 9 = iI (s_l3 L p).1 ∧ xgi h' 188 10 = iI (s_l4 L p).1)) (fun _ _ => False) := by
  refine ux_ent (L' := [some (.ref 188)]) kX1_takeLesson rfl rfl rfl rfl ?_
  have h70 := hL.2.1
  have hE := x_frE_rf h
  have t0 := s_tN_le hpl
  have t1 := s_mk_le (c := 99) (hi := 5) t0.2
  have t2 := s_mk_le (c := 115) (hi := 5) t1.2
  have t3 := s_mk_le (c := 112) (hi := 7) t2.2
  have t1 : (s_tN L p).2 ≤ (s_l1 L p).2 ∧ (s_l1 L p).2 ≤ L.length := t1
  have t2 : (s_l1 L p).2 ≤ (s_l2 L p).2 ∧ (s_l2 L p).2 ≤ L.length := t2
  have t3 : (s_l2 L p).2 ≤ (s_l3 L p).2 ∧ (s_l3 L p).2 ≤ L.length := t3
  have u0 := s_tN_r L p
  have u1 : (s_l1 L p).1 = -1 ∨ (0 ≤ (s_l1 L p).1 ∧ (s_l1 L p).1 ≤ (5 : Nat)) := s_mk_r _ _ _ _
  have u2 : (s_l2 L p).1 = -1 ∨ (0 ≤ (s_l2 L p).1 ∧ (s_l2 L p).1 ≤ (5 : Nat)) := s_mk_r _ _ _ _
  have u3 : (s_l3 L p).1 = -1 ∨ (0 ≤ (s_l3 L p).1 ∧ (s_l3 L p).1 ≤ (7 : Nat)) := s_mk_r _ _ _ _
  have u4 : (s_l4 L p).1 = -1 ∨ (0 ≤ (s_l4 L p).1 ∧ (s_l4 L p).1 ≤ (5 : Nat)) := s_mk_r _ _ _ _
  refine g_aload_n dX1_takeLesson_0 rfl ?_
  refine g_aload_n dX1_takeLesson_1 rfl ?_
  refine q_V (u' := 0) lX1_98 kX1_takeNumber (mX1_takeNumber hL hp hpl) dX1_takeLesson_2 rfl rfl rfl rfl rfl rfl rfl rfl (fun v h2 hq => ?_) (fun _ _ q => q.elim)
  obtain ⟨rfl, hL, hp, hF9⟩ := hq
  have hE := x_frE_tr hE (x_frE_P hF9)
  dsimp only [Option.toList, List.cons_append, List.nil_append]
  refine g_puti pX1_32 dX1_takeLesson_5 rfl rfl ?_
  have hL := rI_frE hL (x_frE_si h2 (j := 6) (iI (s_tN L p).1) (by decide))
  have hp := (xgi_ne h2 188 6 (iI (s_tN L p).1) 188 2 (by decide)).trans hp
  have hE := x_frE_tr hE (x_frE_si h2 (j := 6) (iI (s_tN L p).1) (by decide))
  have v6 := xgi_si h2 188 6 (iI (s_tN L p).1)
  refine g_aload_n dX1_takeLesson_8 rfl ?_
  refine g_geti fX1_32 dX1_takeLesson_9 rfl rfl ?_
  refine g_top v6 ?_
  refine g_iconst (v := (-1)) dX1_takeLesson_12 (by decide) ?_
  refine g_icmp_eq (tgt := 25) dX1_takeLesson_13 (by decide) (fun c13 => ?_) (fun c13 => ?_)
  · rw [xqm (by omega) (by omega)] at c13
    refine g_iconst (v := 0) dX1_takeLesson_25 (by decide) ?_
    refine g_ireturn dX1_takeLesson_26 rfl rfl (by decide) ?_
    first
    | (have eL : s_tL L p = (false, (s_tN L p).2) := by unfold s_tL; rw [if_pos (by omega)]
       rw [eL]; exact ⟨rfl, hL, hp, hE, fun y => absurd y Bool.false_ne_true⟩)
    | (have eL : s_tL L p = (false, (s_l1 L p).2) := by unfold s_tL; rw [if_neg (by omega), if_pos (by rw [mk7q])]
       rw [eL, mk7q]; exact ⟨rfl, hL, hp, hE, fun y => absurd y Bool.false_ne_true⟩)
  · rw [xqm (by omega) (by omega)] at c13
    refine g_aload_n dX1_takeLesson_16 rfl ?_
    refine g_bipush (v := 99) dX1_takeLesson_17 (by decide) ?_
    refine q_V (u' := 0) lX1_82 kX1_takeSign (mX1_takeSign (c := 99) hL hp (by omega) (by decide)) dX1_takeLesson_19 rfl rfl rfl rfl rfl rfl rfl rfl (fun v h19 hq => ?_) (fun _ _ q => q.elim)
    obtain ⟨rfl, hL, hp, hF9⟩ := hq
    have hE := x_frE_tr hE (x_frE_P hF9)
    have v6 := (x_frP_g hF9 (by omega)).trans v6
    dsimp only [Option.toList, List.cons_append, List.nil_append]
    refine g_if_ne (tgt := 27) dX1_takeLesson_22 (by decide) (fun c22 => ?_) (fun c22 => ?_)
    · have q22 : s_is L (s_tN L p).2 99 99 = true := xb_n0 c22
      rw [s_tS_1 q22] at hp
      have mk7q : s_l1 L p = s_tD L ((s_tN L p).2 + 1) 0 5 := by unfold s_l1 s_mk; rw [if_pos q22]
      have z7 := s_is_lt q22
      refine g_aload_n dX1_takeLesson_27 rfl ?_
      refine g_aload_n dX1_takeLesson_28 rfl ?_
      refine g_iconst (v := 0) dX1_takeLesson_29 (by decide) ?_
      refine g_iconst (v := 5) dX1_takeLesson_30 (by decide) ?_
      refine q_V (u' := 0) lX1_95 kX1_takeDigit (mX1_takeDigit (lo := 0) (hi := 5) hL hp (by omega) (by decide) (by decide)) dX1_takeLesson_31 rfl rfl rfl rfl rfl rfl rfl rfl (fun v h31 hq => ?_) (fun _ _ q => q.elim)
      obtain ⟨rfl, hL, hp, hF9⟩ := hq
      have hE := x_frE_tr hE (x_frE_P hF9)
      have v6 := (x_frP_g hF9 (by omega)).trans v6
      rw [← mk7q] at hp ⊢
      dsimp only [Option.toList, List.cons_append, List.nil_append]
      refine g_puti pX1_35 dX1_takeLesson_34 rfl rfl ?_
      have hL := rI_frE hL (x_frE_si h31 (j := 7) (iI (s_l1 L p).1) (by decide))
      have hp := (xgi_ne h31 188 7 (iI (s_l1 L p).1) 188 2 (by decide)).trans hp
      have hE := x_frE_tr hE (x_frE_si h31 (j := 7) (iI (s_l1 L p).1) (by decide))
      have v6 := (xgi_ne h31 188 7 (iI (s_l1 L p).1) 188 6 (by decide)).trans v6
      have v7 := xgi_si h31 188 7 (iI (s_l1 L p).1)
      refine g_aload_n dX1_takeLesson_37 rfl ?_
      refine g_geti fX1_35 dX1_takeLesson_38 rfl rfl ?_
      refine g_top v7 ?_
      refine g_iconst (v := (-1)) dX1_takeLesson_41 (by decide) ?_
      refine g_icmp_eq (tgt := 54) dX1_takeLesson_42 (by decide) (fun c42 => ?_) (fun c42 => ?_)
      · rw [xqm (by omega) (by omega)] at c42
        refine g_iconst (v := 0) dX1_takeLesson_54 (by decide) ?_
        refine g_ireturn dX1_takeLesson_55 rfl rfl (by decide) ?_
        first
        | (have eL : s_tL L p = (false, (s_l1 L p).2) := by unfold s_tL; rw [if_neg (by omega), if_pos (by omega)]
           rw [eL]; exact ⟨rfl, hL, hp, hE, fun y => absurd y Bool.false_ne_true⟩)
        | (have eL : s_tL L p = (false, (s_l2 L p).2) := by unfold s_tL; rw [if_neg (by omega), if_neg (by omega), if_pos (by rw [mk8q])]
           rw [eL, mk8q]; exact ⟨rfl, hL, hp, hE, fun y => absurd y Bool.false_ne_true⟩)
      · rw [xqm (by omega) (by omega)] at c42
        refine g_aload_n dX1_takeLesson_45 rfl ?_
        refine g_bipush (v := 115) dX1_takeLesson_46 (by decide) ?_
        refine q_V (u' := 0) lX1_82 kX1_takeSign (mX1_takeSign (c := 115) hL hp (by omega) (by decide)) dX1_takeLesson_48 rfl rfl rfl rfl rfl rfl rfl rfl (fun v h48 hq => ?_) (fun _ _ q => q.elim)
        obtain ⟨rfl, hL, hp, hF9⟩ := hq
        have hE := x_frE_tr hE (x_frE_P hF9)
        have v6 := (x_frP_g hF9 (by omega)).trans v6
        have v7 := (x_frP_g hF9 (by omega)).trans v7
        dsimp only [Option.toList, List.cons_append, List.nil_append]
        refine g_if_ne (tgt := 56) dX1_takeLesson_51 (by decide) (fun c51 => ?_) (fun c51 => ?_)
        · have q51 : s_is L (s_l1 L p).2 115 115 = true := xb_n0 c51
          rw [s_tS_1 q51] at hp
          have mk8q : s_l2 L p = s_tD L ((s_l1 L p).2 + 1) 0 5 := by unfold s_l2 s_mk; rw [if_pos q51]
          have z8 := s_is_lt q51
          refine g_aload_n dX1_takeLesson_56 rfl ?_
          refine g_aload_n dX1_takeLesson_57 rfl ?_
          refine g_iconst (v := 0) dX1_takeLesson_58 (by decide) ?_
          refine g_iconst (v := 5) dX1_takeLesson_59 (by decide) ?_
          refine q_V (u' := 0) lX1_95 kX1_takeDigit (mX1_takeDigit (lo := 0) (hi := 5) hL hp (by omega) (by decide) (by decide)) dX1_takeLesson_60 rfl rfl rfl rfl rfl rfl rfl rfl (fun v h60 hq => ?_) (fun _ _ q => q.elim)
          obtain ⟨rfl, hL, hp, hF9⟩ := hq
          have hE := x_frE_tr hE (x_frE_P hF9)
          have v6 := (x_frP_g hF9 (by omega)).trans v6
          have v7 := (x_frP_g hF9 (by omega)).trans v7
          rw [← mk8q] at hp ⊢
          dsimp only [Option.toList, List.cons_append, List.nil_append]
          refine g_puti pX1_38 dX1_takeLesson_63 rfl rfl ?_
          have hL := rI_frE hL (x_frE_si h60 (j := 8) (iI (s_l2 L p).1) (by decide))
          have hp := (xgi_ne h60 188 8 (iI (s_l2 L p).1) 188 2 (by decide)).trans hp
          have hE := x_frE_tr hE (x_frE_si h60 (j := 8) (iI (s_l2 L p).1) (by decide))
          have v6 := (xgi_ne h60 188 8 (iI (s_l2 L p).1) 188 6 (by decide)).trans v6
          have v7 := (xgi_ne h60 188 8 (iI (s_l2 L p).1) 188 7 (by decide)).trans v7
          have v8 := xgi_si h60 188 8 (iI (s_l2 L p).1)
          refine g_aload_n dX1_takeLesson_66 rfl ?_
          refine g_geti fX1_38 dX1_takeLesson_67 rfl rfl ?_
          refine g_top v8 ?_
          refine g_iconst (v := (-1)) dX1_takeLesson_70 (by decide) ?_
          refine g_icmp_eq (tgt := 83) dX1_takeLesson_71 (by decide) (fun c71 => ?_) (fun c71 => ?_)
          · rw [xqm (by omega) (by omega)] at c71
            refine g_iconst (v := 0) dX1_takeLesson_83 (by decide) ?_
            refine g_ireturn dX1_takeLesson_84 rfl rfl (by decide) ?_
            first
            | (have eL : s_tL L p = (false, (s_l2 L p).2) := by unfold s_tL; rw [if_neg (by omega), if_neg (by omega), if_pos (by omega)]
               rw [eL]; exact ⟨rfl, hL, hp, hE, fun y => absurd y Bool.false_ne_true⟩)
            | (have eL : s_tL L p = (false, (s_l3 L p).2) := by unfold s_tL; rw [if_neg (by omega), if_neg (by omega), if_neg (by omega), if_pos (by rw [mk9q])]
               rw [eL, mk9q]; exact ⟨rfl, hL, hp, hE, fun y => absurd y Bool.false_ne_true⟩)
          · rw [xqm (by omega) (by omega)] at c71
            refine g_aload_n dX1_takeLesson_74 rfl ?_
            refine g_bipush (v := 112) dX1_takeLesson_75 (by decide) ?_
            refine q_V (u' := 0) lX1_82 kX1_takeSign (mX1_takeSign (c := 112) hL hp (by omega) (by decide)) dX1_takeLesson_77 rfl rfl rfl rfl rfl rfl rfl rfl (fun v h77 hq => ?_) (fun _ _ q => q.elim)
            obtain ⟨rfl, hL, hp, hF9⟩ := hq
            have hE := x_frE_tr hE (x_frE_P hF9)
            have v6 := (x_frP_g hF9 (by omega)).trans v6
            have v7 := (x_frP_g hF9 (by omega)).trans v7
            have v8 := (x_frP_g hF9 (by omega)).trans v8
            dsimp only [Option.toList, List.cons_append, List.nil_append]
            refine g_if_ne (tgt := 85) dX1_takeLesson_80 (by decide) (fun c80 => ?_) (fun c80 => ?_)
            · have q80 : s_is L (s_l2 L p).2 112 112 = true := xb_n0 c80
              rw [s_tS_1 q80] at hp
              have mk9q : s_l3 L p = s_tD L ((s_l2 L p).2 + 1) 0 7 := by unfold s_l3 s_mk; rw [if_pos q80]
              have z9 := s_is_lt q80
              refine g_aload_n dX1_takeLesson_85 rfl ?_
              refine g_aload_n dX1_takeLesson_86 rfl ?_
              refine g_iconst (v := 0) dX1_takeLesson_87 (by decide) ?_
              refine g_bipush (v := 7) dX1_takeLesson_88 (by decide) ?_
              refine q_V (u' := 0) lX1_95 kX1_takeDigit (mX1_takeDigit (lo := 0) (hi := 7) hL hp (by omega) (by decide) (by decide)) dX1_takeLesson_90 rfl rfl rfl rfl rfl rfl rfl rfl (fun v h90 hq => ?_) (fun _ _ q => q.elim)
              obtain ⟨rfl, hL, hp, hF9⟩ := hq
              have hE := x_frE_tr hE (x_frE_P hF9)
              have v6 := (x_frP_g hF9 (by omega)).trans v6
              have v7 := (x_frP_g hF9 (by omega)).trans v7
              have v8 := (x_frP_g hF9 (by omega)).trans v8
              rw [← mk9q] at hp ⊢
              dsimp only [Option.toList, List.cons_append, List.nil_append]
              refine g_puti pX1_41 dX1_takeLesson_93 rfl rfl ?_
              have hL := rI_frE hL (x_frE_si h90 (j := 9) (iI (s_l3 L p).1) (by decide))
              have hp := (xgi_ne h90 188 9 (iI (s_l3 L p).1) 188 2 (by decide)).trans hp
              have hE := x_frE_tr hE (x_frE_si h90 (j := 9) (iI (s_l3 L p).1) (by decide))
              have v6 := (xgi_ne h90 188 9 (iI (s_l3 L p).1) 188 6 (by decide)).trans v6
              have v7 := (xgi_ne h90 188 9 (iI (s_l3 L p).1) 188 7 (by decide)).trans v7
              have v8 := (xgi_ne h90 188 9 (iI (s_l3 L p).1) 188 8 (by decide)).trans v8
              have v9 := xgi_si h90 188 9 (iI (s_l3 L p).1)
              refine g_aload_n dX1_takeLesson_96 rfl ?_
              refine g_geti fX1_41 dX1_takeLesson_97 rfl rfl ?_
              refine g_top v9 ?_
              refine g_iconst (v := (-1)) dX1_takeLesson_100 (by decide) ?_
              refine g_icmp_eq (tgt := 113) dX1_takeLesson_101 (by decide) (fun c101 => ?_) (fun c101 => ?_)
              · rw [xqm (by omega) (by omega)] at c101
                refine g_iconst (v := 0) dX1_takeLesson_113 (by decide) ?_
                refine g_ireturn dX1_takeLesson_114 rfl rfl (by decide) ?_
                first
                | (have eL : s_tL L p = (false, (s_l3 L p).2) := by unfold s_tL; rw [if_neg (by omega), if_neg (by omega), if_neg (by omega), if_pos (by omega)]
                   rw [eL]; exact ⟨rfl, hL, hp, hE, fun y => absurd y Bool.false_ne_true⟩)
                | (have eL : s_tL L p = (false, (s_l3 L p).2) := by unfold s_tL; rw [if_neg (by omega), if_neg (by omega), if_neg (by omega), if_neg (by omega), mk10q]; rfl
                   rw [eL]; exact ⟨rfl, hL, hp, hE, fun y => absurd y Bool.false_ne_true⟩)
              · rw [xqm (by omega) (by omega)] at c101
                refine g_aload_n dX1_takeLesson_104 rfl ?_
                refine g_bipush (v := 114) dX1_takeLesson_105 (by decide) ?_
                refine q_V (u' := 0) lX1_82 kX1_takeSign (mX1_takeSign (c := 114) hL hp (by omega) (by decide)) dX1_takeLesson_107 rfl rfl rfl rfl rfl rfl rfl rfl (fun v h107 hq => ?_) (fun _ _ q => q.elim)
                obtain ⟨rfl, hL, hp, hF9⟩ := hq
                have hE := x_frE_tr hE (x_frE_P hF9)
                have v6 := (x_frP_g hF9 (by omega)).trans v6
                have v7 := (x_frP_g hF9 (by omega)).trans v7
                have v8 := (x_frP_g hF9 (by omega)).trans v8
                have v9 := (x_frP_g hF9 (by omega)).trans v9
                dsimp only [Option.toList, List.cons_append, List.nil_append]
                refine g_if_ne (tgt := 115) dX1_takeLesson_110 (by decide) (fun c110 => ?_) (fun c110 => ?_)
                · have q110 : s_is L (s_l3 L p).2 114 114 = true := xb_n0 c110
                  rw [s_tS_1 q110] at hp
                  have mk10q : s_l4 L p = s_tD L ((s_l3 L p).2 + 1) 0 5 := by unfold s_l4 s_mk; rw [if_pos q110]
                  have z10 := s_is_lt q110
                  refine g_aload_n dX1_takeLesson_115 rfl ?_
                  refine g_aload_n dX1_takeLesson_116 rfl ?_
                  refine g_iconst (v := 0) dX1_takeLesson_117 (by decide) ?_
                  refine g_iconst (v := 5) dX1_takeLesson_118 (by decide) ?_
                  refine q_V (u' := 0) lX1_95 kX1_takeDigit (mX1_takeDigit (lo := 0) (hi := 5) hL hp (by omega) (by decide) (by decide)) dX1_takeLesson_119 rfl rfl rfl rfl rfl rfl rfl rfl (fun v h119 hq => ?_) (fun _ _ q => q.elim)
                  obtain ⟨rfl, hL, hp, hF9⟩ := hq
                  have hE := x_frE_tr hE (x_frE_P hF9)
                  have v6 := (x_frP_g hF9 (by omega)).trans v6
                  have v7 := (x_frP_g hF9 (by omega)).trans v7
                  have v8 := (x_frP_g hF9 (by omega)).trans v8
                  have v9 := (x_frP_g hF9 (by omega)).trans v9
                  rw [← mk10q] at hp ⊢
                  dsimp only [Option.toList, List.cons_append, List.nil_append]
                  refine g_puti pX1_44 dX1_takeLesson_122 rfl rfl ?_
                  have hL := rI_frE hL (x_frE_si h119 (j := 10) (iI (s_l4 L p).1) (by decide))
                  have hp := (xgi_ne h119 188 10 (iI (s_l4 L p).1) 188 2 (by decide)).trans hp
                  have hE := x_frE_tr hE (x_frE_si h119 (j := 10) (iI (s_l4 L p).1) (by decide))
                  have v6 := (xgi_ne h119 188 10 (iI (s_l4 L p).1) 188 6 (by decide)).trans v6
                  have v7 := (xgi_ne h119 188 10 (iI (s_l4 L p).1) 188 7 (by decide)).trans v7
                  have v8 := (xgi_ne h119 188 10 (iI (s_l4 L p).1) 188 8 (by decide)).trans v8
                  have v9 := (xgi_ne h119 188 10 (iI (s_l4 L p).1) 188 9 (by decide)).trans v9
                  have v10 := xgi_si h119 188 10 (iI (s_l4 L p).1)
                  refine g_aload_n dX1_takeLesson_125 rfl ?_
                  refine g_geti fX1_44 dX1_takeLesson_126 rfl rfl ?_
                  refine g_top v10 ?_
                  refine g_iconst (v := (-1)) dX1_takeLesson_129 (by decide) ?_
                  refine g_icmp_eq (tgt := 137) dX1_takeLesson_130 (by decide) (fun c130 => ?_) (fun c130 => ?_)
                  · rw [xqm (by omega) (by omega)] at c130
                    refine g_iconst (v := 0) dX1_takeLesson_137 (by decide) ?_
                    refine g_ireturn dX1_takeLesson_138 rfl rfl (by decide) ?_
                    have eL : s_tL L p = (decide ((s_l4 L p).1 ≠ -1), (s_l4 L p).2) := by unfold s_tL; rw [if_neg (by omega), if_neg (by omega), if_neg (by omega), if_neg (by omega)]
                    first
                    | (have ed : decide ((s_l4 L p).1 ≠ -1) = false := by simp [c130]
                       rw [eL, ed]; exact ⟨rfl, hL, hp, hE, fun y => absurd y Bool.false_ne_true⟩)
                    | (have ed : decide ((s_l4 L p).1 ≠ -1) = true := by simp [c130]
                       rw [eL, ed]; exact ⟨rfl, hL, hp, hE, fun _ => ⟨v6, v7, v8, v9, v10⟩⟩)
                  · rw [xqm (by omega) (by omega)] at c130
                    refine g_iconst (v := 1) dX1_takeLesson_133 (by decide) ?_
                    refine g_goto (tgt := 138) dX1_takeLesson_134 (by decide) ?_
                    refine g_ireturn dX1_takeLesson_138 rfl rfl (by decide) ?_
                    have eL : s_tL L p = (decide ((s_l4 L p).1 ≠ -1), (s_l4 L p).2) := by unfold s_tL; rw [if_neg (by omega), if_neg (by omega), if_neg (by omega), if_neg (by omega)]
                    first
                    | (have ed : decide ((s_l4 L p).1 ≠ -1) = false := by simp [c130]
                       rw [eL, ed]; exact ⟨rfl, hL, hp, hE, fun y => absurd y Bool.false_ne_true⟩)
                    | (have ed : decide ((s_l4 L p).1 ≠ -1) = true := by simp [c130]
                       rw [eL, ed]; exact ⟨rfl, hL, hp, hE, fun _ => ⟨v6, v7, v8, v9, v10⟩⟩)
                · have q110 : ¬ s_is L (s_l3 L p).2 114 114 = true := xb_0.mp c110
                  rw [s_tS_0 q110] at hp
                  have mk10q : s_l4 L p = (-1, (s_l3 L p).2) := by unfold s_l4 s_mk; rw [if_neg q110]
                  refine g_iconst (v := 0) dX1_takeLesson_113 (by decide) ?_
                  refine g_ireturn dX1_takeLesson_114 rfl rfl (by decide) ?_
                  first
                  | (have eL : s_tL L p = (false, (s_l3 L p).2) := by unfold s_tL; rw [if_neg (by omega), if_neg (by omega), if_neg (by omega), if_pos (by omega)]
                     rw [eL]; exact ⟨rfl, hL, hp, hE, fun y => absurd y Bool.false_ne_true⟩)
                  | (have eL : s_tL L p = (false, (s_l3 L p).2) := by unfold s_tL; rw [if_neg (by omega), if_neg (by omega), if_neg (by omega), if_neg (by omega), mk10q]; rfl
                     rw [eL]; exact ⟨rfl, hL, hp, hE, fun y => absurd y Bool.false_ne_true⟩)
            · have q80 : ¬ s_is L (s_l2 L p).2 112 112 = true := xb_0.mp c80
              rw [s_tS_0 q80] at hp
              have mk9q : s_l3 L p = (-1, (s_l2 L p).2) := by unfold s_l3 s_mk; rw [if_neg q80]
              refine g_iconst (v := 0) dX1_takeLesson_83 (by decide) ?_
              refine g_ireturn dX1_takeLesson_84 rfl rfl (by decide) ?_
              first
              | (have eL : s_tL L p = (false, (s_l2 L p).2) := by unfold s_tL; rw [if_neg (by omega), if_neg (by omega), if_pos (by omega)]
                 rw [eL]; exact ⟨rfl, hL, hp, hE, fun y => absurd y Bool.false_ne_true⟩)
              | (have eL : s_tL L p = (false, (s_l3 L p).2) := by unfold s_tL; rw [if_neg (by omega), if_neg (by omega), if_neg (by omega), if_pos (by rw [mk9q])]
                 rw [eL, mk9q]; exact ⟨rfl, hL, hp, hE, fun y => absurd y Bool.false_ne_true⟩)
        · have q51 : ¬ s_is L (s_l1 L p).2 115 115 = true := xb_0.mp c51
          rw [s_tS_0 q51] at hp
          have mk8q : s_l2 L p = (-1, (s_l1 L p).2) := by unfold s_l2 s_mk; rw [if_neg q51]
          refine g_iconst (v := 0) dX1_takeLesson_54 (by decide) ?_
          refine g_ireturn dX1_takeLesson_55 rfl rfl (by decide) ?_
          first
          | (have eL : s_tL L p = (false, (s_l1 L p).2) := by unfold s_tL; rw [if_neg (by omega), if_pos (by omega)]
             rw [eL]; exact ⟨rfl, hL, hp, hE, fun y => absurd y Bool.false_ne_true⟩)
          | (have eL : s_tL L p = (false, (s_l2 L p).2) := by unfold s_tL; rw [if_neg (by omega), if_neg (by omega), if_pos (by rw [mk8q])]
             rw [eL, mk8q]; exact ⟨rfl, hL, hp, hE, fun y => absurd y Bool.false_ne_true⟩)
    · have q22 : ¬ s_is L (s_tN L p).2 99 99 = true := xb_0.mp c22
      rw [s_tS_0 q22] at hp
      have mk7q : s_l1 L p = (-1, (s_tN L p).2) := by unfold s_l1 s_mk; rw [if_neg q22]
      refine g_iconst (v := 0) dX1_takeLesson_25 (by decide) ?_
      refine g_ireturn dX1_takeLesson_26 rfl rfl (by decide) ?_
      first
      | (have eL : s_tL L p = (false, (s_tN L p).2) := by unfold s_tL; rw [if_pos (by omega)]
         rw [eL]; exact ⟨rfl, hL, hp, hE, fun y => absurd y Bool.false_ne_true⟩)
      | (have eL : s_tL L p = (false, (s_l1 L p).2) := by unfold s_tL; rw [if_neg (by omega), if_pos (by rw [mk7q])]
         rw [eL, mk7q]; exact ⟨rfl, hL, hp, hE, fun y => absurd y Bool.false_ne_true⟩)
set_option maxRecDepth 100000 in
theorem mX1_takeAbsence {l : Launch} {G : ux_G} {h : ux_H} {L : List Nat} {p : Nat} (hL : rI L h) (hp : xgi h 188 2 = nI p) (hpl : p ≤ L.length) : ux_M l G yX1_takeAbsence iX1_takeAbsence 4 0 [.ref 188] h (fun v h' => v = some (.int (if (s_tA L p).1 = true then 1 else 0)) ∧ rI L h' ∧ xgi h' 188 2 = nI (s_tA L p).2 ∧ x_frE h h' ∧ ((s_tA L p).1 = true → xgi h' 188 9 = iI (s_tD L p 0 7).1 ∧ xgi h' 188 6 = iI (s_tN L ((s_tD L p 0 7).2 + 1)).1)) (fun _ _ => False) := by
  refine ux_ent (L' := [some (.ref 188)]) kX1_takeAbsence rfl rfl rfl rfl ?_
  have h70 := hL.2.1
  have hE := x_frE_rf h
  have t0 := s_tD_le (lo := 0) (hi := 7) hpl
  have u0 := s_tD_r L p 0 7
  refine g_aload_n dX1_takeAbsence_0 rfl ?_
  refine g_aload_n dX1_takeAbsence_1 rfl ?_
  refine g_iconst (v := 0) dX1_takeAbsence_2 (by decide) ?_
  refine g_bipush (v := 7) dX1_takeAbsence_3 (by decide) ?_
  refine q_V (u' := 0) lX1_95 kX1_takeDigit (mX1_takeDigit (lo := 0) (hi := 7) hL hp (by omega) (by decide) (by decide)) dX1_takeAbsence_5 rfl rfl rfl rfl rfl rfl rfl rfl (fun v h5 hq => ?_) (fun _ _ q => q.elim)
  obtain ⟨rfl, hL, hp, hF9⟩ := hq
  have hE := x_frE_tr hE (x_frE_P hF9)
  dsimp only [Option.toList, List.cons_append, List.nil_append]
  refine g_puti pX1_41 dX1_takeAbsence_8 rfl rfl ?_
  have hL := rI_frE hL (x_frE_si h5 (j := 9) (iI (s_tD L p 0 7).1) (by decide))
  have hp := (xgi_ne h5 188 9 (iI (s_tD L p 0 7).1) 188 2 (by decide)).trans hp
  have hE := x_frE_tr hE (x_frE_si h5 (j := 9) (iI (s_tD L p 0 7).1) (by decide))
  have v9 := xgi_si h5 188 9 (iI (s_tD L p 0 7).1)
  refine g_aload_n dX1_takeAbsence_11 rfl ?_
  refine g_geti fX1_41 dX1_takeAbsence_12 rfl rfl ?_
  refine g_top v9 ?_
  refine g_iconst (v := (-1)) dX1_takeAbsence_15 (by decide) ?_
  refine g_icmp_eq (tgt := 28) dX1_takeAbsence_16 (by decide) (fun c16 => ?_) (fun c16 => ?_)
  · rw [xqm (by omega) (by omega)] at c16
    refine g_iconst (v := 0) dX1_takeAbsence_28 (by decide) ?_
    refine g_ireturn dX1_takeAbsence_29 rfl rfl (by decide) ?_
    first
    | (have eL : s_tA L p = (false, (s_tD L p 0 7).2) := by unfold s_tA; rw [if_pos (by omega)]
       rw [eL]; exact ⟨rfl, hL, hp, hE, fun y => absurd y Bool.false_ne_true⟩)
    | (have eL : s_tA L p = (false, (s_tD L p 0 7).2) := by unfold s_tA; rw [if_neg (by omega), if_neg qx25q]
       rw [eL]; exact ⟨rfl, hL, hp, hE, fun y => absurd y Bool.false_ne_true⟩)
  · rw [xqm (by omega) (by omega)] at c16
    refine g_aload_n dX1_takeAbsence_19 rfl ?_
    refine g_bipush (v := 64) dX1_takeAbsence_20 (by decide) ?_
    refine q_V (u' := 0) lX1_82 kX1_takeSign (mX1_takeSign (c := 64) hL hp (by omega) (by decide)) dX1_takeAbsence_22 rfl rfl rfl rfl rfl rfl rfl rfl (fun v h22 hq => ?_) (fun _ _ q => q.elim)
    obtain ⟨rfl, hL, hp, hF9⟩ := hq
    have hE := x_frE_tr hE (x_frE_P hF9)
    have v9 := (x_frP_g hF9 (by omega)).trans v9
    dsimp only [Option.toList, List.cons_append, List.nil_append]
    refine g_if_ne (tgt := 30) dX1_takeAbsence_25 (by decide) (fun c25 => ?_) (fun c25 => ?_)
    · have qx25q : s_is L (s_tD L p 0 7).2 64 64 = true := xb_n0 c25
      rw [s_tS_1 qx25q] at hp
      have z25 := s_is_lt qx25q
      refine g_aload_n dX1_takeAbsence_30 rfl ?_
      refine g_aload_n dX1_takeAbsence_31 rfl ?_
      refine q_V (u' := 0) lX1_98 kX1_takeNumber (mX1_takeNumber hL hp (by omega)) dX1_takeAbsence_32 rfl rfl rfl rfl rfl rfl rfl rfl (fun v h32 hq => ?_) (fun _ _ q => q.elim)
      obtain ⟨rfl, hL, hp, hF9⟩ := hq
      have hE := x_frE_tr hE (x_frE_P hF9)
      have v9 := (x_frP_g hF9 (by omega)).trans v9
      dsimp only [Option.toList, List.cons_append, List.nil_append]
      refine g_puti pX1_32 dX1_takeAbsence_35 rfl rfl ?_
      have hL := rI_frE hL (x_frE_si h32 (j := 6) (iI (s_tN L ((s_tD L p 0 7).2 + 1)).1) (by decide))
      have hp := (xgi_ne h32 188 6 (iI (s_tN L ((s_tD L p 0 7).2 + 1)).1) 188 2 (by decide)).trans hp
      have hE := x_frE_tr hE (x_frE_si h32 (j := 6) (iI (s_tN L ((s_tD L p 0 7).2 + 1)).1) (by decide))
      have v9 := (xgi_ne h32 188 6 (iI (s_tN L ((s_tD L p 0 7).2 + 1)).1) 188 9 (by decide)).trans v9
      have v6 := xgi_si h32 188 6 (iI (s_tN L ((s_tD L p 0 7).2 + 1)).1)
      refine g_aload_n dX1_takeAbsence_38 rfl ?_
      refine g_geti fX1_32 dX1_takeAbsence_39 rfl rfl ?_
      refine g_top v6 ?_
      refine g_iconst (v := (-1)) dX1_takeAbsence_42 (by decide) ?_
      refine g_icmp_eq (tgt := 50) dX1_takeAbsence_43 (by decide) (fun c43 => ?_) (fun c43 => ?_)
      · have u2 := s_tN_r L ((s_tD L p 0 7).2 + 1)
        rw [xqm (by omega) (by omega)] at c43
        refine g_iconst (v := 0) dX1_takeAbsence_50 (by decide) ?_
        refine g_ireturn dX1_takeAbsence_51 rfl rfl (by decide) ?_
        have eL : s_tA L p = (decide ((s_tN L ((s_tD L p 0 7).2 + 1)).1 ≠ -1), (s_tN L ((s_tD L p 0 7).2 + 1)).2) := by unfold s_tA; rw [if_neg (by omega), if_pos qx25q]
        first
        | (have ed : decide ((s_tN L ((s_tD L p 0 7).2 + 1)).1 ≠ -1) = false := by simp [c43]
           rw [eL, ed]; exact ⟨rfl, hL, hp, hE, fun y => absurd y Bool.false_ne_true⟩)
        | (have ed : decide ((s_tN L ((s_tD L p 0 7).2 + 1)).1 ≠ -1) = true := by simp [c43]
           rw [eL, ed]; exact ⟨rfl, hL, hp, hE, fun _ => ⟨v9, v6⟩⟩)
      · have u2 := s_tN_r L ((s_tD L p 0 7).2 + 1)
        rw [xqm (by omega) (by omega)] at c43
        refine g_iconst (v := 1) dX1_takeAbsence_46 (by decide) ?_
        refine g_goto (tgt := 51) dX1_takeAbsence_47 (by decide) ?_
        refine g_ireturn dX1_takeAbsence_51 rfl rfl (by decide) ?_
        have eL : s_tA L p = (decide ((s_tN L ((s_tD L p 0 7).2 + 1)).1 ≠ -1), (s_tN L ((s_tD L p 0 7).2 + 1)).2) := by unfold s_tA; rw [if_neg (by omega), if_pos qx25q]
        first
        | (have ed : decide ((s_tN L ((s_tD L p 0 7).2 + 1)).1 ≠ -1) = false := by simp [c43]
           rw [eL, ed]; exact ⟨rfl, hL, hp, hE, fun y => absurd y Bool.false_ne_true⟩)
        | (have ed : decide ((s_tN L ((s_tD L p 0 7).2 + 1)).1 ≠ -1) = true := by simp [c43]
           rw [eL, ed]; exact ⟨rfl, hL, hp, hE, fun _ => ⟨v9, v6⟩⟩)
    · have qx25q : ¬ s_is L (s_tD L p 0 7).2 64 64 = true := xb_0.mp c25
      rw [s_tS_0 qx25q] at hp
      refine g_iconst (v := 0) dX1_takeAbsence_28 (by decide) ?_
      refine g_ireturn dX1_takeAbsence_29 rfl rfl (by decide) ?_
      first
      | (have eL : s_tA L p = (false, (s_tD L p 0 7).2) := by unfold s_tA; rw [if_pos (by omega)]
         rw [eL]; exact ⟨rfl, hL, hp, hE, fun y => absurd y Bool.false_ne_true⟩)
      | (have eL : s_tA L p = (false, (s_tD L p 0 7).2) := by unfold s_tA; rw [if_neg (by omega), if_neg qx25q]
         rw [eL]; exact ⟨rfl, hL, hp, hE, fun y => absurd y Bool.false_ne_true⟩)
