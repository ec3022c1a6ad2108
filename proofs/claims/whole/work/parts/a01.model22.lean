/-! THE REFERENCE: an entry is read. -/
theorem tE_t {L : List Nat} {p : Nat} (h : s_is L p 116 116 = true) : s_tE L p = s_cl L (s_tT L (p + 1)) := if_pos h
theorem tE_t0 {L : List Nat} {p : Nat} (h : s_is L p 116 116 = true) (h0 : (s_tTa L (p + 1)).1 = 0) : s_tE L p = (false, (s_tTa L (p + 1)).2) := by
  rw [tE_t h, show s_tT L (p + 1) = (false, (s_tTa L (p + 1)).2) from if_pos h0, s_cl_n (show ¬ (false = true) by decide)]
theorem tE_t1 {L : List Nat} {p p1 su : Nat} (h : s_is L p 116 116 = true) (h0 : s_tTa L (p + 1) = (su, p1)) (hs : su ≠ 0) (h1 : ¬ s_is L p1 42 42 = true) : s_tE L p = (false, p1) := by
  have e : s_tT L (p + 1) = (false, p1) := by
    unfold s_tT; rw [h0]; dsimp only; rw [if_neg hs, if_neg h1]
  rw [tE_t h, e, s_cl_n (show ¬ (false = true) by decide)]
theorem tT_2 {L : List Nat} {p p1 su : Nat} (h0 : s_tTa L (p + 1) = (su, p1)) (hs : su ≠ 0) (h1 : s_is L p1 42 42 = true) : s_tT L (p + 1) = (decide ((s_tD L (p1 + 1) 1 4).1 ≠ -1), (s_tD L (p1 + 1) 1 4).2) := by
  unfold s_tT s_tTv; rw [h0]; dsimp only; rw [if_neg hs, if_pos h1]
theorem tE_t2 {L : List Nat} {p p1 su : Nat} (h : s_is L p 116 116 = true) (h0 : s_tTa L (p + 1) = (su, p1)) (hs : su ≠ 0) (h1 : s_is L p1 42 42 = true) (h2 : ¬ s_is L (p1 + 1) 49 52 = true) : s_tE L p = (false, p1 + 1) := by
  rw [tE_t h, tT_2 h0 hs h1, tD_f h2, s_cl_n (show ¬ (decide ((-1 : Int) ≠ -1)) = true by decide)]; rfl
theorem tT_3 {L : List Nat} {p p1 su : Nat} (h0 : s_tTa L (p + 1) = (su, p1)) (hs : su ≠ 0) (h1 : s_is L p1 42 42 = true) (h2 : s_is L (p1 + 1) 49 52 = true) : s_tT L (p + 1) = (true, p1 + 2) := by
  rw [tT_2 h0 hs h1, tD_t h2]
  have := is_of h2
  rw [decide_eq_true (by show (s_ch L (p1 + 1) : Int) - 48 ≠ -1; omega)]
theorem tE_t3 {L : List Nat} {p p1 su : Nat} (h : s_is L p 116 116 = true) (h0 : s_tTa L (p + 1) = (su, p1)) (hs : su ≠ 0) (h1 : s_is L p1 42 42 = true) (h2 : s_is L (p1 + 1) 49 52 = true) (h3 : ¬ s_is L (p1 + 2) 59 59 = true) : s_tE L p = (false, p1 + 2) := by
  rw [tE_t h, tT_3 h0 hs h1 h2, s_cl_f rfl h3]
theorem tE_t4 {L : List Nat} {p p1 su : Nat} (h : s_is L p 116 116 = true) (h0 : s_tTa L (p + 1) = (su, p1)) (hs : su ≠ 0) (h1 : s_is L p1 42 42 = true) (h2 : s_is L (p1 + 1) 49 52 = true) (h3 : s_is L (p1 + 2) 59 59 = true) : s_tE L p = (true, p1 + 3) := by
  rw [tE_t h, tT_3 h0 hs h1 h2, s_cl_t rfl h3]
theorem tE_l {L : List Nat} {p : Nat} (h1 : ¬ s_is L p 116 116 = true) (h : s_is L p 108 108 = true) : s_tE L p = s_cl L (s_tL L (p + 1)) := (if_neg h1).trans (if_pos h)
theorem tE_a {L : List Nat} {p : Nat} (h1 : ¬ s_is L p 116 116 = true) (h2 : ¬ s_is L p 108 108 = true) (h : s_is L p 97 97 = true) : s_tE L p = s_cl L (s_tA L (p + 1)) := (if_neg h1).trans ((if_neg h2).trans (if_pos h))
theorem tE_n {L : List Nat} {p : Nat} (h1 : ¬ s_is L p 116 116 = true) (h2 : ¬ s_is L p 108 108 = true) (h : ¬ s_is L p 97 97 = true) : s_tE L p = (false, p) := (if_neg h1).trans ((if_neg h2).trans (if_neg h))
set_option maxRecDepth 100000 in
theorem wX6_isEntry {l : Launch} {G : ux_G} {h0 : ux_H} {L : List Nat} {p0 : Nat} (hq : s_is L p0 116 116 = true) : ∀ (n : Nat) (m d su p : Nat) (h : ux_H), rIm L h → xgi h 192 11 = nI p → p ≤ L.length → d ≤ 5 → 6 ≤ m + d → su < 2 ^ d → s_tTa L (p0 + 1) = s_tT1 L m (d : Int) su p → x_fa h0 h → m < n → ux_W l G iX6_isEntry (ux_rm 5 0) (ux_Z G 0 (fun v h' => v = some (.int (if (s_tE L p0).1 = true then 1 else 0)) ∧ xgi h' 192 11 = nI ((s_tE L p0).2) ∧ x_fa h0 h') (fun _ _ => False)) 38 [some (.ref 192), some (.int (nI (49 + d)))] [] (h) 0 := by
  intro n
  induction n with
  | zero => intro m d su p h hL hp hpl hd hm hsu hT hF hn; exact absurd hn (Nat.not_lt_zero _)
  | succ n ih =>
    intro m d su p h hL hp hpl hd hm hsu hT hF hn
    have h70 := hL.2.1
    have z2 := x_p2 d (by omega)
    have e1 : s_tT1 L m (d : Int) su p = s_tT1 L (m - 1) (s_tD L p (d + 1) 5).1 (su + 2 ^ d) (s_tD L p (d + 1) 5).2 := by
      obtain ⟨m1, rfl⟩ : ∃ m1, m = m1 + 1 := ⟨m - 1, by omega⟩
      rw [s_tT1_s (by omega), Int.toNat_natCast, Nat.add_sub_cancel]
    refine g_aload_n dX6_isEntry_38 rfl ?_
    refine g_iload_n dX6_isEntry_39 rfl ?_
    refine g_bipush (v := 53) dX6_isEntry_40 (by decide) ?_
    refine q_V (u' := 0) lX6_234 kX6_takes (mX6_takes (lo := (49 + d)) (hi := 53) (p := p) hL hp (by omega) (by omega) (by omega)) dX6_isEntry_42 rfl rfl rfl rfl rfl rfl rfl rfl (fun v h42 hq => ?_) (fun _ _ q => q.elim)
    obtain ⟨rfl, hpA, hFA⟩ := hq
    dsimp only [Option.toList, List.cons_append, List.nil_append]
    refine g_if_eq (tgt := 65) dX6_isEntry_45 (by decide) (fun c45 => ?_) (fun c45 => ?_)
    · have qA := xb_0.mp c45
      rw [if_neg qA] at hpA
      have hT2 : s_tTa L (p0 + 1) = ((su + 2 ^ d), p) := by rw [hT, e1, tD_f (by rw [show 48 + (d + 1) = 49 + d by omega]; exact qA), s_tT1_0 rfl]
      have hsz : (su + 2 ^ d) ≠ 0 := by omega
      refine g_aload_n dX6_isEntry_65 rfl ?_
      refine g_bipush (v := 42) dX6_isEntry_66 (by decide) ?_
      refine g_bipush (v := 42) dX6_isEntry_68 (by decide) ?_
      refine q_V (u' := 0) lX6_234 kX6_takes (mX6_takes (lo := 42) (hi := 42) (p := p) (rIm_fa hL hFA) hpA (by omega) (by omega) (by omega)) dX6_isEntry_70 rfl rfl rfl rfl rfl rfl rfl rfl (fun v h70 hq => ?_) (fun _ _ q => q.elim)
      obtain ⟨rfl, hpB, hFB⟩ := hq
      dsimp only [Option.toList, List.cons_append, List.nil_append]
      refine g_if_eq (tgt := 102) dX6_isEntry_73 (by decide) (fun c73 => ?_) (fun c73 => ?_)
      · have qB := xb_0.mp c73
        rw [if_neg qB] at hpB
        refine g_iconst (v := 0) dX6_isEntry_102 (by decide) ?_
        refine g_ireturn dX6_isEntry_103 rfl rfl (by decide) ?_
        first
        | (have e9 : s_tE L p0 = (true, p + 3) := tE_t4 hq hT2 hsz qB qC qD; exact ⟨by rw [e9]; first | done | rfl, by rw [e9]; exact hpD, x_fa_tr hF (x_fa_tr hFA (x_fa_tr hFB (x_fa_tr hFC hFD)))⟩)
        | (have e9 : s_tE L p0 = (false, p + 2) := tE_t3 hq hT2 hsz qB qC qD; exact ⟨by rw [e9]; first | done | rfl, by rw [e9]; exact hpD, x_fa_tr hF (x_fa_tr hFA (x_fa_tr hFB (x_fa_tr hFC hFD)))⟩)
        | (have e9 : s_tE L p0 = (false, p + 1) := tE_t2 hq hT2 hsz qB qC; exact ⟨by rw [e9]; first | done | rfl, by rw [e9]; exact hpC, x_fa_tr hF (x_fa_tr hFA (x_fa_tr hFB hFC))⟩)
        | (have e9 : s_tE L p0 = (false, p) := tE_t1 hq hT2 hsz qB; exact ⟨by rw [e9]; first | done | rfl, by rw [e9]; exact hpB, x_fa_tr hF (x_fa_tr hFA hFB)⟩)
      · have qB := xb_n0 c73
        rw [if_pos qB] at hpB
        have iB := is_of qB
        refine g_aload_n dX6_isEntry_76 rfl ?_
        refine g_bipush (v := 49) dX6_isEntry_77 (by decide) ?_
        refine g_bipush (v := 52) dX6_isEntry_79 (by decide) ?_
        refine q_V (u' := 0) lX6_234 kX6_takes (mX6_takes (lo := 49) (hi := 52) (p := (p + 1)) (rIm_fa (rIm_fa hL hFA) hFB) hpB iB.1 (by omega) (by omega)) dX6_isEntry_81 rfl rfl rfl rfl rfl rfl rfl rfl (fun v h81 hq => ?_) (fun _ _ q => q.elim)
        obtain ⟨rfl, hpC, hFC⟩ := hq
        dsimp only [Option.toList, List.cons_append, List.nil_append]
        refine g_if_eq (tgt := 102) dX6_isEntry_84 (by decide) (fun c84 => ?_) (fun c84 => ?_)
        · have qC := xb_0.mp c84
          rw [if_neg qC] at hpC
          refine g_iconst (v := 0) dX6_isEntry_102 (by decide) ?_
          refine g_ireturn dX6_isEntry_103 rfl rfl (by decide) ?_
          first
          | (have e9 : s_tE L p0 = (true, p + 3) := tE_t4 hq hT2 hsz qB qC qD; exact ⟨by rw [e9]; first | done | rfl, by rw [e9]; exact hpD, x_fa_tr hF (x_fa_tr hFA (x_fa_tr hFB (x_fa_tr hFC hFD)))⟩)
          | (have e9 : s_tE L p0 = (false, p + 2) := tE_t3 hq hT2 hsz qB qC qD; exact ⟨by rw [e9]; first | done | rfl, by rw [e9]; exact hpD, x_fa_tr hF (x_fa_tr hFA (x_fa_tr hFB (x_fa_tr hFC hFD)))⟩)
          | (have e9 : s_tE L p0 = (false, p + 1) := tE_t2 hq hT2 hsz qB qC; exact ⟨by rw [e9]; first | done | rfl, by rw [e9]; exact hpC, x_fa_tr hF (x_fa_tr hFA (x_fa_tr hFB hFC))⟩)
          | (have e9 : s_tE L p0 = (false, p) := tE_t1 hq hT2 hsz qB; exact ⟨by rw [e9]; first | done | rfl, by rw [e9]; exact hpB, x_fa_tr hF (x_fa_tr hFA hFB)⟩)
        · have qC := xb_n0 c84
          rw [if_pos qC] at hpC
          have iC := is_of qC
          refine g_aload_n dX6_isEntry_87 rfl ?_
          refine g_bipush (v := 59) dX6_isEntry_88 (by decide) ?_
          refine g_bipush (v := 59) dX6_isEntry_90 (by decide) ?_
          refine q_V (u' := 0) lX6_234 kX6_takes (mX6_takes (lo := 59) (hi := 59) (p := (p + 2)) (rIm_fa (rIm_fa (rIm_fa hL hFA) hFB) hFC) hpC iC.1 (by omega) (by omega)) dX6_isEntry_92 rfl rfl rfl rfl rfl rfl rfl rfl (fun v h92 hq => ?_) (fun _ _ q => q.elim)
          obtain ⟨rfl, hpD, hFD⟩ := hq
          dsimp only [Option.toList, List.cons_append, List.nil_append]
          refine g_if_eq (tgt := 102) dX6_isEntry_95 (by decide) (fun c95 => ?_) (fun c95 => ?_)
          · have qD := xb_0.mp c95
            rw [if_neg qD] at hpD
            refine g_iconst (v := 0) dX6_isEntry_102 (by decide) ?_
            refine g_ireturn dX6_isEntry_103 rfl rfl (by decide) ?_
            first
            | (have e9 : s_tE L p0 = (true, p + 3) := tE_t4 hq hT2 hsz qB qC qD; exact ⟨by rw [e9]; first | done | rfl, by rw [e9]; exact hpD, x_fa_tr hF (x_fa_tr hFA (x_fa_tr hFB (x_fa_tr hFC hFD)))⟩)
            | (have e9 : s_tE L p0 = (false, p + 2) := tE_t3 hq hT2 hsz qB qC qD; exact ⟨by rw [e9]; first | done | rfl, by rw [e9]; exact hpD, x_fa_tr hF (x_fa_tr hFA (x_fa_tr hFB (x_fa_tr hFC hFD)))⟩)
            | (have e9 : s_tE L p0 = (false, p + 1) := tE_t2 hq hT2 hsz qB qC; exact ⟨by rw [e9]; first | done | rfl, by rw [e9]; exact hpC, x_fa_tr hF (x_fa_tr hFA (x_fa_tr hFB hFC))⟩)
            | (have e9 : s_tE L p0 = (false, p) := tE_t1 hq hT2 hsz qB; exact ⟨by rw [e9]; first | done | rfl, by rw [e9]; exact hpB, x_fa_tr hF (x_fa_tr hFA hFB)⟩)
          · have qD := xb_n0 c95
            rw [if_pos qD] at hpD
            refine g_iconst (v := 1) dX6_isEntry_98 (by decide) ?_
            refine g_goto (tgt := 103) dX6_isEntry_99 (by decide) ?_
            refine g_ireturn dX6_isEntry_103 rfl rfl (by decide) ?_
            first
            | (have e9 : s_tE L p0 = (true, p + 3) := tE_t4 hq hT2 hsz qB qC qD; exact ⟨by rw [e9]; first | done | rfl, by rw [e9]; exact hpD, x_fa_tr hF (x_fa_tr hFA (x_fa_tr hFB (x_fa_tr hFC hFD)))⟩)
            | (have e9 : s_tE L p0 = (false, p + 2) := tE_t3 hq hT2 hsz qB qC qD; exact ⟨by rw [e9]; first | done | rfl, by rw [e9]; exact hpD, x_fa_tr hF (x_fa_tr hFA (x_fa_tr hFB (x_fa_tr hFC hFD)))⟩)
            | (have e9 : s_tE L p0 = (false, p + 1) := tE_t2 hq hT2 hsz qB qC; exact ⟨by rw [e9]; first | done | rfl, by rw [e9]; exact hpC, x_fa_tr hF (x_fa_tr hFA (x_fa_tr hFB hFC))⟩)
            | (have e9 : s_tE L p0 = (false, p) := tE_t1 hq hT2 hsz qB; exact ⟨by rw [e9]; first | done | rfl, by rw [e9]; exact hpB, x_fa_tr hF (x_fa_tr hFA hFB)⟩)
    · have qA := xb_n0 c45
      rw [if_pos qA] at hpA
      have iA := is_of qA
      obtain ⟨r1, r2, r3⟩ := rIm_ch hL iA.1
      refine g_aload_n dX6_isEntry_48 rfl ?_
      refine g_getr (q := 197) fX6_22 dX6_isEntry_49 rfl rfl rfl ?_
      refine g_aload_n dX6_isEntry_52 rfl ?_
      refine g_geti fX6_231 dX6_isEntry_53 rfl rfl ?_
      refine g_top hpA ?_
      refine g_iconst (v := 1) dX6_isEntry_56 (by decide) ?_
      refine g_isub dX6_isEntry_57 ?_
      refine g_top (y := nI p) (pk_sub (a := p + 1) (b := 1) (by omega)) ?_
      refine g_iald dX6_isEntry_58 rfl (show p < 70 by omega) rfl ?_
      refine g_top (y := nI (s_ch L p)) ((x_fa_g hFA (by omega)).trans r1) ?_
      refine g_iconst (v := 1) dX6_isEntry_59 (by decide) ?_
      refine g_iadd dX6_isEntry_60 ?_
      refine g_top (y := nI (49 + (s_ch L p - 48))) (by rw [show (49 + (s_ch L p - 48)) = s_ch L p + 1 by omega]; exact nI_1 _) ?_
      refine s_i (i := 1) dX6_isEntry_61 rfl rfl rfl rfl ?_
      dsimp only [List.set]
      refine g_goto (tgt := 38) dX6_isEntry_62 (by decide) ?_
      have z := x_p2s d (s_ch L p - 48) (by omega) (by omega) (by omega)
      exact ih (m - 1) (s_ch L p - 48) (su + 2 ^ d) (p + 1) _ (rIm_fa hL hFA) hpA (by omega) (by omega) (by omega) (by omega) (by rw [hT, e1, tD_t (by rw [show 48 + (d + 1) = 49 + d by omega]; exact qA), show (s_ch L p : Int) - 48 = ((s_ch L p - 48 : Nat) : Int) by omega]) (x_fa_tr hF hFA) (by omega)
theorem cl_f {L : List Nat} {x : Bool × Nat} {q : Nat} (h : x = (false, q)) : s_cl L x = (false, q) := by rw [h, s_cl_n (show ¬ (false = true) by decide)]
theorem cl_tf {L : List Nat} {x : Bool × Nat} {q : Nat} (h : x = (true, q)) (h2 : ¬ s_is L q 59 59 = true) : s_cl L x = (false, q) := by rw [h, s_cl_f rfl h2]
theorem cl_tt {L : List Nat} {x : Bool × Nat} {q : Nat} (h : x = (true, q)) (h2 : s_is L q 59 59 = true) : s_cl L x = (true, q + 1) := by rw [h, s_cl_t rfl h2]
theorem tL_0 {L : List Nat} {p : Nat} (h : ¬ (s_tN L p).1 ≠ -1) : s_tL L p = (false, (s_tN L p).2) := if_pos (Decidable.not_not.mp h)
theorem tL_1 {L : List Nat} {p : Nat} (h : (s_tN L p).1 ≠ -1) (h1 : ¬ (s_l1 L p).1 ≠ -1) : s_tL L p = (false, (s_l1 L p).2) := (if_neg h).trans (if_pos (Decidable.not_not.mp h1))
theorem tL_2 {L : List Nat} {p : Nat} (h : (s_tN L p).1 ≠ -1) (h1 : (s_l1 L p).1 ≠ -1) (h2 : ¬ (s_l2 L p).1 ≠ -1) : s_tL L p = (false, (s_l2 L p).2) := (if_neg h).trans ((if_neg h1).trans (if_pos (Decidable.not_not.mp h2)))
theorem tL_3 {L : List Nat} {p : Nat} (h : (s_tN L p).1 ≠ -1) (h1 : (s_l1 L p).1 ≠ -1) (h2 : (s_l2 L p).1 ≠ -1) (h3 : ¬ (s_l3 L p).1 ≠ -1) : s_tL L p = (false, (s_l3 L p).2) := (if_neg h).trans ((if_neg h1).trans ((if_neg h2).trans (if_pos (Decidable.not_not.mp h3))))
theorem tL_4 {L : List Nat} {p : Nat} (h : (s_tN L p).1 ≠ -1) (h1 : (s_l1 L p).1 ≠ -1) (h2 : (s_l2 L p).1 ≠ -1) (h3 : (s_l3 L p).1 ≠ -1) : s_tL L p = (decide ((s_l4 L p).1 ≠ -1), (s_l4 L p).2) := (if_neg h).trans ((if_neg h1).trans ((if_neg h2).trans (if_neg h3)))
theorem tA_0 {L : List Nat} {p : Nat} (h : ¬ s_is L p 48 55 = true) : s_tA L p = (false, p) := by
  have e : s_tD L p 0 7 = (-1, p) := tD_f h
  unfold s_tA; rw [e]; rfl
theorem tA_1 {L : List Nat} {p : Nat} (h : s_is L p 48 55 = true) (h1 : ¬ s_is L (p + 1) 64 64 = true) : s_tA L p = (false, p + 1) := by
  have a := is_of h
  have e : s_tD L p 0 7 = ((s_ch L p : Int) - 48, p + 1) := tD_t h
  unfold s_tA; rw [e]; dsimp only; rw [if_neg (by omega), if_neg h1]
theorem tA_2 {L : List Nat} {p : Nat} (h : s_is L p 48 55 = true) (h1 : s_is L (p + 1) 64 64 = true) : s_tA L p = (decide ((s_tN L (p + 2)).1 ≠ -1), (s_tN L (p + 2)).2) := by
  have a := is_of h
  have e : s_tD L p 0 7 = ((s_ch L p : Int) - 48, p + 1) := tD_t h
  unfold s_tA; rw [e]; dsimp only; rw [if_neg (by omega), if_pos h1]
set_option maxRecDepth 100000 in
theorem mX6_isEntry {l : Launch} {G : ux_G} {h : ux_H} {L : List Nat} {p : Nat} (hL : rIm L h) (hp : xgi h 192 11 = nI p) (hpl : p ≤ L.length) : ux_M l G yX6_isEntry iX6_isEntry 5 0 [.ref 192] h (fun v h' => v = some (.int (if (s_tE L p).1 = true then 1 else 0)) ∧ xgi h' 192 11 = nI ((s_tE L p).2) ∧ x_fa h h') (fun _ _ => False) := by
  refine ux_ent (L' := [some (.ref 192), none]) kX6_isEntry rfl rfl rfl rfl ?_
  have h70 := hL.2.1
  refine g_aload_n dX6_isEntry_0 rfl ?_
  refine g_bipush (v := 116) dX6_isEntry_1 (by decide) ?_
  refine g_bipush (v := 116) dX6_isEntry_3 (by decide) ?_
  refine q_V (u' := 0) lX6_234 kX6_takes (mX6_takes (lo := 116) (hi := 116) (p := p) hL hp (by omega) (by omega) (by omega)) dX6_isEntry_5 rfl rfl rfl rfl rfl rfl rfl rfl (fun v h5 hq => ?_) (fun _ _ q => q.elim)
  obtain ⟨rfl, hpA, hFA⟩ := hq
  dsimp only [Option.toList, List.cons_append, List.nil_append]
  refine g_if_eq (tgt := 104) dX6_isEntry_8 (by decide) (fun c8 => ?_) (fun c8 => ?_)
  · have qA := xb_0.mp c8
    rw [if_neg qA] at hpA
    refine g_aload_n dX6_isEntry_104 rfl ?_
    refine g_bipush (v := 108) dX6_isEntry_105 (by decide) ?_
    refine g_bipush (v := 108) dX6_isEntry_107 (by decide) ?_
    refine q_V (u' := 0) lX6_234 kX6_takes (mX6_takes (lo := 108) (hi := 108) (p := p) (rIm_fa hL hFA) hpA (by omega) (by omega) (by omega)) dX6_isEntry_109 rfl rfl rfl rfl rfl rfl rfl rfl (fun v h109 hq => ?_) (fun _ _ q => q.elim)
    obtain ⟨rfl, hpB, hFB⟩ := hq
    dsimp only [Option.toList, List.cons_append, List.nil_append]
    refine g_if_eq (tgt := 183) dX6_isEntry_112 (by decide) (fun c112 => ?_) (fun c112 => ?_)
    · have qB := xb_0.mp c112
      rw [if_neg qB] at hpB
      refine g_aload_n dX6_isEntry_183 rfl ?_
      refine g_bipush (v := 97) dX6_isEntry_184 (by decide) ?_
      refine g_bipush (v := 97) dX6_isEntry_186 (by decide) ?_
      refine q_V (u' := 0) lX6_234 kX6_takes (mX6_takes (lo := 97) (hi := 97) (p := p) (rIm_fa (rIm_fa hL hFA) hFB) hpB (by omega) (by omega) (by omega)) dX6_isEntry_188 rfl rfl rfl rfl rfl rfl rfl rfl (fun v h188 hq => ?_) (fun _ _ q => q.elim)
      obtain ⟨rfl, hpC, hFC⟩ := hq
      dsimp only [Option.toList, List.cons_append, List.nil_append]
      refine g_if_eq (tgt := 238) dX6_isEntry_191 (by decide) (fun c191 => ?_) (fun c191 => ?_)
      · have qC := xb_0.mp c191
        rw [if_neg qC] at hpC
        refine g_iconst (v := 0) dX6_isEntry_238 (by decide) ?_
        refine g_ireturn dX6_isEntry_239 rfl rfl (by decide) ?_
        first
        | (have e9 : s_tE L p = (true, (s_tN L (p + 3)).2 + 1) := (tE_a qA qB qC).trans (cl_tt ((tA_2 qD qE).trans (by rw [decide_eq_true (show (s_tN L (p + 1 + 2)).1 ≠ -1 from qF)])) qG); exact ⟨by rw [e9]; first | done | rfl, by rw [e9]; exact hpG, x_fa_tr hFA (x_fa_tr hFB (x_fa_tr hFC (x_fa_tr hFD (x_fa_tr hFE (x_fa_tr hFF (hFG))))))⟩)
        | (have e9 : s_tE L p = (false, (s_tN L (p + 3)).2) := (tE_a qA qB qC).trans (cl_tf ((tA_2 qD qE).trans (by rw [decide_eq_true (show (s_tN L (p + 1 + 2)).1 ≠ -1 from qF)])) qG); exact ⟨by rw [e9]; first | done | rfl, by rw [e9]; exact hpG, x_fa_tr hFA (x_fa_tr hFB (x_fa_tr hFC (x_fa_tr hFD (x_fa_tr hFE (x_fa_tr hFF (hFG))))))⟩)
        | (have e9 : s_tE L p = (false, (s_tN L (p + 3)).2) := (tE_a qA qB qC).trans (cl_f ((tA_2 qD qE).trans (by rw [decide_eq_false (show ¬ (s_tN L (p + 1 + 2)).1 ≠ -1 from qF)]))); exact ⟨by rw [e9]; first | done | rfl, by rw [e9]; exact hpF, x_fa_tr hFA (x_fa_tr hFB (x_fa_tr hFC (x_fa_tr hFD (x_fa_tr hFE (hFF)))))⟩)
        | (have e9 : s_tE L p = (false, p + 2) := (tE_a qA qB qC).trans (cl_f (tA_1 qD qE)); exact ⟨by rw [e9]; first | done | rfl, by rw [e9]; exact hpE, x_fa_tr hFA (x_fa_tr hFB (x_fa_tr hFC (x_fa_tr hFD (hFE))))⟩)
        | (have e9 : s_tE L p = (false, p + 1) := (tE_a qA qB qC).trans (cl_f (tA_0 qD)); exact ⟨by rw [e9]; first | done | rfl, by rw [e9]; exact hpD, x_fa_tr hFA (x_fa_tr hFB (x_fa_tr hFC (hFD)))⟩)
        | (have e9 : s_tE L p = (false, p) := tE_n qA qB qC; exact ⟨by rw [e9]; first | done | rfl, by rw [e9]; exact hpC, x_fa_tr hFA (x_fa_tr hFB (hFC))⟩)
      · have qC := xb_n0 c191
        rw [if_pos qC] at hpC
        have iC := is_of qC
        refine g_aload_n dX6_isEntry_194 rfl ?_
        refine g_bipush (v := 48) dX6_isEntry_195 (by decide) ?_
        refine g_bipush (v := 55) dX6_isEntry_197 (by decide) ?_
        refine q_V (u' := 0) lX6_234 kX6_takes (mX6_takes (lo := 48) (hi := 55) (p := (p + 1)) (rIm_fa (rIm_fa (rIm_fa hL hFA) hFB) hFC) hpC iC.1 (by omega) (by omega)) dX6_isEntry_199 rfl rfl rfl rfl rfl rfl rfl rfl (fun v h199 hq => ?_) (fun _ _ q => q.elim)
        obtain ⟨rfl, hpD, hFD⟩ := hq
        dsimp only [Option.toList, List.cons_append, List.nil_append]
        refine g_if_eq (tgt := 238) dX6_isEntry_202 (by decide) (fun c202 => ?_) (fun c202 => ?_)
        · have qD := xb_0.mp c202
          rw [if_neg qD] at hpD
          refine g_iconst (v := 0) dX6_isEntry_238 (by decide) ?_
          refine g_ireturn dX6_isEntry_239 rfl rfl (by decide) ?_
          first
          | (have e9 : s_tE L p = (true, (s_tN L (p + 3)).2 + 1) := (tE_a qA qB qC).trans (cl_tt ((tA_2 qD qE).trans (by rw [decide_eq_true (show (s_tN L (p + 1 + 2)).1 ≠ -1 from qF)])) qG); exact ⟨by rw [e9]; first | done | rfl, by rw [e9]; exact hpG, x_fa_tr hFA (x_fa_tr hFB (x_fa_tr hFC (x_fa_tr hFD (x_fa_tr hFE (x_fa_tr hFF (hFG))))))⟩)
          | (have e9 : s_tE L p = (false, (s_tN L (p + 3)).2) := (tE_a qA qB qC).trans (cl_tf ((tA_2 qD qE).trans (by rw [decide_eq_true (show (s_tN L (p + 1 + 2)).1 ≠ -1 from qF)])) qG); exact ⟨by rw [e9]; first | done | rfl, by rw [e9]; exact hpG, x_fa_tr hFA (x_fa_tr hFB (x_fa_tr hFC (x_fa_tr hFD (x_fa_tr hFE (x_fa_tr hFF (hFG))))))⟩)
          | (have e9 : s_tE L p = (false, (s_tN L (p + 3)).2) := (tE_a qA qB qC).trans (cl_f ((tA_2 qD qE).trans (by rw [decide_eq_false (show ¬ (s_tN L (p + 1 + 2)).1 ≠ -1 from qF)]))); exact ⟨by rw [e9]; first | done | rfl, by rw [e9]; exact hpF, x_fa_tr hFA (x_fa_tr hFB (x_fa_tr hFC (x_fa_tr hFD (x_fa_tr hFE (hFF)))))⟩)
          | (have e9 : s_tE L p = (false, p + 2) := (tE_a qA qB qC).trans (cl_f (tA_1 qD qE)); exact ⟨by rw [e9]; first | done | rfl, by rw [e9]; exact hpE, x_fa_tr hFA (x_fa_tr hFB (x_fa_tr hFC (x_fa_tr hFD (hFE))))⟩)
          | (have e9 : s_tE L p = (false, p + 1) := (tE_a qA qB qC).trans (cl_f (tA_0 qD)); exact ⟨by rw [e9]; first | done | rfl, by rw [e9]; exact hpD, x_fa_tr hFA (x_fa_tr hFB (x_fa_tr hFC (hFD)))⟩)
          | (have e9 : s_tE L p = (false, p) := tE_n qA qB qC; exact ⟨by rw [e9]; first | done | rfl, by rw [e9]; exact hpC, x_fa_tr hFA (x_fa_tr hFB (hFC))⟩)
        · have qD := xb_n0 c202
          rw [if_pos qD] at hpD
          have iD := is_of qD
          refine g_aload_n dX6_isEntry_205 rfl ?_
          refine g_bipush (v := 64) dX6_isEntry_206 (by decide) ?_
          refine g_bipush (v := 64) dX6_isEntry_208 (by decide) ?_
          refine q_V (u' := 0) lX6_234 kX6_takes (mX6_takes (lo := 64) (hi := 64) (p := (p + 1 + 1)) (rIm_fa (rIm_fa (rIm_fa (rIm_fa hL hFA) hFB) hFC) hFD) hpD iD.1 (by omega) (by omega)) dX6_isEntry_210 rfl rfl rfl rfl rfl rfl rfl rfl (fun v h210 hq => ?_) (fun _ _ q => q.elim)
          obtain ⟨rfl, hpE, hFE⟩ := hq
          dsimp only [Option.toList, List.cons_append, List.nil_append]
          refine g_if_eq (tgt := 238) dX6_isEntry_213 (by decide) (fun c213 => ?_) (fun c213 => ?_)
          · have qE := xb_0.mp c213
            rw [if_neg qE] at hpE
            refine g_iconst (v := 0) dX6_isEntry_238 (by decide) ?_
            refine g_ireturn dX6_isEntry_239 rfl rfl (by decide) ?_
            first
            | (have e9 : s_tE L p = (true, (s_tN L (p + 3)).2 + 1) := (tE_a qA qB qC).trans (cl_tt ((tA_2 qD qE).trans (by rw [decide_eq_true (show (s_tN L (p + 1 + 2)).1 ≠ -1 from qF)])) qG); exact ⟨by rw [e9]; first | done | rfl, by rw [e9]; exact hpG, x_fa_tr hFA (x_fa_tr hFB (x_fa_tr hFC (x_fa_tr hFD (x_fa_tr hFE (x_fa_tr hFF (hFG))))))⟩)
            | (have e9 : s_tE L p = (false, (s_tN L (p + 3)).2) := (tE_a qA qB qC).trans (cl_tf ((tA_2 qD qE).trans (by rw [decide_eq_true (show (s_tN L (p + 1 + 2)).1 ≠ -1 from qF)])) qG); exact ⟨by rw [e9]; first | done | rfl, by rw [e9]; exact hpG, x_fa_tr hFA (x_fa_tr hFB (x_fa_tr hFC (x_fa_tr hFD (x_fa_tr hFE (x_fa_tr hFF (hFG))))))⟩)
            | (have e9 : s_tE L p = (false, (s_tN L (p + 3)).2) := (tE_a qA qB qC).trans (cl_f ((tA_2 qD qE).trans (by rw [decide_eq_false (show ¬ (s_tN L (p + 1 + 2)).1 ≠ -1 from qF)]))); exact ⟨by rw [e9]; first | done | rfl, by rw [e9]; exact hpF, x_fa_tr hFA (x_fa_tr hFB (x_fa_tr hFC (x_fa_tr hFD (x_fa_tr hFE (hFF)))))⟩)
            | (have e9 : s_tE L p = (false, p + 2) := (tE_a qA qB qC).trans (cl_f (tA_1 qD qE)); exact ⟨by rw [e9]; first | done | rfl, by rw [e9]; exact hpE, x_fa_tr hFA (x_fa_tr hFB (x_fa_tr hFC (x_fa_tr hFD (hFE))))⟩)
            | (have e9 : s_tE L p = (false, p + 1) := (tE_a qA qB qC).trans (cl_f (tA_0 qD)); exact ⟨by rw [e9]; first | done | rfl, by rw [e9]; exact hpD, x_fa_tr hFA (x_fa_tr hFB (x_fa_tr hFC (hFD)))⟩)
            | (have e9 : s_tE L p = (false, p) := tE_n qA qB qC; exact ⟨by rw [e9]; first | done | rfl, by rw [e9]; exact hpC, x_fa_tr hFA (x_fa_tr hFB (hFC))⟩)
          · have qE := xb_n0 c213
            rw [if_pos qE] at hpE
            have iE := is_of qE
            refine g_aload_n dX6_isEntry_216 rfl ?_
            refine q_V (u' := 0) lX6_237 kX6_isNumber (mX6_isNumber (p := (p + 1 + 1 + 1)) (rIm_fa (rIm_fa (rIm_fa (rIm_fa (rIm_fa hL hFA) hFB) hFC) hFD) hFE) hpE iE.1) dX6_isEntry_217 rfl rfl rfl rfl rfl rfl rfl rfl (fun v h217 hq => ?_) (fun _ _ q => q.elim)
            obtain ⟨rfl, hpF, hFF⟩ := hq
            dsimp only [Option.toList, List.cons_append, List.nil_append]
            refine g_if_eq (tgt := 238) dX6_isEntry_220 (by decide) (fun c220 => ?_) (fun c220 => ?_)
            · have qF := xb_0.mp c220
              refine g_iconst (v := 0) dX6_isEntry_238 (by decide) ?_
              refine g_ireturn dX6_isEntry_239 rfl rfl (by decide) ?_
              first
              | (have e9 : s_tE L p = (true, (s_tN L (p + 3)).2 + 1) := (tE_a qA qB qC).trans (cl_tt ((tA_2 qD qE).trans (by rw [decide_eq_true (show (s_tN L (p + 1 + 2)).1 ≠ -1 from qF)])) qG); exact ⟨by rw [e9]; first | done | rfl, by rw [e9]; exact hpG, x_fa_tr hFA (x_fa_tr hFB (x_fa_tr hFC (x_fa_tr hFD (x_fa_tr hFE (x_fa_tr hFF (hFG))))))⟩)
              | (have e9 : s_tE L p = (false, (s_tN L (p + 3)).2) := (tE_a qA qB qC).trans (cl_tf ((tA_2 qD qE).trans (by rw [decide_eq_true (show (s_tN L (p + 1 + 2)).1 ≠ -1 from qF)])) qG); exact ⟨by rw [e9]; first | done | rfl, by rw [e9]; exact hpG, x_fa_tr hFA (x_fa_tr hFB (x_fa_tr hFC (x_fa_tr hFD (x_fa_tr hFE (x_fa_tr hFF (hFG))))))⟩)
              | (have e9 : s_tE L p = (false, (s_tN L (p + 3)).2) := (tE_a qA qB qC).trans (cl_f ((tA_2 qD qE).trans (by rw [decide_eq_false (show ¬ (s_tN L (p + 1 + 2)).1 ≠ -1 from qF)]))); exact ⟨by rw [e9]; first | done | rfl, by rw [e9]; exact hpF, x_fa_tr hFA (x_fa_tr hFB (x_fa_tr hFC (x_fa_tr hFD (x_fa_tr hFE (hFF)))))⟩)
              | (have e9 : s_tE L p = (false, p + 2) := (tE_a qA qB qC).trans (cl_f (tA_1 qD qE)); exact ⟨by rw [e9]; first | done | rfl, by rw [e9]; exact hpE, x_fa_tr hFA (x_fa_tr hFB (x_fa_tr hFC (x_fa_tr hFD (hFE))))⟩)
              | (have e9 : s_tE L p = (false, p + 1) := (tE_a qA qB qC).trans (cl_f (tA_0 qD)); exact ⟨by rw [e9]; first | done | rfl, by rw [e9]; exact hpD, x_fa_tr hFA (x_fa_tr hFB (x_fa_tr hFC (hFD)))⟩)
              | (have e9 : s_tE L p = (false, p) := tE_n qA qB qC; exact ⟨by rw [e9]; first | done | rfl, by rw [e9]; exact hpC, x_fa_tr hFA (x_fa_tr hFB (hFC))⟩)
            · have qF := xb_n0 c220
              have lM := (s_tN_le (L := L) (p := p + 1 + 1 + 1) iE.1).2
              refine g_aload_n dX6_isEntry_223 rfl ?_
              refine g_bipush (v := 59) dX6_isEntry_224 (by decide) ?_
              refine g_bipush (v := 59) dX6_isEntry_226 (by decide) ?_
              refine q_V (u' := 0) lX6_234 kX6_takes (mX6_takes (lo := 59) (hi := 59) (p := (s_tN L (p + 3)).2) (rIm_fa (rIm_fa (rIm_fa (rIm_fa (rIm_fa (rIm_fa hL hFA) hFB) hFC) hFD) hFE) hFF) hpF lM (by omega) (by omega)) dX6_isEntry_228 rfl rfl rfl rfl rfl rfl rfl rfl (fun v h228 hq => ?_) (fun _ _ q => q.elim)
              obtain ⟨rfl, hpG, hFG⟩ := hq
              dsimp only [Option.toList, List.cons_append, List.nil_append]
              refine g_if_eq (tgt := 238) dX6_isEntry_231 (by decide) (fun c231 => ?_) (fun c231 => ?_)
              · have qG := xb_0.mp c231
                rw [if_neg qG] at hpG
                refine g_iconst (v := 0) dX6_isEntry_238 (by decide) ?_
                refine g_ireturn dX6_isEntry_239 rfl rfl (by decide) ?_
                first
                | (have e9 : s_tE L p = (true, (s_tN L (p + 3)).2 + 1) := (tE_a qA qB qC).trans (cl_tt ((tA_2 qD qE).trans (by rw [decide_eq_true (show (s_tN L (p + 1 + 2)).1 ≠ -1 from qF)])) qG); exact ⟨by rw [e9]; first | done | rfl, by rw [e9]; exact hpG, x_fa_tr hFA (x_fa_tr hFB (x_fa_tr hFC (x_fa_tr hFD (x_fa_tr hFE (x_fa_tr hFF (hFG))))))⟩)
                | (have e9 : s_tE L p = (false, (s_tN L (p + 3)).2) := (tE_a qA qB qC).trans (cl_tf ((tA_2 qD qE).trans (by rw [decide_eq_true (show (s_tN L (p + 1 + 2)).1 ≠ -1 from qF)])) qG); exact ⟨by rw [e9]; first | done | rfl, by rw [e9]; exact hpG, x_fa_tr hFA (x_fa_tr hFB (x_fa_tr hFC (x_fa_tr hFD (x_fa_tr hFE (x_fa_tr hFF (hFG))))))⟩)
                | (have e9 : s_tE L p = (false, (s_tN L (p + 3)).2) := (tE_a qA qB qC).trans (cl_f ((tA_2 qD qE).trans (by rw [decide_eq_false (show ¬ (s_tN L (p + 1 + 2)).1 ≠ -1 from qF)]))); exact ⟨by rw [e9]; first | done | rfl, by rw [e9]; exact hpF, x_fa_tr hFA (x_fa_tr hFB (x_fa_tr hFC (x_fa_tr hFD (x_fa_tr hFE (hFF)))))⟩)
                | (have e9 : s_tE L p = (false, p + 2) := (tE_a qA qB qC).trans (cl_f (tA_1 qD qE)); exact ⟨by rw [e9]; first | done | rfl, by rw [e9]; exact hpE, x_fa_tr hFA (x_fa_tr hFB (x_fa_tr hFC (x_fa_tr hFD (hFE))))⟩)
                | (have e9 : s_tE L p = (false, p + 1) := (tE_a qA qB qC).trans (cl_f (tA_0 qD)); exact ⟨by rw [e9]; first | done | rfl, by rw [e9]; exact hpD, x_fa_tr hFA (x_fa_tr hFB (x_fa_tr hFC (hFD)))⟩)
                | (have e9 : s_tE L p = (false, p) := tE_n qA qB qC; exact ⟨by rw [e9]; first | done | rfl, by rw [e9]; exact hpC, x_fa_tr hFA (x_fa_tr hFB (hFC))⟩)
              · have qG := xb_n0 c231
                rw [if_pos qG] at hpG
                have iG := is_of qG
                refine g_iconst (v := 1) dX6_isEntry_234 (by decide) ?_
                refine g_goto (tgt := 239) dX6_isEntry_235 (by decide) ?_
                refine g_ireturn dX6_isEntry_239 rfl rfl (by decide) ?_
                first
                | (have e9 : s_tE L p = (true, (s_tN L (p + 3)).2 + 1) := (tE_a qA qB qC).trans (cl_tt ((tA_2 qD qE).trans (by rw [decide_eq_true (show (s_tN L (p + 1 + 2)).1 ≠ -1 from qF)])) qG); exact ⟨by rw [e9]; first | done | rfl, by rw [e9]; exact hpG, x_fa_tr hFA (x_fa_tr hFB (x_fa_tr hFC (x_fa_tr hFD (x_fa_tr hFE (x_fa_tr hFF (hFG))))))⟩)
                | (have e9 : s_tE L p = (false, (s_tN L (p + 3)).2) := (tE_a qA qB qC).trans (cl_tf ((tA_2 qD qE).trans (by rw [decide_eq_true (show (s_tN L (p + 1 + 2)).1 ≠ -1 from qF)])) qG); exact ⟨by rw [e9]; first | done | rfl, by rw [e9]; exact hpG, x_fa_tr hFA (x_fa_tr hFB (x_fa_tr hFC (x_fa_tr hFD (x_fa_tr hFE (x_fa_tr hFF (hFG))))))⟩)
                | (have e9 : s_tE L p = (false, (s_tN L (p + 3)).2) := (tE_a qA qB qC).trans (cl_f ((tA_2 qD qE).trans (by rw [decide_eq_false (show ¬ (s_tN L (p + 1 + 2)).1 ≠ -1 from qF)]))); exact ⟨by rw [e9]; first | done | rfl, by rw [e9]; exact hpF, x_fa_tr hFA (x_fa_tr hFB (x_fa_tr hFC (x_fa_tr hFD (x_fa_tr hFE (hFF)))))⟩)
                | (have e9 : s_tE L p = (false, p + 2) := (tE_a qA qB qC).trans (cl_f (tA_1 qD qE)); exact ⟨by rw [e9]; first | done | rfl, by rw [e9]; exact hpE, x_fa_tr hFA (x_fa_tr hFB (x_fa_tr hFC (x_fa_tr hFD (hFE))))⟩)
                | (have e9 : s_tE L p = (false, p + 1) := (tE_a qA qB qC).trans (cl_f (tA_0 qD)); exact ⟨by rw [e9]; first | done | rfl, by rw [e9]; exact hpD, x_fa_tr hFA (x_fa_tr hFB (x_fa_tr hFC (hFD)))⟩)
                | (have e9 : s_tE L p = (false, p) := tE_n qA qB qC; exact ⟨by rw [e9]; first | done | rfl, by rw [e9]; exact hpC, x_fa_tr hFA (x_fa_tr hFB (hFC))⟩)
    · have qB := xb_n0 c112
      rw [if_pos qB] at hpB
      have iB := is_of qB
      refine g_aload_n dX6_isEntry_115 rfl ?_
      refine q_V (u' := 0) lX6_237 kX6_isNumber (mX6_isNumber (p := (p + 1)) (rIm_fa (rIm_fa hL hFA) hFB) hpB iB.1) dX6_isEntry_116 rfl rfl rfl rfl rfl rfl rfl rfl (fun v h116 hq => ?_) (fun _ _ q => q.elim)
      obtain ⟨rfl, hpC, hFC⟩ := hq
      dsimp only [Option.toList, List.cons_append, List.nil_append]
      refine g_if_eq (tgt := 181) dX6_isEntry_119 (by decide) (fun c119 => ?_) (fun c119 => ?_)
      · have qC := xb_0.mp c119
        refine g_iconst (v := 0) dX6_isEntry_181 (by decide) ?_
        refine g_ireturn dX6_isEntry_182 rfl rfl (by decide) ?_
        first
        | (have e9 : s_tE L p = (true, (s_l4 L (p + 1)).2 + 1) := (tE_l qA qB).trans (cl_tt ((tL_4 qC qD qE qF).trans (by rw [decide_eq_true (show (s_l4 L (p + 1)).1 ≠ -1 from qG)])) qH); exact ⟨by rw [e9]; first | done | rfl, by rw [e9]; exact hpH, x_fa_tr hFA (x_fa_tr hFB (x_fa_tr hFC (x_fa_tr hFD (x_fa_tr hFE (x_fa_tr hFF (x_fa_tr hFG (hFH)))))))⟩)
        | (have e9 : s_tE L p = (false, (s_l4 L (p + 1)).2) := (tE_l qA qB).trans (cl_tf ((tL_4 qC qD qE qF).trans (by rw [decide_eq_true (show (s_l4 L (p + 1)).1 ≠ -1 from qG)])) qH); exact ⟨by rw [e9]; first | done | rfl, by rw [e9]; exact hpH, x_fa_tr hFA (x_fa_tr hFB (x_fa_tr hFC (x_fa_tr hFD (x_fa_tr hFE (x_fa_tr hFF (x_fa_tr hFG (hFH)))))))⟩)
        | (have e9 : s_tE L p = (false, (s_l4 L (p + 1)).2) := (tE_l qA qB).trans (cl_f ((tL_4 qC qD qE qF).trans (by rw [decide_eq_false (show ¬ (s_l4 L (p + 1)).1 ≠ -1 from qG)]))); exact ⟨by rw [e9]; first | done | rfl, by rw [e9]; exact hpG, x_fa_tr hFA (x_fa_tr hFB (x_fa_tr hFC (x_fa_tr hFD (x_fa_tr hFE (x_fa_tr hFF (hFG))))))⟩)
        | (have e9 : s_tE L p = (false, (s_l3 L (p + 1)).2) := (tE_l qA qB).trans (cl_f (tL_3 qC qD qE qF)); exact ⟨by rw [e9]; first | done | rfl, by rw [e9]; exact hpF, x_fa_tr hFA (x_fa_tr hFB (x_fa_tr hFC (x_fa_tr hFD (x_fa_tr hFE (hFF)))))⟩)
        | (have e9 : s_tE L p = (false, (s_l2 L (p + 1)).2) := (tE_l qA qB).trans (cl_f (tL_2 qC qD qE)); exact ⟨by rw [e9]; first | done | rfl, by rw [e9]; exact hpE, x_fa_tr hFA (x_fa_tr hFB (x_fa_tr hFC (x_fa_tr hFD (hFE))))⟩)
        | (have e9 : s_tE L p = (false, (s_l1 L (p + 1)).2) := (tE_l qA qB).trans (cl_f (tL_1 qC qD)); exact ⟨by rw [e9]; first | done | rfl, by rw [e9]; exact hpD, x_fa_tr hFA (x_fa_tr hFB (x_fa_tr hFC (hFD)))⟩)
        | (have e9 : s_tE L p = (false, (s_tN L (p + 1)).2) := (tE_l qA qB).trans (cl_f (tL_0 qC)); exact ⟨by rw [e9]; first | done | rfl, by rw [e9]; exact hpC, x_fa_tr hFA (x_fa_tr hFB (hFC))⟩)
      · have qC := xb_n0 c119
        have lN := (s_tN_le (L := L) (p := p + 1) iB.1).2
        have l1 := (s_mk_le (L := L) (c := 99) (hi := 5) lN).2
        have l2 := (s_mk_le (L := L) (c := 115) (hi := 5) l1).2
        have l3 := (s_mk_le (L := L) (c := 112) (hi := 7) l2).2
        have l4 := (s_mk_le (L := L) (c := 114) (hi := 5) l3).2
        refine g_aload_n dX6_isEntry_122 rfl ?_
        refine g_bipush (v := 99) dX6_isEntry_123 (by decide) ?_
        refine g_bipush (v := 53) dX6_isEntry_125 (by decide) ?_
        refine q_V (u' := 0) lX6_240 kX6_isMarked (mX6_isMarked (c := 99) (hi := 5) (p := (s_tN L (p + 1)).2) (rIm_fa (rIm_fa (rIm_fa hL hFA) hFB) hFC) hpC lN (by decide) (by decide)) dX6_isEntry_127 rfl rfl rfl rfl rfl rfl rfl rfl (fun v h127 hq => ?_) (fun _ _ q => q.elim)
        obtain ⟨rfl, hpD, hFD⟩ := hq
        dsimp only [Option.toList, List.cons_append, List.nil_append]
        refine g_if_eq (tgt := 181) dX6_isEntry_130 (by decide) (fun c130 => ?_) (fun c130 => ?_)
        · have qD := xb_0.mp c130
          refine g_iconst (v := 0) dX6_isEntry_181 (by decide) ?_
          refine g_ireturn dX6_isEntry_182 rfl rfl (by decide) ?_
          first
          | (have e9 : s_tE L p = (true, (s_l4 L (p + 1)).2 + 1) := (tE_l qA qB).trans (cl_tt ((tL_4 qC qD qE qF).trans (by rw [decide_eq_true (show (s_l4 L (p + 1)).1 ≠ -1 from qG)])) qH); exact ⟨by rw [e9]; first | done | rfl, by rw [e9]; exact hpH, x_fa_tr hFA (x_fa_tr hFB (x_fa_tr hFC (x_fa_tr hFD (x_fa_tr hFE (x_fa_tr hFF (x_fa_tr hFG (hFH)))))))⟩)
          | (have e9 : s_tE L p = (false, (s_l4 L (p + 1)).2) := (tE_l qA qB).trans (cl_tf ((tL_4 qC qD qE qF).trans (by rw [decide_eq_true (show (s_l4 L (p + 1)).1 ≠ -1 from qG)])) qH); exact ⟨by rw [e9]; first | done | rfl, by rw [e9]; exact hpH, x_fa_tr hFA (x_fa_tr hFB (x_fa_tr hFC (x_fa_tr hFD (x_fa_tr hFE (x_fa_tr hFF (x_fa_tr hFG (hFH)))))))⟩)
          | (have e9 : s_tE L p = (false, (s_l4 L (p + 1)).2) := (tE_l qA qB).trans (cl_f ((tL_4 qC qD qE qF).trans (by rw [decide_eq_false (show ¬ (s_l4 L (p + 1)).1 ≠ -1 from qG)]))); exact ⟨by rw [e9]; first | done | rfl, by rw [e9]; exact hpG, x_fa_tr hFA (x_fa_tr hFB (x_fa_tr hFC (x_fa_tr hFD (x_fa_tr hFE (x_fa_tr hFF (hFG))))))⟩)
          | (have e9 : s_tE L p = (false, (s_l3 L (p + 1)).2) := (tE_l qA qB).trans (cl_f (tL_3 qC qD qE qF)); exact ⟨by rw [e9]; first | done | rfl, by rw [e9]; exact hpF, x_fa_tr hFA (x_fa_tr hFB (x_fa_tr hFC (x_fa_tr hFD (x_fa_tr hFE (hFF)))))⟩)
          | (have e9 : s_tE L p = (false, (s_l2 L (p + 1)).2) := (tE_l qA qB).trans (cl_f (tL_2 qC qD qE)); exact ⟨by rw [e9]; first | done | rfl, by rw [e9]; exact hpE, x_fa_tr hFA (x_fa_tr hFB (x_fa_tr hFC (x_fa_tr hFD (hFE))))⟩)
          | (have e9 : s_tE L p = (false, (s_l1 L (p + 1)).2) := (tE_l qA qB).trans (cl_f (tL_1 qC qD)); exact ⟨by rw [e9]; first | done | rfl, by rw [e9]; exact hpD, x_fa_tr hFA (x_fa_tr hFB (x_fa_tr hFC (hFD)))⟩)
          | (have e9 : s_tE L p = (false, (s_tN L (p + 1)).2) := (tE_l qA qB).trans (cl_f (tL_0 qC)); exact ⟨by rw [e9]; first | done | rfl, by rw [e9]; exact hpC, x_fa_tr hFA (x_fa_tr hFB (hFC))⟩)
        · have qD := xb_n0 c130
          refine g_aload_n dX6_isEntry_133 rfl ?_
          refine g_bipush (v := 115) dX6_isEntry_134 (by decide) ?_
          refine g_bipush (v := 53) dX6_isEntry_136 (by decide) ?_
          refine q_V (u' := 0) lX6_240 kX6_isMarked (mX6_isMarked (c := 115) (hi := 5) (p := (s_l1 L (p + 1)).2) (rIm_fa (rIm_fa (rIm_fa (rIm_fa hL hFA) hFB) hFC) hFD) hpD l1 (by decide) (by decide)) dX6_isEntry_138 rfl rfl rfl rfl rfl rfl rfl rfl (fun v h138 hq => ?_) (fun _ _ q => q.elim)
          obtain ⟨rfl, hpE, hFE⟩ := hq
          dsimp only [Option.toList, List.cons_append, List.nil_append]
          refine g_if_eq (tgt := 181) dX6_isEntry_141 (by decide) (fun c141 => ?_) (fun c141 => ?_)
          · have qE := xb_0.mp c141
            refine g_iconst (v := 0) dX6_isEntry_181 (by decide) ?_
            refine g_ireturn dX6_isEntry_182 rfl rfl (by decide) ?_
            first
            | (have e9 : s_tE L p = (true, (s_l4 L (p + 1)).2 + 1) := (tE_l qA qB).trans (cl_tt ((tL_4 qC qD qE qF).trans (by rw [decide_eq_true (show (s_l4 L (p + 1)).1 ≠ -1 from qG)])) qH); exact ⟨by rw [e9]; first | done | rfl, by rw [e9]; exact hpH, x_fa_tr hFA (x_fa_tr hFB (x_fa_tr hFC (x_fa_tr hFD (x_fa_tr hFE (x_fa_tr hFF (x_fa_tr hFG (hFH)))))))⟩)
            | (have e9 : s_tE L p = (false, (s_l4 L (p + 1)).2) := (tE_l qA qB).trans (cl_tf ((tL_4 qC qD qE qF).trans (by rw [decide_eq_true (show (s_l4 L (p + 1)).1 ≠ -1 from qG)])) qH); exact ⟨by rw [e9]; first | done | rfl, by rw [e9]; exact hpH, x_fa_tr hFA (x_fa_tr hFB (x_fa_tr hFC (x_fa_tr hFD (x_fa_tr hFE (x_fa_tr hFF (x_fa_tr hFG (hFH)))))))⟩)
            | (have e9 : s_tE L p = (false, (s_l4 L (p + 1)).2) := (tE_l qA qB).trans (cl_f ((tL_4 qC qD qE qF).trans (by rw [decide_eq_false (show ¬ (s_l4 L (p + 1)).1 ≠ -1 from qG)]))); exact ⟨by rw [e9]; first | done | rfl, by rw [e9]; exact hpG, x_fa_tr hFA (x_fa_tr hFB (x_fa_tr hFC (x_fa_tr hFD (x_fa_tr hFE (x_fa_tr hFF (hFG))))))⟩)
            | (have e9 : s_tE L p = (false, (s_l3 L (p + 1)).2) := (tE_l qA qB).trans (cl_f (tL_3 qC qD qE qF)); exact ⟨by rw [e9]; first | done | rfl, by rw [e9]; exact hpF, x_fa_tr hFA (x_fa_tr hFB (x_fa_tr hFC (x_fa_tr hFD (x_fa_tr hFE (hFF)))))⟩)
            | (have e9 : s_tE L p = (false, (s_l2 L (p + 1)).2) := (tE_l qA qB).trans (cl_f (tL_2 qC qD qE)); exact ⟨by rw [e9]; first | done | rfl, by rw [e9]; exact hpE, x_fa_tr hFA (x_fa_tr hFB (x_fa_tr hFC (x_fa_tr hFD (hFE))))⟩)
            | (have e9 : s_tE L p = (false, (s_l1 L (p + 1)).2) := (tE_l qA qB).trans (cl_f (tL_1 qC qD)); exact ⟨by rw [e9]; first | done | rfl, by rw [e9]; exact hpD, x_fa_tr hFA (x_fa_tr hFB (x_fa_tr hFC (hFD)))⟩)
            | (have e9 : s_tE L p = (false, (s_tN L (p + 1)).2) := (tE_l qA qB).trans (cl_f (tL_0 qC)); exact ⟨by rw [e9]; first | done | rfl, by rw [e9]; exact hpC, x_fa_tr hFA (x_fa_tr hFB (hFC))⟩)
          · have qE := xb_n0 c141
            refine g_aload_n dX6_isEntry_144 rfl ?_
            refine g_bipush (v := 112) dX6_isEntry_145 (by decide) ?_
            refine g_bipush (v := 55) dX6_isEntry_147 (by decide) ?_
            refine q_V (u' := 0) lX6_240 kX6_isMarked (mX6_isMarked (c := 112) (hi := 7) (p := (s_l2 L (p + 1)).2) (rIm_fa (rIm_fa (rIm_fa (rIm_fa (rIm_fa hL hFA) hFB) hFC) hFD) hFE) hpE l2 (by decide) (by decide)) dX6_isEntry_149 rfl rfl rfl rfl rfl rfl rfl rfl (fun v h149 hq => ?_) (fun _ _ q => q.elim)
            obtain ⟨rfl, hpF, hFF⟩ := hq
            dsimp only [Option.toList, List.cons_append, List.nil_append]
            refine g_if_eq (tgt := 181) dX6_isEntry_152 (by decide) (fun c152 => ?_) (fun c152 => ?_)
            · have qF := xb_0.mp c152
              refine g_iconst (v := 0) dX6_isEntry_181 (by decide) ?_
              refine g_ireturn dX6_isEntry_182 rfl rfl (by decide) ?_
              first
              | (have e9 : s_tE L p = (true, (s_l4 L (p + 1)).2 + 1) := (tE_l qA qB).trans (cl_tt ((tL_4 qC qD qE qF).trans (by rw [decide_eq_true (show (s_l4 L (p + 1)).1 ≠ -1 from qG)])) qH); exact ⟨by rw [e9]; first | done | rfl, by rw [e9]; exact hpH, x_fa_tr hFA (x_fa_tr hFB (x_fa_tr hFC (x_fa_tr hFD (x_fa_tr hFE (x_fa_tr hFF (x_fa_tr hFG (hFH)))))))⟩)
              | (have e9 : s_tE L p = (false, (s_l4 L (p + 1)).2) := (tE_l qA qB).trans (cl_tf ((tL_4 qC qD qE qF).trans (by rw [decide_eq_true (show (s_l4 L (p + 1)).1 ≠ -1 from qG)])) qH); exact ⟨by rw [e9]; first | done | rfl, by rw [e9]; exact hpH, x_fa_tr hFA (x_fa_tr hFB (x_fa_tr hFC (x_fa_tr hFD (x_fa_tr hFE (x_fa_tr hFF (x_fa_tr hFG (hFH)))))))⟩)
              | (have e9 : s_tE L p = (false, (s_l4 L (p + 1)).2) := (tE_l qA qB).trans (cl_f ((tL_4 qC qD qE qF).trans (by rw [decide_eq_false (show ¬ (s_l4 L (p + 1)).1 ≠ -1 from qG)]))); exact ⟨by rw [e9]; first | done | rfl, by rw [e9]; exact hpG, x_fa_tr hFA (x_fa_tr hFB (x_fa_tr hFC (x_fa_tr hFD (x_fa_tr hFE (x_fa_tr hFF (hFG))))))⟩)
              | (have e9 : s_tE L p = (false, (s_l3 L (p + 1)).2) := (tE_l qA qB).trans (cl_f (tL_3 qC qD qE qF)); exact ⟨by rw [e9]; first | done | rfl, by rw [e9]; exact hpF, x_fa_tr hFA (x_fa_tr hFB (x_fa_tr hFC (x_fa_tr hFD (x_fa_tr hFE (hFF)))))⟩)
              | (have e9 : s_tE L p = (false, (s_l2 L (p + 1)).2) := (tE_l qA qB).trans (cl_f (tL_2 qC qD qE)); exact ⟨by rw [e9]; first | done | rfl, by rw [e9]; exact hpE, x_fa_tr hFA (x_fa_tr hFB (x_fa_tr hFC (x_fa_tr hFD (hFE))))⟩)
              | (have e9 : s_tE L p = (false, (s_l1 L (p + 1)).2) := (tE_l qA qB).trans (cl_f (tL_1 qC qD)); exact ⟨by rw [e9]; first | done | rfl, by rw [e9]; exact hpD, x_fa_tr hFA (x_fa_tr hFB (x_fa_tr hFC (hFD)))⟩)
              | (have e9 : s_tE L p = (false, (s_tN L (p + 1)).2) := (tE_l qA qB).trans (cl_f (tL_0 qC)); exact ⟨by rw [e9]; first | done | rfl, by rw [e9]; exact hpC, x_fa_tr hFA (x_fa_tr hFB (hFC))⟩)
            · have qF := xb_n0 c152
              refine g_aload_n dX6_isEntry_155 rfl ?_
              refine g_bipush (v := 114) dX6_isEntry_156 (by decide) ?_
              refine g_bipush (v := 53) dX6_isEntry_158 (by decide) ?_
              refine q_V (u' := 0) lX6_240 kX6_isMarked (mX6_isMarked (c := 114) (hi := 5) (p := (s_l3 L (p + 1)).2) (rIm_fa (rIm_fa (rIm_fa (rIm_fa (rIm_fa (rIm_fa hL hFA) hFB) hFC) hFD) hFE) hFF) hpF l3 (by decide) (by decide)) dX6_isEntry_160 rfl rfl rfl rfl rfl rfl rfl rfl (fun v h160 hq => ?_) (fun _ _ q => q.elim)
              obtain ⟨rfl, hpG, hFG⟩ := hq
              dsimp only [Option.toList, List.cons_append, List.nil_append]
              refine g_if_eq (tgt := 181) dX6_isEntry_163 (by decide) (fun c163 => ?_) (fun c163 => ?_)
              · have qG := xb_0.mp c163
                refine g_iconst (v := 0) dX6_isEntry_181 (by decide) ?_
                refine g_ireturn dX6_isEntry_182 rfl rfl (by decide) ?_
                first
                | (have e9 : s_tE L p = (true, (s_l4 L (p + 1)).2 + 1) := (tE_l qA qB).trans (cl_tt ((tL_4 qC qD qE qF).trans (by rw [decide_eq_true (show (s_l4 L (p + 1)).1 ≠ -1 from qG)])) qH); exact ⟨by rw [e9]; first | done | rfl, by rw [e9]; exact hpH, x_fa_tr hFA (x_fa_tr hFB (x_fa_tr hFC (x_fa_tr hFD (x_fa_tr hFE (x_fa_tr hFF (x_fa_tr hFG (hFH)))))))⟩)
                | (have e9 : s_tE L p = (false, (s_l4 L (p + 1)).2) := (tE_l qA qB).trans (cl_tf ((tL_4 qC qD qE qF).trans (by rw [decide_eq_true (show (s_l4 L (p + 1)).1 ≠ -1 from qG)])) qH); exact ⟨by rw [e9]; first | done | rfl, by rw [e9]; exact hpH, x_fa_tr hFA (x_fa_tr hFB (x_fa_tr hFC (x_fa_tr hFD (x_fa_tr hFE (x_fa_tr hFF (x_fa_tr hFG (hFH)))))))⟩)
                | (have e9 : s_tE L p = (false, (s_l4 L (p + 1)).2) := (tE_l qA qB).trans (cl_f ((tL_4 qC qD qE qF).trans (by rw [decide_eq_false (show ¬ (s_l4 L (p + 1)).1 ≠ -1 from qG)]))); exact ⟨by rw [e9]; first | done | rfl, by rw [e9]; exact hpG, x_fa_tr hFA (x_fa_tr hFB (x_fa_tr hFC (x_fa_tr hFD (x_fa_tr hFE (x_fa_tr hFF (hFG))))))⟩)
                | (have e9 : s_tE L p = (false, (s_l3 L (p + 1)).2) := (tE_l qA qB).trans (cl_f (tL_3 qC qD qE qF)); exact ⟨by rw [e9]; first | done | rfl, by rw [e9]; exact hpF, x_fa_tr hFA (x_fa_tr hFB (x_fa_tr hFC (x_fa_tr hFD (x_fa_tr hFE (hFF)))))⟩)
                | (have e9 : s_tE L p = (false, (s_l2 L (p + 1)).2) := (tE_l qA qB).trans (cl_f (tL_2 qC qD qE)); exact ⟨by rw [e9]; first | done | rfl, by rw [e9]; exact hpE, x_fa_tr hFA (x_fa_tr hFB (x_fa_tr hFC (x_fa_tr hFD (hFE))))⟩)
                | (have e9 : s_tE L p = (false, (s_l1 L (p + 1)).2) := (tE_l qA qB).trans (cl_f (tL_1 qC qD)); exact ⟨by rw [e9]; first | done | rfl, by rw [e9]; exact hpD, x_fa_tr hFA (x_fa_tr hFB (x_fa_tr hFC (hFD)))⟩)
                | (have e9 : s_tE L p = (false, (s_tN L (p + 1)).2) := (tE_l qA qB).trans (cl_f (tL_0 qC)); exact ⟨by rw [e9]; first | done | rfl, by rw [e9]; exact hpC, x_fa_tr hFA (x_fa_tr hFB (hFC))⟩)
              · have qG := xb_n0 c163
                refine g_aload_n dX6_isEntry_166 rfl ?_
                refine g_bipush (v := 59) dX6_isEntry_167 (by decide) ?_
                refine g_bipush (v := 59) dX6_isEntry_169 (by decide) ?_
                refine q_V (u' := 0) lX6_234 kX6_takes (mX6_takes (lo := 59) (hi := 59) (p := (s_l4 L (p + 1)).2) (rIm_fa (rIm_fa (rIm_fa (rIm_fa (rIm_fa (rIm_fa (rIm_fa hL hFA) hFB) hFC) hFD) hFE) hFF) hFG) hpG l4 (by omega) (by omega)) dX6_isEntry_171 rfl rfl rfl rfl rfl rfl rfl rfl (fun v h171 hq => ?_) (fun _ _ q => q.elim)
                obtain ⟨rfl, hpH, hFH⟩ := hq
                dsimp only [Option.toList, List.cons_append, List.nil_append]
                refine g_if_eq (tgt := 181) dX6_isEntry_174 (by decide) (fun c174 => ?_) (fun c174 => ?_)
                · have qH := xb_0.mp c174
                  rw [if_neg qH] at hpH
                  refine g_iconst (v := 0) dX6_isEntry_181 (by decide) ?_
                  refine g_ireturn dX6_isEntry_182 rfl rfl (by decide) ?_
                  first
                  | (have e9 : s_tE L p = (true, (s_l4 L (p + 1)).2 + 1) := (tE_l qA qB).trans (cl_tt ((tL_4 qC qD qE qF).trans (by rw [decide_eq_true (show (s_l4 L (p + 1)).1 ≠ -1 from qG)])) qH); exact ⟨by rw [e9]; first | done | rfl, by rw [e9]; exact hpH, x_fa_tr hFA (x_fa_tr hFB (x_fa_tr hFC (x_fa_tr hFD (x_fa_tr hFE (x_fa_tr hFF (x_fa_tr hFG (hFH)))))))⟩)
                  | (have e9 : s_tE L p = (false, (s_l4 L (p + 1)).2) := (tE_l qA qB).trans (cl_tf ((tL_4 qC qD qE qF).trans (by rw [decide_eq_true (show (s_l4 L (p + 1)).1 ≠ -1 from qG)])) qH); exact ⟨by rw [e9]; first | done | rfl, by rw [e9]; exact hpH, x_fa_tr hFA (x_fa_tr hFB (x_fa_tr hFC (x_fa_tr hFD (x_fa_tr hFE (x_fa_tr hFF (x_fa_tr hFG (hFH)))))))⟩)
                  | (have e9 : s_tE L p = (false, (s_l4 L (p + 1)).2) := (tE_l qA qB).trans (cl_f ((tL_4 qC qD qE qF).trans (by rw [decide_eq_false (show ¬ (s_l4 L (p + 1)).1 ≠ -1 from qG)]))); exact ⟨by rw [e9]; first | done | rfl, by rw [e9]; exact hpG, x_fa_tr hFA (x_fa_tr hFB (x_fa_tr hFC (x_fa_tr hFD (x_fa_tr hFE (x_fa_tr hFF (hFG))))))⟩)
                  | (have e9 : s_tE L p = (false, (s_l3 L (p + 1)).2) := (tE_l qA qB).trans (cl_f (tL_3 qC qD qE qF)); exact ⟨by rw [e9]; first | done | rfl, by rw [e9]; exact hpF, x_fa_tr hFA (x_fa_tr hFB (x_fa_tr hFC (x_fa_tr hFD (x_fa_tr hFE (hFF)))))⟩)
                  | (have e9 : s_tE L p = (false, (s_l2 L (p + 1)).2) := (tE_l qA qB).trans (cl_f (tL_2 qC qD qE)); exact ⟨by rw [e9]; first | done | rfl, by rw [e9]; exact hpE, x_fa_tr hFA (x_fa_tr hFB (x_fa_tr hFC (x_fa_tr hFD (hFE))))⟩)
                  | (have e9 : s_tE L p = (false, (s_l1 L (p + 1)).2) := (tE_l qA qB).trans (cl_f (tL_1 qC qD)); exact ⟨by rw [e9]; first | done | rfl, by rw [e9]; exact hpD, x_fa_tr hFA (x_fa_tr hFB (x_fa_tr hFC (hFD)))⟩)
                  | (have e9 : s_tE L p = (false, (s_tN L (p + 1)).2) := (tE_l qA qB).trans (cl_f (tL_0 qC)); exact ⟨by rw [e9]; first | done | rfl, by rw [e9]; exact hpC, x_fa_tr hFA (x_fa_tr hFB (hFC))⟩)
                · have qH := xb_n0 c174
                  rw [if_pos qH] at hpH
                  have iH := is_of qH
                  refine g_iconst (v := 1) dX6_isEntry_177 (by decide) ?_
                  refine g_goto (tgt := 182) dX6_isEntry_178 (by decide) ?_
                  refine g_ireturn dX6_isEntry_182 rfl rfl (by decide) ?_
                  first
                  | (have e9 : s_tE L p = (true, (s_l4 L (p + 1)).2 + 1) := (tE_l qA qB).trans (cl_tt ((tL_4 qC qD qE qF).trans (by rw [decide_eq_true (show (s_l4 L (p + 1)).1 ≠ -1 from qG)])) qH); exact ⟨by rw [e9]; first | done | rfl, by rw [e9]; exact hpH, x_fa_tr hFA (x_fa_tr hFB (x_fa_tr hFC (x_fa_tr hFD (x_fa_tr hFE (x_fa_tr hFF (x_fa_tr hFG (hFH)))))))⟩)
                  | (have e9 : s_tE L p = (false, (s_l4 L (p + 1)).2) := (tE_l qA qB).trans (cl_tf ((tL_4 qC qD qE qF).trans (by rw [decide_eq_true (show (s_l4 L (p + 1)).1 ≠ -1 from qG)])) qH); exact ⟨by rw [e9]; first | done | rfl, by rw [e9]; exact hpH, x_fa_tr hFA (x_fa_tr hFB (x_fa_tr hFC (x_fa_tr hFD (x_fa_tr hFE (x_fa_tr hFF (x_fa_tr hFG (hFH)))))))⟩)
                  | (have e9 : s_tE L p = (false, (s_l4 L (p + 1)).2) := (tE_l qA qB).trans (cl_f ((tL_4 qC qD qE qF).trans (by rw [decide_eq_false (show ¬ (s_l4 L (p + 1)).1 ≠ -1 from qG)]))); exact ⟨by rw [e9]; first | done | rfl, by rw [e9]; exact hpG, x_fa_tr hFA (x_fa_tr hFB (x_fa_tr hFC (x_fa_tr hFD (x_fa_tr hFE (x_fa_tr hFF (hFG))))))⟩)
                  | (have e9 : s_tE L p = (false, (s_l3 L (p + 1)).2) := (tE_l qA qB).trans (cl_f (tL_3 qC qD qE qF)); exact ⟨by rw [e9]; first | done | rfl, by rw [e9]; exact hpF, x_fa_tr hFA (x_fa_tr hFB (x_fa_tr hFC (x_fa_tr hFD (x_fa_tr hFE (hFF)))))⟩)
                  | (have e9 : s_tE L p = (false, (s_l2 L (p + 1)).2) := (tE_l qA qB).trans (cl_f (tL_2 qC qD qE)); exact ⟨by rw [e9]; first | done | rfl, by rw [e9]; exact hpE, x_fa_tr hFA (x_fa_tr hFB (x_fa_tr hFC (x_fa_tr hFD (hFE))))⟩)
                  | (have e9 : s_tE L p = (false, (s_l1 L (p + 1)).2) := (tE_l qA qB).trans (cl_f (tL_1 qC qD)); exact ⟨by rw [e9]; first | done | rfl, by rw [e9]; exact hpD, x_fa_tr hFA (x_fa_tr hFB (x_fa_tr hFC (hFD)))⟩)
                  | (have e9 : s_tE L p = (false, (s_tN L (p + 1)).2) := (tE_l qA qB).trans (cl_f (tL_0 qC)); exact ⟨by rw [e9]; first | done | rfl, by rw [e9]; exact hpC, x_fa_tr hFA (x_fa_tr hFB (hFC))⟩)
  · have qA := xb_n0 c8
    rw [if_pos qA] at hpA
    have iA := is_of qA
    refine g_aload_n dX6_isEntry_11 rfl ?_
    refine g_bipush (v := 48) dX6_isEntry_12 (by decide) ?_
    refine g_bipush (v := 53) dX6_isEntry_14 (by decide) ?_
    refine q_V (u' := 0) lX6_234 kX6_takes (mX6_takes (lo := 48) (hi := 53) (p := (p + 1)) (rIm_fa hL hFA) hpA iA.1 (by omega) (by omega)) dX6_isEntry_16 rfl rfl rfl rfl rfl rfl rfl rfl (fun v h16 hq => ?_) (fun _ _ q => q.elim)
    obtain ⟨rfl, hpB, hFB⟩ := hq
    dsimp only [Option.toList, List.cons_append, List.nil_append]
    refine g_if_ne (tgt := 24) dX6_isEntry_19 (by decide) (fun c19 => ?_) (fun c19 => ?_)
    · have qB := xb_n0 c19
      rw [if_pos qB] at hpB
      have iB := is_of qB
      refine g_aload_n dX6_isEntry_24 rfl ?_
      refine g_getr (q := 197) fX6_22 dX6_isEntry_25 rfl rfl rfl ?_
      refine g_aload_n dX6_isEntry_28 rfl ?_
      refine g_geti fX6_231 dX6_isEntry_29 rfl rfl ?_
      refine g_top hpB ?_
      refine g_iconst (v := 1) dX6_isEntry_32 (by decide) ?_
      refine g_isub dX6_isEntry_33 ?_
      refine g_top (y := nI (p + 1)) (pk_sub (a := p + 1 + 1) (b := 1) (by omega)) ?_
      refine g_iald dX6_isEntry_34 rfl (show p + 1 < 70 by omega) rfl ?_
      obtain ⟨r1, r2, r3⟩ := rIm_ch hL iB.1
      refine g_top (y := nI (s_ch L (p + 1))) ((x_fa_g hFB (by omega)).trans ((x_fa_g hFA (by omega)).trans r1)) ?_
      refine g_iconst (v := 1) dX6_isEntry_35 (by decide) ?_
      refine g_iadd dX6_isEntry_36 ?_
      refine g_top (y := nI (49 + (s_ch L (p + 1) - 48))) (by rw [show (49 + (s_ch L (p + 1) - 48)) = s_ch L (p + 1) + 1 by omega]; exact nI_1 _) ?_
      refine s_i (i := 1) dX6_isEntry_37 rfl rfl rfl rfl ?_
      dsimp only [List.set]
      have e0 : s_tTa L (p + 1) = s_tT1 L 6 ((s_ch L (p + 1) - 48 : Nat) : Int) 0 (p + 1 + 1) := by unfold s_tTa; rw [tD_t (by exact qB), show (s_ch L (p + 1) : Int) - 48 = ((s_ch L (p + 1) - 48 : Nat) : Int) by omega]
      have z := x_p2 (s_ch L (p + 1) - 48) (by omega)
      exact wX6_isEntry (l := l) (G := G) (h0 := h) qA 7 6 (s_ch L (p + 1) - 48) 0 (p + 1 + 1) _ (rIm_fa (rIm_fa hL hFA) hFB) hpB iB.1 (by omega) (by omega) (by omega) e0 (x_fa_tr hFA hFB) (by decide)
    · have qB := xb_0.mp c19
      rw [if_neg qB] at hpB
      refine g_iconst (v := 0) dX6_isEntry_22 (by decide) ?_
      refine g_ireturn dX6_isEntry_23 rfl rfl (by decide) ?_
      first
      | (have e9 : s_tE L p = (false, p + 1) := (by rw [tE_t0 qA (by unfold s_tTa; rw [tD_f (by exact qB), s_tT1_0 rfl]), show (s_tTa L (p + 1)).2 = p + 1 by unfold s_tTa; rw [tD_f (by exact qB), s_tT1_0 rfl]]); exact ⟨by rw [e9]; first | done | rfl, by rw [e9]; exact hpB, x_fa_tr hFA (hFB)⟩)
