/-! THE CLASS: the first error; what is refused. -/
def s_fin (L : List Nat) : Int := if L.length = 0 then 0 else -1
def s_fe (L : List Nat) : Nat → Nat → Int
  | 0, _ => s_fin L
  | n + 1, p => if p < L.length then (if (s_tE L p).1 = true then s_fe L n (s_tE L p).2 else ((s_tE L p).2 : Int)) else s_fin L
theorem s_fe_n {L : List Nat} (n : Nat) {p : Nat} (h : ¬ p < L.length) : s_fe L n p = s_fin L := by
  cases n with
  | zero => rfl
  | succ n => exact if_neg h
theorem s_fe_f {L : List Nat} {n p : Nat} (h : p < L.length) (q : ¬ (s_tE L p).1 = true) : s_fe L (n + 1) p = ((s_tE L p).2 : Int) := by
  show (if p < L.length then _ else _) = _
  rw [if_pos h, if_neg q]
theorem s_fe_s {L : List Nat} {n p : Nat} (h : p < L.length) (q : (s_tE L p).1 = true) : s_fe L (n + 1) p = s_fe L n (s_tE L p).2 := by
  show (if p < L.length then _ else _) = _
  rw [if_pos h, if_pos q]
set_option maxRecDepth 100000 in
theorem wX1_firstError {l : Launch} {G : ux_G} {h0 : ux_H} {L : List Nat} : ∀ (n : Nat) (j p : Nat) (h : ux_H), rI L h → xgi h 188 2 = nI p → x_frN h0 h → p ≤ L.length → j ≤ 70 → s_fe L (70 - j) p = s_fe L 70 0 → 70 - j < n → ux_W l G iX1_firstError (ux_rm 6 0) (ux_Z G 0 (fun v h' => v = some (.int (iI (s_fe L 70 0))) ∧ rI L h' ∧ x_frN h0 h') (fun _ _ => False)) 7 [some (.ref 188), some (.int (nI j))] [] (h) 0 := by
  intro n
  induction n with
  | zero => intro j p h hL hp hE hpl hj hK hn; exact absurd hn (Nat.not_lt_zero _)
  | succ n ih =>
    intro j p h hL hp hE hpl hj hK hn
    have h70 := hL.2.1
    refine g_iload_n dX1_firstError_7 rfl ?_
    refine g_bipush (v := 70) dX1_firstError_8 (by decide) ?_
    refine g_icmp_ge (tgt := 42) dX1_firstError_10 (by decide) (fun c10 => ?_) (fun c10 => ?_)
    · have qj : j = 70 := by have := xlt_i (a := 70) c10 (by omega) (by omega); omega
      have kf : s_fin L = s_fe L 70 0 := by rw [← hK, qj]; rfl
      refine g_aload_n dX1_firstError_42 rfl ?_
      refine g_geti fX1_15 dX1_firstError_43 rfl rfl ?_
      refine g_top hL.1 ?_
      refine g_if_ne (tgt := 53) dX1_firstError_46 (by decide) (fun c46 => ?_) (fun c46 => ?_)
      · rw [nI_iI, xq0 (by omega) (by omega)] at c46
        refine g_iconst (v := (-1)) dX1_firstError_53 (by decide) ?_
        refine g_ireturn dX1_firstError_54 rfl rfl (by decide) ?_
        first
        | exact ⟨by rw [← kf]; unfold s_fin; rw [if_pos (by omega)]; rfl, hL, hE⟩
        | exact ⟨by rw [← kf]; unfold s_fin; rw [if_neg (by omega)]; rfl, hL, hE⟩
      · rw [nI_iI, xq0 (by omega) (by omega)] at c46
        refine g_iconst (v := 0) dX1_firstError_49 (by decide) ?_
        refine g_goto (tgt := 54) dX1_firstError_50 (by decide) ?_
        refine g_ireturn dX1_firstError_54 rfl rfl (by decide) ?_
        first
        | exact ⟨by rw [← kf]; unfold s_fin; rw [if_pos (by omega)]; rfl, hL, hE⟩
        | exact ⟨by rw [← kf]; unfold s_fin; rw [if_neg (by omega)]; rfl, hL, hE⟩
    · have qj : j < 70 := xnl_i (a := 70) c10 (by omega) (by omega)
      refine g_aload_n dX1_firstError_13 rfl ?_
      refine g_geti fX1_19 dX1_firstError_14 rfl rfl ?_
      refine g_top hp ?_
      refine g_aload_n dX1_firstError_17 rfl ?_
      refine g_geti fX1_15 dX1_firstError_18 rfl rfl ?_
      refine g_top hL.1 ?_
      refine g_icmp_ge (tgt := 42) dX1_firstError_21 (by decide) (fun c21 => ?_) (fun c21 => ?_)
      · have qx21q : ¬ p < L.length := by have := xlt_i c21 (by omega) (by omega); omega
        have kf : s_fin L = s_fe L 70 0 := by rw [← hK, s_fe_n _ qx21q]
        refine g_aload_n dX1_firstError_42 rfl ?_
        refine g_geti fX1_15 dX1_firstError_43 rfl rfl ?_
        refine g_top hL.1 ?_
        refine g_if_ne (tgt := 53) dX1_firstError_46 (by decide) (fun c46 => ?_) (fun c46 => ?_)
        · rw [nI_iI, xq0 (by omega) (by omega)] at c46
          refine g_iconst (v := (-1)) dX1_firstError_53 (by decide) ?_
          refine g_ireturn dX1_firstError_54 rfl rfl (by decide) ?_
          first
          | exact ⟨by rw [← kf]; unfold s_fin; rw [if_pos (by omega)]; rfl, hL, hE⟩
          | exact ⟨by rw [← kf]; unfold s_fin; rw [if_neg (by omega)]; rfl, hL, hE⟩
        · rw [nI_iI, xq0 (by omega) (by omega)] at c46
          refine g_iconst (v := 0) dX1_firstError_49 (by decide) ?_
          refine g_goto (tgt := 54) dX1_firstError_50 (by decide) ?_
          refine g_ireturn dX1_firstError_54 rfl rfl (by decide) ?_
          first
          | exact ⟨by rw [← kf]; unfold s_fin; rw [if_pos (by omega)]; rfl, hL, hE⟩
          | exact ⟨by rw [← kf]; unfold s_fin; rw [if_neg (by omega)]; rfl, hL, hE⟩
      · have q21 : p < L.length := xnl_i c21 (by omega) (by omega)
        refine g_aload_n dX1_firstError_24 rfl ?_
        refine q_V (u' := 0) lX1_47 kX1_takeEntry (mX1_takeEntry hL hp q21) dX1_firstError_25 rfl rfl rfl rfl rfl rfl rfl rfl (fun v h25 hq => ?_) (fun _ _ q => q.elim)
        obtain ⟨rfl, hL, hp, hF8, hV⟩ := hq
        have hE := x_frN_tr hE hF8
        dsimp only [Option.toList, List.cons_append, List.nil_append]
        refine g_if_ne (tgt := 36) dX1_firstError_28 (by decide) (fun c28 => ?_) (fun c28 => ?_)
        · have q28 : (s_tE L p).1 = true := xb_n0 c28
          refine s_inc (v := nI (j + 1)) dX1_firstError_36 rfl nI_s rfl rfl rfl ?_
          dsimp only [List.set]
          refine g_goto (tgt := 7) dX1_firstError_39 (by decide) ?_
          have en : 70 - j = (70 - (j + 1)) + 1 := by omega
          rw [en, s_fe_s q21 q28] at hK
          have tl := s_tE_le (L := L) (p := p) (by omega)
          exact ih (j + 1) _ _ hL hp hE tl.2.1 (by omega) hK (by omega)
        · have qx28q : ¬ (s_tE L p).1 = true := xb_0.mp c28
          refine g_aload_n dX1_firstError_31 rfl ?_
          refine g_geti fX1_19 dX1_firstError_32 rfl rfl ?_
          refine g_top hp ?_
          refine g_ireturn dX1_firstError_35 rfl rfl (by decide) ?_
          exact ⟨by rw [← hK, show 70 - j = (70 - (j + 1)) + 1 by omega, s_fe_f q21 qx28q, iI_n], hL, hE⟩
set_option maxRecDepth 100000 in
theorem mX1_firstError {l : Launch} {G : ux_G} {h : ux_H} {L : List Nat} (hL : rI L h) : ux_M l G yX1_firstError iX1_firstError 6 0 [.ref 188] h (fun v h' => v = some (.int (iI (s_fe L 70 0))) ∧ rI L h' ∧ x_frN h h') (fun _ _ => False) := by
  refine ux_ent (L' := [some (.ref 188), none]) kX1_firstError rfl rfl rfl rfl ?_
  have h70 := hL.2.1
  refine g_aload_n dX1_firstError_0 rfl ?_
  refine g_iconst (v := 0) dX1_firstError_1 (by decide) ?_
  refine g_puti pX1_19 dX1_firstError_2 rfl rfl ?_
  have hL := rI_frN hL (x_frN_si h (j := 2) 0 (by decide))
  have hp : xgi (xsi h 188 2 0) 188 2 = nI 0 := xgi_si h 188 2 0
  have hE := x_frN_si h (j := 2) 0 (by decide)
  refine g_iconst (v := 0) dX1_firstError_5 (by decide) ?_
  refine s_i (i := 1) dX1_firstError_6 rfl rfl rfl rfl ?_
  dsimp only [List.set]
  exact wX1_firstError 71 0 0 _ hL hp hE (Nat.zero_le _) (by decide) rfl (by omega)
/-- the numbers of an entry -/
def e_t (L : List Nat) (p : Nat) : Int := if s_ch L p = 108 then (s_l3 L (p + 1)).1 else (s_tD L (p + 1) 0 7).1
def e_s (L : List Nat) (p : Nat) : Int := if s_ch L p = 108 then (s_tN L (p + 1)).1 else (s_tN L ((s_tD L (p + 1) 0 7).2 + 1)).1
def s_ref (A : Ab) (L : List Nat) (p : Nat) : Bool :=
  if s_ch L p = 116 then decide (8 ≤ A.1)
  else if s_ch L p = 108 then decide (s_fault A (s_tN L (p + 1)).1 (s_l1 L (p + 1)).1 (s_l2 L (p + 1)).1 (s_l3 L (p + 1)).1 (s_l4 L (p + 1)).1 ≠ 0)
  else decide ((A.1 : Int) ≤ (s_tD L (p + 1) 0 7).1) || decide (30 ≤ (s_tN L ((s_tD L (p + 1) 0 7).2 + 1)).1) || s_away A (s_tD L (p + 1) 0 7).1.toNat (s_tN L ((s_tD L (p + 1) 0 7).2 + 1)).1
theorem s_tE_k {L : List Nat} {p : Nat} (h : (s_tE L p).1 = true) : s_ch L p = 116 ∨ s_ch L p = 108 ∨ s_ch L p = 97 := by
  unfold s_tE at h
  split at h
  · next q => exact Or.inl (s_ch_of q)
  · split at h
    · next q => exact Or.inr (Or.inl (s_ch_of q))
    · split at h
      · next q => exact Or.inr (Or.inr (s_ch_of q))
      · exact absurd h Bool.false_ne_true
theorem s_cl_1 {L : List Nat} {x : Bool × Nat} (h : (s_cl L x).1 = true) : x.1 = true := by
  unfold s_cl at h
  split at h
  · next q => exact q
  · exact h
