/-! THE CLASS: the input is read: teachers, entries, the first error. -/
theorem x_or : ∀ d, d < 6 → ∀ su, su < 64 → su < 2 ^ d → nI su ||| ((1 : Int32) <<< (nI d &&& 31)) = nI (su + 2 ^ d) := by decide +kernel
theorem x_p2 : ∀ d, d < 6 → 2 ^ d ≤ 32 ∧ 1 ≤ 2 ^ d := by decide
theorem x_p2s : ∀ d e, d < 6 → e < 6 → d < e → 2 ^ d + 2 ^ d ≤ 2 ^ e := by
  intro d e h1 h2 h3
  have := Nat.pow_le_pow_right (n := 2) (by decide) h3
  rw [Nat.pow_succ] at this
  omega
/-- digits that rise: what is set already, where it is read; n is the most that are read -/
def s_tT1 (L : List Nat) : Nat → Int → Nat → Nat → Nat × Nat
  | 0, _, su, p => (su, p)
  | n + 1, d, su, p => if d = -1 then (su, p) else s_tT1 L n (s_tD L p (d.toNat + 1) 5).1 (su + 2 ^ d.toNat) (s_tD L p (d.toNat + 1) 5).2
def s_tTa (L : List Nat) (p : Nat) : Nat × Nat := s_tT1 L 6 (s_tD L p 0 5).1 0 (s_tD L p 0 5).2
def s_tTw (L : List Nat) (p : Nat) : Int × Nat := s_mk L (s_tTa L p).2 42 4
def s_tTv (L : List Nat) (p : Nat) : Int × Nat := s_tD L ((s_tTa L p).2 + 1) 1 4
def s_tT (L : List Nat) (p : Nat) : Bool × Nat := if (s_tTa L p).1 = 0 then (false, (s_tTa L p).2) else if s_is L (s_tTa L p).2 42 42 = true then (decide ((s_tTv L p).1 ≠ -1), (s_tTv L p).2) else (false, (s_tTa L p).2)
theorem s_tT1_s {L : List Nat} {n : Nat} {d : Int} {su p : Nat} (h : d ≠ -1) : s_tT1 L (n + 1) d su p = s_tT1 L n (s_tD L p (d.toNat + 1) 5).1 (su + 2 ^ d.toNat) (s_tD L p (d.toNat + 1) 5).2 := if_neg h
theorem s_tT1_0 {L : List Nat} {n : Nat} {d : Int} {su p : Nat} (h : d = -1) : s_tT1 L n d su p = (su, p) := by
  cases n with
  | zero => rfl
  | succ n => exact if_pos h
theorem s_tT1_le {L : List Nat} : ∀ (n : Nat) {d : Int} {su p : Nat}, p ≤ L.length → (d = -1 ∨ (0 ≤ d ∧ d ≤ 5 ∧ su < 2 ^ d.toNat)) → su < 64 → p ≤ (s_tT1 L n d su p).2 ∧ (s_tT1 L n d su p).2 ≤ L.length ∧ (s_tT1 L n d su p).1 < 64 := by
  intro n
  induction n with
  | zero => intro d su p hp _ hs; exact ⟨Nat.le_refl _, hp, hs⟩
  | succ n ih =>
    intro d su p hp hd hs
    by_cases q : d = -1
    · rw [s_tT1_0 q]; exact ⟨Nat.le_refl _, hp, hs⟩
    · rw [s_tT1_s q]
      have hd := hd.resolve_left q
      have a := s_tD_le (lo := d.toNat + 1) (hi := 5) hp
      have r := s_tD_r L p (d.toNat + 1) 5
      have p2 := x_p2 d.toNat (by omega)
      have hs2 : su + 2 ^ d.toNat < 64 := by omega
      obtain ⟨b, c, e⟩ := ih (d := (s_tD L p (d.toNat + 1) 5).1) a.2 (by
        rcases r with r | r
        · exact Or.inl r
        · right
          have := x_p2s d.toNat (s_tD L p (d.toNat + 1) 5).1.toNat (by omega) (by omega) (by omega)
          exact ⟨by omega, by omega, by omega⟩) hs2
      exact ⟨Nat.le_trans a.1 b, c, e⟩
set_option maxRecDepth 100000 in
theorem wX1_takeTeacher {l : Launch} {G : ux_G} {h0 : ux_H} {L : List Nat} {p0 : Nat} {Z : _} (K : ∀ h', rI L h' → xgi h' 188 2 = nI (s_tTa L p0).2 → xgi h' 188 4 = nI (s_tTa L p0).1 → x_frE h0 h' → ux_W l G iX1_takeTeacher (ux_rm 3 0) (Z) 52 [some (.ref 188), none, none] [] h' 0) : ∀ (n : Nat) (j : Nat) (d : Int) (su p : Nat) (h : ux_H), rI L h → xgi h 188 2 = nI p → xgi h 188 4 = nI su → x_frE h0 h → p ≤ L.length → (d = -1 ∨ (0 ≤ d ∧ d ≤ 5 ∧ su < 2 ^ d.toNat)) → su < 64 → j ≤ 6 → s_tT1 L (6 - j) d su p = s_tTa L p0 → 6 - j < n → ux_W l G iX1_takeTeacher (ux_rm 3 0) (Z) 14 [some (.ref 188), some (.int (iI d)), some (.int (nI j))] [] (h) 0 := by
  intro n
  induction n with
  | zero => intro j d su p h hL hp h4 hE hpl hd hs hj hK hn; exact absurd hn (Nat.not_lt_zero _)
  | succ n ih =>
    intro j d su p h hL hp h4 hE hpl hd hs hj hK hn
    have h70 := hL.2.1
    refine g_iload_n dX1_takeTeacher_14 rfl ?_
    refine g_bipush (v := 6) dX1_takeTeacher_15 (by decide) ?_
    refine g_icmp_ge (tgt := 52) dX1_takeTeacher_17 (by decide) (fun c17 => ?_) (fun c17 => ?_)
    · have qj : j = 6 := by have := xlt_i (a := 6) c17 (by omega) (by omega); omega
      subst qj
      refine g_fg 1 rfl ?_
      refine g_fg 2 rfl ?_
      dsimp only [List.set]
      have ke : s_tTa L p0 = (su, p) := hK.symm
      exact K h hL (by rw [ke]; exact hp) (by rw [ke]; exact h4) hE
    · have qj : j < 6 := xnl_i (a := 6) c17 (by omega) (by omega)
      refine g_iload_n dX1_takeTeacher_20 rfl ?_
      refine g_iconst (v := (-1)) dX1_takeTeacher_21 (by decide) ?_
      refine g_icmp_eq (tgt := 52) dX1_takeTeacher_22 (by decide) (fun c22 => ?_) (fun c22 => ?_)
      · rw [xqm (by omega) (by omega)] at c22
        refine g_fg 1 rfl ?_
        refine g_fg 2 rfl ?_
        dsimp only [List.set]
        have ke : s_tTa L p0 = (su, p) := hK.symm.trans (s_tT1_0 c22)
        exact K h hL (by rw [ke]; exact hp) (by rw [ke]; exact h4) hE
      · rw [xqm (by omega) (by omega)] at c22
        have hd := hd.resolve_left c22
        have p2 := x_p2 d.toNat (by omega)
        refine g_aload_n dX1_takeTeacher_25 rfl ?_
        refine g_dup dX1_takeTeacher_26 rfl ?_
        refine g_geti fX1_26 dX1_takeTeacher_27 rfl rfl ?_
        refine g_top h4 ?_
        refine g_iconst (v := 1) dX1_takeTeacher_30 (by decide) ?_
        refine g_iload_n dX1_takeTeacher_31 rfl ?_
        refine g_ishl dX1_takeTeacher_32 ?_
        refine g_ior dX1_takeTeacher_33 ?_
        refine g_top (y := nI (su + 2 ^ d.toNat)) (by rw [iI_get (a := d) (by omega) (by omega)]; exact x_or d.toNat (by omega) su hs hd.2.2) ?_
        refine g_puti pX1_26 dX1_takeTeacher_34 rfl rfl ?_
        have hL := rI_frE hL (x_frE_si h (j := 4) (nI (su + 2 ^ d.toNat)) (by decide))
        have hp := (xgi_ne h 188 4 (nI (su + 2 ^ d.toNat)) 188 2 (by decide)).trans hp
        have hE := x_frE_tr hE (x_frE_si h (j := 4) (nI (su + 2 ^ d.toNat)) (by decide))
        have h4 := xgi_si h 188 4 (nI (su + 2 ^ d.toNat))
        refine g_aload_n dX1_takeTeacher_37 rfl ?_
        refine g_iload_n dX1_takeTeacher_38 rfl ?_
        refine g_iconst (v := 1) dX1_takeTeacher_39 (by decide) ?_
        refine g_iadd dX1_takeTeacher_40 ?_
        refine g_top (y := nI (d.toNat + 1)) (by rw [iI_get (a := d) (by omega) (by omega)]; exact nI_1 _) ?_
        refine g_iconst (v := 5) dX1_takeTeacher_41 (by decide) ?_
        refine q_V (u' := 0) lX1_95 kX1_takeDigit (mX1_takeDigit (lo := d.toNat + 1) (hi := 5) hL hp hpl (by omega) (by decide)) dX1_takeTeacher_42 rfl rfl rfl rfl rfl rfl rfl rfl (fun v h42 hq => ?_) (fun _ _ q => q.elim)
        obtain ⟨rfl, hL, hp, hF9⟩ := hq
        have h4 := (x_frP_g hF9 (by omega)).trans h4
        have hE := x_frE_tr hE (x_frE_P hF9)
        have r9 := s_tD_r L p (d.toNat + 1) 5
        have l9 := s_tD_le (lo := d.toNat + 1) (hi := 5) hpl
        dsimp only [Option.toList, List.cons_append, List.nil_append]
        refine s_i (i := 1) dX1_takeTeacher_45 rfl rfl rfl rfl ?_
        dsimp only [List.set]
        refine s_inc (v := nI (j + 1)) dX1_takeTeacher_46 rfl nI_s rfl rfl rfl ?_
        dsimp only [List.set]
        refine g_goto (tgt := 14) dX1_takeTeacher_49 (by decide) ?_
        have en : 6 - j = (6 - (j + 1)) + 1 := by omega
        rw [en, s_tT1_s c22] at hK
        refine ih (j + 1) _ _ _ _ hL hp h4 hE l9.2 ?_ (by omega) (by omega) hK (by omega)
        rcases r9 with r9 | r9
        · exact Or.inl r9
        · right
          have := x_p2s d.toNat (s_tD L p (d.toNat + 1) 5).1.toNat (by omega) (by omega) (by omega)
          exact ⟨by omega, by omega, by omega⟩
set_option maxRecDepth 100000 in
theorem w2_takeTeacher {l : Launch} {G : ux_G} {h0 h : ux_H} {L : List Nat} {p : Nat} (hL : rI L h) (hp : xgi h 188 2 = nI (s_tTa L p).2) (v4 : xgi h 188 4 = nI (s_tTa L p).1) (hE : x_frE h0 h) (ha : (s_tTa L p).2 ≤ L.length) (hb : (s_tTa L p).1 < 64) : ux_W l G iX1_takeTeacher (ux_rm 3 0) (ux_Z G 0 (fun v h' => v = some (.int (if (s_tT L p).1 = true then 1 else 0)) ∧ rI L h' ∧ xgi h' 188 2 = nI (s_tT L p).2 ∧ x_frE h0 h' ∧ ((s_tT L p).1 = true → xgi h' 188 4 = nI (s_tTa L p).1 ∧ xgi h' 188 5 = iI (s_tTv L p).1)) (fun _ _ => False)) 52 [some (.ref 188), none, none] [] (h) 0 := by
  have h70 := hL.2.1
  refine g_aload_n dX1_takeTeacher_52 rfl ?_
  refine g_geti fX1_26 dX1_takeTeacher_53 rfl rfl ?_
  refine g_top v4 ?_
  refine g_if_eq (tgt := 68) dX1_takeTeacher_56 (by decide) (fun c56 => ?_) (fun c56 => ?_)
  · rw [nI_iI, xq0 (by omega) (by omega)] at c56
    refine g_iconst (v := 0) dX1_takeTeacher_68 (by decide) ?_
    refine g_ireturn dX1_takeTeacher_69 rfl rfl (by decide) ?_
    first
    | (have eL : s_tT L p = (false, (s_tTa L p).2) := by unfold s_tT; rw [if_pos (by omega)]
       rw [eL]; exact ⟨rfl, hL, hp, hE, fun y => absurd y Bool.false_ne_true⟩)
    | (have eL : s_tT L p = (false, (s_tTa L p).2) := by unfold s_tT; rw [if_neg (by omega), if_neg qx65q]
       rw [eL]; exact ⟨rfl, hL, hp, hE, fun y => absurd y Bool.false_ne_true⟩)
  · rw [nI_iI, xq0 (by omega) (by omega)] at c56
    refine g_aload_n dX1_takeTeacher_59 rfl ?_
    refine g_bipush (v := 42) dX1_takeTeacher_60 (by decide) ?_
    refine q_V (u' := 0) lX1_82 kX1_takeSign (mX1_takeSign (c := 42) hL hp ha (by decide)) dX1_takeTeacher_62 rfl rfl rfl rfl rfl rfl rfl rfl (fun v h62 hq => ?_) (fun _ _ q => q.elim)
    obtain ⟨rfl, hL, hp, hF9⟩ := hq
    have hE := x_frE_tr hE (x_frE_P hF9)
    have v4 := (x_frP_g hF9 (by omega)).trans v4
    dsimp only [Option.toList, List.cons_append, List.nil_append]
    refine g_if_ne (tgt := 70) dX1_takeTeacher_65 (by decide) (fun c65 => ?_) (fun c65 => ?_)
    · have q65 : s_is L (s_tTa L p).2 42 42 = true := xb_n0 c65
      rw [s_tS_1 q65] at hp
      have z65 := s_is_lt q65
      refine g_aload_n dX1_takeTeacher_70 rfl ?_
      refine g_aload_n dX1_takeTeacher_71 rfl ?_
      refine g_iconst (v := 1) dX1_takeTeacher_72 (by decide) ?_
      refine g_iconst (v := 4) dX1_takeTeacher_73 (by decide) ?_
      refine q_V (u' := 0) lX1_95 kX1_takeDigit (mX1_takeDigit (lo := 1) (hi := 4) hL hp (by omega) (by decide) (by decide)) dX1_takeTeacher_74 rfl rfl rfl rfl rfl rfl rfl rfl (fun v h74 hq => ?_) (fun _ _ q => q.elim)
      obtain ⟨rfl, hL, hp, hF9⟩ := hq
      have hE := x_frE_tr hE (x_frE_P hF9)
      have v4 := (x_frP_g hF9 (by omega)).trans v4
      have r5 : (s_tTv L p).1 = -1 ∨ (((1 : Nat) : Int) ≤ (s_tTv L p).1 ∧ (s_tTv L p).1 ≤ ((4 : Nat) : Int)) := s_tD_r L ((s_tTa L p).2 + 1) 1 4
      dsimp only [Option.toList, List.cons_append, List.nil_append]
      refine g_puti pX1_29 dX1_takeTeacher_77 rfl rfl ?_
      have hL := rI_frE hL (x_frE_si h74 (j := 5) (iI (s_tTv L p).1) (by decide))
      have hp := (xgi_ne h74 188 5 (iI (s_tTv L p).1) 188 2 (by decide)).trans hp
      have hE := x_frE_tr hE (x_frE_si h74 (j := 5) (iI (s_tTv L p).1) (by decide))
      have v4 := (xgi_ne h74 188 5 (iI (s_tTv L p).1) 188 4 (by decide)).trans v4
      have v5 := xgi_si h74 188 5 (iI (s_tTv L p).1)
      refine g_aload_n dX1_takeTeacher_80 rfl ?_
      refine g_geti fX1_29 dX1_takeTeacher_81 rfl rfl ?_
      refine g_top v5 ?_
      refine g_iconst (v := (-1)) dX1_takeTeacher_84 (by decide) ?_
      refine g_icmp_eq (tgt := 92) dX1_takeTeacher_85 (by decide) (fun c85 => ?_) (fun c85 => ?_)
      · rw [xqm (by omega) (by omega)] at c85
        refine g_iconst (v := 0) dX1_takeTeacher_92 (by decide) ?_
        refine g_ireturn dX1_takeTeacher_93 rfl rfl (by decide) ?_
        have eL : s_tT L p = (decide ((s_tTv L p).1 ≠ -1), (s_tTv L p).2) := by unfold s_tT; rw [if_neg (by omega), if_pos q65]
        first
        | (have ed : decide ((s_tTv L p).1 ≠ -1) = false := by simp [c85]
           rw [eL, ed]; exact ⟨rfl, hL, hp, hE, fun y => absurd y Bool.false_ne_true⟩)
        | (have ed : decide ((s_tTv L p).1 ≠ -1) = true := by simp [c85]
           rw [eL, ed]; exact ⟨rfl, hL, hp, hE, fun _ => ⟨v4, v5⟩⟩)
      · rw [xqm (by omega) (by omega)] at c85
        refine g_iconst (v := 1) dX1_takeTeacher_88 (by decide) ?_
        refine g_goto (tgt := 93) dX1_takeTeacher_89 (by decide) ?_
        refine g_ireturn dX1_takeTeacher_93 rfl rfl (by decide) ?_
        have eL : s_tT L p = (decide ((s_tTv L p).1 ≠ -1), (s_tTv L p).2) := by unfold s_tT; rw [if_neg (by omega), if_pos q65]
        first
        | (have ed : decide ((s_tTv L p).1 ≠ -1) = false := by simp [c85]
           rw [eL, ed]; exact ⟨rfl, hL, hp, hE, fun y => absurd y Bool.false_ne_true⟩)
        | (have ed : decide ((s_tTv L p).1 ≠ -1) = true := by simp [c85]
           rw [eL, ed]; exact ⟨rfl, hL, hp, hE, fun _ => ⟨v4, v5⟩⟩)
    · have qx65q : ¬ s_is L (s_tTa L p).2 42 42 = true := xb_0.mp c65
      rw [s_tS_0 qx65q] at hp
      refine g_iconst (v := 0) dX1_takeTeacher_68 (by decide) ?_
      refine g_ireturn dX1_takeTeacher_69 rfl rfl (by decide) ?_
      first
      | (have eL : s_tT L p = (false, (s_tTa L p).2) := by unfold s_tT; rw [if_pos (by omega)]
         rw [eL]; exact ⟨rfl, hL, hp, hE, fun y => absurd y Bool.false_ne_true⟩)
      | (have eL : s_tT L p = (false, (s_tTa L p).2) := by unfold s_tT; rw [if_neg (by omega), if_neg qx65q]
         rw [eL]; exact ⟨rfl, hL, hp, hE, fun y => absurd y Bool.false_ne_true⟩)
set_option maxRecDepth 100000 in
theorem mX1_takeTeacher {l : Launch} {G : ux_G} {h : ux_H} {L : List Nat} {p : Nat} (hL : rI L h) (hp : xgi h 188 2 = nI p) (hpl : p ≤ L.length) : ux_M l G yX1_takeTeacher iX1_takeTeacher 3 0 [.ref 188] h (fun v h' => v = some (.int (if (s_tT L p).1 = true then 1 else 0)) ∧ rI L h' ∧ xgi h' 188 2 = nI (s_tT L p).2 ∧ x_frE h h' ∧ ((s_tT L p).1 = true → xgi h' 188 4 = nI (s_tTa L p).1 ∧ xgi h' 188 5 = iI (s_tTv L p).1)) (fun _ _ => False) := by
  refine ux_ent (L' := [some (.ref 188), none, none]) kX1_takeTeacher rfl rfl rfl rfl ?_
  have h70 := hL.2.1
  refine g_aload_n dX1_takeTeacher_0 rfl ?_
  refine g_iconst (v := 0) dX1_takeTeacher_1 (by decide) ?_
  refine g_puti pX1_26 dX1_takeTeacher_2 rfl rfl ?_
  have hL := rI_frE hL (x_frE_si h (j := 4) 0 (by decide))
  have hp := (xgi_ne h 188 4 0 188 2 (by decide)).trans hp
  have hE := x_frE_si h (j := 4) 0 (by decide)
  have v4 : xgi (xsi h 188 4 0) 188 4 = nI 0 := xgi_si h 188 4 0
  refine g_aload_n dX1_takeTeacher_5 rfl ?_
  refine g_iconst (v := 0) dX1_takeTeacher_6 (by decide) ?_
  refine g_iconst (v := 5) dX1_takeTeacher_7 (by decide) ?_
  refine q_V (u' := 0) lX1_95 kX1_takeDigit (mX1_takeDigit (lo := 0) (hi := 5) hL hp hpl (by decide) (by decide)) dX1_takeTeacher_8 rfl rfl rfl rfl rfl rfl rfl rfl (fun v h8 hq => ?_) (fun _ _ q => q.elim)
  obtain ⟨rfl, hL, hp, hF9⟩ := hq
  have hE := x_frE_tr hE (x_frE_P hF9)
  have v4 := (x_frP_g hF9 (by omega)).trans v4
  have r9 := s_tD_r L p 0 5
  have l9 := s_tD_le (lo := 0) (hi := 5) hpl
  dsimp only [Option.toList, List.cons_append, List.nil_append]
  refine s_i (i := 1) dX1_takeTeacher_11 rfl rfl rfl rfl ?_
  dsimp only [List.set]
  refine g_iconst (v := 0) dX1_takeTeacher_12 (by decide) ?_
  refine s_i (i := 2) dX1_takeTeacher_13 rfl rfl rfl rfl ?_
  dsimp only [List.set]
  have hd9 : (s_tD L p 0 5).1 = -1 ∨ (0 ≤ (s_tD L p 0 5).1 ∧ (s_tD L p 0 5).1 ≤ 5 ∧ 0 < 2 ^ (s_tD L p 0 5).1.toNat) := by
    rcases r9 with r9 | r9
    · exact Or.inl r9
    · exact Or.inr ⟨by omega, by omega, Nat.pow_pos (by decide)⟩
  obtain ⟨t1, t2, t3⟩ := s_tT1_le (L := L) 6 l9.2 hd9 (by decide)
  exact wX1_takeTeacher (p0 := p) (fun h2 a b c d => w2_takeTeacher a b c d t2 t3) 7 0 _ 0 _ _ hL hp v4 hE l9.2 hd9 (by decide) (by decide) rfl (by omega)
