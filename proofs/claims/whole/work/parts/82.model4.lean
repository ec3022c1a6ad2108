/-! THE REFERENCE: its changes: covers, splittings, their ends. -/
theorem m_at_2 {f j : Nat} (h : (f = 0 ∧ (j = 2 ∨ j = 3)) ∨ 1 ≤ f) : 2 ≤ m_at f j := by
  match f, h with
  | 0, h => show 2 ≤ j; omega
  | 1, _ => show 2 ≤ 16 + 5 * j; omega
  | 2, _ => show 2 ≤ 17 + 5 * j; omega
  | 3, _ => show 2 ≤ 18 + 5 * j; omega
  | 4, _ => show 2 ≤ 20 + 5 * j; omega
  | 5, _ => show 2 ≤ 19 + 5 * j; omega
  | 6, _ => show 2 ≤ 4 + j; omega
  | 7, _ => show 2 ≤ 10 + j; omega
  | f + 8, _ => show 2 ≤ 56 + 8 * j + f; omega
def b_in (f j : Nat) : Prop := (f = 0 ∧ (j = 2 ∨ j = 3)) ∨ (1 ≤ f ∧ f ≤ 5 ∧ j < 8) ∨ (6 ≤ f ∧ f ≤ 7 ∧ j < 6) ∨ (8 ≤ f ∧ f ≤ 15 ∧ j < 40)
theorem b_in_of {A : Ab} {f j : Nat} (h : a_in A f j) (i1 : A.1 ≤ 8) (i2 : A.2.1 ≤ 40) : b_in f j := by
  unfold a_in at h; unfold b_in; omega
theorem m_at_w {f j : Nat} (h : b_in f j) : (f = 0 ∧ m_at f j = j ∧ 2 ≤ j ∧ j ≤ 3) ∨ (∃ w, 1 ≤ f ∧ f ≤ 5 ∧ w ≤ 4 ∧ m_at f j = 16 + 5 * j + w ∧ j < 8 ∧ (w = 0 ↔ f = 1) ∧ (w = 1 ↔ f = 2) ∧ (w = 2 ↔ f = 3) ∧ (w = 3 ↔ f = 5) ∧ (w = 4 ↔ f = 4)) ∨ (f = 6 ∧ m_at f j = 4 + j ∧ j < 6) ∨ (f = 7 ∧ m_at f j = 10 + j ∧ j < 6) ∨ (8 ≤ f ∧ f ≤ 15 ∧ m_at f j = 56 + 8 * j + (f - 8) ∧ j < 40) := by
  unfold b_in at h
  match f, h with
  | 0, h => exact Or.inl ⟨rfl, rfl, by omega⟩
  | 1, h => exact Or.inr (Or.inl ⟨0, by decide, by decide, by decide, rfl, by omega, by decide, by decide, by decide, by decide, by decide⟩)
  | 2, h => exact Or.inr (Or.inl ⟨1, by decide, by decide, by decide, by show 17 + 5 * j = _; omega, by omega, by decide, by decide, by decide, by decide, by decide⟩)
  | 3, h => exact Or.inr (Or.inl ⟨2, by decide, by decide, by decide, by show 18 + 5 * j = _; omega, by omega, by decide, by decide, by decide, by decide, by decide⟩)
  | 4, h => exact Or.inr (Or.inl ⟨4, by decide, by decide, by decide, by show 20 + 5 * j = _; omega, by omega, by decide, by decide, by decide, by decide, by decide⟩)
  | 5, h => exact Or.inr (Or.inl ⟨3, by decide, by decide, by decide, by show 19 + 5 * j = _; omega, by omega, by decide, by decide, by decide, by decide, by decide⟩)
  | 6, h => exact Or.inr (Or.inr (Or.inl ⟨rfl, rfl, by omega⟩))
  | 7, h => exact Or.inr (Or.inr (Or.inr (Or.inl ⟨rfl, rfl, by omega⟩)))
  | f + 8, h => exact Or.inr (Or.inr (Or.inr (Or.inr ⟨by omega, by omega, by show 56 + 8 * j + f = _; omega, by omega⟩)))
theorem m_at_inj {f j a b : Nat} (h1 : b_in f j) (h2 : b_in a b) (e : m_at f j = m_at a b) : f = a ∧ j = b := by
  rcases m_at_w h1 with h | ⟨w, h⟩ | h | h | h <;> rcases m_at_w h2 with k | ⟨v, k⟩ | k | k | k <;> omega
/-- nothing but the reference's state has changed -/
def x_fm (h h' : ux_H) : Prop := ∀ k, k ≠ 193 → ∀ j, h' k j = h k j
theorem x_fm_rf (h : ux_H) : x_fm h h := fun _ _ _ => rfl
theorem x_fm_tr {h h1 h2 : ux_H} (a : x_fm h h1) (b : x_fm h1 h2) : x_fm h h2 := fun k hk j => (b k hk j).trans (a k hk j)
theorem x_fm_si (h : ux_H) (j : Nat) (x : Int32) : x_fm h (xsi h 193 j x) := fun a ha b => by unfold xsi xsv; rw [if_neg (by omega)]
theorem rM_aU {A : Ab} {h : ux_H} {f j : Nat} {v : Int} {x : Int32} (hM : rM 193 0 A h) (i1 : A.1 ≤ 8) (i2 : A.2.1 ≤ 40) (hin : a_in A f j) (hx : x = iI v) : rM 193 0 (aU A f j v) (xsi h 193 (m_at f j) x) := by
  have k := b_in_of hin i1 i2
  have k2 : 2 ≤ m_at f j := m_at_2 (by unfold b_in at k; omega)
  refine ⟨?_, ?_, fun a b hb => ?_⟩
  · rw [xgi_ne _ _ _ _ _ _ (by omega)]; exact hM.1
  · rw [xgi_ne _ _ _ _ _ _ (by omega)]; exact hM.2.1
  · have kb := b_in_of (A := A) hb i1 i2
    have q := hM.2.2 a b hb
    rw [Nat.zero_add] at q ⊢
    rw [xgi_sif, aF_aU]
    by_cases y : a = f ∧ b = j
    · rw [if_pos ⟨rfl, by rw [y.1, y.2]⟩, if_pos y, hx]
    · rw [if_neg (fun z => y (m_at_inj kb k z.2)), if_neg y]; exact q
theorem in_l {A : Ab} {f j : Nat} (hf : (Nat.ble 8 f && Nat.ble f 15) = true) (hj : j < A.2.1) : a_in A f j := by
  have q : 8 ≤ f ∧ f ≤ 15 := by simpa using hf
  exact Or.inr (Or.inr (Or.inr ⟨q.1, q.2, hj⟩))
theorem in_t {A : Ab} {f j : Nat} (hf : (Nat.ble 1 f && Nat.ble f 5) = true) (hj : j < A.1) : a_in A f j := by
  have q : 1 ≤ f ∧ f ≤ 5 := by simpa using hf
  exact Or.inr (Or.inl ⟨q.1, q.2, hj⟩)
def H3 (A : Ab) : Prop := ∀ i, i < A.2.1 → (aF A 14 i = -1 ↔ aF A 15 i = -1)
def s_swh (l : Nat) : Ab → Nat → Bool := fun B m => decide (aF B 14 m = l) || decide (aF B 15 m = l)
theorem s_swh_l (l : Nat) : s_swl (s_swh l) := fun B B' m h1 h2 => by unfold s_swh; rw [h1, h2]
/-- behind the splittings that l hosts -/
def s_h1 (A : Ab) (l : Nat) : Ab := aU (s_esw (s_swh l) A A.2.1).1 0 3 (aF (s_esw (s_swh l) A A.2.1).1 0 3 + (s_esw (s_swh l) A A.2.1).2)
def s_h1n (A : Ab) (l : Nat) : Nat := (s_esw (s_swh l) A A.2.1).2
def s_eall (A : Ab) (l : Nat) : Ab := if aF A 13 l ≠ -1 then aU (s_endc (s_h1 A l) l) 0 2 (aF (s_endc (s_h1 A l) l) 0 2 + 1) else if aF A 14 l ≠ -1 then aU (s_ends A l) 0 3 (aF (s_ends A l) 0 3 + 1) else A
def s_ealn (A : Ab) (l : Nat) : Nat := if aF A 13 l ≠ -1 then 1 + s_h1n A l else if aF A 14 l ≠ -1 then 1 else 0
theorem s_h1_I {P : Nat} {A : Ab} {i : Nat} (hI : Inv P A) (hH : HO A) (hP : P + 80 ≤ 10000000) : Inv (P + 80) (s_h1 A i) ∧ (s_h1 A i).1 = A.1 ∧ (s_h1 A i).2.1 = A.2.1 := by
  have h2 := hI.2.1
  obtain ⟨a, b, c, d, e⟩ := s_esw_I (sw := s_swh i) hI hH A.2.1 (by omega)
  exact ⟨Inv_0 (Inv_mono a (by omega) hP), c, d⟩
theorem s_h1_13 (A : Ab) (l m : Nat) : aF (s_h1 A l) 13 m = aF A 13 m := by
  unfold s_h1
  rw [aF_ne _ (by omega), s_esw_aF (s_swh_l l) A _ 13 m (by decide), if_neg (by omega)]
set_option maxRecDepth 100000 in
theorem mX6_gains {l : Launch} {G : ux_G} {h : ux_H} {t : Nat} {p : Int} {A : Ab} (hM : rM 193 0 A h) (i1 : A.1 ≤ 8) (i2 : A.2.1 ≤ 40) (ht : t < A.1) : ux_M l G yX6_gains iX6_gains 2 0 [.ref 192, .int (nI t), .int (iI p)] h (fun v h' => v = none ∧ rM 193 0 (s_add A t p) h' ∧ x_fm h h') (fun _ _ => False) := by
  refine ux_ent (L' := [some (.ref 192), some (.int (nI t)), some (.int (iI p))]) kX6_gains rfl rfl rfl rfl ?_
  refine g_aload_n dX6_gains_0 rfl ?_
  refine g_getr (q := 193) fX6_9 dX6_gains_1 rfl rfl rfl ?_
  refine g_iload_n dX6_gains_4 rfl ?_
  refine f1_S (u' := 0) lX6_51 kX6_teacherAt (mX6_teacherAt) dX6_gains_5 rfl rfl rfl rfl rfl rfl ?_
  refine g_iconst (v := 4) dX6_gains_8 (by decide) ?_
  refine g_iadd dX6_gains_9 ?_
  refine g_top (y := nI (20 + 5 * t)) (by rw [show (4 : Int32) = nI 4 by decide, nI_add, show 16 + 5 * t + 4 = 20 + 5 * t by omega]) ?_
  refine g_dup2 dX6_gains_10 rfl rfl ?_
  refine g_iald dX6_gains_11 rfl (show 20 + 5 * t < 376 by omega) rfl ?_
  refine g_iload_n dX6_gains_12 rfl ?_
  refine g_iadd dX6_gains_13 ?_
  refine g_top (y := iI (aF A 4 t + p)) (by rw [show xgi h 193 (20 + 5 * t) = iI (aF A 4 t) by have := hM.2.2 4 t (in_t rfl ht); rwa [Nat.zero_add] at this, iI_add]) ?_
  refine g_iast dX6_gains_14 rfl (show 20 + 5 * t < 376 by omega) rfl ?_
  refine g_return dX6_gains_15 rfl (by decide) ?_
  exact ⟨rfl, rM_aU (f := 4) hM i1 i2 (in_t rfl ht) rfl, x_fm_si _ _ _⟩
set_option maxRecDepth 100000 in
theorem mX6_endsSplit {l : Launch} {G : ux_G} {h : ux_H} {i : Nat} {A : Ab} {P : Nat} (hM : rM 193 0 A h) (hI : Inv P A) (hH : HO A) (hP : P + 2 ≤ 10000000) (hi : i < A.2.1) (h14 : aF A 14 i ≠ -1) : ux_M l G yX6_endsSplit iX6_endsSplit 7 0 [.ref 192, .int (nI i)] h (fun v h' => v = none ∧ rM 193 0 (s_ends A i) h' ∧ x_fm h h') (fun _ _ => False) := by
  refine ux_ent (L' := [some (.ref 192), some (.int (nI i))]) kX6_endsSplit rfl rfl rfl rfl ?_
  obtain ⟨i1, i2, i3, i4, i5, i6⟩ := id hI
  have il := i6 i hi
  obtain ⟨q15, qa, qb⟩ := hH i hi h14
  have ra := s_act_r hI (i := (aF A 14 i).toNat) (by omega)
  have rb := s_act_r hI (i := (aF A 15 i).toNat) (by omega)
  refine g_aload_n dX6_endsSplit_0 rfl ?_
  refine g_aload_n dX6_endsSplit_1 rfl ?_
  refine g_aload_n dX6_endsSplit_2 rfl ?_
  refine g_iload_n dX6_endsSplit_3 rfl ?_
  refine g_bipush (v := 6) dX6_endsSplit_4 (by decide) ?_
  refine f1_V (u' := 0) lX6_78 kX6_of (mX6_of (f := 14) hM (by omega) rfl (by assumption)) dX6_endsSplit_6 rfl rfl rfl rfl rfl rfl rfl rfl ?_
  refine g_top (y := nI (aF A 14 i).toNat) (iI_get (by omega) (by omega)) ?_
  refine f1_V (u' := 0) lX6_87 kX6_acting (mX6_acting hM hI (by omega)) dX6_endsSplit_9 rfl rfl rfl rfl rfl rfl rfl rfl ?_
  refine g_top (y := nI (s_act A (aF A 14 i).toNat).toNat) (iI_get (by omega) (by omega)) ?_
  refine g_iconst (v := (-1)) dX6_endsSplit_12 (by decide) ?_
  refine q_V (u' := 0) lX6_90 kX6_gains (mX6_gains (p := -1) hM i1 i2 (by omega)) dX6_endsSplit_13 rfl rfl rfl rfl rfl rfl rfl rfl (fun v h13 hq => ?_) (fun _ _ q => q.elim)
  obtain ⟨rfl, hM1, hF1⟩ := hq
  have hI1 := Inv_add (B := 1) (t := (s_act A (aF A 14 i).toNat).toNat) (v := -1) hI (by decide) (by omega)
  dsimp only [Option.toList, List.cons_append, List.nil_append]
  refine g_aload_n dX6_endsSplit_16 rfl ?_
  refine g_aload_n dX6_endsSplit_17 rfl ?_
  refine g_aload_n dX6_endsSplit_18 rfl ?_
  refine g_iload_n dX6_endsSplit_19 rfl ?_
  refine g_bipush (v := 7) dX6_endsSplit_20 (by decide) ?_
  refine f1_V (u' := 0) lX6_78 kX6_of (mX6_of (f := 15) hM1 i2 rfl hi) dX6_endsSplit_22 rfl rfl rfl rfl rfl rfl rfl rfl ?_
  refine g_top (y := nI (aF A 15 i).toNat) ((congrArg iI (aF_ne A (by omega))).trans (iI_get (by omega) (by omega))) ?_
  refine f1_V (u' := 0) lX6_87 kX6_acting (mX6_acting hM1 hI1 (show (aF A 15 i).toNat < A.2.1 by omega)) dX6_endsSplit_25 rfl rfl rfl rfl rfl rfl rfl rfl ?_
  refine g_top (y := nI (s_act A (aF A 15 i).toNat).toNat) ((congrArg iI (s_act_ne (by decide) _)).trans (iI_get (by omega) (by omega))) ?_
  refine g_iconst (v := (-1)) dX6_endsSplit_28 (by decide) ?_
  refine q_V (u' := 0) lX6_90 kX6_gains (mX6_gains (p := -1) hM1 i1 i2 (show (s_act A (aF A 15 i).toNat).toNat < A.1 by omega)) dX6_endsSplit_29 rfl rfl rfl rfl rfl rfl rfl rfl (fun v h29 hq => ?_) (fun _ _ q => q.elim)
  obtain ⟨rfl, hM2, hF2⟩ := hq
  dsimp only [Option.toList, List.cons_append, List.nil_append]
  refine g_aload_n dX6_endsSplit_32 rfl ?_
  refine g_getr (q := 193) fX6_9 dX6_endsSplit_33 rfl rfl rfl ?_
  refine g_iload_n dX6_endsSplit_36 rfl ?_
  refine f1_S (u' := 0) lX6_47 kX6_lessonAt (mX6_lessonAt) dX6_endsSplit_37 rfl rfl rfl rfl rfl rfl ?_
  refine g_bipush (v := 6) dX6_endsSplit_40 (by decide) ?_
  refine g_iadd dX6_endsSplit_42 ?_
  refine g_top (y := nI (56 + 8 * i + 6)) (by rw [show (6 : Int32) = nI 6 by decide, nI_add]) ?_
  refine g_iconst (v := (-1)) dX6_endsSplit_43 (by decide) ?_
  refine g_iast dX6_endsSplit_44 rfl (show 56 + 8 * i + 6 < 376 by omega) rfl ?_
  refine g_aload_n dX6_endsSplit_45 rfl ?_
  refine g_getr (q := 193) fX6_9 dX6_endsSplit_46 rfl rfl rfl ?_
  refine g_iload_n dX6_endsSplit_49 rfl ?_
  refine f1_S (u' := 0) lX6_47 kX6_lessonAt (mX6_lessonAt) dX6_endsSplit_50 rfl rfl rfl rfl rfl rfl ?_
  refine g_bipush (v := 7) dX6_endsSplit_53 (by decide) ?_
  refine g_iadd dX6_endsSplit_55 ?_
  refine g_top (y := nI (56 + 8 * i + 7)) (by rw [show (7 : Int32) = nI 7 by decide, nI_add]) ?_
  refine g_iconst (v := (-1)) dX6_endsSplit_56 (by decide) ?_
  refine g_iast dX6_endsSplit_57 rfl (show 56 + 8 * i + 7 < 376 by omega) rfl ?_
  refine g_return dX6_endsSplit_58 rfl (by decide) ?_
  exact ⟨rfl, rM_aU (f := 15) (v := -1) (rM_aU (f := 14) (v := -1) hM2 i1 i2 (in_l rfl hi) rfl) i1 i2 (in_l rfl hi) rfl, x_fm_tr hF1 (x_fm_tr hF2 (x_fm_tr (x_fm_si _ _ _) (x_fm_si _ _ _)))⟩
set_option maxRecDepth 100000 in
theorem wX6_endsHosted {l : Launch} {G : ux_G} {h0 : ux_H} {A : Ab} {P l9 : Nat} (hI : Inv P A) (hH : HO A) (h3 : H3 A) (hP : P + 82 ≤ 10000000) (hl9 : l9 < 40) : ∀ (n : Nat) (j : Nat) (h : ux_H), j ≤ A.2.1 → rM 193 0 (s_esw (s_swh l9) A j).1 h → x_fm h0 h → A.2.1 - j < n → ux_W l G iX6_endsHosted (ux_rm 8 0) (ux_Z G 0 (fun v h' => v = some (.int (nI (s_h1n A l9))) ∧ rM 193 0 (s_h1 A l9) h' ∧ x_fm h0 h') (fun _ _ => False)) 4 [some (.ref 192), some (.int (nI l9)), some (.int (nI (s_esw (s_swh l9) A j).2)), some (.int (nI j))] [] (h) 0 := by
  intro n
  induction n with
  | zero => intro j h hj hM hF hn; exact absurd hn (Nat.not_lt_zero _)
  | succ n ih =>
    intro j h hj hM hF hn
    obtain ⟨i1, i2, i3, i4, i5, i6⟩ := id hI
    obtain ⟨i0, b0, d1, d2, d3⟩ := s_esw_I (sw := (s_swh l9)) hI hH j (by omega)
    refine g_iload_n dX6_endsHosted_4 rfl ?_
    refine g_aload_n dX6_endsHosted_5 rfl ?_
    refine f1_V (u' := 0) lX6_54 kX6_lessons (mX6_lessons hM) dX6_endsHosted_6 rfl rfl rfl rfl rfl rfl rfl rfl ?_
    refine g_top (y := nI A.2.1) (by rw [d2]) ?_
    refine g_icmp_ge (tgt := 51) dX6_endsHosted_9 (by decide) (fun c9 => ?_) (fun c9 => ?_)
    · have e : j = A.2.1 := by have := xlt_i c9 (by omega) (by omega); omega
      subst e
      refine g_aload_n dX6_endsHosted_51 rfl ?_
      refine g_getr (q := 193) fX6_9 dX6_endsHosted_52 rfl rfl rfl ?_
      refine g_iconst (v := 3) dX6_endsHosted_55 (by decide) ?_
      refine g_dup2 dX6_endsHosted_56 rfl rfl ?_
      refine g_iald dX6_endsHosted_57 (j := 3) rfl (show 3 < 376 by decide) rfl ?_
      refine g_iload_n dX6_endsHosted_58 rfl ?_
      refine g_iadd dX6_endsHosted_59 ?_
      refine g_iast dX6_endsHosted_60 (j := 3) rfl (show 3 < 376 by decide) rfl ?_
      refine g_iload_n dX6_endsHosted_61 rfl ?_
      refine g_ireturn dX6_endsHosted_62 rfl rfl (by decide) ?_
      exact ⟨rfl, rM_aU (f := 0) (j := 3) hM (by omega) (by omega) (Or.inl ⟨rfl, Or.inr rfl⟩) (by rw [rM_0 hM (Or.inr rfl), nI_iI, iI_add]), x_fm_tr hF (x_fm_si _ _ _)⟩
    · have hlt : j < A.2.1 := xnl_i c9 (by omega) (by omega)
      have hltB : j < (s_esw (s_swh l9) A j).1.2.1 := by omega
      have bl := i6 j hlt
      have e14 : aF (s_esw (s_swh l9) A j).1 14 j = aF A 14 j := by rw [s_esw_aF (s_swh_l l9) A j 14 j (by decide), if_neg (by omega)]
      have e15 : aF (s_esw (s_swh l9) A j).1 15 j = aF A 15 j := by rw [s_esw_aF (s_swh_l l9) A j 15 j (by decide), if_neg (by omega)]
      have e3 := h3 j hlt
      refine g_aload_n dX6_endsHosted_12 rfl ?_
      refine g_iload_n dX6_endsHosted_13 rfl ?_
      refine g_bipush (v := 6) dX6_endsHosted_14 (by decide) ?_
      refine f1_V (u' := 0) lX6_78 kX6_of (mX6_of (f := 14) hM (by omega) rfl hltB) dX6_endsHosted_16 rfl rfl rfl rfl rfl rfl rfl rfl ?_
      refine g_iload_n dX6_endsHosted_19 rfl ?_
      refine g_icmp_eq (tgt := 37) dX6_endsHosted_20 (by decide) (fun c20 => ?_) (fun c20 => ?_)
      · rw [e14, xq (by omega) (by omega) (by omega)] at c20
        refine g_aload_n dX6_endsHosted_37 rfl ?_
        refine g_iload_n dX6_endsHosted_38 rfl ?_
        refine q_V (u' := 0) lX6_94 kX6_endsSplit (mX6_endsSplit hM i0 b0 (by omega) hltB (by rw [e14]; omega)) dX6_endsHosted_39 rfl rfl rfl rfl rfl rfl rfl rfl (fun v h39 hq => ?_) (fun _ _ q => q.elim)
        obtain ⟨rfl, hM2, hF2⟩ := hq
        dsimp only [Option.toList, List.cons_append, List.nil_append]
        refine s_inc (v := nI ((s_esw (s_swh l9) A j).2 + 1)) dX6_endsHosted_42 rfl nI_s rfl rfl rfl ?_
        dsimp only [List.set]
        refine s_inc (v := nI (j + 1)) dX6_endsHosted_45 rfl nI_s rfl rfl rfl ?_
        dsimp only [List.set]
        refine g_goto (tgt := 4) dX6_endsHosted_48 (by decide) ?_
        have q9 : s_swh l9 (s_esw (s_swh l9) A j).1 j = true := by show (decide (aF (s_esw (s_swh l9) A j).1 14 j = l9) || decide (aF (s_esw (s_swh l9) A j).1 15 j = l9)) = true; rw [e14, e15]; simp [c20]
        have e9 := s_esw_t q9
        have ih9 := ih (j + 1) h39 (by omega) (by rw [e9]; exact hM2) (x_fm_tr hF hF2) (by omega)
        rw [e9] at ih9
        exact ih9
      · rw [e14, xq (by omega) (by omega) (by omega)] at c20
        refine g_aload_n dX6_endsHosted_23 rfl ?_
        refine g_iload_n dX6_endsHosted_24 rfl ?_
        refine g_bipush (v := 7) dX6_endsHosted_25 (by decide) ?_
        refine f1_V (u' := 0) lX6_78 kX6_of (mX6_of (f := 15) hM (by omega) rfl hltB) dX6_endsHosted_27 rfl rfl rfl rfl rfl rfl rfl rfl ?_
        refine g_iload_n dX6_endsHosted_30 rfl ?_
        refine g_icmp_eq (tgt := 37) dX6_endsHosted_31 (by decide) (fun c31 => ?_) (fun c31 => ?_)
        · rw [e15, xq (by omega) (by omega) (by omega)] at c31
          refine g_aload_n dX6_endsHosted_37 rfl ?_
          refine g_iload_n dX6_endsHosted_38 rfl ?_
          refine q_V (u' := 0) lX6_94 kX6_endsSplit (mX6_endsSplit hM i0 b0 (by omega) hltB (by rw [e14]; omega)) dX6_endsHosted_39 rfl rfl rfl rfl rfl rfl rfl rfl (fun v h39 hq => ?_) (fun _ _ q => q.elim)
          obtain ⟨rfl, hM2, hF2⟩ := hq
          dsimp only [Option.toList, List.cons_append, List.nil_append]
          refine s_inc (v := nI ((s_esw (s_swh l9) A j).2 + 1)) dX6_endsHosted_42 rfl nI_s rfl rfl rfl ?_
          dsimp only [List.set]
          refine s_inc (v := nI (j + 1)) dX6_endsHosted_45 rfl nI_s rfl rfl rfl ?_
          dsimp only [List.set]
          refine g_goto (tgt := 4) dX6_endsHosted_48 (by decide) ?_
          have q9 : s_swh l9 (s_esw (s_swh l9) A j).1 j = true := by show (decide (aF (s_esw (s_swh l9) A j).1 14 j = l9) || decide (aF (s_esw (s_swh l9) A j).1 15 j = l9)) = true; rw [e14, e15]; simp [c20, c31]
          have e9 := s_esw_t q9
          have ih9 := ih (j + 1) h39 (by omega) (by rw [e9]; exact hM2) (x_fm_tr hF hF2) (by omega)
          rw [e9] at ih9
          exact ih9
        · rw [e15, xq (by omega) (by omega) (by omega)] at c31
          refine g_goto (tgt := 45) dX6_endsHosted_34 (by decide) ?_
          refine s_inc (v := nI (j + 1)) dX6_endsHosted_45 rfl nI_s rfl rfl rfl ?_
          dsimp only [List.set]
          refine g_goto (tgt := 4) dX6_endsHosted_48 (by decide) ?_
          have q9 : ¬ s_swh l9 (s_esw (s_swh l9) A j).1 j = true := by show ¬ (decide (aF (s_esw (s_swh l9) A j).1 14 j = l9) || decide (aF (s_esw (s_swh l9) A j).1 15 j = l9)) = true; rw [e14, e15]; simp [c20, c31]
          have e9 := s_esw_f q9
          have ih9 := ih (j + 1) h (by omega) (by rw [e9]; exact hM) hF (by omega)
          rw [e9] at ih9
          exact ih9
set_option maxRecDepth 100000 in
theorem mX6_endsHosted {l : Launch} {G : ux_G} {h : ux_H} {l9 : Nat} {A : Ab} {P : Nat} (hM : rM 193 0 A h) (hI : Inv P A) (hH : HO A) (h3 : H3 A) (hP : P + 90 ≤ 10000000) (hl9 : l9 < 40) : ux_M l G yX6_endsHosted iX6_endsHosted 8 0 [.ref 192, .int (nI l9)] h (fun v h' => v = some (.int (nI (s_h1n A l9))) ∧ rM 193 0 (s_h1 A l9) h' ∧ x_fm h h') (fun _ _ => False) := by
  refine ux_ent (L' := [some (.ref 192), some (.int (nI l9)), none, none]) kX6_endsHosted rfl rfl rfl rfl ?_
  refine g_iconst (v := 0) dX6_endsHosted_0 (by decide) ?_
  refine s_i (i := 2) dX6_endsHosted_1 rfl rfl rfl rfl ?_
  dsimp only [List.set]
  refine g_iconst (v := 0) dX6_endsHosted_2 (by decide) ?_
  refine s_i (i := 3) dX6_endsHosted_3 rfl rfl rfl rfl ?_
  dsimp only [List.set]
  exact wX6_endsHosted (l := l) (G := G) (h0 := h) hI hH h3 (by omega) hl9 (A.2.1 + 1) 0 h (Nat.zero_le _) hM (x_fm_rf h) (by omega)
set_option maxRecDepth 100000 in
theorem mX6_endsCover {l : Launch} {G : ux_G} {h : ux_H} {l9 : Nat} {A : Ab} {P : Nat} (hM : rM 193 0 A h) (hI : Inv P A) (hH : HO A) (h3 : H3 A) (hP : P + 90 ≤ 10000000) (hl : l9 < A.2.1) (h13 : aF A 13 l9 ≠ -1) : ux_M l G yX6_endsCover iX6_endsCover 9 0 [.ref 192, .int (nI l9)] h (fun v h' => v = some (.int (nI (s_h1n A l9))) ∧ rM 193 0 (s_endc (s_h1 A l9) l9) h' ∧ x_fm h h') (fun _ _ => False) := by
  refine ux_ent (L' := [some (.ref 192), some (.int (nI l9)), none]) kX6_endsCover rfl rfl rfl rfl ?_
  obtain ⟨i1, i2, i3, i4, i5, i6⟩ := id hI
  have il := i6 l9 hl
  refine g_aload_n dX6_endsCover_0 rfl ?_
  refine g_iload_n dX6_endsCover_1 rfl ?_
  refine q_V (u' := 0) lX6_98 kX6_endsHosted (mX6_endsHosted hM hI hH h3 (by omega) (by omega)) dX6_endsCover_2 rfl rfl rfl rfl rfl rfl rfl rfl (fun v h2 hq => ?_) (fun _ _ q => q.elim)
  obtain ⟨rfl, hM1, hF1⟩ := hq
  obtain ⟨k1, k2, k3⟩ := s_h1_I (i := l9) hI hH (by omega)
  have e13 := s_h1_13 A l9 l9
  have k2b : (aF A 13 l9).toNat < (s_h1 A l9).1 := by omega
  have k3b : l9 < (s_h1 A l9).2.1 := by omega
  dsimp only [Option.toList, List.cons_append, List.nil_append]
  refine s_i (i := 2) dX6_endsCover_5 rfl rfl rfl rfl ?_
  dsimp only [List.set]
  refine g_aload_n dX6_endsCover_6 rfl ?_
  refine g_aload_n dX6_endsCover_7 rfl ?_
  refine g_iload_n dX6_endsCover_8 rfl ?_
  refine g_iconst (v := 5) dX6_endsCover_9 (by decide) ?_
  refine f1_V (u' := 0) lX6_78 kX6_of (mX6_of (f := 13) hM1 (by omega) rfl k3b) dX6_endsCover_10 rfl rfl rfl rfl rfl rfl rfl rfl ?_
  refine g_top (y := nI (aF A 13 l9).toNat) (by rw [e13]; exact iI_get (by omega) (by omega)) ?_
  refine g_aload_n dX6_endsCover_13 rfl ?_
  refine g_iload_n dX6_endsCover_14 rfl ?_
  refine g_aload_n dX6_endsCover_15 rfl ?_
  refine g_iload_n dX6_endsCover_16 rfl ?_
  refine g_iconst (v := 5) dX6_endsCover_17 (by decide) ?_
  refine f1_V (u' := 0) lX6_78 kX6_of (mX6_of (f := 13) hM1 (by omega) rfl k3b) dX6_endsCover_18 rfl rfl rfl rfl rfl rfl rfl rfl ?_
  refine g_top (y := nI (aF A 13 l9).toNat) (by rw [e13]; exact iI_get (by omega) (by omega)) ?_
  refine f1_V (u' := 0) lX6_101 kX6_worth (mX6_worth hM1 k1 k3b k2b) dX6_endsCover_21 rfl rfl rfl rfl rfl rfl rfl rfl ?_
  refine g_ineg dX6_endsCover_24 ?_
  refine g_top (iI_neg _) ?_
  refine q_V (u' := 0) lX6_90 kX6_gains (mX6_gains (p := -(s_worth (s_h1 A l9) l9 (aF A 13 l9).toNat)) hM1 (by omega) (by omega) k2b) dX6_endsCover_25 rfl rfl rfl rfl rfl rfl rfl rfl (fun v h25 hq => ?_) (fun _ _ q => q.elim)
  obtain ⟨rfl, hM2, hF2⟩ := hq
  dsimp only [Option.toList, List.cons_append, List.nil_append]
  refine g_aload_n dX6_endsCover_28 rfl ?_
  refine g_getr (q := 193) fX6_9 dX6_endsCover_29 rfl rfl rfl ?_
  refine g_iload_n dX6_endsCover_32 rfl ?_
  refine f1_S (u' := 0) lX6_47 kX6_lessonAt (mX6_lessonAt) dX6_endsCover_33 rfl rfl rfl rfl rfl rfl ?_
  refine g_iconst (v := 5) dX6_endsCover_36 (by decide) ?_
  refine g_iadd dX6_endsCover_37 ?_
  refine g_top (y := nI (56 + 8 * l9 + 5)) (by rw [show (5 : Int32) = nI 5 by decide, nI_add]) ?_
  refine g_iconst (v := (-1)) dX6_endsCover_38 (by decide) ?_
  refine g_iast dX6_endsCover_39 rfl (show 56 + 8 * l9 + 5 < 376 by omega) rfl ?_
  refine g_iload_n dX6_endsCover_40 rfl ?_
  refine g_ireturn dX6_endsCover_41 rfl rfl (by decide) ?_
  refine ⟨rfl, ?_, x_fm_tr hF1 (x_fm_tr hF2 (x_fm_si _ _ _))⟩
  unfold s_endc
  rw [if_neg (by omega), e13]
  exact rM_aU (f := 13) (v := -1) hM2 (show (s_h1 A l9).1 ≤ 8 by omega) (show (s_h1 A l9).2.1 ≤ 40 by omega) (in_l rfl k3b) rfl
set_option maxRecDepth 100000 in
theorem mX6_endsAll {l : Launch} {G : ux_G} {h : ux_H} {l9 : Nat} {A : Ab} {P : Nat} (hM : rM 193 0 A h) (hI : Inv P A) (hH : HO A) (h3 : H3 A) (hP : P + 90 ≤ 10000000) (hl : l9 < A.2.1) : ux_M l G yX6_endsAll iX6_endsAll 10 0 [.ref 192, .int (nI l9)] h (fun v h' => v = some (.int (nI (s_ealn A l9))) ∧ rM 193 0 (s_eall A l9) h' ∧ x_fm h h') (fun _ _ => False) := by
  refine ux_ent (L' := [some (.ref 192), some (.int (nI l9)), none]) kX6_endsAll rfl rfl rfl rfl ?_
  obtain ⟨i1, i2, i3, i4, i5, i6⟩ := id hI
  have il := i6 l9 hl
  refine g_iconst (v := 0) dX6_endsAll_0 (by decide) ?_
  refine s_i (i := 2) dX6_endsAll_1 rfl rfl rfl rfl ?_
  dsimp only [List.set]
  refine g_aload_n dX6_endsAll_2 rfl ?_
  refine g_iload_n dX6_endsAll_3 rfl ?_
  refine g_iconst (v := 5) dX6_endsAll_4 (by decide) ?_
  refine f1_V (u' := 0) lX6_78 kX6_of (mX6_of (f := 13) hM (by omega) rfl (by assumption)) dX6_endsAll_5 rfl rfl rfl rfl rfl rfl rfl rfl ?_
  refine g_iconst (v := (-1)) dX6_endsAll_8 (by decide) ?_
  refine g_icmp_eq (tgt := 33) dX6_endsAll_9 (by decide) (fun c9 => ?_) (fun c9 => ?_)
  · rw [xqm (by omega) (by omega)] at c9
    refine g_aload_n dX6_endsAll_33 rfl ?_
    refine g_iload_n dX6_endsAll_34 rfl ?_
    refine g_bipush (v := 6) dX6_endsAll_35 (by decide) ?_
    refine f1_V (u' := 0) lX6_78 kX6_of (mX6_of (f := 14) hM (by omega) rfl (by assumption)) dX6_endsAll_37 rfl rfl rfl rfl rfl rfl rfl rfl ?_
    refine g_iconst (v := (-1)) dX6_endsAll_40 (by decide) ?_
    refine g_icmp_eq (tgt := 61) dX6_endsAll_41 (by decide) (fun c41 => ?_) (fun c41 => ?_)
    · rw [xqm (by omega) (by omega)] at c41
      refine g_iload_n dX6_endsAll_61 rfl ?_
      refine g_ireturn dX6_endsAll_62 rfl rfl (by decide) ?_
      unfold s_eall s_ealn
      first | rw [if_pos c9, if_pos c9] | rw [if_neg (fun y => y c9), if_pos c41, if_neg (fun y => y c9), if_pos c41] | rw [if_neg (fun y => y c9), if_neg (fun y => y c41), if_neg (fun y => y c9), if_neg (fun y => y c41)]
      first | exact ⟨rfl, hM, x_fm_rf h⟩ | exact ⟨rfl, rM_aU (f := 0) (j := 2) hM1 (by omega) (by omega) (Or.inl ⟨rfl, Or.inl rfl⟩) (by rw [rM_0 hM1 (Or.inl rfl)]; exact iI_add _ 1), x_fm_tr hF1 (x_fm_si _ _ _)⟩ | exact ⟨rfl, rM_aU (f := 0) (j := 3) hM1 i1 i2 (Or.inl ⟨rfl, Or.inr rfl⟩) (by rw [rM_0 hM1 (Or.inr rfl)]; exact iI_add _ 1), x_fm_tr hF1 (x_fm_si _ _ _)⟩
    · rw [xqm (by omega) (by omega)] at c41
      refine g_aload_n dX6_endsAll_44 rfl ?_
      refine g_iload_n dX6_endsAll_45 rfl ?_
      refine q_V (u' := 0) lX6_94 kX6_endsSplit (mX6_endsSplit hM hI hH (by omega) hl c41) dX6_endsAll_46 rfl rfl rfl rfl rfl rfl rfl rfl (fun v h46 hq => ?_) (fun _ _ q => q.elim)
      obtain ⟨rfl, hM1, hF1⟩ := hq
      dsimp only [Option.toList, List.cons_append, List.nil_append]
      refine g_aload_n dX6_endsAll_49 rfl ?_
      refine g_getr (q := 193) fX6_9 dX6_endsAll_50 rfl rfl rfl ?_
      refine g_iconst (v := 3) dX6_endsAll_53 (by decide) ?_
      refine g_dup2 dX6_endsAll_54 rfl rfl ?_
      refine g_iald dX6_endsAll_55 (j := 3) rfl (show 3 < 376 by decide) rfl ?_
      refine g_iconst (v := 1) dX6_endsAll_56 (by decide) ?_
      refine g_iadd dX6_endsAll_57 ?_
      refine g_iast dX6_endsAll_58 (j := 3) rfl (show 3 < 376 by decide) rfl ?_
      refine g_iconst (v := 1) dX6_endsAll_59 (by decide) ?_
      refine s_i (i := 2) dX6_endsAll_60 rfl rfl rfl rfl ?_
      dsimp only [List.set]
      refine g_iload_n dX6_endsAll_61 rfl ?_
      refine g_ireturn dX6_endsAll_62 rfl rfl (by decide) ?_
      unfold s_eall s_ealn
      first | rw [if_pos c9, if_pos c9] | rw [if_neg (fun y => y c9), if_pos c41, if_neg (fun y => y c9), if_pos c41] | rw [if_neg (fun y => y c9), if_neg (fun y => y c41), if_neg (fun y => y c9), if_neg (fun y => y c41)]
      first | exact ⟨rfl, hM, x_fm_rf h⟩ | exact ⟨rfl, rM_aU (f := 0) (j := 2) hM1 (by omega) (by omega) (Or.inl ⟨rfl, Or.inl rfl⟩) (by rw [rM_0 hM1 (Or.inl rfl)]; exact iI_add _ 1), x_fm_tr hF1 (x_fm_si _ _ _)⟩ | exact ⟨rfl, rM_aU (f := 0) (j := 3) hM1 i1 i2 (Or.inl ⟨rfl, Or.inr rfl⟩) (by rw [rM_0 hM1 (Or.inr rfl)]; exact iI_add _ 1), x_fm_tr hF1 (x_fm_si _ _ _)⟩
  · rw [xqm (by omega) (by omega)] at c9
    refine g_iconst (v := 1) dX6_endsAll_12 (by decide) ?_
    refine g_aload_n dX6_endsAll_13 rfl ?_
    refine g_iload_n dX6_endsAll_14 rfl ?_
    refine q_V (u' := 0) lX6_104 kX6_endsCover (mX6_endsCover hM hI hH h3 (by omega) (by assumption) (by assumption)) dX6_endsAll_15 rfl rfl rfl rfl rfl rfl rfl rfl (fun v h15 hq => ?_) (fun _ _ q => q.elim)
    obtain ⟨rfl, hM1, hF1⟩ := hq
    obtain ⟨k1, k2, k3⟩ := s_h1_I (i := l9) hI hH (by omega)
    obtain ⟨m1, m2, m3⟩ := s_endc_I (i := l9) k1 (by omega)
    dsimp only [Option.toList, List.cons_append, List.nil_append]
    refine g_iadd dX6_endsAll_18 ?_
    refine g_top (y := nI (1 + s_h1n A l9)) (by rw [show (1 : Int32) = nI 1 by decide, nI_add]) ?_
    refine s_i (i := 2) dX6_endsAll_19 rfl rfl rfl rfl ?_
    dsimp only [List.set]
    refine g_aload_n dX6_endsAll_20 rfl ?_
    refine g_getr (q := 193) fX6_9 dX6_endsAll_21 rfl rfl rfl ?_
    refine g_iconst (v := 2) dX6_endsAll_24 (by decide) ?_
    refine g_dup2 dX6_endsAll_25 rfl rfl ?_
    refine g_iald dX6_endsAll_26 (j := 2) rfl (show 2 < 376 by decide) rfl ?_
    refine g_iconst (v := 1) dX6_endsAll_27 (by decide) ?_
    refine g_iadd dX6_endsAll_28 ?_
    refine g_iast dX6_endsAll_29 (j := 2) rfl (show 2 < 376 by decide) rfl ?_
    refine g_goto (tgt := 61) dX6_endsAll_30 (by decide) ?_
    refine g_iload_n dX6_endsAll_61 rfl ?_
    refine g_ireturn dX6_endsAll_62 rfl rfl (by decide) ?_
    unfold s_eall s_ealn
    first | rw [if_pos c9, if_pos c9] | rw [if_neg (fun y => y c9), if_pos c41, if_neg (fun y => y c9), if_pos c41] | rw [if_neg (fun y => y c9), if_neg (fun y => y c41), if_neg (fun y => y c9), if_neg (fun y => y c41)]
    first | exact ⟨rfl, hM, x_fm_rf h⟩ | exact ⟨rfl, rM_aU (f := 0) (j := 2) hM1 (by omega) (by omega) (Or.inl ⟨rfl, Or.inl rfl⟩) (by rw [rM_0 hM1 (Or.inl rfl)]; exact iI_add _ 1), x_fm_tr hF1 (x_fm_si _ _ _)⟩ | exact ⟨rfl, rM_aU (f := 0) (j := 3) hM1 i1 i2 (Or.inl ⟨rfl, Or.inr rfl⟩) (by rw [rM_0 hM1 (Or.inr rfl)]; exact iI_add _ 1), x_fm_tr hF1 (x_fm_si _ _ _)⟩
set_option maxRecDepth 100000 in
theorem mX6_begins {l : Launch} {G : ux_G} {h : ux_H} {i t : Nat} {A : Ab} {P : Nat} (hM : rM 193 0 A h) (hI : Inv P A) (hi : i < A.2.1) (ht : t < A.1) (hP : P + 6 ≤ 10000000) : ux_M l G yX6_begins iX6_begins 6 0 [.ref 192, .int (nI i), .int (nI t)] h (fun v h' => v = some (.int (iI (s_worth A i t))) ∧ rM 193 0 (s_begin A i t) h' ∧ x_fm h h') (fun _ _ => False) := by
  refine ux_ent (L' := [some (.ref 192), some (.int (nI i)), some (.int (nI t))]) kX6_begins rfl rfl rfl rfl ?_
  obtain ⟨i1, i2, i3, i4, i5, i6⟩ := id hI
  refine g_aload_n dX6_begins_0 rfl ?_
  refine g_getr (q := 193) fX6_9 dX6_begins_1 rfl rfl rfl ?_
  refine g_iload_n dX6_begins_4 rfl ?_
  refine f1_S (u' := 0) lX6_47 kX6_lessonAt (mX6_lessonAt) dX6_begins_5 rfl rfl rfl rfl rfl rfl ?_
  refine g_iconst (v := 5) dX6_begins_8 (by decide) ?_
  refine g_iadd dX6_begins_9 ?_
  refine g_top (y := nI (56 + 8 * i + 5)) (by rw [show (5 : Int32) = nI 5 by decide, nI_add]) ?_
  refine g_iload_n dX6_begins_10 rfl ?_
  refine g_iast dX6_begins_11 rfl (show 56 + 8 * i + 5 < 376 by omega) rfl ?_
  have hM0 : rM 193 0 (aU A 13 i t) (xsi h 193 (56 + 8 * i + 5) (nI t)) := rM_aU (f := 13) (v := (t : Int)) hM i1 i2 (in_l rfl hi) (nI_iI t)
  have hI0 : Inv P (aU A 13 i t) := Inv_13 hI ⟨by omega, by omega⟩
  refine g_aload_n dX6_begins_12 rfl ?_
  refine g_iload_n dX6_begins_13 rfl ?_
  refine g_aload_n dX6_begins_14 rfl ?_
  refine g_iload_n dX6_begins_15 rfl ?_
  refine g_iload_n dX6_begins_16 rfl ?_
  refine f1_V (u' := 0) lX6_101 kX6_worth (mX6_worth hM0 hI0 hi ht) dX6_begins_17 rfl rfl rfl rfl rfl rfl rfl rfl ?_
  refine q_V (u' := 0) lX6_90 kX6_gains (mX6_gains (p := s_worth (aU A 13 i t) i t) hM0 i1 i2 ht) dX6_begins_20 rfl rfl rfl rfl rfl rfl rfl rfl (fun v h20 hq => ?_) (fun _ _ q => q.elim)
  obtain ⟨rfl, hM1, hF1⟩ := hq
  have hI1 : Inv (P + 6) (s_begin A i t) := s_begin_I hI ht hP
  dsimp only [Option.toList, List.cons_append, List.nil_append]
  refine g_aload_n dX6_begins_23 rfl ?_
  refine g_iload_n dX6_begins_24 rfl ?_
  refine g_iload_n dX6_begins_25 rfl ?_
  refine f1_V (u' := 0) lX6_101 kX6_worth (mX6_worth (A := s_begin A i t) hM1 hI1 hi ht) dX6_begins_26 rfl rfl rfl rfl rfl rfl rfl rfl ?_
  refine g_ireturn dX6_begins_29 rfl rfl (by decide) ?_
  exact ⟨rfl, hM1, x_fm_tr (x_fm_si _ _ _) hF1⟩
