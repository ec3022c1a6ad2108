/-! THE CLASS: ends of all kinds, absences, new teachers and lessons, removal. -/
theorem rC_0 {A : Ab} {h : ux_H} {j : Nat} (hC : rC 0 A h) (hj : j = 2 ∨ j = 3) : xgi h 0 j = iI (aF A 0 j) := by
  have := hC.2.2 0 j (Or.inl ⟨rfl, hj⟩)
  rwa [Nat.zero_add] at this
theorem Inv_0 {P : Nat} {A : Ab} {j : Nat} {v : Int} (hI : Inv P A) : Inv P (aU A 0 j v) := by
  obtain ⟨i1, i2, i3, i4, i5, i6⟩ := hI
  have n : ∀ a b, 1 ≤ a → aF (aU A 0 j v) a b = aF A a b := fun a b ha => aF_ne A (by omega)
  refine ⟨i1, i2, i3, fun t ht => ?_, fun c hc => ?_, fun i hi => ?_⟩
  · rw [n 1 t (by decide), n 2 t (by decide), n 3 t (by decide), n 4 t (by decide), n 5 t (by decide)]; exact i4 t ht
  · rw [n 6 c (by decide), n 7 c (by decide)]; exact i5 c hc
  · rw [n 8 i (by decide), n 9 i (by decide), n 10 i (by decide), n 11 i (by decide), n 12 i (by decide), n 13 i (by decide), n 14 i (by decide), n 15 i (by decide)]; exact i6 i hi
/-- behind the splittings with i: the school, their count kept -/
def s_e1 (A : Ab) (i : Nat) : Ab := aU (s_esw (s_swi i) A A.2.1).1 0 3 (aF (s_esw (s_swi i) A A.2.1).1 0 3 + (s_esw (s_swi i) A A.2.1).2)
def s_eaw (A : Ab) (i : Nat) : Ab := aU (s_endc (s_e1 A i) i) 0 2 (aF (s_endc (s_e1 A i) i) 0 2 + s_ecn (s_e1 A i) i)
def s_ean (A : Ab) (i : Nat) : Nat := (s_esw (s_swi i) A A.2.1).2 + s_ecn (s_e1 A i) i
theorem s_e1_I {P : Nat} {A : Ab} {i : Nat} (hI : Inv P A) (hH : HO A) (hP : P + 80 ≤ 10000000) : Inv (P + 80) (s_e1 A i) ∧ (s_e1 A i).1 = A.1 ∧ (s_e1 A i).2.1 = A.2.1 := by
  have h2 := hI.2.1
  obtain ⟨a, b, c, d, e⟩ := s_esw_I (sw := s_swi i) hI hH A.2.1 (by omega)
  exact ⟨Inv_0 (Inv_mono a (by omega) hP), c, d⟩
theorem s_endc_I {P : Nat} {A : Ab} {i : Nat} (hI : Inv P A) (hP : P + 6 ≤ 10000000) : Inv (P + 6) (s_endc A i) ∧ (s_endc A i).1 = A.1 ∧ (s_endc A i).2.1 = A.2.1 := by
  unfold s_endc
  split
  · exact ⟨Inv_mono hI (by omega) hP, rfl, rfl⟩
  · have w := s_worth_r A i (aF A 13 i).toNat
    exact ⟨Inv_13 (Inv_add (B := 6) hI (by omega) hP) ⟨Int.le_refl _, by show (-1 : Int) < (A.1 : Int); omega⟩, rfl, rfl⟩
theorem s_eaw_I {P : Nat} {A : Ab} {i : Nat} (hI : Inv P A) (hH : HO A) (hP : P + 86 ≤ 10000000) : Inv (P + 86) (s_eaw A i) ∧ (s_eaw A i).1 = A.1 ∧ (s_eaw A i).2.1 = A.2.1 := by
  obtain ⟨a, b, c⟩ := s_e1_I (i := i) hI hH (by omega)
  obtain ⟨d, e, f⟩ := s_endc_I (i := i) a (by omega)
  exact ⟨Inv_0 d, e.trans b, f.trans c⟩
set_option maxRecDepth 100000 in
theorem mX4_endAllWith {l : Launch} {G : ux_G} {h : ux_H} {i : Nat} {A : Ab} {P : Nat} (hC : rC 0 A h) (hI : Inv P A) (hH : HO A) (hP : P + 86 ≤ 10000000) (hi : i < A.2.1) : ux_M l G yX4_endAllWith iX4_endAllWith 6 0 [.ref 0, .int (nI i)] h (fun v h' => v = some (.int (nI (s_ean A i))) ∧ rC 0 (s_eaw A i) h' ∧ x_fr h h') (fun _ _ => False) := by
  refine ux_ent (L' := [some (.ref 0), some (.int (nI i)), none, none]) kX4_endAllWith rfl rfl rfl rfl ?_
  obtain ⟨i1, i2, i3, i4, i5, i6⟩ := id hI
  refine g_aload_n dX4_endAllWith_0 rfl ?_
  refine g_iload_n dX4_endAllWith_1 rfl ?_
  refine q_V (u' := 0) lX4_186 kX4_endSplitsWith (mX4_endSplitsWith hC hI hH (by omega) (by omega)) dX4_endAllWith_2 rfl rfl rfl rfl rfl rfl rfl rfl (fun v h2 hq => ?_) (fun _ _ q => q.elim)
  obtain ⟨rfl, hC1, hF1⟩ := hq
  have hC1 : rC 0 (s_e1 A i) h2 := hC1
  obtain ⟨ja, jb, jc⟩ := s_e1_I (i := i) hI hH (by omega)
  dsimp only [Option.toList, List.cons_append, List.nil_append]
  refine s_i (i := 2) dX4_endAllWith_5 rfl rfl rfl rfl ?_
  dsimp only [List.set]
  refine g_aload_n dX4_endAllWith_6 rfl ?_
  refine g_iload_n dX4_endAllWith_7 rfl ?_
  refine q_V (u' := 0) lX4_189 kX4_endCover (mX4_endCover hC1 ja (by omega)) dX4_endAllWith_8 rfl rfl rfl rfl rfl rfl rfl rfl (fun v h8 hq => ?_) (fun _ _ q => q.elim)
  obtain ⟨rfl, hC2, hF2⟩ := hq
  dsimp only [Option.toList, List.cons_append, List.nil_append]
  refine s_i (i := 3) dX4_endAllWith_11 rfl rfl rfl rfl ?_
  dsimp only [List.set]
  refine g_aload_n dX4_endAllWith_12 rfl ?_
  refine g_dup dX4_endAllWith_13 rfl ?_
  refine g_geti fX4_18 dX4_endAllWith_14 rfl rfl ?_
  refine g_top (rC_0 hC2 (Or.inl rfl)) ?_
  refine g_iload_n dX4_endAllWith_17 rfl ?_
  refine g_iadd dX4_endAllWith_18 ?_
  refine g_top (y := iI (aF (s_endc (s_e1 A i) i) 0 2 + s_ecn (s_e1 A i) i)) (by rw [nI_iI, iI_add]) ?_
  refine g_puti pX4_18 dX4_endAllWith_19 rfl rfl ?_
  refine g_iload_n dX4_endAllWith_22 rfl ?_
  refine g_iload_n dX4_endAllWith_23 rfl ?_
  refine g_iadd dX4_endAllWith_24 ?_
  refine g_top (nI_add _ _) ?_
  refine g_ireturn dX4_endAllWith_25 rfl rfl (by decide) ?_
  exact ⟨rfl, rC_aU0 hC2 rfl (by decide), x_fr_tr hF1 (x_fr_tr hF2 (x_fr_si h8 2 _ (by decide)))⟩
/-- a kind of splitting that looks at the two hosts alone -/
def s_swl (sw : Ab → Nat → Bool) : Prop := ∀ (B B' : Ab) (m : Nat), aF B 14 m = aF B' 14 m → aF B 15 m = aF B' 15 m → sw B m = sw B' m
theorem s_swi_l (i : Nat) : s_swl (s_swi i) := fun B B' m h1 h2 => by unfold s_swi s_sw; rw [h1, h2]
/-- what the ends of splittings leave in the fields -/
theorem s_esw_aF {sw : Ab → Nat → Bool} (hs : s_swl sw) (A : Ab) : ∀ (n f m : Nat), f ≠ 4 → aF (s_esw sw A n).1 f m = if (f = 14 ∨ f = 15) ∧ m < n ∧ sw A m = true then -1 else aF A f m := by
  intro n
  induction n with
  | zero => intro f m _; rw [if_neg (by omega)]; rfl
  | succ n ih =>
    intro f m hf
    have e14 : aF (s_esw sw A n).1 14 n = aF A 14 n := by rw [ih 14 n (by decide), if_neg (by omega)]
    have e15 : aF (s_esw sw A n).1 15 n = aF A 15 n := by rw [ih 15 n (by decide), if_neg (by omega)]
    have eS := hs _ _ n e14 e15
    by_cases q : sw (s_esw sw A n).1 n = true
    · rw [s_esw_t q]
      show aF (s_ends (s_esw sw A n).1 n) f m = _
      rw [s_ends_aF _ _ _ _ hf]
      by_cases e : m = n
      · subst e
        rw [eS] at q
        by_cases z : f = 14 ∨ f = 15
        · rw [if_pos ⟨z, rfl⟩, if_pos ⟨z, by omega, q⟩]
        · rw [if_neg (fun y => z y.1), if_neg (fun y => z y.1), ih f m hf, if_neg (fun y => z y.1)]
      · rw [if_neg (fun y => e y.2), ih f m hf]
        by_cases z : (f = 14 ∨ f = 15) ∧ m < n ∧ sw A m = true
        · rw [if_pos z, if_pos ⟨z.1, by omega, z.2.2⟩]
        · rw [if_neg z, if_neg (fun y => z ⟨y.1, by omega, y.2.2⟩)]
    · rw [s_esw_f q, ih f m hf]
      rw [eS] at q
      by_cases z : (f = 14 ∨ f = 15) ∧ m < n ∧ sw A m = true
      · rw [if_pos z, if_pos ⟨z.1, by omega, z.2.2⟩]
      · rw [if_neg z, if_neg (fun y => ?_)]
        rcases Nat.lt_or_eq_of_le (Nat.le_of_lt_succ y.2.1) with w | w
        · exact z ⟨y.1, w, y.2.2⟩
        · rw [w] at y; exact q y.2.2
theorem s_gone_of {A B : Ab} {i : Nat} (h5 : ∀ t, aF B 5 t = aF A 5 t) (h8 : aF B 8 i = aF A 8 i) (h11 : aF B 11 i = aF A 11 i) : s_gone B i = s_gone A i := by
  unfold s_gone s_away s_own
  rw [h5, h8, h11]
theorem s_act_of {A B : Ab} {i : Nat} (h5 : ∀ t, aF B 5 t = aF A 5 t) (h8 : aF B 8 i = aF A 8 i) (h11 : aF B 11 i = aF A 11 i) (h13 : aF B 13 i = aF A 13 i) : s_act B i = s_act A i := by
  unfold s_act
  rw [s_gone_of h5 h8 h11, h11, h13]
/-- the fields behind all ends with i -/
theorem s_eaw_aF (A : Ab) (i f m : Nat) (hf : f ≠ 4) (h0 : f ≠ 0) (hm : m < A.2.1) : aF (s_eaw A i) f m = if (f = 14 ∨ f = 15) ∧ s_sw A m i = true then -1 else if f = 13 ∧ m = i then -1 else aF A f m := by
  have e1 : ∀ a b, a ≠ 4 → a ≠ 0 → aF (s_e1 A i) a b = if (a = 14 ∨ a = 15) ∧ b < A.2.1 ∧ s_sw A b i = true then -1 else aF A a b := by
    intro a b ha h0
    unfold s_e1
    rw [aF_ne _ (by omega), s_esw_aF (s_swi_l i) A A.2.1 a b ha]
    rfl
  unfold s_eaw
  rw [aF_ne _ (by omega)]
  unfold s_endc
  by_cases c : aF (s_e1 A i) 13 i = -1
  · rw [if_pos c, e1 f m hf h0]
    by_cases z : (f = 14 ∨ f = 15) ∧ s_sw A m i = true
    · rw [if_pos ⟨z.1, hm, z.2⟩, if_pos z]
    · rw [if_neg (fun y => z ⟨y.1, y.2.2⟩), if_neg z]
      by_cases w : f = 13 ∧ m = i
      · rw [if_pos w]
        rw [e1 13 i (by decide) (by decide), if_neg (by omega)] at c
        rw [w.1, w.2, c]
      · rw [if_neg w]
  · rw [if_neg c, aF_aU]
    by_cases w : f = 13 ∧ m = i
    · rw [if_pos w, if_neg (by omega), if_pos w]
    · rw [if_neg w]
      have e4 : ∀ B : Ab, ∀ t v, aF (s_add B t v) f m = aF B f m := fun B t v => aF_ne B (by omega)
      rw [e4, e1 f m hf h0]
      by_cases z : (f = 14 ∨ f = 15) ∧ s_sw A m i = true
      · rw [if_pos ⟨z.1, hm, z.2⟩, if_pos z]
      · rw [if_neg (fun y => z ⟨y.1, y.2.2⟩), if_neg z, if_neg w]
theorem s_eaw_5 (A : Ab) (i t : Nat) (f : Nat) (hf : f < 13 ∧ f ≠ 4 ∧ f ≠ 0) : aF (s_eaw A i) f t = aF A f t := by
  unfold s_eaw
  rw [aF_ne _ (by omega)]
  have e1 : aF (s_e1 A i) f t = aF A f t := by
    unfold s_e1
    rw [aF_ne _ (by omega), s_esw_aF (s_swi_l i) A A.2.1 f t (by omega), if_neg (by omega)]
  unfold s_endc
  split
  · exact e1
  · rw [aF_ne _ (by omega)]
    unfold s_add
    rw [aF_ne _ (by omega)]
    exact e1
theorem HO_eaw {P : Nat} {A : Ab} {i : Nat} (hI : Inv P A) (hH : HO A) : HO (s_eaw A i) := by
  intro m hm h14
  have hlc : (s_eaw A i).2.1 = A.2.1 := by
    unfold s_eaw s_endc s_e1
    have e9 : ∀ n, (s_esw (s_swi i) A n).1.2.1 = A.2.1 := by
      intro n
      induction n with
      | zero => rfl
      | succ n ih =>
        by_cases q : s_swi i (s_esw (s_swi i) A n).1 n = true
        · rw [s_esw_t q]; exact ih
        · rw [s_esw_f q]; exact ih
    split <;> exact e9 _
  rw [hlc] at hm
  rw [s_eaw_aF A i 14 m (by decide) (by decide) hm] at h14 ⊢
  rw [s_eaw_aF A i 15 m (by decide) (by decide) hm]
  by_cases q : s_sw A m i = true
  · rw [if_pos ⟨Or.inl rfl, q⟩] at h14; exact absurd rfl h14
  · rw [if_neg (fun y => q y.2), if_neg (by omega)] at h14 ⊢
    rw [if_neg (fun y => q y.2), if_neg (by omega)]
    obtain ⟨a, b, c⟩ := hH m hm h14
    have il := hI.2.2.2.2.2 m hm
    have q2 : ¬ aF A 14 m = i ∧ ¬ aF A 15 m = i := by
      unfold s_sw at q
      simp only [Bool.and_eq_true, Bool.or_eq_true, decide_eq_true_eq, not_and, not_or] at q
      exact ⟨(q h14).1.2, (q h14).2⟩
    have go : ∀ j, j < A.2.1 → j ≠ i → s_act (s_eaw A i) j = s_act A j := by
      intro j hj hji
      refine s_act_of (fun t => s_eaw_5 A i t 5 (by decide)) (s_eaw_5 A i j 8 (by decide)) (s_eaw_5 A i j 11 (by decide)) ?_
      rw [s_eaw_aF A i 13 j (by decide) (by decide) hj, if_neg (by omega), if_neg (fun y => hji y.2)]
    rw [go _ (by omega) (by omega), go _ (by omega) (by omega)]
    exact ⟨a, b, c⟩
/-- a teacher's absence in a slot turns -/
def s_flip (x s : Int) : Int := (iI x ^^^ ((1 : Int32) <<< (iI s &&& 31))).toInt
def s_ei (A : Ab) (x : Int) : Ab := if x = -1 then A else s_eaw A x.toNat
def s_en (A : Ab) (x : Int) : Nat := if x = -1 then 0 else s_ean A x.toNat
def s_t1 (A : Ab) (t : Nat) (s : Int) : Ab := s_ei A (s_find A 11 s t)
def s_t2 (A : Ab) (t : Nat) (s : Int) : Ab := s_ei (s_t1 A t s) (s_find (s_t1 A t s) 13 s t)
def s_turn (A : Ab) (t : Nat) (s : Int) : Ab := aU (s_t2 A t s) 5 t (s_flip (aF (s_t2 A t s) 5 t) s)
def s_turnn (A : Ab) (t : Nat) (s : Int) : Nat := s_en A (s_find A 11 s t) + s_en (s_t1 A t s) (s_find (s_t1 A t s) 13 s t)
theorem s_ei_I {P : Nat} {A : Ab} {x : Int} (hI : Inv P A) (hH : HO A) (hP : P + 86 ≤ 10000000) : Inv (P + 86) (s_ei A x) ∧ HO (s_ei A x) ∧ (s_ei A x).1 = A.1 ∧ (s_ei A x).2.1 = A.2.1 := by
  unfold s_ei
  split
  · exact ⟨Inv_mono hI (by omega) hP, hH, rfl, rfl⟩
  · obtain ⟨a, b, c⟩ := s_eaw_I (i := x.toNat) hI hH hP
    exact ⟨a, HO_eaw hI hH, b, c⟩
set_option maxRecDepth 100000 in
theorem w3_turn {l : Launch} {G : ux_G} {h0 : ux_H} {A : Ab} {P t : Nat} {s : Int} (hI : Inv P A) (hH : HO A) (hP : P + 172 ≤ 10000000) (ht : t < A.1) (hs : 0 ≤ s ∧ s < 30) {h : ux_H} {x y : Int32} (hC : rC 0 (s_t2 A t s) h) (hF : x_fr h0 h) (h1 : (s_t2 A t s).1 = A.1) : ux_W l G iX4_turnAbsence (ux_rm 7 0) (ux_Z G 0 (fun v h' => v = some (.int (nI (s_turnn A t s))) ∧ rC 0 (s_turn A t s) h' ∧ x_fr h0 h') (fun _ _ => False)) 56 [some (.ref 0), some (.int (nI t)), some (.int (iI s)), some (.int (nI (s_turnn A t s))), some (.int x), some (.int y)] [] h 0 := by
  obtain ⟨i1, i2, i3, i4, i5, i6⟩ := id hI
  refine g_aload_n dX4_turnAbsence_56 rfl ?_
  refine g_getr (q := 5) fX4_37 dX4_turnAbsence_57 rfl rfl rfl ?_
  refine g_iload_n dX4_turnAbsence_60 rfl ?_
  refine g_aload_n dX4_turnAbsence_61 rfl ?_
  refine g_getr (q := 5) fX4_37 dX4_turnAbsence_62 rfl rfl rfl ?_
  refine g_iload_n dX4_turnAbsence_65 rfl ?_
  refine f1_SN (u' := 0) lX4_85 kX5_at (mA_t (f := 5) hC (by omega) (by omega) rfl) dX4_turnAbsence_66 rfl rfl rfl rfl rfl rfl ?_
  refine g_iconst (v := 1) dX4_turnAbsence_69 (by decide) ?_
  refine g_iload_n dX4_turnAbsence_70 rfl ?_
  refine g_ishl dX4_turnAbsence_71 ?_
  refine g_ixor dX4_turnAbsence_72 ?_
  refine f0_SN (u' := 0) lX4_81 kX5_put (mP_t (f := 5) (by omega) rfl) dX4_turnAbsence_73 rfl rfl rfl rfl rfl rfl ?_
  refine g_iload_n dX4_turnAbsence_76 rfl ?_
  refine g_ireturn dX4_turnAbsence_77 rfl rfl (by decide) ?_
  refine ⟨rfl, rC_aU hC ?_ (by decide), x_fr_tr hF (x_fr_si h t _ (by decide))⟩
  unfold s_flip; exact iI_of _
set_option maxRecDepth 100000 in
theorem w2_turn {l : Launch} {G : ux_G} {h0 : ux_H} {A : Ab} {P t : Nat} {s : Int} (hI : Inv P A) (hH : HO A) (hP : P + 172 ≤ 10000000) (ht : t < A.1) (hs : 0 ≤ s ∧ s < 30) {h : ux_H} {x : Int32} (hC : rC 0 (s_t1 A t s) h) (hF : x_fr h0 h) : ux_W l G iX4_turnAbsence (ux_rm 7 0) (ux_Z G 0 (fun v h' => v = some (.int (nI (s_turnn A t s))) ∧ rC 0 (s_turn A t s) h' ∧ x_fr h0 h') (fun _ _ => False)) 29 [some (.ref 0), some (.int (nI t)), some (.int (iI s)), some (.int (nI (s_en A (s_find A 11 s t)))), some (.int x), none] [] h 0 := by
  obtain ⟨i1, i2, i3, i4, i5, i6⟩ := id hI
  obtain ⟨jI, jH, j1, j2⟩ := s_ei_I (x := s_find A 11 s t) hI hH (by omega)
  have jI : Inv (P + 86) (s_t1 A t s) := jI
  have jH : HO (s_t1 A t s) := jH
  have j1 : (s_t1 A t s).1 = A.1 := j1
  have j2 : (s_t1 A t s).2.1 = A.2.1 := j2
  obtain ⟨-, -, -, -, -, j6⟩ := id jI
  have fr := s_find_r jI 13 s t
  refine g_aload_n dX4_turnAbsence_29 rfl ?_
  refine g_iload_n dX4_turnAbsence_30 rfl ?_
  refine g_aload_n dX4_turnAbsence_31 rfl ?_
  refine g_getr (q := 13) fX4_61 dX4_turnAbsence_32 rfl rfl rfl ?_
  refine g_iload_n dX4_turnAbsence_35 rfl ?_
  refine g_top (nI_iI t) ?_
  refine f1_V (u' := 0) lX4_93 kX4_lessonIn (mX4_lessonIn (f := 13) hC jI rfl (by omega) (by omega) (fun i hi => by have := j6 i hi; omega)) dX4_turnAbsence_36 rfl rfl rfl rfl rfl rfl rfl rfl ?_
  refine s_iw dX4_turnAbsence_39 rfl rfl rfl ?_
  dsimp only [List.set]
  refine g_iload dX4_turnAbsence_41 rfl ?_
  refine g_iconst (v := (-1)) dX4_turnAbsence_43 (by decide) ?_
  refine g_icmp_eq (tgt := 56) dX4_turnAbsence_44 (by decide) (fun c44 => ?_) (fun c44 => ?_)
  · rw [xqm (by omega) (by omega)] at c44
    have e2 : s_t2 A t s = s_t1 A t s := by unfold s_t2 s_ei; rw [if_pos c44]
    have e3 : s_turnn A t s = s_en A (s_find A 11 s t) := by unfold s_turnn; rw [show s_en (s_t1 A t s) (s_find (s_t1 A t s) 13 s t) = 0 from if_pos c44, Nat.add_zero]
    rw [← e2] at hC j1
    rw [← e3]
    exact w3_turn hI hH hP ht hs hC hF j1
  · rw [xqm (by omega) (by omega)] at c44
    refine g_iload_n dX4_turnAbsence_47 rfl ?_
    refine g_aload_n dX4_turnAbsence_48 rfl ?_
    refine g_iload dX4_turnAbsence_49 rfl ?_
    refine g_top (y := nI (s_find (s_t1 A t s) 13 s t).toNat) (iI_get (by omega) (by omega)) ?_
    refine q_V (u' := 0) lX4_130 kX4_endAllWith (mX4_endAllWith hC jI jH (by omega) (by omega)) dX4_turnAbsence_51 rfl rfl rfl rfl rfl rfl rfl rfl (fun v h51 hq => ?_) (fun _ _ q => q.elim)
    obtain ⟨rfl, hC2, hF2⟩ := hq
    dsimp only [Option.toList, List.cons_append, List.nil_append]
    refine g_iadd dX4_turnAbsence_54 ?_
    refine g_top (nI_add _ _) ?_
    refine s_i (i := 3) dX4_turnAbsence_55 rfl rfl rfl rfl ?_
    dsimp only [List.set]
    have e2 : s_t2 A t s = s_eaw (s_t1 A t s) (s_find (s_t1 A t s) 13 s t).toNat := by unfold s_t2 s_ei; rw [if_neg c44]
    have e3 : s_turnn A t s = s_en A (s_find A 11 s t) + s_ean (s_t1 A t s) (s_find (s_t1 A t s) 13 s t).toNat := by unfold s_turnn; rw [show s_en (s_t1 A t s) (s_find (s_t1 A t s) 13 s t) = s_ean (s_t1 A t s) (s_find (s_t1 A t s) 13 s t).toNat from if_neg c44]
    obtain ⟨k1, k2, k3⟩ := s_eaw_I (i := (s_find (s_t1 A t s) 13 s t).toNat) jI jH (by omega)
    rw [← e2] at hC2 k2
    rw [← e3]
    exact w3_turn hI hH hP ht hs hC2 (x_fr_tr hF hF2) (k2.trans j1)
set_option maxRecDepth 100000 in
theorem mX4_turnAbsence {l : Launch} {G : ux_G} {h : ux_H} {t : Nat} {s : Int} {A : Ab} {P : Nat} (hC : rC 0 A h) (hI : Inv P A) (hH : HO A) (hP : P + 172 ≤ 10000000) (ht : t < A.1) (hs : 0 ≤ s ∧ s < 30) : ux_M l G yX4_turnAbsence iX4_turnAbsence 7 0 [.ref 0, .int (nI t), .int (iI s)] h (fun v h' => v = some (.int (nI (s_turnn A t s))) ∧ rC 0 (s_turn A t s) h' ∧ x_fr h h') (fun _ _ => False) := by
  refine ux_ent (L' := [some (.ref 0), some (.int (nI t)), some (.int (iI s)), none, none, none]) kX4_turnAbsence rfl rfl rfl rfl ?_
  obtain ⟨i1, i2, i3, i4, i5, i6⟩ := id hI
  have fr := s_find_r hI 11 s t
  refine g_iconst (v := 0) dX4_turnAbsence_0 (by decide) ?_
  refine s_i (i := 3) dX4_turnAbsence_1 rfl rfl rfl rfl ?_
  dsimp only [List.set]
  refine g_aload_n dX4_turnAbsence_2 rfl ?_
  refine g_iload_n dX4_turnAbsence_3 rfl ?_
  refine g_aload_n dX4_turnAbsence_4 rfl ?_
  refine g_getr (q := 11) fX4_55 dX4_turnAbsence_5 rfl rfl rfl ?_
  refine g_iload_n dX4_turnAbsence_8 rfl ?_
  refine g_top (nI_iI t) ?_
  refine f1_V (u' := 0) lX4_93 kX4_lessonIn (mX4_lessonIn (f := 11) hC hI rfl (by omega) (by omega) (fun i hi => by have := i6 i hi; omega)) dX4_turnAbsence_9 rfl rfl rfl rfl rfl rfl rfl rfl ?_
  refine s_iw dX4_turnAbsence_12 rfl rfl rfl ?_
  dsimp only [List.set]
  refine g_iload dX4_turnAbsence_14 rfl ?_
  refine g_iconst (v := (-1)) dX4_turnAbsence_16 (by decide) ?_
  refine g_icmp_eq (tgt := 29) dX4_turnAbsence_17 (by decide) (fun c17 => ?_) (fun c17 => ?_)
  · rw [xqm (by omega) (by omega)] at c17
    have e2 : s_t1 A t s = A := by unfold s_t1 s_ei; rw [if_pos c17]
    have e3 : s_en A (s_find A 11 s t) = 0 := if_pos c17
    have e4 : (0 : Int32) = nI (s_en A (s_find A 11 s t)) := by rw [e3]; rfl
    rw [← e2] at hC
    rw [e4]
    exact w2_turn hI hH hP ht hs hC (x_fr_rf h)
  · rw [xqm (by omega) (by omega)] at c17
    refine g_iload_n dX4_turnAbsence_20 rfl ?_
    refine g_aload_n dX4_turnAbsence_21 rfl ?_
    refine g_iload dX4_turnAbsence_22 rfl ?_
    refine g_top (y := nI (s_find A 11 s t).toNat) (iI_get (by omega) (by omega)) ?_
    refine q_V (u' := 0) lX4_130 kX4_endAllWith (mX4_endAllWith hC hI hH (by omega) (by omega)) dX4_turnAbsence_24 rfl rfl rfl rfl rfl rfl rfl rfl (fun v h24 hq => ?_) (fun _ _ q => q.elim)
    obtain ⟨rfl, hC2, hF2⟩ := hq
    dsimp only [Option.toList, List.cons_append, List.nil_append]
    refine g_iadd dX4_turnAbsence_27 ?_
    refine g_top (y := nI (s_ean A (s_find A 11 s t).toNat)) (by rw [show (0 : Int32) = nI 0 from rfl, nI_add, Nat.zero_add]) ?_
    refine s_i (i := 3) dX4_turnAbsence_28 rfl rfl rfl rfl ?_
    dsimp only [List.set]
    have e2 : s_t1 A t s = s_eaw A (s_find A 11 s t).toNat := by unfold s_t1 s_ei; rw [if_neg c17]
    have e3 : s_ean A (s_find A 11 s t).toNat = s_en A (s_find A 11 s t) := by unfold s_en; rw [if_neg c17]
    rw [← e2] at hC2
    rw [e3]
    exact w2_turn hI hH hP ht hs hC2 hF2
