/-! THE CLASS: a lesson is dropped; an empty school. -/
def s_dr (A : Ab) (i : Nat) : Ab := (A.1, A.2.1 - 1, fun a b => if 8 ≤ a ∧ a ≤ 15 ∧ i ≤ b then A.2.2 a (b + 1) else A.2.2 a b)
theorem s_dr_aF (A : Ab) (i a b : Nat) : aF (s_dr A i) a b = if 8 ≤ a ∧ a ≤ 15 ∧ i ≤ b then aF A a (b + 1) else aF A a b := rfl
def s_drm (A : Ab) (i : Nat) : Ab := s_mv (s_mv (s_dr A i) 14 i (A.2.1 - 1)) 15 i (A.2.1 - 1)
def s_drop (A : Ab) (i : Nat) : Ab := s_drm (s_eaw A i) i
def x_dr (h : ux_H) (i n : Nat) : ux_H := xsi (xdrop (xdrop (xdrop (xdrop (xdrop (xdrop (xdrop (xdrop h 8 i 39) 9 i 39) 10 i 39) 11 i 39) 12 i 39) 13 i 39) 14 i 39) 15 i 39) 0 1 (iI n)
theorem xdrop_ne (h : ux_H) {k a : Nat} (i n b : Nat) (hn : a ≠ k) : xgi (xdrop h k i n) a b = xgi h a b := by
  rw [xdrop_g, if_neg (by omega)]
theorem rC_dr {A : Ab} {h : ux_H} {i : Nat} (hC : rC 0 A h) (i2 : A.2.1 ≤ 40) (hi : i < A.2.1) {n : Int} (hn : n = (A.2.1 : Int) - 1) : rC 0 (s_dr A i) (xsi (xdrop (xdrop (xdrop (xdrop (xdrop (xdrop (xdrop (xdrop h 8 i 39) 9 i 39) 10 i 39) 11 i 39) 12 i 39) 13 i 39) 14 i 39) 15 i 39) 0 1 (iI n)) := by
  obtain ⟨h1, h2, h3⟩ := hC
  refine ⟨?_, ?_, fun f j hf => ?_⟩
  · rw [xgi_ne _ _ _ _ _ _ (by omega)]
    iterate 8 rw [xdrop_ne _ _ _ _ (by omega)]
    exact h1
  · rw [xgi_si]
    show _ = nI (A.2.1 - 1)
    rw [nI_iI]
    congr 1
    omega
  · rw [Nat.zero_add]
    have hf0 := hf
    unfold a_in at hf
    have e1 : (s_dr A i).1 = A.1 := rfl
    have e2 : (s_dr A i).2.1 = A.2.1 - 1 := rfl
    rw [e1, e2] at hf
    rw [xgi_ne _ _ _ _ _ _ (by omega), s_dr_aF]
    by_cases c : 8 ≤ f ∧ f ≤ 15
    · have hj : j < A.2.1 - 1 := by omega
      have qa := h3 f j (by unfold a_in; omega)
      have qb := h3 f (j + 1) (by unfold a_in; omega)
      rw [Nat.zero_add] at qa qb
      obtain rfl | rfl | rfl | rfl | rfl | rfl | rfl | rfl : f = 8 ∨ f = 9 ∨ f = 10 ∨ f = 11 ∨ f = 12 ∨ f = 13 ∨ f = 14 ∨ f = 15 := by omega
      all_goals
        by_cases d : i ≤ j
        · rw [if_pos ⟨by omega, by omega, d⟩, ← qb]
          simp only [xdrop_g]
          simp [d, show j < 39 by omega]
        · rw [if_neg (by omega), ← qa]
          simp only [xdrop_g]
          simp [d]
    · rw [if_neg (by omega)]
      iterate 8 rw [xdrop_ne _ _ _ _ (by omega)]
      have q := h3 f j (by unfold a_in; omega)
      rwa [Nat.zero_add] at q
theorem x_fr_drop (h : ux_H) {k : Nat} (i n : Nat) (hk : k < 16) : x_fr h (xdrop h k i n) := fun a ha b => by
  unfold xdrop
  rw [if_neg (by omega)]
theorem s_drm_r {A : Ab} {i : Nat} (h14 : ∀ j, j < A.2.1 → -1 ≤ aF A 14 j ∧ aF A 14 j ≤ 100 ∧ -1 ≤ aF A 15 j ∧ aF A 15 j ≤ 100) : ∀ j, j < A.2.1 - 1 → -1 ≤ aF (s_dr A i) 14 j ∧ aF (s_dr A i) 14 j ≤ 100 ∧ -1 ≤ aF (s_mv (s_dr A i) 14 i (A.2.1 - 1)) 15 j ∧ aF (s_mv (s_dr A i) 14 i (A.2.1 - 1)) 15 j ≤ 100 := by
  intro j hj
  rw [s_mv_aF, if_neg (by omega), s_dr_aF, s_dr_aF]
  have qa := h14 j (by omega)
  have qb := h14 (j + 1) (by omega)
  split <;> split <;> omega
set_option maxRecDepth 100000 in
theorem mX4_dropLesson {l : Launch} {G : ux_G} {h : ux_H} {i : Nat} {A : Ab} {P : Nat} (hC : rC 0 A h) (hI : Inv P A) (hH : HO A) (hP : P + 86 ≤ 10000000) (hi : i < A.2.1) : ux_M l G yX4_dropLesson iX4_dropLesson 7 0 [.ref 0, .int (nI i)] h (fun v h' => v = none ∧ rC 0 (s_drop A i) h' ∧ x_fr h h') (fun _ _ => False) := by
  refine ux_ent (L' := [some (.ref 0), some (.int (nI i))]) kX4_dropLesson rfl rfl rfl rfl ?_
  obtain ⟨i1, i2, i3, i4, i5, i6⟩ := id hI
  refine g_aload_n dX4_dropLesson_0 rfl ?_
  refine g_iload_n dX4_dropLesson_1 rfl ?_
  refine q_V (u' := 0) lX4_130 kX4_endAllWith (mX4_endAllWith hC hI hH (by omega) (by omega)) dX4_dropLesson_2 rfl rfl rfl rfl rfl rfl rfl rfl (fun v h2 hq => ?_) (fun _ _ q => q.elim)
  obtain ⟨rfl, hC2, hF2⟩ := hq
  obtain ⟨ja, jb, jc⟩ := s_eaw_I (i := i) hI hH (by omega)
  obtain ⟨-, -, -, -, -, j6⟩ := id ja
  dsimp only [Option.toList, List.cons_append, List.nil_append]
  refine g_pop dX4_dropLesson_5 rfl ?_
  refine g_aload_n dX4_dropLesson_6 rfl ?_
  refine g_getr (q := 8) fX4_46 dX4_dropLesson_7 rfl rfl rfl ?_
  refine g_iload_n dX4_dropLesson_10 rfl ?_
  refine f0_SN (u' := 0) lX4_133 kX5_dropFrom (mX5_dropFrom (k := 8) rfl (show i < 40 by omega)) dX4_dropLesson_11 rfl rfl rfl rfl rfl rfl ?_
  refine g_aload_n dX4_dropLesson_14 rfl ?_
  refine g_getr (q := 9) fX4_49 dX4_dropLesson_15 rfl rfl rfl ?_
  refine g_iload_n dX4_dropLesson_18 rfl ?_
  refine f0_SN (u' := 0) lX4_133 kX5_dropFrom (mX5_dropFrom (k := 9) rfl (show i < 40 by omega)) dX4_dropLesson_19 rfl rfl rfl rfl rfl rfl ?_
  refine g_aload_n dX4_dropLesson_22 rfl ?_
  refine g_getr (q := 10) fX4_52 dX4_dropLesson_23 rfl rfl rfl ?_
  refine g_iload_n dX4_dropLesson_26 rfl ?_
  refine f0_SN (u' := 0) lX4_133 kX5_dropFrom (mX5_dropFrom (k := 10) rfl (show i < 40 by omega)) dX4_dropLesson_27 rfl rfl rfl rfl rfl rfl ?_
  refine g_aload_n dX4_dropLesson_30 rfl ?_
  refine g_getr (q := 11) fX4_55 dX4_dropLesson_31 rfl rfl rfl ?_
  refine g_iload_n dX4_dropLesson_34 rfl ?_
  refine f0_SN (u' := 0) lX4_133 kX5_dropFrom (mX5_dropFrom (k := 11) rfl (show i < 40 by omega)) dX4_dropLesson_35 rfl rfl rfl rfl rfl rfl ?_
  refine g_aload_n dX4_dropLesson_38 rfl ?_
  refine g_getr (q := 12) fX4_58 dX4_dropLesson_39 rfl rfl rfl ?_
  refine g_iload_n dX4_dropLesson_42 rfl ?_
  refine f0_SN (u' := 0) lX4_133 kX5_dropFrom (mX5_dropFrom (k := 12) rfl (show i < 40 by omega)) dX4_dropLesson_43 rfl rfl rfl rfl rfl rfl ?_
  refine g_aload_n dX4_dropLesson_46 rfl ?_
  refine g_getr (q := 13) fX4_61 dX4_dropLesson_47 rfl rfl rfl ?_
  refine g_iload_n dX4_dropLesson_50 rfl ?_
  refine f0_SN (u' := 0) lX4_133 kX5_dropFrom (mX5_dropFrom (k := 13) rfl (show i < 40 by omega)) dX4_dropLesson_51 rfl rfl rfl rfl rfl rfl ?_
  refine g_aload_n dX4_dropLesson_54 rfl ?_
  refine g_getr (q := 14) fX4_64 dX4_dropLesson_55 rfl rfl rfl ?_
  refine g_iload_n dX4_dropLesson_58 rfl ?_
  refine f0_SN (u' := 0) lX4_133 kX5_dropFrom (mX5_dropFrom (k := 14) rfl (show i < 40 by omega)) dX4_dropLesson_59 rfl rfl rfl rfl rfl rfl ?_
  refine g_aload_n dX4_dropLesson_62 rfl ?_
  refine g_getr (q := 15) fX4_67 dX4_dropLesson_63 rfl rfl rfl ?_
  refine g_iload_n dX4_dropLesson_66 rfl ?_
  refine f0_SN (u' := 0) lX4_133 kX5_dropFrom (mX5_dropFrom (k := 15) rfl (show i < 40 by omega)) dX4_dropLesson_67 rfl rfl rfl rfl rfl rfl ?_
  refine g_aload_n dX4_dropLesson_70 rfl ?_
  refine g_dup dX4_dropLesson_71 rfl ?_
  refine g_geti fX4_15 dX4_dropLesson_72 rfl rfl ?_
  refine g_top (y := nI A.2.1) (by (iterate 8 rw [xdrop_ne _ _ _ _ (by decide)]); rw [hC2.2.1, jc]) ?_
  refine g_iconst (v := 1) dX4_dropLesson_75 (by decide) ?_
  refine g_isub dX4_dropLesson_76 ?_
  refine g_top (y := iI ((A.2.1 : Int) - 1)) (by rw [nI_iI, iI_1, iI_sub]) ?_
  refine g_puti pX4_15 dX4_dropLesson_77 rfl rfl ?_
  have hCd := rC_dr (A := s_eaw A i) (i := i) hC2 (by omega) (by rw [jc]; exact hi) (n := (A.2.1 : Int) - 1) (by rw [jc])
  have hR := s_drm_r (A := s_eaw A i) (i := i) (fun j hj => by have := j6 j hj; omega)
  refine g_aload_n dX4_dropLesson_80 rfl ?_
  refine g_aload_n dX4_dropLesson_81 rfl ?_
  refine g_getr (q := 14) fX4_64 dX4_dropLesson_82 rfl rfl rfl ?_
  refine g_iload_n dX4_dropLesson_85 rfl ?_
  refine q_V (u' := 0) lX4_136 kX4_moveHosts (mX4_moveHosts (A := s_dr (s_eaw A i) i) (f := 14) hCd (by show (s_eaw A i).2.1 - 1 ≤ 40; omega) (by omega) (by omega) (fun j hj => by have := hR j hj; omega)) dX4_dropLesson_86 rfl rfl rfl rfl rfl rfl rfl rfl (fun v h86 hq => ?_) (fun _ _ q => q.elim)
  obtain ⟨rfl, hC86, hF86⟩ := hq
  dsimp only [Option.toList, List.cons_append, List.nil_append]
  refine g_aload_n dX4_dropLesson_89 rfl ?_
  refine g_aload_n dX4_dropLesson_90 rfl ?_
  refine g_getr (q := 15) fX4_67 dX4_dropLesson_91 rfl rfl rfl ?_
  refine g_iload_n dX4_dropLesson_94 rfl ?_
  refine q_V (u' := 0) lX4_136 kX4_moveHosts (mX4_moveHosts (A := s_mv (s_dr (s_eaw A i) i) 14 i ((s_eaw A i).2.1 - 1)) (f := 15) hC86 (by show (s_eaw A i).2.1 - 1 ≤ 40; omega) (by omega) (by omega) (fun j hj => by have := hR j hj; omega)) dX4_dropLesson_95 rfl rfl rfl rfl rfl rfl rfl rfl (fun v h95 hq => ?_) (fun _ _ q => q.elim)
  obtain ⟨rfl, hC95, hF95⟩ := hq
  dsimp only [Option.toList, List.cons_append, List.nil_append]
  refine g_return dX4_dropLesson_98 rfl (by decide) ?_
  refine ⟨rfl, hC95, x_fr_tr hF2 (x_fr_tr (x_fr_tr ?_ hF86) hF95)⟩
  refine x_fr_tr ?_ (x_fr_si _ _ _ (by decide))
  iterate 7 refine x_fr_tr ?_ (x_fr_drop _ _ _ (by decide))
  exact x_fr_drop _ _ _ (by decide)
/-- the empty school -/
def s_new : Ab := (0, 0, fun f _ => if f = 6 then 20 else if f = 7 then 30 else 0)
def x_new (h : ux_H) (c : Nat) : ux_H := xfill (xfill (xsi (xsi (xsi (xsi h c 0 0) c 1 0) c 2 0) c 3 0) (c + 6) 20 6) (c + 7) 30 6
theorem xfill_ne (h : ux_H) {k a : Nat} (x : Int32) (n b : Nat) (hn : a ≠ k) : xgi (xfill h k x n) a b = xgi h a b := by
  rw [xfill_g, if_neg (by omega)]
theorem rC_new (h : ux_H) (c : Nat) : rC c s_new (x_new h c) := by
  unfold x_new
  refine ⟨?_, ?_, fun f j hf => ?_⟩
  · rw [xfill_ne _ _ _ _ (by omega), xfill_ne _ _ _ _ (by omega), xgi_ne _ _ _ _ _ _ (by omega), xgi_ne _ _ _ _ _ _ (by omega), xgi_ne _ _ _ _ _ _ (by omega), xgi_si]
    rfl
  · rw [xfill_ne _ _ _ _ (by omega), xfill_ne _ _ _ _ (by omega), xgi_ne _ _ _ _ _ _ (by omega), xgi_ne _ _ _ _ _ _ (by omega), xgi_si]
    rfl
  · unfold a_in at hf
    have e1 : s_new.1 = 0 := rfl
    have e2 : s_new.2.1 = 0 := rfl
    rw [e1, e2] at hf
    rcases hf with ⟨rfl, rfl | rfl⟩ | hf | ⟨a, b, d⟩ | hf
    · rw [xfill_ne _ _ _ _ (by omega), xfill_ne _ _ _ _ (by omega), xgi_ne _ _ _ _ _ _ (by omega), Nat.add_zero, xgi_si]
      rfl
    · rw [xfill_ne _ _ _ _ (by omega), xfill_ne _ _ _ _ (by omega), Nat.add_zero, xgi_si]
      rfl
    · omega
    · obtain rfl | rfl : f = 6 ∨ f = 7 := by omega
      · rw [xfill_ne _ _ _ _ (by omega), xfill_g, if_pos ⟨rfl, d⟩]; rfl
      · rw [xfill_g, if_pos ⟨rfl, d⟩]; rfl
    · omega
theorem Inv_new : Inv 0 s_new := by
  refine ⟨by decide, by decide, by decide, fun t ht => absurd ht (Nat.not_lt_zero _), fun c _ => ?_, fun i hi => absurd hi (Nat.not_lt_zero _)⟩
  show (1 : Int) ≤ 20 ∧ (20 : Int) ≤ 30 ∧ (10 : Int) ≤ 30 ∧ (30 : Int) ≤ 60
  decide
set_option maxRecDepth 100000 in
theorem mX4_reset {l : Launch} {G : ux_G} {h : ux_H}  : ux_F l G yX4_reset iX4_reset 2 0 [.ref 0] h (none) (x_new h 0) := by
  unfold ux_F
  refine ux_ent (L' := [some (.ref 0)]) kX4_reset rfl rfl rfl rfl ?_
  refine g_aload_n dX4_reset_0 rfl ?_
  refine g_iconst (v := 0) dX4_reset_1 (by decide) ?_
  refine g_puti pX4_9 dX4_reset_2 rfl rfl ?_
  refine g_aload_n dX4_reset_5 rfl ?_
  refine g_iconst (v := 0) dX4_reset_6 (by decide) ?_
  refine g_puti pX4_15 dX4_reset_7 rfl rfl ?_
  refine g_aload_n dX4_reset_10 rfl ?_
  refine g_iconst (v := 0) dX4_reset_11 (by decide) ?_
  refine g_puti pX4_18 dX4_reset_12 rfl rfl ?_
  refine g_aload_n dX4_reset_15 rfl ?_
  refine g_iconst (v := 0) dX4_reset_16 (by decide) ?_
  refine g_puti pX4_21 dX4_reset_17 rfl rfl ?_
  refine g_aload_n dX4_reset_20 rfl ?_
  refine g_getr (q := 6) fX4_40 dX4_reset_21 rfl rfl rfl ?_
  refine g_bipush (v := 20) dX4_reset_24 (by decide) ?_
  refine f0_SN (u' := 0) lX4_73 kX5_fill (mX5_fill (k := 6) rfl) dX4_reset_26 rfl rfl rfl rfl rfl rfl ?_
  refine g_aload_n dX4_reset_29 rfl ?_
  refine g_getr (q := 7) fX4_43 dX4_reset_30 rfl rfl rfl ?_
  refine g_bipush (v := 30) dX4_reset_33 (by decide) ?_
  refine f0_SN (u' := 0) lX4_73 kX5_fill (mX5_fill (k := 7) rfl) dX4_reset_35 rfl rfl rfl rfl rfl rfl ?_
  refine g_return dX4_reset_38 rfl (by decide) ?_
  exact ⟨rfl, rfl⟩
