/-! THE CLASS: new teachers and lessons, removal, an empty school. -/
def s_putT (A : Ab) (su w : Int) : Ab := (A.1 + 1, A.2.1, fun a b => if b = A.1 ∧ 1 ≤ a ∧ a ≤ 5 then (if a = 1 then su else if a = 2 then w else if a = 3 then 2 else 0) else A.2.2 a b)
def x_putT (h : ux_H) (n : Nat) (su w : Int) : ux_H := xsi (xsi (xsi (xsi (xsi (xsi h 1 n (iI su)) 2 n (iI w)) 3 n 2) 4 n 0) 5 n 0) 0 0 (nI (n + 1))
theorem rC_putT {A : Ab} {h : ux_H} (hC : rC 0 A h) (su w : Int) : rC 0 (s_putT A su w) (x_putT h A.1 su w) := by
  obtain ⟨h1, h2, h3⟩ := hC
  unfold x_putT
  refine ⟨xgi_si _ _ _ _, ?_, fun f j hf => ?_⟩
  · iterate 6 rw [xgi_ne _ _ _ _ _ _ (by omega)]
    exact h2
  · rw [Nat.zero_add]
    have q : (1 ≤ f ∧ f ≤ 5 ∧ j = A.1) ∨ (a_in A f j ∧ ¬ (1 ≤ f ∧ f ≤ 5 ∧ j = A.1)) := by
      unfold a_in at hf ⊢
      have e1 : (s_putT A su w).1 = A.1 + 1 := rfl
      have e2 : (s_putT A su w).2.1 = A.2.1 := rfl
      rw [e1, e2] at hf
      omega
    rcases q with ⟨a, b, c⟩ | ⟨a, b⟩
    · subst c
      obtain rfl | rfl | rfl | rfl | rfl : f = 1 ∨ f = 2 ∨ f = 3 ∨ f = 4 ∨ f = 5 := by omega
      all_goals simp [xgi_sif, s_putT, aF]
      all_goals decide
    · have e : aF (s_putT A su w) f j = aF A f j := if_neg (by omega)
      have q := h3 f j a
      rw [Nat.zero_add] at q
      unfold a_in at a
      rw [e, ← q]
      iterate 6 rw [xgi_ne _ _ _ _ _ _ (by omega)]
theorem x_fr_putT (h : ux_H) (n : Nat) (su w : Int) : x_fr h (x_putT h n su w) :=
  x_fr_tr (x_fr_si h n _ (by decide)) (x_fr_tr (x_fr_si _ n _ (by decide)) (x_fr_tr (x_fr_si _ n _ (by decide)) (x_fr_tr (x_fr_si _ n _ (by decide)) (x_fr_tr (x_fr_si _ n _ (by decide)) (x_fr_si _ 0 _ (by decide))))))
def s_putL (A : Ab) (s c u o r : Int) : Ab := (A.1, A.2.1 + 1, fun a b => if b = A.2.1 ∧ 8 ≤ a ∧ a ≤ 15 then (if a = 8 then s else if a = 9 then c else if a = 10 then u else if a = 11 then o else if a = 12 then r else -1) else A.2.2 a b)
def x_putL (h : ux_H) (n : Nat) (s c u o r : Int) : ux_H := xsi (xsi (xsi (xsi (xsi (xsi (xsi (xsi (xsi h 8 n (iI s)) 9 n (iI c)) 10 n (iI u)) 11 n (iI o)) 12 n (iI r)) 13 n (-1)) 14 n (-1)) 15 n (-1)) 0 1 (nI (n + 1))
theorem rC_putL {A : Ab} {h : ux_H} (hC : rC 0 A h) (s c u o r : Int) : rC 0 (s_putL A s c u o r) (x_putL h A.2.1 s c u o r) := by
  obtain ⟨h1, h2, h3⟩ := hC
  unfold x_putL
  refine ⟨?_, xgi_si _ _ _ _, fun f j hf => ?_⟩
  · iterate 9 rw [xgi_ne _ _ _ _ _ _ (by omega)]
    exact h1
  · rw [Nat.zero_add]
    have q : (8 ≤ f ∧ f ≤ 15 ∧ j = A.2.1) ∨ (a_in A f j ∧ ¬ (8 ≤ f ∧ f ≤ 15 ∧ j = A.2.1)) := by
      unfold a_in at hf ⊢
      have e1 : (s_putL A s c u o r).1 = A.1 := rfl
      have e2 : (s_putL A s c u o r).2.1 = A.2.1 + 1 := rfl
      rw [e1, e2] at hf
      omega
    rcases q with ⟨a, b, d⟩ | ⟨a, b⟩
    · subst d
      obtain rfl | rfl | rfl | rfl | rfl | rfl | rfl | rfl : f = 8 ∨ f = 9 ∨ f = 10 ∨ f = 11 ∨ f = 12 ∨ f = 13 ∨ f = 14 ∨ f = 15 := by omega
      all_goals simp [xgi_sif, s_putL, aF]
      all_goals decide
    · have e : aF (s_putL A s c u o r) f j = aF A f j := if_neg (by omega)
      have q := h3 f j a
      rw [Nat.zero_add] at q
      unfold a_in at a
      rw [e, ← q]
      iterate 9 rw [xgi_ne _ _ _ _ _ _ (by omega)]
theorem x_fr_putL (h : ux_H) (n : Nat) (s c u o r : Int) : x_fr h (x_putL h n s c u o r) := by
  unfold x_putL
  iterate 8 refine x_fr_tr ?_ (x_fr_si _ _ _ (by decide))
  exact x_fr_si h n _ (by decide)
set_option maxRecDepth 100000 in
theorem mX4_putTeacher {l : Launch} {G : ux_G} {h : ux_H} {A : Ab} {su w : Int} (hC : rC 0 A h) (i1 : A.1 < 8) : ux_F l G yX4_putTeacher iX4_putTeacher 2 0 [.ref 0, .int (iI su), .int (iI w)] h (some (.int (nI A.1))) (x_putT h A.1 su w) := by
  unfold ux_F
  refine ux_ent (L' := [some (.ref 0), some (.int (iI su)), some (.int (iI w)), none]) kX4_putTeacher rfl rfl rfl rfl ?_
  refine g_aload_n dX4_putTeacher_0 rfl ?_
  refine g_geti fX4_9 dX4_putTeacher_1 rfl rfl ?_
  refine g_top hC.1 ?_
  refine s_i (i := 3) dX4_putTeacher_4 rfl rfl rfl rfl ?_
  dsimp only [List.set]
  refine g_aload_n dX4_putTeacher_5 rfl ?_
  refine g_getr (q := 1) fX4_24 dX4_putTeacher_6 rfl rfl rfl ?_
  refine g_iload_n dX4_putTeacher_9 rfl ?_
  refine g_iload_n dX4_putTeacher_10 rfl ?_
  refine f0_SN (u' := 0) lX4_81 kX5_put (mP_t (f := 1) (by omega) rfl) dX4_putTeacher_11 rfl rfl rfl rfl rfl rfl ?_
  refine g_aload_n dX4_putTeacher_14 rfl ?_
  refine g_getr (q := 2) fX4_28 dX4_putTeacher_15 rfl rfl rfl ?_
  refine g_iload_n dX4_putTeacher_18 rfl ?_
  refine g_iload_n dX4_putTeacher_19 rfl ?_
  refine f0_SN (u' := 0) lX4_81 kX5_put (mP_t (f := 2) (by omega) rfl) dX4_putTeacher_20 rfl rfl rfl rfl rfl rfl ?_
  refine g_aload_n dX4_putTeacher_23 rfl ?_
  refine g_getr (q := 3) fX4_31 dX4_putTeacher_24 rfl rfl rfl ?_
  refine g_iload_n dX4_putTeacher_27 rfl ?_
  refine g_iconst (v := 2) dX4_putTeacher_28 (by decide) ?_
  refine f0_SN (u' := 0) lX4_81 kX5_put (mP_t (f := 3) (by omega) rfl) dX4_putTeacher_29 rfl rfl rfl rfl rfl rfl ?_
  refine g_aload_n dX4_putTeacher_32 rfl ?_
  refine g_getr (q := 4) fX4_34 dX4_putTeacher_33 rfl rfl rfl ?_
  refine g_iload_n dX4_putTeacher_36 rfl ?_
  refine g_iconst (v := 0) dX4_putTeacher_37 (by decide) ?_
  refine f0_SN (u' := 0) lX4_81 kX5_put (mP_t (f := 4) (by omega) rfl) dX4_putTeacher_38 rfl rfl rfl rfl rfl rfl ?_
  refine g_aload_n dX4_putTeacher_41 rfl ?_
  refine g_getr (q := 5) fX4_37 dX4_putTeacher_42 rfl rfl rfl ?_
  refine g_iload_n dX4_putTeacher_45 rfl ?_
  refine g_iconst (v := 0) dX4_putTeacher_46 (by decide) ?_
  refine f0_SN (u' := 0) lX4_81 kX5_put (mP_t (f := 5) (by omega) rfl) dX4_putTeacher_47 rfl rfl rfl rfl rfl rfl ?_
  refine g_aload_n dX4_putTeacher_50 rfl ?_
  refine g_dup dX4_putTeacher_51 rfl ?_
  refine g_geti fX4_9 dX4_putTeacher_52 rfl rfl ?_
  refine g_top (y := nI A.1) (by (iterate 5 rw [xgi_ne _ _ _ _ _ _ (by omega)]); exact hC.1) ?_
  refine g_iconst (v := 1) dX4_putTeacher_55 (by decide) ?_
  refine g_iadd dX4_putTeacher_56 ?_
  refine g_top (nI_1 A.1) ?_
  refine g_puti pX4_9 dX4_putTeacher_57 rfl rfl ?_
  refine g_iload_n dX4_putTeacher_60 rfl ?_
  refine g_ireturn dX4_putTeacher_61 rfl rfl (by decide) ?_
  exact ⟨rfl, rfl⟩
set_option maxRecDepth 100000 in
theorem mX4_putLesson {l : Launch} {G : ux_G} {h : ux_H} {A : Ab} {s c u o r : Int} (hC : rC 0 A h) (i2 : A.2.1 < 40) : ux_F l G yX4_putLesson iX4_putLesson 2 0 [.ref 0, .int (iI s), .int (iI c), .int (iI u), .int (iI o), .int (iI r)] h (some (.int (nI A.2.1))) (x_putL h A.2.1 s c u o r) := by
  unfold ux_F
  refine ux_ent (L' := [some (.ref 0), some (.int (iI s)), some (.int (iI c)), some (.int (iI u)), some (.int (iI o)), some (.int (iI r)), none]) kX4_putLesson rfl rfl rfl rfl ?_
  refine g_aload_n dX4_putLesson_0 rfl ?_
  refine g_geti fX4_15 dX4_putLesson_1 rfl rfl ?_
  refine g_top hC.2.1 ?_
  refine s_iw dX4_putLesson_4 rfl rfl rfl ?_
  dsimp only [List.set]
  refine g_aload_n dX4_putLesson_6 rfl ?_
  refine g_getr (q := 8) fX4_46 dX4_putLesson_7 rfl rfl rfl ?_
  refine g_iload dX4_putLesson_10 rfl ?_
  refine g_iload_n dX4_putLesson_12 rfl ?_
  refine f0_SN (u' := 0) lX4_81 kX5_put (mP_l (f := 8) (by omega) rfl) dX4_putLesson_13 rfl rfl rfl rfl rfl rfl ?_
  refine g_aload_n dX4_putLesson_16 rfl ?_
  refine g_getr (q := 9) fX4_49 dX4_putLesson_17 rfl rfl rfl ?_
  refine g_iload dX4_putLesson_20 rfl ?_
  refine g_iload_n dX4_putLesson_22 rfl ?_
  refine f0_SN (u' := 0) lX4_81 kX5_put (mP_l (f := 9) (by omega) rfl) dX4_putLesson_23 rfl rfl rfl rfl rfl rfl ?_
  refine g_aload_n dX4_putLesson_26 rfl ?_
  refine g_getr (q := 10) fX4_52 dX4_putLesson_27 rfl rfl rfl ?_
  refine g_iload dX4_putLesson_30 rfl ?_
  refine g_iload_n dX4_putLesson_32 rfl ?_
  refine f0_SN (u' := 0) lX4_81 kX5_put (mP_l (f := 10) (by omega) rfl) dX4_putLesson_33 rfl rfl rfl rfl rfl rfl ?_
  refine g_aload_n dX4_putLesson_36 rfl ?_
  refine g_getr (q := 11) fX4_55 dX4_putLesson_37 rfl rfl rfl ?_
  refine g_iload dX4_putLesson_40 rfl ?_
  refine g_iload dX4_putLesson_42 rfl ?_
  refine f0_SN (u' := 0) lX4_81 kX5_put (mP_l (f := 11) (by omega) rfl) dX4_putLesson_44 rfl rfl rfl rfl rfl rfl ?_
  refine g_aload_n dX4_putLesson_47 rfl ?_
  refine g_getr (q := 12) fX4_58 dX4_putLesson_48 rfl rfl rfl ?_
  refine g_iload dX4_putLesson_51 rfl ?_
  refine g_iload dX4_putLesson_53 rfl ?_
  refine f0_SN (u' := 0) lX4_81 kX5_put (mP_l (f := 12) (by omega) rfl) dX4_putLesson_55 rfl rfl rfl rfl rfl rfl ?_
  refine g_aload_n dX4_putLesson_58 rfl ?_
  refine g_getr (q := 13) fX4_61 dX4_putLesson_59 rfl rfl rfl ?_
  refine g_iload dX4_putLesson_62 rfl ?_
  refine g_iconst (v := (-1)) dX4_putLesson_64 (by decide) ?_
  refine f0_SN (u' := 0) lX4_81 kX5_put (mP_l (f := 13) (by omega) rfl) dX4_putLesson_65 rfl rfl rfl rfl rfl rfl ?_
  refine g_aload_n dX4_putLesson_68 rfl ?_
  refine g_getr (q := 14) fX4_64 dX4_putLesson_69 rfl rfl rfl ?_
  refine g_iload dX4_putLesson_72 rfl ?_
  refine g_iconst (v := (-1)) dX4_putLesson_74 (by decide) ?_
  refine f0_SN (u' := 0) lX4_81 kX5_put (mP_l (f := 14) (by omega) rfl) dX4_putLesson_75 rfl rfl rfl rfl rfl rfl ?_
  refine g_aload_n dX4_putLesson_78 rfl ?_
  refine g_getr (q := 15) fX4_67 dX4_putLesson_79 rfl rfl rfl ?_
  refine g_iload dX4_putLesson_82 rfl ?_
  refine g_iconst (v := (-1)) dX4_putLesson_84 (by decide) ?_
  refine f0_SN (u' := 0) lX4_81 kX5_put (mP_l (f := 15) (by omega) rfl) dX4_putLesson_85 rfl rfl rfl rfl rfl rfl ?_
  refine g_aload_n dX4_putLesson_88 rfl ?_
  refine g_dup dX4_putLesson_89 rfl ?_
  refine g_geti fX4_15 dX4_putLesson_90 rfl rfl ?_
  refine g_top (y := nI A.2.1) (by (iterate 8 rw [xgi_ne _ _ _ _ _ _ (by omega)]); exact hC.2.1) ?_
  refine g_iconst (v := 1) dX4_putLesson_93 (by decide) ?_
  refine g_iadd dX4_putLesson_94 ?_
  refine g_top (nI_1 A.2.1) ?_
  refine g_puti pX4_15 dX4_putLesson_95 rfl rfl ?_
  refine g_iload dX4_putLesson_98 rfl ?_
  refine g_ireturn dX4_putLesson_100 rfl rfl (by decide) ?_
  exact ⟨rfl, rfl⟩
/-- the numbers of hosts above the dropped one move down -/
def s_mv (A : Ab) (f d n : Nat) : Ab := (A.1, A.2.1, fun a b => if a = f ∧ b < n ∧ (d : Int) < A.2.2 a b then A.2.2 a b - 1 else A.2.2 a b)
theorem Ab_ext {A B : Ab} (h1 : A.1 = B.1) (h2 : A.2.1 = B.2.1) (h3 : ∀ a b, aF A a b = aF B a b) : A = B :=
  Prod.ext h1 (Prod.ext h2 (funext fun a => funext fun b => h3 a b))
theorem s_mv_aF (A : Ab) (f d n a b : Nat) : aF (s_mv A f d n) a b = if a = f ∧ b < n ∧ (d : Int) < aF A a b then aF A a b - 1 else aF A a b := rfl
theorem s_mv_0 (A : Ab) (f d : Nat) : s_mv A f d 0 = A :=
  Ab_ext rfl rfl fun a b => by rw [s_mv_aF, if_neg (by omega)]
theorem s_mv_t {A : Ab} {f d n : Nat} (q : (d : Int) < aF A f n) : aU (s_mv A f d n) f n (aF A f n - 1) = s_mv A f d (n + 1) := by
  refine Ab_ext rfl rfl fun a b => ?_
  rw [aF_aU, s_mv_aF, s_mv_aF]
  by_cases e1 : a = f ∧ b = n
  · obtain ⟨e1, e2⟩ := e1
    subst e1; subst e2
    rw [if_pos ⟨rfl, rfl⟩, if_pos ⟨rfl, by omega, q⟩]
  · rw [if_neg e1]
    by_cases e2 : a = f ∧ b < n ∧ (d : Int) < aF A a b
    · rw [if_pos e2, if_pos ⟨e2.1, by omega, e2.2.2⟩]
    · rw [if_neg e2, if_neg (by omega)]
theorem s_mv_f {A : Ab} {f d n : Nat} (q : ¬ (d : Int) < aF A f n) : s_mv A f d n = s_mv A f d (n + 1) := by
  refine Ab_ext rfl rfl fun a b => ?_
  rw [s_mv_aF, s_mv_aF]
  by_cases e2 : a = f ∧ b < n ∧ (d : Int) < aF A a b
  · rw [if_pos e2, if_pos ⟨e2.1, by omega, e2.2.2⟩]
  · rw [if_neg e2]
    by_cases e3 : a = f ∧ b < n + 1 ∧ (d : Int) < aF A a b
    · have e4 : b = n := by omega
      obtain ⟨e5, -, e6⟩ := e3
      subst e5; subst e4
      exact absurd e6 q
    · rw [if_neg e3]
theorem s_mv_n (A : Ab) (f d n : Nat) : aF (s_mv A f d n) f n = aF A f n := if_neg (by omega)
theorem mP_f {l : Launch} {G : ux_G} {h : ux_H} {f i : Nat} {x : Int32} (hi : i < 40) (hf : 8 ≤ f ∧ f ≤ 15) : ux_F l G yX5_put iX5_put 1 0 [.ref f, .int (nI i), .int x] h none (xsi h f i x) := mP_l hi (by simp [hf.1, hf.2])
theorem mA_f {l : Launch} {G : ux_G} {h : ux_H} {A : Ab} {f i : Nat} (hC : rC 0 A h) (hb : A.2.1 ≤ 40) (hi : i < A.2.1) (hf : 8 ≤ f ∧ f ≤ 15) : ux_F l G yX5_at iX5_at 1 0 [.ref f, .int (nI i)] h (some (.int (iI (aF A f i)))) h := mA_l hC hb hi (by simp [hf.1, hf.2])
set_option maxRecDepth 100000 in
theorem wX4_moveHosts {l : Launch} {G : ux_G} {h0 : ux_H} {A : Ab} {f d : Nat} (i2 : A.2.1 ≤ 40) (hd : d ≤ 40) (hf : 8 ≤ f ∧ f ≤ 15) (hx : ∀ i, i < A.2.1 → -1 ≤ aF A f i ∧ aF A f i ≤ 100) : ∀ (n : Nat) (j : Nat) (h : ux_H), rC 0 (s_mv A f d j) h → x_fr h0 h → j ≤ A.2.1 → A.2.1 - j < n → ux_W l G iX4_moveHosts (ux_rm 2 0) (ux_Z G 0 (fun v h' => v = none ∧ rC 0 (s_mv A f d A.2.1) h' ∧ x_fr h0 h') (fun _ _ => False)) 2 [some (.ref 0), some (.ref f), some (.int (nI d)), some (.int (nI j))] [] (h) 0 := by
  intro n
  induction n with
  | zero => intro j h hC hF hj hn; exact absurd hn (Nat.not_lt_zero _)
  | succ n ih =>
    intro j h hC hF hj hn
    refine g_iload_n dX4_moveHosts_2 rfl ?_
    refine g_aload_n dX4_moveHosts_3 rfl ?_
    refine g_geti fX4_15 dX4_moveHosts_4 rfl rfl ?_
    refine g_top (y := nI A.2.1) hC.2.1 ?_
    refine g_icmp_ge (tgt := 37) dX4_moveHosts_7 (by decide) (fun c7 => ?_) (fun c7 => ?_)
    · have e : j = A.2.1 := by have := xlt_i c7 (by omega) (by omega); omega
      subst e
      refine g_return dX4_moveHosts_37 rfl (by decide) ?_
      exact ⟨rfl, hC, hF⟩
    · have hlt : j < A.2.1 := xnl_i c7 (by omega) (by omega)
      have xl := hx j hlt
      have e0 := s_mv_n A f d j
      refine g_aload_n dX4_moveHosts_10 rfl ?_
      refine g_iload_n dX4_moveHosts_11 rfl ?_
      refine f1_SN (u' := 0) lX4_85 kX5_at (mA_f hC i2 hlt hf) dX4_moveHosts_12 rfl rfl rfl rfl rfl rfl ?_
      refine g_iload_n dX4_moveHosts_15 rfl ?_
      refine g_icmp_le (tgt := 31) dX4_moveHosts_16 (by decide) (fun c16 => ?_) (fun c16 => ?_)
      · rw [nI_iI, iI_le (by omega) (by omega) (by omega) (by omega)] at c16
        refine s_inc (v := nI (j + 1)) dX4_moveHosts_31 rfl nI_s rfl rfl rfl ?_
        dsimp only [List.set]
        refine g_goto (tgt := 2) dX4_moveHosts_34 (by decide) ?_
        rcases Int.lt_or_le (d : Int) (aF A f j) with q | q
        · have e1 := s_mv_t q
          first
          | exact ih (j + 1) _ (by rw [← e1]; exact rC_aU hC rfl (by omega)) (x_fr_tr hF (x_fr_si _ _ _ (by omega))) (by omega) (by omega)
          | (exfalso; omega)
        · have e1 := s_mv_f (A := A) (f := f) (d := d) (n := j) (by omega)
          first
          | (exfalso; omega)
          | exact ih (j + 1) _ (by rw [← e1]; exact hC) hF (by omega) (by omega)
      · rw [nI_iI, iI_le (by omega) (by omega) (by omega) (by omega)] at c16
        refine g_aload_n dX4_moveHosts_19 rfl ?_
        refine g_iload_n dX4_moveHosts_20 rfl ?_
        refine g_aload_n dX4_moveHosts_21 rfl ?_
        refine g_iload_n dX4_moveHosts_22 rfl ?_
        refine f1_SN (u' := 0) lX4_85 kX5_at (mA_f hC i2 hlt hf) dX4_moveHosts_23 rfl rfl rfl rfl rfl rfl ?_
        refine g_iconst (v := 1) dX4_moveHosts_26 (by decide) ?_
        refine g_isub dX4_moveHosts_27 ?_
        refine g_top (y := iI (aF A f j - 1)) (by rw [e0, show (1 : Int32) = iI 1 from iI_1, iI_sub]) ?_
        refine f0_SN (u' := 0) lX4_81 kX5_put (mP_f (by omega) hf) dX4_moveHosts_28 rfl rfl rfl rfl rfl rfl ?_
        refine s_inc (v := nI (j + 1)) dX4_moveHosts_31 rfl nI_s rfl rfl rfl ?_
        dsimp only [List.set]
        refine g_goto (tgt := 2) dX4_moveHosts_34 (by decide) ?_
        rcases Int.lt_or_le (d : Int) (aF A f j) with q | q
        · have e1 := s_mv_t q
          first
          | exact ih (j + 1) _ (by rw [← e1]; exact rC_aU hC rfl (by omega)) (x_fr_tr hF (x_fr_si _ _ _ (by omega))) (by omega) (by omega)
          | (exfalso; omega)
        · have e1 := s_mv_f (A := A) (f := f) (d := d) (n := j) (by omega)
          first
          | (exfalso; omega)
          | exact ih (j + 1) _ (by rw [← e1]; exact hC) hF (by omega) (by omega)
set_option maxRecDepth 100000 in
theorem mX4_moveHosts {l : Launch} {G : ux_G} {h : ux_H} {A : Ab} {f d : Nat} (hC : rC 0 A h) (i2 : A.2.1 ≤ 40) (hd : d ≤ 40) (hf : 8 ≤ f ∧ f ≤ 15) (hx : ∀ i, i < A.2.1 → -1 ≤ aF A f i ∧ aF A f i ≤ 100) : ux_M l G yX4_moveHosts iX4_moveHosts 2 0 [.ref 0, .ref f, .int (nI d)] h (fun v h' => v = none ∧ rC 0 (s_mv A f d A.2.1) h' ∧ x_fr h h') (fun _ _ => False) := by
  refine ux_ent (L' := [some (.ref 0), some (.ref f), some (.int (nI d)), none]) kX4_moveHosts rfl rfl rfl rfl ?_
  refine g_iconst (v := 0) dX4_moveHosts_0 (by decide) ?_
  refine s_i (i := 3) dX4_moveHosts_1 rfl rfl rfl rfl ?_
  dsimp only [List.set]
  exact wX4_moveHosts i2 hd hf hx (A.2.1 + 1) 0 h (by rw [s_mv_0]; exact hC) (x_fr_rf h) (Nat.zero_le _) (by omega)
