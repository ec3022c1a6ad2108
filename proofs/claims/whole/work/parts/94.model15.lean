/-! THE REFERENCE: plans, by how many lessons are left. -/
theorem rP_s {L : List Nat} {h : ux_H} {j : Nat} (hO : rP L h) : rP (L ++ [j]) (xsi h 199 L.length (nI j)) := fun k i hk => by
  rw [xgi_sif]
  by_cases q : k = L.length
  · rw [if_pos ⟨rfl, q⟩]
    subst q
    rw [List.getElem?_append_right (Nat.le_refl _), Nat.sub_self] at hk
    have : j = i := by simpa using hk
    rw [this]
  · rw [if_neg (fun y => q y.2)]
    refine hO k i ?_
    have hl := (List.getElem?_eq_some_iff.mp hk).1
    rw [List.length_append, List.length_cons, List.length_nil] at hl
    rwa [List.getElem?_append_left (by omega)] at hk
theorem pl_go_nil {R pre : List Nat} {B : Ab} {a : pl_A} (h : R.length = 0) : pl_go R B pre a = pl_jd B pre a := by rw [List.length_eq_zero_iff.mp h]; rfl
theorem rA_m {n : Nat} {a : pl_A} {h h' : ux_H} (q : rA n a h) (e : x_fm h h') : rA n a h' := rA_fr q (fun j => e 200 (by decide) j) (e 192 (by decide) 15) (e 192 (by decide) 16)
theorem rO_m {L : List Nat} {h h' : ux_H} (q : rO L h) (e : x_fm h h') : rO L h' := rO_fr q (fun j => e 198 (by decide) j)
theorem rP_m {L : List Nat} {h h' : ux_H} (q : rP L h) (e : x_fm h h') : rP L h' := rP_fr q (fun j => e 199 (by decide) j)
theorem rP_pre {L : List Nat} {h : ux_H} {j : Nat} (hO : rP (L ++ [j]) h) : rP L h := fun k i hk => hO k i (by rw [List.getElem?_append_left (List.getElem?_eq_some_iff.mp hk).1]; exact hk)
set_option maxRecDepth 100000 in
theorem wX6_plans1 {l : Launch} {G : ux_G} {h0 : ux_H} {Ls R pre : List Nat} {B : Ab} {a0 : pl_A} {PB c n7 i : Nat} (hI : Inv PB B) (hJ : InvF B) (hn7 : Ls.length = n7) (hn4 : n7 ≤ 4) (hk : okA c a0) (hi : Ls[pre.length]? = some i) (hd : Ls.drop (pre.length + 1) = R) (hr : R.length = 0) (hrest : pl_rest B (i :: R)) (hPB : PB + 6 * (R.length + 1) ≤ 10000000) (hcc : c + 8 ^ (R.length + 1) ≤ 500000) : ∀ (n : Nat) (t : Nat) (h : ux_H), t ≤ B.1 → rM 193 0 B h → rO Ls h → rP pre h → rA n7 (pl_fo (fun t a => if s_bar B i t = 0 then pl_go R (s_begin B i t) (pre ++ [t]) a else a) t a0) h → x_fq h0 h → B.1 - t < n → ux_W l G iX6_plans (ux_rm 9 0) (ux_Z G 0 (fun v h' => v = none ∧ rM 193 0 B h' ∧ rO Ls h' ∧ rP pre h' ∧ rA n7 (pl_fo (fun t a => if s_bar B i t = 0 then pl_go R (s_begin B i t) (pre ++ [t]) a else a) B.1 a0) h' ∧ x_fq h0 h') (fun _ _ => False)) 93 [some (.ref 192), some (.int (nI pre.length)), some (.int (nI n7)), some (.int (nI i)), some (.int (nI t))] [] (h) 0 := by
  intro n
  induction n with
  | zero => intro t h htt hM hO hp hA hF hn; exact absurd hn (Nat.not_lt_zero _)
  | succ n ih =>
    intro t h htt hM hO hp hA hF hn
    have dl := congrArg List.length hd
    rw [List.length_drop] at dl
    obtain ⟨i1, i2, i3, i4, i5, i6⟩ := id hI
    obtain ⟨hil, hst⟩ := hrest.2 i List.mem_cons_self
    have h13 := (s_st3 hst).2.1
    have hpl := (List.getElem?_eq_some_iff.mp hi).1
    refine g_iload dX6_plans_93 rfl ?_
    refine g_aload_n dX6_plans_95 rfl ?_
    refine f1_V (u' := 0) lX6_62 kX6_teachers (mX6_teachers hM) dX6_plans_96 rfl rfl rfl rfl rfl rfl rfl rfl ?_
    refine g_icmp_ge (tgt := 171) dX6_plans_99 (by decide) (fun c99 => ?_) (fun c99 => ?_)
    · have e : t = B.1 := by have := xlt_i c99 (by omega) (by omega); omega
      subst e
      refine g_return dX6_plans_171 rfl (by decide) ?_
      exact ⟨rfl, hM, hO, hp, hA, hF⟩
    · have ht : t < B.1 := xnl_i c99 (by omega) (by omega)
      have br := s_bar_r B i t
      refine g_aload_n dX6_plans_102 rfl ?_
      refine g_iload_n dX6_plans_103 rfl ?_
      refine g_iload dX6_plans_104 rfl ?_
      refine f1_V (u' := 0) lX6_182 kX6_bar (mX6_bar hM hI hJ (by omega) (by omega)) dX6_plans_106 rfl rfl rfl rfl rfl rfl rfl rfl ?_
      refine g_if_le (tgt := 115) dX6_plans_109 (by decide) (fun c109 => ?_) (fun c109 => ?_)
      · rw [show (0 : Int32) = iI 0 by decide, iI_le (by omega) (by omega) (by omega) (by omega)] at c109
        have q0 : s_bar B i t = 0 := by omega
        have ef : pl_fo (fun t a => if s_bar B i t = 0 then pl_go R (s_begin B i t) (pre ++ [t]) a else a) (t + 1) a0 = pl_go R (s_begin B i t) (pre ++ [t]) (pl_fo (fun t a => if s_bar B i t = 0 then pl_go R (s_begin B i t) (pre ++ [t]) a else a) t a0) := by show (if s_bar B i t = 0 then _ else _) = _; rw [if_pos q0]
        have hI2 := s_begin_I (i := i) hI ht (by omega)
        have hJ2 := s_begin_J hJ hil hst q0
        refine g_aload_n dX6_plans_115 rfl ?_
        refine g_getr (q := 199) fX6_32 dX6_plans_116 rfl rfl rfl ?_
        refine g_iload_n dX6_plans_119 rfl ?_
        refine g_iload dX6_plans_120 rfl ?_
        refine g_iast dX6_plans_122 rfl (show pre.length < 4 by omega) rfl ?_
        have hM1 := rM_k9 hM (x_fk_si h 199 pre.length (nI t)) (by decide)
        have hp1 := rP_s (j := t) hp
        have hO1 := rO_fr hO (fun j => (x_fk_si h 199 pre.length (nI t)) 198 (by decide) j)
        have hA1 := rA_fr hA (fun j => (x_fk_si h 199 pre.length (nI t)) 200 (by decide) j) ((x_fk_si h 199 pre.length (nI t)) 192 (by decide) 15) ((x_fk_si h 199 pre.length (nI t)) 192 (by decide) 16)
        have hk2 : okA (c + t * 8 ^ R.length) (pl_fo (fun t a => if s_bar B i t = 0 then pl_go R (s_begin B i t) (pre ++ [t]) a else a) t a0) := okA_fo (m := B.1) (fun u c9 a9 hu ha9 => by
          by_cases y : s_bar B i u = 0
          · show okA _ (if s_bar B i u = 0 then _ else _)
            rw [if_pos y]
            exact okA_go R (s_begin_I hI hu (by omega)) (by omega) ha9
          · show okA _ (if s_bar B i u = 0 then _ else _)
            rw [if_neg y]
            exact okA_mono ha9 (Nat.le_add_right _ _)) hk t (by omega)
        have hcc2 : c + t * 8 ^ R.length + 8 ^ R.length ≤ 500000 := by
          have e9 : (t + 1) * 8 ^ R.length ≤ 8 * 8 ^ R.length := Nat.mul_le_mul_right _ (by omega)
          rw [Nat.succ_mul] at e9
          rw [Nat.pow_succ, Nat.mul_comm (8 ^ R.length) 8] at hcc
          omega
        refine g_aload_n dX6_plans_123 rfl ?_
        refine g_iload_n dX6_plans_124 rfl ?_
        refine g_iload dX6_plans_125 rfl ?_
        refine q_V (u' := 0) lX6_194 kX6_begins (mX6_begins hM1 hI hil ht (by omega)) dX6_plans_127 rfl rfl rfl rfl rfl rfl rfl rfl (fun v h127 hq => ?_) (fun _ _ q => q.elim)
        obtain ⟨rfl, hM2, hF2⟩ := hq
        dsimp only [Option.toList, List.cons_append, List.nil_append]
        refine g_pop dX6_plans_130 rfl ?_
        refine g_aload_n dX6_plans_131 rfl ?_
        refine g_iload_n dX6_plans_132 rfl ?_
        refine g_iconst (v := 1) dX6_plans_133 (by decide) ?_
        refine g_iadd dX6_plans_134 ?_
        refine g_top (y := nI n7) (by rw [show n7 = pre.length + 1 by omega]; exact nI_1 _) ?_
        refine g_iload_n dX6_plans_135 rfl ?_
        refine q_V (u' := 0) lX6_217 kX6_plans (mX6_plans0 (B := s_begin B i t) (pre := pre ++ [t]) (a := pl_fo (fun t a => if s_bar B i t = 0 then pl_go R (s_begin B i t) (pre ++ [t]) a else a) t a0) (PB := PB + 6) (c := c + t * 8 ^ R.length) (n7 := n7) (Ls := Ls) hM2 hI2 hJ2 hn7 hn4 (rO_fr hO1 (fun j => hF2 198 (by decide) j)) (rP_fr hp1 (fun j => hF2 199 (by decide) j)) (rA_fr hA1 (fun j => hF2 200 (by decide) j) (hF2 192 (by decide) 15) (hF2 192 (by decide) 16)) hk2 (by rw [List.length_append, List.length_cons, List.length_nil]; omega) (Nat.le_trans (Nat.le_add_right _ _) hcc2)) dX6_plans_136 rfl rfl rfl rfl rfl rfl rfl rfl (fun v h136 hq => ?_) (fun _ _ q => q.elim)
        obtain ⟨rfl, hM3, hO3, hp3, hA3, hF3⟩ := hq
        have hA3 : rA n7 (pl_go R (s_begin B i t) (pre ++ [t]) (pl_fo (fun t a => if s_bar B i t = 0 then pl_go R (s_begin B i t) (pre ++ [t]) a else a) t a0)) h136 := by rw [pl_go_nil hr]; exact hA3
        dsimp only [Option.toList, List.cons_append, List.nil_append]
        refine g_aload_n dX6_plans_139 rfl ?_
        refine g_iload dX6_plans_140 rfl ?_
        refine g_aload_n dX6_plans_142 rfl ?_
        refine g_iload_n dX6_plans_143 rfl ?_
        refine g_iload dX6_plans_144 rfl ?_
        refine f1_V (u' := 0) lX6_101 kX6_worth (mX6_worth hM3 hI2 (show i < B.2.1 from hil) (show t < B.1 from ht)) dX6_plans_146 rfl rfl rfl rfl rfl rfl rfl rfl ?_
        refine g_top (y := iI (s_worth B i t)) (by rw [worth_begin]) ?_
        refine g_ineg dX6_plans_149 ?_
        refine g_top (iI_neg _) ?_
        refine q_V (u' := 0) lX6_90 kX6_gains (mX6_gains (p := -(s_worth B i t)) hM3 (show B.1 ≤ 8 from i1) (show B.2.1 ≤ 40 from i2) (show t < B.1 from ht)) dX6_plans_150 rfl rfl rfl rfl rfl rfl rfl rfl (fun v h150 hq => ?_) (fun _ _ q => q.elim)
        obtain ⟨rfl, hM4, hF4⟩ := hq
        dsimp only [Option.toList, List.cons_append, List.nil_append]
        refine g_aload_n dX6_plans_153 rfl ?_
        refine g_getr (q := 193) fX6_9 dX6_plans_154 rfl rfl rfl ?_
        refine g_iload_n dX6_plans_157 rfl ?_
        refine f1_S (u' := 0) lX6_47 kX6_lessonAt (mX6_lessonAt) dX6_plans_158 rfl rfl rfl rfl rfl rfl ?_
        refine g_iconst (v := 5) dX6_plans_161 (by decide) ?_
        refine g_iadd dX6_plans_162 ?_
        refine g_top (y := nI ((56 + 8 * i) + 5)) (by rw [show (5 : Int32) = nI 5 by decide, nI_add]) ?_
        refine g_iconst (v := (-1)) dX6_plans_163 (by decide) ?_
        refine g_iast dX6_plans_164 rfl (show 56 + 8 * i + 5 < 376 by omega) rfl ?_
        have hM5 := rM_aU (f := 13) (v := -1) hM4 (show B.1 ≤ 8 from i1) (show B.2.1 ≤ 40 from i2) (in_l rfl (show i < B.2.1 from hil)) rfl
        rw [undo_eq h13] at hM5
        refine s_inc (v := nI (t + 1)) dX6_plans_165 rfl nI_s rfl rfl rfl ?_
        dsimp only [List.set]
        refine g_goto (tgt := 93) dX6_plans_168 (by decide) ?_
        first
        | exact ih (t + 1) h (by omega) hM hO hp (by rw [ef]; exact hA) hF (by omega)
        | exact ih (t + 1) _ (by omega) hM5 (rO_m (rO_m hO3 hF4) (x_fm_si _ _ _)) (rP_m (rP_m (rP_pre hp3) hF4) (x_fm_si _ _ _)) (by rw [ef]; exact rA_m (rA_m hA3 hF4) (x_fm_si _ _ _)) (x_fq_tr hF (x_fq_tr (x_fq_k (x_fk_si _ _ _ _) (Or.inl rfl)) (x_fq_tr (x_fq_m hF2) (x_fq_tr hF3 (x_fq_tr (x_fq_m hF4) (x_fq_m (x_fm_si _ _ _))))))) (by omega)
      · rw [show (0 : Int32) = iI 0 by decide, iI_le (by omega) (by omega) (by omega) (by omega)] at c109
        have ef : pl_fo (fun t a => if s_bar B i t = 0 then pl_go R (s_begin B i t) (pre ++ [t]) a else a) (t + 1) a0 = pl_fo (fun t a => if s_bar B i t = 0 then pl_go R (s_begin B i t) (pre ++ [t]) a else a) t a0 := by show (if s_bar B i t = 0 then _ else _) = _; rw [if_neg (by omega)]
        refine g_goto (tgt := 165) dX6_plans_112 (by decide) ?_
        refine s_inc (v := nI (t + 1)) dX6_plans_165 rfl nI_s rfl rfl rfl ?_
        dsimp only [List.set]
        refine g_goto (tgt := 93) dX6_plans_168 (by decide) ?_
        first
        | exact ih (t + 1) h (by omega) hM hO hp (by rw [ef]; exact hA) hF (by omega)
        | exact ih (t + 1) _ (by omega) hM5 (rO_m (rO_m hO3 hF4) (x_fm_si _ _ _)) (rP_m (rP_m (rP_pre hp3) hF4) (x_fm_si _ _ _)) (by rw [ef]; exact rA_m (rA_m hA3 hF4) (x_fm_si _ _ _)) (x_fq_tr hF (x_fq_tr (x_fq_k (x_fk_si _ _ _ _) (Or.inl rfl)) (x_fq_tr (x_fq_m hF2) (x_fq_tr hF3 (x_fq_tr (x_fq_m hF4) (x_fq_m (x_fm_si _ _ _))))))) (by omega)
set_option maxRecDepth 100000 in
theorem mX6_plans1 {l : Launch} {G : ux_G} {h : ux_H} {Ls R pre : List Nat} {B : Ab} {a : pl_A} {PB c n7 : Nat} (hM : rM 193 0 B h) (hI : Inv PB B) (hJ : InvF B) (hn : Ls.length = n7) (hn4 : n7 ≤ 4) (hO : rO Ls h) (hp : rP pre h) (hA : rA n7 a h) (hk : okA c a) (hd : Ls.drop pre.length = R) (hr : R.length = 1) (hrest : pl_rest B R) (hPB : PB + 6 * R.length ≤ 10000000) (hcc : c + 8 ^ R.length ≤ 500000) : ux_M l G yX6_plans iX6_plans 9 0 [.ref 192, .int (nI pre.length), .int (nI n7)] h (fun v h' => v = none ∧ rM 193 0 B h' ∧ rO Ls h' ∧ rP pre h' ∧ rA n7 (pl_go R B pre a) h' ∧ x_fq h h') (fun _ _ => False) := by
  refine ux_ent (L' := [some (.ref 192), some (.int (nI pre.length)), some (.int (nI n7)), none, none]) kX6_plans rfl rfl rfl rfl ?_
  have dl := congrArg List.length hd
  rw [List.length_drop] at dl
  refine g_iload_n dX6_plans_0 rfl ?_
  refine g_iload_n dX6_plans_1 rfl ?_
  refine g_icmp_ne (tgt := 83) dX6_plans_2 (by decide) (fun c2 => ?_) (fun c2 => ?_)
  · refine g_aload_n dX6_plans_83 rfl ?_
    refine g_getr (q := 198) fX6_29 dX6_plans_84 rfl rfl rfl ?_
    refine g_iload_n dX6_plans_87 rfl ?_
    refine g_iald dX6_plans_88 rfl (show pre.length < 40 by omega) rfl ?_
    obtain ⟨i, R2, rfl⟩ : ∃ i R2, R = i :: R2 := by cases R with | nil => cases hr | cons i R2 => exact ⟨i, R2, rfl⟩
    obtain ⟨e1, e2⟩ := pl_drop hd
    refine g_top (y := nI i) (hO _ i e1) ?_
    rw [pl_go_c]
    refine s_i (i := 3) dX6_plans_89 rfl rfl rfl rfl ?_
    dsimp only [List.set]
    refine g_iconst (v := 0) dX6_plans_90 (by decide) ?_
    refine s_iw dX6_plans_91 rfl rfl rfl ?_
    dsimp only [List.set]
    exact wX6_plans1 (l := l) (G := G) (h0 := h) hI hJ hn hn4 hk e1 e2 (by simpa using hr) hrest hPB hcc (B.1 + 1) 0 h (Nat.zero_le _) hM hO hp hA (x_fq_rf h) (by omega)
  · exact absurd c2 (by rw [nI_iI, nI_iI, iI_eq (by omega) (by omega) (by omega) (by omega)]; omega)
set_option maxRecDepth 100000 in
theorem wX6_plans2 {l : Launch} {G : ux_G} {h0 : ux_H} {Ls R pre : List Nat} {B : Ab} {a0 : pl_A} {PB c n7 i : Nat} (hI : Inv PB B) (hJ : InvF B) (hn7 : Ls.length = n7) (hn4 : n7 ≤ 4) (hk : okA c a0) (hi : Ls[pre.length]? = some i) (hd : Ls.drop (pre.length + 1) = R) (hr : R.length = 1) (hrest : pl_rest B (i :: R)) (hPB : PB + 6 * (R.length + 1) ≤ 10000000) (hcc : c + 8 ^ (R.length + 1) ≤ 500000) : ∀ (n : Nat) (t : Nat) (h : ux_H), t ≤ B.1 → rM 193 0 B h → rO Ls h → rP pre h → rA n7 (pl_fo (fun t a => if s_bar B i t = 0 then pl_go R (s_begin B i t) (pre ++ [t]) a else a) t a0) h → x_fq h0 h → B.1 - t < n → ux_W l G iX6_plans (ux_rm 10 0) (ux_Z G 0 (fun v h' => v = none ∧ rM 193 0 B h' ∧ rO Ls h' ∧ rP pre h' ∧ rA n7 (pl_fo (fun t a => if s_bar B i t = 0 then pl_go R (s_begin B i t) (pre ++ [t]) a else a) B.1 a0) h' ∧ x_fq h0 h') (fun _ _ => False)) 93 [some (.ref 192), some (.int (nI pre.length)), some (.int (nI n7)), some (.int (nI i)), some (.int (nI t))] [] (h) 0 := by
  intro n
  induction n with
  | zero => intro t h htt hM hO hp hA hF hn; exact absurd hn (Nat.not_lt_zero _)
  | succ n ih =>
    intro t h htt hM hO hp hA hF hn
    have dl := congrArg List.length hd
    rw [List.length_drop] at dl
    obtain ⟨i1, i2, i3, i4, i5, i6⟩ := id hI
    obtain ⟨hil, hst⟩ := hrest.2 i List.mem_cons_self
    have h13 := (s_st3 hst).2.1
    have hpl := (List.getElem?_eq_some_iff.mp hi).1
    refine g_iload dX6_plans_93 rfl ?_
    refine g_aload_n dX6_plans_95 rfl ?_
    refine f1_V (u' := 0) lX6_62 kX6_teachers (mX6_teachers hM) dX6_plans_96 rfl rfl rfl rfl rfl rfl rfl rfl ?_
    refine g_icmp_ge (tgt := 171) dX6_plans_99 (by decide) (fun c99 => ?_) (fun c99 => ?_)
    · have e : t = B.1 := by have := xlt_i c99 (by omega) (by omega); omega
      subst e
      refine g_return dX6_plans_171 rfl (by decide) ?_
      exact ⟨rfl, hM, hO, hp, hA, hF⟩
    · have ht : t < B.1 := xnl_i c99 (by omega) (by omega)
      have br := s_bar_r B i t
      refine g_aload_n dX6_plans_102 rfl ?_
      refine g_iload_n dX6_plans_103 rfl ?_
      refine g_iload dX6_plans_104 rfl ?_
      refine f1_V (u' := 0) lX6_182 kX6_bar (mX6_bar hM hI hJ (by omega) (by omega)) dX6_plans_106 rfl rfl rfl rfl rfl rfl rfl rfl ?_
      refine g_if_le (tgt := 115) dX6_plans_109 (by decide) (fun c109 => ?_) (fun c109 => ?_)
      · rw [show (0 : Int32) = iI 0 by decide, iI_le (by omega) (by omega) (by omega) (by omega)] at c109
        have q0 : s_bar B i t = 0 := by omega
        have ef : pl_fo (fun t a => if s_bar B i t = 0 then pl_go R (s_begin B i t) (pre ++ [t]) a else a) (t + 1) a0 = pl_go R (s_begin B i t) (pre ++ [t]) (pl_fo (fun t a => if s_bar B i t = 0 then pl_go R (s_begin B i t) (pre ++ [t]) a else a) t a0) := by show (if s_bar B i t = 0 then _ else _) = _; rw [if_pos q0]
        have hI2 := s_begin_I (i := i) hI ht (by omega)
        have hJ2 := s_begin_J hJ hil hst q0
        refine g_aload_n dX6_plans_115 rfl ?_
        refine g_getr (q := 199) fX6_32 dX6_plans_116 rfl rfl rfl ?_
        refine g_iload_n dX6_plans_119 rfl ?_
        refine g_iload dX6_plans_120 rfl ?_
        refine g_iast dX6_plans_122 rfl (show pre.length < 4 by omega) rfl ?_
        have hM1 := rM_k9 hM (x_fk_si h 199 pre.length (nI t)) (by decide)
        have hp1 := rP_s (j := t) hp
        have hO1 := rO_fr hO (fun j => (x_fk_si h 199 pre.length (nI t)) 198 (by decide) j)
        have hA1 := rA_fr hA (fun j => (x_fk_si h 199 pre.length (nI t)) 200 (by decide) j) ((x_fk_si h 199 pre.length (nI t)) 192 (by decide) 15) ((x_fk_si h 199 pre.length (nI t)) 192 (by decide) 16)
        have hk2 : okA (c + t * 8 ^ R.length) (pl_fo (fun t a => if s_bar B i t = 0 then pl_go R (s_begin B i t) (pre ++ [t]) a else a) t a0) := okA_fo (m := B.1) (fun u c9 a9 hu ha9 => by
          by_cases y : s_bar B i u = 0
          · show okA _ (if s_bar B i u = 0 then _ else _)
            rw [if_pos y]
            exact okA_go R (s_begin_I hI hu (by omega)) (by omega) ha9
          · show okA _ (if s_bar B i u = 0 then _ else _)
            rw [if_neg y]
            exact okA_mono ha9 (Nat.le_add_right _ _)) hk t (by omega)
        have hcc2 : c + t * 8 ^ R.length + 8 ^ R.length ≤ 500000 := by
          have e9 : (t + 1) * 8 ^ R.length ≤ 8 * 8 ^ R.length := Nat.mul_le_mul_right _ (by omega)
          rw [Nat.succ_mul] at e9
          rw [Nat.pow_succ, Nat.mul_comm (8 ^ R.length) 8] at hcc
          omega
        refine g_aload_n dX6_plans_123 rfl ?_
        refine g_iload_n dX6_plans_124 rfl ?_
        refine g_iload dX6_plans_125 rfl ?_
        refine q_V (u' := 0) lX6_194 kX6_begins (mX6_begins hM1 hI hil ht (by omega)) dX6_plans_127 rfl rfl rfl rfl rfl rfl rfl rfl (fun v h127 hq => ?_) (fun _ _ q => q.elim)
        obtain ⟨rfl, hM2, hF2⟩ := hq
        dsimp only [Option.toList, List.cons_append, List.nil_append]
        refine g_pop dX6_plans_130 rfl ?_
        refine g_aload_n dX6_plans_131 rfl ?_
        refine g_iload_n dX6_plans_132 rfl ?_
        refine g_iconst (v := 1) dX6_plans_133 (by decide) ?_
        refine g_iadd dX6_plans_134 ?_
        refine g_top (y := nI (pre ++ [t]).length) (by rw [List.length_append]; exact nI_1 _) ?_
        refine g_iload_n dX6_plans_135 rfl ?_
        refine q_V (u' := 0) lX6_217 kX6_plans (mX6_plans1 (R := R) (B := s_begin B i t) (pre := pre ++ [t]) (a := pl_fo (fun t a => if s_bar B i t = 0 then pl_go R (s_begin B i t) (pre ++ [t]) a else a) t a0) (PB := PB + 6) (c := c + t * 8 ^ R.length) (n7 := n7) (Ls := Ls) hM2 hI2 hJ2 hn7 hn4 (rO_fr hO1 (fun j => hF2 198 (by decide) j)) (rP_fr hp1 (fun j => hF2 199 (by decide) j)) (rA_fr hA1 (fun j => hF2 200 (by decide) j) (hF2 192 (by decide) 15) (hF2 192 (by decide) 16)) hk2 (by rw [List.length_append]; exact hd) hr (pl_rest_step hrest) (by omega) hcc2) dX6_plans_136 rfl rfl rfl rfl rfl rfl rfl rfl (fun v h136 hq => ?_) (fun _ _ q => q.elim)
        obtain ⟨rfl, hM3, hO3, hp3, hA3, hF3⟩ := hq
        dsimp only [Option.toList, List.cons_append, List.nil_append]
        refine g_aload_n dX6_plans_139 rfl ?_
        refine g_iload dX6_plans_140 rfl ?_
        refine g_aload_n dX6_plans_142 rfl ?_
        refine g_iload_n dX6_plans_143 rfl ?_
        refine g_iload dX6_plans_144 rfl ?_
        refine f1_V (u' := 0) lX6_101 kX6_worth (mX6_worth hM3 hI2 (show i < B.2.1 from hil) (show t < B.1 from ht)) dX6_plans_146 rfl rfl rfl rfl rfl rfl rfl rfl ?_
        refine g_top (y := iI (s_worth B i t)) (by rw [worth_begin]) ?_
        refine g_ineg dX6_plans_149 ?_
        refine g_top (iI_neg _) ?_
        refine q_V (u' := 0) lX6_90 kX6_gains (mX6_gains (p := -(s_worth B i t)) hM3 (show B.1 ≤ 8 from i1) (show B.2.1 ≤ 40 from i2) (show t < B.1 from ht)) dX6_plans_150 rfl rfl rfl rfl rfl rfl rfl rfl (fun v h150 hq => ?_) (fun _ _ q => q.elim)
        obtain ⟨rfl, hM4, hF4⟩ := hq
        dsimp only [Option.toList, List.cons_append, List.nil_append]
        refine g_aload_n dX6_plans_153 rfl ?_
        refine g_getr (q := 193) fX6_9 dX6_plans_154 rfl rfl rfl ?_
        refine g_iload_n dX6_plans_157 rfl ?_
        refine f1_S (u' := 0) lX6_47 kX6_lessonAt (mX6_lessonAt) dX6_plans_158 rfl rfl rfl rfl rfl rfl ?_
        refine g_iconst (v := 5) dX6_plans_161 (by decide) ?_
        refine g_iadd dX6_plans_162 ?_
        refine g_top (y := nI ((56 + 8 * i) + 5)) (by rw [show (5 : Int32) = nI 5 by decide, nI_add]) ?_
        refine g_iconst (v := (-1)) dX6_plans_163 (by decide) ?_
        refine g_iast dX6_plans_164 rfl (show 56 + 8 * i + 5 < 376 by omega) rfl ?_
        have hM5 := rM_aU (f := 13) (v := -1) hM4 (show B.1 ≤ 8 from i1) (show B.2.1 ≤ 40 from i2) (in_l rfl (show i < B.2.1 from hil)) rfl
        rw [undo_eq h13] at hM5
        refine s_inc (v := nI (t + 1)) dX6_plans_165 rfl nI_s rfl rfl rfl ?_
        dsimp only [List.set]
        refine g_goto (tgt := 93) dX6_plans_168 (by decide) ?_
        first
        | exact ih (t + 1) h (by omega) hM hO hp (by rw [ef]; exact hA) hF (by omega)
        | exact ih (t + 1) _ (by omega) hM5 (rO_m (rO_m hO3 hF4) (x_fm_si _ _ _)) (rP_m (rP_m (rP_pre hp3) hF4) (x_fm_si _ _ _)) (by rw [ef]; exact rA_m (rA_m hA3 hF4) (x_fm_si _ _ _)) (x_fq_tr hF (x_fq_tr (x_fq_k (x_fk_si _ _ _ _) (Or.inl rfl)) (x_fq_tr (x_fq_m hF2) (x_fq_tr hF3 (x_fq_tr (x_fq_m hF4) (x_fq_m (x_fm_si _ _ _))))))) (by omega)
      · rw [show (0 : Int32) = iI 0 by decide, iI_le (by omega) (by omega) (by omega) (by omega)] at c109
        have ef : pl_fo (fun t a => if s_bar B i t = 0 then pl_go R (s_begin B i t) (pre ++ [t]) a else a) (t + 1) a0 = pl_fo (fun t a => if s_bar B i t = 0 then pl_go R (s_begin B i t) (pre ++ [t]) a else a) t a0 := by show (if s_bar B i t = 0 then _ else _) = _; rw [if_neg (by omega)]
        refine g_goto (tgt := 165) dX6_plans_112 (by decide) ?_
        refine s_inc (v := nI (t + 1)) dX6_plans_165 rfl nI_s rfl rfl rfl ?_
        dsimp only [List.set]
        refine g_goto (tgt := 93) dX6_plans_168 (by decide) ?_
        first
        | exact ih (t + 1) h (by omega) hM hO hp (by rw [ef]; exact hA) hF (by omega)
        | exact ih (t + 1) _ (by omega) hM5 (rO_m (rO_m hO3 hF4) (x_fm_si _ _ _)) (rP_m (rP_m (rP_pre hp3) hF4) (x_fm_si _ _ _)) (by rw [ef]; exact rA_m (rA_m hA3 hF4) (x_fm_si _ _ _)) (x_fq_tr hF (x_fq_tr (x_fq_k (x_fk_si _ _ _ _) (Or.inl rfl)) (x_fq_tr (x_fq_m hF2) (x_fq_tr hF3 (x_fq_tr (x_fq_m hF4) (x_fq_m (x_fm_si _ _ _))))))) (by omega)
set_option maxRecDepth 100000 in
theorem mX6_plans2 {l : Launch} {G : ux_G} {h : ux_H} {Ls R pre : List Nat} {B : Ab} {a : pl_A} {PB c n7 : Nat} (hM : rM 193 0 B h) (hI : Inv PB B) (hJ : InvF B) (hn : Ls.length = n7) (hn4 : n7 ≤ 4) (hO : rO Ls h) (hp : rP pre h) (hA : rA n7 a h) (hk : okA c a) (hd : Ls.drop pre.length = R) (hr : R.length = 2) (hrest : pl_rest B R) (hPB : PB + 6 * R.length ≤ 10000000) (hcc : c + 8 ^ R.length ≤ 500000) : ux_M l G yX6_plans iX6_plans 10 0 [.ref 192, .int (nI pre.length), .int (nI n7)] h (fun v h' => v = none ∧ rM 193 0 B h' ∧ rO Ls h' ∧ rP pre h' ∧ rA n7 (pl_go R B pre a) h' ∧ x_fq h h') (fun _ _ => False) := by
  refine ux_ent (L' := [some (.ref 192), some (.int (nI pre.length)), some (.int (nI n7)), none, none]) kX6_plans rfl rfl rfl rfl ?_
  have dl := congrArg List.length hd
  rw [List.length_drop] at dl
  refine g_iload_n dX6_plans_0 rfl ?_
  refine g_iload_n dX6_plans_1 rfl ?_
  refine g_icmp_ne (tgt := 83) dX6_plans_2 (by decide) (fun c2 => ?_) (fun c2 => ?_)
  · refine g_aload_n dX6_plans_83 rfl ?_
    refine g_getr (q := 198) fX6_29 dX6_plans_84 rfl rfl rfl ?_
    refine g_iload_n dX6_plans_87 rfl ?_
    refine g_iald dX6_plans_88 rfl (show pre.length < 40 by omega) rfl ?_
    obtain ⟨i, R2, rfl⟩ : ∃ i R2, R = i :: R2 := by cases R with | nil => cases hr | cons i R2 => exact ⟨i, R2, rfl⟩
    obtain ⟨e1, e2⟩ := pl_drop hd
    refine g_top (y := nI i) (hO _ i e1) ?_
    rw [pl_go_c]
    refine s_i (i := 3) dX6_plans_89 rfl rfl rfl rfl ?_
    dsimp only [List.set]
    refine g_iconst (v := 0) dX6_plans_90 (by decide) ?_
    refine s_iw dX6_plans_91 rfl rfl rfl ?_
    dsimp only [List.set]
    exact wX6_plans2 (l := l) (G := G) (h0 := h) hI hJ hn hn4 hk e1 e2 (by simpa using hr) hrest hPB hcc (B.1 + 1) 0 h (Nat.zero_le _) hM hO hp hA (x_fq_rf h) (by omega)
  · exact absurd c2 (by rw [nI_iI, nI_iI, iI_eq (by omega) (by omega) (by omega) (by omega)]; omega)
set_option maxRecDepth 100000 in
theorem wX6_plans3 {l : Launch} {G : ux_G} {h0 : ux_H} {Ls R pre : List Nat} {B : Ab} {a0 : pl_A} {PB c n7 i : Nat} (hI : Inv PB B) (hJ : InvF B) (hn7 : Ls.length = n7) (hn4 : n7 ≤ 4) (hk : okA c a0) (hi : Ls[pre.length]? = some i) (hd : Ls.drop (pre.length + 1) = R) (hr : R.length = 2) (hrest : pl_rest B (i :: R)) (hPB : PB + 6 * (R.length + 1) ≤ 10000000) (hcc : c + 8 ^ (R.length + 1) ≤ 500000) : ∀ (n : Nat) (t : Nat) (h : ux_H), t ≤ B.1 → rM 193 0 B h → rO Ls h → rP pre h → rA n7 (pl_fo (fun t a => if s_bar B i t = 0 then pl_go R (s_begin B i t) (pre ++ [t]) a else a) t a0) h → x_fq h0 h → B.1 - t < n → ux_W l G iX6_plans (ux_rm 11 0) (ux_Z G 0 (fun v h' => v = none ∧ rM 193 0 B h' ∧ rO Ls h' ∧ rP pre h' ∧ rA n7 (pl_fo (fun t a => if s_bar B i t = 0 then pl_go R (s_begin B i t) (pre ++ [t]) a else a) B.1 a0) h' ∧ x_fq h0 h') (fun _ _ => False)) 93 [some (.ref 192), some (.int (nI pre.length)), some (.int (nI n7)), some (.int (nI i)), some (.int (nI t))] [] (h) 0 := by
  intro n
  induction n with
  | zero => intro t h htt hM hO hp hA hF hn; exact absurd hn (Nat.not_lt_zero _)
  | succ n ih =>
    intro t h htt hM hO hp hA hF hn
    have dl := congrArg List.length hd
    rw [List.length_drop] at dl
    obtain ⟨i1, i2, i3, i4, i5, i6⟩ := id hI
    obtain ⟨hil, hst⟩ := hrest.2 i List.mem_cons_self
    have h13 := (s_st3 hst).2.1
    have hpl := (List.getElem?_eq_some_iff.mp hi).1
    refine g_iload dX6_plans_93 rfl ?_
    refine g_aload_n dX6_plans_95 rfl ?_
    refine f1_V (u' := 0) lX6_62 kX6_teachers (mX6_teachers hM) dX6_plans_96 rfl rfl rfl rfl rfl rfl rfl rfl ?_
    refine g_icmp_ge (tgt := 171) dX6_plans_99 (by decide) (fun c99 => ?_) (fun c99 => ?_)
    · have e : t = B.1 := by have := xlt_i c99 (by omega) (by omega); omega
      subst e
      refine g_return dX6_plans_171 rfl (by decide) ?_
      exact ⟨rfl, hM, hO, hp, hA, hF⟩
    · have ht : t < B.1 := xnl_i c99 (by omega) (by omega)
      have br := s_bar_r B i t
      refine g_aload_n dX6_plans_102 rfl ?_
      refine g_iload_n dX6_plans_103 rfl ?_
      refine g_iload dX6_plans_104 rfl ?_
      refine f1_V (u' := 0) lX6_182 kX6_bar (mX6_bar hM hI hJ (by omega) (by omega)) dX6_plans_106 rfl rfl rfl rfl rfl rfl rfl rfl ?_
      refine g_if_le (tgt := 115) dX6_plans_109 (by decide) (fun c109 => ?_) (fun c109 => ?_)
      · rw [show (0 : Int32) = iI 0 by decide, iI_le (by omega) (by omega) (by omega) (by omega)] at c109
        have q0 : s_bar B i t = 0 := by omega
        have ef : pl_fo (fun t a => if s_bar B i t = 0 then pl_go R (s_begin B i t) (pre ++ [t]) a else a) (t + 1) a0 = pl_go R (s_begin B i t) (pre ++ [t]) (pl_fo (fun t a => if s_bar B i t = 0 then pl_go R (s_begin B i t) (pre ++ [t]) a else a) t a0) := by show (if s_bar B i t = 0 then _ else _) = _; rw [if_pos q0]
        have hI2 := s_begin_I (i := i) hI ht (by omega)
        have hJ2 := s_begin_J hJ hil hst q0
        refine g_aload_n dX6_plans_115 rfl ?_
        refine g_getr (q := 199) fX6_32 dX6_plans_116 rfl rfl rfl ?_
        refine g_iload_n dX6_plans_119 rfl ?_
        refine g_iload dX6_plans_120 rfl ?_
        refine g_iast dX6_plans_122 rfl (show pre.length < 4 by omega) rfl ?_
        have hM1 := rM_k9 hM (x_fk_si h 199 pre.length (nI t)) (by decide)
        have hp1 := rP_s (j := t) hp
        have hO1 := rO_fr hO (fun j => (x_fk_si h 199 pre.length (nI t)) 198 (by decide) j)
        have hA1 := rA_fr hA (fun j => (x_fk_si h 199 pre.length (nI t)) 200 (by decide) j) ((x_fk_si h 199 pre.length (nI t)) 192 (by decide) 15) ((x_fk_si h 199 pre.length (nI t)) 192 (by decide) 16)
        have hk2 : okA (c + t * 8 ^ R.length) (pl_fo (fun t a => if s_bar B i t = 0 then pl_go R (s_begin B i t) (pre ++ [t]) a else a) t a0) := okA_fo (m := B.1) (fun u c9 a9 hu ha9 => by
          by_cases y : s_bar B i u = 0
          · show okA _ (if s_bar B i u = 0 then _ else _)
            rw [if_pos y]
            exact okA_go R (s_begin_I hI hu (by omega)) (by omega) ha9
          · show okA _ (if s_bar B i u = 0 then _ else _)
            rw [if_neg y]
            exact okA_mono ha9 (Nat.le_add_right _ _)) hk t (by omega)
        have hcc2 : c + t * 8 ^ R.length + 8 ^ R.length ≤ 500000 := by
          have e9 : (t + 1) * 8 ^ R.length ≤ 8 * 8 ^ R.length := Nat.mul_le_mul_right _ (by omega)
          rw [Nat.succ_mul] at e9
          rw [Nat.pow_succ, Nat.mul_comm (8 ^ R.length) 8] at hcc
          omega
        refine g_aload_n dX6_plans_123 rfl ?_
        refine g_iload_n dX6_plans_124 rfl ?_
        refine g_iload dX6_plans_125 rfl ?_
        refine q_V (u' := 0) lX6_194 kX6_begins (mX6_begins hM1 hI hil ht (by omega)) dX6_plans_127 rfl rfl rfl rfl rfl rfl rfl rfl (fun v h127 hq => ?_) (fun _ _ q => q.elim)
        obtain ⟨rfl, hM2, hF2⟩ := hq
        dsimp only [Option.toList, List.cons_append, List.nil_append]
        refine g_pop dX6_plans_130 rfl ?_
        refine g_aload_n dX6_plans_131 rfl ?_
        refine g_iload_n dX6_plans_132 rfl ?_
        refine g_iconst (v := 1) dX6_plans_133 (by decide) ?_
        refine g_iadd dX6_plans_134 ?_
        refine g_top (y := nI (pre ++ [t]).length) (by rw [List.length_append]; exact nI_1 _) ?_
        refine g_iload_n dX6_plans_135 rfl ?_
        refine q_V (u' := 0) lX6_217 kX6_plans (mX6_plans2 (R := R) (B := s_begin B i t) (pre := pre ++ [t]) (a := pl_fo (fun t a => if s_bar B i t = 0 then pl_go R (s_begin B i t) (pre ++ [t]) a else a) t a0) (PB := PB + 6) (c := c + t * 8 ^ R.length) (n7 := n7) (Ls := Ls) hM2 hI2 hJ2 hn7 hn4 (rO_fr hO1 (fun j => hF2 198 (by decide) j)) (rP_fr hp1 (fun j => hF2 199 (by decide) j)) (rA_fr hA1 (fun j => hF2 200 (by decide) j) (hF2 192 (by decide) 15) (hF2 192 (by decide) 16)) hk2 (by rw [List.length_append]; exact hd) hr (pl_rest_step hrest) (by omega) hcc2) dX6_plans_136 rfl rfl rfl rfl rfl rfl rfl rfl (fun v h136 hq => ?_) (fun _ _ q => q.elim)
        obtain ⟨rfl, hM3, hO3, hp3, hA3, hF3⟩ := hq
        dsimp only [Option.toList, List.cons_append, List.nil_append]
        refine g_aload_n dX6_plans_139 rfl ?_
        refine g_iload dX6_plans_140 rfl ?_
        refine g_aload_n dX6_plans_142 rfl ?_
        refine g_iload_n dX6_plans_143 rfl ?_
        refine g_iload dX6_plans_144 rfl ?_
        refine f1_V (u' := 0) lX6_101 kX6_worth (mX6_worth hM3 hI2 (show i < B.2.1 from hil) (show t < B.1 from ht)) dX6_plans_146 rfl rfl rfl rfl rfl rfl rfl rfl ?_
        refine g_top (y := iI (s_worth B i t)) (by rw [worth_begin]) ?_
        refine g_ineg dX6_plans_149 ?_
        refine g_top (iI_neg _) ?_
        refine q_V (u' := 0) lX6_90 kX6_gains (mX6_gains (p := -(s_worth B i t)) hM3 (show B.1 ≤ 8 from i1) (show B.2.1 ≤ 40 from i2) (show t < B.1 from ht)) dX6_plans_150 rfl rfl rfl rfl rfl rfl rfl rfl (fun v h150 hq => ?_) (fun _ _ q => q.elim)
        obtain ⟨rfl, hM4, hF4⟩ := hq
        dsimp only [Option.toList, List.cons_append, List.nil_append]
        refine g_aload_n dX6_plans_153 rfl ?_
        refine g_getr (q := 193) fX6_9 dX6_plans_154 rfl rfl rfl ?_
        refine g_iload_n dX6_plans_157 rfl ?_
        refine f1_S (u' := 0) lX6_47 kX6_lessonAt (mX6_lessonAt) dX6_plans_158 rfl rfl rfl rfl rfl rfl ?_
        refine g_iconst (v := 5) dX6_plans_161 (by decide) ?_
        refine g_iadd dX6_plans_162 ?_
        refine g_top (y := nI ((56 + 8 * i) + 5)) (by rw [show (5 : Int32) = nI 5 by decide, nI_add]) ?_
        refine g_iconst (v := (-1)) dX6_plans_163 (by decide) ?_
        refine g_iast dX6_plans_164 rfl (show 56 + 8 * i + 5 < 376 by omega) rfl ?_
        have hM5 := rM_aU (f := 13) (v := -1) hM4 (show B.1 ≤ 8 from i1) (show B.2.1 ≤ 40 from i2) (in_l rfl (show i < B.2.1 from hil)) rfl
        rw [undo_eq h13] at hM5
        refine s_inc (v := nI (t + 1)) dX6_plans_165 rfl nI_s rfl rfl rfl ?_
        dsimp only [List.set]
        refine g_goto (tgt := 93) dX6_plans_168 (by decide) ?_
        first
        | exact ih (t + 1) h (by omega) hM hO hp (by rw [ef]; exact hA) hF (by omega)
        | exact ih (t + 1) _ (by omega) hM5 (rO_m (rO_m hO3 hF4) (x_fm_si _ _ _)) (rP_m (rP_m (rP_pre hp3) hF4) (x_fm_si _ _ _)) (by rw [ef]; exact rA_m (rA_m hA3 hF4) (x_fm_si _ _ _)) (x_fq_tr hF (x_fq_tr (x_fq_k (x_fk_si _ _ _ _) (Or.inl rfl)) (x_fq_tr (x_fq_m hF2) (x_fq_tr hF3 (x_fq_tr (x_fq_m hF4) (x_fq_m (x_fm_si _ _ _))))))) (by omega)
      · rw [show (0 : Int32) = iI 0 by decide, iI_le (by omega) (by omega) (by omega) (by omega)] at c109
        have ef : pl_fo (fun t a => if s_bar B i t = 0 then pl_go R (s_begin B i t) (pre ++ [t]) a else a) (t + 1) a0 = pl_fo (fun t a => if s_bar B i t = 0 then pl_go R (s_begin B i t) (pre ++ [t]) a else a) t a0 := by show (if s_bar B i t = 0 then _ else _) = _; rw [if_neg (by omega)]
        refine g_goto (tgt := 165) dX6_plans_112 (by decide) ?_
        refine s_inc (v := nI (t + 1)) dX6_plans_165 rfl nI_s rfl rfl rfl ?_
        dsimp only [List.set]
        refine g_goto (tgt := 93) dX6_plans_168 (by decide) ?_
        first
        | exact ih (t + 1) h (by omega) hM hO hp (by rw [ef]; exact hA) hF (by omega)
        | exact ih (t + 1) _ (by omega) hM5 (rO_m (rO_m hO3 hF4) (x_fm_si _ _ _)) (rP_m (rP_m (rP_pre hp3) hF4) (x_fm_si _ _ _)) (by rw [ef]; exact rA_m (rA_m hA3 hF4) (x_fm_si _ _ _)) (x_fq_tr hF (x_fq_tr (x_fq_k (x_fk_si _ _ _ _) (Or.inl rfl)) (x_fq_tr (x_fq_m hF2) (x_fq_tr hF3 (x_fq_tr (x_fq_m hF4) (x_fq_m (x_fm_si _ _ _))))))) (by omega)
set_option maxRecDepth 100000 in
theorem mX6_plans3 {l : Launch} {G : ux_G} {h : ux_H} {Ls R pre : List Nat} {B : Ab} {a : pl_A} {PB c n7 : Nat} (hM : rM 193 0 B h) (hI : Inv PB B) (hJ : InvF B) (hn : Ls.length = n7) (hn4 : n7 ≤ 4) (hO : rO Ls h) (hp : rP pre h) (hA : rA n7 a h) (hk : okA c a) (hd : Ls.drop pre.length = R) (hr : R.length = 3) (hrest : pl_rest B R) (hPB : PB + 6 * R.length ≤ 10000000) (hcc : c + 8 ^ R.length ≤ 500000) : ux_M l G yX6_plans iX6_plans 11 0 [.ref 192, .int (nI pre.length), .int (nI n7)] h (fun v h' => v = none ∧ rM 193 0 B h' ∧ rO Ls h' ∧ rP pre h' ∧ rA n7 (pl_go R B pre a) h' ∧ x_fq h h') (fun _ _ => False) := by
  refine ux_ent (L' := [some (.ref 192), some (.int (nI pre.length)), some (.int (nI n7)), none, none]) kX6_plans rfl rfl rfl rfl ?_
  have dl := congrArg List.length hd
  rw [List.length_drop] at dl
  refine g_iload_n dX6_plans_0 rfl ?_
  refine g_iload_n dX6_plans_1 rfl ?_
  refine g_icmp_ne (tgt := 83) dX6_plans_2 (by decide) (fun c2 => ?_) (fun c2 => ?_)
  · refine g_aload_n dX6_plans_83 rfl ?_
    refine g_getr (q := 198) fX6_29 dX6_plans_84 rfl rfl rfl ?_
    refine g_iload_n dX6_plans_87 rfl ?_
    refine g_iald dX6_plans_88 rfl (show pre.length < 40 by omega) rfl ?_
    obtain ⟨i, R2, rfl⟩ : ∃ i R2, R = i :: R2 := by cases R with | nil => cases hr | cons i R2 => exact ⟨i, R2, rfl⟩
    obtain ⟨e1, e2⟩ := pl_drop hd
    refine g_top (y := nI i) (hO _ i e1) ?_
    rw [pl_go_c]
    refine s_i (i := 3) dX6_plans_89 rfl rfl rfl rfl ?_
    dsimp only [List.set]
    refine g_iconst (v := 0) dX6_plans_90 (by decide) ?_
    refine s_iw dX6_plans_91 rfl rfl rfl ?_
    dsimp only [List.set]
    exact wX6_plans3 (l := l) (G := G) (h0 := h) hI hJ hn hn4 hk e1 e2 (by simpa using hr) hrest hPB hcc (B.1 + 1) 0 h (Nat.zero_le _) hM hO hp hA (x_fq_rf h) (by omega)
  · exact absurd c2 (by rw [nI_iI, nI_iI, iI_eq (by omega) (by omega) (by omega) (by omega)]; omega)
set_option maxRecDepth 100000 in
theorem wX6_plans4 {l : Launch} {G : ux_G} {h0 : ux_H} {Ls R pre : List Nat} {B : Ab} {a0 : pl_A} {PB c n7 i : Nat} (hI : Inv PB B) (hJ : InvF B) (hn7 : Ls.length = n7) (hn4 : n7 ≤ 4) (hk : okA c a0) (hi : Ls[pre.length]? = some i) (hd : Ls.drop (pre.length + 1) = R) (hr : R.length = 3) (hrest : pl_rest B (i :: R)) (hPB : PB + 6 * (R.length + 1) ≤ 10000000) (hcc : c + 8 ^ (R.length + 1) ≤ 500000) : ∀ (n : Nat) (t : Nat) (h : ux_H), t ≤ B.1 → rM 193 0 B h → rO Ls h → rP pre h → rA n7 (pl_fo (fun t a => if s_bar B i t = 0 then pl_go R (s_begin B i t) (pre ++ [t]) a else a) t a0) h → x_fq h0 h → B.1 - t < n → ux_W l G iX6_plans (ux_rm 12 0) (ux_Z G 0 (fun v h' => v = none ∧ rM 193 0 B h' ∧ rO Ls h' ∧ rP pre h' ∧ rA n7 (pl_fo (fun t a => if s_bar B i t = 0 then pl_go R (s_begin B i t) (pre ++ [t]) a else a) B.1 a0) h' ∧ x_fq h0 h') (fun _ _ => False)) 93 [some (.ref 192), some (.int (nI pre.length)), some (.int (nI n7)), some (.int (nI i)), some (.int (nI t))] [] (h) 0 := by
  intro n
  induction n with
  | zero => intro t h htt hM hO hp hA hF hn; exact absurd hn (Nat.not_lt_zero _)
  | succ n ih =>
    intro t h htt hM hO hp hA hF hn
    have dl := congrArg List.length hd
    rw [List.length_drop] at dl
    obtain ⟨i1, i2, i3, i4, i5, i6⟩ := id hI
    obtain ⟨hil, hst⟩ := hrest.2 i List.mem_cons_self
    have h13 := (s_st3 hst).2.1
    have hpl := (List.getElem?_eq_some_iff.mp hi).1
    refine g_iload dX6_plans_93 rfl ?_
    refine g_aload_n dX6_plans_95 rfl ?_
    refine f1_V (u' := 0) lX6_62 kX6_teachers (mX6_teachers hM) dX6_plans_96 rfl rfl rfl rfl rfl rfl rfl rfl ?_
    refine g_icmp_ge (tgt := 171) dX6_plans_99 (by decide) (fun c99 => ?_) (fun c99 => ?_)
    · have e : t = B.1 := by have := xlt_i c99 (by omega) (by omega); omega
      subst e
      refine g_return dX6_plans_171 rfl (by decide) ?_
      exact ⟨rfl, hM, hO, hp, hA, hF⟩
    · have ht : t < B.1 := xnl_i c99 (by omega) (by omega)
      have br := s_bar_r B i t
      refine g_aload_n dX6_plans_102 rfl ?_
      refine g_iload_n dX6_plans_103 rfl ?_
      refine g_iload dX6_plans_104 rfl ?_
      refine f1_V (u' := 0) lX6_182 kX6_bar (mX6_bar hM hI hJ (by omega) (by omega)) dX6_plans_106 rfl rfl rfl rfl rfl rfl rfl rfl ?_
      refine g_if_le (tgt := 115) dX6_plans_109 (by decide) (fun c109 => ?_) (fun c109 => ?_)
      · rw [show (0 : Int32) = iI 0 by decide, iI_le (by omega) (by omega) (by omega) (by omega)] at c109
        have q0 : s_bar B i t = 0 := by omega
        have ef : pl_fo (fun t a => if s_bar B i t = 0 then pl_go R (s_begin B i t) (pre ++ [t]) a else a) (t + 1) a0 = pl_go R (s_begin B i t) (pre ++ [t]) (pl_fo (fun t a => if s_bar B i t = 0 then pl_go R (s_begin B i t) (pre ++ [t]) a else a) t a0) := by show (if s_bar B i t = 0 then _ else _) = _; rw [if_pos q0]
        have hI2 := s_begin_I (i := i) hI ht (by omega)
        have hJ2 := s_begin_J hJ hil hst q0
        refine g_aload_n dX6_plans_115 rfl ?_
        refine g_getr (q := 199) fX6_32 dX6_plans_116 rfl rfl rfl ?_
        refine g_iload_n dX6_plans_119 rfl ?_
        refine g_iload dX6_plans_120 rfl ?_
        refine g_iast dX6_plans_122 rfl (show pre.length < 4 by omega) rfl ?_
        have hM1 := rM_k9 hM (x_fk_si h 199 pre.length (nI t)) (by decide)
        have hp1 := rP_s (j := t) hp
        have hO1 := rO_fr hO (fun j => (x_fk_si h 199 pre.length (nI t)) 198 (by decide) j)
        have hA1 := rA_fr hA (fun j => (x_fk_si h 199 pre.length (nI t)) 200 (by decide) j) ((x_fk_si h 199 pre.length (nI t)) 192 (by decide) 15) ((x_fk_si h 199 pre.length (nI t)) 192 (by decide) 16)
        have hk2 : okA (c + t * 8 ^ R.length) (pl_fo (fun t a => if s_bar B i t = 0 then pl_go R (s_begin B i t) (pre ++ [t]) a else a) t a0) := okA_fo (m := B.1) (fun u c9 a9 hu ha9 => by
          by_cases y : s_bar B i u = 0
          · show okA _ (if s_bar B i u = 0 then _ else _)
            rw [if_pos y]
            exact okA_go R (s_begin_I hI hu (by omega)) (by omega) ha9
          · show okA _ (if s_bar B i u = 0 then _ else _)
            rw [if_neg y]
            exact okA_mono ha9 (Nat.le_add_right _ _)) hk t (by omega)
        have hcc2 : c + t * 8 ^ R.length + 8 ^ R.length ≤ 500000 := by
          have e9 : (t + 1) * 8 ^ R.length ≤ 8 * 8 ^ R.length := Nat.mul_le_mul_right _ (by omega)
          rw [Nat.succ_mul] at e9
          rw [Nat.pow_succ, Nat.mul_comm (8 ^ R.length) 8] at hcc
          omega
        refine g_aload_n dX6_plans_123 rfl ?_
        refine g_iload_n dX6_plans_124 rfl ?_
        refine g_iload dX6_plans_125 rfl ?_
        refine q_V (u' := 0) lX6_194 kX6_begins (mX6_begins hM1 hI hil ht (by omega)) dX6_plans_127 rfl rfl rfl rfl rfl rfl rfl rfl (fun v h127 hq => ?_) (fun _ _ q => q.elim)
        obtain ⟨rfl, hM2, hF2⟩ := hq
        dsimp only [Option.toList, List.cons_append, List.nil_append]
        refine g_pop dX6_plans_130 rfl ?_
        refine g_aload_n dX6_plans_131 rfl ?_
        refine g_iload_n dX6_plans_132 rfl ?_
        refine g_iconst (v := 1) dX6_plans_133 (by decide) ?_
        refine g_iadd dX6_plans_134 ?_
        refine g_top (y := nI (pre ++ [t]).length) (by rw [List.length_append]; exact nI_1 _) ?_
        refine g_iload_n dX6_plans_135 rfl ?_
        refine q_V (u' := 0) lX6_217 kX6_plans (mX6_plans3 (R := R) (B := s_begin B i t) (pre := pre ++ [t]) (a := pl_fo (fun t a => if s_bar B i t = 0 then pl_go R (s_begin B i t) (pre ++ [t]) a else a) t a0) (PB := PB + 6) (c := c + t * 8 ^ R.length) (n7 := n7) (Ls := Ls) hM2 hI2 hJ2 hn7 hn4 (rO_fr hO1 (fun j => hF2 198 (by decide) j)) (rP_fr hp1 (fun j => hF2 199 (by decide) j)) (rA_fr hA1 (fun j => hF2 200 (by decide) j) (hF2 192 (by decide) 15) (hF2 192 (by decide) 16)) hk2 (by rw [List.length_append]; exact hd) hr (pl_rest_step hrest) (by omega) hcc2) dX6_plans_136 rfl rfl rfl rfl rfl rfl rfl rfl (fun v h136 hq => ?_) (fun _ _ q => q.elim)
        obtain ⟨rfl, hM3, hO3, hp3, hA3, hF3⟩ := hq
        dsimp only [Option.toList, List.cons_append, List.nil_append]
        refine g_aload_n dX6_plans_139 rfl ?_
        refine g_iload dX6_plans_140 rfl ?_
        refine g_aload_n dX6_plans_142 rfl ?_
        refine g_iload_n dX6_plans_143 rfl ?_
        refine g_iload dX6_plans_144 rfl ?_
        refine f1_V (u' := 0) lX6_101 kX6_worth (mX6_worth hM3 hI2 (show i < B.2.1 from hil) (show t < B.1 from ht)) dX6_plans_146 rfl rfl rfl rfl rfl rfl rfl rfl ?_
        refine g_top (y := iI (s_worth B i t)) (by rw [worth_begin]) ?_
        refine g_ineg dX6_plans_149 ?_
        refine g_top (iI_neg _) ?_
        refine q_V (u' := 0) lX6_90 kX6_gains (mX6_gains (p := -(s_worth B i t)) hM3 (show B.1 ≤ 8 from i1) (show B.2.1 ≤ 40 from i2) (show t < B.1 from ht)) dX6_plans_150 rfl rfl rfl rfl rfl rfl rfl rfl (fun v h150 hq => ?_) (fun _ _ q => q.elim)
        obtain ⟨rfl, hM4, hF4⟩ := hq
        dsimp only [Option.toList, List.cons_append, List.nil_append]
        refine g_aload_n dX6_plans_153 rfl ?_
        refine g_getr (q := 193) fX6_9 dX6_plans_154 rfl rfl rfl ?_
        refine g_iload_n dX6_plans_157 rfl ?_
        refine f1_S (u' := 0) lX6_47 kX6_lessonAt (mX6_lessonAt) dX6_plans_158 rfl rfl rfl rfl rfl rfl ?_
        refine g_iconst (v := 5) dX6_plans_161 (by decide) ?_
        refine g_iadd dX6_plans_162 ?_
        refine g_top (y := nI ((56 + 8 * i) + 5)) (by rw [show (5 : Int32) = nI 5 by decide, nI_add]) ?_
        refine g_iconst (v := (-1)) dX6_plans_163 (by decide) ?_
        refine g_iast dX6_plans_164 rfl (show 56 + 8 * i + 5 < 376 by omega) rfl ?_
        have hM5 := rM_aU (f := 13) (v := -1) hM4 (show B.1 ≤ 8 from i1) (show B.2.1 ≤ 40 from i2) (in_l rfl (show i < B.2.1 from hil)) rfl
        rw [undo_eq h13] at hM5
        refine s_inc (v := nI (t + 1)) dX6_plans_165 rfl nI_s rfl rfl rfl ?_
        dsimp only [List.set]
        refine g_goto (tgt := 93) dX6_plans_168 (by decide) ?_
        first
        | exact ih (t + 1) h (by omega) hM hO hp (by rw [ef]; exact hA) hF (by omega)
        | exact ih (t + 1) _ (by omega) hM5 (rO_m (rO_m hO3 hF4) (x_fm_si _ _ _)) (rP_m (rP_m (rP_pre hp3) hF4) (x_fm_si _ _ _)) (by rw [ef]; exact rA_m (rA_m hA3 hF4) (x_fm_si _ _ _)) (x_fq_tr hF (x_fq_tr (x_fq_k (x_fk_si _ _ _ _) (Or.inl rfl)) (x_fq_tr (x_fq_m hF2) (x_fq_tr hF3 (x_fq_tr (x_fq_m hF4) (x_fq_m (x_fm_si _ _ _))))))) (by omega)
      · rw [show (0 : Int32) = iI 0 by decide, iI_le (by omega) (by omega) (by omega) (by omega)] at c109
        have ef : pl_fo (fun t a => if s_bar B i t = 0 then pl_go R (s_begin B i t) (pre ++ [t]) a else a) (t + 1) a0 = pl_fo (fun t a => if s_bar B i t = 0 then pl_go R (s_begin B i t) (pre ++ [t]) a else a) t a0 := by show (if s_bar B i t = 0 then _ else _) = _; rw [if_neg (by omega)]
        refine g_goto (tgt := 165) dX6_plans_112 (by decide) ?_
        refine s_inc (v := nI (t + 1)) dX6_plans_165 rfl nI_s rfl rfl rfl ?_
        dsimp only [List.set]
        refine g_goto (tgt := 93) dX6_plans_168 (by decide) ?_
        first
        | exact ih (t + 1) h (by omega) hM hO hp (by rw [ef]; exact hA) hF (by omega)
        | exact ih (t + 1) _ (by omega) hM5 (rO_m (rO_m hO3 hF4) (x_fm_si _ _ _)) (rP_m (rP_m (rP_pre hp3) hF4) (x_fm_si _ _ _)) (by rw [ef]; exact rA_m (rA_m hA3 hF4) (x_fm_si _ _ _)) (x_fq_tr hF (x_fq_tr (x_fq_k (x_fk_si _ _ _ _) (Or.inl rfl)) (x_fq_tr (x_fq_m hF2) (x_fq_tr hF3 (x_fq_tr (x_fq_m hF4) (x_fq_m (x_fm_si _ _ _))))))) (by omega)
set_option maxRecDepth 100000 in
theorem mX6_plans4 {l : Launch} {G : ux_G} {h : ux_H} {Ls R pre : List Nat} {B : Ab} {a : pl_A} {PB c n7 : Nat} (hM : rM 193 0 B h) (hI : Inv PB B) (hJ : InvF B) (hn : Ls.length = n7) (hn4 : n7 ≤ 4) (hO : rO Ls h) (hp : rP pre h) (hA : rA n7 a h) (hk : okA c a) (hd : Ls.drop pre.length = R) (hr : R.length = 4) (hrest : pl_rest B R) (hPB : PB + 6 * R.length ≤ 10000000) (hcc : c + 8 ^ R.length ≤ 500000) : ux_M l G yX6_plans iX6_plans 12 0 [.ref 192, .int (nI pre.length), .int (nI n7)] h (fun v h' => v = none ∧ rM 193 0 B h' ∧ rO Ls h' ∧ rP pre h' ∧ rA n7 (pl_go R B pre a) h' ∧ x_fq h h') (fun _ _ => False) := by
  refine ux_ent (L' := [some (.ref 192), some (.int (nI pre.length)), some (.int (nI n7)), none, none]) kX6_plans rfl rfl rfl rfl ?_
  have dl := congrArg List.length hd
  rw [List.length_drop] at dl
  refine g_iload_n dX6_plans_0 rfl ?_
  refine g_iload_n dX6_plans_1 rfl ?_
  refine g_icmp_ne (tgt := 83) dX6_plans_2 (by decide) (fun c2 => ?_) (fun c2 => ?_)
  · refine g_aload_n dX6_plans_83 rfl ?_
    refine g_getr (q := 198) fX6_29 dX6_plans_84 rfl rfl rfl ?_
    refine g_iload_n dX6_plans_87 rfl ?_
    refine g_iald dX6_plans_88 rfl (show pre.length < 40 by omega) rfl ?_
    obtain ⟨i, R2, rfl⟩ : ∃ i R2, R = i :: R2 := by cases R with | nil => cases hr | cons i R2 => exact ⟨i, R2, rfl⟩
    obtain ⟨e1, e2⟩ := pl_drop hd
    refine g_top (y := nI i) (hO _ i e1) ?_
    rw [pl_go_c]
    refine s_i (i := 3) dX6_plans_89 rfl rfl rfl rfl ?_
    dsimp only [List.set]
    refine g_iconst (v := 0) dX6_plans_90 (by decide) ?_
    refine s_iw dX6_plans_91 rfl rfl rfl ?_
    dsimp only [List.set]
    exact wX6_plans4 (l := l) (G := G) (h0 := h) hI hJ hn hn4 hk e1 e2 (by simpa using hr) hrest hPB hcc (B.1 + 1) 0 h (Nat.zero_le _) hM hO hp hA (x_fq_rf h) (by omega)
  · exact absurd c2 (by rw [nI_iI, nI_iI, iI_eq (by omega) (by omega) (by omega) (by omega)]; omega)
