/-! THE CLASS: the planner: its rows; the spread. -/
def rPs (A B : Ab) (d : Int) (h : ux_H) : Prop := xgi h 179 8 = nI A.1 ∧ ∀ t, t < A.1 → xgi h 185 t = iI (s_shr B t) ∧ xgi h 186 t = iI (aF A 3 t - s_con B t d)
def rPc (A : Ab) (Ls : List Nat) (h : ux_H) : Prop := xgi h 179 9 = nI Ls.length ∧ ∀ (k i : Nat), Ls[k]? = some i → xgi h 180 k = nI i ∧ xgi h 181 k = iI (aF A 8 i) ∧ ∀ t, t < A.1 → ((xgi h 182 k >>> (nI t &&& 31) &&& 1 = 0) ↔ ¬ s_bar A i t = 0) ∧ xgi h 187 (8 * k + t) = iI (s_share A t (s_worth A i t))
def rPp (pre : List Nat) (h : ux_H) : Prop := ∀ (k t : Nat), pre[k]? = some t → xgi h 183 k = nI t
def rPa (n : Nat) (a : pl_A) (h : ux_H) : Prop := xgi h 179 10 = nI a.1 ∧ xgi h 179 11 = iI a.2.1 ∧ (a.1 ≠ 0 → a.2.2.length = n ∧ ∀ (k t : Nat), a.2.2[k]? = some t → xgi h 184 k = nI t)
theorem s_shr_r {P : Nat} {B : Ab} (hI : Inv P B) {t : Nat} (ht : t < B.1) : -120000000 ≤ s_shr B t ∧ s_shr B t ≤ 120000000 := by
  have q := hI.2.2.2.1 t ht
  have p := hI.2.2.1
  have := s_share_r hI ht (p := aF B 4 t) (B := 10000000) (by omega) (by omega)
  unfold s_shr
  omega
theorem pl_mx_r {P : Nat} {B : Ab} (hI : Inv P B) : ∀ n, 1 ≤ n → n ≤ B.1 → -120000000 ≤ pl_mx B n ∧ pl_mx B n ≤ 120000000 := by
  intro n
  induction n with
  | zero => intro h; omega
  | succ n ih =>
    intro _ hn
    have a := s_shr_r hI (t := n) (by omega)
    have b := s_shr_r hI (t := 0) (by omega)
    unfold pl_mx
    split
    · exact b
    · split
      · exact a
      · exact ih (by omega) (by omega)
theorem pl_mn_r {P : Nat} {B : Ab} (hI : Inv P B) : ∀ n, 1 ≤ n → n ≤ B.1 → -120000000 ≤ pl_mn B n ∧ pl_mn B n ≤ 120000000 := by
  intro n
  induction n with
  | zero => intro h; omega
  | succ n ih =>
    intro _ hn
    have a := s_shr_r hI (t := n) (by omega)
    have b := s_shr_r hI (t := 0) (by omega)
    unfold pl_mn
    split
    · exact b
    · split
      · exact a
      · exact ih (by omega) (by omega)
set_option maxRecDepth 100000 in
theorem wX3_spreadNow {l : Launch} {G : ux_G} {h : ux_H} {A B : Ab} {P : Nat} {d : Int} (hB : Inv P B) (ht : B.1 = A.1) (hS : rPs A B d h) (h0 : 0 < A.1) : ∀ (n : Nat) (j : Nat), 1 ≤ j → j ≤ A.1 → A.1 - j < n → ux_W l G iX3_spreadNow (ux_rm 3 0) (ux_Z G 0 (fun v h' => v = some (.int (iI (pl_sp B))) ∧ h' = h) (fun _ _ => False)) 13 [some (.ref 179), some (.int (iI (pl_mn B j))), some (.int (iI (pl_mx B j))), some (.int (nI j))] [] (h) 0 := by
  intro n
  induction n with
  | zero => intro j hj1 hj hn; exact absurd hn (Nat.not_lt_zero _)
  | succ n ih =>
    intro j hj1 hj hn
    obtain ⟨b1, -⟩ := id hB
    have m1 := pl_mx_r hB j hj1 (by omega)
    have m2 := pl_mn_r hB j hj1 (by omega)
    refine g_iload_n dX3_spreadNow_13 rfl ?_
    refine g_aload_n dX3_spreadNow_14 rfl ?_
    refine g_geti fX3_36 dX3_spreadNow_15 rfl rfl ?_
    refine g_top hS.1 ?_
    refine g_icmp_ge (tgt := 53) dX3_spreadNow_18 (by decide) (fun c18 => ?_) (fun c18 => ?_)
    · have e : j = A.1 := by have := xlt_i c18 (by omega) (by omega); omega
      have ep : pl_sp B = pl_mx B j - pl_mn B j := by unfold pl_sp; rw [if_neg (by omega), ht, e]
      refine g_iload_n dX3_spreadNow_53 rfl ?_
      refine g_iload_n dX3_spreadNow_54 rfl ?_
      refine g_isub dX3_spreadNow_55 ?_
      refine g_ireturn dX3_spreadNow_56 rfl rfl (by decide) ?_
      exact ⟨by rw [ep, iI_sub], rfl⟩
    · have hlt : j < A.1 := xnl_i c18 (by omega) (by omega)
      have a := s_shr_r hB (t := j) (by omega)
      have en : ∀ x y : Int, pl_mn B (j + 1) = if s_shr B j < pl_mn B j then s_shr B j else pl_mn B j := fun _ _ => by show (if j = 0 then _ else _) = _; rw [if_neg (by omega)]
      have ex : pl_mx B (j + 1) = if pl_mx B j < s_shr B j then s_shr B j else pl_mx B j := by show (if j = 0 then _ else _) = _; rw [if_neg (by omega)]
      refine g_iload_n dX3_spreadNow_21 rfl ?_
      refine g_aload_n dX3_spreadNow_22 rfl ?_
      refine g_getr (q := 185) fX3_27 dX3_spreadNow_23 rfl rfl rfl ?_
      refine g_iload_n dX3_spreadNow_26 rfl ?_
      refine f1_SN (u' := 0) lX3_72 kX5_at (mX5_at (k := 185) rfl (show _ < 8 by omega)) dX3_spreadNow_27 rfl rfl rfl rfl rfl rfl ?_
      refine g_top (hS.2 j hlt).1 ?_
      refine g_min xmin_X3_56 xmin_s xmath_i xmin_c dX3_spreadNow_30 rfl rfl ?_
      refine g_top (y := iI (pl_mn B (j + 1))) (by rw [en 0 0]; by_cases q : s_shr B j < pl_mn B j; rw [if_pos q, if_pos ((iI_lt (by omega) (by omega) (by omega) (by omega)).mpr q)]; rw [if_neg q, if_neg (fun y => q ((iI_lt (by omega) (by omega) (by omega) (by omega)).mp y))]) ?_
      refine s_i (i := 1) dX3_spreadNow_33 rfl rfl rfl rfl ?_
      dsimp only [List.set]
      refine g_iload_n dX3_spreadNow_34 rfl ?_
      refine g_aload_n dX3_spreadNow_35 rfl ?_
      refine g_getr (q := 185) fX3_27 dX3_spreadNow_36 rfl rfl rfl ?_
      refine g_iload_n dX3_spreadNow_39 rfl ?_
      refine f1_SN (u' := 0) lX3_72 kX5_at (mX5_at (k := 185) rfl (show _ < 8 by omega)) dX3_spreadNow_40 rfl rfl rfl rfl rfl rfl ?_
      refine g_top (hS.2 j hlt).1 ?_
      refine g_max xmax_X3_119 xmax_s xmath_i xmax_c dX3_spreadNow_43 rfl rfl ?_
      refine g_top (y := iI (pl_mx B (j + 1))) (by rw [ex]; by_cases q : pl_mx B j < s_shr B j; rw [if_pos q, if_pos ((iI_lt (by omega) (by omega) (by omega) (by omega)).mpr q)]; rw [if_neg q, if_neg (fun y => q ((iI_lt (by omega) (by omega) (by omega) (by omega)).mp y))]) ?_
      refine s_i (i := 2) dX3_spreadNow_46 rfl rfl rfl rfl ?_
      dsimp only [List.set]
      refine s_inc (v := nI (j + 1)) dX3_spreadNow_47 rfl nI_s rfl rfl rfl ?_
      dsimp only [List.set]
      refine g_goto (tgt := 13) dX3_spreadNow_50 (by decide) ?_
      exact ih (j + 1) (by omega) (by omega) (by omega)
