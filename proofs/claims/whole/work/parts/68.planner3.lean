/-! THE CLASS: the planner judges a plan. -/
/-- nothing but the planner's cells has changed -/
def x_frK (h h' : ux_H) : Prop := ∀ k, (k < 179 ∨ 187 < k) → ∀ j, h' k j = h k j
theorem x_frK_rf (h : ux_H) : x_frK h h := fun _ _ _ => rfl
theorem x_frK_tr {h h1 h2 : ux_H} (a : x_frK h h1) (b : x_frK h1 h2) : x_frK h h2 := fun k hk j => (b k hk j).trans (a k hk j)
theorem x_frK_si (h : ux_H) {k : Nat} (j : Nat) (x : Int32) (hk : 179 ≤ k ∧ k ≤ 187) : x_frK h (xsi h k j x) := fun a ha b => by unfold xsi xsv; rw [if_neg (by omega)]
theorem x_frK_gv (h : ux_H) (n t : Nat) (a b : Int) : x_frK h (x_gv h n t a b) := fun k hk j => x_gv_ne h n t a b (by omega)
def x_jd (h : ux_H) (z : Int) (c : Nat) (up : Bool) : ux_H := if up then xsi (xcopy (xsi h 179 11 (iI z)) 183 184 4) 179 10 (nI (c + 1)) else xsi h 179 10 (nI (c + 1))
theorem x_jd_g (h : ux_H) (z : Int) (c : Nat) (up : Bool) {k j : Nat} (hk : k ≠ 184 ∧ ¬ (k = 179 ∧ (j = 10 ∨ j = 11))) : xgi (x_jd h z c up) k j = xgi h k j := by
  unfold x_jd
  split
  · rw [xgi_ne _ _ _ _ _ _ (by omega), xcopy_g, if_neg (by omega), xgi_ne _ _ _ _ _ _ (by omega)]
  · rw [xgi_ne _ _ _ _ _ _ (by omega)]
theorem x_frK_jd (h : ux_H) (z : Int) (c : Nat) (up : Bool) : x_frK h (x_jd h z c up) := by
  intro k hk j
  unfold x_jd
  split
  · rw [x_frK_si _ 10 _ (by decide) k hk j]
    unfold xcopy
    rw [if_neg (by omega)]
    exact x_frK_si _ 11 _ (by decide) k hk j
  · unfold xsi xsv
    rw [if_neg (by omega)]
theorem rPa_jd {n : Nat} {a : pl_A} {B : Ab} {pre : List Nat} {h : ux_H} (ha : rPa n a h) (hp : rPp pre h) (hn : pre.length = n) (h4 : n ≤ 4) : rPa n (pl_jd B pre a) (x_jd h (pl_sp B) a.1 (decide (a.1 = 0 ∨ pl_sp B < a.2.1))) := by
  unfold pl_jd x_jd
  by_cases q : a.1 = 0 ∨ pl_sp B < a.2.1
  · rw [if_pos q, decide_eq_true q, if_pos rfl]
    refine ⟨xgi_si _ _ _ _, ?_, fun _ => ⟨hn, fun k t hk => ?_⟩⟩
    · rw [xgi_ne _ _ _ _ _ _ (by omega), xcopy_g, if_neg (by omega)]; exact xgi_si _ _ _ _
    · have hk4 := (List.getElem?_eq_some_iff.mp hk).1
      rw [xgi_ne _ _ _ _ _ _ (by omega), xcopy_g, if_pos ⟨rfl, by show k < 4; simp only at hk4; omega⟩, xgi_ne _ _ _ _ _ _ (by omega)]
      exact hp k t hk
  · rw [if_neg q, decide_eq_false q, if_neg Bool.false_ne_true]
    refine ⟨xgi_si _ _ _ _, ?_, fun _ => ?_⟩
    · rw [xgi_ne _ _ _ _ _ _ (by omega)]; exact ha.2.1
    · obtain ⟨b1, b2⟩ := ha.2.2 (by omega)
      exact ⟨b1, fun k t hk => by rw [xgi_ne _ _ _ _ _ _ (by omega)]; exact b2 k t hk⟩
theorem pl_sp_r {P : Nat} {B : Ab} (hI : Inv P B) : -240000000 ≤ pl_sp B ∧ pl_sp B ≤ 240000000 := by
  unfold pl_sp
  split
  · omega
  · have a := pl_mx_r hI B.1 (by omega) (Nat.le_refl _)
    have b := pl_mn_r hI B.1 (by omega) (Nat.le_refl _)
    omega
set_option maxRecDepth 100000 in
theorem mX3_judge {l : Launch} {G : ux_G} {h : ux_H} {A B : Ab} {P : Nat} {d : Int} {n : Nat} {a : pl_A} (hB : Inv P B) (ht : B.1 = A.1) (hS : rPs A B d h) (ha : rPa n a h) (hc : a.1 < 1000000) (hz : a.1 ≠ 0 → -240000000 ≤ a.2.1 ∧ a.2.1 ≤ 240000000) : ux_F l G yX3_judge iX3_judge 4 0 [.ref 179] h (none) (x_jd h (pl_sp B) a.1 (decide (a.1 = 0 ∨ pl_sp B < a.2.1))) := by
  unfold ux_F
  refine ux_ent (L' := [some (.ref 179), none]) kX3_judge rfl rfl rfl rfl ?_
  have zr := pl_sp_r hB
  refine g_aload_n dX3_judge_0 rfl ?_
  refine f1_V (u' := 0) lX3_111 kX3_spreadNow (mX3_spreadNow hB ht hS) dX3_judge_1 rfl rfl rfl rfl rfl rfl rfl rfl ?_
  refine s_i (i := 1) dX3_judge_4 rfl rfl rfl rfl ?_
  dsimp only [List.set]
  refine g_aload_n dX3_judge_5 rfl ?_
  refine g_geti fX3_43 dX3_judge_6 rfl rfl ?_
  refine g_top ha.1 ?_
  refine g_if_eq (tgt := 20) dX3_judge_9 (by decide) (fun c9 => ?_) (fun c9 => ?_)
  · rw [nI_iI, xq0 (by omega) (by omega)] at c9
    have qj : a.1 = 0 ∨ pl_sp B < a.2.1 := Or.inl (by omega)
    refine g_aload_n dX3_judge_20 rfl ?_
    refine g_iload_n dX3_judge_21 rfl ?_
    refine g_puti pX3_46 dX3_judge_22 rfl rfl ?_
    refine g_aload_n dX3_judge_25 rfl ?_
    refine g_getr (q := 183) fX3_21 dX3_judge_26 rfl rfl rfl ?_
    refine g_aload_n dX3_judge_29 rfl ?_
    refine g_getr (q := 184) fX3_24 dX3_judge_30 rfl rfl rfl ?_
    refine f0_SN (u' := 0) lX3_115 kX5_copy (mX5_copy (f := 183) (k := 184) rfl rfl rfl (by decide)) dX3_judge_33 rfl rfl rfl rfl rfl rfl ?_
    refine g_aload_n dX3_judge_36 rfl ?_
    refine g_dup dX3_judge_37 rfl ?_
    refine g_geti fX3_43 dX3_judge_38 rfl rfl ?_
    refine g_top (y := nI a.1) (by first | exact ha.1 | (rw [xcopy_g, if_neg (by omega), xgi_ne _ _ _ _ _ _ (by omega)]; exact ha.1)) ?_
    refine g_iconst (v := 1) dX3_judge_41 (by decide) ?_
    refine g_iadd dX3_judge_42 ?_
    refine g_top (nI_1 _) ?_
    refine g_puti pX3_43 dX3_judge_43 rfl rfl ?_
    refine g_return dX3_judge_46 rfl (by decide) ?_
    refine ⟨rfl, ?_⟩
    unfold x_jd
    first
    | (rw [decide_eq_true qj, if_pos rfl]; rfl)
    | (rw [decide_eq_false qx17q, if_neg Bool.false_ne_true])
  · rw [nI_iI, xq0 (by omega) (by omega)] at c9
    have hz2 := hz (by omega)
    refine g_iload_n dX3_judge_12 rfl ?_
    refine g_aload_n dX3_judge_13 rfl ?_
    refine g_geti fX3_46 dX3_judge_14 rfl rfl ?_
    refine g_top ha.2.1 ?_
    refine g_icmp_ge (tgt := 36) dX3_judge_17 (by decide) (fun c17 => ?_) (fun c17 => ?_)
    · rw [iI_le (by omega) (by omega) (by omega) (by omega)] at c17
      have qx17q : ¬ (a.1 = 0 ∨ pl_sp B < a.2.1) := by omega
      refine g_aload_n dX3_judge_36 rfl ?_
      refine g_dup dX3_judge_37 rfl ?_
      refine g_geti fX3_43 dX3_judge_38 rfl rfl ?_
      refine g_top (y := nI a.1) (by first | exact ha.1 | (rw [xcopy_g, if_neg (by omega), xgi_ne _ _ _ _ _ _ (by omega)]; exact ha.1)) ?_
      refine g_iconst (v := 1) dX3_judge_41 (by decide) ?_
      refine g_iadd dX3_judge_42 ?_
      refine g_top (nI_1 _) ?_
      refine g_puti pX3_43 dX3_judge_43 rfl rfl ?_
      refine g_return dX3_judge_46 rfl (by decide) ?_
      refine ⟨rfl, ?_⟩
      unfold x_jd
      first
      | (rw [decide_eq_true qj, if_pos rfl]; rfl)
      | (rw [decide_eq_false qx17q, if_neg Bool.false_ne_true])
    · rw [iI_le (by omega) (by omega) (by omega) (by omega)] at c17
      have qj : a.1 = 0 ∨ pl_sp B < a.2.1 := Or.inr (by omega)
      refine g_aload_n dX3_judge_20 rfl ?_
      refine g_iload_n dX3_judge_21 rfl ?_
      refine g_puti pX3_46 dX3_judge_22 rfl rfl ?_
      refine g_aload_n dX3_judge_25 rfl ?_
      refine g_getr (q := 183) fX3_21 dX3_judge_26 rfl rfl rfl ?_
      refine g_aload_n dX3_judge_29 rfl ?_
      refine g_getr (q := 184) fX3_24 dX3_judge_30 rfl rfl rfl ?_
      refine f0_SN (u' := 0) lX3_115 kX5_copy (mX5_copy (f := 183) (k := 184) rfl rfl rfl (by decide)) dX3_judge_33 rfl rfl rfl rfl rfl rfl ?_
      refine g_aload_n dX3_judge_36 rfl ?_
      refine g_dup dX3_judge_37 rfl ?_
      refine g_geti fX3_43 dX3_judge_38 rfl rfl ?_
      refine g_top (y := nI a.1) (by first | exact ha.1 | (rw [xcopy_g, if_neg (by omega), xgi_ne _ _ _ _ _ _ (by omega)]; exact ha.1)) ?_
      refine g_iconst (v := 1) dX3_judge_41 (by decide) ?_
      refine g_iadd dX3_judge_42 ?_
      refine g_top (nI_1 _) ?_
      refine g_puti pX3_43 dX3_judge_43 rfl rfl ?_
      refine g_return dX3_judge_46 rfl (by decide) ?_
      refine ⟨rfl, ?_⟩
      unfold x_jd
      first
      | (rw [decide_eq_true qj, if_pos rfl]; rfl)
      | (rw [decide_eq_false qx17q, if_neg Bool.false_ne_true])
