/-! THE CLASS: the planner gives a lesson and takes it back. -/
def x_gv (h : ux_H) (n t : Nat) (a b : Int) : ux_H := xsi (xsi (xsi h 183 n (nI t)) 186 t (iI a)) 185 t (iI b)
theorem x_gv_ne (h : ux_H) (n t : Nat) (a b : Int) {k j : Nat} (hk : ¬ (k = 183 ∧ j = n) ∧ k ≠ 185 ∧ k ≠ 186) : x_gv h n t a b k j = h k j := by
  unfold x_gv xsi xsv
  rw [if_neg (by omega), if_neg (by omega), if_neg (by omega)]
theorem x_gv_g (h : ux_H) (n t : Nat) (a b : Int) {k j : Nat} (hk : ¬ (k = 183 ∧ j = n) ∧ k ≠ 185 ∧ k ≠ 186) : xgi (x_gv h n t a b) k j = xgi h k j := by unfold xgi; rw [x_gv_ne h n t a b hk]
theorem x_gv_185 (h : ux_H) (n t : Nat) (a b : Int) (j : Nat) : xgi (x_gv h n t a b) 185 j = if j = t then iI b else xgi h 185 j := by
  unfold x_gv
  rw [xgi_sif]
  by_cases q : j = t
  · rw [if_pos ⟨rfl, q⟩, if_pos q]
  · rw [if_neg (by omega), if_neg q, xgi_ne _ _ _ _ _ _ (by omega), xgi_ne _ _ _ _ _ _ (by omega)]
theorem x_gv_186 (h : ux_H) (n t : Nat) (a b : Int) (j : Nat) : xgi (x_gv h n t a b) 186 j = if j = t then iI a else xgi h 186 j := by
  unfold x_gv
  rw [xgi_ne _ _ _ _ _ _ (by omega), xgi_sif]
  by_cases q : j = t
  · rw [if_pos ⟨rfl, q⟩, if_pos q]
  · rw [if_neg (by omega), if_neg q, xgi_ne _ _ _ _ _ _ (by omega)]
theorem rPs_gv {A B B' : Ab} {d a b : Int} {n t : Nat} {h : ux_H} (hS : rPs A B d h) (ha : a = aF A 3 t - s_con B' t d) (hb : b = s_shr B' t) (ho : ∀ k, k ≠ t → s_con B' k d = s_con B k d ∧ s_shr B' k = s_shr B k) : rPs A B' d (x_gv h n t a b) := by
  refine ⟨(x_gv_g h n t a b (by omega)).trans hS.1, fun k hk => ?_⟩
  rw [x_gv_185, x_gv_186]
  by_cases q : k = t
  · subst q; rw [if_pos rfl, if_pos rfl, ha, hb]; exact ⟨rfl, rfl⟩
  · rw [if_neg q, if_neg q, (ho k q).1, (ho k q).2]; exact hS.2 k hk
theorem rPc_gv {A : Ab} {Ls : List Nat} {n t : Nat} {a b : Int} {h : ux_H} (hc : rPc A Ls h) : rPc A Ls (x_gv h n t a b) := by
  refine ⟨(x_gv_g h n t a b (by omega)).trans hc.1, fun k i hk => ?_⟩
  obtain ⟨c1, c2, c3⟩ := hc.2 k i hk
  refine ⟨(x_gv_g h n t a b (by omega)).trans c1, (x_gv_g h n t a b (by omega)).trans c2, fun u hu => ?_⟩
  rw [x_gv_g h n t a b (k := 182) (by omega), x_gv_g h n t a b (k := 187) (by omega)]
  exact c3 u hu
theorem rPp_gv {pre : List Nat} {t : Nat} {a b : Int} {h : ux_H} (hp : rPp pre h) : rPp (pre ++ [t]) (x_gv h pre.length t a b) := by
  intro k u hu
  by_cases q : k = pre.length
  · subst q
    have e : t = u := by simpa using hu
    unfold x_gv
    rw [xgi_ne _ _ _ _ _ _ (by omega), xgi_ne _ _ _ _ _ _ (by omega), xgi_si, e]
  · have hk : k < pre.length := by
      have := (List.getElem?_eq_some_iff.mp hu).1
      rw [List.length_append, List.length_singleton] at this
      omega
    rw [List.getElem?_append_left hk] at hu
    rw [x_gv_g h pre.length t a b (by omega)]
    exact hp k u hu
theorem rPp_gv0 {pre : List Nat} {t : Nat} {a b : Int} {h : ux_H} (hp : rPp pre h) : rPp pre (x_gv h pre.length t a b) := by
  intro k u hu
  have hk := (List.getElem?_eq_some_iff.mp hu).1
  rw [x_gv_g h pre.length t a b (by omega)]
  exact hp k u hu
theorem rPa_gv {m n t : Nat} {a b : Int} {c : pl_A} {h : ux_H} (hc : rPa m c h) : rPa m c (x_gv h n t a b) := by
  refine ⟨(x_gv_g h n t a b (by omega)).trans hc.1, (x_gv_g h n t a b (by omega)).trans hc.2.1, fun q => ⟨(hc.2.2 q).1, fun k u hu => ?_⟩⟩
  rw [x_gv_g h n t a b (by omega)]
  exact (hc.2.2 q).2 k u hu
set_option maxRecDepth 100000 in
theorem mX3_give {l : Launch} {G : ux_G} {h : ux_H} {n t : Nat} {s c0 s0 w0 : Int} (hn : n < 4) (ht : t < 8) (hc : xgi h 186 t = iI c0) (hs : xgi h 185 t = iI s0) (hw : xgi h 187 (8 * n + t) = iI w0) : ux_F l G yX3_give iX3_give 2 0 [.ref 179, .int (nI n), .int (nI t), .int (iI s)] h (none) (x_gv h n t (c0 - s) (s0 + s * w0)) := by
  unfold ux_F
  refine ux_ent (L' := [some (.ref 179), some (.int (nI n)), some (.int (nI t)), some (.int (iI s))]) kX3_give rfl rfl rfl rfl ?_
  refine g_aload_n dX3_give_0 rfl ?_
  refine g_getr (q := 183) fX3_21 dX3_give_1 rfl rfl rfl ?_
  refine g_iload_n dX3_give_4 rfl ?_
  refine g_iload_n dX3_give_5 rfl ?_
  refine f0_SN (u' := 0) lX3_65 kX5_put (mX5_put (k := 183) rfl (show _ < 4 by omega)) dX3_give_6 rfl rfl rfl rfl rfl rfl ?_
  refine g_aload_n dX3_give_9 rfl ?_
  refine g_getr (q := 186) fX3_30 dX3_give_10 rfl rfl rfl ?_
  refine g_iload_n dX3_give_13 rfl ?_
  refine g_aload_n dX3_give_14 rfl ?_
  refine g_getr (q := 186) fX3_30 dX3_give_15 rfl rfl rfl ?_
  refine g_iload_n dX3_give_18 rfl ?_
  refine f1_SN (u' := 0) lX3_72 kX5_at (mX5_at (k := 186) rfl (show _ < 8 by omega)) dX3_give_19 rfl rfl rfl rfl rfl rfl ?_
  refine g_top (y := iI c0) (by rw [xgi_ne _ _ _ _ _ _ (by omega)]; exact hc) ?_
  refine g_iload_n dX3_give_22 rfl ?_
  refine g_isub dX3_give_23 ?_
  refine g_top (iI_sub _ _) ?_
  refine f0_SN (u' := 0) lX3_65 kX5_put (mX5_put (k := 186) rfl (show _ < 8 by omega)) dX3_give_24 rfl rfl rfl rfl rfl rfl ?_
  refine g_aload_n dX3_give_27 rfl ?_
  refine g_getr (q := 185) fX3_27 dX3_give_28 rfl rfl rfl ?_
  refine g_iload_n dX3_give_31 rfl ?_
  refine g_aload_n dX3_give_32 rfl ?_
  refine g_getr (q := 185) fX3_27 dX3_give_33 rfl rfl rfl ?_
  refine g_iload_n dX3_give_36 rfl ?_
  refine f1_SN (u' := 0) lX3_72 kX5_at (mX5_at (k := 185) rfl (show _ < 8 by omega)) dX3_give_37 rfl rfl rfl rfl rfl rfl ?_
  refine g_top (y := iI s0) (by rw [xgi_ne _ _ _ _ _ _ (by omega), xgi_ne _ _ _ _ _ _ (by omega)]; exact hs) ?_
  refine g_iload_n dX3_give_40 rfl ?_
  refine g_aload_n dX3_give_41 rfl ?_
  refine g_getr (q := 187) fX3_33 dX3_give_42 rfl rfl rfl ?_
  refine g_iload_n dX3_give_45 rfl ?_
  refine g_bipush (v := 8) dX3_give_46 (by decide) ?_
  refine g_imul dX3_give_48 ?_
  refine g_iload_n dX3_give_49 rfl ?_
  refine g_iadd dX3_give_50 ?_
  refine g_top (y := nI (8 * n + t)) (by rw [show (8 : Int32) = nI 8 by decide, pk_mul, nI_add, Nat.mul_comm]) ?_
  refine f1_SN (u' := 0) lX3_72 kX5_at (mX5_at (k := 187) (j := 8 * n + t) rfl (show _ < 32 by omega)) dX3_give_51 rfl rfl rfl rfl rfl rfl ?_
  refine g_top (y := iI w0) (by rw [xgi_ne _ _ _ _ _ _ (by omega), xgi_ne _ _ _ _ _ _ (by omega)]; exact hw) ?_
  refine g_imul dX3_give_54 ?_
  refine g_top (iI_mul _ _) ?_
  refine g_iadd dX3_give_55 ?_
  refine g_top (iI_add _ _) ?_
  refine f0_SN (u' := 0) lX3_65 kX5_put (mX5_put (k := 185) rfl (show _ < 8 by omega)) dX3_give_56 rfl rfl rfl rfl rfl rfl ?_
  refine g_return dX3_give_59 rfl (by decide) ?_
  exact ⟨rfl, rfl⟩
